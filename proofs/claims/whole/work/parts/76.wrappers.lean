/-! the law's own methods: a call, and what it throws caught -/
def q_PN (E : q_E) (av : List Value) (f : q_H) (n : Nat) : Array Value → State → Prop := fun a U => va_Nc "java/lang/IllegalArgumentException" "java/lang/IndexOutOfBoundsException" U ∧ q_P E av f n a U
theorem q_PN.blind {E : q_E} {av : List Value} {f : q_H} {n : Nat} : FrameBlind (q_PN E av f n) := fun a U g mk q => ⟨va_Nc.moved (u := U) (U := U.calling g mk a) (State.WarmedH.refl U).alike q.1, q_P.blind a U g mk q.2⟩
theorem q_pSN {E : q_E} {f : q_H} {n : Nat} {s : State} {H : Heap} {locs : List Loc} {As : List Value} (hN : va_Nc "java/lang/IllegalArgumentException" "java/lang/IndexOutOfBoundsException" s) (hA : q_A E s) (hW : q_W E f n H) (hS : va_S (q_ge E) s.heap H locs) : PreS s H (q_PN E As f n) As := ⟨q_PN.blind, fun U hU hWm => ⟨va_Nc.moved hWm.alike hN, (q_pS (As := As) hA hW hS).2 U hU hWm⟩⟩
abbrev q_XN (E : q_E) : String → State → State → Prop := q_XC E (fun _ _ _ => False)

set_option maxHeartbeats 4000000 in
set_option maxRecDepth 100000 in
theorem kL_feed (l : Launch) (E : q_E) (f : q_H) (n : Nat) (a o : Nat) (z1 z2 z3 z4 z5 z6 : Option Nat) (ep : Int32) (x1 x2 x3 x4 x5 : Int32) (fr c1 s1 lo : Nat) (R : Int32) (Q : q_H → Nat → Prop) (og : Nat → Int64) (hX : f a = some (rX12 z1 z2 z3 z4 z5 z6 ep)) (hM : Met l yX12_feed wsX12_feed ({ frames := fr, cells := c1, slots := s1, locals := lo }) (q_P E [.ref a, .int x1, .int x2, .int x3, .int x4, .int x5] f n) (q_Qi E (fun r f1 n1 => R = r ∧ Q f1 n1)) c1 s1 (q_ge E)) (hQ : ∀ f1 n1, Q f1 n1 → f1 o = some (aJ E 1 og)) : vx_Met l yL_feed wsL_feed ({ frames := fr + 1, cells := c1, slots := s1, locals := lo + 25 }) (q_PN E [.ref a, .int x1, .int x2, .int x3, .int x4, .int x5, .ref o] f n) (q_Qi E (fun r0 f1 n1 => 0 = r0 ∧ ∃ f9, Q f9 n1 ∧ va_up f9 o (some (aJ E 1 (vp_updL og 0 R.toInt64))) = f1)) (q_XN E) c1 s1 (q_ge E) := by
  refine vx_ofWH (cc := cL_feed) (maxL := 8) (hh := [(0, 16, 19, 13)]) (ret := (some .int)) (by decide) rfl ?_
  intro p e s m args below meth c s₁ B hml hv
  obtain ⟨hNc, rfl, hA, hW⟩ := hv
  have hx := B.exec
  have hb := B.bytes
  have hr := B.returns
  have hts := atoms_spec (ws := wsL_feed) B.pre
  have hown : s.vm.findClass RL = some m.cls := findClass_of_methodNamed B.named
  have htab : c.exceptionTable.toList = tableOf [(0, 16, 19, 13)] := vx_table (x := yL_feed) B (hts _ List.mem_cons_self)
  have hlocks := B.notSynchronized
  have hS : va_S (q_ge E) s.heap s.heap [] := va_S.rf
  have hl := lv_entry ([.ref a, .int x1, .int x2, .int x3, .int x4, .int x5, .ref o]) (n := 8) (Nat.le_of_ble_eq_true rfl)
  rw [lg_entry_eq]
  generalize (lg_sl ([.ref a, .int x1, .int x2, .int x3, .int x4, .int x5, .ref o]) ++ List.replicate (8 - (lg_sl ([.ref a, .int x1, .int x2, .int x3, .int x4, .int x5, .ref o])).length) Slot.unset).toArray = ls at hl ⊢
  have hl : lv_has ls 8 [(0, .ref a), (1, .int x1), (2, .int x2), (3, .int x3), (4, .int x4), (5, .int x5), (6, .ref o)] := hl
  refine lv_aload hx hb dL_feed_0 (lv_at hl 6 rfl) ?_
  refine lv_iconst (v := 0) hx hb dL_feed_2 (by decide) ?_
  refine lv_aload_n hx hb dL_feed_3 rfl (lv_at hl 0 rfl) ?_
  refine lv_iload_n hx hb dL_feed_4 rfl (lv_at hl 1 rfl) ?_
  refine lv_iload_n hx hb dL_feed_5 rfl (lv_at hl 2 rfl) ?_
  refine lv_iload_n hx hb dL_feed_6 rfl (lv_at hl 3 rfl) ?_
  refine lv_iload hx hb dL_feed_7 (lv_at hl 4 rfl) ?_
  refine lv_iload hx hb dL_feed_9 (lv_at hl 5 rfl) ?_
  refine q_ci (va_runV (As := [.int x1, .int x2, .int x3, .int x4, .int x5]) (rest := [.int 0, .ref o]) ⟨hx, hb, hml, hown, hts⟩ (hM) (cwV 5 hts gL_feed_X12_feed rfl rfl rfl (by decide +kernel) ⟨(by show fr + 1 ≤ fr + 1; omega), (by show 8 + (6 + 11) + lo ≤ lo + 25; omega)⟩) (q_pV hA hW hS (ci := 10) rfl hX) rfl rfl hl.1 rfl (lv_room (Nat.le_of_ble_eq_true rfl)) dL_feed_11 ⟨(by show 0 + c1 ≤ c1; omega), (by show 0 + s1 ≤ s1; omega)⟩) hS (fun r_11 f_11 n_11 H locs hp hW hS => ?_)
  obtain ⟨rfl, hq⟩ := hp
  refine lv_i2l hx hb dL_feed_14 rfl ?_
  refine q_last hx hb hA hW hS (hQ _ _ hq) (show vp_in (nI 0) 1 from vp_in_nI (by decide) (by decide)) dL_feed_15 (fun H locs hW hS => ?_)
  rw [show (0 : Int32).toNatClampNeg = 0 from rfl] at hW
  have hW : q_W E (va_up f_11 o (some (aJ E 1 (vp_updL og 0 R.toInt64)))) n_11 H := hW
  refine lv_goto (tgt := 23) hx hb dL_feed_16 (by decide) ?_
  refine lv_iconst (v := 0) hx hb dL_feed_23 (by decide) ?_
  exact vx_ret (q_iret hx hb hr hlocks hW hS ⟨rfl, _, hq, rfl⟩ (by omega) (by omega) dL_feed_24)

set_option maxHeartbeats 4000000 in
set_option maxRecDepth 100000 in
theorem kL_feed_X (l : Launch) (E : q_E) (f : q_H) (n : Nat) (a o : Nat) (z1 z2 z3 z4 z5 z6 : Option Nat) (ep : Int32) (x1 x2 x3 x4 x5 : Int32) (fr c1 s1 lo : Nat) (hX : f a = some (rX12 z1 z2 z3 z4 z5 z6 ep)) (hM : vx_Met l yX12_feed wsX12_feed ({ frames := fr, cells := c1, slots := s1, locals := lo }) (q_P E [.ref a, .int x1, .int x2, .int x3, .int x4, .int x5] f n) (q_Qi E (fun _ _ _ => False)) (q_XC E (fun C f1 n1 => C = "java/lang/IllegalStateException" ∧ f = f1 ∧ n ≤ n1)) c1 s1 (q_ge E)) : vx_Met l yL_feed wsL_feed ({ frames := fr + 1, cells := c1, slots := s1, locals := lo + 25 }) (q_PN E [.ref a, .int x1, .int x2, .int x3, .int x4, .int x5, .ref o] f n) (q_Qi E (fun r0 f1 n1 => 1 = r0 ∧ f = f1 ∧ n ≤ n1)) (q_XN E) c1 s1 (q_ge E) := by
  refine vx_ofWH (cc := cL_feed) (maxL := 8) (hh := [(0, 16, 19, 13)]) (ret := (some .int)) (by decide) rfl ?_
  intro p e s m args below meth c s₁ B hml hv
  obtain ⟨hNc, rfl, hA, hW⟩ := hv
  have hx := B.exec
  have hb := B.bytes
  have hr := B.returns
  have hts := atoms_spec (ws := wsL_feed) B.pre
  have hown : s.vm.findClass RL = some m.cls := findClass_of_methodNamed B.named
  have htab : c.exceptionTable.toList = tableOf [(0, 16, 19, 13)] := vx_table (x := yL_feed) B (hts _ List.mem_cons_self)
  have hlocks := B.notSynchronized
  have hS : va_S (q_ge E) s.heap s.heap [] := va_S.rf
  have hl := lv_entry ([.ref a, .int x1, .int x2, .int x3, .int x4, .int x5, .ref o]) (n := 8) (Nat.le_of_ble_eq_true rfl)
  rw [lg_entry_eq]
  generalize (lg_sl ([.ref a, .int x1, .int x2, .int x3, .int x4, .int x5, .ref o]) ++ List.replicate (8 - (lg_sl ([.ref a, .int x1, .int x2, .int x3, .int x4, .int x5, .ref o])).length) Slot.unset).toArray = ls at hl ⊢
  have hl : lv_has ls 8 [(0, .ref a), (1, .int x1), (2, .int x2), (3, .int x3), (4, .int x4), (5, .int x5), (6, .ref o)] := hl
  refine lv_aload hx hb dL_feed_0 (lv_at hl 6 rfl) ?_
  refine lv_iconst (v := 0) hx hb dL_feed_2 (by decide) ?_
  refine lv_aload_n hx hb dL_feed_3 rfl (lv_at hl 0 rfl) ?_
  refine lv_iload_n hx hb dL_feed_4 rfl (lv_at hl 1 rfl) ?_
  refine lv_iload_n hx hb dL_feed_5 rfl (lv_at hl 2 rfl) ?_
  refine lv_iload_n hx hb dL_feed_6 rfl (lv_at hl 3 rfl) ?_
  refine lv_iload hx hb dL_feed_7 (lv_at hl 4 rfl) ?_
  refine lv_iload hx hb dL_feed_9 (lv_at hl 5 rfl) ?_
  refine q_xi (vx_runV (As := [.int x1, .int x2, .int x3, .int x4, .int x5]) (rest := [.int 0, .ref o]) ⟨hx, hb, hml, hown, hts⟩ (hM) (cwV 5 hts gL_feed_X12_feed rfl rfl rfl (by decide +kernel) ⟨(by show fr + 1 ≤ fr + 1; omega), (by show 8 + (6 + 11) + lo ≤ lo + 25; omega)⟩) (q_pV hA hW hS (ci := 10) rfl hX) rfl rfl hl.1 rfl (lv_room (Nat.le_of_ble_eq_true rfl)) dL_feed_11 ⟨(by show 0 + c1 ≤ c1; omega), (by show 0 + s1 ≤ s1; omega)⟩) hS (fun C9 ce9 q9 f9 n9 H locs hp hW hS h91 h92 h93 => ?_) (fun r_11 f_11 n_11 H locs hp hW hS => hp.elim)
  obtain ⟨rfl, rfl, h94⟩ := hp
  refine vx_catch (own := RL) (name := "java/lang/IllegalStateException") hown [] ⟨0, 16, 19, 13⟩ [] htab (fun z hz => nomatch hz) (by decide) (by decide) (hts (.classLink RL 13 "java/lang/IllegalStateException") (by decide +kernel)) (va_Nw.use rfl (hA.2.2.2.2.2.2.1 ("java/lang/IllegalStateException", "java/lang/IllegalStateException") (by decide +kernel))) h91 h92 h93 ?_
  refine lv_astore (lv' := [(7, .ref q9), (0, .ref a), (1, .int x1), (2, .int x2), (3, .int x3), (4, .int x4), (5, .int x5), (6, .ref o)]) hx hb dL_feed_19 hl (by decide) rfl (fun ls hl => ?_)
  refine lv_iconst (v := 1) hx hb dL_feed_21 (by decide) ?_
  exact vx_ret (q_iret hx hb hr hlocks hW hS ⟨rfl, rfl, h94⟩ (by omega) (by omega) dL_feed_22)

set_option maxHeartbeats 4000000 in
set_option maxRecDepth 100000 in
theorem kL_trim (l : Launch) (E : q_E) (f : q_H) (n : Nat) (a o : Nat) (z1 z2 z3 z4 z5 z6 : Option Nat) (ep : Int32) (x1 : Int32) (fr c1 s1 lo : Nat) (R : Int32) (Q : q_H → Nat → Prop) (og : Nat → Int64) (hX : f a = some (rX12 z1 z2 z3 z4 z5 z6 ep)) (hM : Met l yX12_trim wsX12_trim ({ frames := fr, cells := c1, slots := s1, locals := lo }) (q_P E [.ref a, .int x1] f n) (q_Qi E (fun r f1 n1 => R = r ∧ Q f1 n1)) c1 s1 (q_ge E)) (hQ : ∀ f1 n1, Q f1 n1 → f1 o = some (aJ E 1 og)) : vx_Met l yL_trim wsL_trim ({ frames := fr + 1, cells := c1, slots := s1, locals := lo + 21 }) (q_PN E [.ref a, .int x1, .ref o] f n) (q_Qi E (fun r0 f1 n1 => 0 = r0 ∧ ∃ f9, Q f9 n1 ∧ va_up f9 o (some (aJ E 1 (vp_updL og 0 R.toInt64))) = f1)) (q_XN E) c1 s1 (q_ge E) := by
  refine vx_ofWH (cc := cL_trim) (maxL := 4) (hh := [(0, 9, 12, 19)]) (ret := (some .int)) (by decide) rfl ?_
  intro p e s m args below meth c s₁ B hml hv
  obtain ⟨hNc, rfl, hA, hW⟩ := hv
  have hx := B.exec
  have hb := B.bytes
  have hr := B.returns
  have hts := atoms_spec (ws := wsL_trim) B.pre
  have hown : s.vm.findClass RL = some m.cls := findClass_of_methodNamed B.named
  have htab : c.exceptionTable.toList = tableOf [(0, 9, 12, 19)] := vx_table (x := yL_trim) B (hts _ List.mem_cons_self)
  have hlocks := B.notSynchronized
  have hS : va_S (q_ge E) s.heap s.heap [] := va_S.rf
  have hl := lv_entry ([.ref a, .int x1, .ref o]) (n := 4) (Nat.le_of_ble_eq_true rfl)
  rw [lg_entry_eq]
  generalize (lg_sl ([.ref a, .int x1, .ref o]) ++ List.replicate (4 - (lg_sl ([.ref a, .int x1, .ref o])).length) Slot.unset).toArray = ls at hl ⊢
  have hl : lv_has ls 4 [(0, .ref a), (1, .int x1), (2, .ref o)] := hl
  refine lv_aload_n hx hb dL_trim_0 rfl (lv_at hl 2 rfl) ?_
  refine lv_iconst (v := 0) hx hb dL_trim_1 (by decide) ?_
  refine lv_aload_n hx hb dL_trim_2 rfl (lv_at hl 0 rfl) ?_
  refine lv_iload_n hx hb dL_trim_3 rfl (lv_at hl 1 rfl) ?_
  refine q_ci (va_runV (As := [.int x1]) (rest := [.int 0, .ref o]) ⟨hx, hb, hml, hown, hts⟩ (hM) (cwV 1 hts gL_trim_X12_trim rfl rfl rfl (by decide +kernel) ⟨(by show fr + 1 ≤ fr + 1; omega), (by show 8 + (2 + 11) + lo ≤ lo + 21; omega)⟩) (q_pV hA hW hS (ci := 10) rfl hX) rfl rfl hl.1 rfl (lv_room (Nat.le_of_ble_eq_true rfl)) dL_trim_4 ⟨(by show 0 + c1 ≤ c1; omega), (by show 0 + s1 ≤ s1; omega)⟩) hS (fun r_4 f_4 n_4 H locs hp hW hS => ?_)
  obtain ⟨rfl, hq⟩ := hp
  refine lv_i2l hx hb dL_trim_7 rfl ?_
  refine q_last hx hb hA hW hS (hQ _ _ hq) (show vp_in (nI 0) 1 from vp_in_nI (by decide) (by decide)) dL_trim_8 (fun H locs hW hS => ?_)
  rw [show (0 : Int32).toNatClampNeg = 0 from rfl] at hW
  have hW : q_W E (va_up f_4 o (some (aJ E 1 (vp_updL og 0 R.toInt64)))) n_4 H := hW
  refine lv_goto (tgt := 15) hx hb dL_trim_9 (by decide) ?_
  refine lv_iconst (v := 0) hx hb dL_trim_15 (by decide) ?_
  exact vx_ret (q_iret hx hb hr hlocks hW hS ⟨rfl, _, hq, rfl⟩ (by omega) (by omega) dL_trim_16)

set_option maxHeartbeats 4000000 in
set_option maxRecDepth 100000 in
theorem kL_trim_X (l : Launch) (E : q_E) (f : q_H) (n : Nat) (a o : Nat) (z1 z2 z3 z4 z5 z6 : Option Nat) (ep : Int32) (x1 : Int32) (fr c1 s1 lo : Nat) (hX : f a = some (rX12 z1 z2 z3 z4 z5 z6 ep)) (hM : vx_Met l yX12_trim wsX12_trim ({ frames := fr, cells := c1, slots := s1, locals := lo }) (q_P E [.ref a, .int x1] f n) (q_Qi E (fun _ _ _ => False)) (q_XC E (fun C f1 n1 => C = "java/lang/IllegalArgumentException" ∧ f = f1 ∧ n ≤ n1)) c1 s1 (q_ge E)) : vx_Met l yL_trim wsL_trim ({ frames := fr + 1, cells := c1, slots := s1, locals := lo + 21 }) (q_PN E [.ref a, .int x1, .ref o] f n) (q_Qi E (fun r0 f1 n1 => 1 = r0 ∧ f = f1 ∧ n ≤ n1)) (q_XN E) c1 s1 (q_ge E) := by
  refine vx_ofWH (cc := cL_trim) (maxL := 4) (hh := [(0, 9, 12, 19)]) (ret := (some .int)) (by decide) rfl ?_
  intro p e s m args below meth c s₁ B hml hv
  obtain ⟨hNc, rfl, hA, hW⟩ := hv
  have hx := B.exec
  have hb := B.bytes
  have hr := B.returns
  have hts := atoms_spec (ws := wsL_trim) B.pre
  have hown : s.vm.findClass RL = some m.cls := findClass_of_methodNamed B.named
  have htab : c.exceptionTable.toList = tableOf [(0, 9, 12, 19)] := vx_table (x := yL_trim) B (hts _ List.mem_cons_self)
  have hlocks := B.notSynchronized
  have hS : va_S (q_ge E) s.heap s.heap [] := va_S.rf
  have hl := lv_entry ([.ref a, .int x1, .ref o]) (n := 4) (Nat.le_of_ble_eq_true rfl)
  rw [lg_entry_eq]
  generalize (lg_sl ([.ref a, .int x1, .ref o]) ++ List.replicate (4 - (lg_sl ([.ref a, .int x1, .ref o])).length) Slot.unset).toArray = ls at hl ⊢
  have hl : lv_has ls 4 [(0, .ref a), (1, .int x1), (2, .ref o)] := hl
  refine lv_aload_n hx hb dL_trim_0 rfl (lv_at hl 2 rfl) ?_
  refine lv_iconst (v := 0) hx hb dL_trim_1 (by decide) ?_
  refine lv_aload_n hx hb dL_trim_2 rfl (lv_at hl 0 rfl) ?_
  refine lv_iload_n hx hb dL_trim_3 rfl (lv_at hl 1 rfl) ?_
  refine q_xi (vx_runV (As := [.int x1]) (rest := [.int 0, .ref o]) ⟨hx, hb, hml, hown, hts⟩ (hM) (cwV 1 hts gL_trim_X12_trim rfl rfl rfl (by decide +kernel) ⟨(by show fr + 1 ≤ fr + 1; omega), (by show 8 + (2 + 11) + lo ≤ lo + 21; omega)⟩) (q_pV hA hW hS (ci := 10) rfl hX) rfl rfl hl.1 rfl (lv_room (Nat.le_of_ble_eq_true rfl)) dL_trim_4 ⟨(by show 0 + c1 ≤ c1; omega), (by show 0 + s1 ≤ s1; omega)⟩) hS (fun C9 ce9 q9 f9 n9 H locs hp hW hS h91 h92 h93 => ?_) (fun r_4 f_4 n_4 H locs hp hW hS => hp.elim)
  obtain ⟨rfl, rfl, h94⟩ := hp
  refine vx_catch (own := RL) (name := "java/lang/IllegalArgumentException") hown [] ⟨0, 9, 12, 19⟩ [] htab (fun z hz => nomatch hz) (by decide) (by decide) (hts (.classLink RL 19 "java/lang/IllegalArgumentException") (by decide +kernel)) (va_Nw.use rfl (hA.2.2.2.2.2.2.1 ("java/lang/IllegalArgumentException", "java/lang/IllegalArgumentException") (by decide +kernel))) h91 h92 h93 ?_
  refine lv_astore_n (lv' := [(3, .ref q9), (0, .ref a), (1, .int x1), (2, .ref o)]) hx hb dL_trim_12 rfl hl (by decide) rfl (fun ls hl => ?_)
  refine lv_iconst (v := 1) hx hb dL_trim_13 (by decide) ?_
  exact vx_ret (q_iret hx hb hr hlocks hW hS ⟨rfl, rfl, h94⟩ (by omega) (by omega) dL_trim_14)

set_option maxHeartbeats 4000000 in
set_option maxRecDepth 100000 in
theorem kL_holdsOf (l : Launch) (E : q_E) (f : q_H) (n : Nat) (a o : Nat) (z1 z2 z3 z4 z5 z6 : Option Nat) (ep : Int32) (x1 : Int32) (fr c1 s1 lo : Nat) (R : Int32) (Q : q_H → Nat → Prop) (og : Nat → Int64) (hX : f a = some (rX12 z1 z2 z3 z4 z5 z6 ep)) (hM : Met l yX12_holdsOf wsX12_holdsOf ({ frames := fr, cells := c1, slots := s1, locals := lo }) (q_P E [.ref a, .int x1] f n) (q_Qi E (fun r f1 n1 => R = r ∧ Q f1 n1)) c1 s1 (q_ge E)) (hQ : ∀ f1 n1, Q f1 n1 → f1 o = some (aJ E 1 og)) : vx_Met l yL_holdsOf wsL_holdsOf ({ frames := fr + 1, cells := c1, slots := s1, locals := lo + 21 }) (q_PN E [.ref a, .int x1, .ref o] f n) (q_Qi E (fun r0 f1 n1 => 0 = r0 ∧ ∃ f9, Q f9 n1 ∧ va_up f9 o (some (aJ E 1 (vp_updL og 0 R.toInt64))) = f1)) (q_XN E) c1 s1 (q_ge E) := by
  refine vx_ofWH (cc := cL_holdsOf) (maxL := 4) (hh := [(0, 9, 12, 24)]) (ret := (some .int)) (by decide) rfl ?_
  intro p e s m args below meth c s₁ B hml hv
  obtain ⟨hNc, rfl, hA, hW⟩ := hv
  have hx := B.exec
  have hb := B.bytes
  have hr := B.returns
  have hts := atoms_spec (ws := wsL_holdsOf) B.pre
  have hown : s.vm.findClass RL = some m.cls := findClass_of_methodNamed B.named
  have htab : c.exceptionTable.toList = tableOf [(0, 9, 12, 24)] := vx_table (x := yL_holdsOf) B (hts _ List.mem_cons_self)
  have hlocks := B.notSynchronized
  have hS : va_S (q_ge E) s.heap s.heap [] := va_S.rf
  have hl := lv_entry ([.ref a, .int x1, .ref o]) (n := 4) (Nat.le_of_ble_eq_true rfl)
  rw [lg_entry_eq]
  generalize (lg_sl ([.ref a, .int x1, .ref o]) ++ List.replicate (4 - (lg_sl ([.ref a, .int x1, .ref o])).length) Slot.unset).toArray = ls at hl ⊢
  have hl : lv_has ls 4 [(0, .ref a), (1, .int x1), (2, .ref o)] := hl
  refine lv_aload_n hx hb dL_holdsOf_0 rfl (lv_at hl 2 rfl) ?_
  refine lv_iconst (v := 0) hx hb dL_holdsOf_1 (by decide) ?_
  refine lv_aload_n hx hb dL_holdsOf_2 rfl (lv_at hl 0 rfl) ?_
  refine lv_iload_n hx hb dL_holdsOf_3 rfl (lv_at hl 1 rfl) ?_
  refine q_ci (va_runV (As := [.int x1]) (rest := [.int 0, .ref o]) ⟨hx, hb, hml, hown, hts⟩ (hM) (cwV 1 hts gL_holdsOf_X12_holdsOf rfl rfl rfl (by decide +kernel) ⟨(by show fr + 1 ≤ fr + 1; omega), (by show 8 + (2 + 11) + lo ≤ lo + 21; omega)⟩) (q_pV hA hW hS (ci := 10) rfl hX) rfl rfl hl.1 rfl (lv_room (Nat.le_of_ble_eq_true rfl)) dL_holdsOf_4 ⟨(by show 0 + c1 ≤ c1; omega), (by show 0 + s1 ≤ s1; omega)⟩) hS (fun r_4 f_4 n_4 H locs hp hW hS => ?_)
  obtain ⟨rfl, hq⟩ := hp
  refine lv_i2l hx hb dL_holdsOf_7 rfl ?_
  refine q_last hx hb hA hW hS (hQ _ _ hq) (show vp_in (nI 0) 1 from vp_in_nI (by decide) (by decide)) dL_holdsOf_8 (fun H locs hW hS => ?_)
  rw [show (0 : Int32).toNatClampNeg = 0 from rfl] at hW
  have hW : q_W E (va_up f_4 o (some (aJ E 1 (vp_updL og 0 R.toInt64)))) n_4 H := hW
  refine lv_goto (tgt := 15) hx hb dL_holdsOf_9 (by decide) ?_
  refine lv_iconst (v := 0) hx hb dL_holdsOf_15 (by decide) ?_
  exact vx_ret (q_iret hx hb hr hlocks hW hS ⟨rfl, _, hq, rfl⟩ (by omega) (by omega) dL_holdsOf_16)

set_option maxHeartbeats 4000000 in
set_option maxRecDepth 100000 in
theorem kL_holdsOf_X (l : Launch) (E : q_E) (f : q_H) (n : Nat) (a o : Nat) (z1 z2 z3 z4 z5 z6 : Option Nat) (ep : Int32) (x1 : Int32) (fr c1 s1 lo : Nat) (hX : f a = some (rX12 z1 z2 z3 z4 z5 z6 ep)) (hM : vx_Met l yX12_holdsOf wsX12_holdsOf ({ frames := fr, cells := c1, slots := s1, locals := lo }) (q_P E [.ref a, .int x1] f n) (q_Qi E (fun _ _ _ => False)) (q_XC E (fun C f1 n1 => C = "java/lang/IndexOutOfBoundsException" ∧ f = f1 ∧ n ≤ n1)) c1 s1 (q_ge E)) : vx_Met l yL_holdsOf wsL_holdsOf ({ frames := fr + 1, cells := c1, slots := s1, locals := lo + 21 }) (q_PN E [.ref a, .int x1, .ref o] f n) (q_Qi E (fun r0 f1 n1 => 1 = r0 ∧ f = f1 ∧ n ≤ n1)) (q_XN E) c1 s1 (q_ge E) := by
  refine vx_ofWH (cc := cL_holdsOf) (maxL := 4) (hh := [(0, 9, 12, 24)]) (ret := (some .int)) (by decide) rfl ?_
  intro p e s m args below meth c s₁ B hml hv
  obtain ⟨hNc, rfl, hA, hW⟩ := hv
  have hx := B.exec
  have hb := B.bytes
  have hr := B.returns
  have hts := atoms_spec (ws := wsL_holdsOf) B.pre
  have hown : s.vm.findClass RL = some m.cls := findClass_of_methodNamed B.named
  have htab : c.exceptionTable.toList = tableOf [(0, 9, 12, 24)] := vx_table (x := yL_holdsOf) B (hts _ List.mem_cons_self)
  have hlocks := B.notSynchronized
  have hS : va_S (q_ge E) s.heap s.heap [] := va_S.rf
  have hl := lv_entry ([.ref a, .int x1, .ref o]) (n := 4) (Nat.le_of_ble_eq_true rfl)
  rw [lg_entry_eq]
  generalize (lg_sl ([.ref a, .int x1, .ref o]) ++ List.replicate (4 - (lg_sl ([.ref a, .int x1, .ref o])).length) Slot.unset).toArray = ls at hl ⊢
  have hl : lv_has ls 4 [(0, .ref a), (1, .int x1), (2, .ref o)] := hl
  refine lv_aload_n hx hb dL_holdsOf_0 rfl (lv_at hl 2 rfl) ?_
  refine lv_iconst (v := 0) hx hb dL_holdsOf_1 (by decide) ?_
  refine lv_aload_n hx hb dL_holdsOf_2 rfl (lv_at hl 0 rfl) ?_
  refine lv_iload_n hx hb dL_holdsOf_3 rfl (lv_at hl 1 rfl) ?_
  refine q_xi (vx_runV (As := [.int x1]) (rest := [.int 0, .ref o]) ⟨hx, hb, hml, hown, hts⟩ (hM) (cwV 1 hts gL_holdsOf_X12_holdsOf rfl rfl rfl (by decide +kernel) ⟨(by show fr + 1 ≤ fr + 1; omega), (by show 8 + (2 + 11) + lo ≤ lo + 21; omega)⟩) (q_pV hA hW hS (ci := 10) rfl hX) rfl rfl hl.1 rfl (lv_room (Nat.le_of_ble_eq_true rfl)) dL_holdsOf_4 ⟨(by show 0 + c1 ≤ c1; omega), (by show 0 + s1 ≤ s1; omega)⟩) hS (fun C9 ce9 q9 f9 n9 H locs hp hW hS h91 h92 h93 => ?_) (fun r_4 f_4 n_4 H locs hp hW hS => hp.elim)
  obtain ⟨rfl, rfl, h94⟩ := hp
  refine vx_catch (own := RL) (name := "java/lang/IndexOutOfBoundsException") hown [] ⟨0, 9, 12, 24⟩ [] htab (fun z hz => nomatch hz) (by decide) (by decide) (hts (.classLink RL 24 "java/lang/IndexOutOfBoundsException") (by decide +kernel)) (va_Nw.use rfl (hA.2.2.2.2.2.2.1 ("java/lang/IndexOutOfBoundsException", "java/lang/IndexOutOfBoundsException") (by decide +kernel))) h91 h92 h93 ?_
  refine lv_astore_n (lv' := [(3, .ref q9), (0, .ref a), (1, .int x1), (2, .ref o)]) hx hb dL_holdsOf_12 rfl hl (by decide) rfl (fun ls hl => ?_)
  refine lv_iconst (v := 1) hx hb dL_holdsOf_13 (by decide) ?_
  exact vx_ret (q_iret hx hb hr hlocks hW hS ⟨rfl, rfl, h94⟩ (by omega) (by omega) dL_holdsOf_14)

set_option maxHeartbeats 4000000 in
set_option maxRecDepth 100000 in
theorem kL_waterIn (l : Launch) (E : q_E) (f : q_H) (n : Nat) (a o : Nat) (z1 z2 z3 z4 z5 z6 : Option Nat) (ep : Int32) (x1 : Int32) (fr c1 s1 lo : Nat) (R : Int32) (Q : q_H → Nat → Prop) (og : Nat → Int64) (hX : f a = some (rX12 z1 z2 z3 z4 z5 z6 ep)) (hM : Met l yX12_waterIn wsX12_waterIn ({ frames := fr, cells := c1, slots := s1, locals := lo }) (q_P E [.ref a, .int x1] f n) (q_Qi E (fun r f1 n1 => R = r ∧ Q f1 n1)) c1 s1 (q_ge E)) (hQ : ∀ f1 n1, Q f1 n1 → f1 o = some (aJ E 1 og)) : vx_Met l yL_waterIn wsL_waterIn ({ frames := fr + 1, cells := c1, slots := s1, locals := lo + 21 }) (q_PN E [.ref a, .int x1, .ref o] f n) (q_Qi E (fun r0 f1 n1 => 0 = r0 ∧ ∃ f9, Q f9 n1 ∧ va_up f9 o (some (aJ E 1 (vp_updL og 0 R.toInt64))) = f1)) (q_XN E) c1 s1 (q_ge E) := by
  refine vx_ofWH (cc := cL_waterIn) (maxL := 4) (hh := [(0, 9, 12, 24)]) (ret := (some .int)) (by decide) rfl ?_
  intro p e s m args below meth c s₁ B hml hv
  obtain ⟨hNc, rfl, hA, hW⟩ := hv
  have hx := B.exec
  have hb := B.bytes
  have hr := B.returns
  have hts := atoms_spec (ws := wsL_waterIn) B.pre
  have hown : s.vm.findClass RL = some m.cls := findClass_of_methodNamed B.named
  have htab : c.exceptionTable.toList = tableOf [(0, 9, 12, 24)] := vx_table (x := yL_waterIn) B (hts _ List.mem_cons_self)
  have hlocks := B.notSynchronized
  have hS : va_S (q_ge E) s.heap s.heap [] := va_S.rf
  have hl := lv_entry ([.ref a, .int x1, .ref o]) (n := 4) (Nat.le_of_ble_eq_true rfl)
  rw [lg_entry_eq]
  generalize (lg_sl ([.ref a, .int x1, .ref o]) ++ List.replicate (4 - (lg_sl ([.ref a, .int x1, .ref o])).length) Slot.unset).toArray = ls at hl ⊢
  have hl : lv_has ls 4 [(0, .ref a), (1, .int x1), (2, .ref o)] := hl
  refine lv_aload_n hx hb dL_waterIn_0 rfl (lv_at hl 2 rfl) ?_
  refine lv_iconst (v := 0) hx hb dL_waterIn_1 (by decide) ?_
  refine lv_aload_n hx hb dL_waterIn_2 rfl (lv_at hl 0 rfl) ?_
  refine lv_iload_n hx hb dL_waterIn_3 rfl (lv_at hl 1 rfl) ?_
  refine q_ci (va_runV (As := [.int x1]) (rest := [.int 0, .ref o]) ⟨hx, hb, hml, hown, hts⟩ (hM) (cwV 1 hts gL_waterIn_X12_waterIn rfl rfl rfl (by decide +kernel) ⟨(by show fr + 1 ≤ fr + 1; omega), (by show 8 + (2 + 11) + lo ≤ lo + 21; omega)⟩) (q_pV hA hW hS (ci := 10) rfl hX) rfl rfl hl.1 rfl (lv_room (Nat.le_of_ble_eq_true rfl)) dL_waterIn_4 ⟨(by show 0 + c1 ≤ c1; omega), (by show 0 + s1 ≤ s1; omega)⟩) hS (fun r_4 f_4 n_4 H locs hp hW hS => ?_)
  obtain ⟨rfl, hq⟩ := hp
  refine lv_i2l hx hb dL_waterIn_7 rfl ?_
  refine q_last hx hb hA hW hS (hQ _ _ hq) (show vp_in (nI 0) 1 from vp_in_nI (by decide) (by decide)) dL_waterIn_8 (fun H locs hW hS => ?_)
  rw [show (0 : Int32).toNatClampNeg = 0 from rfl] at hW
  have hW : q_W E (va_up f_4 o (some (aJ E 1 (vp_updL og 0 R.toInt64)))) n_4 H := hW
  refine lv_goto (tgt := 15) hx hb dL_waterIn_9 (by decide) ?_
  refine lv_iconst (v := 0) hx hb dL_waterIn_15 (by decide) ?_
  exact vx_ret (q_iret hx hb hr hlocks hW hS ⟨rfl, _, hq, rfl⟩ (by omega) (by omega) dL_waterIn_16)

set_option maxHeartbeats 4000000 in
set_option maxRecDepth 100000 in
theorem kL_waterIn_X (l : Launch) (E : q_E) (f : q_H) (n : Nat) (a o : Nat) (z1 z2 z3 z4 z5 z6 : Option Nat) (ep : Int32) (x1 : Int32) (fr c1 s1 lo : Nat) (hX : f a = some (rX12 z1 z2 z3 z4 z5 z6 ep)) (hM : vx_Met l yX12_waterIn wsX12_waterIn ({ frames := fr, cells := c1, slots := s1, locals := lo }) (q_P E [.ref a, .int x1] f n) (q_Qi E (fun _ _ _ => False)) (q_XC E (fun C f1 n1 => C = "java/lang/IndexOutOfBoundsException" ∧ f = f1 ∧ n ≤ n1)) c1 s1 (q_ge E)) : vx_Met l yL_waterIn wsL_waterIn ({ frames := fr + 1, cells := c1, slots := s1, locals := lo + 21 }) (q_PN E [.ref a, .int x1, .ref o] f n) (q_Qi E (fun r0 f1 n1 => 1 = r0 ∧ f = f1 ∧ n ≤ n1)) (q_XN E) c1 s1 (q_ge E) := by
  refine vx_ofWH (cc := cL_waterIn) (maxL := 4) (hh := [(0, 9, 12, 24)]) (ret := (some .int)) (by decide) rfl ?_
  intro p e s m args below meth c s₁ B hml hv
  obtain ⟨hNc, rfl, hA, hW⟩ := hv
  have hx := B.exec
  have hb := B.bytes
  have hr := B.returns
  have hts := atoms_spec (ws := wsL_waterIn) B.pre
  have hown : s.vm.findClass RL = some m.cls := findClass_of_methodNamed B.named
  have htab : c.exceptionTable.toList = tableOf [(0, 9, 12, 24)] := vx_table (x := yL_waterIn) B (hts _ List.mem_cons_self)
  have hlocks := B.notSynchronized
  have hS : va_S (q_ge E) s.heap s.heap [] := va_S.rf
  have hl := lv_entry ([.ref a, .int x1, .ref o]) (n := 4) (Nat.le_of_ble_eq_true rfl)
  rw [lg_entry_eq]
  generalize (lg_sl ([.ref a, .int x1, .ref o]) ++ List.replicate (4 - (lg_sl ([.ref a, .int x1, .ref o])).length) Slot.unset).toArray = ls at hl ⊢
  have hl : lv_has ls 4 [(0, .ref a), (1, .int x1), (2, .ref o)] := hl
  refine lv_aload_n hx hb dL_waterIn_0 rfl (lv_at hl 2 rfl) ?_
  refine lv_iconst (v := 0) hx hb dL_waterIn_1 (by decide) ?_
  refine lv_aload_n hx hb dL_waterIn_2 rfl (lv_at hl 0 rfl) ?_
  refine lv_iload_n hx hb dL_waterIn_3 rfl (lv_at hl 1 rfl) ?_
  refine q_xi (vx_runV (As := [.int x1]) (rest := [.int 0, .ref o]) ⟨hx, hb, hml, hown, hts⟩ (hM) (cwV 1 hts gL_waterIn_X12_waterIn rfl rfl rfl (by decide +kernel) ⟨(by show fr + 1 ≤ fr + 1; omega), (by show 8 + (2 + 11) + lo ≤ lo + 21; omega)⟩) (q_pV hA hW hS (ci := 10) rfl hX) rfl rfl hl.1 rfl (lv_room (Nat.le_of_ble_eq_true rfl)) dL_waterIn_4 ⟨(by show 0 + c1 ≤ c1; omega), (by show 0 + s1 ≤ s1; omega)⟩) hS (fun C9 ce9 q9 f9 n9 H locs hp hW hS h91 h92 h93 => ?_) (fun r_4 f_4 n_4 H locs hp hW hS => hp.elim)
  obtain ⟨rfl, rfl, h94⟩ := hp
  refine vx_catch (own := RL) (name := "java/lang/IndexOutOfBoundsException") hown [] ⟨0, 9, 12, 24⟩ [] htab (fun z hz => nomatch hz) (by decide) (by decide) (hts (.classLink RL 24 "java/lang/IndexOutOfBoundsException") (by decide +kernel)) (va_Nw.use rfl (hA.2.2.2.2.2.2.1 ("java/lang/IndexOutOfBoundsException", "java/lang/IndexOutOfBoundsException") (by decide +kernel))) h91 h92 h93 ?_
  refine lv_astore_n (lv' := [(3, .ref q9), (0, .ref a), (1, .int x1), (2, .ref o)]) hx hb dL_waterIn_12 rfl hl (by decide) rfl (fun ls hl => ?_)
  refine lv_iconst (v := 1) hx hb dL_waterIn_13 (by decide) ?_
  exact vx_ret (q_iret hx hb hr hlocks hW hS ⟨rfl, rfl, h94⟩ (by omega) (by omega) dL_waterIn_14)

set_option maxHeartbeats 4000000 in
set_option maxRecDepth 100000 in
theorem kL_mealIn (l : Launch) (E : q_E) (f : q_H) (n : Nat) (a o : Nat) (z1 z2 z3 z4 z5 z6 : Option Nat) (ep : Int32) (x1 : Int32) (fr c1 s1 lo : Nat) (R : Int32) (Q : q_H → Nat → Prop) (og : Nat → Int64) (hX : f a = some (rX12 z1 z2 z3 z4 z5 z6 ep)) (hM : Met l yX12_mealIn wsX12_mealIn ({ frames := fr, cells := c1, slots := s1, locals := lo }) (q_P E [.ref a, .int x1] f n) (q_Qi E (fun r f1 n1 => R = r ∧ Q f1 n1)) c1 s1 (q_ge E)) (hQ : ∀ f1 n1, Q f1 n1 → f1 o = some (aJ E 1 og)) : vx_Met l yL_mealIn wsL_mealIn ({ frames := fr + 1, cells := c1, slots := s1, locals := lo + 21 }) (q_PN E [.ref a, .int x1, .ref o] f n) (q_Qi E (fun r0 f1 n1 => 0 = r0 ∧ ∃ f9, Q f9 n1 ∧ va_up f9 o (some (aJ E 1 (vp_updL og 0 R.toInt64))) = f1)) (q_XN E) c1 s1 (q_ge E) := by
  refine vx_ofWH (cc := cL_mealIn) (maxL := 4) (hh := [(0, 9, 12, 24)]) (ret := (some .int)) (by decide) rfl ?_
  intro p e s m args below meth c s₁ B hml hv
  obtain ⟨hNc, rfl, hA, hW⟩ := hv
  have hx := B.exec
  have hb := B.bytes
  have hr := B.returns
  have hts := atoms_spec (ws := wsL_mealIn) B.pre
  have hown : s.vm.findClass RL = some m.cls := findClass_of_methodNamed B.named
  have htab : c.exceptionTable.toList = tableOf [(0, 9, 12, 24)] := vx_table (x := yL_mealIn) B (hts _ List.mem_cons_self)
  have hlocks := B.notSynchronized
  have hS : va_S (q_ge E) s.heap s.heap [] := va_S.rf
  have hl := lv_entry ([.ref a, .int x1, .ref o]) (n := 4) (Nat.le_of_ble_eq_true rfl)
  rw [lg_entry_eq]
  generalize (lg_sl ([.ref a, .int x1, .ref o]) ++ List.replicate (4 - (lg_sl ([.ref a, .int x1, .ref o])).length) Slot.unset).toArray = ls at hl ⊢
  have hl : lv_has ls 4 [(0, .ref a), (1, .int x1), (2, .ref o)] := hl
  refine lv_aload_n hx hb dL_mealIn_0 rfl (lv_at hl 2 rfl) ?_
  refine lv_iconst (v := 0) hx hb dL_mealIn_1 (by decide) ?_
  refine lv_aload_n hx hb dL_mealIn_2 rfl (lv_at hl 0 rfl) ?_
  refine lv_iload_n hx hb dL_mealIn_3 rfl (lv_at hl 1 rfl) ?_
  refine q_ci (va_runV (As := [.int x1]) (rest := [.int 0, .ref o]) ⟨hx, hb, hml, hown, hts⟩ (hM) (cwV 1 hts gL_mealIn_X12_mealIn rfl rfl rfl (by decide +kernel) ⟨(by show fr + 1 ≤ fr + 1; omega), (by show 8 + (2 + 11) + lo ≤ lo + 21; omega)⟩) (q_pV hA hW hS (ci := 10) rfl hX) rfl rfl hl.1 rfl (lv_room (Nat.le_of_ble_eq_true rfl)) dL_mealIn_4 ⟨(by show 0 + c1 ≤ c1; omega), (by show 0 + s1 ≤ s1; omega)⟩) hS (fun r_4 f_4 n_4 H locs hp hW hS => ?_)
  obtain ⟨rfl, hq⟩ := hp
  refine lv_i2l hx hb dL_mealIn_7 rfl ?_
  refine q_last hx hb hA hW hS (hQ _ _ hq) (show vp_in (nI 0) 1 from vp_in_nI (by decide) (by decide)) dL_mealIn_8 (fun H locs hW hS => ?_)
  rw [show (0 : Int32).toNatClampNeg = 0 from rfl] at hW
  have hW : q_W E (va_up f_4 o (some (aJ E 1 (vp_updL og 0 R.toInt64)))) n_4 H := hW
  refine lv_goto (tgt := 15) hx hb dL_mealIn_9 (by decide) ?_
  refine lv_iconst (v := 0) hx hb dL_mealIn_15 (by decide) ?_
  exact vx_ret (q_iret hx hb hr hlocks hW hS ⟨rfl, _, hq, rfl⟩ (by omega) (by omega) dL_mealIn_16)

set_option maxHeartbeats 4000000 in
set_option maxRecDepth 100000 in
theorem kL_mealIn_X (l : Launch) (E : q_E) (f : q_H) (n : Nat) (a o : Nat) (z1 z2 z3 z4 z5 z6 : Option Nat) (ep : Int32) (x1 : Int32) (fr c1 s1 lo : Nat) (hX : f a = some (rX12 z1 z2 z3 z4 z5 z6 ep)) (hM : vx_Met l yX12_mealIn wsX12_mealIn ({ frames := fr, cells := c1, slots := s1, locals := lo }) (q_P E [.ref a, .int x1] f n) (q_Qi E (fun _ _ _ => False)) (q_XC E (fun C f1 n1 => C = "java/lang/IndexOutOfBoundsException" ∧ f = f1 ∧ n ≤ n1)) c1 s1 (q_ge E)) : vx_Met l yL_mealIn wsL_mealIn ({ frames := fr + 1, cells := c1, slots := s1, locals := lo + 21 }) (q_PN E [.ref a, .int x1, .ref o] f n) (q_Qi E (fun r0 f1 n1 => 1 = r0 ∧ f = f1 ∧ n ≤ n1)) (q_XN E) c1 s1 (q_ge E) := by
  refine vx_ofWH (cc := cL_mealIn) (maxL := 4) (hh := [(0, 9, 12, 24)]) (ret := (some .int)) (by decide) rfl ?_
  intro p e s m args below meth c s₁ B hml hv
  obtain ⟨hNc, rfl, hA, hW⟩ := hv
  have hx := B.exec
  have hb := B.bytes
  have hr := B.returns
  have hts := atoms_spec (ws := wsL_mealIn) B.pre
  have hown : s.vm.findClass RL = some m.cls := findClass_of_methodNamed B.named
  have htab : c.exceptionTable.toList = tableOf [(0, 9, 12, 24)] := vx_table (x := yL_mealIn) B (hts _ List.mem_cons_self)
  have hlocks := B.notSynchronized
  have hS : va_S (q_ge E) s.heap s.heap [] := va_S.rf
  have hl := lv_entry ([.ref a, .int x1, .ref o]) (n := 4) (Nat.le_of_ble_eq_true rfl)
  rw [lg_entry_eq]
  generalize (lg_sl ([.ref a, .int x1, .ref o]) ++ List.replicate (4 - (lg_sl ([.ref a, .int x1, .ref o])).length) Slot.unset).toArray = ls at hl ⊢
  have hl : lv_has ls 4 [(0, .ref a), (1, .int x1), (2, .ref o)] := hl
  refine lv_aload_n hx hb dL_mealIn_0 rfl (lv_at hl 2 rfl) ?_
  refine lv_iconst (v := 0) hx hb dL_mealIn_1 (by decide) ?_
  refine lv_aload_n hx hb dL_mealIn_2 rfl (lv_at hl 0 rfl) ?_
  refine lv_iload_n hx hb dL_mealIn_3 rfl (lv_at hl 1 rfl) ?_
  refine q_xi (vx_runV (As := [.int x1]) (rest := [.int 0, .ref o]) ⟨hx, hb, hml, hown, hts⟩ (hM) (cwV 1 hts gL_mealIn_X12_mealIn rfl rfl rfl (by decide +kernel) ⟨(by show fr + 1 ≤ fr + 1; omega), (by show 8 + (2 + 11) + lo ≤ lo + 21; omega)⟩) (q_pV hA hW hS (ci := 10) rfl hX) rfl rfl hl.1 rfl (lv_room (Nat.le_of_ble_eq_true rfl)) dL_mealIn_4 ⟨(by show 0 + c1 ≤ c1; omega), (by show 0 + s1 ≤ s1; omega)⟩) hS (fun C9 ce9 q9 f9 n9 H locs hp hW hS h91 h92 h93 => ?_) (fun r_4 f_4 n_4 H locs hp hW hS => hp.elim)
  obtain ⟨rfl, rfl, h94⟩ := hp
  refine vx_catch (own := RL) (name := "java/lang/IndexOutOfBoundsException") hown [] ⟨0, 9, 12, 24⟩ [] htab (fun z hz => nomatch hz) (by decide) (by decide) (hts (.classLink RL 24 "java/lang/IndexOutOfBoundsException") (by decide +kernel)) (va_Nw.use rfl (hA.2.2.2.2.2.2.1 ("java/lang/IndexOutOfBoundsException", "java/lang/IndexOutOfBoundsException") (by decide +kernel))) h91 h92 h93 ?_
  refine lv_astore_n (lv' := [(3, .ref q9), (0, .ref a), (1, .int x1), (2, .ref o)]) hx hb dL_mealIn_12 rfl hl (by decide) rfl (fun ls hl => ?_)
  refine lv_iconst (v := 1) hx hb dL_mealIn_13 (by decide) ?_
  exact vx_ret (q_iret hx hb hr hlocks hW hS ⟨rfl, rfl, h94⟩ (by omega) (by omega) dL_mealIn_14)

set_option maxHeartbeats 4000000 in
set_option maxRecDepth 100000 in
theorem kL_heatOf (l : Launch) (E : q_E) (f : q_H) (n : Nat) (a o : Nat) (z1 z2 z3 z4 z5 z6 : Option Nat) (ep : Int32) (x1 : Int32) (fr c1 s1 lo : Nat) (R : Int32) (Q : q_H → Nat → Prop) (og : Nat → Int64) (hX : f a = some (rX12 z1 z2 z3 z4 z5 z6 ep)) (hM : Met l yX12_heatOf wsX12_heatOf ({ frames := fr, cells := c1, slots := s1, locals := lo }) (q_P E [.ref a, .int x1] f n) (q_Qi E (fun r f1 n1 => R = r ∧ Q f1 n1)) c1 s1 (q_ge E)) (hQ : ∀ f1 n1, Q f1 n1 → f1 o = some (aJ E 1 og)) : vx_Met l yL_heatOf wsL_heatOf ({ frames := fr + 1, cells := c1, slots := s1, locals := lo + 21 }) (q_PN E [.ref a, .int x1, .ref o] f n) (q_Qi E (fun r0 f1 n1 => 0 = r0 ∧ ∃ f9, Q f9 n1 ∧ va_up f9 o (some (aJ E 1 (vp_updL og 0 R.toInt64))) = f1)) (q_XN E) c1 s1 (q_ge E) := by
  refine vx_ofWH (cc := cL_heatOf) (maxL := 4) (hh := [(0, 9, 12, 24)]) (ret := (some .int)) (by decide) rfl ?_
  intro p e s m args below meth c s₁ B hml hv
  obtain ⟨hNc, rfl, hA, hW⟩ := hv
  have hx := B.exec
  have hb := B.bytes
  have hr := B.returns
  have hts := atoms_spec (ws := wsL_heatOf) B.pre
  have hown : s.vm.findClass RL = some m.cls := findClass_of_methodNamed B.named
  have htab : c.exceptionTable.toList = tableOf [(0, 9, 12, 24)] := vx_table (x := yL_heatOf) B (hts _ List.mem_cons_self)
  have hlocks := B.notSynchronized
  have hS : va_S (q_ge E) s.heap s.heap [] := va_S.rf
  have hl := lv_entry ([.ref a, .int x1, .ref o]) (n := 4) (Nat.le_of_ble_eq_true rfl)
  rw [lg_entry_eq]
  generalize (lg_sl ([.ref a, .int x1, .ref o]) ++ List.replicate (4 - (lg_sl ([.ref a, .int x1, .ref o])).length) Slot.unset).toArray = ls at hl ⊢
  have hl : lv_has ls 4 [(0, .ref a), (1, .int x1), (2, .ref o)] := hl
  refine lv_aload_n hx hb dL_heatOf_0 rfl (lv_at hl 2 rfl) ?_
  refine lv_iconst (v := 0) hx hb dL_heatOf_1 (by decide) ?_
  refine lv_aload_n hx hb dL_heatOf_2 rfl (lv_at hl 0 rfl) ?_
  refine lv_iload_n hx hb dL_heatOf_3 rfl (lv_at hl 1 rfl) ?_
  refine q_ci (va_runV (As := [.int x1]) (rest := [.int 0, .ref o]) ⟨hx, hb, hml, hown, hts⟩ (hM) (cwV 1 hts gL_heatOf_X12_heatOf rfl rfl rfl (by decide +kernel) ⟨(by show fr + 1 ≤ fr + 1; omega), (by show 8 + (2 + 11) + lo ≤ lo + 21; omega)⟩) (q_pV hA hW hS (ci := 10) rfl hX) rfl rfl hl.1 rfl (lv_room (Nat.le_of_ble_eq_true rfl)) dL_heatOf_4 ⟨(by show 0 + c1 ≤ c1; omega), (by show 0 + s1 ≤ s1; omega)⟩) hS (fun r_4 f_4 n_4 H locs hp hW hS => ?_)
  obtain ⟨rfl, hq⟩ := hp
  refine lv_i2l hx hb dL_heatOf_7 rfl ?_
  refine q_last hx hb hA hW hS (hQ _ _ hq) (show vp_in (nI 0) 1 from vp_in_nI (by decide) (by decide)) dL_heatOf_8 (fun H locs hW hS => ?_)
  rw [show (0 : Int32).toNatClampNeg = 0 from rfl] at hW
  have hW : q_W E (va_up f_4 o (some (aJ E 1 (vp_updL og 0 R.toInt64)))) n_4 H := hW
  refine lv_goto (tgt := 15) hx hb dL_heatOf_9 (by decide) ?_
  refine lv_iconst (v := 0) hx hb dL_heatOf_15 (by decide) ?_
  exact vx_ret (q_iret hx hb hr hlocks hW hS ⟨rfl, _, hq, rfl⟩ (by omega) (by omega) dL_heatOf_16)

set_option maxHeartbeats 4000000 in
set_option maxRecDepth 100000 in
theorem kL_heatOf_X (l : Launch) (E : q_E) (f : q_H) (n : Nat) (a o : Nat) (z1 z2 z3 z4 z5 z6 : Option Nat) (ep : Int32) (x1 : Int32) (fr c1 s1 lo : Nat) (hX : f a = some (rX12 z1 z2 z3 z4 z5 z6 ep)) (hM : vx_Met l yX12_heatOf wsX12_heatOf ({ frames := fr, cells := c1, slots := s1, locals := lo }) (q_P E [.ref a, .int x1] f n) (q_Qi E (fun _ _ _ => False)) (q_XC E (fun C f1 n1 => C = "java/lang/IndexOutOfBoundsException" ∧ f = f1 ∧ n ≤ n1)) c1 s1 (q_ge E)) : vx_Met l yL_heatOf wsL_heatOf ({ frames := fr + 1, cells := c1, slots := s1, locals := lo + 21 }) (q_PN E [.ref a, .int x1, .ref o] f n) (q_Qi E (fun r0 f1 n1 => 1 = r0 ∧ f = f1 ∧ n ≤ n1)) (q_XN E) c1 s1 (q_ge E) := by
  refine vx_ofWH (cc := cL_heatOf) (maxL := 4) (hh := [(0, 9, 12, 24)]) (ret := (some .int)) (by decide) rfl ?_
  intro p e s m args below meth c s₁ B hml hv
  obtain ⟨hNc, rfl, hA, hW⟩ := hv
  have hx := B.exec
  have hb := B.bytes
  have hr := B.returns
  have hts := atoms_spec (ws := wsL_heatOf) B.pre
  have hown : s.vm.findClass RL = some m.cls := findClass_of_methodNamed B.named
  have htab : c.exceptionTable.toList = tableOf [(0, 9, 12, 24)] := vx_table (x := yL_heatOf) B (hts _ List.mem_cons_self)
  have hlocks := B.notSynchronized
  have hS : va_S (q_ge E) s.heap s.heap [] := va_S.rf
  have hl := lv_entry ([.ref a, .int x1, .ref o]) (n := 4) (Nat.le_of_ble_eq_true rfl)
  rw [lg_entry_eq]
  generalize (lg_sl ([.ref a, .int x1, .ref o]) ++ List.replicate (4 - (lg_sl ([.ref a, .int x1, .ref o])).length) Slot.unset).toArray = ls at hl ⊢
  have hl : lv_has ls 4 [(0, .ref a), (1, .int x1), (2, .ref o)] := hl
  refine lv_aload_n hx hb dL_heatOf_0 rfl (lv_at hl 2 rfl) ?_
  refine lv_iconst (v := 0) hx hb dL_heatOf_1 (by decide) ?_
  refine lv_aload_n hx hb dL_heatOf_2 rfl (lv_at hl 0 rfl) ?_
  refine lv_iload_n hx hb dL_heatOf_3 rfl (lv_at hl 1 rfl) ?_
  refine q_xi (vx_runV (As := [.int x1]) (rest := [.int 0, .ref o]) ⟨hx, hb, hml, hown, hts⟩ (hM) (cwV 1 hts gL_heatOf_X12_heatOf rfl rfl rfl (by decide +kernel) ⟨(by show fr + 1 ≤ fr + 1; omega), (by show 8 + (2 + 11) + lo ≤ lo + 21; omega)⟩) (q_pV hA hW hS (ci := 10) rfl hX) rfl rfl hl.1 rfl (lv_room (Nat.le_of_ble_eq_true rfl)) dL_heatOf_4 ⟨(by show 0 + c1 ≤ c1; omega), (by show 0 + s1 ≤ s1; omega)⟩) hS (fun C9 ce9 q9 f9 n9 H locs hp hW hS h91 h92 h93 => ?_) (fun r_4 f_4 n_4 H locs hp hW hS => hp.elim)
  obtain ⟨rfl, rfl, h94⟩ := hp
  refine vx_catch (own := RL) (name := "java/lang/IndexOutOfBoundsException") hown [] ⟨0, 9, 12, 24⟩ [] htab (fun z hz => nomatch hz) (by decide) (by decide) (hts (.classLink RL 24 "java/lang/IndexOutOfBoundsException") (by decide +kernel)) (va_Nw.use rfl (hA.2.2.2.2.2.2.1 ("java/lang/IndexOutOfBoundsException", "java/lang/IndexOutOfBoundsException") (by decide +kernel))) h91 h92 h93 ?_
  refine lv_astore_n (lv' := [(3, .ref q9), (0, .ref a), (1, .int x1), (2, .ref o)]) hx hb dL_heatOf_12 rfl hl (by decide) rfl (fun ls hl => ?_)
  refine lv_iconst (v := 1) hx hb dL_heatOf_13 (by decide) ?_
  exact vx_ret (q_iret hx hb hr hlocks hW hS ⟨rfl, rfl, h94⟩ (by omega) (by omega) dL_heatOf_14)

set_option maxHeartbeats 4000000 in
set_option maxRecDepth 100000 in
theorem kL_doneIn (l : Launch) (E : q_E) (f : q_H) (n : Nat) (a o : Nat) (z1 z2 z3 z4 z5 z6 : Option Nat) (ep : Int32) (x1 : Int32) (fr c1 s1 lo : Nat) (R : Int32) (Q : q_H → Nat → Prop) (og : Nat → Int64) (hX : f a = some (rX12 z1 z2 z3 z4 z5 z6 ep)) (hM : Met l yX12_doneIn wsX12_doneIn ({ frames := fr, cells := c1, slots := s1, locals := lo }) (q_P E [.ref a, .int x1] f n) (q_Qi E (fun r f1 n1 => R = r ∧ Q f1 n1)) c1 s1 (q_ge E)) (hQ : ∀ f1 n1, Q f1 n1 → f1 o = some (aJ E 1 og)) : vx_Met l yL_doneIn wsL_doneIn ({ frames := fr + 1, cells := c1, slots := s1, locals := lo + 21 }) (q_PN E [.ref a, .int x1, .ref o] f n) (q_Qi E (fun r0 f1 n1 => 0 = r0 ∧ ∃ f9, Q f9 n1 ∧ va_up f9 o (some (aJ E 1 (vp_updL og 0 R.toInt64))) = f1)) (q_XN E) c1 s1 (q_ge E) := by
  refine vx_ofWH (cc := cL_doneIn) (maxL := 4) (hh := [(0, 9, 12, 24)]) (ret := (some .int)) (by decide) rfl ?_
  intro p e s m args below meth c s₁ B hml hv
  obtain ⟨hNc, rfl, hA, hW⟩ := hv
  have hx := B.exec
  have hb := B.bytes
  have hr := B.returns
  have hts := atoms_spec (ws := wsL_doneIn) B.pre
  have hown : s.vm.findClass RL = some m.cls := findClass_of_methodNamed B.named
  have htab : c.exceptionTable.toList = tableOf [(0, 9, 12, 24)] := vx_table (x := yL_doneIn) B (hts _ List.mem_cons_self)
  have hlocks := B.notSynchronized
  have hS : va_S (q_ge E) s.heap s.heap [] := va_S.rf
  have hl := lv_entry ([.ref a, .int x1, .ref o]) (n := 4) (Nat.le_of_ble_eq_true rfl)
  rw [lg_entry_eq]
  generalize (lg_sl ([.ref a, .int x1, .ref o]) ++ List.replicate (4 - (lg_sl ([.ref a, .int x1, .ref o])).length) Slot.unset).toArray = ls at hl ⊢
  have hl : lv_has ls 4 [(0, .ref a), (1, .int x1), (2, .ref o)] := hl
  refine lv_aload_n hx hb dL_doneIn_0 rfl (lv_at hl 2 rfl) ?_
  refine lv_iconst (v := 0) hx hb dL_doneIn_1 (by decide) ?_
  refine lv_aload_n hx hb dL_doneIn_2 rfl (lv_at hl 0 rfl) ?_
  refine lv_iload_n hx hb dL_doneIn_3 rfl (lv_at hl 1 rfl) ?_
  refine q_ci (va_runV (As := [.int x1]) (rest := [.int 0, .ref o]) ⟨hx, hb, hml, hown, hts⟩ (hM) (cwV 1 hts gL_doneIn_X12_doneIn rfl rfl rfl (by decide +kernel) ⟨(by show fr + 1 ≤ fr + 1; omega), (by show 8 + (2 + 11) + lo ≤ lo + 21; omega)⟩) (q_pV hA hW hS (ci := 10) rfl hX) rfl rfl hl.1 rfl (lv_room (Nat.le_of_ble_eq_true rfl)) dL_doneIn_4 ⟨(by show 0 + c1 ≤ c1; omega), (by show 0 + s1 ≤ s1; omega)⟩) hS (fun r_4 f_4 n_4 H locs hp hW hS => ?_)
  obtain ⟨rfl, hq⟩ := hp
  refine lv_i2l hx hb dL_doneIn_7 rfl ?_
  refine q_last hx hb hA hW hS (hQ _ _ hq) (show vp_in (nI 0) 1 from vp_in_nI (by decide) (by decide)) dL_doneIn_8 (fun H locs hW hS => ?_)
  rw [show (0 : Int32).toNatClampNeg = 0 from rfl] at hW
  have hW : q_W E (va_up f_4 o (some (aJ E 1 (vp_updL og 0 R.toInt64)))) n_4 H := hW
  refine lv_goto (tgt := 15) hx hb dL_doneIn_9 (by decide) ?_
  refine lv_iconst (v := 0) hx hb dL_doneIn_15 (by decide) ?_
  exact vx_ret (q_iret hx hb hr hlocks hW hS ⟨rfl, _, hq, rfl⟩ (by omega) (by omega) dL_doneIn_16)

set_option maxHeartbeats 4000000 in
set_option maxRecDepth 100000 in
theorem kL_doneIn_X (l : Launch) (E : q_E) (f : q_H) (n : Nat) (a o : Nat) (z1 z2 z3 z4 z5 z6 : Option Nat) (ep : Int32) (x1 : Int32) (fr c1 s1 lo : Nat) (hX : f a = some (rX12 z1 z2 z3 z4 z5 z6 ep)) (hM : vx_Met l yX12_doneIn wsX12_doneIn ({ frames := fr, cells := c1, slots := s1, locals := lo }) (q_P E [.ref a, .int x1] f n) (q_Qi E (fun _ _ _ => False)) (q_XC E (fun C f1 n1 => C = "java/lang/IndexOutOfBoundsException" ∧ f = f1 ∧ n ≤ n1)) c1 s1 (q_ge E)) : vx_Met l yL_doneIn wsL_doneIn ({ frames := fr + 1, cells := c1, slots := s1, locals := lo + 21 }) (q_PN E [.ref a, .int x1, .ref o] f n) (q_Qi E (fun r0 f1 n1 => 1 = r0 ∧ f = f1 ∧ n ≤ n1)) (q_XN E) c1 s1 (q_ge E) := by
  refine vx_ofWH (cc := cL_doneIn) (maxL := 4) (hh := [(0, 9, 12, 24)]) (ret := (some .int)) (by decide) rfl ?_
  intro p e s m args below meth c s₁ B hml hv
  obtain ⟨hNc, rfl, hA, hW⟩ := hv
  have hx := B.exec
  have hb := B.bytes
  have hr := B.returns
  have hts := atoms_spec (ws := wsL_doneIn) B.pre
  have hown : s.vm.findClass RL = some m.cls := findClass_of_methodNamed B.named
  have htab : c.exceptionTable.toList = tableOf [(0, 9, 12, 24)] := vx_table (x := yL_doneIn) B (hts _ List.mem_cons_self)
  have hlocks := B.notSynchronized
  have hS : va_S (q_ge E) s.heap s.heap [] := va_S.rf
  have hl := lv_entry ([.ref a, .int x1, .ref o]) (n := 4) (Nat.le_of_ble_eq_true rfl)
  rw [lg_entry_eq]
  generalize (lg_sl ([.ref a, .int x1, .ref o]) ++ List.replicate (4 - (lg_sl ([.ref a, .int x1, .ref o])).length) Slot.unset).toArray = ls at hl ⊢
  have hl : lv_has ls 4 [(0, .ref a), (1, .int x1), (2, .ref o)] := hl
  refine lv_aload_n hx hb dL_doneIn_0 rfl (lv_at hl 2 rfl) ?_
  refine lv_iconst (v := 0) hx hb dL_doneIn_1 (by decide) ?_
  refine lv_aload_n hx hb dL_doneIn_2 rfl (lv_at hl 0 rfl) ?_
  refine lv_iload_n hx hb dL_doneIn_3 rfl (lv_at hl 1 rfl) ?_
  refine q_xi (vx_runV (As := [.int x1]) (rest := [.int 0, .ref o]) ⟨hx, hb, hml, hown, hts⟩ (hM) (cwV 1 hts gL_doneIn_X12_doneIn rfl rfl rfl (by decide +kernel) ⟨(by show fr + 1 ≤ fr + 1; omega), (by show 8 + (2 + 11) + lo ≤ lo + 21; omega)⟩) (q_pV hA hW hS (ci := 10) rfl hX) rfl rfl hl.1 rfl (lv_room (Nat.le_of_ble_eq_true rfl)) dL_doneIn_4 ⟨(by show 0 + c1 ≤ c1; omega), (by show 0 + s1 ≤ s1; omega)⟩) hS (fun C9 ce9 q9 f9 n9 H locs hp hW hS h91 h92 h93 => ?_) (fun r_4 f_4 n_4 H locs hp hW hS => hp.elim)
  obtain ⟨rfl, rfl, h94⟩ := hp
  refine vx_catch (own := RL) (name := "java/lang/IndexOutOfBoundsException") hown [] ⟨0, 9, 12, 24⟩ [] htab (fun z hz => nomatch hz) (by decide) (by decide) (hts (.classLink RL 24 "java/lang/IndexOutOfBoundsException") (by decide +kernel)) (va_Nw.use rfl (hA.2.2.2.2.2.2.1 ("java/lang/IndexOutOfBoundsException", "java/lang/IndexOutOfBoundsException") (by decide +kernel))) h91 h92 h93 ?_
  refine lv_astore_n (lv' := [(3, .ref q9), (0, .ref a), (1, .int x1), (2, .ref o)]) hx hb dL_doneIn_12 rfl hl (by decide) rfl (fun ls hl => ?_)
  refine lv_iconst (v := 1) hx hb dL_doneIn_13 (by decide) ?_
  exact vx_ret (q_iret hx hb hr hlocks hW hS ⟨rfl, rfl, h94⟩ (by omega) (by omega) dL_doneIn_14)

set_option maxHeartbeats 4000000 in
set_option maxRecDepth 100000 in
theorem kL_roomIn (l : Launch) (E : q_E) (f : q_H) (n : Nat) (a o : Nat) (z1 z2 z3 z4 z5 z6 : Option Nat) (ep : Int32) (x1 : Int32) (fr c1 s1 lo : Nat) (R : Int32) (Q : q_H → Nat → Prop) (og : Nat → Int64) (hX : f a = some (rX12 z1 z2 z3 z4 z5 z6 ep)) (hM : Met l yX12_roomIn wsX12_roomIn ({ frames := fr, cells := c1, slots := s1, locals := lo }) (q_P E [.ref a, .int x1] f n) (q_Qi E (fun r f1 n1 => R = r ∧ Q f1 n1)) c1 s1 (q_ge E)) (hQ : ∀ f1 n1, Q f1 n1 → f1 o = some (aJ E 1 og)) : vx_Met l yL_roomIn wsL_roomIn ({ frames := fr + 1, cells := c1, slots := s1, locals := lo + 21 }) (q_PN E [.ref a, .int x1, .ref o] f n) (q_Qi E (fun r0 f1 n1 => 0 = r0 ∧ ∃ f9, Q f9 n1 ∧ va_up f9 o (some (aJ E 1 (vp_updL og 0 R.toInt64))) = f1)) (q_XN E) c1 s1 (q_ge E) := by
  refine vx_ofWH (cc := cL_roomIn) (maxL := 4) (hh := [(0, 9, 12, 24)]) (ret := (some .int)) (by decide) rfl ?_
  intro p e s m args below meth c s₁ B hml hv
  obtain ⟨hNc, rfl, hA, hW⟩ := hv
  have hx := B.exec
  have hb := B.bytes
  have hr := B.returns
  have hts := atoms_spec (ws := wsL_roomIn) B.pre
  have hown : s.vm.findClass RL = some m.cls := findClass_of_methodNamed B.named
  have htab : c.exceptionTable.toList = tableOf [(0, 9, 12, 24)] := vx_table (x := yL_roomIn) B (hts _ List.mem_cons_self)
  have hlocks := B.notSynchronized
  have hS : va_S (q_ge E) s.heap s.heap [] := va_S.rf
  have hl := lv_entry ([.ref a, .int x1, .ref o]) (n := 4) (Nat.le_of_ble_eq_true rfl)
  rw [lg_entry_eq]
  generalize (lg_sl ([.ref a, .int x1, .ref o]) ++ List.replicate (4 - (lg_sl ([.ref a, .int x1, .ref o])).length) Slot.unset).toArray = ls at hl ⊢
  have hl : lv_has ls 4 [(0, .ref a), (1, .int x1), (2, .ref o)] := hl
  refine lv_aload_n hx hb dL_roomIn_0 rfl (lv_at hl 2 rfl) ?_
  refine lv_iconst (v := 0) hx hb dL_roomIn_1 (by decide) ?_
  refine lv_aload_n hx hb dL_roomIn_2 rfl (lv_at hl 0 rfl) ?_
  refine lv_iload_n hx hb dL_roomIn_3 rfl (lv_at hl 1 rfl) ?_
  refine q_ci (va_runV (As := [.int x1]) (rest := [.int 0, .ref o]) ⟨hx, hb, hml, hown, hts⟩ (hM) (cwV 1 hts gL_roomIn_X12_roomIn rfl rfl rfl (by decide +kernel) ⟨(by show fr + 1 ≤ fr + 1; omega), (by show 8 + (2 + 11) + lo ≤ lo + 21; omega)⟩) (q_pV hA hW hS (ci := 10) rfl hX) rfl rfl hl.1 rfl (lv_room (Nat.le_of_ble_eq_true rfl)) dL_roomIn_4 ⟨(by show 0 + c1 ≤ c1; omega), (by show 0 + s1 ≤ s1; omega)⟩) hS (fun r_4 f_4 n_4 H locs hp hW hS => ?_)
  obtain ⟨rfl, hq⟩ := hp
  refine lv_i2l hx hb dL_roomIn_7 rfl ?_
  refine q_last hx hb hA hW hS (hQ _ _ hq) (show vp_in (nI 0) 1 from vp_in_nI (by decide) (by decide)) dL_roomIn_8 (fun H locs hW hS => ?_)
  rw [show (0 : Int32).toNatClampNeg = 0 from rfl] at hW
  have hW : q_W E (va_up f_4 o (some (aJ E 1 (vp_updL og 0 R.toInt64)))) n_4 H := hW
  refine lv_goto (tgt := 15) hx hb dL_roomIn_9 (by decide) ?_
  refine lv_iconst (v := 0) hx hb dL_roomIn_15 (by decide) ?_
  exact vx_ret (q_iret hx hb hr hlocks hW hS ⟨rfl, _, hq, rfl⟩ (by omega) (by omega) dL_roomIn_16)

set_option maxHeartbeats 4000000 in
set_option maxRecDepth 100000 in
theorem kL_roomIn_X (l : Launch) (E : q_E) (f : q_H) (n : Nat) (a o : Nat) (z1 z2 z3 z4 z5 z6 : Option Nat) (ep : Int32) (x1 : Int32) (fr c1 s1 lo : Nat) (hX : f a = some (rX12 z1 z2 z3 z4 z5 z6 ep)) (hM : vx_Met l yX12_roomIn wsX12_roomIn ({ frames := fr, cells := c1, slots := s1, locals := lo }) (q_P E [.ref a, .int x1] f n) (q_Qi E (fun _ _ _ => False)) (q_XC E (fun C f1 n1 => C = "java/lang/IndexOutOfBoundsException" ∧ f = f1 ∧ n ≤ n1)) c1 s1 (q_ge E)) : vx_Met l yL_roomIn wsL_roomIn ({ frames := fr + 1, cells := c1, slots := s1, locals := lo + 21 }) (q_PN E [.ref a, .int x1, .ref o] f n) (q_Qi E (fun r0 f1 n1 => 1 = r0 ∧ f = f1 ∧ n ≤ n1)) (q_XN E) c1 s1 (q_ge E) := by
  refine vx_ofWH (cc := cL_roomIn) (maxL := 4) (hh := [(0, 9, 12, 24)]) (ret := (some .int)) (by decide) rfl ?_
  intro p e s m args below meth c s₁ B hml hv
  obtain ⟨hNc, rfl, hA, hW⟩ := hv
  have hx := B.exec
  have hb := B.bytes
  have hr := B.returns
  have hts := atoms_spec (ws := wsL_roomIn) B.pre
  have hown : s.vm.findClass RL = some m.cls := findClass_of_methodNamed B.named
  have htab : c.exceptionTable.toList = tableOf [(0, 9, 12, 24)] := vx_table (x := yL_roomIn) B (hts _ List.mem_cons_self)
  have hlocks := B.notSynchronized
  have hS : va_S (q_ge E) s.heap s.heap [] := va_S.rf
  have hl := lv_entry ([.ref a, .int x1, .ref o]) (n := 4) (Nat.le_of_ble_eq_true rfl)
  rw [lg_entry_eq]
  generalize (lg_sl ([.ref a, .int x1, .ref o]) ++ List.replicate (4 - (lg_sl ([.ref a, .int x1, .ref o])).length) Slot.unset).toArray = ls at hl ⊢
  have hl : lv_has ls 4 [(0, .ref a), (1, .int x1), (2, .ref o)] := hl
  refine lv_aload_n hx hb dL_roomIn_0 rfl (lv_at hl 2 rfl) ?_
  refine lv_iconst (v := 0) hx hb dL_roomIn_1 (by decide) ?_
  refine lv_aload_n hx hb dL_roomIn_2 rfl (lv_at hl 0 rfl) ?_
  refine lv_iload_n hx hb dL_roomIn_3 rfl (lv_at hl 1 rfl) ?_
  refine q_xi (vx_runV (As := [.int x1]) (rest := [.int 0, .ref o]) ⟨hx, hb, hml, hown, hts⟩ (hM) (cwV 1 hts gL_roomIn_X12_roomIn rfl rfl rfl (by decide +kernel) ⟨(by show fr + 1 ≤ fr + 1; omega), (by show 8 + (2 + 11) + lo ≤ lo + 21; omega)⟩) (q_pV hA hW hS (ci := 10) rfl hX) rfl rfl hl.1 rfl (lv_room (Nat.le_of_ble_eq_true rfl)) dL_roomIn_4 ⟨(by show 0 + c1 ≤ c1; omega), (by show 0 + s1 ≤ s1; omega)⟩) hS (fun C9 ce9 q9 f9 n9 H locs hp hW hS h91 h92 h93 => ?_) (fun r_4 f_4 n_4 H locs hp hW hS => hp.elim)
  obtain ⟨rfl, rfl, h94⟩ := hp
  refine vx_catch (own := RL) (name := "java/lang/IndexOutOfBoundsException") hown [] ⟨0, 9, 12, 24⟩ [] htab (fun z hz => nomatch hz) (by decide) (by decide) (hts (.classLink RL 24 "java/lang/IndexOutOfBoundsException") (by decide +kernel)) (va_Nw.use rfl (hA.2.2.2.2.2.2.1 ("java/lang/IndexOutOfBoundsException", "java/lang/IndexOutOfBoundsException") (by decide +kernel))) h91 h92 h93 ?_
  refine lv_astore_n (lv' := [(3, .ref q9), (0, .ref a), (1, .int x1), (2, .ref o)]) hx hb dL_roomIn_12 rfl hl (by decide) rfl (fun ls hl => ?_)
  refine lv_iconst (v := 1) hx hb dL_roomIn_13 (by decide) ?_
  exact vx_ret (q_iret hx hb hr hlocks hW hS ⟨rfl, rfl, h94⟩ (by omega) (by omega) dL_roomIn_14)

set_option maxHeartbeats 4000000 in
set_option maxRecDepth 100000 in
theorem kL_boilingAt (l : Launch) (E : q_E) (f : q_H) (n : Nat) (a o : Nat) (z1 z2 z3 z4 z5 z6 : Option Nat) (ep : Int32) (x1 : Int32) (fr c1 s1 lo : Nat) (R : Int32) (Q : q_H → Nat → Prop) (og : Nat → Int64) (hX : f a = some (rX12 z1 z2 z3 z4 z5 z6 ep)) (hM : Met l yX12_boilingAt wsX12_boilingAt ({ frames := fr, cells := c1, slots := s1, locals := lo }) (q_P E [.ref a, .int x1] f n) (q_Qi E (fun r f1 n1 => R = r ∧ Q f1 n1)) c1 s1 (q_ge E)) (hQ : ∀ f1 n1, Q f1 n1 → f1 o = some (aJ E 1 og)) : vx_Met l yL_boilingAt wsL_boilingAt ({ frames := fr + 1, cells := c1, slots := s1, locals := lo + 21 }) (q_PN E [.ref a, .int x1, .ref o] f n) (q_Qi E (fun r0 f1 n1 => 0 = r0 ∧ ∃ f9, Q f9 n1 ∧ va_up f9 o (some (aJ E 1 (vp_updL og 0 R.toInt64))) = f1)) (q_XN E) c1 s1 (q_ge E) := by
  refine vx_ofWH (cc := cL_boilingAt) (maxL := 4) (hh := [(0, 9, 12, 19)]) (ret := (some .int)) (by decide) rfl ?_
  intro p e s m args below meth c s₁ B hml hv
  obtain ⟨hNc, rfl, hA, hW⟩ := hv
  have hx := B.exec
  have hb := B.bytes
  have hr := B.returns
  have hts := atoms_spec (ws := wsL_boilingAt) B.pre
  have hown : s.vm.findClass RL = some m.cls := findClass_of_methodNamed B.named
  have htab : c.exceptionTable.toList = tableOf [(0, 9, 12, 19)] := vx_table (x := yL_boilingAt) B (hts _ List.mem_cons_self)
  have hlocks := B.notSynchronized
  have hS : va_S (q_ge E) s.heap s.heap [] := va_S.rf
  have hl := lv_entry ([.ref a, .int x1, .ref o]) (n := 4) (Nat.le_of_ble_eq_true rfl)
  rw [lg_entry_eq]
  generalize (lg_sl ([.ref a, .int x1, .ref o]) ++ List.replicate (4 - (lg_sl ([.ref a, .int x1, .ref o])).length) Slot.unset).toArray = ls at hl ⊢
  have hl : lv_has ls 4 [(0, .ref a), (1, .int x1), (2, .ref o)] := hl
  refine lv_aload_n hx hb dL_boilingAt_0 rfl (lv_at hl 2 rfl) ?_
  refine lv_iconst (v := 0) hx hb dL_boilingAt_1 (by decide) ?_
  refine lv_aload_n hx hb dL_boilingAt_2 rfl (lv_at hl 0 rfl) ?_
  refine lv_iload_n hx hb dL_boilingAt_3 rfl (lv_at hl 1 rfl) ?_
  refine q_ci (va_runV (As := [.int x1]) (rest := [.int 0, .ref o]) ⟨hx, hb, hml, hown, hts⟩ (hM) (cwV 1 hts gL_boilingAt_X12_boilingAt rfl rfl rfl (by decide +kernel) ⟨(by show fr + 1 ≤ fr + 1; omega), (by show 8 + (2 + 11) + lo ≤ lo + 21; omega)⟩) (q_pV hA hW hS (ci := 10) rfl hX) rfl rfl hl.1 rfl (lv_room (Nat.le_of_ble_eq_true rfl)) dL_boilingAt_4 ⟨(by show 0 + c1 ≤ c1; omega), (by show 0 + s1 ≤ s1; omega)⟩) hS (fun r_4 f_4 n_4 H locs hp hW hS => ?_)
  obtain ⟨rfl, hq⟩ := hp
  refine lv_i2l hx hb dL_boilingAt_7 rfl ?_
  refine q_last hx hb hA hW hS (hQ _ _ hq) (show vp_in (nI 0) 1 from vp_in_nI (by decide) (by decide)) dL_boilingAt_8 (fun H locs hW hS => ?_)
  rw [show (0 : Int32).toNatClampNeg = 0 from rfl] at hW
  have hW : q_W E (va_up f_4 o (some (aJ E 1 (vp_updL og 0 R.toInt64)))) n_4 H := hW
  refine lv_goto (tgt := 15) hx hb dL_boilingAt_9 (by decide) ?_
  refine lv_iconst (v := 0) hx hb dL_boilingAt_15 (by decide) ?_
  exact vx_ret (q_iret hx hb hr hlocks hW hS ⟨rfl, _, hq, rfl⟩ (by omega) (by omega) dL_boilingAt_16)

set_option maxHeartbeats 4000000 in
set_option maxRecDepth 100000 in
theorem kL_boilingAt_X (l : Launch) (E : q_E) (f : q_H) (n : Nat) (a o : Nat) (z1 z2 z3 z4 z5 z6 : Option Nat) (ep : Int32) (x1 : Int32) (fr c1 s1 lo : Nat) (hX : f a = some (rX12 z1 z2 z3 z4 z5 z6 ep)) (hM : vx_Met l yX12_boilingAt wsX12_boilingAt ({ frames := fr, cells := c1, slots := s1, locals := lo }) (q_P E [.ref a, .int x1] f n) (q_Qi E (fun _ _ _ => False)) (q_XC E (fun C f1 n1 => C = "java/lang/IllegalArgumentException" ∧ f = f1 ∧ n ≤ n1)) c1 s1 (q_ge E)) : vx_Met l yL_boilingAt wsL_boilingAt ({ frames := fr + 1, cells := c1, slots := s1, locals := lo + 21 }) (q_PN E [.ref a, .int x1, .ref o] f n) (q_Qi E (fun r0 f1 n1 => 1 = r0 ∧ f = f1 ∧ n ≤ n1)) (q_XN E) c1 s1 (q_ge E) := by
  refine vx_ofWH (cc := cL_boilingAt) (maxL := 4) (hh := [(0, 9, 12, 19)]) (ret := (some .int)) (by decide) rfl ?_
  intro p e s m args below meth c s₁ B hml hv
  obtain ⟨hNc, rfl, hA, hW⟩ := hv
  have hx := B.exec
  have hb := B.bytes
  have hr := B.returns
  have hts := atoms_spec (ws := wsL_boilingAt) B.pre
  have hown : s.vm.findClass RL = some m.cls := findClass_of_methodNamed B.named
  have htab : c.exceptionTable.toList = tableOf [(0, 9, 12, 19)] := vx_table (x := yL_boilingAt) B (hts _ List.mem_cons_self)
  have hlocks := B.notSynchronized
  have hS : va_S (q_ge E) s.heap s.heap [] := va_S.rf
  have hl := lv_entry ([.ref a, .int x1, .ref o]) (n := 4) (Nat.le_of_ble_eq_true rfl)
  rw [lg_entry_eq]
  generalize (lg_sl ([.ref a, .int x1, .ref o]) ++ List.replicate (4 - (lg_sl ([.ref a, .int x1, .ref o])).length) Slot.unset).toArray = ls at hl ⊢
  have hl : lv_has ls 4 [(0, .ref a), (1, .int x1), (2, .ref o)] := hl
  refine lv_aload_n hx hb dL_boilingAt_0 rfl (lv_at hl 2 rfl) ?_
  refine lv_iconst (v := 0) hx hb dL_boilingAt_1 (by decide) ?_
  refine lv_aload_n hx hb dL_boilingAt_2 rfl (lv_at hl 0 rfl) ?_
  refine lv_iload_n hx hb dL_boilingAt_3 rfl (lv_at hl 1 rfl) ?_
  refine q_xi (vx_runV (As := [.int x1]) (rest := [.int 0, .ref o]) ⟨hx, hb, hml, hown, hts⟩ (hM) (cwV 1 hts gL_boilingAt_X12_boilingAt rfl rfl rfl (by decide +kernel) ⟨(by show fr + 1 ≤ fr + 1; omega), (by show 8 + (2 + 11) + lo ≤ lo + 21; omega)⟩) (q_pV hA hW hS (ci := 10) rfl hX) rfl rfl hl.1 rfl (lv_room (Nat.le_of_ble_eq_true rfl)) dL_boilingAt_4 ⟨(by show 0 + c1 ≤ c1; omega), (by show 0 + s1 ≤ s1; omega)⟩) hS (fun C9 ce9 q9 f9 n9 H locs hp hW hS h91 h92 h93 => ?_) (fun r_4 f_4 n_4 H locs hp hW hS => hp.elim)
  obtain ⟨rfl, rfl, h94⟩ := hp
  refine vx_catch (own := RL) (name := "java/lang/IllegalArgumentException") hown [] ⟨0, 9, 12, 19⟩ [] htab (fun z hz => nomatch hz) (by decide) (by decide) (hts (.classLink RL 19 "java/lang/IllegalArgumentException") (by decide +kernel)) (va_Nw.use rfl (hA.2.2.2.2.2.2.1 ("java/lang/IllegalArgumentException", "java/lang/IllegalArgumentException") (by decide +kernel))) h91 h92 h93 ?_
  refine lv_astore_n (lv' := [(3, .ref q9), (0, .ref a), (1, .int x1), (2, .ref o)]) hx hb dL_boilingAt_12 rfl hl (by decide) rfl (fun ls hl => ?_)
  refine lv_iconst (v := 1) hx hb dL_boilingAt_13 (by decide) ?_
  exact vx_ret (q_iret hx hb hr hlocks hW hS ⟨rfl, rfl, h94⟩ (by omega) (by omega) dL_boilingAt_14)

set_option maxHeartbeats 4000000 in
set_option maxRecDepth 100000 in
theorem kL_minutesAt (l : Launch) (E : q_E) (f : q_H) (n : Nat) (a o : Nat) (z1 z2 z3 z4 z5 z6 : Option Nat) (ep : Int32) (x1 x2 : Int32) (fr c1 s1 lo : Nat) (R : Int32) (Q : q_H → Nat → Prop) (og : Nat → Int64) (hX : f a = some (rX12 z1 z2 z3 z4 z5 z6 ep)) (hM : Met l yX12_minutesAt wsX12_minutesAt ({ frames := fr, cells := c1, slots := s1, locals := lo }) (q_P E [.ref a, .int x1, .int x2] f n) (q_Qi E (fun r f1 n1 => R = r ∧ Q f1 n1)) c1 s1 (q_ge E)) (hQ : ∀ f1 n1, Q f1 n1 → f1 o = some (aJ E 1 og)) : vx_Met l yL_minutesAt wsL_minutesAt ({ frames := fr + 1, cells := c1, slots := s1, locals := lo + 22 }) (q_PN E [.ref a, .int x1, .int x2, .ref o] f n) (q_Qi E (fun r0 f1 n1 => 0 = r0 ∧ ∃ f9, Q f9 n1 ∧ va_up f9 o (some (aJ E 1 (vp_updL og 0 R.toInt64))) = f1)) (q_XN E) c1 s1 (q_ge E) := by
  refine vx_ofWH (cc := cL_minutesAt) (maxL := 5) (hh := [(0, 10, 13, 19)]) (ret := (some .int)) (by decide) rfl ?_
  intro p e s m args below meth c s₁ B hml hv
  obtain ⟨hNc, rfl, hA, hW⟩ := hv
  have hx := B.exec
  have hb := B.bytes
  have hr := B.returns
  have hts := atoms_spec (ws := wsL_minutesAt) B.pre
  have hown : s.vm.findClass RL = some m.cls := findClass_of_methodNamed B.named
  have htab : c.exceptionTable.toList = tableOf [(0, 10, 13, 19)] := vx_table (x := yL_minutesAt) B (hts _ List.mem_cons_self)
  have hlocks := B.notSynchronized
  have hS : va_S (q_ge E) s.heap s.heap [] := va_S.rf
  have hl := lv_entry ([.ref a, .int x1, .int x2, .ref o]) (n := 5) (Nat.le_of_ble_eq_true rfl)
  rw [lg_entry_eq]
  generalize (lg_sl ([.ref a, .int x1, .int x2, .ref o]) ++ List.replicate (5 - (lg_sl ([.ref a, .int x1, .int x2, .ref o])).length) Slot.unset).toArray = ls at hl ⊢
  have hl : lv_has ls 5 [(0, .ref a), (1, .int x1), (2, .int x2), (3, .ref o)] := hl
  refine lv_aload_n hx hb dL_minutesAt_0 rfl (lv_at hl 3 rfl) ?_
  refine lv_iconst (v := 0) hx hb dL_minutesAt_1 (by decide) ?_
  refine lv_aload_n hx hb dL_minutesAt_2 rfl (lv_at hl 0 rfl) ?_
  refine lv_iload_n hx hb dL_minutesAt_3 rfl (lv_at hl 1 rfl) ?_
  refine lv_iload_n hx hb dL_minutesAt_4 rfl (lv_at hl 2 rfl) ?_
  refine q_ci (va_runV (As := [.int x1, .int x2]) (rest := [.int 0, .ref o]) ⟨hx, hb, hml, hown, hts⟩ (hM) (cwV 2 hts gL_minutesAt_X12_minutesAt rfl rfl rfl (by decide +kernel) ⟨(by show fr + 1 ≤ fr + 1; omega), (by show 8 + (3 + 11) + lo ≤ lo + 22; omega)⟩) (q_pV hA hW hS (ci := 10) rfl hX) rfl rfl hl.1 rfl (lv_room (Nat.le_of_ble_eq_true rfl)) dL_minutesAt_5 ⟨(by show 0 + c1 ≤ c1; omega), (by show 0 + s1 ≤ s1; omega)⟩) hS (fun r_5 f_5 n_5 H locs hp hW hS => ?_)
  obtain ⟨rfl, hq⟩ := hp
  refine lv_i2l hx hb dL_minutesAt_8 rfl ?_
  refine q_last hx hb hA hW hS (hQ _ _ hq) (show vp_in (nI 0) 1 from vp_in_nI (by decide) (by decide)) dL_minutesAt_9 (fun H locs hW hS => ?_)
  rw [show (0 : Int32).toNatClampNeg = 0 from rfl] at hW
  have hW : q_W E (va_up f_5 o (some (aJ E 1 (vp_updL og 0 R.toInt64)))) n_5 H := hW
  refine lv_goto (tgt := 17) hx hb dL_minutesAt_10 (by decide) ?_
  refine lv_iconst (v := 0) hx hb dL_minutesAt_17 (by decide) ?_
  exact vx_ret (q_iret hx hb hr hlocks hW hS ⟨rfl, _, hq, rfl⟩ (by omega) (by omega) dL_minutesAt_18)

set_option maxHeartbeats 4000000 in
set_option maxRecDepth 100000 in
theorem kL_minutesAt_X (l : Launch) (E : q_E) (f : q_H) (n : Nat) (a o : Nat) (z1 z2 z3 z4 z5 z6 : Option Nat) (ep : Int32) (x1 x2 : Int32) (fr c1 s1 lo : Nat) (hX : f a = some (rX12 z1 z2 z3 z4 z5 z6 ep)) (hM : vx_Met l yX12_minutesAt wsX12_minutesAt ({ frames := fr, cells := c1, slots := s1, locals := lo }) (q_P E [.ref a, .int x1, .int x2] f n) (q_Qi E (fun _ _ _ => False)) (q_XC E (fun C f1 n1 => C = "java/lang/IllegalArgumentException" ∧ f = f1 ∧ n ≤ n1)) c1 s1 (q_ge E)) : vx_Met l yL_minutesAt wsL_minutesAt ({ frames := fr + 1, cells := c1, slots := s1, locals := lo + 22 }) (q_PN E [.ref a, .int x1, .int x2, .ref o] f n) (q_Qi E (fun r0 f1 n1 => 1 = r0 ∧ f = f1 ∧ n ≤ n1)) (q_XN E) c1 s1 (q_ge E) := by
  refine vx_ofWH (cc := cL_minutesAt) (maxL := 5) (hh := [(0, 10, 13, 19)]) (ret := (some .int)) (by decide) rfl ?_
  intro p e s m args below meth c s₁ B hml hv
  obtain ⟨hNc, rfl, hA, hW⟩ := hv
  have hx := B.exec
  have hb := B.bytes
  have hr := B.returns
  have hts := atoms_spec (ws := wsL_minutesAt) B.pre
  have hown : s.vm.findClass RL = some m.cls := findClass_of_methodNamed B.named
  have htab : c.exceptionTable.toList = tableOf [(0, 10, 13, 19)] := vx_table (x := yL_minutesAt) B (hts _ List.mem_cons_self)
  have hlocks := B.notSynchronized
  have hS : va_S (q_ge E) s.heap s.heap [] := va_S.rf
  have hl := lv_entry ([.ref a, .int x1, .int x2, .ref o]) (n := 5) (Nat.le_of_ble_eq_true rfl)
  rw [lg_entry_eq]
  generalize (lg_sl ([.ref a, .int x1, .int x2, .ref o]) ++ List.replicate (5 - (lg_sl ([.ref a, .int x1, .int x2, .ref o])).length) Slot.unset).toArray = ls at hl ⊢
  have hl : lv_has ls 5 [(0, .ref a), (1, .int x1), (2, .int x2), (3, .ref o)] := hl
  refine lv_aload_n hx hb dL_minutesAt_0 rfl (lv_at hl 3 rfl) ?_
  refine lv_iconst (v := 0) hx hb dL_minutesAt_1 (by decide) ?_
  refine lv_aload_n hx hb dL_minutesAt_2 rfl (lv_at hl 0 rfl) ?_
  refine lv_iload_n hx hb dL_minutesAt_3 rfl (lv_at hl 1 rfl) ?_
  refine lv_iload_n hx hb dL_minutesAt_4 rfl (lv_at hl 2 rfl) ?_
  refine q_xi (vx_runV (As := [.int x1, .int x2]) (rest := [.int 0, .ref o]) ⟨hx, hb, hml, hown, hts⟩ (hM) (cwV 2 hts gL_minutesAt_X12_minutesAt rfl rfl rfl (by decide +kernel) ⟨(by show fr + 1 ≤ fr + 1; omega), (by show 8 + (3 + 11) + lo ≤ lo + 22; omega)⟩) (q_pV hA hW hS (ci := 10) rfl hX) rfl rfl hl.1 rfl (lv_room (Nat.le_of_ble_eq_true rfl)) dL_minutesAt_5 ⟨(by show 0 + c1 ≤ c1; omega), (by show 0 + s1 ≤ s1; omega)⟩) hS (fun C9 ce9 q9 f9 n9 H locs hp hW hS h91 h92 h93 => ?_) (fun r_5 f_5 n_5 H locs hp hW hS => hp.elim)
  obtain ⟨rfl, rfl, h94⟩ := hp
  refine vx_catch (own := RL) (name := "java/lang/IllegalArgumentException") hown [] ⟨0, 10, 13, 19⟩ [] htab (fun z hz => nomatch hz) (by decide) (by decide) (hts (.classLink RL 19 "java/lang/IllegalArgumentException") (by decide +kernel)) (va_Nw.use rfl (hA.2.2.2.2.2.2.1 ("java/lang/IllegalArgumentException", "java/lang/IllegalArgumentException") (by decide +kernel))) h91 h92 h93 ?_
  refine lv_astore (lv' := [(4, .ref q9), (0, .ref a), (1, .int x1), (2, .int x2), (3, .ref o)]) hx hb dL_minutesAt_13 hl (by decide) rfl (fun ls hl => ?_)
  refine lv_iconst (v := 1) hx hb dL_minutesAt_15 (by decide) ?_
  exact vx_ret (q_iret hx hb hr hlocks hW hS ⟨rfl, rfl, h94⟩ (by omega) (by omega) dL_minutesAt_16)

set_option maxHeartbeats 4000000 in
set_option maxRecDepth 100000 in
theorem kL_amountFor (l : Launch) (E : q_E) (f : q_H) (n : Nat) (a o : Nat) (z1 z2 z3 z4 z5 z6 : Option Nat) (ep : Int32) (x1 : Int32) (fr c1 s1 lo : Nat) (R : Int32) (Q : q_H → Nat → Prop) (og : Nat → Int64) (hX : f a = some (rX12 z1 z2 z3 z4 z5 z6 ep)) (hM : Met l yX12_amountFor wsX12_amountFor ({ frames := fr, cells := c1, slots := s1, locals := lo }) (q_P E [.ref a, .int x1] f n) (q_Qi E (fun r f1 n1 => R = r ∧ Q f1 n1)) c1 s1 (q_ge E)) (hQ : ∀ f1 n1, Q f1 n1 → f1 o = some (aJ E 1 og)) : vx_Met l yL_amountFor wsL_amountFor ({ frames := fr + 1, cells := c1, slots := s1, locals := lo + 21 }) (q_PN E [.ref a, .int x1, .ref o] f n) (q_Qi E (fun r0 f1 n1 => 0 = r0 ∧ ∃ f9, Q f9 n1 ∧ va_up f9 o (some (aJ E 1 (vp_updL og 0 R.toInt64))) = f1)) (q_XN E) c1 s1 (q_ge E) := by
  refine vx_ofWH (cc := cL_amountFor) (maxL := 4) (hh := [(0, 9, 12, 19)]) (ret := (some .int)) (by decide) rfl ?_
  intro p e s m args below meth c s₁ B hml hv
  obtain ⟨hNc, rfl, hA, hW⟩ := hv
  have hx := B.exec
  have hb := B.bytes
  have hr := B.returns
  have hts := atoms_spec (ws := wsL_amountFor) B.pre
  have hown : s.vm.findClass RL = some m.cls := findClass_of_methodNamed B.named
  have htab : c.exceptionTable.toList = tableOf [(0, 9, 12, 19)] := vx_table (x := yL_amountFor) B (hts _ List.mem_cons_self)
  have hlocks := B.notSynchronized
  have hS : va_S (q_ge E) s.heap s.heap [] := va_S.rf
  have hl := lv_entry ([.ref a, .int x1, .ref o]) (n := 4) (Nat.le_of_ble_eq_true rfl)
  rw [lg_entry_eq]
  generalize (lg_sl ([.ref a, .int x1, .ref o]) ++ List.replicate (4 - (lg_sl ([.ref a, .int x1, .ref o])).length) Slot.unset).toArray = ls at hl ⊢
  have hl : lv_has ls 4 [(0, .ref a), (1, .int x1), (2, .ref o)] := hl
  refine lv_aload_n hx hb dL_amountFor_0 rfl (lv_at hl 2 rfl) ?_
  refine lv_iconst (v := 0) hx hb dL_amountFor_1 (by decide) ?_
  refine lv_aload_n hx hb dL_amountFor_2 rfl (lv_at hl 0 rfl) ?_
  refine lv_iload_n hx hb dL_amountFor_3 rfl (lv_at hl 1 rfl) ?_
  refine q_ci (va_runV (As := [.int x1]) (rest := [.int 0, .ref o]) ⟨hx, hb, hml, hown, hts⟩ (hM) (cwV 1 hts gL_amountFor_X12_amountFor rfl rfl rfl (by decide +kernel) ⟨(by show fr + 1 ≤ fr + 1; omega), (by show 8 + (2 + 11) + lo ≤ lo + 21; omega)⟩) (q_pV hA hW hS (ci := 10) rfl hX) rfl rfl hl.1 rfl (lv_room (Nat.le_of_ble_eq_true rfl)) dL_amountFor_4 ⟨(by show 0 + c1 ≤ c1; omega), (by show 0 + s1 ≤ s1; omega)⟩) hS (fun r_4 f_4 n_4 H locs hp hW hS => ?_)
  obtain ⟨rfl, hq⟩ := hp
  refine lv_i2l hx hb dL_amountFor_7 rfl ?_
  refine q_last hx hb hA hW hS (hQ _ _ hq) (show vp_in (nI 0) 1 from vp_in_nI (by decide) (by decide)) dL_amountFor_8 (fun H locs hW hS => ?_)
  rw [show (0 : Int32).toNatClampNeg = 0 from rfl] at hW
  have hW : q_W E (va_up f_4 o (some (aJ E 1 (vp_updL og 0 R.toInt64)))) n_4 H := hW
  refine lv_goto (tgt := 15) hx hb dL_amountFor_9 (by decide) ?_
  refine lv_iconst (v := 0) hx hb dL_amountFor_15 (by decide) ?_
  exact vx_ret (q_iret hx hb hr hlocks hW hS ⟨rfl, _, hq, rfl⟩ (by omega) (by omega) dL_amountFor_16)

set_option maxHeartbeats 4000000 in
set_option maxRecDepth 100000 in
theorem kL_amountFor_X (l : Launch) (E : q_E) (f : q_H) (n : Nat) (a o : Nat) (z1 z2 z3 z4 z5 z6 : Option Nat) (ep : Int32) (x1 : Int32) (fr c1 s1 lo : Nat) (hX : f a = some (rX12 z1 z2 z3 z4 z5 z6 ep)) (hM : vx_Met l yX12_amountFor wsX12_amountFor ({ frames := fr, cells := c1, slots := s1, locals := lo }) (q_P E [.ref a, .int x1] f n) (q_Qi E (fun _ _ _ => False)) (q_XC E (fun C f1 n1 => C = "java/lang/IllegalArgumentException" ∧ f = f1 ∧ n ≤ n1)) c1 s1 (q_ge E)) : vx_Met l yL_amountFor wsL_amountFor ({ frames := fr + 1, cells := c1, slots := s1, locals := lo + 21 }) (q_PN E [.ref a, .int x1, .ref o] f n) (q_Qi E (fun r0 f1 n1 => 1 = r0 ∧ f = f1 ∧ n ≤ n1)) (q_XN E) c1 s1 (q_ge E) := by
  refine vx_ofWH (cc := cL_amountFor) (maxL := 4) (hh := [(0, 9, 12, 19)]) (ret := (some .int)) (by decide) rfl ?_
  intro p e s m args below meth c s₁ B hml hv
  obtain ⟨hNc, rfl, hA, hW⟩ := hv
  have hx := B.exec
  have hb := B.bytes
  have hr := B.returns
  have hts := atoms_spec (ws := wsL_amountFor) B.pre
  have hown : s.vm.findClass RL = some m.cls := findClass_of_methodNamed B.named
  have htab : c.exceptionTable.toList = tableOf [(0, 9, 12, 19)] := vx_table (x := yL_amountFor) B (hts _ List.mem_cons_self)
  have hlocks := B.notSynchronized
  have hS : va_S (q_ge E) s.heap s.heap [] := va_S.rf
  have hl := lv_entry ([.ref a, .int x1, .ref o]) (n := 4) (Nat.le_of_ble_eq_true rfl)
  rw [lg_entry_eq]
  generalize (lg_sl ([.ref a, .int x1, .ref o]) ++ List.replicate (4 - (lg_sl ([.ref a, .int x1, .ref o])).length) Slot.unset).toArray = ls at hl ⊢
  have hl : lv_has ls 4 [(0, .ref a), (1, .int x1), (2, .ref o)] := hl
  refine lv_aload_n hx hb dL_amountFor_0 rfl (lv_at hl 2 rfl) ?_
  refine lv_iconst (v := 0) hx hb dL_amountFor_1 (by decide) ?_
  refine lv_aload_n hx hb dL_amountFor_2 rfl (lv_at hl 0 rfl) ?_
  refine lv_iload_n hx hb dL_amountFor_3 rfl (lv_at hl 1 rfl) ?_
  refine q_xi (vx_runV (As := [.int x1]) (rest := [.int 0, .ref o]) ⟨hx, hb, hml, hown, hts⟩ (hM) (cwV 1 hts gL_amountFor_X12_amountFor rfl rfl rfl (by decide +kernel) ⟨(by show fr + 1 ≤ fr + 1; omega), (by show 8 + (2 + 11) + lo ≤ lo + 21; omega)⟩) (q_pV hA hW hS (ci := 10) rfl hX) rfl rfl hl.1 rfl (lv_room (Nat.le_of_ble_eq_true rfl)) dL_amountFor_4 ⟨(by show 0 + c1 ≤ c1; omega), (by show 0 + s1 ≤ s1; omega)⟩) hS (fun C9 ce9 q9 f9 n9 H locs hp hW hS h91 h92 h93 => ?_) (fun r_4 f_4 n_4 H locs hp hW hS => hp.elim)
  obtain ⟨rfl, rfl, h94⟩ := hp
  refine vx_catch (own := RL) (name := "java/lang/IllegalArgumentException") hown [] ⟨0, 9, 12, 19⟩ [] htab (fun z hz => nomatch hz) (by decide) (by decide) (hts (.classLink RL 19 "java/lang/IllegalArgumentException") (by decide +kernel)) (va_Nw.use rfl (hA.2.2.2.2.2.2.1 ("java/lang/IllegalArgumentException", "java/lang/IllegalArgumentException") (by decide +kernel))) h91 h92 h93 ?_
  refine lv_astore_n (lv' := [(3, .ref q9), (0, .ref a), (1, .int x1), (2, .ref o)]) hx hb dL_amountFor_12 rfl hl (by decide) rfl (fun ls hl => ?_)
  refine lv_iconst (v := 1) hx hb dL_amountFor_13 (by decide) ?_
  exact vx_ret (q_iret hx hb hr hlocks hW hS ⟨rfl, rfl, h94⟩ (by omega) (by omega) dL_amountFor_14)

set_option maxHeartbeats 4000000 in
set_option maxRecDepth 100000 in
theorem kL_warningsOf (l : Launch) (E : q_E) (f : q_H) (n : Nat) (a o : Nat) (z1 z2 z3 z4 z5 z6 : Option Nat) (ep : Int32) (x1 : Int32) (fr c1 s1 lo : Nat) (R : Int32) (Q : q_H → Nat → Prop) (og : Nat → Int64) (hX : f a = some (rX12 z1 z2 z3 z4 z5 z6 ep)) (hM : Met l yX12_warningsOf wsX12_warningsOf ({ frames := fr, cells := c1, slots := s1, locals := lo }) (q_P E [.ref a, .int x1] f n) (q_Qi E (fun r f1 n1 => R = r ∧ Q f1 n1)) c1 s1 (q_ge E)) (hQ : ∀ f1 n1, Q f1 n1 → f1 o = some (aJ E 1 og)) : vx_Met l yL_warningsOf wsL_warningsOf ({ frames := fr + 1, cells := c1, slots := s1, locals := lo + 21 }) (q_PN E [.ref a, .int x1, .ref o] f n) (q_Qi E (fun r0 f1 n1 => 0 = r0 ∧ ∃ f9, Q f9 n1 ∧ va_up f9 o (some (aJ E 1 (vp_updL og 0 R.toInt64))) = f1)) (q_XN E) c1 s1 (q_ge E) := by
  refine vx_ofWH (cc := cL_warningsOf) (maxL := 4) (hh := [(0, 9, 12, 19)]) (ret := (some .int)) (by decide) rfl ?_
  intro p e s m args below meth c s₁ B hml hv
  obtain ⟨hNc, rfl, hA, hW⟩ := hv
  have hx := B.exec
  have hb := B.bytes
  have hr := B.returns
  have hts := atoms_spec (ws := wsL_warningsOf) B.pre
  have hown : s.vm.findClass RL = some m.cls := findClass_of_methodNamed B.named
  have htab : c.exceptionTable.toList = tableOf [(0, 9, 12, 19)] := vx_table (x := yL_warningsOf) B (hts _ List.mem_cons_self)
  have hlocks := B.notSynchronized
  have hS : va_S (q_ge E) s.heap s.heap [] := va_S.rf
  have hl := lv_entry ([.ref a, .int x1, .ref o]) (n := 4) (Nat.le_of_ble_eq_true rfl)
  rw [lg_entry_eq]
  generalize (lg_sl ([.ref a, .int x1, .ref o]) ++ List.replicate (4 - (lg_sl ([.ref a, .int x1, .ref o])).length) Slot.unset).toArray = ls at hl ⊢
  have hl : lv_has ls 4 [(0, .ref a), (1, .int x1), (2, .ref o)] := hl
  refine lv_aload_n hx hb dL_warningsOf_0 rfl (lv_at hl 2 rfl) ?_
  refine lv_iconst (v := 0) hx hb dL_warningsOf_1 (by decide) ?_
  refine lv_aload_n hx hb dL_warningsOf_2 rfl (lv_at hl 0 rfl) ?_
  refine lv_iload_n hx hb dL_warningsOf_3 rfl (lv_at hl 1 rfl) ?_
  refine q_ci (va_runV (As := [.int x1]) (rest := [.int 0, .ref o]) ⟨hx, hb, hml, hown, hts⟩ (hM) (cwV 1 hts gL_warningsOf_X12_warningsOf rfl rfl rfl (by decide +kernel) ⟨(by show fr + 1 ≤ fr + 1; omega), (by show 8 + (2 + 11) + lo ≤ lo + 21; omega)⟩) (q_pV hA hW hS (ci := 10) rfl hX) rfl rfl hl.1 rfl (lv_room (Nat.le_of_ble_eq_true rfl)) dL_warningsOf_4 ⟨(by show 0 + c1 ≤ c1; omega), (by show 0 + s1 ≤ s1; omega)⟩) hS (fun r_4 f_4 n_4 H locs hp hW hS => ?_)
  obtain ⟨rfl, hq⟩ := hp
  refine lv_i2l hx hb dL_warningsOf_7 rfl ?_
  refine q_last hx hb hA hW hS (hQ _ _ hq) (show vp_in (nI 0) 1 from vp_in_nI (by decide) (by decide)) dL_warningsOf_8 (fun H locs hW hS => ?_)
  rw [show (0 : Int32).toNatClampNeg = 0 from rfl] at hW
  have hW : q_W E (va_up f_4 o (some (aJ E 1 (vp_updL og 0 R.toInt64)))) n_4 H := hW
  refine lv_goto (tgt := 15) hx hb dL_warningsOf_9 (by decide) ?_
  refine lv_iconst (v := 0) hx hb dL_warningsOf_15 (by decide) ?_
  exact vx_ret (q_iret hx hb hr hlocks hW hS ⟨rfl, _, hq, rfl⟩ (by omega) (by omega) dL_warningsOf_16)

set_option maxHeartbeats 4000000 in
set_option maxRecDepth 100000 in
theorem kL_warningsOf_X (l : Launch) (E : q_E) (f : q_H) (n : Nat) (a o : Nat) (z1 z2 z3 z4 z5 z6 : Option Nat) (ep : Int32) (x1 : Int32) (fr c1 s1 lo : Nat) (hX : f a = some (rX12 z1 z2 z3 z4 z5 z6 ep)) (hM : vx_Met l yX12_warningsOf wsX12_warningsOf ({ frames := fr, cells := c1, slots := s1, locals := lo }) (q_P E [.ref a, .int x1] f n) (q_Qi E (fun _ _ _ => False)) (q_XC E (fun C f1 n1 => C = "java/lang/IllegalArgumentException" ∧ f = f1 ∧ n ≤ n1)) c1 s1 (q_ge E)) : vx_Met l yL_warningsOf wsL_warningsOf ({ frames := fr + 1, cells := c1, slots := s1, locals := lo + 21 }) (q_PN E [.ref a, .int x1, .ref o] f n) (q_Qi E (fun r0 f1 n1 => 1 = r0 ∧ f = f1 ∧ n ≤ n1)) (q_XN E) c1 s1 (q_ge E) := by
  refine vx_ofWH (cc := cL_warningsOf) (maxL := 4) (hh := [(0, 9, 12, 19)]) (ret := (some .int)) (by decide) rfl ?_
  intro p e s m args below meth c s₁ B hml hv
  obtain ⟨hNc, rfl, hA, hW⟩ := hv
  have hx := B.exec
  have hb := B.bytes
  have hr := B.returns
  have hts := atoms_spec (ws := wsL_warningsOf) B.pre
  have hown : s.vm.findClass RL = some m.cls := findClass_of_methodNamed B.named
  have htab : c.exceptionTable.toList = tableOf [(0, 9, 12, 19)] := vx_table (x := yL_warningsOf) B (hts _ List.mem_cons_self)
  have hlocks := B.notSynchronized
  have hS : va_S (q_ge E) s.heap s.heap [] := va_S.rf
  have hl := lv_entry ([.ref a, .int x1, .ref o]) (n := 4) (Nat.le_of_ble_eq_true rfl)
  rw [lg_entry_eq]
  generalize (lg_sl ([.ref a, .int x1, .ref o]) ++ List.replicate (4 - (lg_sl ([.ref a, .int x1, .ref o])).length) Slot.unset).toArray = ls at hl ⊢
  have hl : lv_has ls 4 [(0, .ref a), (1, .int x1), (2, .ref o)] := hl
  refine lv_aload_n hx hb dL_warningsOf_0 rfl (lv_at hl 2 rfl) ?_
  refine lv_iconst (v := 0) hx hb dL_warningsOf_1 (by decide) ?_
  refine lv_aload_n hx hb dL_warningsOf_2 rfl (lv_at hl 0 rfl) ?_
  refine lv_iload_n hx hb dL_warningsOf_3 rfl (lv_at hl 1 rfl) ?_
  refine q_xi (vx_runV (As := [.int x1]) (rest := [.int 0, .ref o]) ⟨hx, hb, hml, hown, hts⟩ (hM) (cwV 1 hts gL_warningsOf_X12_warningsOf rfl rfl rfl (by decide +kernel) ⟨(by show fr + 1 ≤ fr + 1; omega), (by show 8 + (2 + 11) + lo ≤ lo + 21; omega)⟩) (q_pV hA hW hS (ci := 10) rfl hX) rfl rfl hl.1 rfl (lv_room (Nat.le_of_ble_eq_true rfl)) dL_warningsOf_4 ⟨(by show 0 + c1 ≤ c1; omega), (by show 0 + s1 ≤ s1; omega)⟩) hS (fun C9 ce9 q9 f9 n9 H locs hp hW hS h91 h92 h93 => ?_) (fun r_4 f_4 n_4 H locs hp hW hS => hp.elim)
  obtain ⟨rfl, rfl, h94⟩ := hp
  refine vx_catch (own := RL) (name := "java/lang/IllegalArgumentException") hown [] ⟨0, 9, 12, 19⟩ [] htab (fun z hz => nomatch hz) (by decide) (by decide) (hts (.classLink RL 19 "java/lang/IllegalArgumentException") (by decide +kernel)) (va_Nw.use rfl (hA.2.2.2.2.2.2.1 ("java/lang/IllegalArgumentException", "java/lang/IllegalArgumentException") (by decide +kernel))) h91 h92 h93 ?_
  refine lv_astore_n (lv' := [(3, .ref q9), (0, .ref a), (1, .int x1), (2, .ref o)]) hx hb dL_warningsOf_12 rfl hl (by decide) rfl (fun ls hl => ?_)
  refine lv_iconst (v := 1) hx hb dL_warningsOf_13 (by decide) ?_
  exact vx_ret (q_iret hx hb hr hlocks hW hS ⟨rfl, rfl, h94⟩ (by omega) (by omega) dL_warningsOf_14)

set_option maxHeartbeats 4000000 in
set_option maxRecDepth 100000 in
theorem kL_warningAt (l : Launch) (E : q_E) (f : q_H) (n : Nat) (a o : Nat) (z1 z2 z3 z4 z5 z6 : Option Nat) (ep : Int32) (x1 : Int32) (fr c1 s1 lo : Nat) (R : Int32) (Q : q_H → Nat → Prop) (og : Nat → Int64) (hX : f a = some (rX12 z1 z2 z3 z4 z5 z6 ep)) (hM : Met l yX12_warningAt wsX12_warningAt ({ frames := fr, cells := c1, slots := s1, locals := lo }) (q_P E [.ref a, .int x1] f n) (q_Qi E (fun r f1 n1 => R = r ∧ Q f1 n1)) c1 s1 (q_ge E)) (hQ : ∀ f1 n1, Q f1 n1 → f1 o = some (aJ E 1 og)) : vx_Met l yL_warningAt wsL_warningAt ({ frames := fr + 1, cells := c1, slots := s1, locals := lo + 21 }) (q_PN E [.ref a, .int x1, .ref o] f n) (q_Qi E (fun r0 f1 n1 => 0 = r0 ∧ ∃ f9, Q f9 n1 ∧ va_up f9 o (some (aJ E 1 (vp_updL og 0 R.toInt64))) = f1)) (q_XN E) c1 s1 (q_ge E) := by
  refine vx_ofWH (cc := cL_warningAt) (maxL := 4) (hh := [(0, 9, 12, 24)]) (ret := (some .int)) (by decide) rfl ?_
  intro p e s m args below meth c s₁ B hml hv
  obtain ⟨hNc, rfl, hA, hW⟩ := hv
  have hx := B.exec
  have hb := B.bytes
  have hr := B.returns
  have hts := atoms_spec (ws := wsL_warningAt) B.pre
  have hown : s.vm.findClass RL = some m.cls := findClass_of_methodNamed B.named
  have htab : c.exceptionTable.toList = tableOf [(0, 9, 12, 24)] := vx_table (x := yL_warningAt) B (hts _ List.mem_cons_self)
  have hlocks := B.notSynchronized
  have hS : va_S (q_ge E) s.heap s.heap [] := va_S.rf
  have hl := lv_entry ([.ref a, .int x1, .ref o]) (n := 4) (Nat.le_of_ble_eq_true rfl)
  rw [lg_entry_eq]
  generalize (lg_sl ([.ref a, .int x1, .ref o]) ++ List.replicate (4 - (lg_sl ([.ref a, .int x1, .ref o])).length) Slot.unset).toArray = ls at hl ⊢
  have hl : lv_has ls 4 [(0, .ref a), (1, .int x1), (2, .ref o)] := hl
  refine lv_aload_n hx hb dL_warningAt_0 rfl (lv_at hl 2 rfl) ?_
  refine lv_iconst (v := 0) hx hb dL_warningAt_1 (by decide) ?_
  refine lv_aload_n hx hb dL_warningAt_2 rfl (lv_at hl 0 rfl) ?_
  refine lv_iload_n hx hb dL_warningAt_3 rfl (lv_at hl 1 rfl) ?_
  refine q_ci (va_runV (As := [.int x1]) (rest := [.int 0, .ref o]) ⟨hx, hb, hml, hown, hts⟩ (hM) (cwV 1 hts gL_warningAt_X12_warningAt rfl rfl rfl (by decide +kernel) ⟨(by show fr + 1 ≤ fr + 1; omega), (by show 8 + (2 + 11) + lo ≤ lo + 21; omega)⟩) (q_pV hA hW hS (ci := 10) rfl hX) rfl rfl hl.1 rfl (lv_room (Nat.le_of_ble_eq_true rfl)) dL_warningAt_4 ⟨(by show 0 + c1 ≤ c1; omega), (by show 0 + s1 ≤ s1; omega)⟩) hS (fun r_4 f_4 n_4 H locs hp hW hS => ?_)
  obtain ⟨rfl, hq⟩ := hp
  refine lv_i2l hx hb dL_warningAt_7 rfl ?_
  refine q_last hx hb hA hW hS (hQ _ _ hq) (show vp_in (nI 0) 1 from vp_in_nI (by decide) (by decide)) dL_warningAt_8 (fun H locs hW hS => ?_)
  rw [show (0 : Int32).toNatClampNeg = 0 from rfl] at hW
  have hW : q_W E (va_up f_4 o (some (aJ E 1 (vp_updL og 0 R.toInt64)))) n_4 H := hW
  refine lv_goto (tgt := 15) hx hb dL_warningAt_9 (by decide) ?_
  refine lv_iconst (v := 0) hx hb dL_warningAt_15 (by decide) ?_
  exact vx_ret (q_iret hx hb hr hlocks hW hS ⟨rfl, _, hq, rfl⟩ (by omega) (by omega) dL_warningAt_16)

set_option maxHeartbeats 4000000 in
set_option maxRecDepth 100000 in
theorem kL_warningAt_X (l : Launch) (E : q_E) (f : q_H) (n : Nat) (a o : Nat) (z1 z2 z3 z4 z5 z6 : Option Nat) (ep : Int32) (x1 : Int32) (fr c1 s1 lo : Nat) (hX : f a = some (rX12 z1 z2 z3 z4 z5 z6 ep)) (hM : vx_Met l yX12_warningAt wsX12_warningAt ({ frames := fr, cells := c1, slots := s1, locals := lo }) (q_P E [.ref a, .int x1] f n) (q_Qi E (fun _ _ _ => False)) (q_XC E (fun C f1 n1 => C = "java/lang/IndexOutOfBoundsException" ∧ f = f1 ∧ n ≤ n1)) c1 s1 (q_ge E)) : vx_Met l yL_warningAt wsL_warningAt ({ frames := fr + 1, cells := c1, slots := s1, locals := lo + 21 }) (q_PN E [.ref a, .int x1, .ref o] f n) (q_Qi E (fun r0 f1 n1 => 1 = r0 ∧ f = f1 ∧ n ≤ n1)) (q_XN E) c1 s1 (q_ge E) := by
  refine vx_ofWH (cc := cL_warningAt) (maxL := 4) (hh := [(0, 9, 12, 24)]) (ret := (some .int)) (by decide) rfl ?_
  intro p e s m args below meth c s₁ B hml hv
  obtain ⟨hNc, rfl, hA, hW⟩ := hv
  have hx := B.exec
  have hb := B.bytes
  have hr := B.returns
  have hts := atoms_spec (ws := wsL_warningAt) B.pre
  have hown : s.vm.findClass RL = some m.cls := findClass_of_methodNamed B.named
  have htab : c.exceptionTable.toList = tableOf [(0, 9, 12, 24)] := vx_table (x := yL_warningAt) B (hts _ List.mem_cons_self)
  have hlocks := B.notSynchronized
  have hS : va_S (q_ge E) s.heap s.heap [] := va_S.rf
  have hl := lv_entry ([.ref a, .int x1, .ref o]) (n := 4) (Nat.le_of_ble_eq_true rfl)
  rw [lg_entry_eq]
  generalize (lg_sl ([.ref a, .int x1, .ref o]) ++ List.replicate (4 - (lg_sl ([.ref a, .int x1, .ref o])).length) Slot.unset).toArray = ls at hl ⊢
  have hl : lv_has ls 4 [(0, .ref a), (1, .int x1), (2, .ref o)] := hl
  refine lv_aload_n hx hb dL_warningAt_0 rfl (lv_at hl 2 rfl) ?_
  refine lv_iconst (v := 0) hx hb dL_warningAt_1 (by decide) ?_
  refine lv_aload_n hx hb dL_warningAt_2 rfl (lv_at hl 0 rfl) ?_
  refine lv_iload_n hx hb dL_warningAt_3 rfl (lv_at hl 1 rfl) ?_
  refine q_xi (vx_runV (As := [.int x1]) (rest := [.int 0, .ref o]) ⟨hx, hb, hml, hown, hts⟩ (hM) (cwV 1 hts gL_warningAt_X12_warningAt rfl rfl rfl (by decide +kernel) ⟨(by show fr + 1 ≤ fr + 1; omega), (by show 8 + (2 + 11) + lo ≤ lo + 21; omega)⟩) (q_pV hA hW hS (ci := 10) rfl hX) rfl rfl hl.1 rfl (lv_room (Nat.le_of_ble_eq_true rfl)) dL_warningAt_4 ⟨(by show 0 + c1 ≤ c1; omega), (by show 0 + s1 ≤ s1; omega)⟩) hS (fun C9 ce9 q9 f9 n9 H locs hp hW hS h91 h92 h93 => ?_) (fun r_4 f_4 n_4 H locs hp hW hS => hp.elim)
  obtain ⟨rfl, rfl, h94⟩ := hp
  refine vx_catch (own := RL) (name := "java/lang/IndexOutOfBoundsException") hown [] ⟨0, 9, 12, 24⟩ [] htab (fun z hz => nomatch hz) (by decide) (by decide) (hts (.classLink RL 24 "java/lang/IndexOutOfBoundsException") (by decide +kernel)) (va_Nw.use rfl (hA.2.2.2.2.2.2.1 ("java/lang/IndexOutOfBoundsException", "java/lang/IndexOutOfBoundsException") (by decide +kernel))) h91 h92 h93 ?_
  refine lv_astore_n (lv' := [(3, .ref q9), (0, .ref a), (1, .int x1), (2, .ref o)]) hx hb dL_warningAt_12 rfl hl (by decide) rfl (fun ls hl => ?_)
  refine lv_iconst (v := 1) hx hb dL_warningAt_13 (by decide) ?_
  exact vx_ret (q_iret hx hb hr hlocks hW hS ⟨rfl, rfl, h94⟩ (by omega) (by omega) dL_warningAt_14)

set_option maxHeartbeats 4000000 in
set_option maxRecDepth 100000 in
theorem kL_noteAt (l : Launch) (E : q_E) (f : q_H) (n : Nat) (a o : Nat) (z1 z2 z3 z4 z5 z6 : Option Nat) (ep : Int32) (x1 : Int32) (fr c1 s1 lo : Nat) (R : Int32) (Q : q_H → Nat → Prop) (og : Nat → Int64) (hX : f a = some (rX12 z1 z2 z3 z4 z5 z6 ep)) (hM : Met l yX12_noteAt wsX12_noteAt ({ frames := fr, cells := c1, slots := s1, locals := lo }) (q_P E [.ref a, .int x1] f n) (q_Qi E (fun r f1 n1 => R = r ∧ Q f1 n1)) c1 s1 (q_ge E)) (hQ : ∀ f1 n1, Q f1 n1 → f1 o = some (aJ E 1 og)) : vx_Met l yL_noteAt wsL_noteAt ({ frames := fr + 1, cells := c1, slots := s1, locals := lo + 21 }) (q_PN E [.ref a, .int x1, .ref o] f n) (q_Qi E (fun r0 f1 n1 => 0 = r0 ∧ ∃ f9, Q f9 n1 ∧ va_up f9 o (some (aJ E 1 (vp_updL og 0 R.toInt64))) = f1)) (q_XN E) c1 s1 (q_ge E) := by
  refine vx_ofWH (cc := cL_noteAt) (maxL := 4) (hh := [(0, 9, 12, 24)]) (ret := (some .int)) (by decide) rfl ?_
  intro p e s m args below meth c s₁ B hml hv
  obtain ⟨hNc, rfl, hA, hW⟩ := hv
  have hx := B.exec
  have hb := B.bytes
  have hr := B.returns
  have hts := atoms_spec (ws := wsL_noteAt) B.pre
  have hown : s.vm.findClass RL = some m.cls := findClass_of_methodNamed B.named
  have htab : c.exceptionTable.toList = tableOf [(0, 9, 12, 24)] := vx_table (x := yL_noteAt) B (hts _ List.mem_cons_self)
  have hlocks := B.notSynchronized
  have hS : va_S (q_ge E) s.heap s.heap [] := va_S.rf
  have hl := lv_entry ([.ref a, .int x1, .ref o]) (n := 4) (Nat.le_of_ble_eq_true rfl)
  rw [lg_entry_eq]
  generalize (lg_sl ([.ref a, .int x1, .ref o]) ++ List.replicate (4 - (lg_sl ([.ref a, .int x1, .ref o])).length) Slot.unset).toArray = ls at hl ⊢
  have hl : lv_has ls 4 [(0, .ref a), (1, .int x1), (2, .ref o)] := hl
  refine lv_aload_n hx hb dL_noteAt_0 rfl (lv_at hl 2 rfl) ?_
  refine lv_iconst (v := 0) hx hb dL_noteAt_1 (by decide) ?_
  refine lv_aload_n hx hb dL_noteAt_2 rfl (lv_at hl 0 rfl) ?_
  refine lv_iload_n hx hb dL_noteAt_3 rfl (lv_at hl 1 rfl) ?_
  refine q_ci (va_runV (As := [.int x1]) (rest := [.int 0, .ref o]) ⟨hx, hb, hml, hown, hts⟩ (hM) (cwV 1 hts gL_noteAt_X12_noteAt rfl rfl rfl (by decide +kernel) ⟨(by show fr + 1 ≤ fr + 1; omega), (by show 8 + (2 + 11) + lo ≤ lo + 21; omega)⟩) (q_pV hA hW hS (ci := 10) rfl hX) rfl rfl hl.1 rfl (lv_room (Nat.le_of_ble_eq_true rfl)) dL_noteAt_4 ⟨(by show 0 + c1 ≤ c1; omega), (by show 0 + s1 ≤ s1; omega)⟩) hS (fun r_4 f_4 n_4 H locs hp hW hS => ?_)
  obtain ⟨rfl, hq⟩ := hp
  refine lv_i2l hx hb dL_noteAt_7 rfl ?_
  refine q_last hx hb hA hW hS (hQ _ _ hq) (show vp_in (nI 0) 1 from vp_in_nI (by decide) (by decide)) dL_noteAt_8 (fun H locs hW hS => ?_)
  rw [show (0 : Int32).toNatClampNeg = 0 from rfl] at hW
  have hW : q_W E (va_up f_4 o (some (aJ E 1 (vp_updL og 0 R.toInt64)))) n_4 H := hW
  refine lv_goto (tgt := 15) hx hb dL_noteAt_9 (by decide) ?_
  refine lv_iconst (v := 0) hx hb dL_noteAt_15 (by decide) ?_
  exact vx_ret (q_iret hx hb hr hlocks hW hS ⟨rfl, _, hq, rfl⟩ (by omega) (by omega) dL_noteAt_16)

set_option maxHeartbeats 4000000 in
set_option maxRecDepth 100000 in
theorem kL_noteAt_X (l : Launch) (E : q_E) (f : q_H) (n : Nat) (a o : Nat) (z1 z2 z3 z4 z5 z6 : Option Nat) (ep : Int32) (x1 : Int32) (fr c1 s1 lo : Nat) (hX : f a = some (rX12 z1 z2 z3 z4 z5 z6 ep)) (hM : vx_Met l yX12_noteAt wsX12_noteAt ({ frames := fr, cells := c1, slots := s1, locals := lo }) (q_P E [.ref a, .int x1] f n) (q_Qi E (fun _ _ _ => False)) (q_XC E (fun C f1 n1 => C = "java/lang/IndexOutOfBoundsException" ∧ f = f1 ∧ n ≤ n1)) c1 s1 (q_ge E)) : vx_Met l yL_noteAt wsL_noteAt ({ frames := fr + 1, cells := c1, slots := s1, locals := lo + 21 }) (q_PN E [.ref a, .int x1, .ref o] f n) (q_Qi E (fun r0 f1 n1 => 1 = r0 ∧ f = f1 ∧ n ≤ n1)) (q_XN E) c1 s1 (q_ge E) := by
  refine vx_ofWH (cc := cL_noteAt) (maxL := 4) (hh := [(0, 9, 12, 24)]) (ret := (some .int)) (by decide) rfl ?_
  intro p e s m args below meth c s₁ B hml hv
  obtain ⟨hNc, rfl, hA, hW⟩ := hv
  have hx := B.exec
  have hb := B.bytes
  have hr := B.returns
  have hts := atoms_spec (ws := wsL_noteAt) B.pre
  have hown : s.vm.findClass RL = some m.cls := findClass_of_methodNamed B.named
  have htab : c.exceptionTable.toList = tableOf [(0, 9, 12, 24)] := vx_table (x := yL_noteAt) B (hts _ List.mem_cons_self)
  have hlocks := B.notSynchronized
  have hS : va_S (q_ge E) s.heap s.heap [] := va_S.rf
  have hl := lv_entry ([.ref a, .int x1, .ref o]) (n := 4) (Nat.le_of_ble_eq_true rfl)
  rw [lg_entry_eq]
  generalize (lg_sl ([.ref a, .int x1, .ref o]) ++ List.replicate (4 - (lg_sl ([.ref a, .int x1, .ref o])).length) Slot.unset).toArray = ls at hl ⊢
  have hl : lv_has ls 4 [(0, .ref a), (1, .int x1), (2, .ref o)] := hl
  refine lv_aload_n hx hb dL_noteAt_0 rfl (lv_at hl 2 rfl) ?_
  refine lv_iconst (v := 0) hx hb dL_noteAt_1 (by decide) ?_
  refine lv_aload_n hx hb dL_noteAt_2 rfl (lv_at hl 0 rfl) ?_
  refine lv_iload_n hx hb dL_noteAt_3 rfl (lv_at hl 1 rfl) ?_
  refine q_xi (vx_runV (As := [.int x1]) (rest := [.int 0, .ref o]) ⟨hx, hb, hml, hown, hts⟩ (hM) (cwV 1 hts gL_noteAt_X12_noteAt rfl rfl rfl (by decide +kernel) ⟨(by show fr + 1 ≤ fr + 1; omega), (by show 8 + (2 + 11) + lo ≤ lo + 21; omega)⟩) (q_pV hA hW hS (ci := 10) rfl hX) rfl rfl hl.1 rfl (lv_room (Nat.le_of_ble_eq_true rfl)) dL_noteAt_4 ⟨(by show 0 + c1 ≤ c1; omega), (by show 0 + s1 ≤ s1; omega)⟩) hS (fun C9 ce9 q9 f9 n9 H locs hp hW hS h91 h92 h93 => ?_) (fun r_4 f_4 n_4 H locs hp hW hS => hp.elim)
  obtain ⟨rfl, rfl, h94⟩ := hp
  refine vx_catch (own := RL) (name := "java/lang/IndexOutOfBoundsException") hown [] ⟨0, 9, 12, 24⟩ [] htab (fun z hz => nomatch hz) (by decide) (by decide) (hts (.classLink RL 24 "java/lang/IndexOutOfBoundsException") (by decide +kernel)) (va_Nw.use rfl (hA.2.2.2.2.2.2.1 ("java/lang/IndexOutOfBoundsException", "java/lang/IndexOutOfBoundsException") (by decide +kernel))) h91 h92 h93 ?_
  refine lv_astore_n (lv' := [(3, .ref q9), (0, .ref a), (1, .int x1), (2, .ref o)]) hx hb dL_noteAt_12 rfl hl (by decide) rfl (fun ls hl => ?_)
  refine lv_iconst (v := 1) hx hb dL_noteAt_13 (by decide) ?_
  exact vx_ret (q_iret hx hb hr hlocks hW hS ⟨rfl, rfl, h94⟩ (by omega) (by omega) dL_noteAt_14)

set_option maxHeartbeats 4000000 in
set_option maxRecDepth 100000 in
theorem kL_setAltitude (l : Launch) (E : q_E) (f : q_H) (n : Nat) (a o : Nat) (z1 z2 z3 z4 z5 z6 : Option Nat) (ep : Int32) (x1 : Int32) (fr c1 s1 lo : Nat) (R : Int32) (Q : q_H → Nat → Prop) (og : Nat → Int64) (hX : f a = some (rX12 z1 z2 z3 z4 z5 z6 ep)) (hM : Met l yX12_setAltitude wsX12_setAltitude ({ frames := fr, cells := c1, slots := s1, locals := lo }) (q_P E [.ref a, .int x1] f n) (q_Qi E (fun r f1 n1 => R = r ∧ Q f1 n1)) c1 s1 (q_ge E)) (hQ : ∀ f1 n1, Q f1 n1 → f1 o = some (aJ E 1 og)) : vx_Met l yL_setAltitude wsL_setAltitude ({ frames := fr + 1, cells := c1, slots := s1, locals := lo + 22 }) (q_PN E [.ref a, .int x1, .ref o] f n) (q_Qi E (fun r0 f1 n1 => 0 = r0 ∧ ∃ f9, Q f9 n1 ∧ va_up f9 o (some (aJ E 1 (vp_updL og 0 R.toInt64))) = f1)) (q_XN E) c1 s1 (q_ge E) := by
  refine vx_ofWH (cc := cL_setAltitude) (maxL := 4) (hh := [(0, 9, 12, 19)]) (ret := (some .int)) (by decide) rfl ?_
  intro p e s m args below meth c s₁ B hml hv
  obtain ⟨hNc, rfl, hA, hW⟩ := hv
  have hx := B.exec
  have hb := B.bytes
  have hr := B.returns
  have hts := atoms_spec (ws := wsL_setAltitude) B.pre
  have hown : s.vm.findClass RL = some m.cls := findClass_of_methodNamed B.named
  have htab : c.exceptionTable.toList = tableOf [(0, 9, 12, 19)] := vx_table (x := yL_setAltitude) B (hts _ List.mem_cons_self)
  have hlocks := B.notSynchronized
  have hS : va_S (q_ge E) s.heap s.heap [] := va_S.rf
  have hl := lv_entry ([.ref a, .int x1, .ref o]) (n := 4) (Nat.le_of_ble_eq_true rfl)
  rw [lg_entry_eq]
  generalize (lg_sl ([.ref a, .int x1, .ref o]) ++ List.replicate (4 - (lg_sl ([.ref a, .int x1, .ref o])).length) Slot.unset).toArray = ls at hl ⊢
  have hl : lv_has ls 4 [(0, .ref a), (1, .int x1), (2, .ref o)] := hl
  refine lv_aload_n hx hb dL_setAltitude_0 rfl (lv_at hl 2 rfl) ?_
  refine lv_iconst (v := 0) hx hb dL_setAltitude_1 (by decide) ?_
  refine lv_aload_n hx hb dL_setAltitude_2 rfl (lv_at hl 0 rfl) ?_
  refine lv_iload_n hx hb dL_setAltitude_3 rfl (lv_at hl 1 rfl) ?_
  refine q_ci (va_runV (As := [.int x1]) (rest := [.int 0, .ref o]) ⟨hx, hb, hml, hown, hts⟩ (hM) (cwV 1 hts gL_setAltitude_X12_setAltitude rfl rfl rfl (by decide +kernel) ⟨(by show fr + 1 ≤ fr + 1; omega), (by show 8 + (3 + 11) + lo ≤ lo + 22; omega)⟩) (q_pV hA hW hS (ci := 10) rfl hX) rfl rfl hl.1 rfl (lv_room (Nat.le_of_ble_eq_true rfl)) dL_setAltitude_4 ⟨(by show 0 + c1 ≤ c1; omega), (by show 0 + s1 ≤ s1; omega)⟩) hS (fun r_4 f_4 n_4 H locs hp hW hS => ?_)
  obtain ⟨rfl, hq⟩ := hp
  refine lv_i2l hx hb dL_setAltitude_7 rfl ?_
  refine q_last hx hb hA hW hS (hQ _ _ hq) (show vp_in (nI 0) 1 from vp_in_nI (by decide) (by decide)) dL_setAltitude_8 (fun H locs hW hS => ?_)
  rw [show (0 : Int32).toNatClampNeg = 0 from rfl] at hW
  have hW : q_W E (va_up f_4 o (some (aJ E 1 (vp_updL og 0 R.toInt64)))) n_4 H := hW
  refine lv_goto (tgt := 15) hx hb dL_setAltitude_9 (by decide) ?_
  refine lv_iconst (v := 0) hx hb dL_setAltitude_15 (by decide) ?_
  exact vx_ret (q_iret hx hb hr hlocks hW hS ⟨rfl, _, hq, rfl⟩ (by omega) (by omega) dL_setAltitude_16)

set_option maxHeartbeats 4000000 in
set_option maxRecDepth 100000 in
theorem kL_setAltitude_X (l : Launch) (E : q_E) (f : q_H) (n : Nat) (a o : Nat) (z1 z2 z3 z4 z5 z6 : Option Nat) (ep : Int32) (x1 : Int32) (fr c1 s1 lo : Nat) (hX : f a = some (rX12 z1 z2 z3 z4 z5 z6 ep)) (hM : vx_Met l yX12_setAltitude wsX12_setAltitude ({ frames := fr, cells := c1, slots := s1, locals := lo }) (q_P E [.ref a, .int x1] f n) (q_Qi E (fun _ _ _ => False)) (q_XC E (fun C f1 n1 => C = "java/lang/IllegalArgumentException" ∧ f = f1 ∧ n ≤ n1)) c1 s1 (q_ge E)) : vx_Met l yL_setAltitude wsL_setAltitude ({ frames := fr + 1, cells := c1, slots := s1, locals := lo + 22 }) (q_PN E [.ref a, .int x1, .ref o] f n) (q_Qi E (fun r0 f1 n1 => 1 = r0 ∧ f = f1 ∧ n ≤ n1)) (q_XN E) c1 s1 (q_ge E) := by
  refine vx_ofWH (cc := cL_setAltitude) (maxL := 4) (hh := [(0, 9, 12, 19)]) (ret := (some .int)) (by decide) rfl ?_
  intro p e s m args below meth c s₁ B hml hv
  obtain ⟨hNc, rfl, hA, hW⟩ := hv
  have hx := B.exec
  have hb := B.bytes
  have hr := B.returns
  have hts := atoms_spec (ws := wsL_setAltitude) B.pre
  have hown : s.vm.findClass RL = some m.cls := findClass_of_methodNamed B.named
  have htab : c.exceptionTable.toList = tableOf [(0, 9, 12, 19)] := vx_table (x := yL_setAltitude) B (hts _ List.mem_cons_self)
  have hlocks := B.notSynchronized
  have hS : va_S (q_ge E) s.heap s.heap [] := va_S.rf
  have hl := lv_entry ([.ref a, .int x1, .ref o]) (n := 4) (Nat.le_of_ble_eq_true rfl)
  rw [lg_entry_eq]
  generalize (lg_sl ([.ref a, .int x1, .ref o]) ++ List.replicate (4 - (lg_sl ([.ref a, .int x1, .ref o])).length) Slot.unset).toArray = ls at hl ⊢
  have hl : lv_has ls 4 [(0, .ref a), (1, .int x1), (2, .ref o)] := hl
  refine lv_aload_n hx hb dL_setAltitude_0 rfl (lv_at hl 2 rfl) ?_
  refine lv_iconst (v := 0) hx hb dL_setAltitude_1 (by decide) ?_
  refine lv_aload_n hx hb dL_setAltitude_2 rfl (lv_at hl 0 rfl) ?_
  refine lv_iload_n hx hb dL_setAltitude_3 rfl (lv_at hl 1 rfl) ?_
  refine q_xi (vx_runV (As := [.int x1]) (rest := [.int 0, .ref o]) ⟨hx, hb, hml, hown, hts⟩ (hM) (cwV 1 hts gL_setAltitude_X12_setAltitude rfl rfl rfl (by decide +kernel) ⟨(by show fr + 1 ≤ fr + 1; omega), (by show 8 + (3 + 11) + lo ≤ lo + 22; omega)⟩) (q_pV hA hW hS (ci := 10) rfl hX) rfl rfl hl.1 rfl (lv_room (Nat.le_of_ble_eq_true rfl)) dL_setAltitude_4 ⟨(by show 0 + c1 ≤ c1; omega), (by show 0 + s1 ≤ s1; omega)⟩) hS (fun C9 ce9 q9 f9 n9 H locs hp hW hS h91 h92 h93 => ?_) (fun r_4 f_4 n_4 H locs hp hW hS => hp.elim)
  obtain ⟨rfl, rfl, h94⟩ := hp
  refine vx_catch (own := RL) (name := "java/lang/IllegalArgumentException") hown [] ⟨0, 9, 12, 19⟩ [] htab (fun z hz => nomatch hz) (by decide) (by decide) (hts (.classLink RL 19 "java/lang/IllegalArgumentException") (by decide +kernel)) (va_Nw.use rfl (hA.2.2.2.2.2.2.1 ("java/lang/IllegalArgumentException", "java/lang/IllegalArgumentException") (by decide +kernel))) h91 h92 h93 ?_
  refine lv_astore_n (lv' := [(3, .ref q9), (0, .ref a), (1, .int x1), (2, .ref o)]) hx hb dL_setAltitude_12 rfl hl (by decide) rfl (fun ls hl => ?_)
  refine lv_iconst (v := 1) hx hb dL_setAltitude_13 (by decide) ?_
  exact vx_ret (q_iret hx hb hr hlocks hW hS ⟨rfl, rfl, h94⟩ (by omega) (by omega) dL_setAltitude_14)

set_option maxHeartbeats 4000000 in
set_option maxRecDepth 100000 in
theorem kL_setServings (l : Launch) (E : q_E) (f : q_H) (n : Nat) (a o : Nat) (z1 z2 z3 z4 z5 z6 : Option Nat) (ep : Int32) (x1 : Int32) (fr c1 s1 lo : Nat) (R : Int32) (Q : q_H → Nat → Prop) (og : Nat → Int64) (hX : f a = some (rX12 z1 z2 z3 z4 z5 z6 ep)) (hM : Met l yX12_setServings wsX12_setServings ({ frames := fr, cells := c1, slots := s1, locals := lo }) (q_P E [.ref a, .int x1] f n) (q_Qi E (fun r f1 n1 => R = r ∧ Q f1 n1)) c1 s1 (q_ge E)) (hQ : ∀ f1 n1, Q f1 n1 → f1 o = some (aJ E 1 og)) : vx_Met l yL_setServings wsL_setServings ({ frames := fr + 1, cells := c1, slots := s1, locals := lo + 22 }) (q_PN E [.ref a, .int x1, .ref o] f n) (q_Qi E (fun r0 f1 n1 => 0 = r0 ∧ ∃ f9, Q f9 n1 ∧ va_up f9 o (some (aJ E 1 (vp_updL og 0 R.toInt64))) = f1)) (q_XN E) c1 s1 (q_ge E) := by
  refine vx_ofWH (cc := cL_setServings) (maxL := 4) (hh := [(0, 9, 12, 19)]) (ret := (some .int)) (by decide) rfl ?_
  intro p e s m args below meth c s₁ B hml hv
  obtain ⟨hNc, rfl, hA, hW⟩ := hv
  have hx := B.exec
  have hb := B.bytes
  have hr := B.returns
  have hts := atoms_spec (ws := wsL_setServings) B.pre
  have hown : s.vm.findClass RL = some m.cls := findClass_of_methodNamed B.named
  have htab : c.exceptionTable.toList = tableOf [(0, 9, 12, 19)] := vx_table (x := yL_setServings) B (hts _ List.mem_cons_self)
  have hlocks := B.notSynchronized
  have hS : va_S (q_ge E) s.heap s.heap [] := va_S.rf
  have hl := lv_entry ([.ref a, .int x1, .ref o]) (n := 4) (Nat.le_of_ble_eq_true rfl)
  rw [lg_entry_eq]
  generalize (lg_sl ([.ref a, .int x1, .ref o]) ++ List.replicate (4 - (lg_sl ([.ref a, .int x1, .ref o])).length) Slot.unset).toArray = ls at hl ⊢
  have hl : lv_has ls 4 [(0, .ref a), (1, .int x1), (2, .ref o)] := hl
  refine lv_aload_n hx hb dL_setServings_0 rfl (lv_at hl 2 rfl) ?_
  refine lv_iconst (v := 0) hx hb dL_setServings_1 (by decide) ?_
  refine lv_aload_n hx hb dL_setServings_2 rfl (lv_at hl 0 rfl) ?_
  refine lv_iload_n hx hb dL_setServings_3 rfl (lv_at hl 1 rfl) ?_
  refine q_ci (va_runV (As := [.int x1]) (rest := [.int 0, .ref o]) ⟨hx, hb, hml, hown, hts⟩ (hM) (cwV 1 hts gL_setServings_X12_setServings rfl rfl rfl (by decide +kernel) ⟨(by show fr + 1 ≤ fr + 1; omega), (by show 8 + (3 + 11) + lo ≤ lo + 22; omega)⟩) (q_pV hA hW hS (ci := 10) rfl hX) rfl rfl hl.1 rfl (lv_room (Nat.le_of_ble_eq_true rfl)) dL_setServings_4 ⟨(by show 0 + c1 ≤ c1; omega), (by show 0 + s1 ≤ s1; omega)⟩) hS (fun r_4 f_4 n_4 H locs hp hW hS => ?_)
  obtain ⟨rfl, hq⟩ := hp
  refine lv_i2l hx hb dL_setServings_7 rfl ?_
  refine q_last hx hb hA hW hS (hQ _ _ hq) (show vp_in (nI 0) 1 from vp_in_nI (by decide) (by decide)) dL_setServings_8 (fun H locs hW hS => ?_)
  rw [show (0 : Int32).toNatClampNeg = 0 from rfl] at hW
  have hW : q_W E (va_up f_4 o (some (aJ E 1 (vp_updL og 0 R.toInt64)))) n_4 H := hW
  refine lv_goto (tgt := 15) hx hb dL_setServings_9 (by decide) ?_
  refine lv_iconst (v := 0) hx hb dL_setServings_15 (by decide) ?_
  exact vx_ret (q_iret hx hb hr hlocks hW hS ⟨rfl, _, hq, rfl⟩ (by omega) (by omega) dL_setServings_16)

set_option maxHeartbeats 4000000 in
set_option maxRecDepth 100000 in
theorem kL_setServings_X (l : Launch) (E : q_E) (f : q_H) (n : Nat) (a o : Nat) (z1 z2 z3 z4 z5 z6 : Option Nat) (ep : Int32) (x1 : Int32) (fr c1 s1 lo : Nat) (hX : f a = some (rX12 z1 z2 z3 z4 z5 z6 ep)) (hM : vx_Met l yX12_setServings wsX12_setServings ({ frames := fr, cells := c1, slots := s1, locals := lo }) (q_P E [.ref a, .int x1] f n) (q_Qi E (fun _ _ _ => False)) (q_XC E (fun C f1 n1 => C = "java/lang/IllegalArgumentException" ∧ f = f1 ∧ n ≤ n1)) c1 s1 (q_ge E)) : vx_Met l yL_setServings wsL_setServings ({ frames := fr + 1, cells := c1, slots := s1, locals := lo + 22 }) (q_PN E [.ref a, .int x1, .ref o] f n) (q_Qi E (fun r0 f1 n1 => 1 = r0 ∧ f = f1 ∧ n ≤ n1)) (q_XN E) c1 s1 (q_ge E) := by
  refine vx_ofWH (cc := cL_setServings) (maxL := 4) (hh := [(0, 9, 12, 19)]) (ret := (some .int)) (by decide) rfl ?_
  intro p e s m args below meth c s₁ B hml hv
  obtain ⟨hNc, rfl, hA, hW⟩ := hv
  have hx := B.exec
  have hb := B.bytes
  have hr := B.returns
  have hts := atoms_spec (ws := wsL_setServings) B.pre
  have hown : s.vm.findClass RL = some m.cls := findClass_of_methodNamed B.named
  have htab : c.exceptionTable.toList = tableOf [(0, 9, 12, 19)] := vx_table (x := yL_setServings) B (hts _ List.mem_cons_self)
  have hlocks := B.notSynchronized
  have hS : va_S (q_ge E) s.heap s.heap [] := va_S.rf
  have hl := lv_entry ([.ref a, .int x1, .ref o]) (n := 4) (Nat.le_of_ble_eq_true rfl)
  rw [lg_entry_eq]
  generalize (lg_sl ([.ref a, .int x1, .ref o]) ++ List.replicate (4 - (lg_sl ([.ref a, .int x1, .ref o])).length) Slot.unset).toArray = ls at hl ⊢
  have hl : lv_has ls 4 [(0, .ref a), (1, .int x1), (2, .ref o)] := hl
  refine lv_aload_n hx hb dL_setServings_0 rfl (lv_at hl 2 rfl) ?_
  refine lv_iconst (v := 0) hx hb dL_setServings_1 (by decide) ?_
  refine lv_aload_n hx hb dL_setServings_2 rfl (lv_at hl 0 rfl) ?_
  refine lv_iload_n hx hb dL_setServings_3 rfl (lv_at hl 1 rfl) ?_
  refine q_xi (vx_runV (As := [.int x1]) (rest := [.int 0, .ref o]) ⟨hx, hb, hml, hown, hts⟩ (hM) (cwV 1 hts gL_setServings_X12_setServings rfl rfl rfl (by decide +kernel) ⟨(by show fr + 1 ≤ fr + 1; omega), (by show 8 + (3 + 11) + lo ≤ lo + 22; omega)⟩) (q_pV hA hW hS (ci := 10) rfl hX) rfl rfl hl.1 rfl (lv_room (Nat.le_of_ble_eq_true rfl)) dL_setServings_4 ⟨(by show 0 + c1 ≤ c1; omega), (by show 0 + s1 ≤ s1; omega)⟩) hS (fun C9 ce9 q9 f9 n9 H locs hp hW hS h91 h92 h93 => ?_) (fun r_4 f_4 n_4 H locs hp hW hS => hp.elim)
  obtain ⟨rfl, rfl, h94⟩ := hp
  refine vx_catch (own := RL) (name := "java/lang/IllegalArgumentException") hown [] ⟨0, 9, 12, 19⟩ [] htab (fun z hz => nomatch hz) (by decide) (by decide) (hts (.classLink RL 19 "java/lang/IllegalArgumentException") (by decide +kernel)) (va_Nw.use rfl (hA.2.2.2.2.2.2.1 ("java/lang/IllegalArgumentException", "java/lang/IllegalArgumentException") (by decide +kernel))) h91 h92 h93 ?_
  refine lv_astore_n (lv' := [(3, .ref q9), (0, .ref a), (1, .int x1), (2, .ref o)]) hx hb dL_setServings_12 rfl hl (by decide) rfl (fun ls hl => ?_)
  refine lv_iconst (v := 1) hx hb dL_setServings_13 (by decide) ?_
  exact vx_ret (q_iret hx hb hr hlocks hW hS ⟨rfl, rfl, h94⟩ (by omega) (by omega) dL_setServings_14)

set_option maxHeartbeats 4000000 in
set_option maxRecDepth 100000 in
theorem kL_setSpoon (l : Launch) (E : q_E) (f : q_H) (n : Nat) (a o : Nat) (z1 z2 z3 z4 z5 z6 : Option Nat) (ep : Int32) (x1 : Int32) (fr c1 s1 lo : Nat) (R : Int32) (Q : q_H → Nat → Prop) (og : Nat → Int64) (hX : f a = some (rX12 z1 z2 z3 z4 z5 z6 ep)) (hM : Met l yX12_setSpoon wsX12_setSpoon ({ frames := fr, cells := c1, slots := s1, locals := lo }) (q_P E [.ref a, .int x1] f n) (q_Qi E (fun r f1 n1 => R = r ∧ Q f1 n1)) c1 s1 (q_ge E)) (hQ : ∀ f1 n1, Q f1 n1 → f1 o = some (aJ E 1 og)) : vx_Met l yL_setSpoon wsL_setSpoon ({ frames := fr + 1, cells := c1, slots := s1, locals := lo + 22 }) (q_PN E [.ref a, .int x1, .ref o] f n) (q_Qi E (fun r0 f1 n1 => 0 = r0 ∧ ∃ f9, Q f9 n1 ∧ va_up f9 o (some (aJ E 1 (vp_updL og 0 R.toInt64))) = f1)) (q_XN E) c1 s1 (q_ge E) := by
  refine vx_ofWH (cc := cL_setSpoon) (maxL := 4) (hh := [(0, 9, 12, 19)]) (ret := (some .int)) (by decide) rfl ?_
  intro p e s m args below meth c s₁ B hml hv
  obtain ⟨hNc, rfl, hA, hW⟩ := hv
  have hx := B.exec
  have hb := B.bytes
  have hr := B.returns
  have hts := atoms_spec (ws := wsL_setSpoon) B.pre
  have hown : s.vm.findClass RL = some m.cls := findClass_of_methodNamed B.named
  have htab : c.exceptionTable.toList = tableOf [(0, 9, 12, 19)] := vx_table (x := yL_setSpoon) B (hts _ List.mem_cons_self)
  have hlocks := B.notSynchronized
  have hS : va_S (q_ge E) s.heap s.heap [] := va_S.rf
  have hl := lv_entry ([.ref a, .int x1, .ref o]) (n := 4) (Nat.le_of_ble_eq_true rfl)
  rw [lg_entry_eq]
  generalize (lg_sl ([.ref a, .int x1, .ref o]) ++ List.replicate (4 - (lg_sl ([.ref a, .int x1, .ref o])).length) Slot.unset).toArray = ls at hl ⊢
  have hl : lv_has ls 4 [(0, .ref a), (1, .int x1), (2, .ref o)] := hl
  refine lv_aload_n hx hb dL_setSpoon_0 rfl (lv_at hl 2 rfl) ?_
  refine lv_iconst (v := 0) hx hb dL_setSpoon_1 (by decide) ?_
  refine lv_aload_n hx hb dL_setSpoon_2 rfl (lv_at hl 0 rfl) ?_
  refine lv_iload_n hx hb dL_setSpoon_3 rfl (lv_at hl 1 rfl) ?_
  refine q_ci (va_runV (As := [.int x1]) (rest := [.int 0, .ref o]) ⟨hx, hb, hml, hown, hts⟩ (hM) (cwV 1 hts gL_setSpoon_X12_setSpoon rfl rfl rfl (by decide +kernel) ⟨(by show fr + 1 ≤ fr + 1; omega), (by show 8 + (3 + 11) + lo ≤ lo + 22; omega)⟩) (q_pV hA hW hS (ci := 10) rfl hX) rfl rfl hl.1 rfl (lv_room (Nat.le_of_ble_eq_true rfl)) dL_setSpoon_4 ⟨(by show 0 + c1 ≤ c1; omega), (by show 0 + s1 ≤ s1; omega)⟩) hS (fun r_4 f_4 n_4 H locs hp hW hS => ?_)
  obtain ⟨rfl, hq⟩ := hp
  refine lv_i2l hx hb dL_setSpoon_7 rfl ?_
  refine q_last hx hb hA hW hS (hQ _ _ hq) (show vp_in (nI 0) 1 from vp_in_nI (by decide) (by decide)) dL_setSpoon_8 (fun H locs hW hS => ?_)
  rw [show (0 : Int32).toNatClampNeg = 0 from rfl] at hW
  have hW : q_W E (va_up f_4 o (some (aJ E 1 (vp_updL og 0 R.toInt64)))) n_4 H := hW
  refine lv_goto (tgt := 15) hx hb dL_setSpoon_9 (by decide) ?_
  refine lv_iconst (v := 0) hx hb dL_setSpoon_15 (by decide) ?_
  exact vx_ret (q_iret hx hb hr hlocks hW hS ⟨rfl, _, hq, rfl⟩ (by omega) (by omega) dL_setSpoon_16)

set_option maxHeartbeats 4000000 in
set_option maxRecDepth 100000 in
theorem kL_setSpoon_X (l : Launch) (E : q_E) (f : q_H) (n : Nat) (a o : Nat) (z1 z2 z3 z4 z5 z6 : Option Nat) (ep : Int32) (x1 : Int32) (fr c1 s1 lo : Nat) (hX : f a = some (rX12 z1 z2 z3 z4 z5 z6 ep)) (hM : vx_Met l yX12_setSpoon wsX12_setSpoon ({ frames := fr, cells := c1, slots := s1, locals := lo }) (q_P E [.ref a, .int x1] f n) (q_Qi E (fun _ _ _ => False)) (q_XC E (fun C f1 n1 => C = "java/lang/IllegalArgumentException" ∧ f = f1 ∧ n ≤ n1)) c1 s1 (q_ge E)) : vx_Met l yL_setSpoon wsL_setSpoon ({ frames := fr + 1, cells := c1, slots := s1, locals := lo + 22 }) (q_PN E [.ref a, .int x1, .ref o] f n) (q_Qi E (fun r0 f1 n1 => 1 = r0 ∧ f = f1 ∧ n ≤ n1)) (q_XN E) c1 s1 (q_ge E) := by
  refine vx_ofWH (cc := cL_setSpoon) (maxL := 4) (hh := [(0, 9, 12, 19)]) (ret := (some .int)) (by decide) rfl ?_
  intro p e s m args below meth c s₁ B hml hv
  obtain ⟨hNc, rfl, hA, hW⟩ := hv
  have hx := B.exec
  have hb := B.bytes
  have hr := B.returns
  have hts := atoms_spec (ws := wsL_setSpoon) B.pre
  have hown : s.vm.findClass RL = some m.cls := findClass_of_methodNamed B.named
  have htab : c.exceptionTable.toList = tableOf [(0, 9, 12, 19)] := vx_table (x := yL_setSpoon) B (hts _ List.mem_cons_self)
  have hlocks := B.notSynchronized
  have hS : va_S (q_ge E) s.heap s.heap [] := va_S.rf
  have hl := lv_entry ([.ref a, .int x1, .ref o]) (n := 4) (Nat.le_of_ble_eq_true rfl)
  rw [lg_entry_eq]
  generalize (lg_sl ([.ref a, .int x1, .ref o]) ++ List.replicate (4 - (lg_sl ([.ref a, .int x1, .ref o])).length) Slot.unset).toArray = ls at hl ⊢
  have hl : lv_has ls 4 [(0, .ref a), (1, .int x1), (2, .ref o)] := hl
  refine lv_aload_n hx hb dL_setSpoon_0 rfl (lv_at hl 2 rfl) ?_
  refine lv_iconst (v := 0) hx hb dL_setSpoon_1 (by decide) ?_
  refine lv_aload_n hx hb dL_setSpoon_2 rfl (lv_at hl 0 rfl) ?_
  refine lv_iload_n hx hb dL_setSpoon_3 rfl (lv_at hl 1 rfl) ?_
  refine q_xi (vx_runV (As := [.int x1]) (rest := [.int 0, .ref o]) ⟨hx, hb, hml, hown, hts⟩ (hM) (cwV 1 hts gL_setSpoon_X12_setSpoon rfl rfl rfl (by decide +kernel) ⟨(by show fr + 1 ≤ fr + 1; omega), (by show 8 + (3 + 11) + lo ≤ lo + 22; omega)⟩) (q_pV hA hW hS (ci := 10) rfl hX) rfl rfl hl.1 rfl (lv_room (Nat.le_of_ble_eq_true rfl)) dL_setSpoon_4 ⟨(by show 0 + c1 ≤ c1; omega), (by show 0 + s1 ≤ s1; omega)⟩) hS (fun C9 ce9 q9 f9 n9 H locs hp hW hS h91 h92 h93 => ?_) (fun r_4 f_4 n_4 H locs hp hW hS => hp.elim)
  obtain ⟨rfl, rfl, h94⟩ := hp
  refine vx_catch (own := RL) (name := "java/lang/IllegalArgumentException") hown [] ⟨0, 9, 12, 19⟩ [] htab (fun z hz => nomatch hz) (by decide) (by decide) (hts (.classLink RL 19 "java/lang/IllegalArgumentException") (by decide +kernel)) (va_Nw.use rfl (hA.2.2.2.2.2.2.1 ("java/lang/IllegalArgumentException", "java/lang/IllegalArgumentException") (by decide +kernel))) h91 h92 h93 ?_
  refine lv_astore_n (lv' := [(3, .ref q9), (0, .ref a), (1, .int x1), (2, .ref o)]) hx hb dL_setSpoon_12 rfl hl (by decide) rfl (fun ls hl => ?_)
  refine lv_iconst (v := 1) hx hb dL_setSpoon_13 (by decide) ?_
  exact vx_ret (q_iret hx hb hr hlocks hW hS ⟨rfl, rfl, h94⟩ (by omega) (by omega) dL_setSpoon_14)

set_option maxHeartbeats 4000000 in
set_option maxRecDepth 100000 in
theorem kL_pourWater (l : Launch) (E : q_E) (f : q_H) (n : Nat) (a o : Nat) (z1 z2 z3 z4 z5 z6 : Option Nat) (ep : Int32) (x1 x2 : Int32) (fr c1 s1 lo : Nat) (R : Int32) (Q : q_H → Nat → Prop) (og : Nat → Int64) (hX : f a = some (rX12 z1 z2 z3 z4 z5 z6 ep)) (hM : Met l yX12_pourWater wsX12_pourWater ({ frames := fr, cells := c1, slots := s1, locals := lo }) (q_P E [.ref a, .int x1, .int x2] f n) (q_Qi E (fun r f1 n1 => R = r ∧ Q f1 n1)) c1 s1 (q_ge E)) (hQ : ∀ f1 n1, Q f1 n1 → f1 o = some (aJ E 1 og)) : vx_Met l yL_pourWater wsL_pourWater ({ frames := fr + 1, cells := c1, slots := s1, locals := lo + 23 }) (q_PN E [.ref a, .int x1, .int x2, .ref o] f n) (q_Qi E (fun r0 f1 n1 => 0 = r0 ∧ ∃ f9, Q f9 n1 ∧ va_up f9 o (some (aJ E 1 (vp_updL og 0 R.toInt64))) = f1)) (q_XN E) c1 s1 (q_ge E) := by
  refine vx_ofWH (cc := cL_pourWater) (maxL := 5) (hh := [(0, 10, 13, 24), (0, 10, 17, 19)]) (ret := (some .int)) (by decide) rfl ?_
  intro p e s m args below meth c s₁ B hml hv
  obtain ⟨hNc, rfl, hA, hW⟩ := hv
  have hx := B.exec
  have hb := B.bytes
  have hr := B.returns
  have hts := atoms_spec (ws := wsL_pourWater) B.pre
  have hown : s.vm.findClass RL = some m.cls := findClass_of_methodNamed B.named
  have htab : c.exceptionTable.toList = tableOf [(0, 10, 13, 24), (0, 10, 17, 19)] := vx_table (x := yL_pourWater) B (hts _ List.mem_cons_self)
  have hlocks := B.notSynchronized
  have hS : va_S (q_ge E) s.heap s.heap [] := va_S.rf
  have hl := lv_entry ([.ref a, .int x1, .int x2, .ref o]) (n := 5) (Nat.le_of_ble_eq_true rfl)
  rw [lg_entry_eq]
  generalize (lg_sl ([.ref a, .int x1, .int x2, .ref o]) ++ List.replicate (5 - (lg_sl ([.ref a, .int x1, .int x2, .ref o])).length) Slot.unset).toArray = ls at hl ⊢
  have hl : lv_has ls 5 [(0, .ref a), (1, .int x1), (2, .int x2), (3, .ref o)] := hl
  refine lv_aload_n hx hb dL_pourWater_0 rfl (lv_at hl 3 rfl) ?_
  refine lv_iconst (v := 0) hx hb dL_pourWater_1 (by decide) ?_
  refine lv_aload_n hx hb dL_pourWater_2 rfl (lv_at hl 0 rfl) ?_
  refine lv_iload_n hx hb dL_pourWater_3 rfl (lv_at hl 1 rfl) ?_
  refine lv_iload_n hx hb dL_pourWater_4 rfl (lv_at hl 2 rfl) ?_
  refine q_ci (va_runV (As := [.int x1, .int x2]) (rest := [.int 0, .ref o]) ⟨hx, hb, hml, hown, hts⟩ (hM) (cwV 2 hts gL_pourWater_X12_pourWater rfl rfl rfl (by decide +kernel) ⟨(by show fr + 1 ≤ fr + 1; omega), (by show 8 + (4 + 11) + lo ≤ lo + 23; omega)⟩) (q_pV hA hW hS (ci := 10) rfl hX) rfl rfl hl.1 rfl (lv_room (Nat.le_of_ble_eq_true rfl)) dL_pourWater_5 ⟨(by show 0 + c1 ≤ c1; omega), (by show 0 + s1 ≤ s1; omega)⟩) hS (fun r_5 f_5 n_5 H locs hp hW hS => ?_)
  obtain ⟨rfl, hq⟩ := hp
  refine lv_i2l hx hb dL_pourWater_8 rfl ?_
  refine q_last hx hb hA hW hS (hQ _ _ hq) (show vp_in (nI 0) 1 from vp_in_nI (by decide) (by decide)) dL_pourWater_9 (fun H locs hW hS => ?_)
  rw [show (0 : Int32).toNatClampNeg = 0 from rfl] at hW
  have hW : q_W E (va_up f_5 o (some (aJ E 1 (vp_updL og 0 R.toInt64)))) n_5 H := hW
  refine lv_goto (tgt := 21) hx hb dL_pourWater_10 (by decide) ?_
  refine lv_iconst (v := 0) hx hb dL_pourWater_21 (by decide) ?_
  exact vx_ret (q_iret hx hb hr hlocks hW hS ⟨rfl, _, hq, rfl⟩ (by omega) (by omega) dL_pourWater_22)

set_option maxHeartbeats 4000000 in
set_option maxRecDepth 100000 in
theorem kL_pourWater_X (l : Launch) (E : q_E) (f : q_H) (n : Nat) (a o : Nat) (z1 z2 z3 z4 z5 z6 : Option Nat) (ep : Int32) (x1 x2 : Int32) (fr c1 s1 lo : Nat) (hX : f a = some (rX12 z1 z2 z3 z4 z5 z6 ep)) (hM : vx_Met l yX12_pourWater wsX12_pourWater ({ frames := fr, cells := c1, slots := s1, locals := lo }) (q_P E [.ref a, .int x1, .int x2] f n) (q_Qi E (fun _ _ _ => False)) (q_XC E (fun C f1 n1 => C = "java/lang/IndexOutOfBoundsException" ∧ f = f1 ∧ n ≤ n1)) c1 s1 (q_ge E)) : vx_Met l yL_pourWater wsL_pourWater ({ frames := fr + 1, cells := c1, slots := s1, locals := lo + 23 }) (q_PN E [.ref a, .int x1, .int x2, .ref o] f n) (q_Qi E (fun r0 f1 n1 => 1 = r0 ∧ f = f1 ∧ n ≤ n1)) (q_XN E) c1 s1 (q_ge E) := by
  refine vx_ofWH (cc := cL_pourWater) (maxL := 5) (hh := [(0, 10, 13, 24), (0, 10, 17, 19)]) (ret := (some .int)) (by decide) rfl ?_
  intro p e s m args below meth c s₁ B hml hv
  obtain ⟨hNc, rfl, hA, hW⟩ := hv
  have hx := B.exec
  have hb := B.bytes
  have hr := B.returns
  have hts := atoms_spec (ws := wsL_pourWater) B.pre
  have hown : s.vm.findClass RL = some m.cls := findClass_of_methodNamed B.named
  have htab : c.exceptionTable.toList = tableOf [(0, 10, 13, 24), (0, 10, 17, 19)] := vx_table (x := yL_pourWater) B (hts _ List.mem_cons_self)
  have hlocks := B.notSynchronized
  have hS : va_S (q_ge E) s.heap s.heap [] := va_S.rf
  have hl := lv_entry ([.ref a, .int x1, .int x2, .ref o]) (n := 5) (Nat.le_of_ble_eq_true rfl)
  rw [lg_entry_eq]
  generalize (lg_sl ([.ref a, .int x1, .int x2, .ref o]) ++ List.replicate (5 - (lg_sl ([.ref a, .int x1, .int x2, .ref o])).length) Slot.unset).toArray = ls at hl ⊢
  have hl : lv_has ls 5 [(0, .ref a), (1, .int x1), (2, .int x2), (3, .ref o)] := hl
  refine lv_aload_n hx hb dL_pourWater_0 rfl (lv_at hl 3 rfl) ?_
  refine lv_iconst (v := 0) hx hb dL_pourWater_1 (by decide) ?_
  refine lv_aload_n hx hb dL_pourWater_2 rfl (lv_at hl 0 rfl) ?_
  refine lv_iload_n hx hb dL_pourWater_3 rfl (lv_at hl 1 rfl) ?_
  refine lv_iload_n hx hb dL_pourWater_4 rfl (lv_at hl 2 rfl) ?_
  refine q_xi (vx_runV (As := [.int x1, .int x2]) (rest := [.int 0, .ref o]) ⟨hx, hb, hml, hown, hts⟩ (hM) (cwV 2 hts gL_pourWater_X12_pourWater rfl rfl rfl (by decide +kernel) ⟨(by show fr + 1 ≤ fr + 1; omega), (by show 8 + (4 + 11) + lo ≤ lo + 23; omega)⟩) (q_pV hA hW hS (ci := 10) rfl hX) rfl rfl hl.1 rfl (lv_room (Nat.le_of_ble_eq_true rfl)) dL_pourWater_5 ⟨(by show 0 + c1 ≤ c1; omega), (by show 0 + s1 ≤ s1; omega)⟩) hS (fun C9 ce9 q9 f9 n9 H locs hp hW hS h91 h92 h93 => ?_) (fun r_5 f_5 n_5 H locs hp hW hS => hp.elim)
  obtain ⟨rfl, rfl, h94⟩ := hp
  refine vx_catch (own := RL) (name := "java/lang/IndexOutOfBoundsException") hown [] ⟨0, 10, 13, 24⟩ [⟨0, 10, 17, 19⟩] htab (fun z hz => nomatch hz) (by decide) (by decide) (hts (.classLink RL 24 "java/lang/IndexOutOfBoundsException") (by decide +kernel)) (va_Nw.use rfl (hA.2.2.2.2.2.2.1 ("java/lang/IndexOutOfBoundsException", "java/lang/IndexOutOfBoundsException") (by decide +kernel))) h91 h92 h93 ?_
  refine lv_astore (lv' := [(4, .ref q9), (0, .ref a), (1, .int x1), (2, .int x2), (3, .ref o)]) hx hb dL_pourWater_13 hl (by decide) rfl (fun ls hl => ?_)
  refine lv_iconst (v := 1) hx hb dL_pourWater_15 (by decide) ?_
  exact vx_ret (q_iret hx hb hr hlocks hW hS ⟨rfl, rfl, h94⟩ (by omega) (by omega) dL_pourWater_16)

set_option maxHeartbeats 4000000 in
set_option maxRecDepth 100000 in
theorem kL_pourWater_Y (l : Launch) (E : q_E) (f : q_H) (n : Nat) (a o : Nat) (z1 z2 z3 z4 z5 z6 : Option Nat) (ep : Int32) (x1 x2 : Int32) (fr c1 s1 lo : Nat) (hX : f a = some (rX12 z1 z2 z3 z4 z5 z6 ep)) (hM : vx_Met l yX12_pourWater wsX12_pourWater ({ frames := fr, cells := c1, slots := s1, locals := lo }) (q_P E [.ref a, .int x1, .int x2] f n) (q_Qi E (fun _ _ _ => False)) (q_XC E (fun C f1 n1 => C = "java/lang/IllegalArgumentException" ∧ f = f1 ∧ n ≤ n1)) c1 s1 (q_ge E)) : vx_Met l yL_pourWater wsL_pourWater ({ frames := fr + 1, cells := c1, slots := s1, locals := lo + 23 }) (q_PN E [.ref a, .int x1, .int x2, .ref o] f n) (q_Qi E (fun r0 f1 n1 => 2 = r0 ∧ f = f1 ∧ n ≤ n1)) (q_XN E) c1 s1 (q_ge E) := by
  refine vx_ofWH (cc := cL_pourWater) (maxL := 5) (hh := [(0, 10, 13, 24), (0, 10, 17, 19)]) (ret := (some .int)) (by decide) rfl ?_
  intro p e s m args below meth c s₁ B hml hv
  obtain ⟨hNc, rfl, hA, hW⟩ := hv
  have hx := B.exec
  have hb := B.bytes
  have hr := B.returns
  have hts := atoms_spec (ws := wsL_pourWater) B.pre
  have hown : s.vm.findClass RL = some m.cls := findClass_of_methodNamed B.named
  have htab : c.exceptionTable.toList = tableOf [(0, 10, 13, 24), (0, 10, 17, 19)] := vx_table (x := yL_pourWater) B (hts _ List.mem_cons_self)
  have hlocks := B.notSynchronized
  have hS : va_S (q_ge E) s.heap s.heap [] := va_S.rf
  have hl := lv_entry ([.ref a, .int x1, .int x2, .ref o]) (n := 5) (Nat.le_of_ble_eq_true rfl)
  rw [lg_entry_eq]
  generalize (lg_sl ([.ref a, .int x1, .int x2, .ref o]) ++ List.replicate (5 - (lg_sl ([.ref a, .int x1, .int x2, .ref o])).length) Slot.unset).toArray = ls at hl ⊢
  have hl : lv_has ls 5 [(0, .ref a), (1, .int x1), (2, .int x2), (3, .ref o)] := hl
  refine lv_aload_n hx hb dL_pourWater_0 rfl (lv_at hl 3 rfl) ?_
  refine lv_iconst (v := 0) hx hb dL_pourWater_1 (by decide) ?_
  refine lv_aload_n hx hb dL_pourWater_2 rfl (lv_at hl 0 rfl) ?_
  refine lv_iload_n hx hb dL_pourWater_3 rfl (lv_at hl 1 rfl) ?_
  refine lv_iload_n hx hb dL_pourWater_4 rfl (lv_at hl 2 rfl) ?_
  refine q_xi (vx_runV (As := [.int x1, .int x2]) (rest := [.int 0, .ref o]) ⟨hx, hb, hml, hown, hts⟩ (hM) (cwV 2 hts gL_pourWater_X12_pourWater rfl rfl rfl (by decide +kernel) ⟨(by show fr + 1 ≤ fr + 1; omega), (by show 8 + (4 + 11) + lo ≤ lo + 23; omega)⟩) (q_pV hA hW hS (ci := 10) rfl hX) rfl rfl hl.1 rfl (lv_room (Nat.le_of_ble_eq_true rfl)) dL_pourWater_5 ⟨(by show 0 + c1 ≤ c1; omega), (by show 0 + s1 ≤ s1; omega)⟩) hS (fun C9 ce9 q9 f9 n9 H locs hp hW hS h91 h92 h93 => ?_) (fun r_5 f_5 n_5 H locs hp hW hS => hp.elim)
  obtain ⟨rfl, rfl, h94⟩ := hp
  refine vx_catch (own := RL) (name := "java/lang/IllegalArgumentException") hown [⟨0, 10, 13, 24⟩] ⟨0, 10, 17, 19⟩ [] htab (fun z hz => by rw [List.mem_singleton.mp hz]; exact Or.inr ⟨by decide, "java/lang/IndexOutOfBoundsException", hts (.classLink RL 24 "java/lang/IndexOutOfBoundsException") (by decide +kernel), hNc⟩) (by decide) (by decide) (hts (.classLink RL 19 "java/lang/IllegalArgumentException") (by decide +kernel)) (va_Nw.use rfl (hA.2.2.2.2.2.2.1 ("java/lang/IllegalArgumentException", "java/lang/IllegalArgumentException") (by decide +kernel))) h91 h92 h93 ?_
  refine lv_astore (lv' := [(4, .ref q9), (0, .ref a), (1, .int x1), (2, .int x2), (3, .ref o)]) hx hb dL_pourWater_17 hl (by decide) rfl (fun ls hl => ?_)
  refine lv_iconst (v := 2) hx hb dL_pourWater_19 (by decide) ?_
  exact vx_ret (q_iret hx hb hr hlocks hW hS ⟨rfl, rfl, h94⟩ (by omega) (by omega) dL_pourWater_20)

set_option maxHeartbeats 4000000 in
set_option maxRecDepth 100000 in
theorem kL_pourMeal (l : Launch) (E : q_E) (f : q_H) (n : Nat) (a o : Nat) (z1 z2 z3 z4 z5 z6 : Option Nat) (ep : Int32) (x1 x2 : Int32) (fr c1 s1 lo : Nat) (R : Int32) (Q : q_H → Nat → Prop) (og : Nat → Int64) (hX : f a = some (rX12 z1 z2 z3 z4 z5 z6 ep)) (hM : Met l yX12_pourMeal wsX12_pourMeal ({ frames := fr, cells := c1, slots := s1, locals := lo }) (q_P E [.ref a, .int x1, .int x2] f n) (q_Qi E (fun r f1 n1 => R = r ∧ Q f1 n1)) c1 s1 (q_ge E)) (hQ : ∀ f1 n1, Q f1 n1 → f1 o = some (aJ E 1 og)) : vx_Met l yL_pourMeal wsL_pourMeal ({ frames := fr + 1, cells := c1, slots := s1, locals := lo + 23 }) (q_PN E [.ref a, .int x1, .int x2, .ref o] f n) (q_Qi E (fun r0 f1 n1 => 0 = r0 ∧ ∃ f9, Q f9 n1 ∧ va_up f9 o (some (aJ E 1 (vp_updL og 0 R.toInt64))) = f1)) (q_XN E) c1 s1 (q_ge E) := by
  refine vx_ofWH (cc := cL_pourMeal) (maxL := 5) (hh := [(0, 10, 13, 24), (0, 10, 17, 19)]) (ret := (some .int)) (by decide) rfl ?_
  intro p e s m args below meth c s₁ B hml hv
  obtain ⟨hNc, rfl, hA, hW⟩ := hv
  have hx := B.exec
  have hb := B.bytes
  have hr := B.returns
  have hts := atoms_spec (ws := wsL_pourMeal) B.pre
  have hown : s.vm.findClass RL = some m.cls := findClass_of_methodNamed B.named
  have htab : c.exceptionTable.toList = tableOf [(0, 10, 13, 24), (0, 10, 17, 19)] := vx_table (x := yL_pourMeal) B (hts _ List.mem_cons_self)
  have hlocks := B.notSynchronized
  have hS : va_S (q_ge E) s.heap s.heap [] := va_S.rf
  have hl := lv_entry ([.ref a, .int x1, .int x2, .ref o]) (n := 5) (Nat.le_of_ble_eq_true rfl)
  rw [lg_entry_eq]
  generalize (lg_sl ([.ref a, .int x1, .int x2, .ref o]) ++ List.replicate (5 - (lg_sl ([.ref a, .int x1, .int x2, .ref o])).length) Slot.unset).toArray = ls at hl ⊢
  have hl : lv_has ls 5 [(0, .ref a), (1, .int x1), (2, .int x2), (3, .ref o)] := hl
  refine lv_aload_n hx hb dL_pourMeal_0 rfl (lv_at hl 3 rfl) ?_
  refine lv_iconst (v := 0) hx hb dL_pourMeal_1 (by decide) ?_
  refine lv_aload_n hx hb dL_pourMeal_2 rfl (lv_at hl 0 rfl) ?_
  refine lv_iload_n hx hb dL_pourMeal_3 rfl (lv_at hl 1 rfl) ?_
  refine lv_iload_n hx hb dL_pourMeal_4 rfl (lv_at hl 2 rfl) ?_
  refine q_ci (va_runV (As := [.int x1, .int x2]) (rest := [.int 0, .ref o]) ⟨hx, hb, hml, hown, hts⟩ (hM) (cwV 2 hts gL_pourMeal_X12_pourMeal rfl rfl rfl (by decide +kernel) ⟨(by show fr + 1 ≤ fr + 1; omega), (by show 8 + (4 + 11) + lo ≤ lo + 23; omega)⟩) (q_pV hA hW hS (ci := 10) rfl hX) rfl rfl hl.1 rfl (lv_room (Nat.le_of_ble_eq_true rfl)) dL_pourMeal_5 ⟨(by show 0 + c1 ≤ c1; omega), (by show 0 + s1 ≤ s1; omega)⟩) hS (fun r_5 f_5 n_5 H locs hp hW hS => ?_)
  obtain ⟨rfl, hq⟩ := hp
  refine lv_i2l hx hb dL_pourMeal_8 rfl ?_
  refine q_last hx hb hA hW hS (hQ _ _ hq) (show vp_in (nI 0) 1 from vp_in_nI (by decide) (by decide)) dL_pourMeal_9 (fun H locs hW hS => ?_)
  rw [show (0 : Int32).toNatClampNeg = 0 from rfl] at hW
  have hW : q_W E (va_up f_5 o (some (aJ E 1 (vp_updL og 0 R.toInt64)))) n_5 H := hW
  refine lv_goto (tgt := 21) hx hb dL_pourMeal_10 (by decide) ?_
  refine lv_iconst (v := 0) hx hb dL_pourMeal_21 (by decide) ?_
  exact vx_ret (q_iret hx hb hr hlocks hW hS ⟨rfl, _, hq, rfl⟩ (by omega) (by omega) dL_pourMeal_22)

set_option maxHeartbeats 4000000 in
set_option maxRecDepth 100000 in
theorem kL_pourMeal_X (l : Launch) (E : q_E) (f : q_H) (n : Nat) (a o : Nat) (z1 z2 z3 z4 z5 z6 : Option Nat) (ep : Int32) (x1 x2 : Int32) (fr c1 s1 lo : Nat) (hX : f a = some (rX12 z1 z2 z3 z4 z5 z6 ep)) (hM : vx_Met l yX12_pourMeal wsX12_pourMeal ({ frames := fr, cells := c1, slots := s1, locals := lo }) (q_P E [.ref a, .int x1, .int x2] f n) (q_Qi E (fun _ _ _ => False)) (q_XC E (fun C f1 n1 => C = "java/lang/IndexOutOfBoundsException" ∧ f = f1 ∧ n ≤ n1)) c1 s1 (q_ge E)) : vx_Met l yL_pourMeal wsL_pourMeal ({ frames := fr + 1, cells := c1, slots := s1, locals := lo + 23 }) (q_PN E [.ref a, .int x1, .int x2, .ref o] f n) (q_Qi E (fun r0 f1 n1 => 1 = r0 ∧ f = f1 ∧ n ≤ n1)) (q_XN E) c1 s1 (q_ge E) := by
  refine vx_ofWH (cc := cL_pourMeal) (maxL := 5) (hh := [(0, 10, 13, 24), (0, 10, 17, 19)]) (ret := (some .int)) (by decide) rfl ?_
  intro p e s m args below meth c s₁ B hml hv
  obtain ⟨hNc, rfl, hA, hW⟩ := hv
  have hx := B.exec
  have hb := B.bytes
  have hr := B.returns
  have hts := atoms_spec (ws := wsL_pourMeal) B.pre
  have hown : s.vm.findClass RL = some m.cls := findClass_of_methodNamed B.named
  have htab : c.exceptionTable.toList = tableOf [(0, 10, 13, 24), (0, 10, 17, 19)] := vx_table (x := yL_pourMeal) B (hts _ List.mem_cons_self)
  have hlocks := B.notSynchronized
  have hS : va_S (q_ge E) s.heap s.heap [] := va_S.rf
  have hl := lv_entry ([.ref a, .int x1, .int x2, .ref o]) (n := 5) (Nat.le_of_ble_eq_true rfl)
  rw [lg_entry_eq]
  generalize (lg_sl ([.ref a, .int x1, .int x2, .ref o]) ++ List.replicate (5 - (lg_sl ([.ref a, .int x1, .int x2, .ref o])).length) Slot.unset).toArray = ls at hl ⊢
  have hl : lv_has ls 5 [(0, .ref a), (1, .int x1), (2, .int x2), (3, .ref o)] := hl
  refine lv_aload_n hx hb dL_pourMeal_0 rfl (lv_at hl 3 rfl) ?_
  refine lv_iconst (v := 0) hx hb dL_pourMeal_1 (by decide) ?_
  refine lv_aload_n hx hb dL_pourMeal_2 rfl (lv_at hl 0 rfl) ?_
  refine lv_iload_n hx hb dL_pourMeal_3 rfl (lv_at hl 1 rfl) ?_
  refine lv_iload_n hx hb dL_pourMeal_4 rfl (lv_at hl 2 rfl) ?_
  refine q_xi (vx_runV (As := [.int x1, .int x2]) (rest := [.int 0, .ref o]) ⟨hx, hb, hml, hown, hts⟩ (hM) (cwV 2 hts gL_pourMeal_X12_pourMeal rfl rfl rfl (by decide +kernel) ⟨(by show fr + 1 ≤ fr + 1; omega), (by show 8 + (4 + 11) + lo ≤ lo + 23; omega)⟩) (q_pV hA hW hS (ci := 10) rfl hX) rfl rfl hl.1 rfl (lv_room (Nat.le_of_ble_eq_true rfl)) dL_pourMeal_5 ⟨(by show 0 + c1 ≤ c1; omega), (by show 0 + s1 ≤ s1; omega)⟩) hS (fun C9 ce9 q9 f9 n9 H locs hp hW hS h91 h92 h93 => ?_) (fun r_5 f_5 n_5 H locs hp hW hS => hp.elim)
  obtain ⟨rfl, rfl, h94⟩ := hp
  refine vx_catch (own := RL) (name := "java/lang/IndexOutOfBoundsException") hown [] ⟨0, 10, 13, 24⟩ [⟨0, 10, 17, 19⟩] htab (fun z hz => nomatch hz) (by decide) (by decide) (hts (.classLink RL 24 "java/lang/IndexOutOfBoundsException") (by decide +kernel)) (va_Nw.use rfl (hA.2.2.2.2.2.2.1 ("java/lang/IndexOutOfBoundsException", "java/lang/IndexOutOfBoundsException") (by decide +kernel))) h91 h92 h93 ?_
  refine lv_astore (lv' := [(4, .ref q9), (0, .ref a), (1, .int x1), (2, .int x2), (3, .ref o)]) hx hb dL_pourMeal_13 hl (by decide) rfl (fun ls hl => ?_)
  refine lv_iconst (v := 1) hx hb dL_pourMeal_15 (by decide) ?_
  exact vx_ret (q_iret hx hb hr hlocks hW hS ⟨rfl, rfl, h94⟩ (by omega) (by omega) dL_pourMeal_16)

set_option maxHeartbeats 4000000 in
set_option maxRecDepth 100000 in
theorem kL_pourMeal_Y (l : Launch) (E : q_E) (f : q_H) (n : Nat) (a o : Nat) (z1 z2 z3 z4 z5 z6 : Option Nat) (ep : Int32) (x1 x2 : Int32) (fr c1 s1 lo : Nat) (hX : f a = some (rX12 z1 z2 z3 z4 z5 z6 ep)) (hM : vx_Met l yX12_pourMeal wsX12_pourMeal ({ frames := fr, cells := c1, slots := s1, locals := lo }) (q_P E [.ref a, .int x1, .int x2] f n) (q_Qi E (fun _ _ _ => False)) (q_XC E (fun C f1 n1 => C = "java/lang/IllegalArgumentException" ∧ f = f1 ∧ n ≤ n1)) c1 s1 (q_ge E)) : vx_Met l yL_pourMeal wsL_pourMeal ({ frames := fr + 1, cells := c1, slots := s1, locals := lo + 23 }) (q_PN E [.ref a, .int x1, .int x2, .ref o] f n) (q_Qi E (fun r0 f1 n1 => 2 = r0 ∧ f = f1 ∧ n ≤ n1)) (q_XN E) c1 s1 (q_ge E) := by
  refine vx_ofWH (cc := cL_pourMeal) (maxL := 5) (hh := [(0, 10, 13, 24), (0, 10, 17, 19)]) (ret := (some .int)) (by decide) rfl ?_
  intro p e s m args below meth c s₁ B hml hv
  obtain ⟨hNc, rfl, hA, hW⟩ := hv
  have hx := B.exec
  have hb := B.bytes
  have hr := B.returns
  have hts := atoms_spec (ws := wsL_pourMeal) B.pre
  have hown : s.vm.findClass RL = some m.cls := findClass_of_methodNamed B.named
  have htab : c.exceptionTable.toList = tableOf [(0, 10, 13, 24), (0, 10, 17, 19)] := vx_table (x := yL_pourMeal) B (hts _ List.mem_cons_self)
  have hlocks := B.notSynchronized
  have hS : va_S (q_ge E) s.heap s.heap [] := va_S.rf
  have hl := lv_entry ([.ref a, .int x1, .int x2, .ref o]) (n := 5) (Nat.le_of_ble_eq_true rfl)
  rw [lg_entry_eq]
  generalize (lg_sl ([.ref a, .int x1, .int x2, .ref o]) ++ List.replicate (5 - (lg_sl ([.ref a, .int x1, .int x2, .ref o])).length) Slot.unset).toArray = ls at hl ⊢
  have hl : lv_has ls 5 [(0, .ref a), (1, .int x1), (2, .int x2), (3, .ref o)] := hl
  refine lv_aload_n hx hb dL_pourMeal_0 rfl (lv_at hl 3 rfl) ?_
  refine lv_iconst (v := 0) hx hb dL_pourMeal_1 (by decide) ?_
  refine lv_aload_n hx hb dL_pourMeal_2 rfl (lv_at hl 0 rfl) ?_
  refine lv_iload_n hx hb dL_pourMeal_3 rfl (lv_at hl 1 rfl) ?_
  refine lv_iload_n hx hb dL_pourMeal_4 rfl (lv_at hl 2 rfl) ?_
  refine q_xi (vx_runV (As := [.int x1, .int x2]) (rest := [.int 0, .ref o]) ⟨hx, hb, hml, hown, hts⟩ (hM) (cwV 2 hts gL_pourMeal_X12_pourMeal rfl rfl rfl (by decide +kernel) ⟨(by show fr + 1 ≤ fr + 1; omega), (by show 8 + (4 + 11) + lo ≤ lo + 23; omega)⟩) (q_pV hA hW hS (ci := 10) rfl hX) rfl rfl hl.1 rfl (lv_room (Nat.le_of_ble_eq_true rfl)) dL_pourMeal_5 ⟨(by show 0 + c1 ≤ c1; omega), (by show 0 + s1 ≤ s1; omega)⟩) hS (fun C9 ce9 q9 f9 n9 H locs hp hW hS h91 h92 h93 => ?_) (fun r_5 f_5 n_5 H locs hp hW hS => hp.elim)
  obtain ⟨rfl, rfl, h94⟩ := hp
  refine vx_catch (own := RL) (name := "java/lang/IllegalArgumentException") hown [⟨0, 10, 13, 24⟩] ⟨0, 10, 17, 19⟩ [] htab (fun z hz => by rw [List.mem_singleton.mp hz]; exact Or.inr ⟨by decide, "java/lang/IndexOutOfBoundsException", hts (.classLink RL 24 "java/lang/IndexOutOfBoundsException") (by decide +kernel), hNc⟩) (by decide) (by decide) (hts (.classLink RL 19 "java/lang/IllegalArgumentException") (by decide +kernel)) (va_Nw.use rfl (hA.2.2.2.2.2.2.1 ("java/lang/IllegalArgumentException", "java/lang/IllegalArgumentException") (by decide +kernel))) h91 h92 h93 ?_
  refine lv_astore (lv' := [(4, .ref q9), (0, .ref a), (1, .int x1), (2, .int x2), (3, .ref o)]) hx hb dL_pourMeal_17 hl (by decide) rfl (fun ls hl => ?_)
  refine lv_iconst (v := 2) hx hb dL_pourMeal_19 (by decide) ?_
  exact vx_ret (q_iret hx hb hr hlocks hW hS ⟨rfl, rfl, h94⟩ (by omega) (by omega) dL_pourMeal_20)

set_option maxHeartbeats 4000000 in
set_option maxRecDepth 100000 in
theorem kL_wash (l : Launch) (E : q_E) (f : q_H) (n : Nat) (a o : Nat) (z1 z2 z3 z4 z5 z6 : Option Nat) (ep : Int32) (x1 : Int32) (fr c1 s1 lo : Nat) (R : Int32) (Q : q_H → Nat → Prop) (og : Nat → Int64) (hX : f a = some (rX12 z1 z2 z3 z4 z5 z6 ep)) (hM : Met l yX12_wash wsX12_wash ({ frames := fr, cells := c1, slots := s1, locals := lo }) (q_P E [.ref a, .int x1] f n) (q_Qi E (fun r f1 n1 => R = r ∧ Q f1 n1)) c1 s1 (q_ge E)) (hQ : ∀ f1 n1, Q f1 n1 → f1 o = some (aJ E 1 og)) : vx_Met l yL_wash wsL_wash ({ frames := fr + 1, cells := c1, slots := s1, locals := lo + 23 }) (q_PN E [.ref a, .int x1, .ref o] f n) (q_Qi E (fun r0 f1 n1 => 0 = r0 ∧ ∃ f9, Q f9 n1 ∧ va_up f9 o (some (aJ E 1 (vp_updL og 0 R.toInt64))) = f1)) (q_XN E) c1 s1 (q_ge E) := by
  refine vx_ofWH (cc := cL_wash) (maxL := 4) (hh := [(0, 9, 12, 24)]) (ret := (some .int)) (by decide) rfl ?_
  intro p e s m args below meth c s₁ B hml hv
  obtain ⟨hNc, rfl, hA, hW⟩ := hv
  have hx := B.exec
  have hb := B.bytes
  have hr := B.returns
  have hts := atoms_spec (ws := wsL_wash) B.pre
  have hown : s.vm.findClass RL = some m.cls := findClass_of_methodNamed B.named
  have htab : c.exceptionTable.toList = tableOf [(0, 9, 12, 24)] := vx_table (x := yL_wash) B (hts _ List.mem_cons_self)
  have hlocks := B.notSynchronized
  have hS : va_S (q_ge E) s.heap s.heap [] := va_S.rf
  have hl := lv_entry ([.ref a, .int x1, .ref o]) (n := 4) (Nat.le_of_ble_eq_true rfl)
  rw [lg_entry_eq]
  generalize (lg_sl ([.ref a, .int x1, .ref o]) ++ List.replicate (4 - (lg_sl ([.ref a, .int x1, .ref o])).length) Slot.unset).toArray = ls at hl ⊢
  have hl : lv_has ls 4 [(0, .ref a), (1, .int x1), (2, .ref o)] := hl
  refine lv_aload_n hx hb dL_wash_0 rfl (lv_at hl 2 rfl) ?_
  refine lv_iconst (v := 0) hx hb dL_wash_1 (by decide) ?_
  refine lv_aload_n hx hb dL_wash_2 rfl (lv_at hl 0 rfl) ?_
  refine lv_iload_n hx hb dL_wash_3 rfl (lv_at hl 1 rfl) ?_
  refine q_ci (va_runV (As := [.int x1]) (rest := [.int 0, .ref o]) ⟨hx, hb, hml, hown, hts⟩ (hM) (cwV 1 hts gL_wash_X12_wash rfl rfl rfl (by decide +kernel) ⟨(by show fr + 1 ≤ fr + 1; omega), (by show 8 + (4 + 11) + lo ≤ lo + 23; omega)⟩) (q_pV hA hW hS (ci := 10) rfl hX) rfl rfl hl.1 rfl (lv_room (Nat.le_of_ble_eq_true rfl)) dL_wash_4 ⟨(by show 0 + c1 ≤ c1; omega), (by show 0 + s1 ≤ s1; omega)⟩) hS (fun r_4 f_4 n_4 H locs hp hW hS => ?_)
  obtain ⟨rfl, hq⟩ := hp
  refine lv_i2l hx hb dL_wash_7 rfl ?_
  refine q_last hx hb hA hW hS (hQ _ _ hq) (show vp_in (nI 0) 1 from vp_in_nI (by decide) (by decide)) dL_wash_8 (fun H locs hW hS => ?_)
  rw [show (0 : Int32).toNatClampNeg = 0 from rfl] at hW
  have hW : q_W E (va_up f_4 o (some (aJ E 1 (vp_updL og 0 R.toInt64)))) n_4 H := hW
  refine lv_goto (tgt := 15) hx hb dL_wash_9 (by decide) ?_
  refine lv_iconst (v := 0) hx hb dL_wash_15 (by decide) ?_
  exact vx_ret (q_iret hx hb hr hlocks hW hS ⟨rfl, _, hq, rfl⟩ (by omega) (by omega) dL_wash_16)

set_option maxHeartbeats 4000000 in
set_option maxRecDepth 100000 in
theorem kL_wash_X (l : Launch) (E : q_E) (f : q_H) (n : Nat) (a o : Nat) (z1 z2 z3 z4 z5 z6 : Option Nat) (ep : Int32) (x1 : Int32) (fr c1 s1 lo : Nat) (hX : f a = some (rX12 z1 z2 z3 z4 z5 z6 ep)) (hM : vx_Met l yX12_wash wsX12_wash ({ frames := fr, cells := c1, slots := s1, locals := lo }) (q_P E [.ref a, .int x1] f n) (q_Qi E (fun _ _ _ => False)) (q_XC E (fun C f1 n1 => C = "java/lang/IndexOutOfBoundsException" ∧ f = f1 ∧ n ≤ n1)) c1 s1 (q_ge E)) : vx_Met l yL_wash wsL_wash ({ frames := fr + 1, cells := c1, slots := s1, locals := lo + 23 }) (q_PN E [.ref a, .int x1, .ref o] f n) (q_Qi E (fun r0 f1 n1 => 1 = r0 ∧ f = f1 ∧ n ≤ n1)) (q_XN E) c1 s1 (q_ge E) := by
  refine vx_ofWH (cc := cL_wash) (maxL := 4) (hh := [(0, 9, 12, 24)]) (ret := (some .int)) (by decide) rfl ?_
  intro p e s m args below meth c s₁ B hml hv
  obtain ⟨hNc, rfl, hA, hW⟩ := hv
  have hx := B.exec
  have hb := B.bytes
  have hr := B.returns
  have hts := atoms_spec (ws := wsL_wash) B.pre
  have hown : s.vm.findClass RL = some m.cls := findClass_of_methodNamed B.named
  have htab : c.exceptionTable.toList = tableOf [(0, 9, 12, 24)] := vx_table (x := yL_wash) B (hts _ List.mem_cons_self)
  have hlocks := B.notSynchronized
  have hS : va_S (q_ge E) s.heap s.heap [] := va_S.rf
  have hl := lv_entry ([.ref a, .int x1, .ref o]) (n := 4) (Nat.le_of_ble_eq_true rfl)
  rw [lg_entry_eq]
  generalize (lg_sl ([.ref a, .int x1, .ref o]) ++ List.replicate (4 - (lg_sl ([.ref a, .int x1, .ref o])).length) Slot.unset).toArray = ls at hl ⊢
  have hl : lv_has ls 4 [(0, .ref a), (1, .int x1), (2, .ref o)] := hl
  refine lv_aload_n hx hb dL_wash_0 rfl (lv_at hl 2 rfl) ?_
  refine lv_iconst (v := 0) hx hb dL_wash_1 (by decide) ?_
  refine lv_aload_n hx hb dL_wash_2 rfl (lv_at hl 0 rfl) ?_
  refine lv_iload_n hx hb dL_wash_3 rfl (lv_at hl 1 rfl) ?_
  refine q_xi (vx_runV (As := [.int x1]) (rest := [.int 0, .ref o]) ⟨hx, hb, hml, hown, hts⟩ (hM) (cwV 1 hts gL_wash_X12_wash rfl rfl rfl (by decide +kernel) ⟨(by show fr + 1 ≤ fr + 1; omega), (by show 8 + (4 + 11) + lo ≤ lo + 23; omega)⟩) (q_pV hA hW hS (ci := 10) rfl hX) rfl rfl hl.1 rfl (lv_room (Nat.le_of_ble_eq_true rfl)) dL_wash_4 ⟨(by show 0 + c1 ≤ c1; omega), (by show 0 + s1 ≤ s1; omega)⟩) hS (fun C9 ce9 q9 f9 n9 H locs hp hW hS h91 h92 h93 => ?_) (fun r_4 f_4 n_4 H locs hp hW hS => hp.elim)
  obtain ⟨rfl, rfl, h94⟩ := hp
  refine vx_catch (own := RL) (name := "java/lang/IndexOutOfBoundsException") hown [] ⟨0, 9, 12, 24⟩ [] htab (fun z hz => nomatch hz) (by decide) (by decide) (hts (.classLink RL 24 "java/lang/IndexOutOfBoundsException") (by decide +kernel)) (va_Nw.use rfl (hA.2.2.2.2.2.2.1 ("java/lang/IndexOutOfBoundsException", "java/lang/IndexOutOfBoundsException") (by decide +kernel))) h91 h92 h93 ?_
  refine lv_astore_n (lv' := [(3, .ref q9), (0, .ref a), (1, .int x1), (2, .ref o)]) hx hb dL_wash_12 rfl hl (by decide) rfl (fun ls hl => ?_)
  refine lv_iconst (v := 1) hx hb dL_wash_13 (by decide) ?_
  exact vx_ret (q_iret hx hb hr hlocks hW hS ⟨rfl, rfl, h94⟩ (by omega) (by omega) dL_wash_14)

set_option maxHeartbeats 4000000 in
set_option maxRecDepth 100000 in
theorem kL_rest (l : Launch) (E : q_E) (f : q_H) (n : Nat) (a o : Nat) (z1 z2 z3 z4 z5 z6 : Option Nat) (ep : Int32) (x1 : Int32) (fr c1 s1 lo : Nat) (R : Int32) (Q : q_H → Nat → Prop) (og : Nat → Int64) (hX : f a = some (rX12 z1 z2 z3 z4 z5 z6 ep)) (hM : Met l yX12_rest wsX12_rest ({ frames := fr, cells := c1, slots := s1, locals := lo }) (q_P E [.ref a, .int x1] f n) (q_Qi E (fun r f1 n1 => R = r ∧ Q f1 n1)) c1 s1 (q_ge E)) (hQ : ∀ f1 n1, Q f1 n1 → f1 o = some (aJ E 1 og)) : vx_Met l yL_rest wsL_rest ({ frames := fr + 1, cells := c1, slots := s1, locals := lo + 21 }) (q_PN E [.ref a, .int x1, .ref o] f n) (q_Qi E (fun r0 f1 n1 => 0 = r0 ∧ ∃ f9, Q f9 n1 ∧ va_up f9 o (some (aJ E 1 (vp_updL og 0 R.toInt64))) = f1)) (q_XN E) c1 s1 (q_ge E) := by
  refine vx_ofWH (cc := cL_rest) (maxL := 4) (hh := [(0, 9, 12, 19)]) (ret := (some .int)) (by decide) rfl ?_
  intro p e s m args below meth c s₁ B hml hv
  obtain ⟨hNc, rfl, hA, hW⟩ := hv
  have hx := B.exec
  have hb := B.bytes
  have hr := B.returns
  have hts := atoms_spec (ws := wsL_rest) B.pre
  have hown : s.vm.findClass RL = some m.cls := findClass_of_methodNamed B.named
  have htab : c.exceptionTable.toList = tableOf [(0, 9, 12, 19)] := vx_table (x := yL_rest) B (hts _ List.mem_cons_self)
  have hlocks := B.notSynchronized
  have hS : va_S (q_ge E) s.heap s.heap [] := va_S.rf
  have hl := lv_entry ([.ref a, .int x1, .ref o]) (n := 4) (Nat.le_of_ble_eq_true rfl)
  rw [lg_entry_eq]
  generalize (lg_sl ([.ref a, .int x1, .ref o]) ++ List.replicate (4 - (lg_sl ([.ref a, .int x1, .ref o])).length) Slot.unset).toArray = ls at hl ⊢
  have hl : lv_has ls 4 [(0, .ref a), (1, .int x1), (2, .ref o)] := hl
  refine lv_aload_n hx hb dL_rest_0 rfl (lv_at hl 2 rfl) ?_
  refine lv_iconst (v := 0) hx hb dL_rest_1 (by decide) ?_
  refine lv_aload_n hx hb dL_rest_2 rfl (lv_at hl 0 rfl) ?_
  refine lv_iload_n hx hb dL_rest_3 rfl (lv_at hl 1 rfl) ?_
  refine q_ci (va_runV (As := [.int x1]) (rest := [.int 0, .ref o]) ⟨hx, hb, hml, hown, hts⟩ (hM) (cwV 1 hts gL_rest_X12_rest rfl rfl rfl (by decide +kernel) ⟨(by show fr + 1 ≤ fr + 1; omega), (by show 8 + (2 + 11) + lo ≤ lo + 21; omega)⟩) (q_pV hA hW hS (ci := 10) rfl hX) rfl rfl hl.1 rfl (lv_room (Nat.le_of_ble_eq_true rfl)) dL_rest_4 ⟨(by show 0 + c1 ≤ c1; omega), (by show 0 + s1 ≤ s1; omega)⟩) hS (fun r_4 f_4 n_4 H locs hp hW hS => ?_)
  obtain ⟨rfl, hq⟩ := hp
  refine lv_i2l hx hb dL_rest_7 rfl ?_
  refine q_last hx hb hA hW hS (hQ _ _ hq) (show vp_in (nI 0) 1 from vp_in_nI (by decide) (by decide)) dL_rest_8 (fun H locs hW hS => ?_)
  rw [show (0 : Int32).toNatClampNeg = 0 from rfl] at hW
  have hW : q_W E (va_up f_4 o (some (aJ E 1 (vp_updL og 0 R.toInt64)))) n_4 H := hW
  refine lv_goto (tgt := 15) hx hb dL_rest_9 (by decide) ?_
  refine lv_iconst (v := 0) hx hb dL_rest_15 (by decide) ?_
  exact vx_ret (q_iret hx hb hr hlocks hW hS ⟨rfl, _, hq, rfl⟩ (by omega) (by omega) dL_rest_16)

set_option maxHeartbeats 4000000 in
set_option maxRecDepth 100000 in
theorem kL_rest_X (l : Launch) (E : q_E) (f : q_H) (n : Nat) (a o : Nat) (z1 z2 z3 z4 z5 z6 : Option Nat) (ep : Int32) (x1 : Int32) (fr c1 s1 lo : Nat) (hX : f a = some (rX12 z1 z2 z3 z4 z5 z6 ep)) (hM : vx_Met l yX12_rest wsX12_rest ({ frames := fr, cells := c1, slots := s1, locals := lo }) (q_P E [.ref a, .int x1] f n) (q_Qi E (fun _ _ _ => False)) (q_XC E (fun C f1 n1 => C = "java/lang/IllegalArgumentException" ∧ f = f1 ∧ n ≤ n1)) c1 s1 (q_ge E)) : vx_Met l yL_rest wsL_rest ({ frames := fr + 1, cells := c1, slots := s1, locals := lo + 21 }) (q_PN E [.ref a, .int x1, .ref o] f n) (q_Qi E (fun r0 f1 n1 => 1 = r0 ∧ f = f1 ∧ n ≤ n1)) (q_XN E) c1 s1 (q_ge E) := by
  refine vx_ofWH (cc := cL_rest) (maxL := 4) (hh := [(0, 9, 12, 19)]) (ret := (some .int)) (by decide) rfl ?_
  intro p e s m args below meth c s₁ B hml hv
  obtain ⟨hNc, rfl, hA, hW⟩ := hv
  have hx := B.exec
  have hb := B.bytes
  have hr := B.returns
  have hts := atoms_spec (ws := wsL_rest) B.pre
  have hown : s.vm.findClass RL = some m.cls := findClass_of_methodNamed B.named
  have htab : c.exceptionTable.toList = tableOf [(0, 9, 12, 19)] := vx_table (x := yL_rest) B (hts _ List.mem_cons_self)
  have hlocks := B.notSynchronized
  have hS : va_S (q_ge E) s.heap s.heap [] := va_S.rf
  have hl := lv_entry ([.ref a, .int x1, .ref o]) (n := 4) (Nat.le_of_ble_eq_true rfl)
  rw [lg_entry_eq]
  generalize (lg_sl ([.ref a, .int x1, .ref o]) ++ List.replicate (4 - (lg_sl ([.ref a, .int x1, .ref o])).length) Slot.unset).toArray = ls at hl ⊢
  have hl : lv_has ls 4 [(0, .ref a), (1, .int x1), (2, .ref o)] := hl
  refine lv_aload_n hx hb dL_rest_0 rfl (lv_at hl 2 rfl) ?_
  refine lv_iconst (v := 0) hx hb dL_rest_1 (by decide) ?_
  refine lv_aload_n hx hb dL_rest_2 rfl (lv_at hl 0 rfl) ?_
  refine lv_iload_n hx hb dL_rest_3 rfl (lv_at hl 1 rfl) ?_
  refine q_xi (vx_runV (As := [.int x1]) (rest := [.int 0, .ref o]) ⟨hx, hb, hml, hown, hts⟩ (hM) (cwV 1 hts gL_rest_X12_rest rfl rfl rfl (by decide +kernel) ⟨(by show fr + 1 ≤ fr + 1; omega), (by show 8 + (2 + 11) + lo ≤ lo + 21; omega)⟩) (q_pV hA hW hS (ci := 10) rfl hX) rfl rfl hl.1 rfl (lv_room (Nat.le_of_ble_eq_true rfl)) dL_rest_4 ⟨(by show 0 + c1 ≤ c1; omega), (by show 0 + s1 ≤ s1; omega)⟩) hS (fun C9 ce9 q9 f9 n9 H locs hp hW hS h91 h92 h93 => ?_) (fun r_4 f_4 n_4 H locs hp hW hS => hp.elim)
  obtain ⟨rfl, rfl, h94⟩ := hp
  refine vx_catch (own := RL) (name := "java/lang/IllegalArgumentException") hown [] ⟨0, 9, 12, 19⟩ [] htab (fun z hz => nomatch hz) (by decide) (by decide) (hts (.classLink RL 19 "java/lang/IllegalArgumentException") (by decide +kernel)) (va_Nw.use rfl (hA.2.2.2.2.2.2.1 ("java/lang/IllegalArgumentException", "java/lang/IllegalArgumentException") (by decide +kernel))) h91 h92 h93 ?_
  refine lv_astore_n (lv' := [(3, .ref q9), (0, .ref a), (1, .int x1), (2, .ref o)]) hx hb dL_rest_12 rfl hl (by decide) rfl (fun ls hl => ?_)
  refine lv_iconst (v := 1) hx hb dL_rest_13 (by decide) ?_
  exact vx_ret (q_iret hx hb hr hlocks hW hS ⟨rfl, rfl, h94⟩ (by omega) (by omega) dL_rest_14)

set_option maxHeartbeats 4000000 in
set_option maxRecDepth 100000 in
theorem kL_cook (l : Launch) (E : q_E) (f : q_H) (n : Nat) (a o : Nat) (z1 z2 z3 z4 z5 z6 : Option Nat) (ep : Int32) (x1 : Int32) (fr c1 s1 lo : Nat) (R : Int32) (Q : q_H → Nat → Prop) (og : Nat → Int64) (hX : f a = some (rX12 z1 z2 z3 z4 z5 z6 ep)) (hM : Met l yX12_cook wsX12_cook ({ frames := fr, cells := c1, slots := s1, locals := lo }) (q_P E [.ref a, .int x1] f n) (q_Qi E (fun r f1 n1 => R = r ∧ Q f1 n1)) c1 s1 (q_ge E)) (hQ : ∀ f1 n1, Q f1 n1 → f1 o = some (aJ E 1 og)) : vx_Met l yL_cook wsL_cook ({ frames := fr + 1, cells := c1, slots := s1, locals := lo + 21 }) (q_PN E [.ref a, .int x1, .ref o] f n) (q_Qi E (fun r0 f1 n1 => 0 = r0 ∧ ∃ f9, Q f9 n1 ∧ va_up f9 o (some (aJ E 1 (vp_updL og 0 R.toInt64))) = f1)) (q_XN E) c1 s1 (q_ge E) := by
  refine vx_ofWH (cc := cL_cook) (maxL := 4) (hh := [(0, 9, 12, 24)]) (ret := (some .int)) (by decide) rfl ?_
  intro p e s m args below meth c s₁ B hml hv
  obtain ⟨hNc, rfl, hA, hW⟩ := hv
  have hx := B.exec
  have hb := B.bytes
  have hr := B.returns
  have hts := atoms_spec (ws := wsL_cook) B.pre
  have hown : s.vm.findClass RL = some m.cls := findClass_of_methodNamed B.named
  have htab : c.exceptionTable.toList = tableOf [(0, 9, 12, 24)] := vx_table (x := yL_cook) B (hts _ List.mem_cons_self)
  have hlocks := B.notSynchronized
  have hS : va_S (q_ge E) s.heap s.heap [] := va_S.rf
  have hl := lv_entry ([.ref a, .int x1, .ref o]) (n := 4) (Nat.le_of_ble_eq_true rfl)
  rw [lg_entry_eq]
  generalize (lg_sl ([.ref a, .int x1, .ref o]) ++ List.replicate (4 - (lg_sl ([.ref a, .int x1, .ref o])).length) Slot.unset).toArray = ls at hl ⊢
  have hl : lv_has ls 4 [(0, .ref a), (1, .int x1), (2, .ref o)] := hl
  refine lv_aload_n hx hb dL_cook_0 rfl (lv_at hl 2 rfl) ?_
  refine lv_iconst (v := 0) hx hb dL_cook_1 (by decide) ?_
  refine lv_aload_n hx hb dL_cook_2 rfl (lv_at hl 0 rfl) ?_
  refine lv_iload_n hx hb dL_cook_3 rfl (lv_at hl 1 rfl) ?_
  refine q_ci (va_runV (As := [.int x1]) (rest := [.int 0, .ref o]) ⟨hx, hb, hml, hown, hts⟩ (hM) (cwV 1 hts gL_cook_X12_cook rfl rfl rfl (by decide +kernel) ⟨(by show fr + 1 ≤ fr + 1; omega), (by show 8 + (2 + 11) + lo ≤ lo + 21; omega)⟩) (q_pV hA hW hS (ci := 10) rfl hX) rfl rfl hl.1 rfl (lv_room (Nat.le_of_ble_eq_true rfl)) dL_cook_4 ⟨(by show 0 + c1 ≤ c1; omega), (by show 0 + s1 ≤ s1; omega)⟩) hS (fun r_4 f_4 n_4 H locs hp hW hS => ?_)
  obtain ⟨rfl, hq⟩ := hp
  refine lv_i2l hx hb dL_cook_7 rfl ?_
  refine q_last hx hb hA hW hS (hQ _ _ hq) (show vp_in (nI 0) 1 from vp_in_nI (by decide) (by decide)) dL_cook_8 (fun H locs hW hS => ?_)
  rw [show (0 : Int32).toNatClampNeg = 0 from rfl] at hW
  have hW : q_W E (va_up f_4 o (some (aJ E 1 (vp_updL og 0 R.toInt64)))) n_4 H := hW
  refine lv_goto (tgt := 15) hx hb dL_cook_9 (by decide) ?_
  refine lv_iconst (v := 0) hx hb dL_cook_15 (by decide) ?_
  exact vx_ret (q_iret hx hb hr hlocks hW hS ⟨rfl, _, hq, rfl⟩ (by omega) (by omega) dL_cook_16)

set_option maxHeartbeats 4000000 in
set_option maxRecDepth 100000 in
theorem kL_cook_X (l : Launch) (E : q_E) (f : q_H) (n : Nat) (a o : Nat) (z1 z2 z3 z4 z5 z6 : Option Nat) (ep : Int32) (x1 : Int32) (fr c1 s1 lo : Nat) (hX : f a = some (rX12 z1 z2 z3 z4 z5 z6 ep)) (hM : vx_Met l yX12_cook wsX12_cook ({ frames := fr, cells := c1, slots := s1, locals := lo }) (q_P E [.ref a, .int x1] f n) (q_Qi E (fun _ _ _ => False)) (q_XC E (fun C f1 n1 => C = "java/lang/IndexOutOfBoundsException" ∧ f = f1 ∧ n ≤ n1)) c1 s1 (q_ge E)) : vx_Met l yL_cook wsL_cook ({ frames := fr + 1, cells := c1, slots := s1, locals := lo + 21 }) (q_PN E [.ref a, .int x1, .ref o] f n) (q_Qi E (fun r0 f1 n1 => 1 = r0 ∧ f = f1 ∧ n ≤ n1)) (q_XN E) c1 s1 (q_ge E) := by
  refine vx_ofWH (cc := cL_cook) (maxL := 4) (hh := [(0, 9, 12, 24)]) (ret := (some .int)) (by decide) rfl ?_
  intro p e s m args below meth c s₁ B hml hv
  obtain ⟨hNc, rfl, hA, hW⟩ := hv
  have hx := B.exec
  have hb := B.bytes
  have hr := B.returns
  have hts := atoms_spec (ws := wsL_cook) B.pre
  have hown : s.vm.findClass RL = some m.cls := findClass_of_methodNamed B.named
  have htab : c.exceptionTable.toList = tableOf [(0, 9, 12, 24)] := vx_table (x := yL_cook) B (hts _ List.mem_cons_self)
  have hlocks := B.notSynchronized
  have hS : va_S (q_ge E) s.heap s.heap [] := va_S.rf
  have hl := lv_entry ([.ref a, .int x1, .ref o]) (n := 4) (Nat.le_of_ble_eq_true rfl)
  rw [lg_entry_eq]
  generalize (lg_sl ([.ref a, .int x1, .ref o]) ++ List.replicate (4 - (lg_sl ([.ref a, .int x1, .ref o])).length) Slot.unset).toArray = ls at hl ⊢
  have hl : lv_has ls 4 [(0, .ref a), (1, .int x1), (2, .ref o)] := hl
  refine lv_aload_n hx hb dL_cook_0 rfl (lv_at hl 2 rfl) ?_
  refine lv_iconst (v := 0) hx hb dL_cook_1 (by decide) ?_
  refine lv_aload_n hx hb dL_cook_2 rfl (lv_at hl 0 rfl) ?_
  refine lv_iload_n hx hb dL_cook_3 rfl (lv_at hl 1 rfl) ?_
  refine q_xi (vx_runV (As := [.int x1]) (rest := [.int 0, .ref o]) ⟨hx, hb, hml, hown, hts⟩ (hM) (cwV 1 hts gL_cook_X12_cook rfl rfl rfl (by decide +kernel) ⟨(by show fr + 1 ≤ fr + 1; omega), (by show 8 + (2 + 11) + lo ≤ lo + 21; omega)⟩) (q_pV hA hW hS (ci := 10) rfl hX) rfl rfl hl.1 rfl (lv_room (Nat.le_of_ble_eq_true rfl)) dL_cook_4 ⟨(by show 0 + c1 ≤ c1; omega), (by show 0 + s1 ≤ s1; omega)⟩) hS (fun C9 ce9 q9 f9 n9 H locs hp hW hS h91 h92 h93 => ?_) (fun r_4 f_4 n_4 H locs hp hW hS => hp.elim)
  obtain ⟨rfl, rfl, h94⟩ := hp
  refine vx_catch (own := RL) (name := "java/lang/IndexOutOfBoundsException") hown [] ⟨0, 9, 12, 24⟩ [] htab (fun z hz => nomatch hz) (by decide) (by decide) (hts (.classLink RL 24 "java/lang/IndexOutOfBoundsException") (by decide +kernel)) (va_Nw.use rfl (hA.2.2.2.2.2.2.1 ("java/lang/IndexOutOfBoundsException", "java/lang/IndexOutOfBoundsException") (by decide +kernel))) h91 h92 h93 ?_
  refine lv_astore_n (lv' := [(3, .ref q9), (0, .ref a), (1, .int x1), (2, .ref o)]) hx hb dL_cook_12 rfl hl (by decide) rfl (fun ls hl => ?_)
  refine lv_iconst (v := 1) hx hb dL_cook_13 (by decide) ?_
  exact vx_ret (q_iret hx hb hr hlocks hW hS ⟨rfl, rfl, h94⟩ (by omega) (by omega) dL_cook_14)

set_option maxHeartbeats 4000000 in
set_option maxRecDepth 100000 in
theorem kL_minutesOfRecipe (l : Launch) (E : q_E) (f : q_H) (n : Nat) (a o : Nat) (z1 z2 z3 z4 z5 z6 : Option Nat) (ep : Int32) (x1 : Int32) (fr c1 s1 lo : Nat) (R : Int32) (Q : q_H → Nat → Prop) (og : Nat → Int64) (hX : f a = some (rX12 z1 z2 z3 z4 z5 z6 ep)) (hM : Met l yX12_minutesOfRecipe wsX12_minutesOfRecipe ({ frames := fr, cells := c1, slots := s1, locals := lo }) (q_P E [.ref a, .int x1] f n) (q_Qi E (fun r f1 n1 => R = r ∧ Q f1 n1)) c1 s1 (q_ge E)) (hQ : ∀ f1 n1, Q f1 n1 → f1 o = some (aJ E 1 og)) : vx_Met l yL_minutesOfRecipe wsL_minutesOfRecipe ({ frames := fr + 1, cells := c1, slots := s1, locals := lo + 21 }) (q_PN E [.ref a, .int x1, .ref o] f n) (q_Qi E (fun r0 f1 n1 => 0 = r0 ∧ ∃ f9, Q f9 n1 ∧ va_up f9 o (some (aJ E 1 (vp_updL og 0 R.toInt64))) = f1)) (q_XN E) c1 s1 (q_ge E) := by
  refine vx_ofWH (cc := cL_minutesOfRecipe) (maxL := 4) (hh := [(0, 9, 12, 24)]) (ret := (some .int)) (by decide) rfl ?_
  intro p e s m args below meth c s₁ B hml hv
  obtain ⟨hNc, rfl, hA, hW⟩ := hv
  have hx := B.exec
  have hb := B.bytes
  have hr := B.returns
  have hts := atoms_spec (ws := wsL_minutesOfRecipe) B.pre
  have hown : s.vm.findClass RL = some m.cls := findClass_of_methodNamed B.named
  have htab : c.exceptionTable.toList = tableOf [(0, 9, 12, 24)] := vx_table (x := yL_minutesOfRecipe) B (hts _ List.mem_cons_self)
  have hlocks := B.notSynchronized
  have hS : va_S (q_ge E) s.heap s.heap [] := va_S.rf
  have hl := lv_entry ([.ref a, .int x1, .ref o]) (n := 4) (Nat.le_of_ble_eq_true rfl)
  rw [lg_entry_eq]
  generalize (lg_sl ([.ref a, .int x1, .ref o]) ++ List.replicate (4 - (lg_sl ([.ref a, .int x1, .ref o])).length) Slot.unset).toArray = ls at hl ⊢
  have hl : lv_has ls 4 [(0, .ref a), (1, .int x1), (2, .ref o)] := hl
  refine lv_aload_n hx hb dL_minutesOfRecipe_0 rfl (lv_at hl 2 rfl) ?_
  refine lv_iconst (v := 0) hx hb dL_minutesOfRecipe_1 (by decide) ?_
  refine lv_aload_n hx hb dL_minutesOfRecipe_2 rfl (lv_at hl 0 rfl) ?_
  refine lv_iload_n hx hb dL_minutesOfRecipe_3 rfl (lv_at hl 1 rfl) ?_
  refine q_ci (va_runV (As := [.int x1]) (rest := [.int 0, .ref o]) ⟨hx, hb, hml, hown, hts⟩ (hM) (cwV 1 hts gL_minutesOfRecipe_X12_minutesOfRecipe rfl rfl rfl (by decide +kernel) ⟨(by show fr + 1 ≤ fr + 1; omega), (by show 8 + (2 + 11) + lo ≤ lo + 21; omega)⟩) (q_pV hA hW hS (ci := 10) rfl hX) rfl rfl hl.1 rfl (lv_room (Nat.le_of_ble_eq_true rfl)) dL_minutesOfRecipe_4 ⟨(by show 0 + c1 ≤ c1; omega), (by show 0 + s1 ≤ s1; omega)⟩) hS (fun r_4 f_4 n_4 H locs hp hW hS => ?_)
  obtain ⟨rfl, hq⟩ := hp
  refine lv_i2l hx hb dL_minutesOfRecipe_7 rfl ?_
  refine q_last hx hb hA hW hS (hQ _ _ hq) (show vp_in (nI 0) 1 from vp_in_nI (by decide) (by decide)) dL_minutesOfRecipe_8 (fun H locs hW hS => ?_)
  rw [show (0 : Int32).toNatClampNeg = 0 from rfl] at hW
  have hW : q_W E (va_up f_4 o (some (aJ E 1 (vp_updL og 0 R.toInt64)))) n_4 H := hW
  refine lv_goto (tgt := 15) hx hb dL_minutesOfRecipe_9 (by decide) ?_
  refine lv_iconst (v := 0) hx hb dL_minutesOfRecipe_15 (by decide) ?_
  exact vx_ret (q_iret hx hb hr hlocks hW hS ⟨rfl, _, hq, rfl⟩ (by omega) (by omega) dL_minutesOfRecipe_16)

set_option maxHeartbeats 4000000 in
set_option maxRecDepth 100000 in
theorem kL_minutesOfRecipe_X (l : Launch) (E : q_E) (f : q_H) (n : Nat) (a o : Nat) (z1 z2 z3 z4 z5 z6 : Option Nat) (ep : Int32) (x1 : Int32) (fr c1 s1 lo : Nat) (hX : f a = some (rX12 z1 z2 z3 z4 z5 z6 ep)) (hM : vx_Met l yX12_minutesOfRecipe wsX12_minutesOfRecipe ({ frames := fr, cells := c1, slots := s1, locals := lo }) (q_P E [.ref a, .int x1] f n) (q_Qi E (fun _ _ _ => False)) (q_XC E (fun C f1 n1 => C = "java/lang/IndexOutOfBoundsException" ∧ f = f1 ∧ n ≤ n1)) c1 s1 (q_ge E)) : vx_Met l yL_minutesOfRecipe wsL_minutesOfRecipe ({ frames := fr + 1, cells := c1, slots := s1, locals := lo + 21 }) (q_PN E [.ref a, .int x1, .ref o] f n) (q_Qi E (fun r0 f1 n1 => 1 = r0 ∧ f = f1 ∧ n ≤ n1)) (q_XN E) c1 s1 (q_ge E) := by
  refine vx_ofWH (cc := cL_minutesOfRecipe) (maxL := 4) (hh := [(0, 9, 12, 24)]) (ret := (some .int)) (by decide) rfl ?_
  intro p e s m args below meth c s₁ B hml hv
  obtain ⟨hNc, rfl, hA, hW⟩ := hv
  have hx := B.exec
  have hb := B.bytes
  have hr := B.returns
  have hts := atoms_spec (ws := wsL_minutesOfRecipe) B.pre
  have hown : s.vm.findClass RL = some m.cls := findClass_of_methodNamed B.named
  have htab : c.exceptionTable.toList = tableOf [(0, 9, 12, 24)] := vx_table (x := yL_minutesOfRecipe) B (hts _ List.mem_cons_self)
  have hlocks := B.notSynchronized
  have hS : va_S (q_ge E) s.heap s.heap [] := va_S.rf
  have hl := lv_entry ([.ref a, .int x1, .ref o]) (n := 4) (Nat.le_of_ble_eq_true rfl)
  rw [lg_entry_eq]
  generalize (lg_sl ([.ref a, .int x1, .ref o]) ++ List.replicate (4 - (lg_sl ([.ref a, .int x1, .ref o])).length) Slot.unset).toArray = ls at hl ⊢
  have hl : lv_has ls 4 [(0, .ref a), (1, .int x1), (2, .ref o)] := hl
  refine lv_aload_n hx hb dL_minutesOfRecipe_0 rfl (lv_at hl 2 rfl) ?_
  refine lv_iconst (v := 0) hx hb dL_minutesOfRecipe_1 (by decide) ?_
  refine lv_aload_n hx hb dL_minutesOfRecipe_2 rfl (lv_at hl 0 rfl) ?_
  refine lv_iload_n hx hb dL_minutesOfRecipe_3 rfl (lv_at hl 1 rfl) ?_
  refine q_xi (vx_runV (As := [.int x1]) (rest := [.int 0, .ref o]) ⟨hx, hb, hml, hown, hts⟩ (hM) (cwV 1 hts gL_minutesOfRecipe_X12_minutesOfRecipe rfl rfl rfl (by decide +kernel) ⟨(by show fr + 1 ≤ fr + 1; omega), (by show 8 + (2 + 11) + lo ≤ lo + 21; omega)⟩) (q_pV hA hW hS (ci := 10) rfl hX) rfl rfl hl.1 rfl (lv_room (Nat.le_of_ble_eq_true rfl)) dL_minutesOfRecipe_4 ⟨(by show 0 + c1 ≤ c1; omega), (by show 0 + s1 ≤ s1; omega)⟩) hS (fun C9 ce9 q9 f9 n9 H locs hp hW hS h91 h92 h93 => ?_) (fun r_4 f_4 n_4 H locs hp hW hS => hp.elim)
  obtain ⟨rfl, rfl, h94⟩ := hp
  refine vx_catch (own := RL) (name := "java/lang/IndexOutOfBoundsException") hown [] ⟨0, 9, 12, 24⟩ [] htab (fun z hz => nomatch hz) (by decide) (by decide) (hts (.classLink RL 24 "java/lang/IndexOutOfBoundsException") (by decide +kernel)) (va_Nw.use rfl (hA.2.2.2.2.2.2.1 ("java/lang/IndexOutOfBoundsException", "java/lang/IndexOutOfBoundsException") (by decide +kernel))) h91 h92 h93 ?_
  refine lv_astore_n (lv' := [(3, .ref q9), (0, .ref a), (1, .int x1), (2, .ref o)]) hx hb dL_minutesOfRecipe_12 rfl hl (by decide) rfl (fun ls hl => ?_)
  refine lv_iconst (v := 1) hx hb dL_minutesOfRecipe_13 (by decide) ?_
  exact vx_ret (q_iret hx hb hr hlocks hW hS ⟨rfl, rfl, h94⟩ (by omega) (by omega) dL_minutesOfRecipe_14)

set_option maxHeartbeats 4000000 in
set_option maxRecDepth 100000 in
theorem kL_warningsOfRecipe (l : Launch) (E : q_E) (f : q_H) (n : Nat) (a o : Nat) (z1 z2 z3 z4 z5 z6 : Option Nat) (ep : Int32) (x1 : Int32) (fr c1 s1 lo : Nat) (R : Int32) (Q : q_H → Nat → Prop) (og : Nat → Int64) (hX : f a = some (rX12 z1 z2 z3 z4 z5 z6 ep)) (hM : Met l yX12_warningsOfRecipe wsX12_warningsOfRecipe ({ frames := fr, cells := c1, slots := s1, locals := lo }) (q_P E [.ref a, .int x1] f n) (q_Qi E (fun r f1 n1 => R = r ∧ Q f1 n1)) c1 s1 (q_ge E)) (hQ : ∀ f1 n1, Q f1 n1 → f1 o = some (aJ E 1 og)) : vx_Met l yL_warningsOfRecipe wsL_warningsOfRecipe ({ frames := fr + 1, cells := c1, slots := s1, locals := lo + 21 }) (q_PN E [.ref a, .int x1, .ref o] f n) (q_Qi E (fun r0 f1 n1 => 0 = r0 ∧ ∃ f9, Q f9 n1 ∧ va_up f9 o (some (aJ E 1 (vp_updL og 0 R.toInt64))) = f1)) (q_XN E) c1 s1 (q_ge E) := by
  refine vx_ofWH (cc := cL_warningsOfRecipe) (maxL := 4) (hh := [(0, 9, 12, 24)]) (ret := (some .int)) (by decide) rfl ?_
  intro p e s m args below meth c s₁ B hml hv
  obtain ⟨hNc, rfl, hA, hW⟩ := hv
  have hx := B.exec
  have hb := B.bytes
  have hr := B.returns
  have hts := atoms_spec (ws := wsL_warningsOfRecipe) B.pre
  have hown : s.vm.findClass RL = some m.cls := findClass_of_methodNamed B.named
  have htab : c.exceptionTable.toList = tableOf [(0, 9, 12, 24)] := vx_table (x := yL_warningsOfRecipe) B (hts _ List.mem_cons_self)
  have hlocks := B.notSynchronized
  have hS : va_S (q_ge E) s.heap s.heap [] := va_S.rf
  have hl := lv_entry ([.ref a, .int x1, .ref o]) (n := 4) (Nat.le_of_ble_eq_true rfl)
  rw [lg_entry_eq]
  generalize (lg_sl ([.ref a, .int x1, .ref o]) ++ List.replicate (4 - (lg_sl ([.ref a, .int x1, .ref o])).length) Slot.unset).toArray = ls at hl ⊢
  have hl : lv_has ls 4 [(0, .ref a), (1, .int x1), (2, .ref o)] := hl
  refine lv_aload_n hx hb dL_warningsOfRecipe_0 rfl (lv_at hl 2 rfl) ?_
  refine lv_iconst (v := 0) hx hb dL_warningsOfRecipe_1 (by decide) ?_
  refine lv_aload_n hx hb dL_warningsOfRecipe_2 rfl (lv_at hl 0 rfl) ?_
  refine lv_iload_n hx hb dL_warningsOfRecipe_3 rfl (lv_at hl 1 rfl) ?_
  refine q_ci (va_runV (As := [.int x1]) (rest := [.int 0, .ref o]) ⟨hx, hb, hml, hown, hts⟩ (hM) (cwV 1 hts gL_warningsOfRecipe_X12_warningsOfRecipe rfl rfl rfl (by decide +kernel) ⟨(by show fr + 1 ≤ fr + 1; omega), (by show 8 + (2 + 11) + lo ≤ lo + 21; omega)⟩) (q_pV hA hW hS (ci := 10) rfl hX) rfl rfl hl.1 rfl (lv_room (Nat.le_of_ble_eq_true rfl)) dL_warningsOfRecipe_4 ⟨(by show 0 + c1 ≤ c1; omega), (by show 0 + s1 ≤ s1; omega)⟩) hS (fun r_4 f_4 n_4 H locs hp hW hS => ?_)
  obtain ⟨rfl, hq⟩ := hp
  refine lv_i2l hx hb dL_warningsOfRecipe_7 rfl ?_
  refine q_last hx hb hA hW hS (hQ _ _ hq) (show vp_in (nI 0) 1 from vp_in_nI (by decide) (by decide)) dL_warningsOfRecipe_8 (fun H locs hW hS => ?_)
  rw [show (0 : Int32).toNatClampNeg = 0 from rfl] at hW
  have hW : q_W E (va_up f_4 o (some (aJ E 1 (vp_updL og 0 R.toInt64)))) n_4 H := hW
  refine lv_goto (tgt := 15) hx hb dL_warningsOfRecipe_9 (by decide) ?_
  refine lv_iconst (v := 0) hx hb dL_warningsOfRecipe_15 (by decide) ?_
  exact vx_ret (q_iret hx hb hr hlocks hW hS ⟨rfl, _, hq, rfl⟩ (by omega) (by omega) dL_warningsOfRecipe_16)

set_option maxHeartbeats 4000000 in
set_option maxRecDepth 100000 in
theorem kL_warningsOfRecipe_X (l : Launch) (E : q_E) (f : q_H) (n : Nat) (a o : Nat) (z1 z2 z3 z4 z5 z6 : Option Nat) (ep : Int32) (x1 : Int32) (fr c1 s1 lo : Nat) (hX : f a = some (rX12 z1 z2 z3 z4 z5 z6 ep)) (hM : vx_Met l yX12_warningsOfRecipe wsX12_warningsOfRecipe ({ frames := fr, cells := c1, slots := s1, locals := lo }) (q_P E [.ref a, .int x1] f n) (q_Qi E (fun _ _ _ => False)) (q_XC E (fun C f1 n1 => C = "java/lang/IndexOutOfBoundsException" ∧ f = f1 ∧ n ≤ n1)) c1 s1 (q_ge E)) : vx_Met l yL_warningsOfRecipe wsL_warningsOfRecipe ({ frames := fr + 1, cells := c1, slots := s1, locals := lo + 21 }) (q_PN E [.ref a, .int x1, .ref o] f n) (q_Qi E (fun r0 f1 n1 => 1 = r0 ∧ f = f1 ∧ n ≤ n1)) (q_XN E) c1 s1 (q_ge E) := by
  refine vx_ofWH (cc := cL_warningsOfRecipe) (maxL := 4) (hh := [(0, 9, 12, 24)]) (ret := (some .int)) (by decide) rfl ?_
  intro p e s m args below meth c s₁ B hml hv
  obtain ⟨hNc, rfl, hA, hW⟩ := hv
  have hx := B.exec
  have hb := B.bytes
  have hr := B.returns
  have hts := atoms_spec (ws := wsL_warningsOfRecipe) B.pre
  have hown : s.vm.findClass RL = some m.cls := findClass_of_methodNamed B.named
  have htab : c.exceptionTable.toList = tableOf [(0, 9, 12, 24)] := vx_table (x := yL_warningsOfRecipe) B (hts _ List.mem_cons_self)
  have hlocks := B.notSynchronized
  have hS : va_S (q_ge E) s.heap s.heap [] := va_S.rf
  have hl := lv_entry ([.ref a, .int x1, .ref o]) (n := 4) (Nat.le_of_ble_eq_true rfl)
  rw [lg_entry_eq]
  generalize (lg_sl ([.ref a, .int x1, .ref o]) ++ List.replicate (4 - (lg_sl ([.ref a, .int x1, .ref o])).length) Slot.unset).toArray = ls at hl ⊢
  have hl : lv_has ls 4 [(0, .ref a), (1, .int x1), (2, .ref o)] := hl
  refine lv_aload_n hx hb dL_warningsOfRecipe_0 rfl (lv_at hl 2 rfl) ?_
  refine lv_iconst (v := 0) hx hb dL_warningsOfRecipe_1 (by decide) ?_
  refine lv_aload_n hx hb dL_warningsOfRecipe_2 rfl (lv_at hl 0 rfl) ?_
  refine lv_iload_n hx hb dL_warningsOfRecipe_3 rfl (lv_at hl 1 rfl) ?_
  refine q_xi (vx_runV (As := [.int x1]) (rest := [.int 0, .ref o]) ⟨hx, hb, hml, hown, hts⟩ (hM) (cwV 1 hts gL_warningsOfRecipe_X12_warningsOfRecipe rfl rfl rfl (by decide +kernel) ⟨(by show fr + 1 ≤ fr + 1; omega), (by show 8 + (2 + 11) + lo ≤ lo + 21; omega)⟩) (q_pV hA hW hS (ci := 10) rfl hX) rfl rfl hl.1 rfl (lv_room (Nat.le_of_ble_eq_true rfl)) dL_warningsOfRecipe_4 ⟨(by show 0 + c1 ≤ c1; omega), (by show 0 + s1 ≤ s1; omega)⟩) hS (fun C9 ce9 q9 f9 n9 H locs hp hW hS h91 h92 h93 => ?_) (fun r_4 f_4 n_4 H locs hp hW hS => hp.elim)
  obtain ⟨rfl, rfl, h94⟩ := hp
  refine vx_catch (own := RL) (name := "java/lang/IndexOutOfBoundsException") hown [] ⟨0, 9, 12, 24⟩ [] htab (fun z hz => nomatch hz) (by decide) (by decide) (hts (.classLink RL 24 "java/lang/IndexOutOfBoundsException") (by decide +kernel)) (va_Nw.use rfl (hA.2.2.2.2.2.2.1 ("java/lang/IndexOutOfBoundsException", "java/lang/IndexOutOfBoundsException") (by decide +kernel))) h91 h92 h93 ?_
  refine lv_astore_n (lv' := [(3, .ref q9), (0, .ref a), (1, .int x1), (2, .ref o)]) hx hb dL_warningsOfRecipe_12 rfl hl (by decide) rfl (fun ls hl => ?_)
  refine lv_iconst (v := 1) hx hb dL_warningsOfRecipe_13 (by decide) ?_
  exact vx_ret (q_iret hx hb hr hlocks hW hS ⟨rfl, rfl, h94⟩ (by omega) (by omega) dL_warningsOfRecipe_14)

set_option maxHeartbeats 4000000 in
set_option maxRecDepth 100000 in
theorem kL_firstWarning (l : Launch) (E : q_E) (f : q_H) (n : Nat) (a o : Nat) (z1 z2 z3 z4 z5 z6 : Option Nat) (ep : Int32) (x1 : Int32) (fr c1 s1 lo : Nat) (R : Int32) (Q : q_H → Nat → Prop) (og : Nat → Int64) (hX : f a = some (rX12 z1 z2 z3 z4 z5 z6 ep)) (hM : Met l yX12_firstWarning wsX12_firstWarning ({ frames := fr, cells := c1, slots := s1, locals := lo }) (q_P E [.ref a, .int x1] f n) (q_Qi E (fun r f1 n1 => R = r ∧ Q f1 n1)) c1 s1 (q_ge E)) (hQ : ∀ f1 n1, Q f1 n1 → f1 o = some (aJ E 1 og)) : vx_Met l yL_firstWarning wsL_firstWarning ({ frames := fr + 1, cells := c1, slots := s1, locals := lo + 21 }) (q_PN E [.ref a, .int x1, .ref o] f n) (q_Qi E (fun r0 f1 n1 => 0 = r0 ∧ ∃ f9, Q f9 n1 ∧ va_up f9 o (some (aJ E 1 (vp_updL og 0 R.toInt64))) = f1)) (q_XN E) c1 s1 (q_ge E) := by
  refine vx_ofWH (cc := cL_firstWarning) (maxL := 4) (hh := [(0, 9, 12, 24)]) (ret := (some .int)) (by decide) rfl ?_
  intro p e s m args below meth c s₁ B hml hv
  obtain ⟨hNc, rfl, hA, hW⟩ := hv
  have hx := B.exec
  have hb := B.bytes
  have hr := B.returns
  have hts := atoms_spec (ws := wsL_firstWarning) B.pre
  have hown : s.vm.findClass RL = some m.cls := findClass_of_methodNamed B.named
  have htab : c.exceptionTable.toList = tableOf [(0, 9, 12, 24)] := vx_table (x := yL_firstWarning) B (hts _ List.mem_cons_self)
  have hlocks := B.notSynchronized
  have hS : va_S (q_ge E) s.heap s.heap [] := va_S.rf
  have hl := lv_entry ([.ref a, .int x1, .ref o]) (n := 4) (Nat.le_of_ble_eq_true rfl)
  rw [lg_entry_eq]
  generalize (lg_sl ([.ref a, .int x1, .ref o]) ++ List.replicate (4 - (lg_sl ([.ref a, .int x1, .ref o])).length) Slot.unset).toArray = ls at hl ⊢
  have hl : lv_has ls 4 [(0, .ref a), (1, .int x1), (2, .ref o)] := hl
  refine lv_aload_n hx hb dL_firstWarning_0 rfl (lv_at hl 2 rfl) ?_
  refine lv_iconst (v := 0) hx hb dL_firstWarning_1 (by decide) ?_
  refine lv_aload_n hx hb dL_firstWarning_2 rfl (lv_at hl 0 rfl) ?_
  refine lv_iload_n hx hb dL_firstWarning_3 rfl (lv_at hl 1 rfl) ?_
  refine q_ci (va_runV (As := [.int x1]) (rest := [.int 0, .ref o]) ⟨hx, hb, hml, hown, hts⟩ (hM) (cwV 1 hts gL_firstWarning_X12_firstWarning rfl rfl rfl (by decide +kernel) ⟨(by show fr + 1 ≤ fr + 1; omega), (by show 8 + (2 + 11) + lo ≤ lo + 21; omega)⟩) (q_pV hA hW hS (ci := 10) rfl hX) rfl rfl hl.1 rfl (lv_room (Nat.le_of_ble_eq_true rfl)) dL_firstWarning_4 ⟨(by show 0 + c1 ≤ c1; omega), (by show 0 + s1 ≤ s1; omega)⟩) hS (fun r_4 f_4 n_4 H locs hp hW hS => ?_)
  obtain ⟨rfl, hq⟩ := hp
  refine lv_i2l hx hb dL_firstWarning_7 rfl ?_
  refine q_last hx hb hA hW hS (hQ _ _ hq) (show vp_in (nI 0) 1 from vp_in_nI (by decide) (by decide)) dL_firstWarning_8 (fun H locs hW hS => ?_)
  rw [show (0 : Int32).toNatClampNeg = 0 from rfl] at hW
  have hW : q_W E (va_up f_4 o (some (aJ E 1 (vp_updL og 0 R.toInt64)))) n_4 H := hW
  refine lv_goto (tgt := 15) hx hb dL_firstWarning_9 (by decide) ?_
  refine lv_iconst (v := 0) hx hb dL_firstWarning_15 (by decide) ?_
  exact vx_ret (q_iret hx hb hr hlocks hW hS ⟨rfl, _, hq, rfl⟩ (by omega) (by omega) dL_firstWarning_16)

set_option maxHeartbeats 4000000 in
set_option maxRecDepth 100000 in
theorem kL_firstWarning_X (l : Launch) (E : q_E) (f : q_H) (n : Nat) (a o : Nat) (z1 z2 z3 z4 z5 z6 : Option Nat) (ep : Int32) (x1 : Int32) (fr c1 s1 lo : Nat) (hX : f a = some (rX12 z1 z2 z3 z4 z5 z6 ep)) (hM : vx_Met l yX12_firstWarning wsX12_firstWarning ({ frames := fr, cells := c1, slots := s1, locals := lo }) (q_P E [.ref a, .int x1] f n) (q_Qi E (fun _ _ _ => False)) (q_XC E (fun C f1 n1 => C = "java/lang/IndexOutOfBoundsException" ∧ f = f1 ∧ n ≤ n1)) c1 s1 (q_ge E)) : vx_Met l yL_firstWarning wsL_firstWarning ({ frames := fr + 1, cells := c1, slots := s1, locals := lo + 21 }) (q_PN E [.ref a, .int x1, .ref o] f n) (q_Qi E (fun r0 f1 n1 => 1 = r0 ∧ f = f1 ∧ n ≤ n1)) (q_XN E) c1 s1 (q_ge E) := by
  refine vx_ofWH (cc := cL_firstWarning) (maxL := 4) (hh := [(0, 9, 12, 24)]) (ret := (some .int)) (by decide) rfl ?_
  intro p e s m args below meth c s₁ B hml hv
  obtain ⟨hNc, rfl, hA, hW⟩ := hv
  have hx := B.exec
  have hb := B.bytes
  have hr := B.returns
  have hts := atoms_spec (ws := wsL_firstWarning) B.pre
  have hown : s.vm.findClass RL = some m.cls := findClass_of_methodNamed B.named
  have htab : c.exceptionTable.toList = tableOf [(0, 9, 12, 24)] := vx_table (x := yL_firstWarning) B (hts _ List.mem_cons_self)
  have hlocks := B.notSynchronized
  have hS : va_S (q_ge E) s.heap s.heap [] := va_S.rf
  have hl := lv_entry ([.ref a, .int x1, .ref o]) (n := 4) (Nat.le_of_ble_eq_true rfl)
  rw [lg_entry_eq]
  generalize (lg_sl ([.ref a, .int x1, .ref o]) ++ List.replicate (4 - (lg_sl ([.ref a, .int x1, .ref o])).length) Slot.unset).toArray = ls at hl ⊢
  have hl : lv_has ls 4 [(0, .ref a), (1, .int x1), (2, .ref o)] := hl
  refine lv_aload_n hx hb dL_firstWarning_0 rfl (lv_at hl 2 rfl) ?_
  refine lv_iconst (v := 0) hx hb dL_firstWarning_1 (by decide) ?_
  refine lv_aload_n hx hb dL_firstWarning_2 rfl (lv_at hl 0 rfl) ?_
  refine lv_iload_n hx hb dL_firstWarning_3 rfl (lv_at hl 1 rfl) ?_
  refine q_xi (vx_runV (As := [.int x1]) (rest := [.int 0, .ref o]) ⟨hx, hb, hml, hown, hts⟩ (hM) (cwV 1 hts gL_firstWarning_X12_firstWarning rfl rfl rfl (by decide +kernel) ⟨(by show fr + 1 ≤ fr + 1; omega), (by show 8 + (2 + 11) + lo ≤ lo + 21; omega)⟩) (q_pV hA hW hS (ci := 10) rfl hX) rfl rfl hl.1 rfl (lv_room (Nat.le_of_ble_eq_true rfl)) dL_firstWarning_4 ⟨(by show 0 + c1 ≤ c1; omega), (by show 0 + s1 ≤ s1; omega)⟩) hS (fun C9 ce9 q9 f9 n9 H locs hp hW hS h91 h92 h93 => ?_) (fun r_4 f_4 n_4 H locs hp hW hS => hp.elim)
  obtain ⟨rfl, rfl, h94⟩ := hp
  refine vx_catch (own := RL) (name := "java/lang/IndexOutOfBoundsException") hown [] ⟨0, 9, 12, 24⟩ [] htab (fun z hz => nomatch hz) (by decide) (by decide) (hts (.classLink RL 24 "java/lang/IndexOutOfBoundsException") (by decide +kernel)) (va_Nw.use rfl (hA.2.2.2.2.2.2.1 ("java/lang/IndexOutOfBoundsException", "java/lang/IndexOutOfBoundsException") (by decide +kernel))) h91 h92 h93 ?_
  refine lv_astore_n (lv' := [(3, .ref q9), (0, .ref a), (1, .int x1), (2, .ref o)]) hx hb dL_firstWarning_12 rfl hl (by decide) rfl (fun ls hl => ?_)
  refine lv_iconst (v := 1) hx hb dL_firstWarning_13 (by decide) ?_
  exact vx_ret (q_iret hx hb hr hlocks hW hS ⟨rfl, rfl, h94⟩ (by omega) (by omega) dL_firstWarning_14)

set_option maxHeartbeats 4000000 in
set_option maxRecDepth 100000 in
theorem kL_doneBehind (l : Launch) (E : q_E) (f : q_H) (n : Nat) (a o : Nat) (z1 z2 z3 z4 z5 z6 : Option Nat) (ep : Int32) (x1 x2 : Int32) (fr c1 s1 lo : Nat) (R : Int32) (Q : q_H → Nat → Prop) (og : Nat → Int64) (hX : f a = some (rX12 z1 z2 z3 z4 z5 z6 ep)) (hM : Met l yX12_doneBehind wsX12_doneBehind ({ frames := fr, cells := c1, slots := s1, locals := lo }) (q_P E [.ref a, .int x1, .int x2] f n) (q_Qi E (fun r f1 n1 => R = r ∧ Q f1 n1)) c1 s1 (q_ge E)) (hQ : ∀ f1 n1, Q f1 n1 → f1 o = some (aJ E 1 og)) : vx_Met l yL_doneBehind wsL_doneBehind ({ frames := fr + 1, cells := c1, slots := s1, locals := lo + 23 }) (q_PN E [.ref a, .int x1, .int x2, .ref o] f n) (q_Qi E (fun r0 f1 n1 => 0 = r0 ∧ ∃ f9, Q f9 n1 ∧ va_up f9 o (some (aJ E 1 (vp_updL og 0 R.toInt64))) = f1)) (q_XN E) c1 s1 (q_ge E) := by
  refine vx_ofWH (cc := cL_doneBehind) (maxL := 5) (hh := [(0, 10, 13, 24)]) (ret := (some .int)) (by decide) rfl ?_
  intro p e s m args below meth c s₁ B hml hv
  obtain ⟨hNc, rfl, hA, hW⟩ := hv
  have hx := B.exec
  have hb := B.bytes
  have hr := B.returns
  have hts := atoms_spec (ws := wsL_doneBehind) B.pre
  have hown : s.vm.findClass RL = some m.cls := findClass_of_methodNamed B.named
  have htab : c.exceptionTable.toList = tableOf [(0, 10, 13, 24)] := vx_table (x := yL_doneBehind) B (hts _ List.mem_cons_self)
  have hlocks := B.notSynchronized
  have hS : va_S (q_ge E) s.heap s.heap [] := va_S.rf
  have hl := lv_entry ([.ref a, .int x1, .int x2, .ref o]) (n := 5) (Nat.le_of_ble_eq_true rfl)
  rw [lg_entry_eq]
  generalize (lg_sl ([.ref a, .int x1, .int x2, .ref o]) ++ List.replicate (5 - (lg_sl ([.ref a, .int x1, .int x2, .ref o])).length) Slot.unset).toArray = ls at hl ⊢
  have hl : lv_has ls 5 [(0, .ref a), (1, .int x1), (2, .int x2), (3, .ref o)] := hl
  refine lv_aload_n hx hb dL_doneBehind_0 rfl (lv_at hl 3 rfl) ?_
  refine lv_iconst (v := 0) hx hb dL_doneBehind_1 (by decide) ?_
  refine lv_aload_n hx hb dL_doneBehind_2 rfl (lv_at hl 0 rfl) ?_
  refine lv_iload_n hx hb dL_doneBehind_3 rfl (lv_at hl 1 rfl) ?_
  refine lv_iload_n hx hb dL_doneBehind_4 rfl (lv_at hl 2 rfl) ?_
  refine q_ci (va_runV (As := [.int x1, .int x2]) (rest := [.int 0, .ref o]) ⟨hx, hb, hml, hown, hts⟩ (hM) (cwV 2 hts gL_doneBehind_X12_doneBehind rfl rfl rfl (by decide +kernel) ⟨(by show fr + 1 ≤ fr + 1; omega), (by show 8 + (4 + 11) + lo ≤ lo + 23; omega)⟩) (q_pV hA hW hS (ci := 10) rfl hX) rfl rfl hl.1 rfl (lv_room (Nat.le_of_ble_eq_true rfl)) dL_doneBehind_5 ⟨(by show 0 + c1 ≤ c1; omega), (by show 0 + s1 ≤ s1; omega)⟩) hS (fun r_5 f_5 n_5 H locs hp hW hS => ?_)
  obtain ⟨rfl, hq⟩ := hp
  refine lv_i2l hx hb dL_doneBehind_8 rfl ?_
  refine q_last hx hb hA hW hS (hQ _ _ hq) (show vp_in (nI 0) 1 from vp_in_nI (by decide) (by decide)) dL_doneBehind_9 (fun H locs hW hS => ?_)
  rw [show (0 : Int32).toNatClampNeg = 0 from rfl] at hW
  have hW : q_W E (va_up f_5 o (some (aJ E 1 (vp_updL og 0 R.toInt64)))) n_5 H := hW
  refine lv_goto (tgt := 17) hx hb dL_doneBehind_10 (by decide) ?_
  refine lv_iconst (v := 0) hx hb dL_doneBehind_17 (by decide) ?_
  exact vx_ret (q_iret hx hb hr hlocks hW hS ⟨rfl, _, hq, rfl⟩ (by omega) (by omega) dL_doneBehind_18)

set_option maxHeartbeats 4000000 in
set_option maxRecDepth 100000 in
theorem kL_doneBehind_X (l : Launch) (E : q_E) (f : q_H) (n : Nat) (a o : Nat) (z1 z2 z3 z4 z5 z6 : Option Nat) (ep : Int32) (x1 x2 : Int32) (fr c1 s1 lo : Nat) (hX : f a = some (rX12 z1 z2 z3 z4 z5 z6 ep)) (hM : vx_Met l yX12_doneBehind wsX12_doneBehind ({ frames := fr, cells := c1, slots := s1, locals := lo }) (q_P E [.ref a, .int x1, .int x2] f n) (q_Qi E (fun _ _ _ => False)) (q_XC E (fun C f1 n1 => C = "java/lang/IndexOutOfBoundsException" ∧ f = f1 ∧ n ≤ n1)) c1 s1 (q_ge E)) : vx_Met l yL_doneBehind wsL_doneBehind ({ frames := fr + 1, cells := c1, slots := s1, locals := lo + 23 }) (q_PN E [.ref a, .int x1, .int x2, .ref o] f n) (q_Qi E (fun r0 f1 n1 => 1 = r0 ∧ f = f1 ∧ n ≤ n1)) (q_XN E) c1 s1 (q_ge E) := by
  refine vx_ofWH (cc := cL_doneBehind) (maxL := 5) (hh := [(0, 10, 13, 24)]) (ret := (some .int)) (by decide) rfl ?_
  intro p e s m args below meth c s₁ B hml hv
  obtain ⟨hNc, rfl, hA, hW⟩ := hv
  have hx := B.exec
  have hb := B.bytes
  have hr := B.returns
  have hts := atoms_spec (ws := wsL_doneBehind) B.pre
  have hown : s.vm.findClass RL = some m.cls := findClass_of_methodNamed B.named
  have htab : c.exceptionTable.toList = tableOf [(0, 10, 13, 24)] := vx_table (x := yL_doneBehind) B (hts _ List.mem_cons_self)
  have hlocks := B.notSynchronized
  have hS : va_S (q_ge E) s.heap s.heap [] := va_S.rf
  have hl := lv_entry ([.ref a, .int x1, .int x2, .ref o]) (n := 5) (Nat.le_of_ble_eq_true rfl)
  rw [lg_entry_eq]
  generalize (lg_sl ([.ref a, .int x1, .int x2, .ref o]) ++ List.replicate (5 - (lg_sl ([.ref a, .int x1, .int x2, .ref o])).length) Slot.unset).toArray = ls at hl ⊢
  have hl : lv_has ls 5 [(0, .ref a), (1, .int x1), (2, .int x2), (3, .ref o)] := hl
  refine lv_aload_n hx hb dL_doneBehind_0 rfl (lv_at hl 3 rfl) ?_
  refine lv_iconst (v := 0) hx hb dL_doneBehind_1 (by decide) ?_
  refine lv_aload_n hx hb dL_doneBehind_2 rfl (lv_at hl 0 rfl) ?_
  refine lv_iload_n hx hb dL_doneBehind_3 rfl (lv_at hl 1 rfl) ?_
  refine lv_iload_n hx hb dL_doneBehind_4 rfl (lv_at hl 2 rfl) ?_
  refine q_xi (vx_runV (As := [.int x1, .int x2]) (rest := [.int 0, .ref o]) ⟨hx, hb, hml, hown, hts⟩ (hM) (cwV 2 hts gL_doneBehind_X12_doneBehind rfl rfl rfl (by decide +kernel) ⟨(by show fr + 1 ≤ fr + 1; omega), (by show 8 + (4 + 11) + lo ≤ lo + 23; omega)⟩) (q_pV hA hW hS (ci := 10) rfl hX) rfl rfl hl.1 rfl (lv_room (Nat.le_of_ble_eq_true rfl)) dL_doneBehind_5 ⟨(by show 0 + c1 ≤ c1; omega), (by show 0 + s1 ≤ s1; omega)⟩) hS (fun C9 ce9 q9 f9 n9 H locs hp hW hS h91 h92 h93 => ?_) (fun r_5 f_5 n_5 H locs hp hW hS => hp.elim)
  obtain ⟨rfl, rfl, h94⟩ := hp
  refine vx_catch (own := RL) (name := "java/lang/IndexOutOfBoundsException") hown [] ⟨0, 10, 13, 24⟩ [] htab (fun z hz => nomatch hz) (by decide) (by decide) (hts (.classLink RL 24 "java/lang/IndexOutOfBoundsException") (by decide +kernel)) (va_Nw.use rfl (hA.2.2.2.2.2.2.1 ("java/lang/IndexOutOfBoundsException", "java/lang/IndexOutOfBoundsException") (by decide +kernel))) h91 h92 h93 ?_
  refine lv_astore (lv' := [(4, .ref q9), (0, .ref a), (1, .int x1), (2, .int x2), (3, .ref o)]) hx hb dL_doneBehind_13 hl (by decide) rfl (fun ls hl => ?_)
  refine lv_iconst (v := 1) hx hb dL_doneBehind_15 (by decide) ?_
  exact vx_ret (q_iret hx hb hr hlocks hW hS ⟨rfl, rfl, h94⟩ (by omega) (by omega) dL_doneBehind_16)

set_option maxHeartbeats 4000000 in
set_option maxRecDepth 100000 in
theorem kL_highestSafe (l : Launch) (E : q_E) (f : q_H) (n : Nat) (a o : Nat) (z1 z2 z3 z4 z5 z6 : Option Nat) (ep : Int32) (x1 : Int32) (fr c1 s1 lo : Nat) (R : Int32) (Q : q_H → Nat → Prop) (og : Nat → Int64) (hX : f a = some (rX12 z1 z2 z3 z4 z5 z6 ep)) (hM : Met l yX12_highestSafe wsX12_highestSafe ({ frames := fr, cells := c1, slots := s1, locals := lo }) (q_P E [.ref a, .int x1] f n) (q_Qi E (fun r f1 n1 => R = r ∧ Q f1 n1)) c1 s1 (q_ge E)) (hQ : ∀ f1 n1, Q f1 n1 → f1 o = some (aJ E 1 og)) : vx_Met l yL_highestSafe wsL_highestSafe ({ frames := fr + 1, cells := c1, slots := s1, locals := lo + 22 }) (q_PN E [.ref a, .int x1, .ref o] f n) (q_Qi E (fun r0 f1 n1 => 0 = r0 ∧ ∃ f9, Q f9 n1 ∧ va_up f9 o (some (aJ E 1 (vp_updL og 0 R.toInt64))) = f1)) (q_XN E) c1 s1 (q_ge E) := by
  refine vx_ofWH (cc := cL_highestSafe) (maxL := 4) (hh := [(0, 9, 12, 24)]) (ret := (some .int)) (by decide) rfl ?_
  intro p e s m args below meth c s₁ B hml hv
  obtain ⟨hNc, rfl, hA, hW⟩ := hv
  have hx := B.exec
  have hb := B.bytes
  have hr := B.returns
  have hts := atoms_spec (ws := wsL_highestSafe) B.pre
  have hown : s.vm.findClass RL = some m.cls := findClass_of_methodNamed B.named
  have htab : c.exceptionTable.toList = tableOf [(0, 9, 12, 24)] := vx_table (x := yL_highestSafe) B (hts _ List.mem_cons_self)
  have hlocks := B.notSynchronized
  have hS : va_S (q_ge E) s.heap s.heap [] := va_S.rf
  have hl := lv_entry ([.ref a, .int x1, .ref o]) (n := 4) (Nat.le_of_ble_eq_true rfl)
  rw [lg_entry_eq]
  generalize (lg_sl ([.ref a, .int x1, .ref o]) ++ List.replicate (4 - (lg_sl ([.ref a, .int x1, .ref o])).length) Slot.unset).toArray = ls at hl ⊢
  have hl : lv_has ls 4 [(0, .ref a), (1, .int x1), (2, .ref o)] := hl
  refine lv_aload_n hx hb dL_highestSafe_0 rfl (lv_at hl 2 rfl) ?_
  refine lv_iconst (v := 0) hx hb dL_highestSafe_1 (by decide) ?_
  refine lv_aload_n hx hb dL_highestSafe_2 rfl (lv_at hl 0 rfl) ?_
  refine lv_iload_n hx hb dL_highestSafe_3 rfl (lv_at hl 1 rfl) ?_
  refine q_ci (va_runV (As := [.int x1]) (rest := [.int 0, .ref o]) ⟨hx, hb, hml, hown, hts⟩ (hM) (cwV 1 hts gL_highestSafe_X12_highestSafe rfl rfl rfl (by decide +kernel) ⟨(by show fr + 1 ≤ fr + 1; omega), (by show 8 + (3 + 11) + lo ≤ lo + 22; omega)⟩) (q_pV hA hW hS (ci := 10) rfl hX) rfl rfl hl.1 rfl (lv_room (Nat.le_of_ble_eq_true rfl)) dL_highestSafe_4 ⟨(by show 0 + c1 ≤ c1; omega), (by show 0 + s1 ≤ s1; omega)⟩) hS (fun r_4 f_4 n_4 H locs hp hW hS => ?_)
  obtain ⟨rfl, hq⟩ := hp
  refine lv_i2l hx hb dL_highestSafe_7 rfl ?_
  refine q_last hx hb hA hW hS (hQ _ _ hq) (show vp_in (nI 0) 1 from vp_in_nI (by decide) (by decide)) dL_highestSafe_8 (fun H locs hW hS => ?_)
  rw [show (0 : Int32).toNatClampNeg = 0 from rfl] at hW
  have hW : q_W E (va_up f_4 o (some (aJ E 1 (vp_updL og 0 R.toInt64)))) n_4 H := hW
  refine lv_goto (tgt := 15) hx hb dL_highestSafe_9 (by decide) ?_
  refine lv_iconst (v := 0) hx hb dL_highestSafe_15 (by decide) ?_
  exact vx_ret (q_iret hx hb hr hlocks hW hS ⟨rfl, _, hq, rfl⟩ (by omega) (by omega) dL_highestSafe_16)

set_option maxHeartbeats 4000000 in
set_option maxRecDepth 100000 in
theorem kL_highestSafe_X (l : Launch) (E : q_E) (f : q_H) (n : Nat) (a o : Nat) (z1 z2 z3 z4 z5 z6 : Option Nat) (ep : Int32) (x1 : Int32) (fr c1 s1 lo : Nat) (hX : f a = some (rX12 z1 z2 z3 z4 z5 z6 ep)) (hM : vx_Met l yX12_highestSafe wsX12_highestSafe ({ frames := fr, cells := c1, slots := s1, locals := lo }) (q_P E [.ref a, .int x1] f n) (q_Qi E (fun _ _ _ => False)) (q_XC E (fun C f1 n1 => C = "java/lang/IndexOutOfBoundsException" ∧ f = f1 ∧ n ≤ n1)) c1 s1 (q_ge E)) : vx_Met l yL_highestSafe wsL_highestSafe ({ frames := fr + 1, cells := c1, slots := s1, locals := lo + 22 }) (q_PN E [.ref a, .int x1, .ref o] f n) (q_Qi E (fun r0 f1 n1 => 1 = r0 ∧ f = f1 ∧ n ≤ n1)) (q_XN E) c1 s1 (q_ge E) := by
  refine vx_ofWH (cc := cL_highestSafe) (maxL := 4) (hh := [(0, 9, 12, 24)]) (ret := (some .int)) (by decide) rfl ?_
  intro p e s m args below meth c s₁ B hml hv
  obtain ⟨hNc, rfl, hA, hW⟩ := hv
  have hx := B.exec
  have hb := B.bytes
  have hr := B.returns
  have hts := atoms_spec (ws := wsL_highestSafe) B.pre
  have hown : s.vm.findClass RL = some m.cls := findClass_of_methodNamed B.named
  have htab : c.exceptionTable.toList = tableOf [(0, 9, 12, 24)] := vx_table (x := yL_highestSafe) B (hts _ List.mem_cons_self)
  have hlocks := B.notSynchronized
  have hS : va_S (q_ge E) s.heap s.heap [] := va_S.rf
  have hl := lv_entry ([.ref a, .int x1, .ref o]) (n := 4) (Nat.le_of_ble_eq_true rfl)
  rw [lg_entry_eq]
  generalize (lg_sl ([.ref a, .int x1, .ref o]) ++ List.replicate (4 - (lg_sl ([.ref a, .int x1, .ref o])).length) Slot.unset).toArray = ls at hl ⊢
  have hl : lv_has ls 4 [(0, .ref a), (1, .int x1), (2, .ref o)] := hl
  refine lv_aload_n hx hb dL_highestSafe_0 rfl (lv_at hl 2 rfl) ?_
  refine lv_iconst (v := 0) hx hb dL_highestSafe_1 (by decide) ?_
  refine lv_aload_n hx hb dL_highestSafe_2 rfl (lv_at hl 0 rfl) ?_
  refine lv_iload_n hx hb dL_highestSafe_3 rfl (lv_at hl 1 rfl) ?_
  refine q_xi (vx_runV (As := [.int x1]) (rest := [.int 0, .ref o]) ⟨hx, hb, hml, hown, hts⟩ (hM) (cwV 1 hts gL_highestSafe_X12_highestSafe rfl rfl rfl (by decide +kernel) ⟨(by show fr + 1 ≤ fr + 1; omega), (by show 8 + (3 + 11) + lo ≤ lo + 22; omega)⟩) (q_pV hA hW hS (ci := 10) rfl hX) rfl rfl hl.1 rfl (lv_room (Nat.le_of_ble_eq_true rfl)) dL_highestSafe_4 ⟨(by show 0 + c1 ≤ c1; omega), (by show 0 + s1 ≤ s1; omega)⟩) hS (fun C9 ce9 q9 f9 n9 H locs hp hW hS h91 h92 h93 => ?_) (fun r_4 f_4 n_4 H locs hp hW hS => hp.elim)
  obtain ⟨rfl, rfl, h94⟩ := hp
  refine vx_catch (own := RL) (name := "java/lang/IndexOutOfBoundsException") hown [] ⟨0, 9, 12, 24⟩ [] htab (fun z hz => nomatch hz) (by decide) (by decide) (hts (.classLink RL 24 "java/lang/IndexOutOfBoundsException") (by decide +kernel)) (va_Nw.use rfl (hA.2.2.2.2.2.2.1 ("java/lang/IndexOutOfBoundsException", "java/lang/IndexOutOfBoundsException") (by decide +kernel))) h91 h92 h93 ?_
  refine lv_astore_n (lv' := [(3, .ref q9), (0, .ref a), (1, .int x1), (2, .ref o)]) hx hb dL_highestSafe_12 rfl hl (by decide) rfl (fun ls hl => ?_)
  refine lv_iconst (v := 1) hx hb dL_highestSafe_13 (by decide) ?_
  exact vx_ret (q_iret hx hb hr hlocks hW hS ⟨rfl, rfl, h94⟩ (by omega) (by omega) dL_highestSafe_14)

set_option maxHeartbeats 4000000 in
set_option maxRecDepth 100000 in
theorem kL_mostServings (l : Launch) (E : q_E) (f : q_H) (n : Nat) (a o : Nat) (z1 z2 z3 z4 z5 z6 : Option Nat) (ep : Int32) (x1 : Int32) (fr c1 s1 lo : Nat) (R : Int32) (Q : q_H → Nat → Prop) (og : Nat → Int64) (hX : f a = some (rX12 z1 z2 z3 z4 z5 z6 ep)) (hM : Met l yX12_mostServings wsX12_mostServings ({ frames := fr, cells := c1, slots := s1, locals := lo }) (q_P E [.ref a, .int x1] f n) (q_Qi E (fun r f1 n1 => R = r ∧ Q f1 n1)) c1 s1 (q_ge E)) (hQ : ∀ f1 n1, Q f1 n1 → f1 o = some (aJ E 1 og)) : vx_Met l yL_mostServings wsL_mostServings ({ frames := fr + 1, cells := c1, slots := s1, locals := lo + 22 }) (q_PN E [.ref a, .int x1, .ref o] f n) (q_Qi E (fun r0 f1 n1 => 0 = r0 ∧ ∃ f9, Q f9 n1 ∧ va_up f9 o (some (aJ E 1 (vp_updL og 0 R.toInt64))) = f1)) (q_XN E) c1 s1 (q_ge E) := by
  refine vx_ofWH (cc := cL_mostServings) (maxL := 4) (hh := [(0, 9, 12, 24)]) (ret := (some .int)) (by decide) rfl ?_
  intro p e s m args below meth c s₁ B hml hv
  obtain ⟨hNc, rfl, hA, hW⟩ := hv
  have hx := B.exec
  have hb := B.bytes
  have hr := B.returns
  have hts := atoms_spec (ws := wsL_mostServings) B.pre
  have hown : s.vm.findClass RL = some m.cls := findClass_of_methodNamed B.named
  have htab : c.exceptionTable.toList = tableOf [(0, 9, 12, 24)] := vx_table (x := yL_mostServings) B (hts _ List.mem_cons_self)
  have hlocks := B.notSynchronized
  have hS : va_S (q_ge E) s.heap s.heap [] := va_S.rf
  have hl := lv_entry ([.ref a, .int x1, .ref o]) (n := 4) (Nat.le_of_ble_eq_true rfl)
  rw [lg_entry_eq]
  generalize (lg_sl ([.ref a, .int x1, .ref o]) ++ List.replicate (4 - (lg_sl ([.ref a, .int x1, .ref o])).length) Slot.unset).toArray = ls at hl ⊢
  have hl : lv_has ls 4 [(0, .ref a), (1, .int x1), (2, .ref o)] := hl
  refine lv_aload_n hx hb dL_mostServings_0 rfl (lv_at hl 2 rfl) ?_
  refine lv_iconst (v := 0) hx hb dL_mostServings_1 (by decide) ?_
  refine lv_aload_n hx hb dL_mostServings_2 rfl (lv_at hl 0 rfl) ?_
  refine lv_iload_n hx hb dL_mostServings_3 rfl (lv_at hl 1 rfl) ?_
  refine q_ci (va_runV (As := [.int x1]) (rest := [.int 0, .ref o]) ⟨hx, hb, hml, hown, hts⟩ (hM) (cwV 1 hts gL_mostServings_X12_mostServings rfl rfl rfl (by decide +kernel) ⟨(by show fr + 1 ≤ fr + 1; omega), (by show 8 + (3 + 11) + lo ≤ lo + 22; omega)⟩) (q_pV hA hW hS (ci := 10) rfl hX) rfl rfl hl.1 rfl (lv_room (Nat.le_of_ble_eq_true rfl)) dL_mostServings_4 ⟨(by show 0 + c1 ≤ c1; omega), (by show 0 + s1 ≤ s1; omega)⟩) hS (fun r_4 f_4 n_4 H locs hp hW hS => ?_)
  obtain ⟨rfl, hq⟩ := hp
  refine lv_i2l hx hb dL_mostServings_7 rfl ?_
  refine q_last hx hb hA hW hS (hQ _ _ hq) (show vp_in (nI 0) 1 from vp_in_nI (by decide) (by decide)) dL_mostServings_8 (fun H locs hW hS => ?_)
  rw [show (0 : Int32).toNatClampNeg = 0 from rfl] at hW
  have hW : q_W E (va_up f_4 o (some (aJ E 1 (vp_updL og 0 R.toInt64)))) n_4 H := hW
  refine lv_goto (tgt := 15) hx hb dL_mostServings_9 (by decide) ?_
  refine lv_iconst (v := 0) hx hb dL_mostServings_15 (by decide) ?_
  exact vx_ret (q_iret hx hb hr hlocks hW hS ⟨rfl, _, hq, rfl⟩ (by omega) (by omega) dL_mostServings_16)

set_option maxHeartbeats 4000000 in
set_option maxRecDepth 100000 in
theorem kL_mostServings_X (l : Launch) (E : q_E) (f : q_H) (n : Nat) (a o : Nat) (z1 z2 z3 z4 z5 z6 : Option Nat) (ep : Int32) (x1 : Int32) (fr c1 s1 lo : Nat) (hX : f a = some (rX12 z1 z2 z3 z4 z5 z6 ep)) (hM : vx_Met l yX12_mostServings wsX12_mostServings ({ frames := fr, cells := c1, slots := s1, locals := lo }) (q_P E [.ref a, .int x1] f n) (q_Qi E (fun _ _ _ => False)) (q_XC E (fun C f1 n1 => C = "java/lang/IndexOutOfBoundsException" ∧ f = f1 ∧ n ≤ n1)) c1 s1 (q_ge E)) : vx_Met l yL_mostServings wsL_mostServings ({ frames := fr + 1, cells := c1, slots := s1, locals := lo + 22 }) (q_PN E [.ref a, .int x1, .ref o] f n) (q_Qi E (fun r0 f1 n1 => 1 = r0 ∧ f = f1 ∧ n ≤ n1)) (q_XN E) c1 s1 (q_ge E) := by
  refine vx_ofWH (cc := cL_mostServings) (maxL := 4) (hh := [(0, 9, 12, 24)]) (ret := (some .int)) (by decide) rfl ?_
  intro p e s m args below meth c s₁ B hml hv
  obtain ⟨hNc, rfl, hA, hW⟩ := hv
  have hx := B.exec
  have hb := B.bytes
  have hr := B.returns
  have hts := atoms_spec (ws := wsL_mostServings) B.pre
  have hown : s.vm.findClass RL = some m.cls := findClass_of_methodNamed B.named
  have htab : c.exceptionTable.toList = tableOf [(0, 9, 12, 24)] := vx_table (x := yL_mostServings) B (hts _ List.mem_cons_self)
  have hlocks := B.notSynchronized
  have hS : va_S (q_ge E) s.heap s.heap [] := va_S.rf
  have hl := lv_entry ([.ref a, .int x1, .ref o]) (n := 4) (Nat.le_of_ble_eq_true rfl)
  rw [lg_entry_eq]
  generalize (lg_sl ([.ref a, .int x1, .ref o]) ++ List.replicate (4 - (lg_sl ([.ref a, .int x1, .ref o])).length) Slot.unset).toArray = ls at hl ⊢
  have hl : lv_has ls 4 [(0, .ref a), (1, .int x1), (2, .ref o)] := hl
  refine lv_aload_n hx hb dL_mostServings_0 rfl (lv_at hl 2 rfl) ?_
  refine lv_iconst (v := 0) hx hb dL_mostServings_1 (by decide) ?_
  refine lv_aload_n hx hb dL_mostServings_2 rfl (lv_at hl 0 rfl) ?_
  refine lv_iload_n hx hb dL_mostServings_3 rfl (lv_at hl 1 rfl) ?_
  refine q_xi (vx_runV (As := [.int x1]) (rest := [.int 0, .ref o]) ⟨hx, hb, hml, hown, hts⟩ (hM) (cwV 1 hts gL_mostServings_X12_mostServings rfl rfl rfl (by decide +kernel) ⟨(by show fr + 1 ≤ fr + 1; omega), (by show 8 + (3 + 11) + lo ≤ lo + 22; omega)⟩) (q_pV hA hW hS (ci := 10) rfl hX) rfl rfl hl.1 rfl (lv_room (Nat.le_of_ble_eq_true rfl)) dL_mostServings_4 ⟨(by show 0 + c1 ≤ c1; omega), (by show 0 + s1 ≤ s1; omega)⟩) hS (fun C9 ce9 q9 f9 n9 H locs hp hW hS h91 h92 h93 => ?_) (fun r_4 f_4 n_4 H locs hp hW hS => hp.elim)
  obtain ⟨rfl, rfl, h94⟩ := hp
  refine vx_catch (own := RL) (name := "java/lang/IndexOutOfBoundsException") hown [] ⟨0, 9, 12, 24⟩ [] htab (fun z hz => nomatch hz) (by decide) (by decide) (hts (.classLink RL 24 "java/lang/IndexOutOfBoundsException") (by decide +kernel)) (va_Nw.use rfl (hA.2.2.2.2.2.2.1 ("java/lang/IndexOutOfBoundsException", "java/lang/IndexOutOfBoundsException") (by decide +kernel))) h91 h92 h93 ?_
  refine lv_astore_n (lv' := [(3, .ref q9), (0, .ref a), (1, .int x1), (2, .ref o)]) hx hb dL_mostServings_12 rfl hl (by decide) rfl (fun ls hl => ?_)
  refine lv_iconst (v := 1) hx hb dL_mostServings_13 (by decide) ?_
  exact vx_ret (q_iret hx hb hr hlocks hW hS ⟨rfl, rfl, h94⟩ (by omega) (by omega) dL_mostServings_14)
