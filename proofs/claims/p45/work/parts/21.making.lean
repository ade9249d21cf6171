/-! objects as they are made -/
abbrev rX1 (a0 : Option Nat) (a1 : Int32) (a2 : Int32) (a3 : Int32) (a4 : Option Nat) (a5 : Option Nat) (a6 : Option Nat) (a7 : Option Nat) (a8 : Option Nat) : va_E := .inr (2, [va_rf a0, .int a1, .int a2, .int a3, va_rf a4, va_rf a5, va_rf a6, va_rf a7, va_rf a8])
abbrev rX2 (a0 : Option Nat) (a1 : Option Nat) (a2 : Option Nat) (a3 : Option Nat) (a4 : Int32) (a5 : Int32) (a6 : Int32) : va_E := .inr (3, [va_rf a0, va_rf a1, va_rf a2, va_rf a3, .int a4, .int a5, .int a6])
abbrev rX3 (a0 : Option Nat) (a1 : Int32) (a2 : Int32) : va_E := .inr (4, [va_rf a0, .int a1, .int a2])
abbrev rX4 (a0 : Option Nat) (a1 : Int32) : va_E := .inr (5, [va_rf a0, .int a1])
abbrev rX6 (a0 : Option Nat) (a1 : Option Nat) (a2 : Option Nat) (a3 : Option Nat) (a4 : Option Nat) (a5 : Int32) (a6 : Int32) (a7 : Int32) (a8 : Int32) : va_E := .inr (6, [va_rf a0, va_rf a1, va_rf a2, va_rf a3, va_rf a4, .int a5, .int a6, .int a7, .int a8])
abbrev rX7 (a0 : Int32) (a1 : Int32) (a2 : Int32) (a3 : Int32) (a4 : Int32) : va_E := .inr (7, [.int a0, .int a1, .int a2, .int a3, .int a4])
abbrev rX8 (a0 : Option Nat) (a1 : Option Nat) (a2 : Int32) (a3 : Int32) : va_E := .inr (8, [va_rf a0, va_rf a1, .int a2, .int a3])
abbrev rX9 (a0 : Option Nat) (a1 : Int32) : va_E := .inr (9, [va_rf a0, .int a1])
abbrev rX10 (a0 : Option Nat) (a1 : Option Nat) (a2 : Option Nat) (a3 : Int32) (a4 : Int32) (a5 : Option Nat) : va_E := .inr (10, [va_rf a0, va_rf a1, va_rf a2, .int a3, .int a4, va_rf a5])
abbrev rX11 (a0 : Option Nat) (a1 : Int32) (a2 : Option Nat) (a3 : Option Nat) (a4 : Option Nat) : va_E := .inr (11, [va_rf a0, .int a1, va_rf a2, va_rf a3, va_rf a4])
abbrev rX12 (a0 : Option Nat) (a1 : Option Nat) (a2 : Option Nat) (a3 : Option Nat) (a4 : Option Nat) (a5 : Option Nat) (a6 : Int32) : va_E := .inr (12, [va_rf a0, va_rf a1, va_rf a2, va_rf a3, va_rf a4, va_rf a5, .int a6])
abbrev rX13 (a0 : Int32) (a1 : Option Nat) (a2 : Int32) (a3 : Option Nat) (a4 : Int32) (a5 : Option Nat) (a6 : Option Nat) (a7 : Option Nat) (a8 : Option Nat) (a9 : Option Nat) (a10 : Option Nat) (a11 : Option Nat) (a12 : Option Nat) (a13 : Int32) (a14 : Option Nat) (a15 : Option Nat) (a16 : Option Nat) (a17 : Int32) (a18 : Option Nat) (a19 : Option Nat) (a20 : Option Nat) : va_E := .inr (13, [.int a0, va_rf a1, .int a2, va_rf a3, .int a4, va_rf a5, va_rf a6, va_rf a7, va_rf a8, va_rf a9, va_rf a10, va_rf a11, va_rf a12, .int a13, va_rf a14, va_rf a15, va_rf a16, .int a17, va_rf a18, va_rf a19, va_rf a20])
abbrev rX14 (a0 : Int32) (a1 : Option Nat) (a2 : Int32) (a3 : Int32) (a4 : Option Nat) (a5 : Option Nat) (a6 : Option Nat) (a7 : Option Nat) (a8 : Int32) (a9 : Int32) (a10 : Int32) (a11 : Int32) (a12 : Int32) (a13 : Int32) (a14 : Option Nat) (a15 : Option Nat) (a16 : Int32) (a17 : Option Nat) (a18 : Option Nat) (a19 : Option Nat) (a20 : Option Nat) (a21 : Int32) (a22 : Int32) : va_E := .inr (14, [.int a0, va_rf a1, .int a2, .int a3, va_rf a4, va_rf a5, va_rf a6, va_rf a7, .int a8, .int a9, .int a10, .int a11, .int a12, .int a13, va_rf a14, va_rf a15, .int a16, va_rf a17, va_rf a18, va_rf a19, va_rf a20, .int a21, .int a22])
abbrev cTape (x : Nat) (L : Int32) : va_E := .inr (9, [.ref (x + 1), .int L])
abbrev cTok (E : q_E) (t : Nat) (cnt here : Int32) (kd : Nat) : va_E := .inr (10, [.ref (t + 1), .ref (t + 2), .ref (t + 3), .int cnt, .int here, .ref (E.2.2.2 kd)])
abbrev cPar (p bk : Nat) (er et : Int32) : va_E := .inr (8, [.ref (p + 1), .ref bk, .int er, .int et])
abbrev cHR (x : Nat) (ep : Int32) : va_E := .inr (12, [.ref (x + 1), .ref (x + 3), .ref (x + 13), .ref (x + 33), .ref (x + 34), .ref (x + 54), .int ep])

section QL
variable {p : Program} {l : Launch} {e : Env} {R : Room} {s : State} {m : MethodId} {args : Array Value} {below : List Frame} {meth : Method} {c : Code} {H : Heap} {locs : List Loc} {cells slots : Nat} {Q : State → Prop}
variable {own : String} {cc : ByteArray} {pc : Nat} {ls : Array Slot} {rest : List Value} {E : q_E} {f : q_H} {n a : Nat} {Ts : List Cond}
theorem q_lcmp0 (hx : p.tables.exec = Jvm.exec) (hb : c.code = cc) {x y : Int64} (h : x = y) (hdg : decode cc pc = .ok (.lcmp, 1))
    (k : W p l e R s m args below meth c H locs cells slots Q (F0 m (pc + 1) ls (.int 0 :: rest))) : W p l e R s m args below meth c H locs cells slots Q (F0 m pc ls (.long y :: .long x :: rest)) := by
  subst h
  intro T hT X
  obtain ⟨t, a, b⟩ := k T hT X
  refine ⟨t, ?_, b⟩
  jvm_step X.here [X.here.top, hx, hb, hdg, Int64.lt_irrefl]
  exact a
theorem q_lcmp1 (hx : p.tables.exec = Jvm.exec) (hb : c.code = cc) {x y : Int64} (h : y < x) (hdg : decode cc pc = .ok (.lcmp, 1))
    (k : W p l e R s m args below meth c H locs cells slots Q (F0 m (pc + 1) ls (.int 1 :: rest))) : W p l e R s m args below meth c H locs cells slots Q (F0 m pc ls (.long y :: .long x :: rest)) := by
  intro T hT X
  obtain ⟨t, a, b⟩ := k T hT X
  refine ⟨t, ?_, b⟩
  jvm_step X.here [X.here.top, hx, hb, hdg, h]
  exact a
theorem q_lcmp2 (hx : p.tables.exec = Jvm.exec) (hb : c.code = cc) {x y : Int64} (h : ¬ y < x) (h2 : ¬ x = y) (hdg : decode cc pc = .ok (.lcmp, 1))
    (k : W p l e R s m args below meth c H locs cells slots Q (F0 m (pc + 1) ls (.int (-1) :: rest))) : W p l e R s m args below meth c H locs cells slots Q (F0 m pc ls (.long y :: .long x :: rest)) := by
  intro T hT X
  obtain ⟨t, a, b⟩ := k T hT X
  refine ⟨t, ?_, b⟩
  jvm_step X.here [X.here.top, hx, hb, hdg, h, h2]
  exact a
/-- two longs compared, and the jump behind it, if they are not the same -/
theorem q_lcmp_ne (hx : p.tables.exec = Jvm.exec) (hb : c.code = cc) {x y : Int64} {off : Int} {tgt : Nat} (hdg : decode cc pc = .ok (.lcmp, 1)) (hdg2 : decode cc (pc + 1) = .ok (.ifCond .ne off, 3)) (ht : ((pc + 1 : Nat) : Int) + off = (tgt : Int))
    (k1 : ¬ x = y → W p l e R s m args below meth c H locs cells slots Q (F0 m tgt ls rest)) (k2 : x = y → W p l e R s m args below meth c H locs cells slots Q (F0 m (pc + 4) ls rest)) : W p l e R s m args below meth c H locs cells slots Q (F0 m pc ls (.long y :: .long x :: rest)) := by
  by_cases h : x = y
  · exact q_lcmp0 hx hb h hdg (lv_if_ne (tgt := tgt) hx hb hdg2 ht (fun h9 => absurd rfl h9) (fun _ => k2 h))
  · by_cases h2 : y < x
    · exact q_lcmp1 hx hb h2 hdg (lv_if_ne (tgt := tgt) hx hb hdg2 ht (fun _ => k1 h) (fun h9 => absurd h9 (by decide)))
    · exact q_lcmp2 hx hb h2 h hdg (lv_if_ne (tgt := tgt) hx hb hdg2 ht (fun _ => k1 h) (fun h9 => absurd h9 (by decide)))
/-- a constant of Kind, its word and its sign -/
theorem q_kword (hx : p.tables.exec = Jvm.exec) (hb : c.code = cc) (hA : q_A E s) (hS : va_S (q_ge E) s.heap H locs) (hown : s.vm.findClass own = some m.cls) {i index : Nat} (hi : i < 41) (hlink : (Cond.fieldLink own index "HighRecipes$Kind" "word" "J").before args s = true) (hdg : decode cc pc = .ok (.getfield index, 3))
    (k : W p l e R s m args below meth c H locs cells slots Q (F0 m (pc + 3) ls (.long (q_wrd.getD i 0) :: rest))) : W p l e R s m args below meth c H locs cells slots Q (F0 m pc ls (.ref (E.2.2.2 i) :: rest)) :=
  va_getX (v := fun i => .long (q_wrd.getD i 0)) hx hb hA.2.2.1.2.1 hi hS hown hlink (fun _ h9 => h9) hdg k
theorem q_ksign (hx : p.tables.exec = Jvm.exec) (hb : c.code = cc) (hA : q_A E s) (hS : va_S (q_ge E) s.heap H locs) (hown : s.vm.findClass own = some m.cls) {i index : Nat} (hi : i < 41) (hlink : (Cond.fieldLink own index "HighRecipes$Kind" "sign" "I").before args s = true) (hdg : decode cc pc = .ok (.getfield index, 3))
    (k : W p l e R s m args below meth c H locs cells slots Q (F0 m (pc + 3) ls (.int (q_sig.getD i 0) :: rest))) : W p l e R s m args below meth c H locs cells slots Q (F0 m pc ls (.ref (E.2.2.2 i) :: rest)) :=
  va_getE (i := i) (q := ("HighRecipes$Kind", "sign", "I", q_sig)) hx hb hA.2.2.1.1 hi hS hown (List.mem_cons_of_mem _ List.mem_cons_self) hlink (fun _ h9 => h9) hdg k
theorem q_kinj (hA : q_A E s) {i j : Nat} (hi : i < 41) (hj : j < 41) (h : some (E.2.2.2 i) = some (E.2.2.2 j)) : i = j := hA.2.2.1.1.2 i j hi hj (Option.some.inj h)
theorem q_pK (hA : q_A E s) (hW : q_W E f n H) (hS : va_S (q_ge E) s.heap H locs) {As : List Value} {i : Nat} (hi : i < 41) : PreV s H "HighRecipes$Kind" (E.2.2.2 i) (q_P E (.ref (E.2.2.2 i) :: As) f n) As := ⟨q_P.blind, va_recvE hA.2.2.1.1 hi hS, fun U hU hWm => ⟨rfl, hA.go hS hU hWm, by rw [hU]; exact hW⟩⟩
end QL

def b01 (r : Bool) : Int32 := if r = true then 1 else 0
def b_act (kd : Nat) : Bool := kd == 3 || kd == 7 || kd == 9 || kd == 11 || kd == 12 || kd == 13 || kd == 14 || kd == 15 || kd == 16
def b_meas (kd : Nat) : Bool := kd == 19 || kd == 20 || kd == 21 || kd == 22 || kd == 23
def b_cont (kd : Nat) : Bool := kd == 4 || kd == 5 || kd == 7 || kd == 25 || kd == 26
def b_csign (kd : Nat) : Bool := kd == 30 || kd == 31 || kd == 32
def b_vsign (kd : Nat) : Bool := kd == 33 || kd == 34 || kd == 35 || kd == 36

set_option maxHeartbeats 4000000 in
set_option maxRecDepth 100000 in
theorem kX5_beginsAct (l : Launch) (E : q_E) (f : q_H) (n : Nat) (kd : Nat)  (hkd : kd < 41) : Met l yX5_beginsAct wsX5_beginsAct ({ frames := 0, cells := 0, slots := 0, locals := 0 }) (q_P E [.ref (E.2.2.2 kd)] f n) (q_Qi E (fun r f1 n1 => b01 (b_act kd) = r ∧ f = f1 ∧ n = n1)) 0 0 (q_ge E) := by
  refine Met.ofW (cc := cX5_beginsAct) (maxL := 1) (ret := (some .boolean)) (by decide) rfl ?_
  intro p e s m args below meth c s₁ B hml hv
  obtain ⟨rfl, hA, hW⟩ := hv
  have hx := B.exec
  have hb := B.bytes
  have hr := B.returns
  have hts := atoms_spec (ws := wsX5_beginsAct) B.pre
  have hown : s.vm.findClass RX5 = some m.cls := findClass_of_methodNamed B.named
  have hlocks := B.notSynchronized
  have hS : va_S (q_ge E) s.heap s.heap [] := va_S.rf
  have hl := lv_entry ([.ref (E.2.2.2 kd)]) (n := 1) (Nat.le_of_ble_eq_true rfl)
  rw [lg_entry_eq]
  generalize (lg_sl ([.ref (E.2.2.2 kd)]) ++ List.replicate (1 - (lg_sl ([.ref (E.2.2.2 kd)])).length) Slot.unset).toArray = ls at hl ⊢
  have hl : lv_has ls 1 [(0, .ref (E.2.2.2 kd))] := hl
  refine lv_aload_n hx hb dX5_beginsAct_0 rfl (lv_at hl 0 rfl) ?_
  refine va_gets (n := "POUR") (v := .ref (E.2.2.2 3)) hx hb (hA.2.2.1.1.1 3 (by decide)).1 hS hown (hts (.fieldLink RX5 13 "HighRecipes$Kind" "POUR" "LHighRecipes$Kind;") (by decide +kernel)) (fun _ h9 => h9) dX5_beginsAct_1 ?_
  refine lv_acmp_eq (rx := (some (E.2.2.2 kd))) (ry := (some (E.2.2.2 3))) (tgt := 63) hx hb dX5_beginsAct_4 (by decide) (fun c_4 => ?_) (fun c_4 => ?_)
  · have e_4 : kd = 3 := q_kinj hA hkd (by decide) c_4
    refine lv_iconst (v := 1) hx hb dX5_beginsAct_63 (by decide) ?_
    refine lv_goto (tgt := 68) hx hb dX5_beginsAct_64 (by decide) ?_
    exact q_zret hx hb hr hlocks hW hS rfl ⟨by rw [e_4]; rfl, rfl, rfl⟩ (Nat.le_of_ble_eq_true rfl) (Nat.le_of_ble_eq_true rfl) dX5_beginsAct_68
  · have e_4 : ¬ kd = 3 := fun h9 => c_4 (by rw [h9])
    refine lv_aload_n hx hb dX5_beginsAct_7 rfl (lv_at hl 0 rfl) ?_
    refine va_gets (n := "HEAT") (v := .ref (E.2.2.2 7)) hx hb (hA.2.2.1.1.1 7 (by decide)).1 hS hown (hts (.fieldLink RX5 25 "HighRecipes$Kind" "HEAT" "LHighRecipes$Kind;") (by decide +kernel)) (fun _ h9 => h9) dX5_beginsAct_8 ?_
    refine lv_acmp_eq (rx := (some (E.2.2.2 kd))) (ry := (some (E.2.2.2 7))) (tgt := 63) hx hb dX5_beginsAct_11 (by decide) (fun c_11 => ?_) (fun c_11 => ?_)
    · have e_11 : kd = 7 := q_kinj hA hkd (by decide) c_11
      refine lv_iconst (v := 1) hx hb dX5_beginsAct_63 (by decide) ?_
      refine lv_goto (tgt := 68) hx hb dX5_beginsAct_64 (by decide) ?_
      exact q_zret hx hb hr hlocks hW hS rfl ⟨by rw [e_11]; rfl, rfl, rfl⟩ (Nat.le_of_ble_eq_true rfl) (Nat.le_of_ble_eq_true rfl) dX5_beginsAct_68
    · have e_11 : ¬ kd = 7 := fun h9 => c_11 (by rw [h9])
      refine lv_aload_n hx hb dX5_beginsAct_14 rfl (lv_at hl 0 rfl) ?_
      refine va_gets (n := "BOIL") (v := .ref (E.2.2.2 9)) hx hb (hA.2.2.1.1.1 9 (by decide)).1 hS hown (hts (.fieldLink RX5 31 "HighRecipes$Kind" "BOIL" "LHighRecipes$Kind;") (by decide +kernel)) (fun _ h9 => h9) dX5_beginsAct_15 ?_
      refine lv_acmp_eq (rx := (some (E.2.2.2 kd))) (ry := (some (E.2.2.2 9))) (tgt := 63) hx hb dX5_beginsAct_18 (by decide) (fun c_18 => ?_) (fun c_18 => ?_)
      · have e_18 : kd = 9 := q_kinj hA hkd (by decide) c_18
        refine lv_iconst (v := 1) hx hb dX5_beginsAct_63 (by decide) ?_
        refine lv_goto (tgt := 68) hx hb dX5_beginsAct_64 (by decide) ?_
        exact q_zret hx hb hr hlocks hW hS rfl ⟨by rw [e_18]; rfl, rfl, rfl⟩ (Nat.le_of_ble_eq_true rfl) (Nat.le_of_ble_eq_true rfl) dX5_beginsAct_68
      · have e_18 : ¬ kd = 9 := fun h9 => c_18 (by rw [h9])
        refine lv_aload_n hx hb dX5_beginsAct_21 rfl (lv_at hl 0 rfl) ?_
        refine va_gets (n := "EMPTY") (v := .ref (E.2.2.2 11)) hx hb (hA.2.2.1.1.1 11 (by decide)).1 hS hown (hts (.fieldLink RX5 37 "HighRecipes$Kind" "EMPTY" "LHighRecipes$Kind;") (by decide +kernel)) (fun _ h9 => h9) dX5_beginsAct_22 ?_
        refine lv_acmp_eq (rx := (some (E.2.2.2 kd))) (ry := (some (E.2.2.2 11))) (tgt := 63) hx hb dX5_beginsAct_25 (by decide) (fun c_25 => ?_) (fun c_25 => ?_)
        · have e_25 : kd = 11 := q_kinj hA hkd (by decide) c_25
          refine lv_iconst (v := 1) hx hb dX5_beginsAct_63 (by decide) ?_
          refine lv_goto (tgt := 68) hx hb dX5_beginsAct_64 (by decide) ?_
          exact q_zret hx hb hr hlocks hW hS rfl ⟨by rw [e_25]; rfl, rfl, rfl⟩ (Nat.le_of_ble_eq_true rfl) (Nat.le_of_ble_eq_true rfl) dX5_beginsAct_68
        · have e_25 : ¬ kd = 11 := fun h9 => c_25 (by rw [h9])
          refine lv_aload_n hx hb dX5_beginsAct_28 rfl (lv_at hl 0 rfl) ?_
          refine va_gets (n := "REST") (v := .ref (E.2.2.2 12)) hx hb (hA.2.2.1.1.1 12 (by decide)).1 hS hown (hts (.fieldLink RX5 40 "HighRecipes$Kind" "REST" "LHighRecipes$Kind;") (by decide +kernel)) (fun _ h9 => h9) dX5_beginsAct_29 ?_
          refine lv_acmp_eq (rx := (some (E.2.2.2 kd))) (ry := (some (E.2.2.2 12))) (tgt := 63) hx hb dX5_beginsAct_32 (by decide) (fun c_32 => ?_) (fun c_32 => ?_)
          · have e_32 : kd = 12 := q_kinj hA hkd (by decide) c_32
            refine lv_iconst (v := 1) hx hb dX5_beginsAct_63 (by decide) ?_
            refine lv_goto (tgt := 68) hx hb dX5_beginsAct_64 (by decide) ?_
            exact q_zret hx hb hr hlocks hW hS rfl ⟨by rw [e_32]; rfl, rfl, rfl⟩ (Nat.le_of_ble_eq_true rfl) (Nat.le_of_ble_eq_true rfl) dX5_beginsAct_68
          · have e_32 : ¬ kd = 12 := fun h9 => c_32 (by rw [h9])
            refine lv_aload_n hx hb dX5_beginsAct_35 rfl (lv_at hl 0 rfl) ?_
            refine va_gets (n := "NOTE") (v := .ref (E.2.2.2 13)) hx hb (hA.2.2.1.1.1 13 (by decide)).1 hS hown (hts (.fieldLink RX5 43 "HighRecipes$Kind" "NOTE" "LHighRecipes$Kind;") (by decide +kernel)) (fun _ h9 => h9) dX5_beginsAct_36 ?_
            refine lv_acmp_eq (rx := (some (E.2.2.2 kd))) (ry := (some (E.2.2.2 13))) (tgt := 63) hx hb dX5_beginsAct_39 (by decide) (fun c_39 => ?_) (fun c_39 => ?_)
            · have e_39 : kd = 13 := q_kinj hA hkd (by decide) c_39
              refine lv_iconst (v := 1) hx hb dX5_beginsAct_63 (by decide) ?_
              refine lv_goto (tgt := 68) hx hb dX5_beginsAct_64 (by decide) ?_
              exact q_zret hx hb hr hlocks hW hS rfl ⟨by rw [e_39]; rfl, rfl, rfl⟩ (Nat.le_of_ble_eq_true rfl) (Nat.le_of_ble_eq_true rfl) dX5_beginsAct_68
            · have e_39 : ¬ kd = 13 := fun h9 => c_39 (by rw [h9])
              refine lv_aload_n hx hb dX5_beginsAct_42 rfl (lv_at hl 0 rfl) ?_
              refine va_gets (n := "COOK") (v := .ref (E.2.2.2 14)) hx hb (hA.2.2.1.1.1 14 (by decide)).1 hS hown (hts (.fieldLink RX5 46 "HighRecipes$Kind" "COOK" "LHighRecipes$Kind;") (by decide +kernel)) (fun _ h9 => h9) dX5_beginsAct_43 ?_
              refine lv_acmp_eq (rx := (some (E.2.2.2 kd))) (ry := (some (E.2.2.2 14))) (tgt := 63) hx hb dX5_beginsAct_46 (by decide) (fun c_46 => ?_) (fun c_46 => ?_)
              · have e_46 : kd = 14 := q_kinj hA hkd (by decide) c_46
                refine lv_iconst (v := 1) hx hb dX5_beginsAct_63 (by decide) ?_
                refine lv_goto (tgt := 68) hx hb dX5_beginsAct_64 (by decide) ?_
                exact q_zret hx hb hr hlocks hW hS rfl ⟨by rw [e_46]; rfl, rfl, rfl⟩ (Nat.le_of_ble_eq_true rfl) (Nat.le_of_ble_eq_true rfl) dX5_beginsAct_68
              · have e_46 : ¬ kd = 14 := fun h9 => c_46 (by rw [h9])
                refine lv_aload_n hx hb dX5_beginsAct_49 rfl (lv_at hl 0 rfl) ?_
                refine va_gets (n := "AGAIN") (v := .ref (E.2.2.2 15)) hx hb (hA.2.2.1.1.1 15 (by decide)).1 hS hown (hts (.fieldLink RX5 49 "HighRecipes$Kind" "AGAIN" "LHighRecipes$Kind;") (by decide +kernel)) (fun _ h9 => h9) dX5_beginsAct_50 ?_
                refine lv_acmp_eq (rx := (some (E.2.2.2 kd))) (ry := (some (E.2.2.2 15))) (tgt := 63) hx hb dX5_beginsAct_53 (by decide) (fun c_53 => ?_) (fun c_53 => ?_)
                · have e_53 : kd = 15 := q_kinj hA hkd (by decide) c_53
                  refine lv_iconst (v := 1) hx hb dX5_beginsAct_63 (by decide) ?_
                  refine lv_goto (tgt := 68) hx hb dX5_beginsAct_64 (by decide) ?_
                  exact q_zret hx hb hr hlocks hW hS rfl ⟨by rw [e_53]; rfl, rfl, rfl⟩ (Nat.le_of_ble_eq_true rfl) (Nat.le_of_ble_eq_true rfl) dX5_beginsAct_68
                · have e_53 : ¬ kd = 15 := fun h9 => c_53 (by rw [h9])
                  refine lv_aload_n hx hb dX5_beginsAct_56 rfl (lv_at hl 0 rfl) ?_
                  refine va_gets (n := "IF") (v := .ref (E.2.2.2 16)) hx hb (hA.2.2.1.1.1 16 (by decide)).1 hS hown (hts (.fieldLink RX5 52 "HighRecipes$Kind" "IF" "LHighRecipes$Kind;") (by decide +kernel)) (fun _ h9 => h9) dX5_beginsAct_57 ?_
                  refine lv_acmp_ne (rx := (some (E.2.2.2 kd))) (ry := (some (E.2.2.2 16))) (tgt := 67) hx hb dX5_beginsAct_60 (by decide) (fun c_60 => ?_) (fun c_60 => ?_)
                  · have e_60 : ¬ kd = 16 := fun h9 => c_60 (by rw [h9])
                    refine lv_iconst (v := 0) hx hb dX5_beginsAct_67 (by decide) ?_
                    exact q_zret hx hb hr hlocks hW hS rfl ⟨by simp [b01, b_act, e_4, e_11, e_18, e_25, e_32, e_39, e_46, e_53, e_60], rfl, rfl⟩ (Nat.le_of_ble_eq_true rfl) (Nat.le_of_ble_eq_true rfl) dX5_beginsAct_68
                  · have e_60 : kd = 16 := q_kinj hA hkd (by decide) c_60
                    refine lv_iconst (v := 1) hx hb dX5_beginsAct_63 (by decide) ?_
                    refine lv_goto (tgt := 68) hx hb dX5_beginsAct_64 (by decide) ?_
                    exact q_zret hx hb hr hlocks hW hS rfl ⟨by rw [e_60]; rfl, rfl, rfl⟩ (Nat.le_of_ble_eq_true rfl) (Nat.le_of_ble_eq_true rfl) dX5_beginsAct_68

set_option maxHeartbeats 4000000 in
set_option maxRecDepth 100000 in
theorem kX5_isMeasure (l : Launch) (E : q_E) (f : q_H) (n : Nat) (kd : Nat)  (hkd : kd < 41) : Met l yX5_isMeasure wsX5_isMeasure ({ frames := 0, cells := 0, slots := 0, locals := 0 }) (q_P E [.ref (E.2.2.2 kd)] f n) (q_Qi E (fun r f1 n1 => b01 (b_meas kd) = r ∧ f = f1 ∧ n = n1)) 0 0 (q_ge E) := by
  refine Met.ofW (cc := cX5_isMeasure) (maxL := 1) (ret := (some .boolean)) (by decide) rfl ?_
  intro p e s m args below meth c s₁ B hml hv
  obtain ⟨rfl, hA, hW⟩ := hv
  have hx := B.exec
  have hb := B.bytes
  have hr := B.returns
  have hts := atoms_spec (ws := wsX5_isMeasure) B.pre
  have hown : s.vm.findClass RX5 = some m.cls := findClass_of_methodNamed B.named
  have hlocks := B.notSynchronized
  have hS : va_S (q_ge E) s.heap s.heap [] := va_S.rf
  have hl := lv_entry ([.ref (E.2.2.2 kd)]) (n := 1) (Nat.le_of_ble_eq_true rfl)
  rw [lg_entry_eq]
  generalize (lg_sl ([.ref (E.2.2.2 kd)]) ++ List.replicate (1 - (lg_sl ([.ref (E.2.2.2 kd)])).length) Slot.unset).toArray = ls at hl ⊢
  have hl : lv_has ls 1 [(0, .ref (E.2.2.2 kd))] := hl
  refine lv_aload_n hx hb dX5_isMeasure_0 rfl (lv_at hl 0 rfl) ?_
  refine va_gets (n := "ALTITUDE") (v := .ref (E.2.2.2 19)) hx hb (hA.2.2.1.1.1 19 (by decide)).1 hS hown (hts (.fieldLink RX5 61 "HighRecipes$Kind" "ALTITUDE" "LHighRecipes$Kind;") (by decide +kernel)) (fun _ h9 => h9) dX5_isMeasure_1 ?_
  refine lv_acmp_eq (rx := (some (E.2.2.2 kd))) (ry := (some (E.2.2.2 19))) (tgt := 35) hx hb dX5_isMeasure_4 (by decide) (fun c_4 => ?_) (fun c_4 => ?_)
  · have e_4 : kd = 19 := q_kinj hA hkd (by decide) c_4
    refine lv_iconst (v := 1) hx hb dX5_isMeasure_35 (by decide) ?_
    refine lv_goto (tgt := 40) hx hb dX5_isMeasure_36 (by decide) ?_
    exact q_zret hx hb hr hlocks hW hS rfl ⟨by rw [e_4]; rfl, rfl, rfl⟩ (Nat.le_of_ble_eq_true rfl) (Nat.le_of_ble_eq_true rfl) dX5_isMeasure_40
  · have e_4 : ¬ kd = 19 := fun h9 => c_4 (by rw [h9])
    refine lv_aload_n hx hb dX5_isMeasure_7 rfl (lv_at hl 0 rfl) ?_
    refine va_gets (n := "BOILING") (v := .ref (E.2.2.2 20)) hx hb (hA.2.2.1.1.1 20 (by decide)).1 hS hown (hts (.fieldLink RX5 64 "HighRecipes$Kind" "BOILING" "LHighRecipes$Kind;") (by decide +kernel)) (fun _ h9 => h9) dX5_isMeasure_8 ?_
    refine lv_acmp_eq (rx := (some (E.2.2.2 kd))) (ry := (some (E.2.2.2 20))) (tgt := 35) hx hb dX5_isMeasure_11 (by decide) (fun c_11 => ?_) (fun c_11 => ?_)
    · have e_11 : kd = 20 := q_kinj hA hkd (by decide) c_11
      refine lv_iconst (v := 1) hx hb dX5_isMeasure_35 (by decide) ?_
      refine lv_goto (tgt := 40) hx hb dX5_isMeasure_36 (by decide) ?_
      exact q_zret hx hb hr hlocks hW hS rfl ⟨by rw [e_11]; rfl, rfl, rfl⟩ (Nat.le_of_ble_eq_true rfl) (Nat.le_of_ble_eq_true rfl) dX5_isMeasure_40
    · have e_11 : ¬ kd = 20 := fun h9 => c_11 (by rw [h9])
      refine lv_aload_n hx hb dX5_isMeasure_14 rfl (lv_at hl 0 rfl) ?_
      refine va_gets (n := "MINUTE") (v := .ref (E.2.2.2 21)) hx hb (hA.2.2.1.1.1 21 (by decide)).1 hS hown (hts (.fieldLink RX5 67 "HighRecipes$Kind" "MINUTE" "LHighRecipes$Kind;") (by decide +kernel)) (fun _ h9 => h9) dX5_isMeasure_15 ?_
      refine lv_acmp_eq (rx := (some (E.2.2.2 kd))) (ry := (some (E.2.2.2 21))) (tgt := 35) hx hb dX5_isMeasure_18 (by decide) (fun c_18 => ?_) (fun c_18 => ?_)
      · have e_18 : kd = 21 := q_kinj hA hkd (by decide) c_18
        refine lv_iconst (v := 1) hx hb dX5_isMeasure_35 (by decide) ?_
        refine lv_goto (tgt := 40) hx hb dX5_isMeasure_36 (by decide) ?_
        exact q_zret hx hb hr hlocks hW hS rfl ⟨by rw [e_18]; rfl, rfl, rfl⟩ (Nat.le_of_ble_eq_true rfl) (Nat.le_of_ble_eq_true rfl) dX5_isMeasure_40
      · have e_18 : ¬ kd = 21 := fun h9 => c_18 (by rw [h9])
        refine lv_aload_n hx hb dX5_isMeasure_21 rfl (lv_at hl 0 rfl) ?_
        refine va_gets (n := "SERVINGS") (v := .ref (E.2.2.2 22)) hx hb (hA.2.2.1.1.1 22 (by decide)).1 hS hown (hts (.fieldLink RX5 70 "HighRecipes$Kind" "SERVINGS" "LHighRecipes$Kind;") (by decide +kernel)) (fun _ h9 => h9) dX5_isMeasure_22 ?_
        refine lv_acmp_eq (rx := (some (E.2.2.2 kd))) (ry := (some (E.2.2.2 22))) (tgt := 35) hx hb dX5_isMeasure_25 (by decide) (fun c_25 => ?_) (fun c_25 => ?_)
        · have e_25 : kd = 22 := q_kinj hA hkd (by decide) c_25
          refine lv_iconst (v := 1) hx hb dX5_isMeasure_35 (by decide) ?_
          refine lv_goto (tgt := 40) hx hb dX5_isMeasure_36 (by decide) ?_
          exact q_zret hx hb hr hlocks hW hS rfl ⟨by rw [e_25]; rfl, rfl, rfl⟩ (Nat.le_of_ble_eq_true rfl) (Nat.le_of_ble_eq_true rfl) dX5_isMeasure_40
        · have e_25 : ¬ kd = 22 := fun h9 => c_25 (by rw [h9])
          refine lv_aload_n hx hb dX5_isMeasure_28 rfl (lv_at hl 0 rfl) ?_
          refine va_gets (n := "SPOON") (v := .ref (E.2.2.2 23)) hx hb (hA.2.2.1.1.1 23 (by decide)).1 hS hown (hts (.fieldLink RX5 73 "HighRecipes$Kind" "SPOON" "LHighRecipes$Kind;") (by decide +kernel)) (fun _ h9 => h9) dX5_isMeasure_29 ?_
          refine lv_acmp_ne (rx := (some (E.2.2.2 kd))) (ry := (some (E.2.2.2 23))) (tgt := 39) hx hb dX5_isMeasure_32 (by decide) (fun c_32 => ?_) (fun c_32 => ?_)
          · have e_32 : ¬ kd = 23 := fun h9 => c_32 (by rw [h9])
            refine lv_iconst (v := 0) hx hb dX5_isMeasure_39 (by decide) ?_
            exact q_zret hx hb hr hlocks hW hS rfl ⟨by simp [b01, b_meas, e_4, e_11, e_18, e_25, e_32], rfl, rfl⟩ (Nat.le_of_ble_eq_true rfl) (Nat.le_of_ble_eq_true rfl) dX5_isMeasure_40
          · have e_32 : kd = 23 := q_kinj hA hkd (by decide) c_32
            refine lv_iconst (v := 1) hx hb dX5_isMeasure_35 (by decide) ?_
            refine lv_goto (tgt := 40) hx hb dX5_isMeasure_36 (by decide) ?_
            exact q_zret hx hb hr hlocks hW hS rfl ⟨by rw [e_32]; rfl, rfl, rfl⟩ (Nat.le_of_ble_eq_true rfl) (Nat.le_of_ble_eq_true rfl) dX5_isMeasure_40

set_option maxHeartbeats 4000000 in
set_option maxRecDepth 100000 in
theorem kX5_isContent (l : Launch) (E : q_E) (f : q_H) (n : Nat) (kd : Nat)  (hkd : kd < 41) : Met l yX5_isContent wsX5_isContent ({ frames := 0, cells := 0, slots := 0, locals := 0 }) (q_P E [.ref (E.2.2.2 kd)] f n) (q_Qi E (fun r f1 n1 => b01 (b_cont kd) = r ∧ f = f1 ∧ n = n1)) 0 0 (q_ge E) := by
  refine Met.ofW (cc := cX5_isContent) (maxL := 1) (ret := (some .boolean)) (by decide) rfl ?_
  intro p e s m args below meth c s₁ B hml hv
  obtain ⟨rfl, hA, hW⟩ := hv
  have hx := B.exec
  have hb := B.bytes
  have hr := B.returns
  have hts := atoms_spec (ws := wsX5_isContent) B.pre
  have hown : s.vm.findClass RX5 = some m.cls := findClass_of_methodNamed B.named
  have hlocks := B.notSynchronized
  have hS : va_S (q_ge E) s.heap s.heap [] := va_S.rf
  have hl := lv_entry ([.ref (E.2.2.2 kd)]) (n := 1) (Nat.le_of_ble_eq_true rfl)
  rw [lg_entry_eq]
  generalize (lg_sl ([.ref (E.2.2.2 kd)]) ++ List.replicate (1 - (lg_sl ([.ref (E.2.2.2 kd)])).length) Slot.unset).toArray = ls at hl ⊢
  have hl : lv_has ls 1 [(0, .ref (E.2.2.2 kd))] := hl
  refine lv_aload_n hx hb dX5_isContent_0 rfl (lv_at hl 0 rfl) ?_
  refine va_gets (n := "WATER") (v := .ref (E.2.2.2 4)) hx hb (hA.2.2.1.1.1 4 (by decide)).1 hS hown (hts (.fieldLink RX5 16 "HighRecipes$Kind" "WATER" "LHighRecipes$Kind;") (by decide +kernel)) (fun _ h9 => h9) dX5_isContent_1 ?_
  refine lv_acmp_eq (rx := (some (E.2.2.2 kd))) (ry := (some (E.2.2.2 4))) (tgt := 35) hx hb dX5_isContent_4 (by decide) (fun c_4 => ?_) (fun c_4 => ?_)
  · have e_4 : kd = 4 := q_kinj hA hkd (by decide) c_4
    refine lv_iconst (v := 1) hx hb dX5_isContent_35 (by decide) ?_
    refine lv_goto (tgt := 40) hx hb dX5_isContent_36 (by decide) ?_
    exact q_zret hx hb hr hlocks hW hS rfl ⟨by rw [e_4]; rfl, rfl, rfl⟩ (Nat.le_of_ble_eq_true rfl) (Nat.le_of_ble_eq_true rfl) dX5_isContent_40
  · have e_4 : ¬ kd = 4 := fun h9 => c_4 (by rw [h9])
    refine lv_aload_n hx hb dX5_isContent_7 rfl (lv_at hl 0 rfl) ?_
    refine va_gets (n := "MEAL") (v := .ref (E.2.2.2 5)) hx hb (hA.2.2.1.1.1 5 (by decide)).1 hS hown (hts (.fieldLink RX5 19 "HighRecipes$Kind" "MEAL" "LHighRecipes$Kind;") (by decide +kernel)) (fun _ h9 => h9) dX5_isContent_8 ?_
    refine lv_acmp_eq (rx := (some (E.2.2.2 kd))) (ry := (some (E.2.2.2 5))) (tgt := 35) hx hb dX5_isContent_11 (by decide) (fun c_11 => ?_) (fun c_11 => ?_)
    · have e_11 : kd = 5 := q_kinj hA hkd (by decide) c_11
      refine lv_iconst (v := 1) hx hb dX5_isContent_35 (by decide) ?_
      refine lv_goto (tgt := 40) hx hb dX5_isContent_36 (by decide) ?_
      exact q_zret hx hb hr hlocks hW hS rfl ⟨by rw [e_11]; rfl, rfl, rfl⟩ (Nat.le_of_ble_eq_true rfl) (Nat.le_of_ble_eq_true rfl) dX5_isContent_40
    · have e_11 : ¬ kd = 5 := fun h9 => c_11 (by rw [h9])
      refine lv_aload_n hx hb dX5_isContent_14 rfl (lv_at hl 0 rfl) ?_
      refine va_gets (n := "HEAT") (v := .ref (E.2.2.2 7)) hx hb (hA.2.2.1.1.1 7 (by decide)).1 hS hown (hts (.fieldLink RX5 25 "HighRecipes$Kind" "HEAT" "LHighRecipes$Kind;") (by decide +kernel)) (fun _ h9 => h9) dX5_isContent_15 ?_
      refine lv_acmp_eq (rx := (some (E.2.2.2 kd))) (ry := (some (E.2.2.2 7))) (tgt := 35) hx hb dX5_isContent_18 (by decide) (fun c_18 => ?_) (fun c_18 => ?_)
      · have e_18 : kd = 7 := q_kinj hA hkd (by decide) c_18
        refine lv_iconst (v := 1) hx hb dX5_isContent_35 (by decide) ?_
        refine lv_goto (tgt := 40) hx hb dX5_isContent_36 (by decide) ?_
        exact q_zret hx hb hr hlocks hW hS rfl ⟨by rw [e_18]; rfl, rfl, rfl⟩ (Nat.le_of_ble_eq_true rfl) (Nat.le_of_ble_eq_true rfl) dX5_isContent_40
      · have e_18 : ¬ kd = 7 := fun h9 => c_18 (by rw [h9])
        refine lv_aload_n hx hb dX5_isContent_21 rfl (lv_at hl 0 rfl) ?_
        refine va_gets (n := "DONE") (v := .ref (E.2.2.2 25)) hx hb (hA.2.2.1.1.1 25 (by decide)).1 hS hown (hts (.fieldLink RX5 79 "HighRecipes$Kind" "DONE" "LHighRecipes$Kind;") (by decide +kernel)) (fun _ h9 => h9) dX5_isContent_22 ?_
        refine lv_acmp_eq (rx := (some (E.2.2.2 kd))) (ry := (some (E.2.2.2 25))) (tgt := 35) hx hb dX5_isContent_25 (by decide) (fun c_25 => ?_) (fun c_25 => ?_)
        · have e_25 : kd = 25 := q_kinj hA hkd (by decide) c_25
          refine lv_iconst (v := 1) hx hb dX5_isContent_35 (by decide) ?_
          refine lv_goto (tgt := 40) hx hb dX5_isContent_36 (by decide) ?_
          exact q_zret hx hb hr hlocks hW hS rfl ⟨by rw [e_25]; rfl, rfl, rfl⟩ (Nat.le_of_ble_eq_true rfl) (Nat.le_of_ble_eq_true rfl) dX5_isContent_40
        · have e_25 : ¬ kd = 25 := fun h9 => c_25 (by rw [h9])
          refine lv_aload_n hx hb dX5_isContent_28 rfl (lv_at hl 0 rfl) ?_
          refine va_gets (n := "ROOM") (v := .ref (E.2.2.2 26)) hx hb (hA.2.2.1.1.1 26 (by decide)).1 hS hown (hts (.fieldLink RX5 82 "HighRecipes$Kind" "ROOM" "LHighRecipes$Kind;") (by decide +kernel)) (fun _ h9 => h9) dX5_isContent_29 ?_
          refine lv_acmp_ne (rx := (some (E.2.2.2 kd))) (ry := (some (E.2.2.2 26))) (tgt := 39) hx hb dX5_isContent_32 (by decide) (fun c_32 => ?_) (fun c_32 => ?_)
          · have e_32 : ¬ kd = 26 := fun h9 => c_32 (by rw [h9])
            refine lv_iconst (v := 0) hx hb dX5_isContent_39 (by decide) ?_
            exact q_zret hx hb hr hlocks hW hS rfl ⟨by simp [b01, b_cont, e_4, e_11, e_18, e_25, e_32], rfl, rfl⟩ (Nat.le_of_ble_eq_true rfl) (Nat.le_of_ble_eq_true rfl) dX5_isContent_40
          · have e_32 : kd = 26 := q_kinj hA hkd (by decide) c_32
            refine lv_iconst (v := 1) hx hb dX5_isContent_35 (by decide) ?_
            refine lv_goto (tgt := 40) hx hb dX5_isContent_36 (by decide) ?_
            exact q_zret hx hb hr hlocks hW hS rfl ⟨by rw [e_32]; rfl, rfl, rfl⟩ (Nat.le_of_ble_eq_true rfl) (Nat.le_of_ble_eq_true rfl) dX5_isContent_40

set_option maxHeartbeats 4000000 in
set_option maxRecDepth 100000 in
theorem kX5_isCompareSign (l : Launch) (E : q_E) (f : q_H) (n : Nat) (kd : Nat)  (hkd : kd < 41) : Met l yX5_isCompareSign wsX5_isCompareSign ({ frames := 0, cells := 0, slots := 0, locals := 0 }) (q_P E [.ref (E.2.2.2 kd)] f n) (q_Qi E (fun r f1 n1 => b01 (b_csign kd) = r ∧ f = f1 ∧ n = n1)) 0 0 (q_ge E) := by
  refine Met.ofW (cc := cX5_isCompareSign) (maxL := 1) (ret := (some .boolean)) (by decide) rfl ?_
  intro p e s m args below meth c s₁ B hml hv
  obtain ⟨rfl, hA, hW⟩ := hv
  have hx := B.exec
  have hb := B.bytes
  have hr := B.returns
  have hts := atoms_spec (ws := wsX5_isCompareSign) B.pre
  have hown : s.vm.findClass RX5 = some m.cls := findClass_of_methodNamed B.named
  have hlocks := B.notSynchronized
  have hS : va_S (q_ge E) s.heap s.heap [] := va_S.rf
  have hl := lv_entry ([.ref (E.2.2.2 kd)]) (n := 1) (Nat.le_of_ble_eq_true rfl)
  rw [lg_entry_eq]
  generalize (lg_sl ([.ref (E.2.2.2 kd)]) ++ List.replicate (1 - (lg_sl ([.ref (E.2.2.2 kd)])).length) Slot.unset).toArray = ls at hl ⊢
  have hl : lv_has ls 1 [(0, .ref (E.2.2.2 kd))] := hl
  refine lv_aload_n hx hb dX5_isCompareSign_0 rfl (lv_at hl 0 rfl) ?_
  refine va_gets (n := "LESS") (v := .ref (E.2.2.2 30)) hx hb (hA.2.2.1.1.1 30 (by decide)).1 hS hown (hts (.fieldLink RX5 94 "HighRecipes$Kind" "LESS" "LHighRecipes$Kind;") (by decide +kernel)) (fun _ h9 => h9) dX5_isCompareSign_1 ?_
  refine lv_acmp_eq (rx := (some (E.2.2.2 kd))) (ry := (some (E.2.2.2 30))) (tgt := 21) hx hb dX5_isCompareSign_4 (by decide) (fun c_4 => ?_) (fun c_4 => ?_)
  · have e_4 : kd = 30 := q_kinj hA hkd (by decide) c_4
    refine lv_iconst (v := 1) hx hb dX5_isCompareSign_21 (by decide) ?_
    refine lv_goto (tgt := 26) hx hb dX5_isCompareSign_22 (by decide) ?_
    exact q_zret hx hb hr hlocks hW hS rfl ⟨by rw [e_4]; rfl, rfl, rfl⟩ (Nat.le_of_ble_eq_true rfl) (Nat.le_of_ble_eq_true rfl) dX5_isCompareSign_26
  · have e_4 : ¬ kd = 30 := fun h9 => c_4 (by rw [h9])
    refine lv_aload_n hx hb dX5_isCompareSign_7 rfl (lv_at hl 0 rfl) ?_
    refine va_gets (n := "GREATER") (v := .ref (E.2.2.2 31)) hx hb (hA.2.2.1.1.1 31 (by decide)).1 hS hown (hts (.fieldLink RX5 97 "HighRecipes$Kind" "GREATER" "LHighRecipes$Kind;") (by decide +kernel)) (fun _ h9 => h9) dX5_isCompareSign_8 ?_
    refine lv_acmp_eq (rx := (some (E.2.2.2 kd))) (ry := (some (E.2.2.2 31))) (tgt := 21) hx hb dX5_isCompareSign_11 (by decide) (fun c_11 => ?_) (fun c_11 => ?_)
    · have e_11 : kd = 31 := q_kinj hA hkd (by decide) c_11
      refine lv_iconst (v := 1) hx hb dX5_isCompareSign_21 (by decide) ?_
      refine lv_goto (tgt := 26) hx hb dX5_isCompareSign_22 (by decide) ?_
      exact q_zret hx hb hr hlocks hW hS rfl ⟨by rw [e_11]; rfl, rfl, rfl⟩ (Nat.le_of_ble_eq_true rfl) (Nat.le_of_ble_eq_true rfl) dX5_isCompareSign_26
    · have e_11 : ¬ kd = 31 := fun h9 => c_11 (by rw [h9])
      refine lv_aload_n hx hb dX5_isCompareSign_14 rfl (lv_at hl 0 rfl) ?_
      refine va_gets (n := "EQUAL") (v := .ref (E.2.2.2 32)) hx hb (hA.2.2.1.1.1 32 (by decide)).1 hS hown (hts (.fieldLink RX5 100 "HighRecipes$Kind" "EQUAL" "LHighRecipes$Kind;") (by decide +kernel)) (fun _ h9 => h9) dX5_isCompareSign_15 ?_
      refine lv_acmp_ne (rx := (some (E.2.2.2 kd))) (ry := (some (E.2.2.2 32))) (tgt := 25) hx hb dX5_isCompareSign_18 (by decide) (fun c_18 => ?_) (fun c_18 => ?_)
      · have e_18 : ¬ kd = 32 := fun h9 => c_18 (by rw [h9])
        refine lv_iconst (v := 0) hx hb dX5_isCompareSign_25 (by decide) ?_
        exact q_zret hx hb hr hlocks hW hS rfl ⟨by simp [b01, b_csign, e_4, e_11, e_18], rfl, rfl⟩ (Nat.le_of_ble_eq_true rfl) (Nat.le_of_ble_eq_true rfl) dX5_isCompareSign_26
      · have e_18 : kd = 32 := q_kinj hA hkd (by decide) c_18
        refine lv_iconst (v := 1) hx hb dX5_isCompareSign_21 (by decide) ?_
        refine lv_goto (tgt := 26) hx hb dX5_isCompareSign_22 (by decide) ?_
        exact q_zret hx hb hr hlocks hW hS rfl ⟨by rw [e_18]; rfl, rfl, rfl⟩ (Nat.le_of_ble_eq_true rfl) (Nat.le_of_ble_eq_true rfl) dX5_isCompareSign_26

set_option maxHeartbeats 4000000 in
set_option maxRecDepth 100000 in
theorem kX5_isValueSign (l : Launch) (E : q_E) (f : q_H) (n : Nat) (kd : Nat)  (hkd : kd < 41) : Met l yX5_isValueSign wsX5_isValueSign ({ frames := 0, cells := 0, slots := 0, locals := 0 }) (q_P E [.ref (E.2.2.2 kd)] f n) (q_Qi E (fun r f1 n1 => b01 (b_vsign kd) = r ∧ f = f1 ∧ n = n1)) 0 0 (q_ge E) := by
  refine Met.ofW (cc := cX5_isValueSign) (maxL := 1) (ret := (some .boolean)) (by decide) rfl ?_
  intro p e s m args below meth c s₁ B hml hv
  obtain ⟨rfl, hA, hW⟩ := hv
  have hx := B.exec
  have hb := B.bytes
  have hr := B.returns
  have hts := atoms_spec (ws := wsX5_isValueSign) B.pre
  have hown : s.vm.findClass RX5 = some m.cls := findClass_of_methodNamed B.named
  have hlocks := B.notSynchronized
  have hS : va_S (q_ge E) s.heap s.heap [] := va_S.rf
  have hl := lv_entry ([.ref (E.2.2.2 kd)]) (n := 1) (Nat.le_of_ble_eq_true rfl)
  rw [lg_entry_eq]
  generalize (lg_sl ([.ref (E.2.2.2 kd)]) ++ List.replicate (1 - (lg_sl ([.ref (E.2.2.2 kd)])).length) Slot.unset).toArray = ls at hl ⊢
  have hl : lv_has ls 1 [(0, .ref (E.2.2.2 kd))] := hl
  refine lv_aload_n hx hb dX5_isValueSign_0 rfl (lv_at hl 0 rfl) ?_
  refine va_gets (n := "PLUS") (v := .ref (E.2.2.2 33)) hx hb (hA.2.2.1.1.1 33 (by decide)).1 hS hown (hts (.fieldLink RX5 103 "HighRecipes$Kind" "PLUS" "LHighRecipes$Kind;") (by decide +kernel)) (fun _ h9 => h9) dX5_isValueSign_1 ?_
  refine lv_acmp_eq (rx := (some (E.2.2.2 kd))) (ry := (some (E.2.2.2 33))) (tgt := 28) hx hb dX5_isValueSign_4 (by decide) (fun c_4 => ?_) (fun c_4 => ?_)
  · have e_4 : kd = 33 := q_kinj hA hkd (by decide) c_4
    refine lv_iconst (v := 1) hx hb dX5_isValueSign_28 (by decide) ?_
    refine lv_goto (tgt := 33) hx hb dX5_isValueSign_29 (by decide) ?_
    exact q_zret hx hb hr hlocks hW hS rfl ⟨by rw [e_4]; rfl, rfl, rfl⟩ (Nat.le_of_ble_eq_true rfl) (Nat.le_of_ble_eq_true rfl) dX5_isValueSign_33
  · have e_4 : ¬ kd = 33 := fun h9 => c_4 (by rw [h9])
    refine lv_aload_n hx hb dX5_isValueSign_7 rfl (lv_at hl 0 rfl) ?_
    refine va_gets (n := "MINUS") (v := .ref (E.2.2.2 34)) hx hb (hA.2.2.1.1.1 34 (by decide)).1 hS hown (hts (.fieldLink RX5 106 "HighRecipes$Kind" "MINUS" "LHighRecipes$Kind;") (by decide +kernel)) (fun _ h9 => h9) dX5_isValueSign_8 ?_
    refine lv_acmp_eq (rx := (some (E.2.2.2 kd))) (ry := (some (E.2.2.2 34))) (tgt := 28) hx hb dX5_isValueSign_11 (by decide) (fun c_11 => ?_) (fun c_11 => ?_)
    · have e_11 : kd = 34 := q_kinj hA hkd (by decide) c_11
      refine lv_iconst (v := 1) hx hb dX5_isValueSign_28 (by decide) ?_
      refine lv_goto (tgt := 33) hx hb dX5_isValueSign_29 (by decide) ?_
      exact q_zret hx hb hr hlocks hW hS rfl ⟨by rw [e_11]; rfl, rfl, rfl⟩ (Nat.le_of_ble_eq_true rfl) (Nat.le_of_ble_eq_true rfl) dX5_isValueSign_33
    · have e_11 : ¬ kd = 34 := fun h9 => c_11 (by rw [h9])
      refine lv_aload_n hx hb dX5_isValueSign_14 rfl (lv_at hl 0 rfl) ?_
      refine va_gets (n := "TIMES") (v := .ref (E.2.2.2 35)) hx hb (hA.2.2.1.1.1 35 (by decide)).1 hS hown (hts (.fieldLink RX5 109 "HighRecipes$Kind" "TIMES" "LHighRecipes$Kind;") (by decide +kernel)) (fun _ h9 => h9) dX5_isValueSign_15 ?_
      refine lv_acmp_eq (rx := (some (E.2.2.2 kd))) (ry := (some (E.2.2.2 35))) (tgt := 28) hx hb dX5_isValueSign_18 (by decide) (fun c_18 => ?_) (fun c_18 => ?_)
      · have e_18 : kd = 35 := q_kinj hA hkd (by decide) c_18
        refine lv_iconst (v := 1) hx hb dX5_isValueSign_28 (by decide) ?_
        refine lv_goto (tgt := 33) hx hb dX5_isValueSign_29 (by decide) ?_
        exact q_zret hx hb hr hlocks hW hS rfl ⟨by rw [e_18]; rfl, rfl, rfl⟩ (Nat.le_of_ble_eq_true rfl) (Nat.le_of_ble_eq_true rfl) dX5_isValueSign_33
      · have e_18 : ¬ kd = 35 := fun h9 => c_18 (by rw [h9])
        refine lv_aload_n hx hb dX5_isValueSign_21 rfl (lv_at hl 0 rfl) ?_
        refine va_gets (n := "OVER") (v := .ref (E.2.2.2 36)) hx hb (hA.2.2.1.1.1 36 (by decide)).1 hS hown (hts (.fieldLink RX5 112 "HighRecipes$Kind" "OVER" "LHighRecipes$Kind;") (by decide +kernel)) (fun _ h9 => h9) dX5_isValueSign_22 ?_
        refine lv_acmp_ne (rx := (some (E.2.2.2 kd))) (ry := (some (E.2.2.2 36))) (tgt := 32) hx hb dX5_isValueSign_25 (by decide) (fun c_25 => ?_) (fun c_25 => ?_)
        · have e_25 : ¬ kd = 36 := fun h9 => c_25 (by rw [h9])
          refine lv_iconst (v := 0) hx hb dX5_isValueSign_32 (by decide) ?_
          exact q_zret hx hb hr hlocks hW hS rfl ⟨by simp [b01, b_vsign, e_4, e_11, e_18, e_25], rfl, rfl⟩ (Nat.le_of_ble_eq_true rfl) (Nat.le_of_ble_eq_true rfl) dX5_isValueSign_33
        · have e_25 : kd = 36 := q_kinj hA hkd (by decide) c_25
          refine lv_iconst (v := 1) hx hb dX5_isValueSign_28 (by decide) ?_
          refine lv_goto (tgt := 33) hx hb dX5_isValueSign_29 (by decide) ?_
          exact q_zret hx hb hr hlocks hW hS rfl ⟨by rw [e_25]; rfl, rfl, rfl⟩ (Nat.le_of_ble_eq_true rfl) (Nat.le_of_ble_eq_true rfl) dX5_isValueSign_33

def k_wordF (w : Int64) : Nat → Nat → Nat
  | 0, _ => 37
  | m + 1, j => if q_wrd.getD j 0 = w then j else k_wordF w m (j + 1)
def k_signF (w : Int32) : Nat → Nat → Nat
  | 0, _ => 40
  | m + 1, j => if q_sig.getD j 0 = w then j else k_signF w m (j + 1)
def k_word (w : Int64) : Nat := k_wordF w 41 0
def k_sign (w : Int32) : Nat := k_signF w 41 0

set_option maxHeartbeats 4000000 in
set_option maxRecDepth 100000 in
theorem kX5_ofWord (l : Launch) (E : q_E) (f : q_H) (n : Nat) (w : Int64)  : Met l yX5_ofWord wsX5_ofWord ({ frames := 0, cells := 0, slots := 0, locals := 0 }) (q_P E [.long w] f n) (q_Qq E (fun r f1 n1 => some (E.2.2.2 (k_word w)) = r ∧ f = f1 ∧ n = n1)) 0 0 (q_ge E) := by
  refine Met.ofW (cc := cX5_ofWord) (maxL := 6) (ret := (some (.object "HighRecipes$Kind"))) (by decide) rfl ?_
  intro p e s m args below meth c s₁ B hml hv
  obtain ⟨rfl, hA, hW⟩ := hv
  have hx := B.exec
  have hb := B.bytes
  have hr := B.returns
  have hts := atoms_spec (ws := wsX5_ofWord) B.pre
  have hown : s.vm.findClass RX5 = some m.cls := findClass_of_methodNamed B.named
  have hlocks := B.notSynchronized
  have hS : va_S (q_ge E) s.heap s.heap [] := va_S.rf
  have hl := lv_entry ([.long w]) (n := 6) (Nat.le_of_ble_eq_true rfl)
  rw [lg_entry_eq]
  generalize (lg_sl ([.long w]) ++ List.replicate (6 - (lg_sl ([.long w])).length) Slot.unset).toArray = ls at hl ⊢
  have hl : lv_has ls 6 [(0, .long w)] := hl
  refine va_gets hx hb hA.2.2.1.2.2.1.1 hS hown (hts (.fieldLink RX5 176 "HighRecipes$Kind" "ALL" "[LHighRecipes$Kind;") (by decide +kernel)) (fun _ h9 => h9) dX5_ofWord_0 ?_
  refine lv_astore_n (lv' := [(2, .ref (E.2.2.2 100)), (0, .long w)]) hx hb dX5_ofWord_3 rfl hl (by decide) rfl (fun ls hl => ?_)
  refine lv_aload_n hx hb dX5_ofWord_4 rfl (lv_at hl 0 rfl) ?_
  refine va_tlen hx hb hA.2.2.1.2.2.1.2 hS (v := Int32.ofNat 41) rfl dX5_ofWord_5 ?_
  refine lv_istore_n (lv' := [(3, .int (Int32.ofNat 41)), (2, .ref (E.2.2.2 100)), (0, .long w)]) hx hb dX5_ofWord_6 rfl hl (by decide) rfl (fun ls hl => ?_)
  refine lv_iconst (v := 0) hx hb dX5_ofWord_7 (by decide) ?_
  refine lv_istore (lv' := [(4, .int 0), (3, .int (Int32.ofNat 41)), (2, .ref (E.2.2.2 100)), (0, .long w)]) hx hb dX5_ofWord_8 hl (by decide) rfl (fun ls hl => ?_)
  have K10 : ∀ (fu : Nat) (j : Nat) (hj : j ≤ 41) (hinv : k_word w = k_wordF w (41 - j) j) (hm : 41 - j < fu) (H : Heap) (locs : List Loc) (ls : Array Slot), q_W E (f) n H → va_S (q_ge E) s.heap H locs → lv_has ls 6 [(0, .long w), (2, .ref (E.2.2.2 100)), (3, .int (Int32.ofNat 41)), (4, .int (nI j))] → W p l e (headSpec wsX5_ofWord ({ frames := 0, cells := 0, slots := 0, locals := 0 })).room s m ([.long w] : List Value).toArray below meth c H locs 0 0 (MQ below (q_Qq E (fun r f1 n1 => some (E.2.2.2 (k_word w)) = r ∧ f = f1 ∧ n = n1)) ([.long w] : List Value).toArray s 0 0 (q_ge E)) (F0 m 10 ls []) := by
    intro fu
    induction fu with
    | zero =>
      intro j hj hinv hm
      exact absurd hm (Nat.not_lt_zero _)
    | succ fu ih =>
      intro j hj hinv hm H locs ls hW hS hl
      refine lv_iload hx hb dX5_ofWord_10 (lv_at hl 3 rfl) ?_
      refine lv_iload_n hx hb dX5_ofWord_12 rfl (lv_at hl 2 rfl) ?_
      refine lv_icmp_ge (tgt := 41) hx hb dX5_ofWord_13 (by decide) (fun c_13 => ?_) (fun c_13 => ?_)
      · have ej : j = 41 := by rcases Nat.lt_or_ge j 41 with h9 | h9; exact absurd c_13 (nI_ge h9 (by omega)); omega
        subst ej
        refine va_gets (n := "NAME") (v := .ref (E.2.2.2 37)) hx hb (hA.2.2.1.1.1 37 (by decide)).1 hS hown (hts (.fieldLink RX5 115 "HighRecipes$Kind" "NAME" "LHighRecipes$Kind;") (by decide +kernel)) (fun _ h9 => h9) dX5_ofWord_41 ?_
        exact q_aret (v := some (E.2.2.2 37)) hx hb hr (Or.inl ⟨_, rfl⟩) hlocks hW hS ⟨(by rw [hinv]; rfl), rfl, rfl⟩ (Nat.le_of_ble_eq_true rfl) (Nat.le_of_ble_eq_true rfl) dX5_ofWord_44
      · have hlt : j < 41 := by rcases Nat.lt_or_ge j 41 with h9 | h9; exact h9; exact absurd (nI_le h9 (by omega)) c_13
        refine lv_aload_n hx hb dX5_ofWord_16 rfl (lv_at hl 1 rfl) ?_
        refine lv_iload hx hb dX5_ofWord_17 (lv_at hl 3 rfl) ?_
        refine vb_tq hx hb hA.2.2.1.2.2.1.2 hS (vp_in_nI hlt (by decide)) (v := .ref (E.2.2.2 j)) (by rw [nI_clamp (by omega)]) dX5_ofWord_19 ?_
        refine lv_astore (lv' := [(5, .ref (E.2.2.2 j)), (0, .long w), (2, .ref (E.2.2.2 100)), (3, .int (Int32.ofNat 41)), (4, .int (nI j))]) hx hb dX5_ofWord_20 hl (by decide) rfl (fun ls hl => ?_)
        refine lv_aload hx hb dX5_ofWord_22 (lv_at hl 0 rfl) ?_
        refine q_kword hx hb hA hS hown (i := j) hlt (hts (.fieldLink RX5 150 "HighRecipes$Kind" "word" "J") (by decide +kernel)) dX5_ofWord_24 ?_
        refine lv_lload_n hx hb dX5_ofWord_27 rfl (lv_at hl 1 rfl) ?_
        refine q_lcmp_ne (tgt := 35) hx hb dX5_ofWord_28 dX5_ofWord_29 (by decide) (fun c_28 => ?_) (fun c_28 => ?_)
        · have hF : k_wordF w (41 - j) j = k_wordF w (41 - (j + 1)) (j + 1) := by rw [show 41 - j = (41 - (j + 1)) + 1 by omega]; exact if_neg c_28
          refine lv_iinc (v := nI (j + 1)) (lv' := [(4, .int (nI (j + 1))), (5, .ref (E.2.2.2 j)), (0, .long w), (2, .ref (E.2.2.2 100)), (3, .int (Int32.ofNat 41))]) hx hb dX5_ofWord_35 hl (k := 4) rfl (nI_1 j) (by decide) rfl (fun ls hl => ?_)
          refine lv_goto (tgt := 10) hx hb dX5_ofWord_38 (by decide) ?_
          exact ih (j + 1) hlt (hinv.trans hF) (by omega) _ _ _ hW hS (lv_sub hl [2, 3, 4, 0] rfl)
        · have hF : k_wordF w (41 - j) j = j := by rw [show 41 - j = (41 - (j + 1)) + 1 by omega]; exact if_pos c_28
          refine lv_aload hx hb dX5_ofWord_32 (lv_at hl 0 rfl) ?_
          exact q_aret (v := some (E.2.2.2 j)) hx hb hr (Or.inl ⟨_, rfl⟩) hlocks hW hS ⟨(by rw [hinv, hF]), rfl, rfl⟩ (Nat.le_of_ble_eq_true rfl) (Nat.le_of_ble_eq_true rfl) dX5_ofWord_34
  exact K10 _ 0 (Nat.zero_le _) rfl (Nat.lt_succ_self _) _ _ _ hW hS (lv_sub hl [3, 2, 1, 0] rfl)

set_option maxHeartbeats 4000000 in
set_option maxRecDepth 100000 in
theorem kX5_ofSign (l : Launch) (E : q_E) (f : q_H) (n : Nat) (w : Int32)  : Met l yX5_ofSign wsX5_ofSign ({ frames := 0, cells := 0, slots := 0, locals := 0 }) (q_P E [.int w] f n) (q_Qq E (fun r f1 n1 => some (E.2.2.2 (k_sign w)) = r ∧ f = f1 ∧ n = n1)) 0 0 (q_ge E) := by
  refine Met.ofW (cc := cX5_ofSign) (maxL := 5) (ret := (some (.object "HighRecipes$Kind"))) (by decide) rfl ?_
  intro p e s m args below meth c s₁ B hml hv
  obtain ⟨rfl, hA, hW⟩ := hv
  have hx := B.exec
  have hb := B.bytes
  have hr := B.returns
  have hts := atoms_spec (ws := wsX5_ofSign) B.pre
  have hown : s.vm.findClass RX5 = some m.cls := findClass_of_methodNamed B.named
  have hlocks := B.notSynchronized
  have hS : va_S (q_ge E) s.heap s.heap [] := va_S.rf
  have hl := lv_entry ([.int w]) (n := 5) (Nat.le_of_ble_eq_true rfl)
  rw [lg_entry_eq]
  generalize (lg_sl ([.int w]) ++ List.replicate (5 - (lg_sl ([.int w])).length) Slot.unset).toArray = ls at hl ⊢
  have hl : lv_has ls 5 [(0, .int w)] := hl
  refine va_gets hx hb hA.2.2.1.2.2.1.1 hS hown (hts (.fieldLink RX5 176 "HighRecipes$Kind" "ALL" "[LHighRecipes$Kind;") (by decide +kernel)) (fun _ h9 => h9) dX5_ofSign_0 ?_
  refine lv_astore_n (lv' := [(1, .ref (E.2.2.2 100)), (0, .int w)]) hx hb dX5_ofSign_3 rfl hl (by decide) rfl (fun ls hl => ?_)
  refine lv_aload_n hx hb dX5_ofSign_4 rfl (lv_at hl 0 rfl) ?_
  refine va_tlen hx hb hA.2.2.1.2.2.1.2 hS (v := Int32.ofNat 41) rfl dX5_ofSign_5 ?_
  refine lv_istore_n (lv' := [(2, .int (Int32.ofNat 41)), (1, .ref (E.2.2.2 100)), (0, .int w)]) hx hb dX5_ofSign_6 rfl hl (by decide) rfl (fun ls hl => ?_)
  refine lv_iconst (v := 0) hx hb dX5_ofSign_7 (by decide) ?_
  refine lv_istore_n (lv' := [(3, .int 0), (2, .int (Int32.ofNat 41)), (1, .ref (E.2.2.2 100)), (0, .int w)]) hx hb dX5_ofSign_8 rfl hl (by decide) rfl (fun ls hl => ?_)
  have K9 : ∀ (fu : Nat) (j : Nat) (hj : j ≤ 41) (hinv : k_sign w = k_signF w (41 - j) j) (hm : 41 - j < fu) (H : Heap) (locs : List Loc) (ls : Array Slot), q_W E (f) n H → va_S (q_ge E) s.heap H locs → lv_has ls 5 [(0, .int w), (1, .ref (E.2.2.2 100)), (2, .int (Int32.ofNat 41)), (3, .int (nI j))] → W p l e (headSpec wsX5_ofSign ({ frames := 0, cells := 0, slots := 0, locals := 0 })).room s m ([.int w] : List Value).toArray below meth c H locs 0 0 (MQ below (q_Qq E (fun r f1 n1 => some (E.2.2.2 (k_sign w)) = r ∧ f = f1 ∧ n = n1)) ([.int w] : List Value).toArray s 0 0 (q_ge E)) (F0 m 9 ls []) := by
    intro fu
    induction fu with
    | zero =>
      intro j hj hinv hm
      exact absurd hm (Nat.not_lt_zero _)
    | succ fu ih =>
      intro j hj hinv hm H locs ls hW hS hl
      refine lv_iload_n hx hb dX5_ofSign_9 rfl (lv_at hl 3 rfl) ?_
      refine lv_iload_n hx hb dX5_ofSign_10 rfl (lv_at hl 2 rfl) ?_
      refine lv_icmp_ge (tgt := 37) hx hb dX5_ofSign_11 (by decide) (fun c_11 => ?_) (fun c_11 => ?_)
      · have ej : j = 41 := by rcases Nat.lt_or_ge j 41 with h9 | h9; exact absurd c_11 (nI_ge h9 (by omega)); omega
        subst ej
        refine va_gets (n := "BAD") (v := .ref (E.2.2.2 40)) hx hb (hA.2.2.1.1.1 40 (by decide)).1 hS hown (hts (.fieldLink RX5 124 "HighRecipes$Kind" "BAD" "LHighRecipes$Kind;") (by decide +kernel)) (fun _ h9 => h9) dX5_ofSign_37 ?_
        exact q_aret (v := some (E.2.2.2 40)) hx hb hr (Or.inl ⟨_, rfl⟩) hlocks hW hS ⟨(by rw [hinv]; rfl), rfl, rfl⟩ (Nat.le_of_ble_eq_true rfl) (Nat.le_of_ble_eq_true rfl) dX5_ofSign_40
      · have hlt : j < 41 := by rcases Nat.lt_or_ge j 41 with h9 | h9; exact h9; exact absurd (nI_le h9 (by omega)) c_11
        refine lv_aload_n hx hb dX5_ofSign_14 rfl (lv_at hl 1 rfl) ?_
        refine lv_iload_n hx hb dX5_ofSign_15 rfl (lv_at hl 3 rfl) ?_
        refine vb_tq hx hb hA.2.2.1.2.2.1.2 hS (vp_in_nI hlt (by decide)) (v := .ref (E.2.2.2 j)) (by rw [nI_clamp (by omega)]) dX5_ofSign_16 ?_
        refine lv_astore (lv' := [(4, .ref (E.2.2.2 j)), (0, .int w), (1, .ref (E.2.2.2 100)), (2, .int (Int32.ofNat 41)), (3, .int (nI j))]) hx hb dX5_ofSign_17 hl (by decide) rfl (fun ls hl => ?_)
        refine lv_aload hx hb dX5_ofSign_19 (lv_at hl 0 rfl) ?_
        refine q_ksign hx hb hA hS hown (i := j) hlt (hts (.fieldLink RX5 154 "HighRecipes$Kind" "sign" "I") (by decide +kernel)) dX5_ofSign_21 ?_
        refine lv_iload_n hx hb dX5_ofSign_24 rfl (lv_at hl 1 rfl) ?_
        refine lv_icmp_ne (tgt := 31) hx hb dX5_ofSign_25 (by decide) (fun c_25 => ?_) (fun c_25 => ?_)
        · have hF : k_signF w (41 - j) j = k_signF w (41 - (j + 1)) (j + 1) := by rw [show 41 - j = (41 - (j + 1)) + 1 by omega]; exact if_neg c_25
          refine lv_iinc (v := nI (j + 1)) (lv' := [(3, .int (nI (j + 1))), (4, .ref (E.2.2.2 j)), (0, .int w), (1, .ref (E.2.2.2 100)), (2, .int (Int32.ofNat 41))]) hx hb dX5_ofSign_31 hl (k := 4) rfl (nI_1 j) (by decide) rfl (fun ls hl => ?_)
          refine lv_goto (tgt := 9) hx hb dX5_ofSign_34 (by decide) ?_
          exact ih (j + 1) hlt (hinv.trans hF) (by omega) _ _ _ hW hS (lv_sub hl [2, 3, 4, 0] rfl)
        · have hF : k_signF w (41 - j) j = j := by rw [show 41 - j = (41 - (j + 1)) + 1 by omega]; exact if_pos c_25
          refine lv_aload hx hb dX5_ofSign_28 (lv_at hl 0 rfl) ?_
          exact q_aret (v := some (E.2.2.2 j)) hx hb hr (Or.inl ⟨_, rfl⟩) hlocks hW hS ⟨(by rw [hinv, hF]), rfl, rfl⟩ (Nat.le_of_ble_eq_true rfl) (Nat.le_of_ble_eq_true rfl) dX5_ofSign_30
  exact K9 _ 0 (Nat.zero_le _) rfl (Nat.lt_succ_self _) _ _ _ hW hS (lv_sub hl [3, 2, 1, 0] rfl)

set_option maxHeartbeats 4000000 in
set_option maxRecDepth 100000 in
theorem kX5_withLetter (l : Launch) (E : q_E) (f : q_H) (n : Nat) (w : Int64) (x : Int32)  : Met l yX5_withLetter wsX5_withLetter ({ frames := 0, cells := 0, slots := 0, locals := 0 }) (q_P E [.long w, .int x] f n) (q_Ql E (fun r f1 n1 => w * 32 + (x - 97 + 1).toInt64 = r ∧ f = f1 ∧ n = n1)) 0 0 (q_ge E) := by
  refine Met.ofW (cc := cX5_withLetter) (maxL := 3) (ret := (some .long)) (by decide) rfl ?_
  intro p e s m args below meth c s₁ B hml hv
  obtain ⟨rfl, hA, hW⟩ := hv
  have hx := B.exec
  have hb := B.bytes
  have hr := B.returns
  have hts := atoms_spec (ws := wsX5_withLetter) B.pre
  have hown : s.vm.findClass RX5 = some m.cls := findClass_of_methodNamed B.named
  have hlocks := B.notSynchronized
  have hS : va_S (q_ge E) s.heap s.heap [] := va_S.rf
  have hl := lv_entry ([.long w, .int x]) (n := 3) (Nat.le_of_ble_eq_true rfl)
  rw [lg_entry_eq]
  generalize (lg_sl ([.long w, .int x]) ++ List.replicate (3 - (lg_sl ([.long w, .int x])).length) Slot.unset).toArray = ls at hl ⊢
  have hl : lv_has ls 3 [(0, .long w), (2, .int x)] := hl
  refine lv_lload_n hx hb dX5_withLetter_0 rfl (lv_at hl 0 rfl) ?_
  refine lv_ldc2 hx hb hown (hts (.constantLong RX5 174 (32)) (by decide +kernel)) dX5_withLetter_1 ?_
  refine lv_lmul hx hb dX5_withLetter_4 ?_
  refine lv_iload_n hx hb dX5_withLetter_5 rfl (lv_at hl 1 rfl) ?_
  refine lv_bipush (v := 97) hx hb dX5_withLetter_6 (by decide) ?_
  refine lv_isub hx hb dX5_withLetter_8 ?_
  refine lv_iconst (v := 1) hx hb dX5_withLetter_9 (by decide) ?_
  refine lv_iadd hx hb dX5_withLetter_10 ?_
  refine lv_i2l hx hb dX5_withLetter_11 rfl ?_
  refine lv_ladd hx hb dX5_withLetter_12 ?_
  exact q_lret hx hb hr hlocks hW hS ⟨rfl, rfl, rfl⟩ (Nat.le_of_ble_eq_true rfl) (Nat.le_of_ble_eq_true rfl) dX5_withLetter_13

