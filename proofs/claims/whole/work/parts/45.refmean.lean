section QDR
variable {p : Program} {l : Launch} {e : Env} {R : Room} {s : State} {m : MethodId} {args : Array Value} {below : List Frame} {meth : Method} {c : Code} {H : Heap} {locs : List Loc} {cells slots : Nat}
variable {cc : ByteArray} {pc : Nat} {ls : Array Slot} {E : q_E} {f : q_H} {n mc ms : Nat}
theorem q_dret {post : UInt64 → q_H → Nat → Prop} (hx : p.tables.exec = Jvm.exec) (hb : c.code = cc) (hr : meth.sig.returnType = some .double) (hlocks : meth.locks = false) (hW : q_W E f n H) (hS : va_S (q_ge E) s.heap H locs) {v : UInt64} (hp : post v f n) (h1 : cells ≤ mc) (h2 : slots ≤ ms) (hdg : decode cc pc = .ok (.dreturn, 1)) : W p l e R s m args below meth c H locs cells slots (MQ below (q_Qd E post) args s mc ms (q_ge E)) (F0 m pc ls [.double v]) :=
  W.widen h1 h2 (W.dret hx hb hr (fun t ht _ => ⟨⟨v, (f, n), rfl, hp, by show q_W E f n t.heap; rw [ht]; exact hW⟩, hS.F ht⟩) hS.2.2 hdg hlocks)
end QDR
def z_sum (v : q_V) : Nat → Int32
  | 0 => 0
  | j + 1 => z_sum v j + v (54 + 4 * j)
def z_mean (v : q_V) (pn : Nat) : UInt64 := if pn = 0 then FP.dconst0 else FP.ddiv (FP.i2d (z_sum v pn)) (FP.i2d (nI pn))
theorem z_nn {x y : Int32} (h : y ≠ 0) : vf_n64 (FP.ddiv (FP.i2d x) (FP.i2d y)) := by
  sorry

set_option maxHeartbeats 4000000 in
set_option maxRecDepth 100000 in
theorem kX14_meanHeat (l : Launch) (E : q_E) (f : q_H) (n : Nat) (M : Nat) (r : q_R) (pn : Nat)  (hm : RM E f M r) (hpn9 : (r 120 0) = nI pn) (hpn : pn ≤ 8) : Met l yX14_meanHeat wsX14_meanHeat ({ frames := 1, cells := 0, slots := 0, locals := 21 }) (q_P E [.ref M] f n) (q_Qd E (fun r0 f1 n1 => z_mean (r 42) pn = r0 ∧ rO E f M (rp r 100 (fun _ => 0)) = f1 ∧ n = n1)) 0 0 (q_ge E) := by
  refine Met.ofW (cc := cX14_meanHeat) (maxL := 3) (ret := (some .double)) (by decide) rfl ?_
  intro p e s m args below meth c s₁ B hml hv
  obtain ⟨rfl, hA, hW⟩ := hv
  have hx := B.exec
  have hb := B.bytes
  have hr := B.returns
  have hts := atoms_spec (ws := wsX14_meanHeat) B.pre
  have hown : s.vm.findClass RX14 = some m.cls := findClass_of_methodNamed B.named
  have hlocks := B.notSynchronized
  have hS : va_S (q_ge E) s.heap s.heap [] := va_S.rf
  have iX13 : ∀ w ∈ wsX130, w ∈ wsX14_meanHeat := by decide +kernel
  have iX14 : ∀ w ∈ wsX140, w ∈ wsX14_meanHeat := by decide +kernel
  have hl := lv_entry ([.ref M]) (n := 3) (Nat.le_of_ble_eq_true rfl)
  rw [lg_entry_eq]
  generalize (lg_sl ([.ref M]) ++ List.replicate (3 - (lg_sl ([.ref M])).length) Slot.unset).toArray = ls at hl ⊢
  have hl : lv_has ls 3 [(0, .ref M)] := hl
  have hmE := hm.eq
  rw [hm.eq] at hW
  refine lv_aload_n hx hb dX14_meanHeat_0 rfl (lv_at hl 0 rfl) ?_
  refine lv_iconst (v := 0) hx hb dX14_meanHeat_1 (by decide) ?_
  refine q_put hx hb hts hown hA hW hS iX14 tyX14 tyX14_ok nmX14 rO_0 rfl 0 (by decide) (hts (.fieldLink RX14 54 "HighRecipesModel" "thrown" "I") (by decide +kernel)) (fun _ h9 => h9) rfl rfl rfl (Nat.le_of_ble_eq_true rfl) dX14_meanHeat_2 (fun H locs hW hS => ?_)
  have hW := q_s0 100 (0) hW rfl (by decide)
  refine lv_iconst (v := 0) hx hb dX14_meanHeat_5 (by decide) ?_
  refine lv_istore_n (lv' := [(1, .int 0), (0, .ref M)]) hx hb dX14_meanHeat_6 rfl hl (by decide) rfl (fun ls hl => ?_)
  refine lv_iconst (v := 0) hx hb dX14_meanHeat_7 (by decide) ?_
  refine lv_istore_n (lv' := [(2, .int 0), (1, .int 0), (0, .ref M)]) hx hb dX14_meanHeat_8 rfl hl (by decide) rfl (fun ls hl => ?_)
  have K9 : ∀ (fu : Nat) (j : Nat) (hj : j ≤ pn) (hm : pn - j < fu) (H : Heap) (locs : List Loc) (ls : Array Slot), q_W E (rO E f M (rp r 100 (fun _ => 0))) n H → va_S (q_ge E) s.heap H locs → lv_has ls 3 [(0, .ref M), (1, .int (z_sum (r 42) j)), (2, .int (nI j))] → W p l e (headSpec wsX14_meanHeat ({ frames := 1, cells := 0, slots := 0, locals := 21 })).room s m ([.ref M] : List Value).toArray below meth c H locs 0 0 (MQ below (q_Qd E (fun r0 f1 n1 => z_mean (r 42) pn = r0 ∧ rO E f M (rp r 100 (fun _ => 0)) = f1 ∧ n = n1)) ([.ref M] : List Value).toArray s 0 0 (q_ge E)) (F0 m 9 ls []) := by
    intro fu
    induction fu with
    | zero =>
      intro j hj hm
      exact absurd hm (Nat.not_lt_zero _)
    | succ fu ih =>
      intro j hj hm H locs ls hW hS hl
      refine lv_iload_n hx hb dX14_meanHeat_9 rfl (lv_at hl 2 rfl) ?_
      refine lv_aload_n hx hb dX14_meanHeat_10 rfl (lv_at hl 0 rfl) ?_
      refine q_get hx hb hts hown hA hW iX14 rO_0 rfl 17 (by decide) (hts (.fieldLink RX14 38 "HighRecipesModel" "told" "LHighRecipesModel$Book;") (by decide +kernel)) (fun _ h9 => h9) (v := .ref (M + 8)) rfl dX14_meanHeat_11 ?_
      refine q_getN hx hb hts hown hA hW iX13 rO_8 rfl 0 (by decide) (va_Nw.use rfl (hA.2.2.2.1 ("HighRecipesModel", 150, "HighRecipesModel$Book", "pans", "I", "HighRecipesModel") (by decide +kernel))) (fun _ h9 => h9) (v := .int (nI pn)) (congrArg (fun z => some (Value.int z)) hpn9) dX14_meanHeat_14 ?_
      refine lv_icmp_ge (tgt := 39) hx hb dX14_meanHeat_17 (by decide) (fun c_17 => ?_) (fun c_17 => ?_)
      · have ej : j = pn := by rcases Nat.lt_or_ge j pn with h9 | h9; exact absurd c_17 (nI_ge h9 (by omega)); omega
        rw [ej] at hl
        refine lv_aload_n hx hb dX14_meanHeat_39 rfl (lv_at hl 0 rfl) ?_
        refine q_get hx hb hts hown hA hW iX14 rO_0 rfl 17 (by decide) (hts (.fieldLink RX14 38 "HighRecipesModel" "told" "LHighRecipesModel$Book;") (by decide +kernel)) (fun _ h9 => h9) (v := .ref (M + 8)) rfl dX14_meanHeat_40 ?_
        refine q_getN hx hb hts hown hA hW iX13 rO_8 rfl 0 (by decide) (va_Nw.use rfl (hA.2.2.2.1 ("HighRecipesModel", 150, "HighRecipesModel$Book", "pans", "I", "HighRecipesModel") (by decide +kernel))) (fun _ h9 => h9) (v := .int (nI pn)) (congrArg (fun z => some (Value.int z)) hpn9) dX14_meanHeat_43 ?_
        refine lv_if_ne (tgt := 53) hx hb dX14_meanHeat_46 (by decide) (fun c_46 => ?_) (fun c_46 => ?_)
        · have e0 : ¬ pn = 0 := fun h9 => c_46 (by rw [h9]; rfl)
          refine lv_iload_n hx hb dX14_meanHeat_53 rfl (lv_at hl 1 rfl) ?_
          refine lv_i2d hx hb dX14_meanHeat_54 ?_
          refine lv_aload_n hx hb dX14_meanHeat_55 rfl (lv_at hl 0 rfl) ?_
          refine q_get hx hb hts hown hA hW iX14 rO_0 rfl 17 (by decide) (hts (.fieldLink RX14 38 "HighRecipesModel" "told" "LHighRecipesModel$Book;") (by decide +kernel)) (fun _ h9 => h9) (v := .ref (M + 8)) rfl dX14_meanHeat_56 ?_
          refine q_getN hx hb hts hown hA hW iX13 rO_8 rfl 0 (by decide) (va_Nw.use rfl (hA.2.2.2.1 ("HighRecipesModel", 150, "HighRecipesModel$Book", "pans", "I", "HighRecipesModel") (by decide +kernel))) (fun _ h9 => h9) (v := .int (nI pn)) (congrArg (fun z => some (Value.int z)) hpn9) dX14_meanHeat_59 ?_
          refine lv_i2d hx hb dX14_meanHeat_62 ?_
          refine lv_ddiv hx hb dX14_meanHeat_63 (z_nn c_46) ?_
          exact q_dret hx hb hr hlocks hW hS ⟨(if_neg e0), rfl, rfl⟩ (Nat.le_of_ble_eq_true rfl) (Nat.le_of_ble_eq_true rfl) dX14_meanHeat_64
        · have e0 : pn = 0 := (nI_eq (b := 0) (by omega) (by decide)).1 c_46
          refine lv_dconst0 hx hb dX14_meanHeat_49 ?_
          refine lv_goto (tgt := 64) hx hb dX14_meanHeat_50 (by decide) ?_
          exact q_dret hx hb hr hlocks hW hS ⟨(if_pos e0), rfl, rfl⟩ (Nat.le_of_ble_eq_true rfl) (Nat.le_of_ble_eq_true rfl) dX14_meanHeat_64
      · have hlt : j < pn := by rcases Nat.lt_or_ge j pn with h9 | h9; exact h9; exact absurd (nI_le h9 (by omega)) c_17
        refine lv_iload_n hx hb dX14_meanHeat_20 rfl (lv_at hl 1 rfl) ?_
        refine lv_aload_n hx hb dX14_meanHeat_21 rfl (lv_at hl 0 rfl) ?_
        refine q_get hx hb hts hown hA hW iX14 rO_0 rfl 19 (by decide) (hts (.fieldLink RX14 45 "HighRecipesModel" "now" "[I") (by decide +kernel)) (fun _ h9 => h9) (v := .ref (M + 42)) rfl dX14_meanHeat_22 ?_
        refine lv_iload_n hx hb dX14_meanHeat_25 rfl (lv_at hl 2 rfl) ?_
        refine lv_iconst (v := 2) hx hb dX14_meanHeat_26 (by decide) ?_
        refine q_ci (va_runS (As := [.int (nI j), .int 2]) (rest := [.ref (M + 42), .int (z_sum (r 42) j)]) ⟨hx, hb, hml, hown, hts⟩ (kX14_of_2 l E (rO E f M (rp r 100 (fun _ => 0))) n j) (va_cwS 2 hts gX14_meanHeat_X14_of rfl rfl rfl (by decide +kernel) ⟨(Nat.le_of_ble_eq_true rfl), (Nat.le_of_ble_eq_true rfl)⟩) (q_pS hA hW hS) rfl rfl hl.1 rfl (lv_room (Nat.le_of_ble_eq_true rfl)) dX14_meanHeat_27 ⟨Nat.le_of_ble_eq_true rfl, Nat.le_of_ble_eq_true rfl⟩) hS (fun r_27 f_27 n_27 H locs hp hW hS => ?_)
        obtain ⟨rfl, rfl, rfl⟩ := hp
        have hW : q_W E (rO E f M (rp r 100 (fun _ => 0))) n H := hW
        refine q_ald hx hb hA hW (rO_42 (g := r 42) rfl) (54 + 4 * j) rfl (by omega) (by decide) (x := (r 42) (54 + 4 * j)) rfl dX14_meanHeat_30 ?_
        refine lv_iadd hx hb dX14_meanHeat_31 ?_
        refine lv_istore_n (lv' := [(1, .int ((z_sum (r 42) j) + ((r 42) (54 + 4 * j)))), (0, .ref M), (2, .int (nI j))]) hx hb dX14_meanHeat_32 rfl hl (by decide) rfl (fun ls hl => ?_)
        refine lv_iinc (v := nI (j + 1)) (lv' := [(2, .int (nI (j + 1))), (1, .int ((z_sum (r 42) j) + ((r 42) (54 + 4 * j)))), (0, .ref M)]) hx hb dX14_meanHeat_33 hl (k := 2) rfl (nI_1 j) (by decide) rfl (fun ls hl => ?_)
        refine lv_goto (tgt := 9) hx hb dX14_meanHeat_36 (by decide) ?_
        exact ih (j + 1) hlt (by omega) _ _ _ hW hS (lv_sub hl [2, 1, 0] rfl)
  exact K9 _ 0 (Nat.zero_le _) (Nat.lt_succ_self _) _ _ _ hW hS (lv_sub hl [2, 1, 0] rfl)
