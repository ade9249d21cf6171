/-! is all as by hand -/
theorem cmp_rf (a : Int) : compare a a = Ordering.eq := by
  show (if a < a then Ordering.lt else if a = a then Ordering.eq else Ordering.gt) = Ordering.eq
  rw [if_neg (Int.lt_irrefl a), if_pos rfl]
theorem nn_dec {x : UInt64} (h : vf_n64 x) : FP.Core.decode FP.Core.b64 x.toNat ≠ .nan := by
  have hx : x.toNat < 2 ^ 64 := x.toNat_lt
  unfold vf_n64 at h
  rw [UInt64.le_iff_toNat_le, UInt64.toNat_and, show (0x7fffffffffffffff : UInt64).toNat = 2 ^ 63 - 1 from rfl, show (0x7ff0000000000000 : UInt64).toNat = 2047 * 2 ^ 52 from rfl, Nat.and_two_pow_sub_one_eq_mod] at h
  exact fl_dec (N := x.toNat) (S := x.toNat / 2 ^ 63) (E := x.toNat / 2 ^ 52 % 2048) (T := x.toNat % 2 ^ 52) ⟨by omega, by omega, by omega, by omega⟩ (fun h9 => by omega)
theorem dcmp_rf {x : UInt64} (h : vf_n64 x) : FP.dcmp x x = some Ordering.eq := by
  have hd := nn_dec h
  show FP.Core.order (FP.Core.decode FP.Core.b64 x.toNat) (FP.Core.decode FP.Core.b64 x.toNat) = _
  generalize FP.Core.decode FP.Core.b64 x.toNat = d at hd ⊢
  cases d with
  | nan => exact absurd rfl hd
  | inf s => exact congrArg some (cmp_rf _)
  | fin s c q => exact congrArg some (cmp_rf _)
theorem cmpv_rf {x : UInt64} {op : CmpOp} (h : vf_n64 x) : Op.cmpValue (FP.dcmp x x) op = 0 := by rw [dcmp_rf h]; rfl
theorem mean_nn {v : q_V} {pn : Nat} (h1 : 1 ≤ pn) (h2 : pn ≤ 8) : vf_n64 (z_mean v pn) := by
  unfold z_mean
  rw [if_neg (by omega)]
  exact z_nn (nI_ne (b := 0) (by omega) (by decide) (by omega))
/-- what of an act matters for how many there are -/
theorem LACT.many {E : q_E} {pn R : Nat} {RS : Nat → q_S} {P : Nat → Prop} {f : q_H} {d : Nat} {x : LT} (h : LACT E pn R RS P f (d + 1) x) : ∃ do_ wh va sg on ot b el L, f x.1 = some (cLA do_ wh va (some sg) (some on) (some ot) (some b) el) ∧ LB P E f (LACT E pn R RS P f d) b L ∧ ((el = none ∧ x.2.2.2 = bC L) ∨ ∃ b2 L2, el = some b2 ∧ LB P E f (LACT E pn R RS P f d) b2 L2 ∧ x.2.2.2 = bC L + bC L2) := by
  obtain ⟨hp, do_, wh, va, sg, on, ot, b, el, e, hc⟩ := h
  have lb0 : LB P E f (fun _ => False) b [] → LB P E f (LACT E pn R RS P f d) b [] := fun z => LB.to (fun q hq => ⟨hq, rfl⟩) (fun x hx => hx.elim) z
  rcases hc with ⟨t, i, y, D, W, a1, a2, a3, a4, a5, a6, a7, a8, a9⟩ | ⟨i, y, D, W, a2, a3, a4, a5, a6, a7, a8, a9⟩ | ⟨i, y, D, W, a2, a3, a4, a5, a6, a7, a8, a9⟩ | ⟨i, a2, a3, a4, a5, a6, a8, a9⟩ | ⟨i, y, D, W, a2, a3, a4, a5, a6, a7, a8, a9⟩ | ⟨i, y, D, W, a2, a3, a4, a5, a6, a7, a8, a9⟩ | ⟨i, a2, a3, a4, a5, a6, a8, a9⟩ | ⟨i, y, D, W, L, a2, a3, a4, a5, a6, a7, a8, a9⟩ | ⟨i, L, C, a2, a3, a4, a5, a6, a7, a8, a9, a10⟩
  · exact ⟨_, _, _, _, _, _, _, _, _, e, lb0 a8, Or.inl ⟨a6, by rw [a9]; rfl⟩⟩
  · exact ⟨_, _, _, _, _, _, _, _, _, e, lb0 a8, Or.inl ⟨a6, by rw [a9]; rfl⟩⟩
  · exact ⟨_, _, _, _, _, _, _, _, _, e, lb0 a8, Or.inl ⟨a6, by rw [a9]; rfl⟩⟩
  · exact ⟨_, _, _, _, _, _, _, _, _, e, lb0 a8, Or.inl ⟨a6, by rw [a9]; rfl⟩⟩
  · exact ⟨_, _, _, _, _, _, _, _, _, e, lb0 a8, Or.inl ⟨a6, by rw [a9]; rfl⟩⟩
  · exact ⟨_, _, _, _, _, _, _, _, _, e, lb0 a8, Or.inl ⟨a6, by rw [a9]; rfl⟩⟩
  · exact ⟨_, _, _, _, _, _, _, _, _, e, lb0 a8, Or.inl ⟨a6, by rw [a9]; rfl⟩⟩
  · exact ⟨_, _, _, _, _, _, _, _, _, e, a8, Or.inl ⟨a6, by rw [a9]⟩⟩
  · rcases a10 with ⟨c1, c2⟩ | ⟨b2, L2, c1, c2, c3⟩
    · exact ⟨_, _, _, _, _, _, _, _, _, e, a9, Or.inl ⟨c1, by rw [c2]⟩⟩
    · exact ⟨_, _, _, _, _, _, _, _, _, e, a9, Or.inr ⟨b2, L2, c1, c2, by rw [c3]⟩⟩

theorem k_inv.v5 {B : Nat} {v : q_V} (h : k_inv B (v, 0, (-1))) : v 5 = nI (k_N v) := h.2.2.1
/-- the acts of the recipes, of the arrays as they stand -/
theorem JA.cnts {E : q_E} {a c nb r k : Nat} {s : Int32} {X : Nat → Prop} {f : q_H} {n BB pn NR : Nat} {ac : Int32} {hd vm vk : q_V} {RS : Nat → q_S} (h : JA E a c nb r k s X f n BB pn NR ac hd vm vk RS) {al se sp mi nn be fi : Int32} {pa9 ki9 wa9 no9 : Option Nat} {re9 : Nat} {gre9 : Nat → Option Nat} (hk9 : f k = some (cLK al se sp mi pa9 (some re9) ki9 wa9 no9 nn be fi)) (hre9 : f re9 = some (aQ E 9 NR gre9)) : ∃ (P : Nat → Prop) (cnt : Nat → Nat), (∀ o, o < NR → ∃ b L, gre9 o = some b ∧ LB P E f (LACT E pn o RS P f 4) b L ∧ bC L = cnt o ∧ bC L ≤ 20) ∧ ac = nI (psum cnt NR) := by
  obtain ⟨Qm, Qw, P, pa, re, ki, wa, no, pr, b, w, L, g, cnt, hM, ⟨BBw, gw, pnw, rcw, acw, hdw, vw, RSw, hWm⟩, hK, hs, hR, hO, hr, ⟨n1_, n2_, n3_, n4_, n5_⟩, ⟨x1_, x2_, x3_⟩, ⟨y1_, y2_, y3_⟩, hgm, hgk, ⟨d1_, d2_, d3_, d4_, rfl⟩, hcn, hac⟩ := h
  have e := hk9.symm.trans hK.1
  obtain ⟨gre, e1, e2, e3⟩ := hcn
  have e4 : re9 = re := by
    injection e with e
    injection e with e
    injection e with _ e
    injection e with _ e
    injection e with _ e
    injection e with _ e
    injection e with _ e
    injection e with _ e
    injection e with e _
    injection e with e
  subst e4
  have e5 := hre9.symm.trans e2
  have e6 : gre9 = gre := by
    have h9 : aQ E 9 NR gre9 = aQ E 9 NR gre := Option.some.inj e5
    have h8 := Sum.inl.inj h9
    have h7 := (Prod.mk.inj h8).2
    have h6 := (Prod.mk.inj h7).2
    exact Sum.inr.inj (Sum.inr.inj (Sum.inr.inj (Sum.inr.inj h6)))
  subst e6
  exact ⟨P, cnt, e3, hac⟩

set_option maxHeartbeats 4000000 in
set_option maxRecDepth 100000 in
theorem kX13_many_0 (l : Launch) (E : q_E) (f : q_H) (n : Nat) (b pn R : Nat) (RS : Nat → q_S) (P : Nat → Prop) (L : List LT)  (hL : LB P E f (LACT E pn R RS P f 0) b L) (hc : bC L ≤ 20) : Met l yX13_many wsX13_many ({ frames := 1, cells := 0, slots := 0, locals := 20 }) (q_P E [.ref b] f n) (q_Qi E (fun r f1 n1 => nI (bC L) = r ∧ f = f1 ∧ n = n1)) 0 0 (q_ge E) := by
  refine Met.ofW (cc := cX13_many) (maxL := 6) (ret := (some .int)) (by decide) rfl ?_
  intro p0_ e0_ s0_ m0_ args0_ below0_ meth0_ c0_ s1_ B0_ hml hv
  obtain ⟨rfl, hA, hW⟩ := hv
  have hx := B0_.exec
  have hb := B0_.bytes
  have hr := B0_.returns
  have hts := atoms_spec (ws := wsX13_many) B0_.pre
  have hown : s0_.vm.findClass RX13 = some m0_.cls := findClass_of_methodNamed B0_.named
  have hlocks := B0_.notSynchronized
  have hS : va_S (q_ge E) s0_.heap s0_.heap [] := va_S.rf
  have hl := lv_entry ([.ref b]) (n := 6) (Nat.le_of_ble_eq_true rfl)
  rw [lg_entry_eq]
  generalize (lg_sl ([.ref b]) ++ List.replicate (6 - (lg_sl ([.ref b])).length) Slot.unset).toArray = ls at hl ⊢
  have hl : lv_has ls 6 [(0, .ref b)] := hl
  have h1 := hL.2.1
  have hm := bC_len L
  refine lv_iconst (v := 0) hx hb dX13_many_0 (by decide) ?_
  refine lv_istore_n (lv' := [(1, .int 0), (0, .ref b)]) hx hb dX13_many_1 rfl hl (by decide) rfl (fun ls hl => ?_)
  refine lv_aload_n hx hb dX13_many_2 rfl (lv_at hl 1 rfl) ?_
  refine lv_astore_n (lv' := [(2, .ref b), (1, .int 0), (0, .ref b)]) hx hb dX13_many_3 rfl hl (by decide) rfl (fun ls hl => ?_)
  refine lv_aload_n hx hb dX13_many_4 rfl (lv_at hl 0 rfl) ?_
  refine q_alen hx hb hA hW 6 rfl h1 (v := nI L.length) rfl dX13_many_5 ?_
  refine lv_istore_n (lv' := [(3, .int (nI L.length)), (2, .ref b), (1, .int 0), (0, .ref b)]) hx hb dX13_many_6 rfl hl (by decide) rfl (fun ls hl => ?_)
  refine lv_iconst (v := 0) hx hb dX13_many_7 (by decide) ?_
  refine lv_istore (lv' := [(4, .int 0), (3, .int (nI L.length)), (2, .ref b), (1, .int 0), (0, .ref b)]) hx hb dX13_many_8 hl (by decide) rfl (fun ls hl => ?_)
  have K10 : ∀ (fu : Nat) (i : Nat) (hi : i ≤ L.length) (hm : L.length - i < fu) (H : Heap) (locs : List Loc) (ls : Array Slot), q_W E (f) n H → va_S (q_ge E) s0_.heap H locs → lv_has ls 6 [(0, .ref b), (1, .int (nI (bC (L.take i)))), (2, .ref b), (3, .int (nI L.length)), (4, .int (nI i))] → W p0_ l e0_ (headSpec wsX13_many ({ frames := 1, cells := 0, slots := 0, locals := 20 })).room s0_ m0_ ([.ref b] : List Value).toArray below0_ meth0_ c0_ H locs 0 0 (MQ below0_ (q_Qi E (fun r f1 n1 => nI (bC L) = r ∧ f = f1 ∧ n = n1)) ([.ref b] : List Value).toArray s0_ 0 0 (q_ge E)) (F0 m0_ 10 ls []) := by
    intro fu
    induction fu with
    | zero =>
      intro i hi hm
      exact absurd hm (Nat.not_lt_zero _)
    | succ fu ih =>
      intro i hi hm H locs ls hW hS hl
      refine lv_iload hx hb dX13_many_10 (lv_at hl 4 rfl) ?_
      refine lv_iload_n hx hb dX13_many_12 rfl (lv_at hl 3 rfl) ?_
      refine lv_icmp_ge (tgt := 62) hx hb dX13_many_13 (by decide) (fun c_13 => ?_) (fun c_13 => ?_)
      · have hle : i = L.length := Nat.le_antisymm hi (q_leN (by omega) c_13)
        refine lv_iload_n hx hb dX13_many_62 rfl (lv_at hl 1 rfl) ?_
        exact q_iret hx hb hr hlocks hW hS ⟨(by rw [hle, List.take_length]), rfl, rfl⟩ (Nat.le_of_ble_eq_true rfl) (Nat.le_of_ble_eq_true rfl) dX13_many_63
      · have hlt : i < L.length := q_gtn (by omega) c_13
        obtain ⟨x, hxi⟩ : ∃ x, L[i]? = some x := ⟨_, List.getElem?_eq_getElem hlt⟩
        have hxA := hL.2.2 x (List.mem_of_getElem? hxi)
        have hbc : bC (L.take (i + 1)) = bC (L.take i) + 1 + x.2.2.2 := by rw [take_s hxi, bC_app]
        have hbl := bC_take (L := L) (i + 1)
        exact hxA.elim
  exact K10 _ 0 (Nat.zero_le _) (Nat.lt_succ_self _) _ _ _ hW hS (lv_sub hl [4, 3, 2, 1, 0] rfl)

set_option maxHeartbeats 4000000 in
set_option maxRecDepth 100000 in
theorem kX13_many_1 (l : Launch) (E : q_E) (f : q_H) (n : Nat) (b pn R : Nat) (RS : Nat → q_S) (P : Nat → Prop) (L : List LT)  (hL : LB P E f (LACT E pn R RS P f 1) b L) (hc : bC L ≤ 20) : Met l yX13_many wsX13_many ({ frames := 3, cells := 0, slots := 0, locals := 60 }) (q_P E [.ref b] f n) (q_Qi E (fun r f1 n1 => nI (bC L) = r ∧ f = f1 ∧ n = n1)) 0 0 (q_ge E) := by
  refine Met.ofW (cc := cX13_many) (maxL := 6) (ret := (some .int)) (by decide) rfl ?_
  intro p0_ e0_ s0_ m0_ args0_ below0_ meth0_ c0_ s1_ B0_ hml hv
  obtain ⟨rfl, hA, hW⟩ := hv
  have hx := B0_.exec
  have hb := B0_.bytes
  have hr := B0_.returns
  have hts := atoms_spec (ws := wsX13_many) B0_.pre
  have hown : s0_.vm.findClass RX13 = some m0_.cls := findClass_of_methodNamed B0_.named
  have hlocks := B0_.notSynchronized
  have hS : va_S (q_ge E) s0_.heap s0_.heap [] := va_S.rf
  have iX13 : ∀ w ∈ wsX130, w ∈ wsX13_many := by decide +kernel
  have hl := lv_entry ([.ref b]) (n := 6) (Nat.le_of_ble_eq_true rfl)
  rw [lg_entry_eq]
  generalize (lg_sl ([.ref b]) ++ List.replicate (6 - (lg_sl ([.ref b])).length) Slot.unset).toArray = ls at hl ⊢
  have hl : lv_has ls 6 [(0, .ref b)] := hl
  have h1 := hL.2.1
  have hm := bC_len L
  refine lv_iconst (v := 0) hx hb dX13_many_0 (by decide) ?_
  refine lv_istore_n (lv' := [(1, .int 0), (0, .ref b)]) hx hb dX13_many_1 rfl hl (by decide) rfl (fun ls hl => ?_)
  refine lv_aload_n hx hb dX13_many_2 rfl (lv_at hl 1 rfl) ?_
  refine lv_astore_n (lv' := [(2, .ref b), (1, .int 0), (0, .ref b)]) hx hb dX13_many_3 rfl hl (by decide) rfl (fun ls hl => ?_)
  refine lv_aload_n hx hb dX13_many_4 rfl (lv_at hl 0 rfl) ?_
  refine q_alen hx hb hA hW 6 rfl h1 (v := nI L.length) rfl dX13_many_5 ?_
  refine lv_istore_n (lv' := [(3, .int (nI L.length)), (2, .ref b), (1, .int 0), (0, .ref b)]) hx hb dX13_many_6 rfl hl (by decide) rfl (fun ls hl => ?_)
  refine lv_iconst (v := 0) hx hb dX13_many_7 (by decide) ?_
  refine lv_istore (lv' := [(4, .int 0), (3, .int (nI L.length)), (2, .ref b), (1, .int 0), (0, .ref b)]) hx hb dX13_many_8 hl (by decide) rfl (fun ls hl => ?_)
  have K10 : ∀ (fu : Nat) (i : Nat) (hi : i ≤ L.length) (hm : L.length - i < fu) (H : Heap) (locs : List Loc) (ls : Array Slot), q_W E (f) n H → va_S (q_ge E) s0_.heap H locs → lv_has ls 6 [(0, .ref b), (1, .int (nI (bC (L.take i)))), (2, .ref b), (3, .int (nI L.length)), (4, .int (nI i))] → W p0_ l e0_ (headSpec wsX13_many ({ frames := 3, cells := 0, slots := 0, locals := 60 })).room s0_ m0_ ([.ref b] : List Value).toArray below0_ meth0_ c0_ H locs 0 0 (MQ below0_ (q_Qi E (fun r f1 n1 => nI (bC L) = r ∧ f = f1 ∧ n = n1)) ([.ref b] : List Value).toArray s0_ 0 0 (q_ge E)) (F0 m0_ 10 ls []) := by
    intro fu
    induction fu with
    | zero =>
      intro i hi hm
      exact absurd hm (Nat.not_lt_zero _)
    | succ fu ih =>
      intro i hi hm H locs ls hW hS hl
      refine lv_iload hx hb dX13_many_10 (lv_at hl 4 rfl) ?_
      refine lv_iload_n hx hb dX13_many_12 rfl (lv_at hl 3 rfl) ?_
      refine lv_icmp_ge (tgt := 62) hx hb dX13_many_13 (by decide) (fun c_13 => ?_) (fun c_13 => ?_)
      · have hle : i = L.length := Nat.le_antisymm hi (q_leN (by omega) c_13)
        refine lv_iload_n hx hb dX13_many_62 rfl (lv_at hl 1 rfl) ?_
        exact q_iret hx hb hr hlocks hW hS ⟨(by rw [hle, List.take_length]), rfl, rfl⟩ (Nat.le_of_ble_eq_true rfl) (Nat.le_of_ble_eq_true rfl) dX13_many_63
      · have hlt : i < L.length := q_gtn (by omega) c_13
        obtain ⟨x, hxi⟩ : ∃ x, L[i]? = some x := ⟨_, List.getElem?_eq_getElem hlt⟩
        have hxA := hL.2.2 x (List.mem_of_getElem? hxi)
        have hbc : bC (L.take (i + 1)) = bC (L.take i) + 1 + x.2.2.2 := by rw [take_s hxi, bC_app]
        have hbl := bC_take (L := L) (i + 1)
        obtain ⟨do9, wh9, va9, sg9, on9, ot9, b9, el9, L9, hcx, hL9, hel⟩ := hxA.many
        refine lv_aload_n hx hb dX13_many_16 rfl (lv_at hl 2 rfl) ?_
        refine lv_iload hx hb dX13_many_17 (lv_at hl 4 rfl) ?_
        refine q_aald hx hb hA hW 6 rfl h1 (vp_in_nI hlt (by omega)) dX13_many_19 ?_
        rw [show lf L (nI i).toNatClampNeg = some x.1 from by rw [nI_clamp (by omega)]; unfold lf; rw [hxi]; rfl]
        rcases hel with ⟨rfl, hx9⟩ | ⟨b92, L92, rfl, hL92, hx9⟩
        · have hb9 : bC L9 ≤ 20 := by omega
          refine lv_astore (lv' := [(5, .ref x.1), (0, .ref b), (1, .int (nI (bC (L.take i)))), (2, .ref b), (3, .int (nI L.length)), (4, .int (nI i))]) hx hb dX13_many_20 hl (by decide) rfl (fun ls hl => ?_)
          refine lv_iload_n hx hb dX13_many_22 rfl (lv_at hl 2 rfl) ?_
          refine lv_iconst (v := 1) hx hb dX13_many_23 (by decide) ?_
          refine lv_aload hx hb dX13_many_24 (lv_at hl 0 rfl) ?_
          refine q_get hx hb hts hown hA hW iX13 hcx rfl 6 (by decide) (hts (.fieldLink RX13 22 "HighRecipesLaw$Act" "block" "[LHighRecipesLaw$Act;") (by decide +kernel)) (fun _ h9 => h9) (v := .ref b9) rfl dX13_many_26 ?_
          refine q_ci (va_runS (As := [.ref b9]) (rest := [.int 1, .int (nI (bC (L.take i)))]) ⟨hx, hb, hml, hown, hts⟩ (kX13_many_0 l E f n b9 pn R RS P L9 hL9 hb9) (va_cwS 1 hts gX13_many_X13_many rfl rfl rfl (by decide +kernel) ⟨(Nat.le_of_ble_eq_true rfl), (Nat.le_of_ble_eq_true rfl)⟩) (q_pS hA hW hS) rfl rfl hl.1 rfl (lv_room (Nat.le_of_ble_eq_true rfl)) dX13_many_29 ⟨(Nat.le_of_ble_eq_true rfl), (Nat.le_of_ble_eq_true rfl)⟩) hS (fun r_29 f_29 n_29 H locs hp hW hS => ?_)
          obtain ⟨rfl, rfl, rfl⟩ := hp
          have hW : q_W E (f) n H := hW
          refine lv_iadd hx hb dX13_many_32 ?_
          rw [show 1 + nI (bC L9) = nI (1 + bC L9) from nI_add 1 _]
          refine lv_aload hx hb dX13_many_33 (lv_at hl 0 rfl) ?_
          refine q_get hx hb hts hown hA hW iX13 hcx rfl 7 (by decide) (hts (.fieldLink RX13 58 "HighRecipesLaw$Act" "other" "[LHighRecipesLaw$Act;") (by decide +kernel)) (fun _ h9 => h9) (v := .null) rfl dX13_many_35 ?_
          refine lv_ifnonnullN hx hb dX13_many_38 ?_
          refine lv_iconst (v := 0) hx hb dX13_many_41 (by decide) ?_
          refine lv_goto (tgt := 53) hx hb dX13_many_42 (by decide) ?_
          refine lv_iadd hx hb dX13_many_53 ?_
          rw [show nI (1 + bC L9) + 0 = nI (1 + x.2.2.2) from by rw [Int32.add_zero, hx9]]
          refine lv_iadd hx hb dX13_many_54 ?_
          rw [show nI (bC (L.take i)) + nI (1 + x.2.2.2) = nI (bC (L.take (i + 1))) from by rw [nI_add, hbc, Nat.add_assoc]]
          refine lv_istore_n (lv' := [(1, .int (nI (bC (L.take (i + 1))))), (5, .ref x.1), (0, .ref b), (2, .ref b), (3, .int (nI L.length)), (4, .int (nI i))]) hx hb dX13_many_55 rfl hl (by decide) rfl (fun ls hl => ?_)
          refine lv_iinc (v := nI (i + 1)) (lv' := [(4, .int (nI (i + 1))), (1, .int (nI (bC (L.take (i + 1))))), (5, .ref x.1), (0, .ref b), (2, .ref b), (3, .int (nI L.length))]) hx hb dX13_many_56 hl (k := 5) rfl (nI_1 i) (by decide) rfl (fun ls hl => ?_)
          refine lv_goto (tgt := 10) hx hb dX13_many_59 (by decide) ?_
          exact ih (i + 1) hlt (by omega) _ _ _ hW hS (lv_sub hl [3, 1, 4, 5, 0] rfl)
        · have hb9 : bC L9 ≤ 20 := by omega
          refine lv_astore (lv' := [(5, .ref x.1), (0, .ref b), (1, .int (nI (bC (L.take i)))), (2, .ref b), (3, .int (nI L.length)), (4, .int (nI i))]) hx hb dX13_many_20 hl (by decide) rfl (fun ls hl => ?_)
          refine lv_iload_n hx hb dX13_many_22 rfl (lv_at hl 2 rfl) ?_
          refine lv_iconst (v := 1) hx hb dX13_many_23 (by decide) ?_
          refine lv_aload hx hb dX13_many_24 (lv_at hl 0 rfl) ?_
          refine q_get hx hb hts hown hA hW iX13 hcx rfl 6 (by decide) (hts (.fieldLink RX13 22 "HighRecipesLaw$Act" "block" "[LHighRecipesLaw$Act;") (by decide +kernel)) (fun _ h9 => h9) (v := .ref b9) rfl dX13_many_26 ?_
          refine q_ci (va_runS (As := [.ref b9]) (rest := [.int 1, .int (nI (bC (L.take i)))]) ⟨hx, hb, hml, hown, hts⟩ (kX13_many_0 l E f n b9 pn R RS P L9 hL9 hb9) (va_cwS 1 hts gX13_many_X13_many rfl rfl rfl (by decide +kernel) ⟨(Nat.le_of_ble_eq_true rfl), (Nat.le_of_ble_eq_true rfl)⟩) (q_pS hA hW hS) rfl rfl hl.1 rfl (lv_room (Nat.le_of_ble_eq_true rfl)) dX13_many_29 ⟨(Nat.le_of_ble_eq_true rfl), (Nat.le_of_ble_eq_true rfl)⟩) hS (fun r_29 f_29 n_29 H locs hp hW hS => ?_)
          obtain ⟨rfl, rfl, rfl⟩ := hp
          have hW : q_W E (f) n H := hW
          refine lv_iadd hx hb dX13_many_32 ?_
          rw [show 1 + nI (bC L9) = nI (1 + bC L9) from nI_add 1 _]
          refine lv_aload hx hb dX13_many_33 (lv_at hl 0 rfl) ?_
          refine q_get hx hb hts hown hA hW iX13 hcx rfl 7 (by decide) (hts (.fieldLink RX13 58 "HighRecipesLaw$Act" "other" "[LHighRecipesLaw$Act;") (by decide +kernel)) (fun _ h9 => h9) (v := .ref b92) rfl dX13_many_35 ?_
          refine lv_ifnonnull (tgt := 45) hx hb dX13_many_38 (by decide) ?_
          refine lv_aload hx hb dX13_many_45 (lv_at hl 0 rfl) ?_
          refine q_get hx hb hts hown hA hW iX13 hcx rfl 7 (by decide) (hts (.fieldLink RX13 58 "HighRecipesLaw$Act" "other" "[LHighRecipesLaw$Act;") (by decide +kernel)) (fun _ h9 => h9) (v := .ref b92) rfl dX13_many_47 ?_
          refine q_ci (va_runS (As := [.ref b92]) (rest := [.int (nI (1 + bC L9)), .int (nI (bC (L.take i)))]) ⟨hx, hb, hml, hown, hts⟩ (kX13_many_0 l E f n b92 pn R RS P L92 hL92 (by omega)) (va_cwS 1 hts gX13_many_X13_many rfl rfl rfl (by decide +kernel) ⟨(Nat.le_of_ble_eq_true rfl), (Nat.le_of_ble_eq_true rfl)⟩) (q_pS hA hW hS) rfl rfl hl.1 rfl (lv_room (Nat.le_of_ble_eq_true rfl)) dX13_many_50 ⟨(Nat.le_of_ble_eq_true rfl), (Nat.le_of_ble_eq_true rfl)⟩) hS (fun r_50 f_50 n_50 H locs hp hW hS => ?_)
          obtain ⟨rfl, rfl, rfl⟩ := hp
          have hW : q_W E (f) n H := hW
          refine lv_iadd hx hb dX13_many_53 ?_
          rw [show nI (1 + bC L9) + nI (bC L92) = nI (1 + x.2.2.2) from by rw [nI_add, hx9, Nat.add_assoc]]
          refine lv_iadd hx hb dX13_many_54 ?_
          rw [show nI (bC (L.take i)) + nI (1 + x.2.2.2) = nI (bC (L.take (i + 1))) from by rw [nI_add, hbc, Nat.add_assoc]]
          refine lv_istore_n (lv' := [(1, .int (nI (bC (L.take (i + 1))))), (5, .ref x.1), (0, .ref b), (2, .ref b), (3, .int (nI L.length)), (4, .int (nI i))]) hx hb dX13_many_55 rfl hl (by decide) rfl (fun ls hl => ?_)
          refine lv_iinc (v := nI (i + 1)) (lv' := [(4, .int (nI (i + 1))), (1, .int (nI (bC (L.take (i + 1))))), (5, .ref x.1), (0, .ref b), (2, .ref b), (3, .int (nI L.length))]) hx hb dX13_many_56 hl (k := 5) rfl (nI_1 i) (by decide) rfl (fun ls hl => ?_)
          refine lv_goto (tgt := 10) hx hb dX13_many_59 (by decide) ?_
          exact ih (i + 1) hlt (by omega) _ _ _ hW hS (lv_sub hl [3, 1, 4, 5, 0] rfl)
  exact K10 _ 0 (Nat.zero_le _) (Nat.lt_succ_self _) _ _ _ hW hS (lv_sub hl [4, 3, 2, 1, 0] rfl)

set_option maxHeartbeats 4000000 in
set_option maxRecDepth 100000 in
theorem kX13_many_2 (l : Launch) (E : q_E) (f : q_H) (n : Nat) (b pn R : Nat) (RS : Nat → q_S) (P : Nat → Prop) (L : List LT)  (hL : LB P E f (LACT E pn R RS P f 2) b L) (hc : bC L ≤ 20) : Met l yX13_many wsX13_many ({ frames := 5, cells := 0, slots := 0, locals := 100 }) (q_P E [.ref b] f n) (q_Qi E (fun r f1 n1 => nI (bC L) = r ∧ f = f1 ∧ n = n1)) 0 0 (q_ge E) := by
  refine Met.ofW (cc := cX13_many) (maxL := 6) (ret := (some .int)) (by decide) rfl ?_
  intro p0_ e0_ s0_ m0_ args0_ below0_ meth0_ c0_ s1_ B0_ hml hv
  obtain ⟨rfl, hA, hW⟩ := hv
  have hx := B0_.exec
  have hb := B0_.bytes
  have hr := B0_.returns
  have hts := atoms_spec (ws := wsX13_many) B0_.pre
  have hown : s0_.vm.findClass RX13 = some m0_.cls := findClass_of_methodNamed B0_.named
  have hlocks := B0_.notSynchronized
  have hS : va_S (q_ge E) s0_.heap s0_.heap [] := va_S.rf
  have iX13 : ∀ w ∈ wsX130, w ∈ wsX13_many := by decide +kernel
  have hl := lv_entry ([.ref b]) (n := 6) (Nat.le_of_ble_eq_true rfl)
  rw [lg_entry_eq]
  generalize (lg_sl ([.ref b]) ++ List.replicate (6 - (lg_sl ([.ref b])).length) Slot.unset).toArray = ls at hl ⊢
  have hl : lv_has ls 6 [(0, .ref b)] := hl
  have h1 := hL.2.1
  have hm := bC_len L
  refine lv_iconst (v := 0) hx hb dX13_many_0 (by decide) ?_
  refine lv_istore_n (lv' := [(1, .int 0), (0, .ref b)]) hx hb dX13_many_1 rfl hl (by decide) rfl (fun ls hl => ?_)
  refine lv_aload_n hx hb dX13_many_2 rfl (lv_at hl 1 rfl) ?_
  refine lv_astore_n (lv' := [(2, .ref b), (1, .int 0), (0, .ref b)]) hx hb dX13_many_3 rfl hl (by decide) rfl (fun ls hl => ?_)
  refine lv_aload_n hx hb dX13_many_4 rfl (lv_at hl 0 rfl) ?_
  refine q_alen hx hb hA hW 6 rfl h1 (v := nI L.length) rfl dX13_many_5 ?_
  refine lv_istore_n (lv' := [(3, .int (nI L.length)), (2, .ref b), (1, .int 0), (0, .ref b)]) hx hb dX13_many_6 rfl hl (by decide) rfl (fun ls hl => ?_)
  refine lv_iconst (v := 0) hx hb dX13_many_7 (by decide) ?_
  refine lv_istore (lv' := [(4, .int 0), (3, .int (nI L.length)), (2, .ref b), (1, .int 0), (0, .ref b)]) hx hb dX13_many_8 hl (by decide) rfl (fun ls hl => ?_)
  have K10 : ∀ (fu : Nat) (i : Nat) (hi : i ≤ L.length) (hm : L.length - i < fu) (H : Heap) (locs : List Loc) (ls : Array Slot), q_W E (f) n H → va_S (q_ge E) s0_.heap H locs → lv_has ls 6 [(0, .ref b), (1, .int (nI (bC (L.take i)))), (2, .ref b), (3, .int (nI L.length)), (4, .int (nI i))] → W p0_ l e0_ (headSpec wsX13_many ({ frames := 5, cells := 0, slots := 0, locals := 100 })).room s0_ m0_ ([.ref b] : List Value).toArray below0_ meth0_ c0_ H locs 0 0 (MQ below0_ (q_Qi E (fun r f1 n1 => nI (bC L) = r ∧ f = f1 ∧ n = n1)) ([.ref b] : List Value).toArray s0_ 0 0 (q_ge E)) (F0 m0_ 10 ls []) := by
    intro fu
    induction fu with
    | zero =>
      intro i hi hm
      exact absurd hm (Nat.not_lt_zero _)
    | succ fu ih =>
      intro i hi hm H locs ls hW hS hl
      refine lv_iload hx hb dX13_many_10 (lv_at hl 4 rfl) ?_
      refine lv_iload_n hx hb dX13_many_12 rfl (lv_at hl 3 rfl) ?_
      refine lv_icmp_ge (tgt := 62) hx hb dX13_many_13 (by decide) (fun c_13 => ?_) (fun c_13 => ?_)
      · have hle : i = L.length := Nat.le_antisymm hi (q_leN (by omega) c_13)
        refine lv_iload_n hx hb dX13_many_62 rfl (lv_at hl 1 rfl) ?_
        exact q_iret hx hb hr hlocks hW hS ⟨(by rw [hle, List.take_length]), rfl, rfl⟩ (Nat.le_of_ble_eq_true rfl) (Nat.le_of_ble_eq_true rfl) dX13_many_63
      · have hlt : i < L.length := q_gtn (by omega) c_13
        obtain ⟨x, hxi⟩ : ∃ x, L[i]? = some x := ⟨_, List.getElem?_eq_getElem hlt⟩
        have hxA := hL.2.2 x (List.mem_of_getElem? hxi)
        have hbc : bC (L.take (i + 1)) = bC (L.take i) + 1 + x.2.2.2 := by rw [take_s hxi, bC_app]
        have hbl := bC_take (L := L) (i + 1)
        obtain ⟨do9, wh9, va9, sg9, on9, ot9, b9, el9, L9, hcx, hL9, hel⟩ := hxA.many
        refine lv_aload_n hx hb dX13_many_16 rfl (lv_at hl 2 rfl) ?_
        refine lv_iload hx hb dX13_many_17 (lv_at hl 4 rfl) ?_
        refine q_aald hx hb hA hW 6 rfl h1 (vp_in_nI hlt (by omega)) dX13_many_19 ?_
        rw [show lf L (nI i).toNatClampNeg = some x.1 from by rw [nI_clamp (by omega)]; unfold lf; rw [hxi]; rfl]
        rcases hel with ⟨rfl, hx9⟩ | ⟨b92, L92, rfl, hL92, hx9⟩
        · have hb9 : bC L9 ≤ 20 := by omega
          refine lv_astore (lv' := [(5, .ref x.1), (0, .ref b), (1, .int (nI (bC (L.take i)))), (2, .ref b), (3, .int (nI L.length)), (4, .int (nI i))]) hx hb dX13_many_20 hl (by decide) rfl (fun ls hl => ?_)
          refine lv_iload_n hx hb dX13_many_22 rfl (lv_at hl 2 rfl) ?_
          refine lv_iconst (v := 1) hx hb dX13_many_23 (by decide) ?_
          refine lv_aload hx hb dX13_many_24 (lv_at hl 0 rfl) ?_
          refine q_get hx hb hts hown hA hW iX13 hcx rfl 6 (by decide) (hts (.fieldLink RX13 22 "HighRecipesLaw$Act" "block" "[LHighRecipesLaw$Act;") (by decide +kernel)) (fun _ h9 => h9) (v := .ref b9) rfl dX13_many_26 ?_
          refine q_ci (va_runS (As := [.ref b9]) (rest := [.int 1, .int (nI (bC (L.take i)))]) ⟨hx, hb, hml, hown, hts⟩ (kX13_many_1 l E f n b9 pn R RS P L9 hL9 hb9) (va_cwS 1 hts gX13_many_X13_many rfl rfl rfl (by decide +kernel) ⟨(Nat.le_of_ble_eq_true rfl), (Nat.le_of_ble_eq_true rfl)⟩) (q_pS hA hW hS) rfl rfl hl.1 rfl (lv_room (Nat.le_of_ble_eq_true rfl)) dX13_many_29 ⟨(Nat.le_of_ble_eq_true rfl), (Nat.le_of_ble_eq_true rfl)⟩) hS (fun r_29 f_29 n_29 H locs hp hW hS => ?_)
          obtain ⟨rfl, rfl, rfl⟩ := hp
          have hW : q_W E (f) n H := hW
          refine lv_iadd hx hb dX13_many_32 ?_
          rw [show 1 + nI (bC L9) = nI (1 + bC L9) from nI_add 1 _]
          refine lv_aload hx hb dX13_many_33 (lv_at hl 0 rfl) ?_
          refine q_get hx hb hts hown hA hW iX13 hcx rfl 7 (by decide) (hts (.fieldLink RX13 58 "HighRecipesLaw$Act" "other" "[LHighRecipesLaw$Act;") (by decide +kernel)) (fun _ h9 => h9) (v := .null) rfl dX13_many_35 ?_
          refine lv_ifnonnullN hx hb dX13_many_38 ?_
          refine lv_iconst (v := 0) hx hb dX13_many_41 (by decide) ?_
          refine lv_goto (tgt := 53) hx hb dX13_many_42 (by decide) ?_
          refine lv_iadd hx hb dX13_many_53 ?_
          rw [show nI (1 + bC L9) + 0 = nI (1 + x.2.2.2) from by rw [Int32.add_zero, hx9]]
          refine lv_iadd hx hb dX13_many_54 ?_
          rw [show nI (bC (L.take i)) + nI (1 + x.2.2.2) = nI (bC (L.take (i + 1))) from by rw [nI_add, hbc, Nat.add_assoc]]
          refine lv_istore_n (lv' := [(1, .int (nI (bC (L.take (i + 1))))), (5, .ref x.1), (0, .ref b), (2, .ref b), (3, .int (nI L.length)), (4, .int (nI i))]) hx hb dX13_many_55 rfl hl (by decide) rfl (fun ls hl => ?_)
          refine lv_iinc (v := nI (i + 1)) (lv' := [(4, .int (nI (i + 1))), (1, .int (nI (bC (L.take (i + 1))))), (5, .ref x.1), (0, .ref b), (2, .ref b), (3, .int (nI L.length))]) hx hb dX13_many_56 hl (k := 5) rfl (nI_1 i) (by decide) rfl (fun ls hl => ?_)
          refine lv_goto (tgt := 10) hx hb dX13_many_59 (by decide) ?_
          exact ih (i + 1) hlt (by omega) _ _ _ hW hS (lv_sub hl [3, 1, 4, 5, 0] rfl)
        · have hb9 : bC L9 ≤ 20 := by omega
          refine lv_astore (lv' := [(5, .ref x.1), (0, .ref b), (1, .int (nI (bC (L.take i)))), (2, .ref b), (3, .int (nI L.length)), (4, .int (nI i))]) hx hb dX13_many_20 hl (by decide) rfl (fun ls hl => ?_)
          refine lv_iload_n hx hb dX13_many_22 rfl (lv_at hl 2 rfl) ?_
          refine lv_iconst (v := 1) hx hb dX13_many_23 (by decide) ?_
          refine lv_aload hx hb dX13_many_24 (lv_at hl 0 rfl) ?_
          refine q_get hx hb hts hown hA hW iX13 hcx rfl 6 (by decide) (hts (.fieldLink RX13 22 "HighRecipesLaw$Act" "block" "[LHighRecipesLaw$Act;") (by decide +kernel)) (fun _ h9 => h9) (v := .ref b9) rfl dX13_many_26 ?_
          refine q_ci (va_runS (As := [.ref b9]) (rest := [.int 1, .int (nI (bC (L.take i)))]) ⟨hx, hb, hml, hown, hts⟩ (kX13_many_1 l E f n b9 pn R RS P L9 hL9 hb9) (va_cwS 1 hts gX13_many_X13_many rfl rfl rfl (by decide +kernel) ⟨(Nat.le_of_ble_eq_true rfl), (Nat.le_of_ble_eq_true rfl)⟩) (q_pS hA hW hS) rfl rfl hl.1 rfl (lv_room (Nat.le_of_ble_eq_true rfl)) dX13_many_29 ⟨(Nat.le_of_ble_eq_true rfl), (Nat.le_of_ble_eq_true rfl)⟩) hS (fun r_29 f_29 n_29 H locs hp hW hS => ?_)
          obtain ⟨rfl, rfl, rfl⟩ := hp
          have hW : q_W E (f) n H := hW
          refine lv_iadd hx hb dX13_many_32 ?_
          rw [show 1 + nI (bC L9) = nI (1 + bC L9) from nI_add 1 _]
          refine lv_aload hx hb dX13_many_33 (lv_at hl 0 rfl) ?_
          refine q_get hx hb hts hown hA hW iX13 hcx rfl 7 (by decide) (hts (.fieldLink RX13 58 "HighRecipesLaw$Act" "other" "[LHighRecipesLaw$Act;") (by decide +kernel)) (fun _ h9 => h9) (v := .ref b92) rfl dX13_many_35 ?_
          refine lv_ifnonnull (tgt := 45) hx hb dX13_many_38 (by decide) ?_
          refine lv_aload hx hb dX13_many_45 (lv_at hl 0 rfl) ?_
          refine q_get hx hb hts hown hA hW iX13 hcx rfl 7 (by decide) (hts (.fieldLink RX13 58 "HighRecipesLaw$Act" "other" "[LHighRecipesLaw$Act;") (by decide +kernel)) (fun _ h9 => h9) (v := .ref b92) rfl dX13_many_47 ?_
          refine q_ci (va_runS (As := [.ref b92]) (rest := [.int (nI (1 + bC L9)), .int (nI (bC (L.take i)))]) ⟨hx, hb, hml, hown, hts⟩ (kX13_many_1 l E f n b92 pn R RS P L92 hL92 (by omega)) (va_cwS 1 hts gX13_many_X13_many rfl rfl rfl (by decide +kernel) ⟨(Nat.le_of_ble_eq_true rfl), (Nat.le_of_ble_eq_true rfl)⟩) (q_pS hA hW hS) rfl rfl hl.1 rfl (lv_room (Nat.le_of_ble_eq_true rfl)) dX13_many_50 ⟨(Nat.le_of_ble_eq_true rfl), (Nat.le_of_ble_eq_true rfl)⟩) hS (fun r_50 f_50 n_50 H locs hp hW hS => ?_)
          obtain ⟨rfl, rfl, rfl⟩ := hp
          have hW : q_W E (f) n H := hW
          refine lv_iadd hx hb dX13_many_53 ?_
          rw [show nI (1 + bC L9) + nI (bC L92) = nI (1 + x.2.2.2) from by rw [nI_add, hx9, Nat.add_assoc]]
          refine lv_iadd hx hb dX13_many_54 ?_
          rw [show nI (bC (L.take i)) + nI (1 + x.2.2.2) = nI (bC (L.take (i + 1))) from by rw [nI_add, hbc, Nat.add_assoc]]
          refine lv_istore_n (lv' := [(1, .int (nI (bC (L.take (i + 1))))), (5, .ref x.1), (0, .ref b), (2, .ref b), (3, .int (nI L.length)), (4, .int (nI i))]) hx hb dX13_many_55 rfl hl (by decide) rfl (fun ls hl => ?_)
          refine lv_iinc (v := nI (i + 1)) (lv' := [(4, .int (nI (i + 1))), (1, .int (nI (bC (L.take (i + 1))))), (5, .ref x.1), (0, .ref b), (2, .ref b), (3, .int (nI L.length))]) hx hb dX13_many_56 hl (k := 5) rfl (nI_1 i) (by decide) rfl (fun ls hl => ?_)
          refine lv_goto (tgt := 10) hx hb dX13_many_59 (by decide) ?_
          exact ih (i + 1) hlt (by omega) _ _ _ hW hS (lv_sub hl [3, 1, 4, 5, 0] rfl)
  exact K10 _ 0 (Nat.zero_le _) (Nat.lt_succ_self _) _ _ _ hW hS (lv_sub hl [4, 3, 2, 1, 0] rfl)

set_option maxHeartbeats 4000000 in
set_option maxRecDepth 100000 in
theorem kX13_many_3 (l : Launch) (E : q_E) (f : q_H) (n : Nat) (b pn R : Nat) (RS : Nat → q_S) (P : Nat → Prop) (L : List LT)  (hL : LB P E f (LACT E pn R RS P f 3) b L) (hc : bC L ≤ 20) : Met l yX13_many wsX13_many ({ frames := 7, cells := 0, slots := 0, locals := 140 }) (q_P E [.ref b] f n) (q_Qi E (fun r f1 n1 => nI (bC L) = r ∧ f = f1 ∧ n = n1)) 0 0 (q_ge E) := by
  refine Met.ofW (cc := cX13_many) (maxL := 6) (ret := (some .int)) (by decide) rfl ?_
  intro p0_ e0_ s0_ m0_ args0_ below0_ meth0_ c0_ s1_ B0_ hml hv
  obtain ⟨rfl, hA, hW⟩ := hv
  have hx := B0_.exec
  have hb := B0_.bytes
  have hr := B0_.returns
  have hts := atoms_spec (ws := wsX13_many) B0_.pre
  have hown : s0_.vm.findClass RX13 = some m0_.cls := findClass_of_methodNamed B0_.named
  have hlocks := B0_.notSynchronized
  have hS : va_S (q_ge E) s0_.heap s0_.heap [] := va_S.rf
  have iX13 : ∀ w ∈ wsX130, w ∈ wsX13_many := by decide +kernel
  have hl := lv_entry ([.ref b]) (n := 6) (Nat.le_of_ble_eq_true rfl)
  rw [lg_entry_eq]
  generalize (lg_sl ([.ref b]) ++ List.replicate (6 - (lg_sl ([.ref b])).length) Slot.unset).toArray = ls at hl ⊢
  have hl : lv_has ls 6 [(0, .ref b)] := hl
  have h1 := hL.2.1
  have hm := bC_len L
  refine lv_iconst (v := 0) hx hb dX13_many_0 (by decide) ?_
  refine lv_istore_n (lv' := [(1, .int 0), (0, .ref b)]) hx hb dX13_many_1 rfl hl (by decide) rfl (fun ls hl => ?_)
  refine lv_aload_n hx hb dX13_many_2 rfl (lv_at hl 1 rfl) ?_
  refine lv_astore_n (lv' := [(2, .ref b), (1, .int 0), (0, .ref b)]) hx hb dX13_many_3 rfl hl (by decide) rfl (fun ls hl => ?_)
  refine lv_aload_n hx hb dX13_many_4 rfl (lv_at hl 0 rfl) ?_
  refine q_alen hx hb hA hW 6 rfl h1 (v := nI L.length) rfl dX13_many_5 ?_
  refine lv_istore_n (lv' := [(3, .int (nI L.length)), (2, .ref b), (1, .int 0), (0, .ref b)]) hx hb dX13_many_6 rfl hl (by decide) rfl (fun ls hl => ?_)
  refine lv_iconst (v := 0) hx hb dX13_many_7 (by decide) ?_
  refine lv_istore (lv' := [(4, .int 0), (3, .int (nI L.length)), (2, .ref b), (1, .int 0), (0, .ref b)]) hx hb dX13_many_8 hl (by decide) rfl (fun ls hl => ?_)
  have K10 : ∀ (fu : Nat) (i : Nat) (hi : i ≤ L.length) (hm : L.length - i < fu) (H : Heap) (locs : List Loc) (ls : Array Slot), q_W E (f) n H → va_S (q_ge E) s0_.heap H locs → lv_has ls 6 [(0, .ref b), (1, .int (nI (bC (L.take i)))), (2, .ref b), (3, .int (nI L.length)), (4, .int (nI i))] → W p0_ l e0_ (headSpec wsX13_many ({ frames := 7, cells := 0, slots := 0, locals := 140 })).room s0_ m0_ ([.ref b] : List Value).toArray below0_ meth0_ c0_ H locs 0 0 (MQ below0_ (q_Qi E (fun r f1 n1 => nI (bC L) = r ∧ f = f1 ∧ n = n1)) ([.ref b] : List Value).toArray s0_ 0 0 (q_ge E)) (F0 m0_ 10 ls []) := by
    intro fu
    induction fu with
    | zero =>
      intro i hi hm
      exact absurd hm (Nat.not_lt_zero _)
    | succ fu ih =>
      intro i hi hm H locs ls hW hS hl
      refine lv_iload hx hb dX13_many_10 (lv_at hl 4 rfl) ?_
      refine lv_iload_n hx hb dX13_many_12 rfl (lv_at hl 3 rfl) ?_
      refine lv_icmp_ge (tgt := 62) hx hb dX13_many_13 (by decide) (fun c_13 => ?_) (fun c_13 => ?_)
      · have hle : i = L.length := Nat.le_antisymm hi (q_leN (by omega) c_13)
        refine lv_iload_n hx hb dX13_many_62 rfl (lv_at hl 1 rfl) ?_
        exact q_iret hx hb hr hlocks hW hS ⟨(by rw [hle, List.take_length]), rfl, rfl⟩ (Nat.le_of_ble_eq_true rfl) (Nat.le_of_ble_eq_true rfl) dX13_many_63
      · have hlt : i < L.length := q_gtn (by omega) c_13
        obtain ⟨x, hxi⟩ : ∃ x, L[i]? = some x := ⟨_, List.getElem?_eq_getElem hlt⟩
        have hxA := hL.2.2 x (List.mem_of_getElem? hxi)
        have hbc : bC (L.take (i + 1)) = bC (L.take i) + 1 + x.2.2.2 := by rw [take_s hxi, bC_app]
        have hbl := bC_take (L := L) (i + 1)
        obtain ⟨do9, wh9, va9, sg9, on9, ot9, b9, el9, L9, hcx, hL9, hel⟩ := hxA.many
        refine lv_aload_n hx hb dX13_many_16 rfl (lv_at hl 2 rfl) ?_
        refine lv_iload hx hb dX13_many_17 (lv_at hl 4 rfl) ?_
        refine q_aald hx hb hA hW 6 rfl h1 (vp_in_nI hlt (by omega)) dX13_many_19 ?_
        rw [show lf L (nI i).toNatClampNeg = some x.1 from by rw [nI_clamp (by omega)]; unfold lf; rw [hxi]; rfl]
        rcases hel with ⟨rfl, hx9⟩ | ⟨b92, L92, rfl, hL92, hx9⟩
        · have hb9 : bC L9 ≤ 20 := by omega
          refine lv_astore (lv' := [(5, .ref x.1), (0, .ref b), (1, .int (nI (bC (L.take i)))), (2, .ref b), (3, .int (nI L.length)), (4, .int (nI i))]) hx hb dX13_many_20 hl (by decide) rfl (fun ls hl => ?_)
          refine lv_iload_n hx hb dX13_many_22 rfl (lv_at hl 2 rfl) ?_
          refine lv_iconst (v := 1) hx hb dX13_many_23 (by decide) ?_
          refine lv_aload hx hb dX13_many_24 (lv_at hl 0 rfl) ?_
          refine q_get hx hb hts hown hA hW iX13 hcx rfl 6 (by decide) (hts (.fieldLink RX13 22 "HighRecipesLaw$Act" "block" "[LHighRecipesLaw$Act;") (by decide +kernel)) (fun _ h9 => h9) (v := .ref b9) rfl dX13_many_26 ?_
          refine q_ci (va_runS (As := [.ref b9]) (rest := [.int 1, .int (nI (bC (L.take i)))]) ⟨hx, hb, hml, hown, hts⟩ (kX13_many_2 l E f n b9 pn R RS P L9 hL9 hb9) (va_cwS 1 hts gX13_many_X13_many rfl rfl rfl (by decide +kernel) ⟨(Nat.le_of_ble_eq_true rfl), (Nat.le_of_ble_eq_true rfl)⟩) (q_pS hA hW hS) rfl rfl hl.1 rfl (lv_room (Nat.le_of_ble_eq_true rfl)) dX13_many_29 ⟨(Nat.le_of_ble_eq_true rfl), (Nat.le_of_ble_eq_true rfl)⟩) hS (fun r_29 f_29 n_29 H locs hp hW hS => ?_)
          obtain ⟨rfl, rfl, rfl⟩ := hp
          have hW : q_W E (f) n H := hW
          refine lv_iadd hx hb dX13_many_32 ?_
          rw [show 1 + nI (bC L9) = nI (1 + bC L9) from nI_add 1 _]
          refine lv_aload hx hb dX13_many_33 (lv_at hl 0 rfl) ?_
          refine q_get hx hb hts hown hA hW iX13 hcx rfl 7 (by decide) (hts (.fieldLink RX13 58 "HighRecipesLaw$Act" "other" "[LHighRecipesLaw$Act;") (by decide +kernel)) (fun _ h9 => h9) (v := .null) rfl dX13_many_35 ?_
          refine lv_ifnonnullN hx hb dX13_many_38 ?_
          refine lv_iconst (v := 0) hx hb dX13_many_41 (by decide) ?_
          refine lv_goto (tgt := 53) hx hb dX13_many_42 (by decide) ?_
          refine lv_iadd hx hb dX13_many_53 ?_
          rw [show nI (1 + bC L9) + 0 = nI (1 + x.2.2.2) from by rw [Int32.add_zero, hx9]]
          refine lv_iadd hx hb dX13_many_54 ?_
          rw [show nI (bC (L.take i)) + nI (1 + x.2.2.2) = nI (bC (L.take (i + 1))) from by rw [nI_add, hbc, Nat.add_assoc]]
          refine lv_istore_n (lv' := [(1, .int (nI (bC (L.take (i + 1))))), (5, .ref x.1), (0, .ref b), (2, .ref b), (3, .int (nI L.length)), (4, .int (nI i))]) hx hb dX13_many_55 rfl hl (by decide) rfl (fun ls hl => ?_)
          refine lv_iinc (v := nI (i + 1)) (lv' := [(4, .int (nI (i + 1))), (1, .int (nI (bC (L.take (i + 1))))), (5, .ref x.1), (0, .ref b), (2, .ref b), (3, .int (nI L.length))]) hx hb dX13_many_56 hl (k := 5) rfl (nI_1 i) (by decide) rfl (fun ls hl => ?_)
          refine lv_goto (tgt := 10) hx hb dX13_many_59 (by decide) ?_
          exact ih (i + 1) hlt (by omega) _ _ _ hW hS (lv_sub hl [3, 1, 4, 5, 0] rfl)
        · have hb9 : bC L9 ≤ 20 := by omega
          refine lv_astore (lv' := [(5, .ref x.1), (0, .ref b), (1, .int (nI (bC (L.take i)))), (2, .ref b), (3, .int (nI L.length)), (4, .int (nI i))]) hx hb dX13_many_20 hl (by decide) rfl (fun ls hl => ?_)
          refine lv_iload_n hx hb dX13_many_22 rfl (lv_at hl 2 rfl) ?_
          refine lv_iconst (v := 1) hx hb dX13_many_23 (by decide) ?_
          refine lv_aload hx hb dX13_many_24 (lv_at hl 0 rfl) ?_
          refine q_get hx hb hts hown hA hW iX13 hcx rfl 6 (by decide) (hts (.fieldLink RX13 22 "HighRecipesLaw$Act" "block" "[LHighRecipesLaw$Act;") (by decide +kernel)) (fun _ h9 => h9) (v := .ref b9) rfl dX13_many_26 ?_
          refine q_ci (va_runS (As := [.ref b9]) (rest := [.int 1, .int (nI (bC (L.take i)))]) ⟨hx, hb, hml, hown, hts⟩ (kX13_many_2 l E f n b9 pn R RS P L9 hL9 hb9) (va_cwS 1 hts gX13_many_X13_many rfl rfl rfl (by decide +kernel) ⟨(Nat.le_of_ble_eq_true rfl), (Nat.le_of_ble_eq_true rfl)⟩) (q_pS hA hW hS) rfl rfl hl.1 rfl (lv_room (Nat.le_of_ble_eq_true rfl)) dX13_many_29 ⟨(Nat.le_of_ble_eq_true rfl), (Nat.le_of_ble_eq_true rfl)⟩) hS (fun r_29 f_29 n_29 H locs hp hW hS => ?_)
          obtain ⟨rfl, rfl, rfl⟩ := hp
          have hW : q_W E (f) n H := hW
          refine lv_iadd hx hb dX13_many_32 ?_
          rw [show 1 + nI (bC L9) = nI (1 + bC L9) from nI_add 1 _]
          refine lv_aload hx hb dX13_many_33 (lv_at hl 0 rfl) ?_
          refine q_get hx hb hts hown hA hW iX13 hcx rfl 7 (by decide) (hts (.fieldLink RX13 58 "HighRecipesLaw$Act" "other" "[LHighRecipesLaw$Act;") (by decide +kernel)) (fun _ h9 => h9) (v := .ref b92) rfl dX13_many_35 ?_
          refine lv_ifnonnull (tgt := 45) hx hb dX13_many_38 (by decide) ?_
          refine lv_aload hx hb dX13_many_45 (lv_at hl 0 rfl) ?_
          refine q_get hx hb hts hown hA hW iX13 hcx rfl 7 (by decide) (hts (.fieldLink RX13 58 "HighRecipesLaw$Act" "other" "[LHighRecipesLaw$Act;") (by decide +kernel)) (fun _ h9 => h9) (v := .ref b92) rfl dX13_many_47 ?_
          refine q_ci (va_runS (As := [.ref b92]) (rest := [.int (nI (1 + bC L9)), .int (nI (bC (L.take i)))]) ⟨hx, hb, hml, hown, hts⟩ (kX13_many_2 l E f n b92 pn R RS P L92 hL92 (by omega)) (va_cwS 1 hts gX13_many_X13_many rfl rfl rfl (by decide +kernel) ⟨(Nat.le_of_ble_eq_true rfl), (Nat.le_of_ble_eq_true rfl)⟩) (q_pS hA hW hS) rfl rfl hl.1 rfl (lv_room (Nat.le_of_ble_eq_true rfl)) dX13_many_50 ⟨(Nat.le_of_ble_eq_true rfl), (Nat.le_of_ble_eq_true rfl)⟩) hS (fun r_50 f_50 n_50 H locs hp hW hS => ?_)
          obtain ⟨rfl, rfl, rfl⟩ := hp
          have hW : q_W E (f) n H := hW
          refine lv_iadd hx hb dX13_many_53 ?_
          rw [show nI (1 + bC L9) + nI (bC L92) = nI (1 + x.2.2.2) from by rw [nI_add, hx9, Nat.add_assoc]]
          refine lv_iadd hx hb dX13_many_54 ?_
          rw [show nI (bC (L.take i)) + nI (1 + x.2.2.2) = nI (bC (L.take (i + 1))) from by rw [nI_add, hbc, Nat.add_assoc]]
          refine lv_istore_n (lv' := [(1, .int (nI (bC (L.take (i + 1))))), (5, .ref x.1), (0, .ref b), (2, .ref b), (3, .int (nI L.length)), (4, .int (nI i))]) hx hb dX13_many_55 rfl hl (by decide) rfl (fun ls hl => ?_)
          refine lv_iinc (v := nI (i + 1)) (lv' := [(4, .int (nI (i + 1))), (1, .int (nI (bC (L.take (i + 1))))), (5, .ref x.1), (0, .ref b), (2, .ref b), (3, .int (nI L.length))]) hx hb dX13_many_56 hl (k := 5) rfl (nI_1 i) (by decide) rfl (fun ls hl => ?_)
          refine lv_goto (tgt := 10) hx hb dX13_many_59 (by decide) ?_
          exact ih (i + 1) hlt (by omega) _ _ _ hW hS (lv_sub hl [3, 1, 4, 5, 0] rfl)
  exact K10 _ 0 (Nat.zero_le _) (Nat.lt_succ_self _) _ _ _ hW hS (lv_sub hl [4, 3, 2, 1, 0] rfl)

set_option maxHeartbeats 4000000 in
set_option maxRecDepth 100000 in
theorem kX13_many_4 (l : Launch) (E : q_E) (f : q_H) (n : Nat) (b pn R : Nat) (RS : Nat → q_S) (P : Nat → Prop) (L : List LT)  (hL : LB P E f (LACT E pn R RS P f 4) b L) (hc : bC L ≤ 20) : Met l yX13_many wsX13_many ({ frames := 9, cells := 0, slots := 0, locals := 180 }) (q_P E [.ref b] f n) (q_Qi E (fun r f1 n1 => nI (bC L) = r ∧ f = f1 ∧ n = n1)) 0 0 (q_ge E) := by
  refine Met.ofW (cc := cX13_many) (maxL := 6) (ret := (some .int)) (by decide) rfl ?_
  intro p0_ e0_ s0_ m0_ args0_ below0_ meth0_ c0_ s1_ B0_ hml hv
  obtain ⟨rfl, hA, hW⟩ := hv
  have hx := B0_.exec
  have hb := B0_.bytes
  have hr := B0_.returns
  have hts := atoms_spec (ws := wsX13_many) B0_.pre
  have hown : s0_.vm.findClass RX13 = some m0_.cls := findClass_of_methodNamed B0_.named
  have hlocks := B0_.notSynchronized
  have hS : va_S (q_ge E) s0_.heap s0_.heap [] := va_S.rf
  have iX13 : ∀ w ∈ wsX130, w ∈ wsX13_many := by decide +kernel
  have hl := lv_entry ([.ref b]) (n := 6) (Nat.le_of_ble_eq_true rfl)
  rw [lg_entry_eq]
  generalize (lg_sl ([.ref b]) ++ List.replicate (6 - (lg_sl ([.ref b])).length) Slot.unset).toArray = ls at hl ⊢
  have hl : lv_has ls 6 [(0, .ref b)] := hl
  have h1 := hL.2.1
  have hm := bC_len L
  refine lv_iconst (v := 0) hx hb dX13_many_0 (by decide) ?_
  refine lv_istore_n (lv' := [(1, .int 0), (0, .ref b)]) hx hb dX13_many_1 rfl hl (by decide) rfl (fun ls hl => ?_)
  refine lv_aload_n hx hb dX13_many_2 rfl (lv_at hl 1 rfl) ?_
  refine lv_astore_n (lv' := [(2, .ref b), (1, .int 0), (0, .ref b)]) hx hb dX13_many_3 rfl hl (by decide) rfl (fun ls hl => ?_)
  refine lv_aload_n hx hb dX13_many_4 rfl (lv_at hl 0 rfl) ?_
  refine q_alen hx hb hA hW 6 rfl h1 (v := nI L.length) rfl dX13_many_5 ?_
  refine lv_istore_n (lv' := [(3, .int (nI L.length)), (2, .ref b), (1, .int 0), (0, .ref b)]) hx hb dX13_many_6 rfl hl (by decide) rfl (fun ls hl => ?_)
  refine lv_iconst (v := 0) hx hb dX13_many_7 (by decide) ?_
  refine lv_istore (lv' := [(4, .int 0), (3, .int (nI L.length)), (2, .ref b), (1, .int 0), (0, .ref b)]) hx hb dX13_many_8 hl (by decide) rfl (fun ls hl => ?_)
  have K10 : ∀ (fu : Nat) (i : Nat) (hi : i ≤ L.length) (hm : L.length - i < fu) (H : Heap) (locs : List Loc) (ls : Array Slot), q_W E (f) n H → va_S (q_ge E) s0_.heap H locs → lv_has ls 6 [(0, .ref b), (1, .int (nI (bC (L.take i)))), (2, .ref b), (3, .int (nI L.length)), (4, .int (nI i))] → W p0_ l e0_ (headSpec wsX13_many ({ frames := 9, cells := 0, slots := 0, locals := 180 })).room s0_ m0_ ([.ref b] : List Value).toArray below0_ meth0_ c0_ H locs 0 0 (MQ below0_ (q_Qi E (fun r f1 n1 => nI (bC L) = r ∧ f = f1 ∧ n = n1)) ([.ref b] : List Value).toArray s0_ 0 0 (q_ge E)) (F0 m0_ 10 ls []) := by
    intro fu
    induction fu with
    | zero =>
      intro i hi hm
      exact absurd hm (Nat.not_lt_zero _)
    | succ fu ih =>
      intro i hi hm H locs ls hW hS hl
      refine lv_iload hx hb dX13_many_10 (lv_at hl 4 rfl) ?_
      refine lv_iload_n hx hb dX13_many_12 rfl (lv_at hl 3 rfl) ?_
      refine lv_icmp_ge (tgt := 62) hx hb dX13_many_13 (by decide) (fun c_13 => ?_) (fun c_13 => ?_)
      · have hle : i = L.length := Nat.le_antisymm hi (q_leN (by omega) c_13)
        refine lv_iload_n hx hb dX13_many_62 rfl (lv_at hl 1 rfl) ?_
        exact q_iret hx hb hr hlocks hW hS ⟨(by rw [hle, List.take_length]), rfl, rfl⟩ (Nat.le_of_ble_eq_true rfl) (Nat.le_of_ble_eq_true rfl) dX13_many_63
      · have hlt : i < L.length := q_gtn (by omega) c_13
        obtain ⟨x, hxi⟩ : ∃ x, L[i]? = some x := ⟨_, List.getElem?_eq_getElem hlt⟩
        have hxA := hL.2.2 x (List.mem_of_getElem? hxi)
        have hbc : bC (L.take (i + 1)) = bC (L.take i) + 1 + x.2.2.2 := by rw [take_s hxi, bC_app]
        have hbl := bC_take (L := L) (i + 1)
        obtain ⟨do9, wh9, va9, sg9, on9, ot9, b9, el9, L9, hcx, hL9, hel⟩ := hxA.many
        refine lv_aload_n hx hb dX13_many_16 rfl (lv_at hl 2 rfl) ?_
        refine lv_iload hx hb dX13_many_17 (lv_at hl 4 rfl) ?_
        refine q_aald hx hb hA hW 6 rfl h1 (vp_in_nI hlt (by omega)) dX13_many_19 ?_
        rw [show lf L (nI i).toNatClampNeg = some x.1 from by rw [nI_clamp (by omega)]; unfold lf; rw [hxi]; rfl]
        rcases hel with ⟨rfl, hx9⟩ | ⟨b92, L92, rfl, hL92, hx9⟩
        · have hb9 : bC L9 ≤ 20 := by omega
          refine lv_astore (lv' := [(5, .ref x.1), (0, .ref b), (1, .int (nI (bC (L.take i)))), (2, .ref b), (3, .int (nI L.length)), (4, .int (nI i))]) hx hb dX13_many_20 hl (by decide) rfl (fun ls hl => ?_)
          refine lv_iload_n hx hb dX13_many_22 rfl (lv_at hl 2 rfl) ?_
          refine lv_iconst (v := 1) hx hb dX13_many_23 (by decide) ?_
          refine lv_aload hx hb dX13_many_24 (lv_at hl 0 rfl) ?_
          refine q_get hx hb hts hown hA hW iX13 hcx rfl 6 (by decide) (hts (.fieldLink RX13 22 "HighRecipesLaw$Act" "block" "[LHighRecipesLaw$Act;") (by decide +kernel)) (fun _ h9 => h9) (v := .ref b9) rfl dX13_many_26 ?_
          refine q_ci (va_runS (As := [.ref b9]) (rest := [.int 1, .int (nI (bC (L.take i)))]) ⟨hx, hb, hml, hown, hts⟩ (kX13_many_3 l E f n b9 pn R RS P L9 hL9 hb9) (va_cwS 1 hts gX13_many_X13_many rfl rfl rfl (by decide +kernel) ⟨(Nat.le_of_ble_eq_true rfl), (Nat.le_of_ble_eq_true rfl)⟩) (q_pS hA hW hS) rfl rfl hl.1 rfl (lv_room (Nat.le_of_ble_eq_true rfl)) dX13_many_29 ⟨(Nat.le_of_ble_eq_true rfl), (Nat.le_of_ble_eq_true rfl)⟩) hS (fun r_29 f_29 n_29 H locs hp hW hS => ?_)
          obtain ⟨rfl, rfl, rfl⟩ := hp
          have hW : q_W E (f) n H := hW
          refine lv_iadd hx hb dX13_many_32 ?_
          rw [show 1 + nI (bC L9) = nI (1 + bC L9) from nI_add 1 _]
          refine lv_aload hx hb dX13_many_33 (lv_at hl 0 rfl) ?_
          refine q_get hx hb hts hown hA hW iX13 hcx rfl 7 (by decide) (hts (.fieldLink RX13 58 "HighRecipesLaw$Act" "other" "[LHighRecipesLaw$Act;") (by decide +kernel)) (fun _ h9 => h9) (v := .null) rfl dX13_many_35 ?_
          refine lv_ifnonnullN hx hb dX13_many_38 ?_
          refine lv_iconst (v := 0) hx hb dX13_many_41 (by decide) ?_
          refine lv_goto (tgt := 53) hx hb dX13_many_42 (by decide) ?_
          refine lv_iadd hx hb dX13_many_53 ?_
          rw [show nI (1 + bC L9) + 0 = nI (1 + x.2.2.2) from by rw [Int32.add_zero, hx9]]
          refine lv_iadd hx hb dX13_many_54 ?_
          rw [show nI (bC (L.take i)) + nI (1 + x.2.2.2) = nI (bC (L.take (i + 1))) from by rw [nI_add, hbc, Nat.add_assoc]]
          refine lv_istore_n (lv' := [(1, .int (nI (bC (L.take (i + 1))))), (5, .ref x.1), (0, .ref b), (2, .ref b), (3, .int (nI L.length)), (4, .int (nI i))]) hx hb dX13_many_55 rfl hl (by decide) rfl (fun ls hl => ?_)
          refine lv_iinc (v := nI (i + 1)) (lv' := [(4, .int (nI (i + 1))), (1, .int (nI (bC (L.take (i + 1))))), (5, .ref x.1), (0, .ref b), (2, .ref b), (3, .int (nI L.length))]) hx hb dX13_many_56 hl (k := 5) rfl (nI_1 i) (by decide) rfl (fun ls hl => ?_)
          refine lv_goto (tgt := 10) hx hb dX13_many_59 (by decide) ?_
          exact ih (i + 1) hlt (by omega) _ _ _ hW hS (lv_sub hl [3, 1, 4, 5, 0] rfl)
        · have hb9 : bC L9 ≤ 20 := by omega
          refine lv_astore (lv' := [(5, .ref x.1), (0, .ref b), (1, .int (nI (bC (L.take i)))), (2, .ref b), (3, .int (nI L.length)), (4, .int (nI i))]) hx hb dX13_many_20 hl (by decide) rfl (fun ls hl => ?_)
          refine lv_iload_n hx hb dX13_many_22 rfl (lv_at hl 2 rfl) ?_
          refine lv_iconst (v := 1) hx hb dX13_many_23 (by decide) ?_
          refine lv_aload hx hb dX13_many_24 (lv_at hl 0 rfl) ?_
          refine q_get hx hb hts hown hA hW iX13 hcx rfl 6 (by decide) (hts (.fieldLink RX13 22 "HighRecipesLaw$Act" "block" "[LHighRecipesLaw$Act;") (by decide +kernel)) (fun _ h9 => h9) (v := .ref b9) rfl dX13_many_26 ?_
          refine q_ci (va_runS (As := [.ref b9]) (rest := [.int 1, .int (nI (bC (L.take i)))]) ⟨hx, hb, hml, hown, hts⟩ (kX13_many_3 l E f n b9 pn R RS P L9 hL9 hb9) (va_cwS 1 hts gX13_many_X13_many rfl rfl rfl (by decide +kernel) ⟨(Nat.le_of_ble_eq_true rfl), (Nat.le_of_ble_eq_true rfl)⟩) (q_pS hA hW hS) rfl rfl hl.1 rfl (lv_room (Nat.le_of_ble_eq_true rfl)) dX13_many_29 ⟨(Nat.le_of_ble_eq_true rfl), (Nat.le_of_ble_eq_true rfl)⟩) hS (fun r_29 f_29 n_29 H locs hp hW hS => ?_)
          obtain ⟨rfl, rfl, rfl⟩ := hp
          have hW : q_W E (f) n H := hW
          refine lv_iadd hx hb dX13_many_32 ?_
          rw [show 1 + nI (bC L9) = nI (1 + bC L9) from nI_add 1 _]
          refine lv_aload hx hb dX13_many_33 (lv_at hl 0 rfl) ?_
          refine q_get hx hb hts hown hA hW iX13 hcx rfl 7 (by decide) (hts (.fieldLink RX13 58 "HighRecipesLaw$Act" "other" "[LHighRecipesLaw$Act;") (by decide +kernel)) (fun _ h9 => h9) (v := .ref b92) rfl dX13_many_35 ?_
          refine lv_ifnonnull (tgt := 45) hx hb dX13_many_38 (by decide) ?_
          refine lv_aload hx hb dX13_many_45 (lv_at hl 0 rfl) ?_
          refine q_get hx hb hts hown hA hW iX13 hcx rfl 7 (by decide) (hts (.fieldLink RX13 58 "HighRecipesLaw$Act" "other" "[LHighRecipesLaw$Act;") (by decide +kernel)) (fun _ h9 => h9) (v := .ref b92) rfl dX13_many_47 ?_
          refine q_ci (va_runS (As := [.ref b92]) (rest := [.int (nI (1 + bC L9)), .int (nI (bC (L.take i)))]) ⟨hx, hb, hml, hown, hts⟩ (kX13_many_3 l E f n b92 pn R RS P L92 hL92 (by omega)) (va_cwS 1 hts gX13_many_X13_many rfl rfl rfl (by decide +kernel) ⟨(Nat.le_of_ble_eq_true rfl), (Nat.le_of_ble_eq_true rfl)⟩) (q_pS hA hW hS) rfl rfl hl.1 rfl (lv_room (Nat.le_of_ble_eq_true rfl)) dX13_many_50 ⟨(Nat.le_of_ble_eq_true rfl), (Nat.le_of_ble_eq_true rfl)⟩) hS (fun r_50 f_50 n_50 H locs hp hW hS => ?_)
          obtain ⟨rfl, rfl, rfl⟩ := hp
          have hW : q_W E (f) n H := hW
          refine lv_iadd hx hb dX13_many_53 ?_
          rw [show nI (1 + bC L9) + nI (bC L92) = nI (1 + x.2.2.2) from by rw [nI_add, hx9, Nat.add_assoc]]
          refine lv_iadd hx hb dX13_many_54 ?_
          rw [show nI (bC (L.take i)) + nI (1 + x.2.2.2) = nI (bC (L.take (i + 1))) from by rw [nI_add, hbc, Nat.add_assoc]]
          refine lv_istore_n (lv' := [(1, .int (nI (bC (L.take (i + 1))))), (5, .ref x.1), (0, .ref b), (2, .ref b), (3, .int (nI L.length)), (4, .int (nI i))]) hx hb dX13_many_55 rfl hl (by decide) rfl (fun ls hl => ?_)
          refine lv_iinc (v := nI (i + 1)) (lv' := [(4, .int (nI (i + 1))), (1, .int (nI (bC (L.take (i + 1))))), (5, .ref x.1), (0, .ref b), (2, .ref b), (3, .int (nI L.length))]) hx hb dX13_many_56 hl (k := 5) rfl (nI_1 i) (by decide) rfl (fun ls hl => ?_)
          refine lv_goto (tgt := 10) hx hb dX13_many_59 (by decide) ?_
          exact ih (i + 1) hlt (by omega) _ _ _ hW hS (lv_sub hl [3, 1, 4, 5, 0] rfl)
  exact K10 _ 0 (Nat.zero_le _) (Nat.lt_succ_self _) _ _ _ hW hS (lv_sub hl [4, 3, 2, 1, 0] rfl)

set_option maxHeartbeats 4000000 in
set_option maxRecDepth 100000 in
theorem kX15_warnings (l : Launch) (E : q_E) (f : q_H) (n : Nat) (k pa re ki wa no pn : Nat) (pr : Nat → Nat) (hd v : q_V) (b : Nat) (w : Int32)  (hK : LK E f k pa re ki wa no pn pr hd v b w) (h6 : v 6 = 0) : Met l yX15_warnings wsX15_warnings ({ frames := 0, cells := 0, slots := 0, locals := 0 }) (q_P E [.ref k] f n) (q_Qi E (fun r f1 n1 => v 7 + v 8 + v 9 + v 10 + v 11 = r ∧ f = f1 ∧ n = n1)) 0 0 (q_ge E) := by
  refine Met.ofW (cc := cX15_warnings) (maxL := 6) (ret := (some .int)) (by decide) rfl ?_
  intro p0_ e0_ s0_ m0_ args0_ below0_ meth0_ c0_ s1_ B0_ hml hv
  obtain ⟨rfl, hA, hW⟩ := hv
  have hx := B0_.exec
  have hb := B0_.bytes
  have hr := B0_.returns
  have hts := atoms_spec (ws := wsX15_warnings) B0_.pre
  have hown : s0_.vm.findClass RX15 = some m0_.cls := findClass_of_methodNamed B0_.named
  have hlocks := B0_.notSynchronized
  have hS : va_S (q_ge E) s0_.heap s0_.heap [] := va_S.rf
  have iX15 : ∀ w ∈ wsX150, w ∈ wsX15_warnings := by decide +kernel
  have hl := lv_entry ([.ref k]) (n := 6) (Nat.le_of_ble_eq_true rfl)
  rw [lg_entry_eq]
  generalize (lg_sl ([.ref k]) ++ List.replicate (6 - (lg_sl ([.ref k])).length) Slot.unset).toArray = ls at hl ⊢
  have hl : lv_has ls 6 [(0, .ref k)] := hl
  obtain ⟨hk0, ⟨gk, hki, hkv⟩, ⟨gw, hwa, hwv⟩, ⟨gn, hno, hnv⟩, ⟨gp, hpa, hpv⟩, hrow⟩ := id hK
  have l_k := hW.lt hk0
  have l_ki := hW.lt hki
  have l_wa := hW.lt hwa
  have l_no := hW.lt hno
  have l_pa := hW.lt hpa
  refine lv_iconst (v := 0) hx hb dX15_warnings_0 (by decide) ?_
  refine lv_istore_n (lv' := [(1, .int 0), (0, .ref k)]) hx hb dX15_warnings_1 rfl hl (by decide) rfl (fun ls hl => ?_)
  refine lv_aload_n hx hb dX15_warnings_2 rfl (lv_at hl 1 rfl) ?_
  refine q_get hx hb hts hown hA hW iX15 hk0 rfl 6 (by decide) (hts (.fieldLink RX15 28 "HighRecipesLaw$Kitchen" "kinds" "[I") (by decide +kernel)) (fun _ h9 => h9) (v := .ref ki) rfl dX15_warnings_3 ?_
  refine lv_astore_n (lv' := [(2, .ref ki), (1, .int 0), (0, .ref k)]) hx hb dX15_warnings_6 rfl hl (by decide) rfl (fun ls hl => ?_)
  refine lv_aload_n hx hb dX15_warnings_7 rfl (lv_at hl 0 rfl) ?_
  refine q_alen hx hb hA hW 0 rfl hki (v := 6) rfl dX15_warnings_8 ?_
  refine lv_istore_n (lv' := [(3, .int 6), (2, .ref ki), (1, .int 0), (0, .ref k)]) hx hb dX15_warnings_9 rfl hl (by decide) rfl (fun ls hl => ?_)
  refine lv_iconst (v := 0) hx hb dX15_warnings_10 (by decide) ?_
  refine lv_istore (lv' := [(4, .int 0), (3, .int 6), (2, .ref ki), (1, .int 0), (0, .ref k)]) hx hb dX15_warnings_11 hl (by decide) rfl (fun ls hl => ?_)
  refine lv_iload hx hb dX15_warnings_13 (lv_at hl 0 rfl) ?_
  refine lv_iload_n hx hb dX15_warnings_15 rfl (lv_at hl 1 rfl) ?_
  refine lv_icmp_ge (tgt := 36) hx hb dX15_warnings_16 (by decide) (fun c_16 => absurd c_16 (by decide)) (fun c_16 => ?_)
  refine lv_aload_n hx hb dX15_warnings_19 rfl (lv_at hl 2 rfl) ?_
  refine lv_iload hx hb dX15_warnings_20 (lv_at hl 0 rfl) ?_
  refine q_iald hx hb hA hW hki (vp_in_nI (n := 0) (by decide) (by decide)) dX15_warnings_22 ?_
  rw [show gk (0 : Int32).toNatClampNeg = v 6 from hkv 0 (by decide)]
  refine lv_istore (lv' := [(5, .int (v 6)), (4, .int 0), (3, .int 6), (2, .ref ki), (1, .int 0), (0, .ref k)]) hx hb dX15_warnings_23 hl (by decide) rfl (fun ls hl => ?_)
  refine lv_iload_n hx hb dX15_warnings_25 rfl (lv_at hl 4 rfl) ?_
  refine lv_iload hx hb dX15_warnings_26 (lv_at hl 0 rfl) ?_
  refine lv_iadd hx hb dX15_warnings_28 ?_
  refine lv_istore_n (lv' := [(1, .int (0 + (v 6))), (5, .int (v 6)), (4, .int 0), (3, .int 6), (2, .ref ki), (0, .ref k)]) hx hb dX15_warnings_29 rfl hl (by decide) rfl (fun ls hl => ?_)
  refine lv_iinc (v := 1) (lv' := [(4, .int 1), (1, .int (0 + (v 6))), (5, .int (v 6)), (3, .int 6), (2, .ref ki), (0, .ref k)]) hx hb dX15_warnings_30 hl (k := 2) rfl (by decide) (by decide) rfl (fun ls hl => ?_)
  refine lv_goto (tgt := 13) hx hb dX15_warnings_33 (by decide) ?_
  refine lv_iload hx hb dX15_warnings_13 (lv_at hl 0 rfl) ?_
  refine lv_iload_n hx hb dX15_warnings_15 rfl (lv_at hl 3 rfl) ?_
  refine lv_icmp_ge (tgt := 36) hx hb dX15_warnings_16 (by decide) (fun c_16 => absurd c_16 (by decide)) (fun c_16 => ?_)
  refine lv_aload_n hx hb dX15_warnings_19 rfl (lv_at hl 4 rfl) ?_
  refine lv_iload hx hb dX15_warnings_20 (lv_at hl 0 rfl) ?_
  refine q_iald hx hb hA hW hki (vp_in_nI (n := 1) (by decide) (by decide)) dX15_warnings_22 ?_
  rw [show gk (1 : Int32).toNatClampNeg = v 7 from hkv 1 (by decide)]
  refine lv_istore (lv' := [(5, .int (v 7)), (4, .int 1), (1, .int (0 + (v 6))), (3, .int 6), (2, .ref ki), (0, .ref k)]) hx hb dX15_warnings_23 hl (by decide) rfl (fun ls hl => ?_)
  refine lv_iload_n hx hb dX15_warnings_25 rfl (lv_at hl 2 rfl) ?_
  refine lv_iload hx hb dX15_warnings_26 (lv_at hl 0 rfl) ?_
  refine lv_iadd hx hb dX15_warnings_28 ?_
  refine lv_istore_n (lv' := [(1, .int ((0 + (v 6)) + (v 7))), (5, .int (v 7)), (4, .int 1), (3, .int 6), (2, .ref ki), (0, .ref k)]) hx hb dX15_warnings_29 rfl hl (by decide) rfl (fun ls hl => ?_)
  refine lv_iinc (v := 2) (lv' := [(4, .int 2), (1, .int ((0 + (v 6)) + (v 7))), (5, .int (v 7)), (3, .int 6), (2, .ref ki), (0, .ref k)]) hx hb dX15_warnings_30 hl (k := 2) rfl (by decide) (by decide) rfl (fun ls hl => ?_)
  refine lv_goto (tgt := 13) hx hb dX15_warnings_33 (by decide) ?_
  refine lv_iload hx hb dX15_warnings_13 (lv_at hl 0 rfl) ?_
  refine lv_iload_n hx hb dX15_warnings_15 rfl (lv_at hl 3 rfl) ?_
  refine lv_icmp_ge (tgt := 36) hx hb dX15_warnings_16 (by decide) (fun c_16 => absurd c_16 (by decide)) (fun c_16 => ?_)
  refine lv_aload_n hx hb dX15_warnings_19 rfl (lv_at hl 4 rfl) ?_
  refine lv_iload hx hb dX15_warnings_20 (lv_at hl 0 rfl) ?_
  refine q_iald hx hb hA hW hki (vp_in_nI (n := 2) (by decide) (by decide)) dX15_warnings_22 ?_
  rw [show gk (2 : Int32).toNatClampNeg = v 8 from hkv 2 (by decide)]
  refine lv_istore (lv' := [(5, .int (v 8)), (4, .int 2), (1, .int ((0 + (v 6)) + (v 7))), (3, .int 6), (2, .ref ki), (0, .ref k)]) hx hb dX15_warnings_23 hl (by decide) rfl (fun ls hl => ?_)
  refine lv_iload_n hx hb dX15_warnings_25 rfl (lv_at hl 2 rfl) ?_
  refine lv_iload hx hb dX15_warnings_26 (lv_at hl 0 rfl) ?_
  refine lv_iadd hx hb dX15_warnings_28 ?_
  refine lv_istore_n (lv' := [(1, .int (((0 + (v 6)) + (v 7)) + (v 8))), (5, .int (v 8)), (4, .int 2), (3, .int 6), (2, .ref ki), (0, .ref k)]) hx hb dX15_warnings_29 rfl hl (by decide) rfl (fun ls hl => ?_)
  refine lv_iinc (v := 3) (lv' := [(4, .int 3), (1, .int (((0 + (v 6)) + (v 7)) + (v 8))), (5, .int (v 8)), (3, .int 6), (2, .ref ki), (0, .ref k)]) hx hb dX15_warnings_30 hl (k := 2) rfl (by decide) (by decide) rfl (fun ls hl => ?_)
  refine lv_goto (tgt := 13) hx hb dX15_warnings_33 (by decide) ?_
  refine lv_iload hx hb dX15_warnings_13 (lv_at hl 0 rfl) ?_
  refine lv_iload_n hx hb dX15_warnings_15 rfl (lv_at hl 3 rfl) ?_
  refine lv_icmp_ge (tgt := 36) hx hb dX15_warnings_16 (by decide) (fun c_16 => absurd c_16 (by decide)) (fun c_16 => ?_)
  refine lv_aload_n hx hb dX15_warnings_19 rfl (lv_at hl 4 rfl) ?_
  refine lv_iload hx hb dX15_warnings_20 (lv_at hl 0 rfl) ?_
  refine q_iald hx hb hA hW hki (vp_in_nI (n := 3) (by decide) (by decide)) dX15_warnings_22 ?_
  rw [show gk (3 : Int32).toNatClampNeg = v 9 from hkv 3 (by decide)]
  refine lv_istore (lv' := [(5, .int (v 9)), (4, .int 3), (1, .int (((0 + (v 6)) + (v 7)) + (v 8))), (3, .int 6), (2, .ref ki), (0, .ref k)]) hx hb dX15_warnings_23 hl (by decide) rfl (fun ls hl => ?_)
  refine lv_iload_n hx hb dX15_warnings_25 rfl (lv_at hl 2 rfl) ?_
  refine lv_iload hx hb dX15_warnings_26 (lv_at hl 0 rfl) ?_
  refine lv_iadd hx hb dX15_warnings_28 ?_
  refine lv_istore_n (lv' := [(1, .int ((((0 + (v 6)) + (v 7)) + (v 8)) + (v 9))), (5, .int (v 9)), (4, .int 3), (3, .int 6), (2, .ref ki), (0, .ref k)]) hx hb dX15_warnings_29 rfl hl (by decide) rfl (fun ls hl => ?_)
  refine lv_iinc (v := 4) (lv' := [(4, .int 4), (1, .int ((((0 + (v 6)) + (v 7)) + (v 8)) + (v 9))), (5, .int (v 9)), (3, .int 6), (2, .ref ki), (0, .ref k)]) hx hb dX15_warnings_30 hl (k := 2) rfl (by decide) (by decide) rfl (fun ls hl => ?_)
  refine lv_goto (tgt := 13) hx hb dX15_warnings_33 (by decide) ?_
  refine lv_iload hx hb dX15_warnings_13 (lv_at hl 0 rfl) ?_
  refine lv_iload_n hx hb dX15_warnings_15 rfl (lv_at hl 3 rfl) ?_
  refine lv_icmp_ge (tgt := 36) hx hb dX15_warnings_16 (by decide) (fun c_16 => absurd c_16 (by decide)) (fun c_16 => ?_)
  refine lv_aload_n hx hb dX15_warnings_19 rfl (lv_at hl 4 rfl) ?_
  refine lv_iload hx hb dX15_warnings_20 (lv_at hl 0 rfl) ?_
  refine q_iald hx hb hA hW hki (vp_in_nI (n := 4) (by decide) (by decide)) dX15_warnings_22 ?_
  rw [show gk (4 : Int32).toNatClampNeg = v 10 from hkv 4 (by decide)]
  refine lv_istore (lv' := [(5, .int (v 10)), (4, .int 4), (1, .int ((((0 + (v 6)) + (v 7)) + (v 8)) + (v 9))), (3, .int 6), (2, .ref ki), (0, .ref k)]) hx hb dX15_warnings_23 hl (by decide) rfl (fun ls hl => ?_)
  refine lv_iload_n hx hb dX15_warnings_25 rfl (lv_at hl 2 rfl) ?_
  refine lv_iload hx hb dX15_warnings_26 (lv_at hl 0 rfl) ?_
  refine lv_iadd hx hb dX15_warnings_28 ?_
  refine lv_istore_n (lv' := [(1, .int (((((0 + (v 6)) + (v 7)) + (v 8)) + (v 9)) + (v 10))), (5, .int (v 10)), (4, .int 4), (3, .int 6), (2, .ref ki), (0, .ref k)]) hx hb dX15_warnings_29 rfl hl (by decide) rfl (fun ls hl => ?_)
  refine lv_iinc (v := 5) (lv' := [(4, .int 5), (1, .int (((((0 + (v 6)) + (v 7)) + (v 8)) + (v 9)) + (v 10))), (5, .int (v 10)), (3, .int 6), (2, .ref ki), (0, .ref k)]) hx hb dX15_warnings_30 hl (k := 2) rfl (by decide) (by decide) rfl (fun ls hl => ?_)
  refine lv_goto (tgt := 13) hx hb dX15_warnings_33 (by decide) ?_
  refine lv_iload hx hb dX15_warnings_13 (lv_at hl 0 rfl) ?_
  refine lv_iload_n hx hb dX15_warnings_15 rfl (lv_at hl 3 rfl) ?_
  refine lv_icmp_ge (tgt := 36) hx hb dX15_warnings_16 (by decide) (fun c_16 => absurd c_16 (by decide)) (fun c_16 => ?_)
  refine lv_aload_n hx hb dX15_warnings_19 rfl (lv_at hl 4 rfl) ?_
  refine lv_iload hx hb dX15_warnings_20 (lv_at hl 0 rfl) ?_
  refine q_iald hx hb hA hW hki (vp_in_nI (n := 5) (by decide) (by decide)) dX15_warnings_22 ?_
  rw [show gk (5 : Int32).toNatClampNeg = v 11 from hkv 5 (by decide)]
  refine lv_istore (lv' := [(5, .int (v 11)), (4, .int 5), (1, .int (((((0 + (v 6)) + (v 7)) + (v 8)) + (v 9)) + (v 10))), (3, .int 6), (2, .ref ki), (0, .ref k)]) hx hb dX15_warnings_23 hl (by decide) rfl (fun ls hl => ?_)
  refine lv_iload_n hx hb dX15_warnings_25 rfl (lv_at hl 2 rfl) ?_
  refine lv_iload hx hb dX15_warnings_26 (lv_at hl 0 rfl) ?_
  refine lv_iadd hx hb dX15_warnings_28 ?_
  refine lv_istore_n (lv' := [(1, .int ((((((0 + (v 6)) + (v 7)) + (v 8)) + (v 9)) + (v 10)) + (v 11))), (5, .int (v 11)), (4, .int 5), (3, .int 6), (2, .ref ki), (0, .ref k)]) hx hb dX15_warnings_29 rfl hl (by decide) rfl (fun ls hl => ?_)
  refine lv_iinc (v := 6) (lv' := [(4, .int 6), (1, .int ((((((0 + (v 6)) + (v 7)) + (v 8)) + (v 9)) + (v 10)) + (v 11))), (5, .int (v 11)), (3, .int 6), (2, .ref ki), (0, .ref k)]) hx hb dX15_warnings_30 hl (k := 2) rfl (by decide) (by decide) rfl (fun ls hl => ?_)
  refine lv_goto (tgt := 13) hx hb dX15_warnings_33 (by decide) ?_
  refine lv_iload hx hb dX15_warnings_13 (lv_at hl 0 rfl) ?_
  refine lv_iload_n hx hb dX15_warnings_15 rfl (lv_at hl 3 rfl) ?_
  refine lv_icmp_ge (tgt := 36) hx hb dX15_warnings_16 (by decide) (fun c_16 => ?_) (fun c_16 => absurd c_16 (by decide))
  refine lv_iload_n hx hb dX15_warnings_36 rfl (lv_at hl 1 rfl) ?_
  exact q_iret hx hb hr hlocks hW hS ⟨(by rw [h6, Int32.zero_add, Int32.zero_add]), rfl, rfl⟩ (Nat.le_of_ble_eq_true rfl) (Nat.le_of_ble_eq_true rfl) dX15_warnings_37

set_option maxHeartbeats 4000000 in
set_option maxRecDepth 100000 in
theorem kX15_isSame (l : Launch) (E : q_E) (f : q_H) (n : Nat) (a c nb r k : Nat) (s : Int32) (X : Nat → Prop) (BB pn NR : Nat) (ac : Int32) (hd v : q_V) (RS : Nat → q_S)  (hJ : JA E a c nb r k s X f n BB pn NR ac hd v v RS) (hB : BB ≤ 2 ^ 29) : Met l yX15_isSame wsX15_isSame ({ frames := 12, cells := 0, slots := 0, locals := 400 }) (q_P E [.ref k, .ref a] f n) (q_Qi E (fun r f1 n1 => 1 = r ∧ f = f1 ∧ n = n1)) 0 0 (q_ge E) := by
  refine Met.ofW (cc := cX15_isSame) (maxL := 8) (ret := (some .boolean)) (by decide) rfl ?_
  intro p0_ e0_ s0_ m0_ args0_ below0_ meth0_ c0_ s1_ B0_ hml hv
  obtain ⟨rfl, hA, hW⟩ := hv
  have hx := B0_.exec
  have hb := B0_.bytes
  have hr := B0_.returns
  have hts := atoms_spec (ws := wsX15_isSame) B0_.pre
  have hown : s0_.vm.findClass RX15 = some m0_.cls := findClass_of_methodNamed B0_.named
  have hlocks := B0_.notSynchronized
  have hS : va_S (q_ge E) s0_.heap s0_.heap [] := va_S.rf
  have iX15 : ∀ w ∈ wsX150, w ∈ wsX15_isSame := by decide +kernel
  have hl := lv_entry ([.ref k, .ref a]) (n := 8) (Nat.le_of_ble_eq_true rfl)
  rw [lg_entry_eq]
  generalize (lg_sl ([.ref k, .ref a]) ++ List.replicate (8 - (lg_sl ([.ref k, .ref a])).length) Slot.unset).toArray = ls at hl ⊢
  have hl : lv_has ls 8 [(0, .ref k), (1, .ref a)] := hl
  obtain ⟨hp1, hp4, hN1, hN3, hgm, -, y1, y2, y3⟩ := hJ.num
  have hvo := hgm.1
  have hsm := hgm.2.1
  have hkI := hgm.2.2
  have hT30 : k_T v < 2 ^ 30 ∧ k_N v < 2 ^ 30 := hkI.T hB
  obtain ⟨P_0, pa_0, re_0, ki_0, wa_0, no_0, pr_0, b_0, w_0, hK_0, hs_0, hR_0, hO_0, hXk_0, hck_0⟩ := hJ.k
  obtain ⟨hk0_0, ⟨gk_0, hki_0, hkv_0⟩, ⟨gw_0, hwa_0, hwv_0⟩, ⟨gn_0, hno_0, hnv_0⟩, ⟨gp_0, hpa_0, hpv_0⟩, hrow_0⟩ := id hK_0
  obtain ⟨gre_0, hPre_0, hre_0, -⟩ := id hR_0
  have lk_0 := hW.lt hk0_0
  have lki_0 := hW.lt hki_0
  have lwa_0 := hW.lt hwa_0
  have lno_0 := hW.lt hno_0
  have lpa_0 := hW.lt hpa_0
  have nk_0 := hJ.ne
  have npa_0 := ne_ab hJ.dice hpa_0
  have nre_0 := ne_ab hJ.dice hre_0
  have nki_0 := ne_ab hJ.dice hki_0
  have nwa_0 := ne_ab hJ.dice hwa_0
  have nno_0 := ne_ab hJ.dice hno_0
  obtain ⟨P9, cnt_0, hcn_0, hac_0⟩ := hJ.cnts hk0_0 hre_0
  refine lv_iconst (v := 0) hx hb dX15_isSame_0 (by decide) ?_
  refine lv_istore_n (lv' := [(2, .int 0), (0, .ref k), (1, .ref a)]) hx hb dX15_isSame_1 rfl hl (by decide) rfl (fun ls hl => ?_)
  refine lv_iconst (v := 0) hx hb dX15_isSame_2 (by decide) ?_
  refine lv_istore_n (lv' := [(3, .int 0), (2, .int 0), (0, .ref k), (1, .ref a)]) hx hb dX15_isSame_3 rfl hl (by decide) rfl (fun ls hl => ?_)
  have K4 : ∀ (fu : Nat) (p9 : Nat) (hp9 : p9 ≤ pn) (hm : pn - p9 < fu) (H : Heap) (locs : List Loc) (ls : Array Slot), q_W E (f) n H → va_S (q_ge E) s0_.heap H locs → lv_has ls 8 [(0, .ref k), (1, .ref a), (2, .int (z_sum v p9)), (3, .int (nI p9))] → W p0_ l e0_ (headSpec wsX15_isSame ({ frames := 12, cells := 0, slots := 0, locals := 400 })).room s0_ m0_ ([.ref k, .ref a] : List Value).toArray below0_ meth0_ c0_ H locs 0 0 (MQ below0_ (q_Qi E (fun r f1 n1 => 1 = r ∧ f = f1 ∧ n = n1)) ([.ref k, .ref a] : List Value).toArray s0_ 0 0 (q_ge E)) (F0 m0_ 4 ls []) := by
    intro fu
    induction fu with
    | zero =>
      intro p9 hp9 hm
      exact absurd hm (Nat.not_lt_zero _)
    | succ fu ih =>
      intro p9 hp9 hm H locs ls hW hS hl
      refine lv_iload_n hx hb dX15_isSame_4 rfl (lv_at hl 3 rfl) ?_
      refine lv_aload_n hx hb dX15_isSame_5 rfl (lv_at hl 0 rfl) ?_
      refine q_get hx hb hts hown hA hW iX15 hk0_0 rfl 4 (by decide) (hts (.fieldLink RX15 18 "HighRecipesLaw$Kitchen" "pans" "[[I") (by decide +kernel)) (fun _ h9 => h9) (v := .ref pa_0) rfl dX15_isSame_6 ?_
      refine q_alen hx hb hA hW 8 rfl hpa_0 (v := nI pn) rfl dX15_isSame_9 ?_
      refine lv_icmp_ge (tgt := 109) hx hb dX15_isSame_10 (by decide) (fun c_10 => ?_) (fun c_10 => ?_)
      · have hpp : p9 = pn := Nat.le_antisymm hp9 (q_leN (by omega) c_10)
        rw [hpp] at hl
        refine lv_iconst (v := 1) hx hb dX15_isSame_109 (by decide) ?_
        refine lv_istore_n (lv' := [(3, .int 1), (0, .ref k), (1, .ref a), (2, .int (z_sum v pn))]) hx hb dX15_isSame_110 rfl hl (by decide) rfl (fun ls hl => ?_)
        have K111 : ∀ (fu : Nat) (k9 : Nat) (hk1 : 1 ≤ k9) (hk6 : k9 ≤ 6) (hm : 6 - k9 < fu) (H : Heap) (locs : List Loc) (ls : Array Slot), q_W E (f) n H → va_S (q_ge E) s0_.heap H locs → lv_has ls 8 [(0, .ref k), (1, .ref a), (2, .int (z_sum v pn)), (3, .int (nI k9))] → W p0_ l e0_ (headSpec wsX15_isSame ({ frames := 12, cells := 0, slots := 0, locals := 400 })).room s0_ m0_ ([.ref k, .ref a] : List Value).toArray below0_ meth0_ c0_ H locs 0 0 (MQ below0_ (q_Qi E (fun r f1 n1 => 1 = r ∧ f = f1 ∧ n = n1)) ([.ref k, .ref a] : List Value).toArray s0_ 0 0 (q_ge E)) (F0 m0_ 111 ls []) := by
          intro fu
          induction fu with
          | zero =>
            intro k9 hk1 hk6 hm
            exact absurd hm (Nat.not_lt_zero _)
          | succ fu ih =>
            intro k9 hk1 hk6 hm H locs ls hW hS hl
            refine lv_iload_n hx hb dX15_isSame_111 rfl (lv_at hl 3 rfl) ?_
            refine lv_bipush (v := 6) hx hb dX15_isSame_112 (by decide) ?_
            refine lv_icmp_ge (tgt := 139) hx hb dX15_isSame_114 (by decide) (fun c_114 => ?_) (fun c_114 => ?_)
            · refine lv_iconst (v := 0) hx hb dX15_isSame_139 (by decide) ?_
              refine lv_istore_n (lv' := [(3, .int 0), (0, .ref k), (1, .ref a), (2, .int (z_sum v pn))]) hx hb dX15_isSame_140 rfl hl (by decide) rfl (fun ls hl => ?_)
              have K141 : ∀ (fu : Nat) (w9 : Nat) (hw9 : w9 ≤ min (k_T v) 20) (hm : min (k_T v) 20 - w9 < fu) (H : Heap) (locs : List Loc) (ls : Array Slot), q_W E (f) n H → va_S (q_ge E) s0_.heap H locs → lv_has ls 8 [(0, .ref k), (1, .ref a), (2, .int (z_sum v pn)), (3, .int (nI w9))] → W p0_ l e0_ (headSpec wsX15_isSame ({ frames := 12, cells := 0, slots := 0, locals := 400 })).room s0_ m0_ ([.ref k, .ref a] : List Value).toArray below0_ meth0_ c0_ H locs 0 0 (MQ below0_ (q_Qi E (fun r f1 n1 => 1 = r ∧ f = f1 ∧ n = n1)) ([.ref k, .ref a] : List Value).toArray s0_ 0 0 (q_ge E)) (F0 m0_ 141 ls []) := by
                intro fu
                induction fu with
                | zero =>
                  intro w9 hw9 hm
                  exact absurd hm (Nat.not_lt_zero _)
                | succ fu ih =>
                  intro w9 hw9 hm H locs ls hW hS hl
                  refine lv_iload_n hx hb dX15_isSame_141 rfl (lv_at hl 3 rfl) ?_
                  refine lv_aload_n hx hb dX15_isSame_142 rfl (lv_at hl 0 rfl) ?_
                  refine q_get hx hb hts hown hA hW iX15 hk0_0 rfl 7 (by decide) (hts (.fieldLink RX15 31 "HighRecipesLaw$Kitchen" "warned" "[I") (by decide +kernel)) (fun _ h9 => h9) (v := .ref wa_0) rfl dX15_isSame_143 ?_
                  refine q_alen hx hb hA hW 0 rfl hwa_0 (v := nI (min (k_T v) 20)) rfl dX15_isSame_146 ?_
                  refine lv_icmp_ge (tgt := 172) hx hb dX15_isSame_147 (by decide) (fun c_147 => ?_) (fun c_147 => ?_)
                  · refine lv_iconst (v := 0) hx hb dX15_isSame_172 (by decide) ?_
                    refine lv_istore_n (lv' := [(3, .int 0), (0, .ref k), (1, .ref a), (2, .int (z_sum v pn))]) hx hb dX15_isSame_173 rfl hl (by decide) rfl (fun ls hl => ?_)
                    have K174 : ∀ (fu : Nat) (n9 : Nat) (hn9 : n9 ≤ min (k_N v) 20) (hm : min (k_N v) 20 - n9 < fu) (H : Heap) (locs : List Loc) (ls : Array Slot), q_W E (f) n H → va_S (q_ge E) s0_.heap H locs → lv_has ls 8 [(0, .ref k), (1, .ref a), (2, .int (z_sum v pn)), (3, .int (nI n9))] → W p0_ l e0_ (headSpec wsX15_isSame ({ frames := 12, cells := 0, slots := 0, locals := 400 })).room s0_ m0_ ([.ref k, .ref a] : List Value).toArray below0_ meth0_ c0_ H locs 0 0 (MQ below0_ (q_Qi E (fun r f1 n1 => 1 = r ∧ f = f1 ∧ n = n1)) ([.ref k, .ref a] : List Value).toArray s0_ 0 0 (q_ge E)) (F0 m0_ 174 ls []) := by
                      intro fu
                      induction fu with
                      | zero =>
                        intro n9 hn9 hm
                        exact absurd hm (Nat.not_lt_zero _)
                      | succ fu ih =>
                        intro n9 hn9 hm H locs ls hW hS hl
                        refine lv_iload_n hx hb dX15_isSame_174 rfl (lv_at hl 3 rfl) ?_
                        refine lv_aload_n hx hb dX15_isSame_175 rfl (lv_at hl 0 rfl) ?_
                        refine q_get hx hb hts hown hA hW iX15 hk0_0 rfl 8 (by decide) (hts (.fieldLink RX15 34 "HighRecipesLaw$Kitchen" "noted" "[I") (by decide +kernel)) (fun _ h9 => h9) (v := .ref no_0) rfl dX15_isSame_176 ?_
                        refine q_alen hx hb hA hW 0 rfl hno_0 (v := nI (min (k_N v) 20)) rfl dX15_isSame_179 ?_
                        refine lv_icmp_ge (tgt := 205) hx hb dX15_isSame_180 (by decide) (fun c_180 => ?_) (fun c_180 => ?_)
                        · refine lv_iconst (v := 0) hx hb dX15_isSame_205 (by decide) ?_
                          refine lv_istore_n (lv' := [(3, .int 0), (0, .ref k), (1, .ref a), (2, .int (z_sum v pn))]) hx hb dX15_isSame_206 rfl hl (by decide) rfl (fun ls hl => ?_)
                          refine lv_aload_n hx hb dX15_isSame_207 rfl (lv_at hl 1 rfl) ?_
                          refine q_get hx hb hts hown hA hW iX15 hk0_0 rfl 5 (by decide) (hts (.fieldLink RX15 24 "HighRecipesLaw$Kitchen" "recipes" "[[LHighRecipesLaw$Act;") (by decide +kernel)) (fun _ h9 => h9) (v := .ref re_0) rfl dX15_isSame_208 ?_
                          refine lv_astore (lv' := [(4, .ref re_0), (3, .int 0), (0, .ref k), (1, .ref a), (2, .int (z_sum v pn))]) hx hb dX15_isSame_211 hl (by decide) rfl (fun ls hl => ?_)
                          refine lv_aload hx hb dX15_isSame_213 (lv_at hl 0 rfl) ?_
                          refine q_alen hx hb hA hW 9 rfl hre_0 (v := nI NR) rfl dX15_isSame_215 ?_
                          refine lv_istore (lv' := [(5, .int (nI NR)), (4, .ref re_0), (3, .int 0), (0, .ref k), (1, .ref a), (2, .int (z_sum v pn))]) hx hb dX15_isSame_216 hl (by decide) rfl (fun ls hl => ?_)
                          refine lv_iconst (v := 0) hx hb dX15_isSame_218 (by decide) ?_
                          refine lv_istore (lv' := [(6, .int 0), (5, .int (nI NR)), (4, .ref re_0), (3, .int 0), (0, .ref k), (1, .ref a), (2, .int (z_sum v pn))]) hx hb dX15_isSame_219 hl (by decide) rfl (fun ls hl => ?_)
                          have K221 : ∀ (fu : Nat) (o9 : Nat) (ho9 : o9 ≤ NR) (hm : NR - o9 < fu) (H : Heap) (locs : List Loc) (ls : Array Slot), q_W E (f) n H → va_S (q_ge E) s0_.heap H locs → lv_has ls 8 [(0, .ref k), (1, .ref a), (2, .int (z_sum v pn)), (3, .int (nI (psum cnt_0 o9))), (4, .ref re_0), (5, .int (nI NR)), (6, .int (nI o9))] → W p0_ l e0_ (headSpec wsX15_isSame ({ frames := 12, cells := 0, slots := 0, locals := 400 })).room s0_ m0_ ([.ref k, .ref a] : List Value).toArray below0_ meth0_ c0_ H locs 0 0 (MQ below0_ (q_Qi E (fun r f1 n1 => 1 = r ∧ f = f1 ∧ n = n1)) ([.ref k, .ref a] : List Value).toArray s0_ 0 0 (q_ge E)) (F0 m0_ 221 ls []) := by
                            intro fu
                            induction fu with
                            | zero =>
                              intro o9 ho9 hm
                              exact absurd hm (Nat.not_lt_zero _)
                            | succ fu ih =>
                              intro o9 ho9 hm H locs ls hW hS hl
                              refine lv_iload hx hb dX15_isSame_221 (lv_at hl 6 rfl) ?_
                              refine lv_iload hx hb dX15_isSame_223 (lv_at hl 5 rfl) ?_
                              refine lv_icmp_ge (tgt := 249) hx hb dX15_isSame_225 (by decide) (fun c_225 => ?_) (fun c_225 => ?_)
                              · have hop : o9 = NR := Nat.le_antisymm ho9 (q_leN (by omega) c_225)
                                rw [hop] at hl
                                refine lv_aload_n hx hb dX15_isSame_249 rfl (lv_at hl 1 rfl) ?_
                                refine q_ci (va_runV (As := []) (rest := []) ⟨hx, hb, hml, hown, hts⟩ (ja_pans l E f n a c nb r k s X BB pn NR ac hd v v RS hJ (fun q x e => hW.lt e)) (cwV 0 hts gX15_isSame_X12_pans rfl rfl rfl (by decide +kernel) ⟨(Nat.le_of_ble_eq_true rfl), (Nat.le_of_ble_eq_true rfl)⟩) (q_pV hA hW hS (ci := 12) rfl (Classical.choose_spec (Classical.choose_spec (Classical.choose_spec (Classical.choose_spec (Classical.choose_spec (Classical.choose_spec (Classical.choose_spec hJ.cell)))))))) rfl rfl hl.1 rfl (lv_room (Nat.le_of_ble_eq_true rfl)) dX15_isSame_250 ⟨(Nat.le_of_ble_eq_true rfl), (Nat.le_of_ble_eq_true rfl)⟩) hS (fun r_250 f_250 n_250 H locs hp hW hS => ?_)
                                obtain ⟨rfl, rfl, rfl⟩ := hp
                                have hW : q_W E (f) n H := hW
                                refine lv_aload_n hx hb dX15_isSame_253 rfl (lv_at hl 0 rfl) ?_
                                refine q_get hx hb hts hown hA hW iX15 hk0_0 rfl 4 (by decide) (hts (.fieldLink RX15 18 "HighRecipesLaw$Kitchen" "pans" "[[I") (by decide +kernel)) (fun _ h9 => h9) (v := .ref pa_0) rfl dX15_isSame_254 ?_
                                refine q_alen hx hb hA hW 8 rfl hpa_0 (v := nI pn) rfl dX15_isSame_257 ?_
                                refine lv_icmp_ne (tgt := 391) hx hb dX15_isSame_258 (by decide) (fun c_258 => False.elim ((fun h9 => h9 rfl) c_258)) (fun c_258 => ?_)
                                refine lv_aload_n hx hb dX15_isSame_261 rfl (lv_at hl 1 rfl) ?_
                                refine q_ci (va_runV (As := []) (rest := []) ⟨hx, hb, hml, hown, hts⟩ (ja_recipes l E f n a c nb r k s X BB pn NR ac hd v v RS hJ (fun q x e => hW.lt e)) (cwV 0 hts gX15_isSame_X12_recipes rfl rfl rfl (by decide +kernel) ⟨(Nat.le_of_ble_eq_true rfl), (Nat.le_of_ble_eq_true rfl)⟩) (q_pV hA hW hS (ci := 12) rfl (Classical.choose_spec (Classical.choose_spec (Classical.choose_spec (Classical.choose_spec (Classical.choose_spec (Classical.choose_spec (Classical.choose_spec hJ.cell)))))))) rfl rfl hl.1 rfl (lv_room (Nat.le_of_ble_eq_true rfl)) dX15_isSame_262 ⟨(Nat.le_of_ble_eq_true rfl), (Nat.le_of_ble_eq_true rfl)⟩) hS (fun r_262 f_262 n_262 H locs hp hW hS => ?_)
                                obtain ⟨rfl, rfl, rfl⟩ := hp
                                have hW : q_W E (f) n H := hW
                                refine lv_aload_n hx hb dX15_isSame_265 rfl (lv_at hl 0 rfl) ?_
                                refine q_get hx hb hts hown hA hW iX15 hk0_0 rfl 5 (by decide) (hts (.fieldLink RX15 24 "HighRecipesLaw$Kitchen" "recipes" "[[LHighRecipesLaw$Act;") (by decide +kernel)) (fun _ h9 => h9) (v := .ref re_0) rfl dX15_isSame_266 ?_
                                refine q_alen hx hb hA hW 9 rfl hre_0 (v := nI NR) rfl dX15_isSame_269 ?_
                                refine lv_icmp_ne (tgt := 391) hx hb dX15_isSame_270 (by decide) (fun c_270 => False.elim ((fun h9 => h9 rfl) c_270)) (fun c_270 => ?_)
                                refine lv_aload_n hx hb dX15_isSame_273 rfl (lv_at hl 1 rfl) ?_
                                refine q_ci (va_runV (As := []) (rest := []) ⟨hx, hb, hml, hown, hts⟩ (ja_acts l E f n a c nb r k s X BB pn NR ac hd v v RS hJ (fun q x e => hW.lt e)) (cwV 0 hts gX15_isSame_X12_acts rfl rfl rfl (by decide +kernel) ⟨(Nat.le_of_ble_eq_true rfl), (Nat.le_of_ble_eq_true rfl)⟩) (q_pV hA hW hS (ci := 12) rfl (Classical.choose_spec (Classical.choose_spec (Classical.choose_spec (Classical.choose_spec (Classical.choose_spec (Classical.choose_spec (Classical.choose_spec hJ.cell)))))))) rfl rfl hl.1 rfl (lv_room (Nat.le_of_ble_eq_true rfl)) dX15_isSame_274 ⟨(Nat.le_of_ble_eq_true rfl), (Nat.le_of_ble_eq_true rfl)⟩) hS (fun r_274 f_274 n_274 H locs hp hW hS => ?_)
                                obtain ⟨rfl, rfl, rfl⟩ := hp
                                have hW : q_W E (f) n H := hW
                                refine lv_iload_n hx hb dX15_isSame_277 rfl (lv_at hl 3 rfl) ?_
                                refine lv_icmp_ne (tgt := 391) hx hb dX15_isSame_278 (by decide) (fun c_278 => False.elim ((fun h9 => h9 hac_0) c_278)) (fun c_278 => ?_)
                                refine lv_aload_n hx hb dX15_isSame_281 rfl (lv_at hl 1 rfl) ?_
                                refine q_ci (va_runV (As := []) (rest := []) ⟨hx, hb, hml, hown, hts⟩ (ja_altitude l E f n a c nb r k s X BB pn NR ac hd v v RS hJ (fun q x e => hW.lt e)) (cwV 0 hts gX15_isSame_X12_altitude rfl rfl rfl (by decide +kernel) ⟨(Nat.le_of_ble_eq_true rfl), (Nat.le_of_ble_eq_true rfl)⟩) (q_pV hA hW hS (ci := 12) rfl (Classical.choose_spec (Classical.choose_spec (Classical.choose_spec (Classical.choose_spec (Classical.choose_spec (Classical.choose_spec (Classical.choose_spec hJ.cell)))))))) rfl rfl hl.1 rfl (lv_room (Nat.le_of_ble_eq_true rfl)) dX15_isSame_282 ⟨(Nat.le_of_ble_eq_true rfl), (Nat.le_of_ble_eq_true rfl)⟩) hS (fun r_282 f_282 n_282 H locs hp hW hS => ?_)
                                obtain ⟨rfl, rfl, rfl⟩ := hp
                                have hW : q_W E (f) n H := hW
                                refine lv_aload_n hx hb dX15_isSame_285 rfl (lv_at hl 0 rfl) ?_
                                refine q_get hx hb hts hown hA hW iX15 hk0_0 rfl 0 (by decide) (hts (.fieldLink RX15 38 "HighRecipesLaw$Kitchen" "altitude" "I") (by decide +kernel)) (fun _ h9 => h9) (v := .int (v 0)) rfl dX15_isSame_286 ?_
                                refine lv_icmp_ne (tgt := 391) hx hb dX15_isSame_289 (by decide) (fun c_289 => False.elim ((fun h9 => h9 rfl) c_289)) (fun c_289 => ?_)
                                refine lv_aload_n hx hb dX15_isSame_292 rfl (lv_at hl 1 rfl) ?_
                                refine q_ci (va_runV (As := []) (rest := []) ⟨hx, hb, hml, hown, hts⟩ (ja_boilingPoint l E f n a c nb r k s X BB pn NR ac hd v v RS hJ (fun q x e => hW.lt e)) (cwV 0 hts gX15_isSame_X12_boilingPoint rfl rfl rfl (by decide +kernel) ⟨(Nat.le_of_ble_eq_true rfl), (Nat.le_of_ble_eq_true rfl)⟩) (q_pV hA hW hS (ci := 12) rfl (Classical.choose_spec (Classical.choose_spec (Classical.choose_spec (Classical.choose_spec (Classical.choose_spec (Classical.choose_spec (Classical.choose_spec hJ.cell)))))))) rfl rfl hl.1 rfl (lv_room (Nat.le_of_ble_eq_true rfl)) dX15_isSame_293 ⟨(Nat.le_of_ble_eq_true rfl), (Nat.le_of_ble_eq_true rfl)⟩) hS (fun r_293 f_293 n_293 H locs hp hW hS => ?_)
                                obtain ⟨rfl, rfl, rfl⟩ := hp
                                have hW : q_W E (f) n H := hW
                                refine lv_aload_n hx hb dX15_isSame_296 rfl (lv_at hl 0 rfl) ?_
                                refine q_ci (va_runV (As := []) (rest := [.int (z_boil (v 0))]) ⟨hx, hb, hml, hown, hts⟩ (kX15_boiling l E f n k pa_0 re_0 ki_0 wa_0 no_0 pn pr_0 hd v b_0 w_0 hK_0) (cwV 0 hts gX15_isSame_X15_boiling rfl rfl rfl (by decide +kernel) ⟨(Nat.le_of_ble_eq_true rfl), (Nat.le_of_ble_eq_true rfl)⟩) (q_pV hA hW hS (ci := 15) rfl hk0_0) rfl rfl hl.1 rfl (lv_room (Nat.le_of_ble_eq_true rfl)) dX15_isSame_297 ⟨(Nat.le_of_ble_eq_true rfl), (Nat.le_of_ble_eq_true rfl)⟩) hS (fun r_297 f_297 n_297 H locs hp hW hS => ?_)
                                obtain ⟨rfl, rfl, rfl⟩ := hp
                                have hW : q_W E (f) n H := hW
                                refine lv_icmp_ne (tgt := 391) hx hb dX15_isSame_300 (by decide) (fun c_300 => False.elim ((fun h9 => h9 rfl) c_300)) (fun c_300 => ?_)
                                refine lv_aload_n hx hb dX15_isSame_303 rfl (lv_at hl 1 rfl) ?_
                                refine q_ci (va_runV (As := []) (rest := []) ⟨hx, hb, hml, hown, hts⟩ (ja_servings l E f n a c nb r k s X BB pn NR ac hd v v RS hJ (fun q x e => hW.lt e)) (cwV 0 hts gX15_isSame_X12_servings rfl rfl rfl (by decide +kernel) ⟨(Nat.le_of_ble_eq_true rfl), (Nat.le_of_ble_eq_true rfl)⟩) (q_pV hA hW hS (ci := 12) rfl (Classical.choose_spec (Classical.choose_spec (Classical.choose_spec (Classical.choose_spec (Classical.choose_spec (Classical.choose_spec (Classical.choose_spec hJ.cell)))))))) rfl rfl hl.1 rfl (lv_room (Nat.le_of_ble_eq_true rfl)) dX15_isSame_304 ⟨(Nat.le_of_ble_eq_true rfl), (Nat.le_of_ble_eq_true rfl)⟩) hS (fun r_304 f_304 n_304 H locs hp hW hS => ?_)
                                obtain ⟨rfl, rfl, rfl⟩ := hp
                                have hW : q_W E (f) n H := hW
                                refine lv_aload_n hx hb dX15_isSame_307 rfl (lv_at hl 0 rfl) ?_
                                refine q_get hx hb hts hown hA hW iX15 hk0_0 rfl 1 (by decide) (hts (.fieldLink RX15 7 "HighRecipesLaw$Kitchen" "servings" "I") (by decide +kernel)) (fun _ h9 => h9) (v := .int (v 1)) rfl dX15_isSame_308 ?_
                                refine lv_icmp_ne (tgt := 391) hx hb dX15_isSame_311 (by decide) (fun c_311 => False.elim ((fun h9 => h9 rfl) c_311)) (fun c_311 => ?_)
                                refine lv_aload_n hx hb dX15_isSame_314 rfl (lv_at hl 1 rfl) ?_
                                refine q_ci (va_runV (As := []) (rest := []) ⟨hx, hb, hml, hown, hts⟩ (ja_spoon l E f n a c nb r k s X BB pn NR ac hd v v RS hJ (fun q x e => hW.lt e)) (cwV 0 hts gX15_isSame_X12_spoon rfl rfl rfl (by decide +kernel) ⟨(Nat.le_of_ble_eq_true rfl), (Nat.le_of_ble_eq_true rfl)⟩) (q_pV hA hW hS (ci := 12) rfl (Classical.choose_spec (Classical.choose_spec (Classical.choose_spec (Classical.choose_spec (Classical.choose_spec (Classical.choose_spec (Classical.choose_spec hJ.cell)))))))) rfl rfl hl.1 rfl (lv_room (Nat.le_of_ble_eq_true rfl)) dX15_isSame_315 ⟨(Nat.le_of_ble_eq_true rfl), (Nat.le_of_ble_eq_true rfl)⟩) hS (fun r_315 f_315 n_315 H locs hp hW hS => ?_)
                                obtain ⟨rfl, rfl, rfl⟩ := hp
                                have hW : q_W E (f) n H := hW
                                refine lv_aload_n hx hb dX15_isSame_318 rfl (lv_at hl 0 rfl) ?_
                                refine q_get hx hb hts hown hA hW iX15 hk0_0 rfl 2 (by decide) (hts (.fieldLink RX15 13 "HighRecipesLaw$Kitchen" "spoon" "I") (by decide +kernel)) (fun _ h9 => h9) (v := .int (v 2)) rfl dX15_isSame_319 ?_
                                refine lv_icmp_ne (tgt := 391) hx hb dX15_isSame_322 (by decide) (fun c_322 => False.elim ((fun h9 => h9 rfl) c_322)) (fun c_322 => ?_)
                                refine lv_aload_n hx hb dX15_isSame_325 rfl (lv_at hl 1 rfl) ?_
                                refine q_ci (va_runV (As := []) (rest := []) ⟨hx, hb, hml, hown, hts⟩ (ja_minute l E f n a c nb r k s X BB pn NR ac hd v v RS hJ (fun q x e => hW.lt e)) (cwV 0 hts gX15_isSame_X12_minute rfl rfl rfl (by decide +kernel) ⟨(Nat.le_of_ble_eq_true rfl), (Nat.le_of_ble_eq_true rfl)⟩) (q_pV hA hW hS (ci := 12) rfl (Classical.choose_spec (Classical.choose_spec (Classical.choose_spec (Classical.choose_spec (Classical.choose_spec (Classical.choose_spec (Classical.choose_spec hJ.cell)))))))) rfl rfl hl.1 rfl (lv_room (Nat.le_of_ble_eq_true rfl)) dX15_isSame_326 ⟨(Nat.le_of_ble_eq_true rfl), (Nat.le_of_ble_eq_true rfl)⟩) hS (fun r_326 f_326 n_326 H locs hp hW hS => ?_)
                                obtain ⟨rfl, rfl, rfl⟩ := hp
                                have hW : q_W E (f) n H := hW
                                refine lv_aload_n hx hb dX15_isSame_329 rfl (lv_at hl 0 rfl) ?_
                                refine q_get hx hb hts hown hA hW iX15 hk0_0 rfl 3 (by decide) (hts (.fieldLink RX15 41 "HighRecipesLaw$Kitchen" "minute" "I") (by decide +kernel)) (fun _ h9 => h9) (v := .int (v 3)) rfl dX15_isSame_330 ?_
                                refine lv_icmp_ne (tgt := 391) hx hb dX15_isSame_333 (by decide) (fun c_333 => False.elim ((fun h9 => h9 rfl) c_333)) (fun c_333 => ?_)
                                refine lv_aload_n hx hb dX15_isSame_336 rfl (lv_at hl 1 rfl) ?_
                                refine q_ci (va_runV (As := []) (rest := []) ⟨hx, hb, hml, hown, hts⟩ (ja_warnings l E f n a c nb r k s X BB pn NR ac hd v v RS hJ (fun q x e => hW.lt e)) (cwV 0 hts gX15_isSame_X12_warnings rfl rfl rfl (by decide +kernel) ⟨(Nat.le_of_ble_eq_true rfl), (Nat.le_of_ble_eq_true rfl)⟩) (q_pV hA hW hS (ci := 12) rfl (Classical.choose_spec (Classical.choose_spec (Classical.choose_spec (Classical.choose_spec (Classical.choose_spec (Classical.choose_spec (Classical.choose_spec hJ.cell)))))))) rfl rfl hl.1 rfl (lv_room (Nat.le_of_ble_eq_true rfl)) dX15_isSame_337 ⟨(Nat.le_of_ble_eq_true rfl), (Nat.le_of_ble_eq_true rfl)⟩) hS (fun r_337 f_337 n_337 H locs hp hW hS => ?_)
                                obtain ⟨rfl, rfl, rfl⟩ := hp
                                have hW : q_W E (f) n H := hW
                                refine lv_aload_n hx hb dX15_isSame_340 rfl (lv_at hl 0 rfl) ?_
                                refine q_ci (va_runV (As := []) (rest := [.int (v 4)]) ⟨hx, hb, hml, hown, hts⟩ (kX15_warnings l E f n k pa_0 re_0 ki_0 wa_0 no_0 pn pr_0 hd v b_0 w_0 hK_0 hsm.1) (cwV 0 hts gX15_isSame_X15_warnings rfl rfl rfl (by decide +kernel) ⟨(Nat.le_of_ble_eq_true rfl), (Nat.le_of_ble_eq_true rfl)⟩) (q_pV hA hW hS (ci := 15) rfl hk0_0) rfl rfl hl.1 rfl (lv_room (Nat.le_of_ble_eq_true rfl)) dX15_isSame_341 ⟨(Nat.le_of_ble_eq_true rfl), (Nat.le_of_ble_eq_true rfl)⟩) hS (fun r_341 f_341 n_341 H locs hp hW hS => ?_)
                                obtain ⟨rfl, rfl, rfl⟩ := hp
                                have hW : q_W E (f) n H := hW
                                refine lv_icmp_ne (tgt := 391) hx hb dX15_isSame_344 (by decide) (fun c_344 => False.elim ((fun h9 => h9 hsm.2.1) c_344)) (fun c_344 => ?_)
                                refine lv_aload_n hx hb dX15_isSame_347 rfl (lv_at hl 1 rfl) ?_
                                refine q_ci (va_runV (As := []) (rest := []) ⟨hx, hb, hml, hown, hts⟩ (ja_notes l E f n a c nb r k s X BB pn NR ac hd v v RS hJ (fun q x e => hW.lt e)) (cwV 0 hts gX15_isSame_X12_notes rfl rfl rfl (by decide +kernel) ⟨(Nat.le_of_ble_eq_true rfl), (Nat.le_of_ble_eq_true rfl)⟩) (q_pV hA hW hS (ci := 12) rfl (Classical.choose_spec (Classical.choose_spec (Classical.choose_spec (Classical.choose_spec (Classical.choose_spec (Classical.choose_spec (Classical.choose_spec hJ.cell)))))))) rfl rfl hl.1 rfl (lv_room (Nat.le_of_ble_eq_true rfl)) dX15_isSame_348 ⟨(Nat.le_of_ble_eq_true rfl), (Nat.le_of_ble_eq_true rfl)⟩) hS (fun r_348 f_348 n_348 H locs hp hW hS => ?_)
                                obtain ⟨rfl, rfl, rfl⟩ := hp
                                have hW : q_W E (f) n H := hW
                                refine lv_aload_n hx hb dX15_isSame_351 rfl (lv_at hl 0 rfl) ?_
                                refine q_get hx hb hts hown hA hW iX15 hk0_0 rfl 9 (by decide) (hts (.fieldLink RX15 48 "HighRecipesLaw$Kitchen" "notes" "I") (by decide +kernel)) (fun _ h9 => h9) (v := .int (v 5)) rfl dX15_isSame_352 ?_
                                refine lv_icmp_ne (tgt := 391) hx hb dX15_isSame_355 (by decide) (fun c_355 => False.elim ((fun h9 => h9 rfl) c_355)) (fun c_355 => ?_)
                                refine lv_aload_n hx hb dX15_isSame_358 rfl (lv_at hl 1 rfl) ?_
                                refine q_cd (va_runV (As := []) (rest := []) ⟨hx, hb, hml, hown, hts⟩ (ja_meanHeat l E f n a c nb r k s X BB pn NR ac hd v v RS hJ (fun q x e => hW.lt e)) (cwV 0 hts gX15_isSame_X12_meanHeat rfl rfl rfl (by decide +kernel) ⟨(Nat.le_of_ble_eq_true rfl), (Nat.le_of_ble_eq_true rfl)⟩) (q_pV hA hW hS (ci := 12) rfl (Classical.choose_spec (Classical.choose_spec (Classical.choose_spec (Classical.choose_spec (Classical.choose_spec (Classical.choose_spec (Classical.choose_spec hJ.cell)))))))) rfl rfl hl.1 rfl (lv_room (Nat.le_of_ble_eq_true rfl)) dX15_isSame_359 ⟨(Nat.le_of_ble_eq_true rfl), (Nat.le_of_ble_eq_true rfl)⟩) hS (fun r_359 f_359 n_359 H locs hp hW hS => ?_)
                                obtain ⟨rfl, rfl, rfl⟩ := hp
                                have hW : q_W E (f) n H := hW
                                refine lv_aload_n hx hb dX15_isSame_362 rfl (lv_at hl 0 rfl) ?_
                                refine q_get hx hb hts hown hA hW iX15 hk0_0 rfl 4 (by decide) (hts (.fieldLink RX15 18 "HighRecipesLaw$Kitchen" "pans" "[[I") (by decide +kernel)) (fun _ h9 => h9) (v := .ref pa_0) rfl dX15_isSame_363 ?_
                                refine q_alen hx hb hA hW 8 rfl hpa_0 (v := nI pn) rfl dX15_isSame_366 ?_
                                refine lv_if_ne (tgt := 374) hx hb dX15_isSame_367 (by decide) (fun c_367 => ?_) (fun c_367 => False.elim ((fun h9 => nI_ne (b := 0) (by omega) (by decide) (by omega) h9) c_367))
                                refine lv_iload_n hx hb dX15_isSame_374 rfl (lv_at hl 2 rfl) ?_
                                refine lv_i2d hx hb dX15_isSame_375 ?_
                                refine lv_aload_n hx hb dX15_isSame_376 rfl (lv_at hl 0 rfl) ?_
                                refine q_get hx hb hts hown hA hW iX15 hk0_0 rfl 4 (by decide) (hts (.fieldLink RX15 18 "HighRecipesLaw$Kitchen" "pans" "[[I") (by decide +kernel)) (fun _ h9 => h9) (v := .ref pa_0) rfl dX15_isSame_377 ?_
                                refine q_alen hx hb hA hW 8 rfl hpa_0 (v := nI pn) rfl dX15_isSame_380 ?_
                                refine lv_i2d hx hb dX15_isSame_381 ?_
                                refine lv_ddiv hx hb dX15_isSame_382 (z_nn (nI_ne (b := 0) (by omega) (by decide) (by omega))) ?_
                                refine lv_dcmp hx hb dX15_isSame_383 ?_
                                rw [show FP.ddiv (FP.i2d (z_sum v pn)) (FP.i2d (nI pn)) = z_mean v pn from (if_neg (by omega)).symm, cmpv_rf (mean_nn hp1 (by omega))]
                                refine lv_if_ne (tgt := 391) hx hb dX15_isSame_384 (by decide) (fun c_384 => False.elim ((fun h9 => h9 rfl) c_384)) (fun c_384 => ?_)
                                refine lv_iconst (v := 1) hx hb dX15_isSame_387 (by decide) ?_
                                refine lv_goto (tgt := 392) hx hb dX15_isSame_388 (by decide) ?_
                                exact q_zret hx hb hr hlocks hW hS rfl ⟨rfl, rfl, rfl⟩ (Nat.le_of_ble_eq_true rfl) (Nat.le_of_ble_eq_true rfl) dX15_isSame_392
                              · have hol : o9 < NR := q_gtn (by omega) c_225
                                obtain ⟨b9, L9, hb9, hL9, hc9, hc20⟩ := hcn_0 o9 hol
                                refine lv_aload hx hb dX15_isSame_228 (lv_at hl 4 rfl) ?_
                                refine lv_iload hx hb dX15_isSame_230 (lv_at hl 6 rfl) ?_
                                refine q_aaldA hx hb hA hW 9 rfl hre_0 (vp_in_nI hol (by omega)) dX15_isSame_232 ?_
                                rw [show gre_0 (nI o9).toNatClampNeg = some b9 from by rw [nI_clamp (by omega)]; exact hb9]
                                refine lv_astore (lv' := [(7, .ref b9), (0, .ref k), (1, .ref a), (2, .int (z_sum v pn)), (3, .int (nI (psum cnt_0 o9))), (4, .ref re_0), (5, .int (nI NR)), (6, .int (nI o9))]) hx hb dX15_isSame_233 hl (by decide) rfl (fun ls hl => ?_)
                                refine lv_iload_n hx hb dX15_isSame_235 rfl (lv_at hl 4 rfl) ?_
                                refine lv_aload hx hb dX15_isSame_236 (lv_at hl 0 rfl) ?_
                                refine q_ci (va_runS (As := [.ref b9]) (rest := [.int (nI (psum cnt_0 o9))]) ⟨hx, hb, hml, hown, hts⟩ (kX13_many_4 l E f n b9 pn o9 RS P9 L9 hL9 hc20) (va_cwS 1 hts gX15_isSame_X13_many rfl rfl rfl (by decide +kernel) ⟨(Nat.le_of_ble_eq_true rfl), (Nat.le_of_ble_eq_true rfl)⟩) (q_pS hA hW hS) rfl rfl hl.1 rfl (lv_room (Nat.le_of_ble_eq_true rfl)) dX15_isSame_238 ⟨(Nat.le_of_ble_eq_true rfl), (Nat.le_of_ble_eq_true rfl)⟩) hS (fun r_238 f_238 n_238 H locs hp hW hS => ?_)
                                obtain ⟨rfl, rfl, rfl⟩ := hp
                                have hW : q_W E (f) n H := hW
                                refine lv_iadd hx hb dX15_isSame_241 ?_
                                rw [show nI (psum cnt_0 o9) + nI (bC L9) = nI (psum cnt_0 (o9 + 1)) from by rw [hc9, nI_add]; rfl]
                                refine lv_istore_n (lv' := [(3, .int (nI (psum cnt_0 (o9 + 1)))), (7, .ref b9), (0, .ref k), (1, .ref a), (2, .int (z_sum v pn)), (4, .ref re_0), (5, .int (nI NR)), (6, .int (nI o9))]) hx hb dX15_isSame_242 rfl hl (by decide) rfl (fun ls hl => ?_)
                                refine lv_iinc (v := nI (o9 + 1)) (lv' := [(6, .int (nI (o9 + 1))), (3, .int (nI (psum cnt_0 (o9 + 1)))), (7, .ref b9), (0, .ref k), (1, .ref a), (2, .int (z_sum v pn)), (4, .ref re_0), (5, .int (nI NR))]) hx hb dX15_isSame_243 hl (k := 7) rfl (nI_1 o9) (by decide) rfl (fun ls hl => ?_)
                                refine lv_goto (tgt := 221) hx hb dX15_isSame_246 (by decide) ?_
                                exact ih (o9 + 1) hol (by omega) _ _ _ hW hS (lv_sub hl [3, 4, 5, 1, 6, 7, 0] rfl)
                          exact K221 _ 0 (Nat.zero_le _) (Nat.lt_succ_self _) _ _ _ hW hS (lv_sub hl [4, 5, 6, 3, 2, 1, 0] rfl)
                        · have n9l : n9 < min (k_N v) 20 := q_gtn (by omega) c_180
                          refine lv_aload_n hx hb dX15_isSame_183 rfl (lv_at hl 1 rfl) ?_
                          refine lv_iload_n hx hb dX15_isSame_184 rfl (lv_at hl 3 rfl) ?_
                          refine q_ci (va_runV (As := [.int (nI n9)]) (rest := []) ⟨hx, hb, hml, hown, hts⟩ (ja_noteAt l E f n a c nb r k s X BB pn NR ac hd v v RS (k_N v) n9 hJ (fun q x e => hW.lt e) hkI.v5 hT30.2 n9l) (cwV 1 hts gX15_isSame_X12_noteAt rfl rfl rfl (by decide +kernel) ⟨(Nat.le_of_ble_eq_true rfl), (Nat.le_of_ble_eq_true rfl)⟩) (q_pV hA hW hS (ci := 12) rfl (Classical.choose_spec (Classical.choose_spec (Classical.choose_spec (Classical.choose_spec (Classical.choose_spec (Classical.choose_spec (Classical.choose_spec hJ.cell)))))))) rfl rfl hl.1 rfl (lv_room (Nat.le_of_ble_eq_true rfl)) dX15_isSame_185 ⟨(Nat.le_of_ble_eq_true rfl), (Nat.le_of_ble_eq_true rfl)⟩) hS (fun r_185 f_185 n_185 H locs hp hW hS => ?_)
                          obtain ⟨rfl, rfl, rfl⟩ := hp
                          have hW : q_W E (f) n H := hW
                          refine lv_aload_n hx hb dX15_isSame_188 rfl (lv_at hl 0 rfl) ?_
                          refine q_get hx hb hts hown hA hW iX15 hk0_0 rfl 8 (by decide) (hts (.fieldLink RX15 34 "HighRecipesLaw$Kitchen" "noted" "[I") (by decide +kernel)) (fun _ h9 => h9) (v := .ref no_0) rfl dX15_isSame_189 ?_
                          refine lv_iload_n hx hb dX15_isSame_192 rfl (lv_at hl 3 rfl) ?_
                          refine q_iald hx hb hA hW hno_0 (vp_in_nI n9l (by omega)) dX15_isSame_193 ?_
                          rw [show gn_0 (nI n9).toNatClampNeg = v (32 + (k_N v - 1 - n9) % 20) from by rw [nI_clamp (by omega)]; exact hnv_0 n9 n9l]
                          refine lv_icmp_eq (tgt := 199) hx hb dX15_isSame_194 (by decide) (fun c_194 => ?_) (fun c_194 => False.elim ((fun h9 => h9 rfl) c_194))
                          refine lv_iinc (v := nI (n9 + 1)) (lv' := [(3, .int (nI (n9 + 1))), (0, .ref k), (1, .ref a), (2, .int (z_sum v pn))]) hx hb dX15_isSame_199 hl (k := 3) rfl (nI_1 n9) (by decide) rfl (fun ls hl => ?_)
                          refine lv_goto (tgt := 174) hx hb dX15_isSame_202 (by decide) ?_
                          exact ih (n9 + 1) n9l (by omega) _ _ _ hW hS (lv_sub hl [1, 2, 3, 0] rfl)
                    exact K174 _ 0 (Nat.zero_le _) (Nat.lt_succ_self _) _ _ _ hW hS (lv_sub hl [1, 2, 3, 0] rfl)
                  · have w9l : w9 < min (k_T v) 20 := q_gtn (by omega) c_147
                    refine lv_aload_n hx hb dX15_isSame_150 rfl (lv_at hl 1 rfl) ?_
                    refine lv_iload_n hx hb dX15_isSame_151 rfl (lv_at hl 3 rfl) ?_
                    refine q_ci (va_runV (As := [.int (nI w9)]) (rest := []) ⟨hx, hb, hml, hown, hts⟩ (ja_warningAt l E f n a c nb r k s X BB pn NR ac hd v v RS (k_T v) w9 hJ (fun q x e => hW.lt e) hkI.2.1.1 hT30.1 w9l) (cwV 1 hts gX15_isSame_X12_warningAt rfl rfl rfl (by decide +kernel) ⟨(Nat.le_of_ble_eq_true rfl), (Nat.le_of_ble_eq_true rfl)⟩) (q_pV hA hW hS (ci := 12) rfl (Classical.choose_spec (Classical.choose_spec (Classical.choose_spec (Classical.choose_spec (Classical.choose_spec (Classical.choose_spec (Classical.choose_spec hJ.cell)))))))) rfl rfl hl.1 rfl (lv_room (Nat.le_of_ble_eq_true rfl)) dX15_isSame_152 ⟨(Nat.le_of_ble_eq_true rfl), (Nat.le_of_ble_eq_true rfl)⟩) hS (fun r_152 f_152 n_152 H locs hp hW hS => ?_)
                    obtain ⟨rfl, rfl, rfl⟩ := hp
                    have hW : q_W E (f) n H := hW
                    refine lv_aload_n hx hb dX15_isSame_155 rfl (lv_at hl 0 rfl) ?_
                    refine q_get hx hb hts hown hA hW iX15 hk0_0 rfl 7 (by decide) (hts (.fieldLink RX15 31 "HighRecipesLaw$Kitchen" "warned" "[I") (by decide +kernel)) (fun _ h9 => h9) (v := .ref wa_0) rfl dX15_isSame_156 ?_
                    refine lv_iload_n hx hb dX15_isSame_159 rfl (lv_at hl 3 rfl) ?_
                    refine q_iald hx hb hA hW hwa_0 (vp_in_nI w9l (by omega)) dX15_isSame_160 ?_
                    rw [show gw_0 (nI w9).toNatClampNeg = v (12 + (k_T v - 1 - w9) % 20) from by rw [nI_clamp (by omega)]; exact hwv_0 w9 w9l]
                    refine lv_icmp_eq (tgt := 166) hx hb dX15_isSame_161 (by decide) (fun c_161 => ?_) (fun c_161 => False.elim ((fun h9 => h9 rfl) c_161))
                    refine lv_iinc (v := nI (w9 + 1)) (lv' := [(3, .int (nI (w9 + 1))), (0, .ref k), (1, .ref a), (2, .int (z_sum v pn))]) hx hb dX15_isSame_166 hl (k := 3) rfl (nI_1 w9) (by decide) rfl (fun ls hl => ?_)
                    refine lv_goto (tgt := 141) hx hb dX15_isSame_169 (by decide) ?_
                    exact ih (w9 + 1) w9l (by omega) _ _ _ hW hS (lv_sub hl [1, 2, 3, 0] rfl)
              exact K141 _ 0 (Nat.zero_le _) (Nat.lt_succ_self _) _ _ _ hW hS (lv_sub hl [1, 2, 3, 0] rfl)
            · have hkl : k9 < 6 := Nat.lt_of_not_le (fun h9 => c_114 (nI_le (a := 6) h9 (by omega)))
              refine lv_aload_n hx hb dX15_isSame_117 rfl (lv_at hl 1 rfl) ?_
              refine lv_iload_n hx hb dX15_isSame_118 rfl (lv_at hl 3 rfl) ?_
              refine q_ci (va_runV (As := [.int (nI k9)]) (rest := []) ⟨hx, hb, hml, hown, hts⟩ (ja_warningsOf l E f n a c nb r k s X BB pn NR ac hd v v RS k9 hJ (fun q x e => hW.lt e) (b_in1 (L := 5) (by decide) hk1 (by omega)) hkl) (cwV 1 hts gX15_isSame_X12_warningsOf rfl rfl rfl (by decide +kernel) ⟨(Nat.le_of_ble_eq_true rfl), (Nat.le_of_ble_eq_true rfl)⟩) (q_pV hA hW hS (ci := 12) rfl (Classical.choose_spec (Classical.choose_spec (Classical.choose_spec (Classical.choose_spec (Classical.choose_spec (Classical.choose_spec (Classical.choose_spec hJ.cell)))))))) rfl rfl hl.1 rfl (lv_room (Nat.le_of_ble_eq_true rfl)) dX15_isSame_119 ⟨(Nat.le_of_ble_eq_true rfl), (Nat.le_of_ble_eq_true rfl)⟩) hS (fun r_119 f_119 n_119 H locs hp hW hS => ?_)
              obtain ⟨rfl, rfl, rfl⟩ := hp
              have hW : q_W E (f) n H := hW
              refine lv_aload_n hx hb dX15_isSame_122 rfl (lv_at hl 0 rfl) ?_
              refine q_get hx hb hts hown hA hW iX15 hk0_0 rfl 6 (by decide) (hts (.fieldLink RX15 28 "HighRecipesLaw$Kitchen" "kinds" "[I") (by decide +kernel)) (fun _ h9 => h9) (v := .ref ki_0) rfl dX15_isSame_123 ?_
              refine lv_iload_n hx hb dX15_isSame_126 rfl (lv_at hl 3 rfl) ?_
              refine q_iald hx hb hA hW hki_0 (vp_in_nI hkl (by decide)) dX15_isSame_127 ?_
              rw [show gk_0 (nI k9).toNatClampNeg = v (6 + k9) from by rw [nI_clamp (by omega)]; exact hkv_0 k9 hkl]
              refine lv_icmp_eq (tgt := 133) hx hb dX15_isSame_128 (by decide) (fun c_128 => ?_) (fun c_128 => False.elim ((fun h9 => h9 rfl) c_128))
              refine lv_iinc (v := nI (k9 + 1)) (lv' := [(3, .int (nI (k9 + 1))), (0, .ref k), (1, .ref a), (2, .int (z_sum v pn))]) hx hb dX15_isSame_133 hl (k := 3) rfl (nI_1 k9) (by decide) rfl (fun ls hl => ?_)
              refine lv_goto (tgt := 111) hx hb dX15_isSame_136 (by decide) ?_
              exact ih (k9 + 1) (by omega) (by omega) (by omega) _ _ _ hW hS (lv_sub hl [1, 2, 3, 0] rfl)
        exact K111 _ 1 (Nat.le_refl _) (by decide) (Nat.lt_succ_self _) _ _ _ hW hS (lv_sub hl [1, 2, 3, 0] rfl)
      · have hpl : p9 < pn := q_gtn (by omega) c_10
        obtain ⟨gr9, hr9, hg0, hg1, hg2, hg3, hg4⟩ := hrow_0 p9 hpl
        refine lv_aload_n hx hb dX15_isSame_13 rfl (lv_at hl 0 rfl) ?_
        refine q_get hx hb hts hown hA hW iX15 hk0_0 rfl 4 (by decide) (hts (.fieldLink RX15 18 "HighRecipesLaw$Kitchen" "pans" "[[I") (by decide +kernel)) (fun _ h9 => h9) (v := .ref pa_0) rfl dX15_isSame_14 ?_
        refine lv_iload_n hx hb dX15_isSame_17 rfl (lv_at hl 3 rfl) ?_
        refine q_aaldA hx hb hA hW 8 rfl hpa_0 (vp_in_nI hpl (by omega)) dX15_isSame_18 ?_
        rw [show gp_0 (nI p9).toNatClampNeg = some (pr_0 p9) from by rw [nI_clamp (by omega)]; exact hpv_0 p9 hpl]
        refine lv_astore (lv' := [(4, .ref (pr_0 p9)), (0, .ref k), (1, .ref a), (2, .int (z_sum v p9)), (3, .int (nI p9))]) hx hb dX15_isSame_19 hl (by decide) rfl (fun ls hl => ?_)
        refine lv_aload_n hx hb dX15_isSame_21 rfl (lv_at hl 2 rfl) ?_
        refine lv_iload_n hx hb dX15_isSame_22 rfl (lv_at hl 4 rfl) ?_
        refine q_ci (va_runV (As := [.int (nI p9)]) (rest := []) ⟨hx, hb, hml, hown, hts⟩ (ja_holdsOf l E f n a c nb r k s X BB pn NR ac hd v v RS p9 hJ (fun q x e => hW.lt e) hpl) (cwV 1 hts gX15_isSame_X12_holdsOf rfl rfl rfl (by decide +kernel) ⟨(Nat.le_of_ble_eq_true rfl), (Nat.le_of_ble_eq_true rfl)⟩) (q_pV hA hW hS (ci := 12) rfl (Classical.choose_spec (Classical.choose_spec (Classical.choose_spec (Classical.choose_spec (Classical.choose_spec (Classical.choose_spec (Classical.choose_spec hJ.cell)))))))) rfl rfl hl.1 rfl (lv_room (Nat.le_of_ble_eq_true rfl)) dX15_isSame_23 ⟨(Nat.le_of_ble_eq_true rfl), (Nat.le_of_ble_eq_true rfl)⟩) hS (fun r_23 f_23 n_23 H locs hp hW hS => ?_)
        obtain ⟨rfl, rfl, rfl⟩ := hp
        have hW : q_W E (f) n H := hW
        refine lv_aload hx hb dX15_isSame_26 (lv_at hl 0 rfl) ?_
        refine lv_iconst (v := 0) hx hb dX15_isSame_28 (by decide) ?_
        refine q_iald hx hb hA hW hr9 (vp_in_nI (n := 0) (by decide) (by decide)) dX15_isSame_29 ?_
        rw [show gr9 (0 : Int32).toNatClampNeg = hd p9 from hg0]
        refine lv_icmp_ne (tgt := 94) hx hb dX15_isSame_30 (by decide) (fun c_30 => False.elim ((fun h9 => h9 rfl) c_30)) (fun c_30 => ?_)
        refine lv_aload_n hx hb dX15_isSame_33 rfl (lv_at hl 2 rfl) ?_
        refine lv_iload_n hx hb dX15_isSame_34 rfl (lv_at hl 4 rfl) ?_
        refine q_ci (va_runV (As := [.int (nI p9)]) (rest := []) ⟨hx, hb, hml, hown, hts⟩ (ja_waterIn l E f n a c nb r k s X BB pn NR ac hd v v RS p9 hJ (fun q x e => hW.lt e) hpl) (cwV 1 hts gX15_isSame_X12_waterIn rfl rfl rfl (by decide +kernel) ⟨(Nat.le_of_ble_eq_true rfl), (Nat.le_of_ble_eq_true rfl)⟩) (q_pV hA hW hS (ci := 12) rfl (Classical.choose_spec (Classical.choose_spec (Classical.choose_spec (Classical.choose_spec (Classical.choose_spec (Classical.choose_spec (Classical.choose_spec hJ.cell)))))))) rfl rfl hl.1 rfl (lv_room (Nat.le_of_ble_eq_true rfl)) dX15_isSame_35 ⟨(Nat.le_of_ble_eq_true rfl), (Nat.le_of_ble_eq_true rfl)⟩) hS (fun r_35 f_35 n_35 H locs hp hW hS => ?_)
        obtain ⟨rfl, rfl, rfl⟩ := hp
        have hW : q_W E (f) n H := hW
        refine lv_aload hx hb dX15_isSame_38 (lv_at hl 0 rfl) ?_
        refine lv_iconst (v := 1) hx hb dX15_isSame_40 (by decide) ?_
        refine q_iald hx hb hA hW hr9 (vp_in_nI (n := 1) (by decide) (by decide)) dX15_isSame_41 ?_
        rw [show gr9 (1 : Int32).toNatClampNeg = v (52 + 4 * p9) from hg1]
        refine lv_icmp_ne (tgt := 94) hx hb dX15_isSame_42 (by decide) (fun c_42 => False.elim ((fun h9 => h9 rfl) c_42)) (fun c_42 => ?_)
        refine lv_aload_n hx hb dX15_isSame_45 rfl (lv_at hl 2 rfl) ?_
        refine lv_iload_n hx hb dX15_isSame_46 rfl (lv_at hl 4 rfl) ?_
        refine q_ci (va_runV (As := [.int (nI p9)]) (rest := []) ⟨hx, hb, hml, hown, hts⟩ (ja_mealIn l E f n a c nb r k s X BB pn NR ac hd v v RS p9 hJ (fun q x e => hW.lt e) hpl) (cwV 1 hts gX15_isSame_X12_mealIn rfl rfl rfl (by decide +kernel) ⟨(Nat.le_of_ble_eq_true rfl), (Nat.le_of_ble_eq_true rfl)⟩) (q_pV hA hW hS (ci := 12) rfl (Classical.choose_spec (Classical.choose_spec (Classical.choose_spec (Classical.choose_spec (Classical.choose_spec (Classical.choose_spec (Classical.choose_spec hJ.cell)))))))) rfl rfl hl.1 rfl (lv_room (Nat.le_of_ble_eq_true rfl)) dX15_isSame_47 ⟨(Nat.le_of_ble_eq_true rfl), (Nat.le_of_ble_eq_true rfl)⟩) hS (fun r_47 f_47 n_47 H locs hp hW hS => ?_)
        obtain ⟨rfl, rfl, rfl⟩ := hp
        have hW : q_W E (f) n H := hW
        refine lv_aload hx hb dX15_isSame_50 (lv_at hl 0 rfl) ?_
        refine lv_iconst (v := 2) hx hb dX15_isSame_52 (by decide) ?_
        refine q_iald hx hb hA hW hr9 (vp_in_nI (n := 2) (by decide) (by decide)) dX15_isSame_53 ?_
        rw [show gr9 (2 : Int32).toNatClampNeg = v (53 + 4 * p9) from hg2]
        refine lv_icmp_ne (tgt := 94) hx hb dX15_isSame_54 (by decide) (fun c_54 => False.elim ((fun h9 => h9 rfl) c_54)) (fun c_54 => ?_)
        refine lv_aload_n hx hb dX15_isSame_57 rfl (lv_at hl 2 rfl) ?_
        refine lv_iload_n hx hb dX15_isSame_58 rfl (lv_at hl 4 rfl) ?_
        refine q_ci (va_runV (As := [.int (nI p9)]) (rest := []) ⟨hx, hb, hml, hown, hts⟩ (ja_heatOf l E f n a c nb r k s X BB pn NR ac hd v v RS p9 hJ (fun q x e => hW.lt e) hpl) (cwV 1 hts gX15_isSame_X12_heatOf rfl rfl rfl (by decide +kernel) ⟨(Nat.le_of_ble_eq_true rfl), (Nat.le_of_ble_eq_true rfl)⟩) (q_pV hA hW hS (ci := 12) rfl (Classical.choose_spec (Classical.choose_spec (Classical.choose_spec (Classical.choose_spec (Classical.choose_spec (Classical.choose_spec (Classical.choose_spec hJ.cell)))))))) rfl rfl hl.1 rfl (lv_room (Nat.le_of_ble_eq_true rfl)) dX15_isSame_59 ⟨(Nat.le_of_ble_eq_true rfl), (Nat.le_of_ble_eq_true rfl)⟩) hS (fun r_59 f_59 n_59 H locs hp hW hS => ?_)
        obtain ⟨rfl, rfl, rfl⟩ := hp
        have hW : q_W E (f) n H := hW
        refine lv_aload hx hb dX15_isSame_62 (lv_at hl 0 rfl) ?_
        refine lv_iconst (v := 3) hx hb dX15_isSame_64 (by decide) ?_
        refine q_iald hx hb hA hW hr9 (vp_in_nI (n := 3) (by decide) (by decide)) dX15_isSame_65 ?_
        rw [show gr9 (3 : Int32).toNatClampNeg = v (54 + 4 * p9) from hg3]
        refine lv_icmp_ne (tgt := 94) hx hb dX15_isSame_66 (by decide) (fun c_66 => False.elim ((fun h9 => h9 rfl) c_66)) (fun c_66 => ?_)
        refine lv_aload_n hx hb dX15_isSame_69 rfl (lv_at hl 2 rfl) ?_
        refine lv_iload_n hx hb dX15_isSame_70 rfl (lv_at hl 4 rfl) ?_
        refine q_ci (va_runV (As := [.int (nI p9)]) (rest := []) ⟨hx, hb, hml, hown, hts⟩ (ja_doneIn l E f n a c nb r k s X BB pn NR ac hd v v RS p9 hJ (fun q x e => hW.lt e) hpl) (cwV 1 hts gX15_isSame_X12_doneIn rfl rfl rfl (by decide +kernel) ⟨(Nat.le_of_ble_eq_true rfl), (Nat.le_of_ble_eq_true rfl)⟩) (q_pV hA hW hS (ci := 12) rfl (Classical.choose_spec (Classical.choose_spec (Classical.choose_spec (Classical.choose_spec (Classical.choose_spec (Classical.choose_spec (Classical.choose_spec hJ.cell)))))))) rfl rfl hl.1 rfl (lv_room (Nat.le_of_ble_eq_true rfl)) dX15_isSame_71 ⟨(Nat.le_of_ble_eq_true rfl), (Nat.le_of_ble_eq_true rfl)⟩) hS (fun r_71 f_71 n_71 H locs hp hW hS => ?_)
        obtain ⟨rfl, rfl, rfl⟩ := hp
        have hW : q_W E (f) n H := hW
        refine lv_aload hx hb dX15_isSame_74 (lv_at hl 0 rfl) ?_
        refine lv_iconst (v := 4) hx hb dX15_isSame_76 (by decide) ?_
        refine q_iald hx hb hA hW hr9 (vp_in_nI (n := 4) (by decide) (by decide)) dX15_isSame_77 ?_
        rw [show gr9 (4 : Int32).toNatClampNeg = v (55 + 4 * p9) from hg4]
        refine lv_icmp_ne (tgt := 94) hx hb dX15_isSame_78 (by decide) (fun c_78 => False.elim ((fun h9 => h9 rfl) c_78)) (fun c_78 => ?_)
        refine lv_aload_n hx hb dX15_isSame_81 rfl (lv_at hl 2 rfl) ?_
        refine lv_iload_n hx hb dX15_isSame_82 rfl (lv_at hl 4 rfl) ?_
        refine q_ci (va_runV (As := [.int (nI p9)]) (rest := []) ⟨hx, hb, hml, hown, hts⟩ (ja_roomIn l E f n a c nb r k s X BB pn NR ac hd v v RS p9 hJ (fun q x e => hW.lt e) hpl) (cwV 1 hts gX15_isSame_X12_roomIn rfl rfl rfl (by decide +kernel) ⟨(Nat.le_of_ble_eq_true rfl), (Nat.le_of_ble_eq_true rfl)⟩) (q_pV hA hW hS (ci := 12) rfl (Classical.choose_spec (Classical.choose_spec (Classical.choose_spec (Classical.choose_spec (Classical.choose_spec (Classical.choose_spec (Classical.choose_spec hJ.cell)))))))) rfl rfl hl.1 rfl (lv_room (Nat.le_of_ble_eq_true rfl)) dX15_isSame_83 ⟨(Nat.le_of_ble_eq_true rfl), (Nat.le_of_ble_eq_true rfl)⟩) hS (fun r_83 f_83 n_83 H locs hp hW hS => ?_)
        obtain ⟨rfl, rfl, rfl⟩ := hp
        have hW : q_W E (f) n H := hW
        refine lv_aload_n hx hb dX15_isSame_86 rfl (lv_at hl 1 rfl) ?_
        refine lv_iload_n hx hb dX15_isSame_87 rfl (lv_at hl 4 rfl) ?_
        refine q_ci (va_runV (As := [.int (nI p9)]) (rest := [.int (hd p9 - v (52 + 4 * p9) - v (53 + 4 * p9))]) ⟨hx, hb, hml, hown, hts⟩ (kX15_room l E f n k pa_0 re_0 ki_0 wa_0 no_0 pn pr_0 hd v b_0 w_0 p9 hK_0 hpl (by omega)) (cwV 1 hts gX15_isSame_X15_room rfl rfl rfl (by decide +kernel) ⟨(Nat.le_of_ble_eq_true rfl), (Nat.le_of_ble_eq_true rfl)⟩) (q_pV hA hW hS (ci := 15) rfl hk0_0) rfl rfl hl.1 rfl (lv_room (Nat.le_of_ble_eq_true rfl)) dX15_isSame_88 ⟨(Nat.le_of_ble_eq_true rfl), (Nat.le_of_ble_eq_true rfl)⟩) hS (fun r_88 f_88 n_88 H locs hp hW hS => ?_)
        obtain ⟨rfl, rfl, rfl⟩ := hp
        have hW : q_W E (f) n H := hW
        refine lv_icmp_eq (tgt := 96) hx hb dX15_isSame_91 (by decide) (fun c_91 => ?_) (fun c_91 => False.elim ((fun h9 => h9 rfl) c_91))
        refine lv_iload_n hx hb dX15_isSame_96 rfl (lv_at hl 3 rfl) ?_
        refine lv_aload hx hb dX15_isSame_97 (lv_at hl 0 rfl) ?_
        refine lv_iconst (v := 3) hx hb dX15_isSame_99 (by decide) ?_
        refine q_iald hx hb hA hW hr9 (vp_in_nI (n := 3) (by decide) (by decide)) dX15_isSame_100 ?_
        rw [show gr9 (3 : Int32).toNatClampNeg = v (54 + 4 * p9) from hg3]
        refine lv_iadd hx hb dX15_isSame_101 ?_
        rw [show z_sum v p9 + v (54 + 4 * p9) = z_sum v (p9 + 1) from rfl]
        refine lv_istore_n (lv' := [(2, .int (z_sum v (p9 + 1))), (4, .ref (pr_0 p9)), (0, .ref k), (1, .ref a), (3, .int (nI p9))]) hx hb dX15_isSame_102 rfl hl (by decide) rfl (fun ls hl => ?_)
        refine lv_iinc (v := nI (p9 + 1)) (lv' := [(3, .int (nI (p9 + 1))), (2, .int (z_sum v (p9 + 1))), (4, .ref (pr_0 p9)), (0, .ref k), (1, .ref a)]) hx hb dX15_isSame_103 hl (k := 4) rfl (nI_1 p9) (by decide) rfl (fun ls hl => ?_)
        refine lv_goto (tgt := 4) hx hb dX15_isSame_106 (by decide) ?_
        exact ih (p9 + 1) hpl (by omega) _ _ _ hW hS (lv_sub hl [3, 4, 1, 0] rfl)
  exact K4 _ 0 (Nat.zero_le _) (Nat.lt_succ_self _) _ _ _ hW hS (lv_sub hl [2, 3, 1, 0] rfl)

