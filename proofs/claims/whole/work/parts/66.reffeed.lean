/-! the reference is fed -/
def fd4 (g : Nat → Int32) (L : Nat) (x : Int32) : Nat → Int32 := upd (upd (upd (upd g L (x >>> ((24 : Int32) &&& 31) &&& 255)) (L + 1) (x >>> ((16 : Int32) &&& 31) &&& 255)) (L + 2) (x >>> ((8 : Int32) &&& 31) &&& 255)) (L + 3) (x >>> ((0 : Int32) &&& 31) &&& 255)

set_option maxHeartbeats 4000000 in
set_option maxRecDepth 100000 in
theorem kX14_feed (l : Launch) (E : q_E) (f : q_H) (n : Nat) (M : Nat) (r : q_R) (L : Nat) (x1 x2 x3 x4 x5 : Int32)  (hm : RM E f M r) (hL : (r 101 0) = nI L) (hL16 : L + 20 ≤ 1600) (hMn : M + 44 ≤ n) : Met l yX14_feed wsX14_feed ({ frames := 0, cells := 1, slots := 5, locals := 0 }) (q_P E [.ref M, .int x1, .int x2, .int x3, .int x4, .int x5] f n) (q_Qi E (fun r0 f1 n1 => nI (L + 20) = r0 ∧ (∃ x, rO E (va_up f n (some x)) M (rp (rp (rp r 100 (fun _ => 0)) 1 (fd4 (fd4 (fd4 (fd4 (fd4 (r 1) L x1) (L + 4) x2) (L + 8) x3) (L + 12) x4) (L + 16) x5)) 101 (fun _ => nI (L + 20))) = f1) ∧ n + 1 = n1)) 1 5 (q_ge E) := by
  refine Met.ofW (cc := cX14_feed) (maxL := 12) (ret := (some .int)) (by decide) rfl ?_
  intro p e s m args below meth c s₁ B hml hv
  obtain ⟨rfl, hA, hW⟩ := hv
  have hx := B.exec
  have hb := B.bytes
  have hr := B.returns
  have hts := atoms_spec (ws := wsX14_feed) B.pre
  have hown : s.vm.findClass RX14 = some m.cls := findClass_of_methodNamed B.named
  have hlocks := B.notSynchronized
  have hS : va_S (q_ge E) s.heap s.heap [] := va_S.rf
  have iX14 : ∀ w ∈ wsX140, w ∈ wsX14_feed := by decide +kernel
  have hl := lv_entry ([.ref M, .int x1, .int x2, .int x3, .int x4, .int x5]) (n := 12) (Nat.le_of_ble_eq_true rfl)
  rw [lg_entry_eq]
  generalize (lg_sl ([.ref M, .int x1, .int x2, .int x3, .int x4, .int x5]) ++ List.replicate (12 - (lg_sl ([.ref M, .int x1, .int x2, .int x3, .int x4, .int x5])).length) Slot.unset).toArray = ls at hl ⊢
  have hl : lv_has ls 12 [(0, .ref M), (1, .int x1), (2, .int x2), (3, .int x3), (4, .int x4), (5, .int x5)] := hl
  have hmE := hm.eq
  rw [hm.eq] at hW
  refine lv_aload_n hx hb dX14_feed_0 rfl (lv_at hl 0 rfl) ?_
  refine lv_iconst (v := 0) hx hb dX14_feed_1 (by decide) ?_
  refine q_put hx hb hts hown hA hW hS iX14 tyX14 tyX14_ok nmX14 rO_0 rfl 0 (by decide) (hts (.fieldLink RX14 54 "HighRecipesModel" "thrown" "I") (by decide +kernel)) (fun _ h9 => h9) rfl rfl rfl (Nat.le_of_ble_eq_true rfl) dX14_feed_2 (fun H locs hW hS => ?_)
  have hW := q_s0 100 (0) hW rfl (by decide)
  refine lv_aload_n hx hb dX14_feed_5 rfl (lv_at hl 0 rfl) ?_
  refine q_get hx hb hts hown hA hW iX14 rO_0 rfl 2 (by decide) (hts (.fieldLink RX14 73 "HighRecipesModel" "bytes" "I") (by decide +kernel)) (fun _ h9 => h9) (v := .int (nI L)) (congrArg (fun z => some (Value.int z)) hL) dX14_feed_6 ?_
  refine lv_bipush (v := 20) hx hb dX14_feed_9 (by decide) ?_
  refine lv_iadd hx hb dX14_feed_11 ?_
  rw [show (20 : Int32) = nI 20 from rfl, nI_add]
  refine lv_sipush (v := 1600) hx hb dX14_feed_12 (by decide) ?_
  refine lv_icmp_le (tgt := 24) hx hb dX14_feed_15 (by decide) (fun c_15 => ?_) (fun c_15 => False.elim ((fun h9 => h9 (show nI (L + 20) ≤ nI 1600 from (nI_leI (by omega) (by decide)).2 hL16)) c_15))
  refine lv_iconst (v := 5) hx hb dX14_feed_24 (by decide) ?_
  refine q_newa (atype := .int) hx hb hA hW hS (hts (.arrayClass .int) (by decide +kernel)) (ty := .int) rfl 0 rfl (fun C h9 => by cases h9) (N' := 5) (a0 := (5, .inl (fun _ => 0))) (fun _ => rfl) (by decide) (by decide) (Nat.le_of_ble_eq_true rfl) (Nat.le_of_ble_eq_true rfl) (Nat.le_of_ble_eq_true rfl) dX14_feed_25 (fun H hW hS => ?_)
  rw [rO_iu (by omega)] at hW
  have hW : q_W E (rO E (va_up f n (some (aI E 5 (fun _ => 0)))) M (rp r 100 (fun _ => 0))) (n + 1) H := hW
  refine lv_dup hx hb dX14_feed_27 rfl ?_
  refine lv_iconst (v := 0) hx hb dX14_feed_28 (by decide) ?_
  refine lv_iload_n hx hb dX14_feed_29 rfl (lv_at hl 1 rfl) ?_
  refine q_ast hx hb hA hW hS ((rO_out (by omega)).trans q_eq) 0 rfl (by decide) (by decide) dX14_feed_30 (fun H locs hW hS => ?_)
  rw [rO_iu (by omega)] at hW
  rw [q_upup] at hW
  have hW : q_W E (rO E (va_up f n (some (aI E 5 (upd (fun _ => 0) 0 x1)))) M (rp r 100 (fun _ => 0))) (n + 1) H := hW
  refine lv_dup hx hb dX14_feed_31 rfl ?_
  refine lv_iconst (v := 1) hx hb dX14_feed_32 (by decide) ?_
  refine lv_iload_n hx hb dX14_feed_33 rfl (lv_at hl 2 rfl) ?_
  refine q_ast hx hb hA hW hS ((rO_out (by omega)).trans q_eq) 1 rfl (by decide) (by decide) dX14_feed_34 (fun H locs hW hS => ?_)
  rw [rO_iu (by omega)] at hW
  rw [q_upup] at hW
  have hW : q_W E (rO E (va_up f n (some (aI E 5 (upd (upd (fun _ => 0) 0 x1) 1 x2)))) M (rp r 100 (fun _ => 0))) (n + 1) H := hW
  refine lv_dup hx hb dX14_feed_35 rfl ?_
  refine lv_iconst (v := 2) hx hb dX14_feed_36 (by decide) ?_
  refine lv_iload_n hx hb dX14_feed_37 rfl (lv_at hl 3 rfl) ?_
  refine q_ast hx hb hA hW hS ((rO_out (by omega)).trans q_eq) 2 rfl (by decide) (by decide) dX14_feed_38 (fun H locs hW hS => ?_)
  rw [rO_iu (by omega)] at hW
  rw [q_upup] at hW
  have hW : q_W E (rO E (va_up f n (some (aI E 5 (upd (upd (upd (fun _ => 0) 0 x1) 1 x2) 2 x3)))) M (rp r 100 (fun _ => 0))) (n + 1) H := hW
  refine lv_dup hx hb dX14_feed_39 rfl ?_
  refine lv_iconst (v := 3) hx hb dX14_feed_40 (by decide) ?_
  refine lv_iload hx hb dX14_feed_41 (lv_at hl 4 rfl) ?_
  refine q_ast hx hb hA hW hS ((rO_out (by omega)).trans q_eq) 3 rfl (by decide) (by decide) dX14_feed_43 (fun H locs hW hS => ?_)
  rw [rO_iu (by omega)] at hW
  rw [q_upup] at hW
  have hW : q_W E (rO E (va_up f n (some (aI E 5 (upd (upd (upd (upd (fun _ => 0) 0 x1) 1 x2) 2 x3) 3 x4)))) M (rp r 100 (fun _ => 0))) (n + 1) H := hW
  refine lv_dup hx hb dX14_feed_44 rfl ?_
  refine lv_iconst (v := 4) hx hb dX14_feed_45 (by decide) ?_
  refine lv_iload hx hb dX14_feed_46 (lv_at hl 5 rfl) ?_
  refine q_ast hx hb hA hW hS ((rO_out (by omega)).trans q_eq) 4 rfl (by decide) (by decide) dX14_feed_48 (fun H locs hW hS => ?_)
  rw [rO_iu (by omega)] at hW
  rw [q_upup] at hW
  have hW : q_W E (rO E (va_up f n (some (aI E 5 (upd (upd (upd (upd (upd (fun _ => 0) 0 x1) 1 x2) 2 x3) 3 x4) 4 x5)))) M (rp r 100 (fun _ => 0))) (n + 1) H := hW
  refine lv_astore (lv' := [(6, .ref n), (0, .ref M), (1, .int x1), (2, .int x2), (3, .int x3), (4, .int x4), (5, .int x5)]) hx hb dX14_feed_49 hl (by decide) rfl (fun ls hl => ?_)
  refine lv_aload hx hb dX14_feed_51 (lv_at hl 0 rfl) ?_
  refine lv_astore (lv' := [(7, .ref n), (6, .ref n), (0, .ref M), (1, .int x1), (2, .int x2), (3, .int x3), (4, .int x4), (5, .int x5)]) hx hb dX14_feed_53 hl (by decide) rfl (fun ls hl => ?_)
  refine lv_aload hx hb dX14_feed_55 (lv_at hl 0 rfl) ?_
  refine q_alen hx hb hA hW 0 rfl ((rO_out (by omega)).trans q_eq) (v := Int32.ofNat 5) rfl dX14_feed_57 ?_
  refine lv_istore (lv' := [(8, .int 5), (7, .ref n), (6, .ref n), (0, .ref M), (1, .int x1), (2, .int x2), (3, .int x3), (4, .int x4), (5, .int x5)]) hx hb dX14_feed_58 hl (by decide) rfl (fun ls hl => ?_)
  refine lv_iconst (v := 0) hx hb dX14_feed_60 (by decide) ?_
  refine lv_istore (lv' := [(9, .int 0), (8, .int 5), (7, .ref n), (6, .ref n), (0, .ref M), (1, .int x1), (2, .int x2), (3, .int x3), (4, .int x4), (5, .int x5)]) hx hb dX14_feed_61 hl (by decide) rfl (fun ls hl => ?_)
  refine lv_iload hx hb dX14_feed_63 (lv_at hl 0 rfl) ?_
  refine lv_iload hx hb dX14_feed_65 (lv_at hl 1 rfl) ?_
  refine lv_icmp_ge (tgt := 126) hx hb dX14_feed_67 (by decide) (fun c_67 => False.elim ((fun h9 => absurd h9 (by decide)) c_67)) (fun c_67 => ?_)
  refine lv_aload hx hb dX14_feed_70 (lv_at hl 2 rfl) ?_
  refine lv_iload hx hb dX14_feed_72 (lv_at hl 0 rfl) ?_
  refine q_ald hx hb hA hW ((rO_out (by omega)).trans q_eq) 0 rfl (by decide) (by decide) (x := (upd (upd (upd (upd (upd (fun _ => 0) 0 x1) 1 x2) 2 x3) 3 x4) 4 x5) 0) rfl dX14_feed_74 ?_
  refine lv_istore (lv' := [(10, .int ((upd (upd (upd (upd (upd (fun _ => 0) 0 x1) 1 x2) 2 x3) 3 x4) 4 x5) 0)), (9, .int 0), (8, .int 5), (7, .ref n), (6, .ref n), (0, .ref M), (1, .int x1), (2, .int x2), (3, .int x3), (4, .int x4), (5, .int x5)]) hx hb dX14_feed_75 hl (by decide) rfl (fun ls hl => ?_)
  refine lv_bipush (v := 24) hx hb dX14_feed_77 (by decide) ?_
  refine lv_istore (lv' := [(11, .int 24), (10, .int ((upd (upd (upd (upd (upd (fun _ => 0) 0 x1) 1 x2) 2 x3) 3 x4) 4 x5) 0)), (9, .int 0), (8, .int 5), (7, .ref n), (6, .ref n), (0, .ref M), (1, .int x1), (2, .int x2), (3, .int x3), (4, .int x4), (5, .int x5)]) hx hb dX14_feed_79 hl (by decide) rfl (fun ls hl => ?_)
  refine lv_iload hx hb dX14_feed_81 (lv_at hl 0 rfl) ?_
  refine lv_if_lt (tgt := 120) hx hb dX14_feed_83 (by decide) (fun c_83 => False.elim ((fun h9 => absurd h9 (by decide)) c_83)) (fun c_83 => ?_)
  refine lv_aload_n hx hb dX14_feed_86 rfl (lv_at hl 6 rfl) ?_
  refine q_get hx hb hts hown hA hW iX14 rO_0 rfl 1 (by decide) (hts (.fieldLink RX14 9 "HighRecipesModel" "tape" "[I") (by decide +kernel)) (fun _ h9 => h9) (v := .ref (M + 1)) rfl dX14_feed_87 ?_
  refine lv_aload_n hx hb dX14_feed_90 rfl (lv_at hl 6 rfl) ?_
  refine q_get hx hb hts hown hA hW iX14 rO_0 rfl 2 (by decide) (hts (.fieldLink RX14 73 "HighRecipesModel" "bytes" "I") (by decide +kernel)) (fun _ h9 => h9) (v := .int (nI L)) (congrArg (fun z => some (Value.int z)) hL) dX14_feed_91 ?_
  refine lv_iload hx hb dX14_feed_94 (lv_at hl 1 rfl) ?_
  refine lv_iload hx hb dX14_feed_96 (lv_at hl 0 rfl) ?_
  refine lv_ishr hx hb dX14_feed_98 ?_
  refine lv_sipush (v := 255) hx hb dX14_feed_99 (by decide) ?_
  refine lv_iand hx hb dX14_feed_102 ?_
  refine q_ast hx hb hA hW hS (rO_1 (g := r 1) rfl) L rfl (by omega) (by decide) dX14_feed_103 (fun H locs hW hS => ?_)
  have hW := q_sa 1 hW rfl rfl
  refine lv_aload_n hx hb dX14_feed_104 rfl (lv_at hl 6 rfl) ?_
  refine lv_dup hx hb dX14_feed_105 rfl ?_
  refine q_get hx hb hts hown hA hW iX14 rO_0 rfl 2 (by decide) (hts (.fieldLink RX14 73 "HighRecipesModel" "bytes" "I") (by decide +kernel)) (fun _ h9 => h9) (v := .int (nI L)) (congrArg (fun z => some (Value.int z)) hL) dX14_feed_106 ?_
  refine lv_iconst (v := 1) hx hb dX14_feed_109 (by decide) ?_
  refine lv_iadd hx hb dX14_feed_110 ?_
  refine q_put hx hb hts hown hA hW hS iX14 tyX14 tyX14_ok nmX14 rO_0 rfl 2 (by decide) (hts (.fieldLink RX14 73 "HighRecipesModel" "bytes" "I") (by decide +kernel)) (fun _ h9 => h9) rfl rfl rfl (Nat.le_of_ble_eq_true rfl) dX14_feed_111 (fun H locs hW hS => ?_)
  rw [show (nI L) + 1 = nI (L + 1) from nI_1 L] at hW
  have hW := q_s0 101 (nI (L + 1)) hW rfl (by decide)
  refine lv_iinc (v := 16) (lv' := [(11, .int 16), (10, .int ((upd (upd (upd (upd (upd (fun _ => 0) 0 x1) 1 x2) 2 x3) 3 x4) 4 x5) 0)), (9, .int 0), (8, .int 5), (7, .ref n), (6, .ref n), (0, .ref M), (1, .int x1), (2, .int x2), (3, .int x3), (4, .int x4), (5, .int x5)]) hx hb dX14_feed_114 hl (k := 0) rfl rfl (by decide) rfl (fun ls hl => ?_)
  refine lv_goto (tgt := 81) hx hb dX14_feed_117 (by decide) ?_
  refine lv_iload hx hb dX14_feed_81 (lv_at hl 0 rfl) ?_
  refine lv_if_lt (tgt := 120) hx hb dX14_feed_83 (by decide) (fun c_83 => False.elim ((fun h9 => absurd h9 (by decide)) c_83)) (fun c_83 => ?_)
  refine lv_aload_n hx hb dX14_feed_86 rfl (lv_at hl 6 rfl) ?_
  refine q_get hx hb hts hown hA hW iX14 rO_0 rfl 1 (by decide) (hts (.fieldLink RX14 9 "HighRecipesModel" "tape" "[I") (by decide +kernel)) (fun _ h9 => h9) (v := .ref (M + 1)) rfl dX14_feed_87 ?_
  refine lv_aload_n hx hb dX14_feed_90 rfl (lv_at hl 6 rfl) ?_
  refine q_get hx hb hts hown hA hW iX14 rO_0 rfl 2 (by decide) (hts (.fieldLink RX14 73 "HighRecipesModel" "bytes" "I") (by decide +kernel)) (fun _ h9 => h9) (v := .int (nI (L + 1))) rfl dX14_feed_91 ?_
  refine lv_iload hx hb dX14_feed_94 (lv_at hl 1 rfl) ?_
  refine lv_iload hx hb dX14_feed_96 (lv_at hl 0 rfl) ?_
  refine lv_ishr hx hb dX14_feed_98 ?_
  refine lv_sipush (v := 255) hx hb dX14_feed_99 (by decide) ?_
  refine lv_iand hx hb dX14_feed_102 ?_
  refine q_ast hx hb hA hW hS (rO_1 (g := upd (r 1) L ((((upd (upd (upd (upd (upd (fun _ => 0) 0 x1) 1 x2) 2 x3) 3 x4) 4 x5) 0) >>> (24 &&& 31)) &&& 255)) rfl) (L + 1) rfl (by omega) (by decide) dX14_feed_103 (fun H locs hW hS => ?_)
  have hW := q_sa 1 hW rfl rfl
  rw [rp_d1] at hW
  refine lv_aload_n hx hb dX14_feed_104 rfl (lv_at hl 6 rfl) ?_
  refine lv_dup hx hb dX14_feed_105 rfl ?_
  refine q_get hx hb hts hown hA hW iX14 rO_0 rfl 2 (by decide) (hts (.fieldLink RX14 73 "HighRecipesModel" "bytes" "I") (by decide +kernel)) (fun _ h9 => h9) (v := .int (nI (L + 1))) rfl dX14_feed_106 ?_
  refine lv_iconst (v := 1) hx hb dX14_feed_109 (by decide) ?_
  refine lv_iadd hx hb dX14_feed_110 ?_
  refine q_put hx hb hts hown hA hW hS iX14 tyX14 tyX14_ok nmX14 rO_0 rfl 2 (by decide) (hts (.fieldLink RX14 73 "HighRecipesModel" "bytes" "I") (by decide +kernel)) (fun _ h9 => h9) rfl rfl rfl (Nat.le_of_ble_eq_true rfl) dX14_feed_111 (fun H locs hW hS => ?_)
  rw [show (nI (L + 1)) + 1 = nI (L + 2) from nI_1 (L + 1)] at hW
  have hW := q_s0 101 (nI (L + 2)) hW rfl (by decide)
  rw [rp_d1] at hW
  refine lv_iinc (v := 8) (lv' := [(11, .int 8), (10, .int ((upd (upd (upd (upd (upd (fun _ => 0) 0 x1) 1 x2) 2 x3) 3 x4) 4 x5) 0)), (9, .int 0), (8, .int 5), (7, .ref n), (6, .ref n), (0, .ref M), (1, .int x1), (2, .int x2), (3, .int x3), (4, .int x4), (5, .int x5)]) hx hb dX14_feed_114 hl (k := 0) rfl rfl (by decide) rfl (fun ls hl => ?_)
  refine lv_goto (tgt := 81) hx hb dX14_feed_117 (by decide) ?_
  refine lv_iload hx hb dX14_feed_81 (lv_at hl 0 rfl) ?_
  refine lv_if_lt (tgt := 120) hx hb dX14_feed_83 (by decide) (fun c_83 => False.elim ((fun h9 => absurd h9 (by decide)) c_83)) (fun c_83 => ?_)
  refine lv_aload_n hx hb dX14_feed_86 rfl (lv_at hl 6 rfl) ?_
  refine q_get hx hb hts hown hA hW iX14 rO_0 rfl 1 (by decide) (hts (.fieldLink RX14 9 "HighRecipesModel" "tape" "[I") (by decide +kernel)) (fun _ h9 => h9) (v := .ref (M + 1)) rfl dX14_feed_87 ?_
  refine lv_aload_n hx hb dX14_feed_90 rfl (lv_at hl 6 rfl) ?_
  refine q_get hx hb hts hown hA hW iX14 rO_0 rfl 2 (by decide) (hts (.fieldLink RX14 73 "HighRecipesModel" "bytes" "I") (by decide +kernel)) (fun _ h9 => h9) (v := .int (nI (L + 2))) rfl dX14_feed_91 ?_
  refine lv_iload hx hb dX14_feed_94 (lv_at hl 1 rfl) ?_
  refine lv_iload hx hb dX14_feed_96 (lv_at hl 0 rfl) ?_
  refine lv_ishr hx hb dX14_feed_98 ?_
  refine lv_sipush (v := 255) hx hb dX14_feed_99 (by decide) ?_
  refine lv_iand hx hb dX14_feed_102 ?_
  refine q_ast hx hb hA hW hS (rO_1 (g := upd (upd (r 1) L ((((upd (upd (upd (upd (upd (fun _ => 0) 0 x1) 1 x2) 2 x3) 3 x4) 4 x5) 0) >>> (24 &&& 31)) &&& 255)) (L + 1) ((((upd (upd (upd (upd (upd (fun _ => 0) 0 x1) 1 x2) 2 x3) 3 x4) 4 x5) 0) >>> (16 &&& 31)) &&& 255)) rfl) (L + 2) rfl (by omega) (by decide) dX14_feed_103 (fun H locs hW hS => ?_)
  have hW := q_sa 1 hW rfl rfl
  rw [rp_d1] at hW
  refine lv_aload_n hx hb dX14_feed_104 rfl (lv_at hl 6 rfl) ?_
  refine lv_dup hx hb dX14_feed_105 rfl ?_
  refine q_get hx hb hts hown hA hW iX14 rO_0 rfl 2 (by decide) (hts (.fieldLink RX14 73 "HighRecipesModel" "bytes" "I") (by decide +kernel)) (fun _ h9 => h9) (v := .int (nI (L + 2))) rfl dX14_feed_106 ?_
  refine lv_iconst (v := 1) hx hb dX14_feed_109 (by decide) ?_
  refine lv_iadd hx hb dX14_feed_110 ?_
  refine q_put hx hb hts hown hA hW hS iX14 tyX14 tyX14_ok nmX14 rO_0 rfl 2 (by decide) (hts (.fieldLink RX14 73 "HighRecipesModel" "bytes" "I") (by decide +kernel)) (fun _ h9 => h9) rfl rfl rfl (Nat.le_of_ble_eq_true rfl) dX14_feed_111 (fun H locs hW hS => ?_)
  rw [show (nI (L + 2)) + 1 = nI (L + 3) from nI_1 (L + 2)] at hW
  have hW := q_s0 101 (nI (L + 3)) hW rfl (by decide)
  rw [rp_d1] at hW
  refine lv_iinc (v := 0) (lv' := [(11, .int 0), (10, .int ((upd (upd (upd (upd (upd (fun _ => 0) 0 x1) 1 x2) 2 x3) 3 x4) 4 x5) 0)), (9, .int 0), (8, .int 5), (7, .ref n), (6, .ref n), (0, .ref M), (1, .int x1), (2, .int x2), (3, .int x3), (4, .int x4), (5, .int x5)]) hx hb dX14_feed_114 hl (k := 0) rfl rfl (by decide) rfl (fun ls hl => ?_)
  refine lv_goto (tgt := 81) hx hb dX14_feed_117 (by decide) ?_
  refine lv_iload hx hb dX14_feed_81 (lv_at hl 0 rfl) ?_
  refine lv_if_lt (tgt := 120) hx hb dX14_feed_83 (by decide) (fun c_83 => False.elim ((fun h9 => absurd h9 (by decide)) c_83)) (fun c_83 => ?_)
  refine lv_aload_n hx hb dX14_feed_86 rfl (lv_at hl 6 rfl) ?_
  refine q_get hx hb hts hown hA hW iX14 rO_0 rfl 1 (by decide) (hts (.fieldLink RX14 9 "HighRecipesModel" "tape" "[I") (by decide +kernel)) (fun _ h9 => h9) (v := .ref (M + 1)) rfl dX14_feed_87 ?_
  refine lv_aload_n hx hb dX14_feed_90 rfl (lv_at hl 6 rfl) ?_
  refine q_get hx hb hts hown hA hW iX14 rO_0 rfl 2 (by decide) (hts (.fieldLink RX14 73 "HighRecipesModel" "bytes" "I") (by decide +kernel)) (fun _ h9 => h9) (v := .int (nI (L + 3))) rfl dX14_feed_91 ?_
  refine lv_iload hx hb dX14_feed_94 (lv_at hl 1 rfl) ?_
  refine lv_iload hx hb dX14_feed_96 (lv_at hl 0 rfl) ?_
  refine lv_ishr hx hb dX14_feed_98 ?_
  refine lv_sipush (v := 255) hx hb dX14_feed_99 (by decide) ?_
  refine lv_iand hx hb dX14_feed_102 ?_
  refine q_ast hx hb hA hW hS (rO_1 (g := upd (upd (upd (r 1) L ((((upd (upd (upd (upd (upd (fun _ => 0) 0 x1) 1 x2) 2 x3) 3 x4) 4 x5) 0) >>> (24 &&& 31)) &&& 255)) (L + 1) ((((upd (upd (upd (upd (upd (fun _ => 0) 0 x1) 1 x2) 2 x3) 3 x4) 4 x5) 0) >>> (16 &&& 31)) &&& 255)) (L + 2) ((((upd (upd (upd (upd (upd (fun _ => 0) 0 x1) 1 x2) 2 x3) 3 x4) 4 x5) 0) >>> (8 &&& 31)) &&& 255)) rfl) (L + 3) rfl (by omega) (by decide) dX14_feed_103 (fun H locs hW hS => ?_)
  have hW := q_sa 1 hW rfl rfl
  rw [rp_d1] at hW
  refine lv_aload_n hx hb dX14_feed_104 rfl (lv_at hl 6 rfl) ?_
  refine lv_dup hx hb dX14_feed_105 rfl ?_
  refine q_get hx hb hts hown hA hW iX14 rO_0 rfl 2 (by decide) (hts (.fieldLink RX14 73 "HighRecipesModel" "bytes" "I") (by decide +kernel)) (fun _ h9 => h9) (v := .int (nI (L + 3))) rfl dX14_feed_106 ?_
  refine lv_iconst (v := 1) hx hb dX14_feed_109 (by decide) ?_
  refine lv_iadd hx hb dX14_feed_110 ?_
  refine q_put hx hb hts hown hA hW hS iX14 tyX14 tyX14_ok nmX14 rO_0 rfl 2 (by decide) (hts (.fieldLink RX14 73 "HighRecipesModel" "bytes" "I") (by decide +kernel)) (fun _ h9 => h9) rfl rfl rfl (Nat.le_of_ble_eq_true rfl) dX14_feed_111 (fun H locs hW hS => ?_)
  rw [show (nI (L + 3)) + 1 = nI (L + 4) from nI_1 (L + 3)] at hW
  have hW := q_s0 101 (nI (L + 4)) hW rfl (by decide)
  rw [rp_d1] at hW
  refine lv_iinc (v := (-8)) (lv' := [(11, .int (-8)), (10, .int ((upd (upd (upd (upd (upd (fun _ => 0) 0 x1) 1 x2) 2 x3) 3 x4) 4 x5) 0)), (9, .int 0), (8, .int 5), (7, .ref n), (6, .ref n), (0, .ref M), (1, .int x1), (2, .int x2), (3, .int x3), (4, .int x4), (5, .int x5)]) hx hb dX14_feed_114 hl (k := 0) rfl rfl (by decide) rfl (fun ls hl => ?_)
  refine lv_goto (tgt := 81) hx hb dX14_feed_117 (by decide) ?_
  refine lv_iload hx hb dX14_feed_81 (lv_at hl 0 rfl) ?_
  refine lv_if_lt (tgt := 120) hx hb dX14_feed_83 (by decide) (fun c_83 => ?_) (fun c_83 => False.elim ((fun h9 => h9 (by decide)) c_83))
  refine lv_iinc (v := 1) (lv' := [(9, .int 1), (11, .int (-8)), (10, .int ((upd (upd (upd (upd (upd (fun _ => 0) 0 x1) 1 x2) 2 x3) 3 x4) 4 x5) 0)), (8, .int 5), (7, .ref n), (6, .ref n), (0, .ref M), (1, .int x1), (2, .int x2), (3, .int x3), (4, .int x4), (5, .int x5)]) hx hb dX14_feed_120 hl (k := 2) rfl rfl (by decide) rfl (fun ls hl => ?_)
  refine lv_goto (tgt := 63) hx hb dX14_feed_123 (by decide) ?_
  refine lv_iload hx hb dX14_feed_63 (lv_at hl 0 rfl) ?_
  refine lv_iload hx hb dX14_feed_65 (lv_at hl 3 rfl) ?_
  refine lv_icmp_ge (tgt := 126) hx hb dX14_feed_67 (by decide) (fun c_67 => False.elim ((fun h9 => absurd h9 (by decide)) c_67)) (fun c_67 => ?_)
  refine lv_aload hx hb dX14_feed_70 (lv_at hl 4 rfl) ?_
  refine lv_iload hx hb dX14_feed_72 (lv_at hl 0 rfl) ?_
  refine q_ald hx hb hA hW ((rO_out (by omega)).trans q_eq) 1 rfl (by decide) (by decide) (x := (upd (upd (upd (upd (upd (fun _ => 0) 0 x1) 1 x2) 2 x3) 3 x4) 4 x5) 1) rfl dX14_feed_74 ?_
  refine lv_istore (lv' := [(10, .int ((upd (upd (upd (upd (upd (fun _ => 0) 0 x1) 1 x2) 2 x3) 3 x4) 4 x5) 1)), (9, .int 1), (11, .int (-8)), (8, .int 5), (7, .ref n), (6, .ref n), (0, .ref M), (1, .int x1), (2, .int x2), (3, .int x3), (4, .int x4), (5, .int x5)]) hx hb dX14_feed_75 hl (by decide) rfl (fun ls hl => ?_)
  refine lv_bipush (v := 24) hx hb dX14_feed_77 (by decide) ?_
  refine lv_istore (lv' := [(11, .int 24), (10, .int ((upd (upd (upd (upd (upd (fun _ => 0) 0 x1) 1 x2) 2 x3) 3 x4) 4 x5) 1)), (9, .int 1), (8, .int 5), (7, .ref n), (6, .ref n), (0, .ref M), (1, .int x1), (2, .int x2), (3, .int x3), (4, .int x4), (5, .int x5)]) hx hb dX14_feed_79 hl (by decide) rfl (fun ls hl => ?_)
  refine lv_iload hx hb dX14_feed_81 (lv_at hl 0 rfl) ?_
  refine lv_if_lt (tgt := 120) hx hb dX14_feed_83 (by decide) (fun c_83 => False.elim ((fun h9 => absurd h9 (by decide)) c_83)) (fun c_83 => ?_)
  refine lv_aload_n hx hb dX14_feed_86 rfl (lv_at hl 6 rfl) ?_
  refine q_get hx hb hts hown hA hW iX14 rO_0 rfl 1 (by decide) (hts (.fieldLink RX14 9 "HighRecipesModel" "tape" "[I") (by decide +kernel)) (fun _ h9 => h9) (v := .ref (M + 1)) rfl dX14_feed_87 ?_
  refine lv_aload_n hx hb dX14_feed_90 rfl (lv_at hl 6 rfl) ?_
  refine q_get hx hb hts hown hA hW iX14 rO_0 rfl 2 (by decide) (hts (.fieldLink RX14 73 "HighRecipesModel" "bytes" "I") (by decide +kernel)) (fun _ h9 => h9) (v := .int (nI (L + 4))) rfl dX14_feed_91 ?_
  refine lv_iload hx hb dX14_feed_94 (lv_at hl 1 rfl) ?_
  refine lv_iload hx hb dX14_feed_96 (lv_at hl 0 rfl) ?_
  refine lv_ishr hx hb dX14_feed_98 ?_
  refine lv_sipush (v := 255) hx hb dX14_feed_99 (by decide) ?_
  refine lv_iand hx hb dX14_feed_102 ?_
  refine q_ast hx hb hA hW hS (rO_1 (g := upd (upd (upd (upd (r 1) L ((((upd (upd (upd (upd (upd (fun _ => 0) 0 x1) 1 x2) 2 x3) 3 x4) 4 x5) 0) >>> (24 &&& 31)) &&& 255)) (L + 1) ((((upd (upd (upd (upd (upd (fun _ => 0) 0 x1) 1 x2) 2 x3) 3 x4) 4 x5) 0) >>> (16 &&& 31)) &&& 255)) (L + 2) ((((upd (upd (upd (upd (upd (fun _ => 0) 0 x1) 1 x2) 2 x3) 3 x4) 4 x5) 0) >>> (8 &&& 31)) &&& 255)) (L + 3) ((((upd (upd (upd (upd (upd (fun _ => 0) 0 x1) 1 x2) 2 x3) 3 x4) 4 x5) 0) >>> (0 &&& 31)) &&& 255)) rfl) (L + 4) rfl (by omega) (by decide) dX14_feed_103 (fun H locs hW hS => ?_)
  have hW := q_sa 1 hW rfl rfl
  rw [rp_d1] at hW
  refine lv_aload_n hx hb dX14_feed_104 rfl (lv_at hl 6 rfl) ?_
  refine lv_dup hx hb dX14_feed_105 rfl ?_
  refine q_get hx hb hts hown hA hW iX14 rO_0 rfl 2 (by decide) (hts (.fieldLink RX14 73 "HighRecipesModel" "bytes" "I") (by decide +kernel)) (fun _ h9 => h9) (v := .int (nI (L + 4))) rfl dX14_feed_106 ?_
  refine lv_iconst (v := 1) hx hb dX14_feed_109 (by decide) ?_
  refine lv_iadd hx hb dX14_feed_110 ?_
  refine q_put hx hb hts hown hA hW hS iX14 tyX14 tyX14_ok nmX14 rO_0 rfl 2 (by decide) (hts (.fieldLink RX14 73 "HighRecipesModel" "bytes" "I") (by decide +kernel)) (fun _ h9 => h9) rfl rfl rfl (Nat.le_of_ble_eq_true rfl) dX14_feed_111 (fun H locs hW hS => ?_)
  rw [show (nI (L + 4)) + 1 = nI (L + 5) from nI_1 (L + 4)] at hW
  have hW := q_s0 101 (nI (L + 5)) hW rfl (by decide)
  rw [rp_d1] at hW
  refine lv_iinc (v := 16) (lv' := [(11, .int 16), (10, .int ((upd (upd (upd (upd (upd (fun _ => 0) 0 x1) 1 x2) 2 x3) 3 x4) 4 x5) 1)), (9, .int 1), (8, .int 5), (7, .ref n), (6, .ref n), (0, .ref M), (1, .int x1), (2, .int x2), (3, .int x3), (4, .int x4), (5, .int x5)]) hx hb dX14_feed_114 hl (k := 0) rfl rfl (by decide) rfl (fun ls hl => ?_)
  refine lv_goto (tgt := 81) hx hb dX14_feed_117 (by decide) ?_
  refine lv_iload hx hb dX14_feed_81 (lv_at hl 0 rfl) ?_
  refine lv_if_lt (tgt := 120) hx hb dX14_feed_83 (by decide) (fun c_83 => False.elim ((fun h9 => absurd h9 (by decide)) c_83)) (fun c_83 => ?_)
  refine lv_aload_n hx hb dX14_feed_86 rfl (lv_at hl 6 rfl) ?_
  refine q_get hx hb hts hown hA hW iX14 rO_0 rfl 1 (by decide) (hts (.fieldLink RX14 9 "HighRecipesModel" "tape" "[I") (by decide +kernel)) (fun _ h9 => h9) (v := .ref (M + 1)) rfl dX14_feed_87 ?_
  refine lv_aload_n hx hb dX14_feed_90 rfl (lv_at hl 6 rfl) ?_
  refine q_get hx hb hts hown hA hW iX14 rO_0 rfl 2 (by decide) (hts (.fieldLink RX14 73 "HighRecipesModel" "bytes" "I") (by decide +kernel)) (fun _ h9 => h9) (v := .int (nI (L + 5))) rfl dX14_feed_91 ?_
  refine lv_iload hx hb dX14_feed_94 (lv_at hl 1 rfl) ?_
  refine lv_iload hx hb dX14_feed_96 (lv_at hl 0 rfl) ?_
  refine lv_ishr hx hb dX14_feed_98 ?_
  refine lv_sipush (v := 255) hx hb dX14_feed_99 (by decide) ?_
  refine lv_iand hx hb dX14_feed_102 ?_
  refine q_ast hx hb hA hW hS (rO_1 (g := upd (upd (upd (upd (upd (r 1) L ((((upd (upd (upd (upd (upd (fun _ => 0) 0 x1) 1 x2) 2 x3) 3 x4) 4 x5) 0) >>> (24 &&& 31)) &&& 255)) (L + 1) ((((upd (upd (upd (upd (upd (fun _ => 0) 0 x1) 1 x2) 2 x3) 3 x4) 4 x5) 0) >>> (16 &&& 31)) &&& 255)) (L + 2) ((((upd (upd (upd (upd (upd (fun _ => 0) 0 x1) 1 x2) 2 x3) 3 x4) 4 x5) 0) >>> (8 &&& 31)) &&& 255)) (L + 3) ((((upd (upd (upd (upd (upd (fun _ => 0) 0 x1) 1 x2) 2 x3) 3 x4) 4 x5) 0) >>> (0 &&& 31)) &&& 255)) (L + 4) ((((upd (upd (upd (upd (upd (fun _ => 0) 0 x1) 1 x2) 2 x3) 3 x4) 4 x5) 1) >>> (24 &&& 31)) &&& 255)) rfl) (L + 5) rfl (by omega) (by decide) dX14_feed_103 (fun H locs hW hS => ?_)
  have hW := q_sa 1 hW rfl rfl
  rw [rp_d1] at hW
  refine lv_aload_n hx hb dX14_feed_104 rfl (lv_at hl 6 rfl) ?_
  refine lv_dup hx hb dX14_feed_105 rfl ?_
  refine q_get hx hb hts hown hA hW iX14 rO_0 rfl 2 (by decide) (hts (.fieldLink RX14 73 "HighRecipesModel" "bytes" "I") (by decide +kernel)) (fun _ h9 => h9) (v := .int (nI (L + 5))) rfl dX14_feed_106 ?_
  refine lv_iconst (v := 1) hx hb dX14_feed_109 (by decide) ?_
  refine lv_iadd hx hb dX14_feed_110 ?_
  refine q_put hx hb hts hown hA hW hS iX14 tyX14 tyX14_ok nmX14 rO_0 rfl 2 (by decide) (hts (.fieldLink RX14 73 "HighRecipesModel" "bytes" "I") (by decide +kernel)) (fun _ h9 => h9) rfl rfl rfl (Nat.le_of_ble_eq_true rfl) dX14_feed_111 (fun H locs hW hS => ?_)
  rw [show (nI (L + 5)) + 1 = nI (L + 6) from nI_1 (L + 5)] at hW
  have hW := q_s0 101 (nI (L + 6)) hW rfl (by decide)
  rw [rp_d1] at hW
  refine lv_iinc (v := 8) (lv' := [(11, .int 8), (10, .int ((upd (upd (upd (upd (upd (fun _ => 0) 0 x1) 1 x2) 2 x3) 3 x4) 4 x5) 1)), (9, .int 1), (8, .int 5), (7, .ref n), (6, .ref n), (0, .ref M), (1, .int x1), (2, .int x2), (3, .int x3), (4, .int x4), (5, .int x5)]) hx hb dX14_feed_114 hl (k := 0) rfl rfl (by decide) rfl (fun ls hl => ?_)
  refine lv_goto (tgt := 81) hx hb dX14_feed_117 (by decide) ?_
  refine lv_iload hx hb dX14_feed_81 (lv_at hl 0 rfl) ?_
  refine lv_if_lt (tgt := 120) hx hb dX14_feed_83 (by decide) (fun c_83 => False.elim ((fun h9 => absurd h9 (by decide)) c_83)) (fun c_83 => ?_)
  refine lv_aload_n hx hb dX14_feed_86 rfl (lv_at hl 6 rfl) ?_
  refine q_get hx hb hts hown hA hW iX14 rO_0 rfl 1 (by decide) (hts (.fieldLink RX14 9 "HighRecipesModel" "tape" "[I") (by decide +kernel)) (fun _ h9 => h9) (v := .ref (M + 1)) rfl dX14_feed_87 ?_
  refine lv_aload_n hx hb dX14_feed_90 rfl (lv_at hl 6 rfl) ?_
  refine q_get hx hb hts hown hA hW iX14 rO_0 rfl 2 (by decide) (hts (.fieldLink RX14 73 "HighRecipesModel" "bytes" "I") (by decide +kernel)) (fun _ h9 => h9) (v := .int (nI (L + 6))) rfl dX14_feed_91 ?_
  refine lv_iload hx hb dX14_feed_94 (lv_at hl 1 rfl) ?_
  refine lv_iload hx hb dX14_feed_96 (lv_at hl 0 rfl) ?_
  refine lv_ishr hx hb dX14_feed_98 ?_
  refine lv_sipush (v := 255) hx hb dX14_feed_99 (by decide) ?_
  refine lv_iand hx hb dX14_feed_102 ?_
  refine q_ast hx hb hA hW hS (rO_1 (g := upd (upd (upd (upd (upd (upd (r 1) L ((((upd (upd (upd (upd (upd (fun _ => 0) 0 x1) 1 x2) 2 x3) 3 x4) 4 x5) 0) >>> (24 &&& 31)) &&& 255)) (L + 1) ((((upd (upd (upd (upd (upd (fun _ => 0) 0 x1) 1 x2) 2 x3) 3 x4) 4 x5) 0) >>> (16 &&& 31)) &&& 255)) (L + 2) ((((upd (upd (upd (upd (upd (fun _ => 0) 0 x1) 1 x2) 2 x3) 3 x4) 4 x5) 0) >>> (8 &&& 31)) &&& 255)) (L + 3) ((((upd (upd (upd (upd (upd (fun _ => 0) 0 x1) 1 x2) 2 x3) 3 x4) 4 x5) 0) >>> (0 &&& 31)) &&& 255)) (L + 4) ((((upd (upd (upd (upd (upd (fun _ => 0) 0 x1) 1 x2) 2 x3) 3 x4) 4 x5) 1) >>> (24 &&& 31)) &&& 255)) (L + 5) ((((upd (upd (upd (upd (upd (fun _ => 0) 0 x1) 1 x2) 2 x3) 3 x4) 4 x5) 1) >>> (16 &&& 31)) &&& 255)) rfl) (L + 6) rfl (by omega) (by decide) dX14_feed_103 (fun H locs hW hS => ?_)
  have hW := q_sa 1 hW rfl rfl
  rw [rp_d1] at hW
  refine lv_aload_n hx hb dX14_feed_104 rfl (lv_at hl 6 rfl) ?_
  refine lv_dup hx hb dX14_feed_105 rfl ?_
  refine q_get hx hb hts hown hA hW iX14 rO_0 rfl 2 (by decide) (hts (.fieldLink RX14 73 "HighRecipesModel" "bytes" "I") (by decide +kernel)) (fun _ h9 => h9) (v := .int (nI (L + 6))) rfl dX14_feed_106 ?_
  refine lv_iconst (v := 1) hx hb dX14_feed_109 (by decide) ?_
  refine lv_iadd hx hb dX14_feed_110 ?_
  refine q_put hx hb hts hown hA hW hS iX14 tyX14 tyX14_ok nmX14 rO_0 rfl 2 (by decide) (hts (.fieldLink RX14 73 "HighRecipesModel" "bytes" "I") (by decide +kernel)) (fun _ h9 => h9) rfl rfl rfl (Nat.le_of_ble_eq_true rfl) dX14_feed_111 (fun H locs hW hS => ?_)
  rw [show (nI (L + 6)) + 1 = nI (L + 7) from nI_1 (L + 6)] at hW
  have hW := q_s0 101 (nI (L + 7)) hW rfl (by decide)
  rw [rp_d1] at hW
  refine lv_iinc (v := 0) (lv' := [(11, .int 0), (10, .int ((upd (upd (upd (upd (upd (fun _ => 0) 0 x1) 1 x2) 2 x3) 3 x4) 4 x5) 1)), (9, .int 1), (8, .int 5), (7, .ref n), (6, .ref n), (0, .ref M), (1, .int x1), (2, .int x2), (3, .int x3), (4, .int x4), (5, .int x5)]) hx hb dX14_feed_114 hl (k := 0) rfl rfl (by decide) rfl (fun ls hl => ?_)
  refine lv_goto (tgt := 81) hx hb dX14_feed_117 (by decide) ?_
  refine lv_iload hx hb dX14_feed_81 (lv_at hl 0 rfl) ?_
  refine lv_if_lt (tgt := 120) hx hb dX14_feed_83 (by decide) (fun c_83 => False.elim ((fun h9 => absurd h9 (by decide)) c_83)) (fun c_83 => ?_)
  refine lv_aload_n hx hb dX14_feed_86 rfl (lv_at hl 6 rfl) ?_
  refine q_get hx hb hts hown hA hW iX14 rO_0 rfl 1 (by decide) (hts (.fieldLink RX14 9 "HighRecipesModel" "tape" "[I") (by decide +kernel)) (fun _ h9 => h9) (v := .ref (M + 1)) rfl dX14_feed_87 ?_
  refine lv_aload_n hx hb dX14_feed_90 rfl (lv_at hl 6 rfl) ?_
  refine q_get hx hb hts hown hA hW iX14 rO_0 rfl 2 (by decide) (hts (.fieldLink RX14 73 "HighRecipesModel" "bytes" "I") (by decide +kernel)) (fun _ h9 => h9) (v := .int (nI (L + 7))) rfl dX14_feed_91 ?_
  refine lv_iload hx hb dX14_feed_94 (lv_at hl 1 rfl) ?_
  refine lv_iload hx hb dX14_feed_96 (lv_at hl 0 rfl) ?_
  refine lv_ishr hx hb dX14_feed_98 ?_
  refine lv_sipush (v := 255) hx hb dX14_feed_99 (by decide) ?_
  refine lv_iand hx hb dX14_feed_102 ?_
  refine q_ast hx hb hA hW hS (rO_1 (g := upd (upd (upd (upd (upd (upd (upd (r 1) L ((((upd (upd (upd (upd (upd (fun _ => 0) 0 x1) 1 x2) 2 x3) 3 x4) 4 x5) 0) >>> (24 &&& 31)) &&& 255)) (L + 1) ((((upd (upd (upd (upd (upd (fun _ => 0) 0 x1) 1 x2) 2 x3) 3 x4) 4 x5) 0) >>> (16 &&& 31)) &&& 255)) (L + 2) ((((upd (upd (upd (upd (upd (fun _ => 0) 0 x1) 1 x2) 2 x3) 3 x4) 4 x5) 0) >>> (8 &&& 31)) &&& 255)) (L + 3) ((((upd (upd (upd (upd (upd (fun _ => 0) 0 x1) 1 x2) 2 x3) 3 x4) 4 x5) 0) >>> (0 &&& 31)) &&& 255)) (L + 4) ((((upd (upd (upd (upd (upd (fun _ => 0) 0 x1) 1 x2) 2 x3) 3 x4) 4 x5) 1) >>> (24 &&& 31)) &&& 255)) (L + 5) ((((upd (upd (upd (upd (upd (fun _ => 0) 0 x1) 1 x2) 2 x3) 3 x4) 4 x5) 1) >>> (16 &&& 31)) &&& 255)) (L + 6) ((((upd (upd (upd (upd (upd (fun _ => 0) 0 x1) 1 x2) 2 x3) 3 x4) 4 x5) 1) >>> (8 &&& 31)) &&& 255)) rfl) (L + 7) rfl (by omega) (by decide) dX14_feed_103 (fun H locs hW hS => ?_)
  have hW := q_sa 1 hW rfl rfl
  rw [rp_d1] at hW
  refine lv_aload_n hx hb dX14_feed_104 rfl (lv_at hl 6 rfl) ?_
  refine lv_dup hx hb dX14_feed_105 rfl ?_
  refine q_get hx hb hts hown hA hW iX14 rO_0 rfl 2 (by decide) (hts (.fieldLink RX14 73 "HighRecipesModel" "bytes" "I") (by decide +kernel)) (fun _ h9 => h9) (v := .int (nI (L + 7))) rfl dX14_feed_106 ?_
  refine lv_iconst (v := 1) hx hb dX14_feed_109 (by decide) ?_
  refine lv_iadd hx hb dX14_feed_110 ?_
  refine q_put hx hb hts hown hA hW hS iX14 tyX14 tyX14_ok nmX14 rO_0 rfl 2 (by decide) (hts (.fieldLink RX14 73 "HighRecipesModel" "bytes" "I") (by decide +kernel)) (fun _ h9 => h9) rfl rfl rfl (Nat.le_of_ble_eq_true rfl) dX14_feed_111 (fun H locs hW hS => ?_)
  rw [show (nI (L + 7)) + 1 = nI (L + 8) from nI_1 (L + 7)] at hW
  have hW := q_s0 101 (nI (L + 8)) hW rfl (by decide)
  rw [rp_d1] at hW
  refine lv_iinc (v := (-8)) (lv' := [(11, .int (-8)), (10, .int ((upd (upd (upd (upd (upd (fun _ => 0) 0 x1) 1 x2) 2 x3) 3 x4) 4 x5) 1)), (9, .int 1), (8, .int 5), (7, .ref n), (6, .ref n), (0, .ref M), (1, .int x1), (2, .int x2), (3, .int x3), (4, .int x4), (5, .int x5)]) hx hb dX14_feed_114 hl (k := 0) rfl rfl (by decide) rfl (fun ls hl => ?_)
  refine lv_goto (tgt := 81) hx hb dX14_feed_117 (by decide) ?_
  refine lv_iload hx hb dX14_feed_81 (lv_at hl 0 rfl) ?_
  refine lv_if_lt (tgt := 120) hx hb dX14_feed_83 (by decide) (fun c_83 => ?_) (fun c_83 => False.elim ((fun h9 => h9 (by decide)) c_83))
  refine lv_iinc (v := 2) (lv' := [(9, .int 2), (11, .int (-8)), (10, .int ((upd (upd (upd (upd (upd (fun _ => 0) 0 x1) 1 x2) 2 x3) 3 x4) 4 x5) 1)), (8, .int 5), (7, .ref n), (6, .ref n), (0, .ref M), (1, .int x1), (2, .int x2), (3, .int x3), (4, .int x4), (5, .int x5)]) hx hb dX14_feed_120 hl (k := 2) rfl rfl (by decide) rfl (fun ls hl => ?_)
  refine lv_goto (tgt := 63) hx hb dX14_feed_123 (by decide) ?_
  refine lv_iload hx hb dX14_feed_63 (lv_at hl 0 rfl) ?_
  refine lv_iload hx hb dX14_feed_65 (lv_at hl 3 rfl) ?_
  refine lv_icmp_ge (tgt := 126) hx hb dX14_feed_67 (by decide) (fun c_67 => False.elim ((fun h9 => absurd h9 (by decide)) c_67)) (fun c_67 => ?_)
  refine lv_aload hx hb dX14_feed_70 (lv_at hl 4 rfl) ?_
  refine lv_iload hx hb dX14_feed_72 (lv_at hl 0 rfl) ?_
  refine q_ald hx hb hA hW ((rO_out (by omega)).trans q_eq) 2 rfl (by decide) (by decide) (x := (upd (upd (upd (upd (upd (fun _ => 0) 0 x1) 1 x2) 2 x3) 3 x4) 4 x5) 2) rfl dX14_feed_74 ?_
  refine lv_istore (lv' := [(10, .int ((upd (upd (upd (upd (upd (fun _ => 0) 0 x1) 1 x2) 2 x3) 3 x4) 4 x5) 2)), (9, .int 2), (11, .int (-8)), (8, .int 5), (7, .ref n), (6, .ref n), (0, .ref M), (1, .int x1), (2, .int x2), (3, .int x3), (4, .int x4), (5, .int x5)]) hx hb dX14_feed_75 hl (by decide) rfl (fun ls hl => ?_)
  refine lv_bipush (v := 24) hx hb dX14_feed_77 (by decide) ?_
  refine lv_istore (lv' := [(11, .int 24), (10, .int ((upd (upd (upd (upd (upd (fun _ => 0) 0 x1) 1 x2) 2 x3) 3 x4) 4 x5) 2)), (9, .int 2), (8, .int 5), (7, .ref n), (6, .ref n), (0, .ref M), (1, .int x1), (2, .int x2), (3, .int x3), (4, .int x4), (5, .int x5)]) hx hb dX14_feed_79 hl (by decide) rfl (fun ls hl => ?_)
  refine lv_iload hx hb dX14_feed_81 (lv_at hl 0 rfl) ?_
  refine lv_if_lt (tgt := 120) hx hb dX14_feed_83 (by decide) (fun c_83 => False.elim ((fun h9 => absurd h9 (by decide)) c_83)) (fun c_83 => ?_)
  refine lv_aload_n hx hb dX14_feed_86 rfl (lv_at hl 6 rfl) ?_
  refine q_get hx hb hts hown hA hW iX14 rO_0 rfl 1 (by decide) (hts (.fieldLink RX14 9 "HighRecipesModel" "tape" "[I") (by decide +kernel)) (fun _ h9 => h9) (v := .ref (M + 1)) rfl dX14_feed_87 ?_
  refine lv_aload_n hx hb dX14_feed_90 rfl (lv_at hl 6 rfl) ?_
  refine q_get hx hb hts hown hA hW iX14 rO_0 rfl 2 (by decide) (hts (.fieldLink RX14 73 "HighRecipesModel" "bytes" "I") (by decide +kernel)) (fun _ h9 => h9) (v := .int (nI (L + 8))) rfl dX14_feed_91 ?_
  refine lv_iload hx hb dX14_feed_94 (lv_at hl 1 rfl) ?_
  refine lv_iload hx hb dX14_feed_96 (lv_at hl 0 rfl) ?_
  refine lv_ishr hx hb dX14_feed_98 ?_
  refine lv_sipush (v := 255) hx hb dX14_feed_99 (by decide) ?_
  refine lv_iand hx hb dX14_feed_102 ?_
  refine q_ast hx hb hA hW hS (rO_1 (g := upd (upd (upd (upd (upd (upd (upd (upd (r 1) L ((((upd (upd (upd (upd (upd (fun _ => 0) 0 x1) 1 x2) 2 x3) 3 x4) 4 x5) 0) >>> (24 &&& 31)) &&& 255)) (L + 1) ((((upd (upd (upd (upd (upd (fun _ => 0) 0 x1) 1 x2) 2 x3) 3 x4) 4 x5) 0) >>> (16 &&& 31)) &&& 255)) (L + 2) ((((upd (upd (upd (upd (upd (fun _ => 0) 0 x1) 1 x2) 2 x3) 3 x4) 4 x5) 0) >>> (8 &&& 31)) &&& 255)) (L + 3) ((((upd (upd (upd (upd (upd (fun _ => 0) 0 x1) 1 x2) 2 x3) 3 x4) 4 x5) 0) >>> (0 &&& 31)) &&& 255)) (L + 4) ((((upd (upd (upd (upd (upd (fun _ => 0) 0 x1) 1 x2) 2 x3) 3 x4) 4 x5) 1) >>> (24 &&& 31)) &&& 255)) (L + 5) ((((upd (upd (upd (upd (upd (fun _ => 0) 0 x1) 1 x2) 2 x3) 3 x4) 4 x5) 1) >>> (16 &&& 31)) &&& 255)) (L + 6) ((((upd (upd (upd (upd (upd (fun _ => 0) 0 x1) 1 x2) 2 x3) 3 x4) 4 x5) 1) >>> (8 &&& 31)) &&& 255)) (L + 7) ((((upd (upd (upd (upd (upd (fun _ => 0) 0 x1) 1 x2) 2 x3) 3 x4) 4 x5) 1) >>> (0 &&& 31)) &&& 255)) rfl) (L + 8) rfl (by omega) (by decide) dX14_feed_103 (fun H locs hW hS => ?_)
  have hW := q_sa 1 hW rfl rfl
  rw [rp_d1] at hW
  refine lv_aload_n hx hb dX14_feed_104 rfl (lv_at hl 6 rfl) ?_
  refine lv_dup hx hb dX14_feed_105 rfl ?_
  refine q_get hx hb hts hown hA hW iX14 rO_0 rfl 2 (by decide) (hts (.fieldLink RX14 73 "HighRecipesModel" "bytes" "I") (by decide +kernel)) (fun _ h9 => h9) (v := .int (nI (L + 8))) rfl dX14_feed_106 ?_
  refine lv_iconst (v := 1) hx hb dX14_feed_109 (by decide) ?_
  refine lv_iadd hx hb dX14_feed_110 ?_
  refine q_put hx hb hts hown hA hW hS iX14 tyX14 tyX14_ok nmX14 rO_0 rfl 2 (by decide) (hts (.fieldLink RX14 73 "HighRecipesModel" "bytes" "I") (by decide +kernel)) (fun _ h9 => h9) rfl rfl rfl (Nat.le_of_ble_eq_true rfl) dX14_feed_111 (fun H locs hW hS => ?_)
  rw [show (nI (L + 8)) + 1 = nI (L + 9) from nI_1 (L + 8)] at hW
  have hW := q_s0 101 (nI (L + 9)) hW rfl (by decide)
  rw [rp_d1] at hW
  refine lv_iinc (v := 16) (lv' := [(11, .int 16), (10, .int ((upd (upd (upd (upd (upd (fun _ => 0) 0 x1) 1 x2) 2 x3) 3 x4) 4 x5) 2)), (9, .int 2), (8, .int 5), (7, .ref n), (6, .ref n), (0, .ref M), (1, .int x1), (2, .int x2), (3, .int x3), (4, .int x4), (5, .int x5)]) hx hb dX14_feed_114 hl (k := 0) rfl rfl (by decide) rfl (fun ls hl => ?_)
  refine lv_goto (tgt := 81) hx hb dX14_feed_117 (by decide) ?_
  refine lv_iload hx hb dX14_feed_81 (lv_at hl 0 rfl) ?_
  refine lv_if_lt (tgt := 120) hx hb dX14_feed_83 (by decide) (fun c_83 => False.elim ((fun h9 => absurd h9 (by decide)) c_83)) (fun c_83 => ?_)
  refine lv_aload_n hx hb dX14_feed_86 rfl (lv_at hl 6 rfl) ?_
  refine q_get hx hb hts hown hA hW iX14 rO_0 rfl 1 (by decide) (hts (.fieldLink RX14 9 "HighRecipesModel" "tape" "[I") (by decide +kernel)) (fun _ h9 => h9) (v := .ref (M + 1)) rfl dX14_feed_87 ?_
  refine lv_aload_n hx hb dX14_feed_90 rfl (lv_at hl 6 rfl) ?_
  refine q_get hx hb hts hown hA hW iX14 rO_0 rfl 2 (by decide) (hts (.fieldLink RX14 73 "HighRecipesModel" "bytes" "I") (by decide +kernel)) (fun _ h9 => h9) (v := .int (nI (L + 9))) rfl dX14_feed_91 ?_
  refine lv_iload hx hb dX14_feed_94 (lv_at hl 1 rfl) ?_
  refine lv_iload hx hb dX14_feed_96 (lv_at hl 0 rfl) ?_
  refine lv_ishr hx hb dX14_feed_98 ?_
  refine lv_sipush (v := 255) hx hb dX14_feed_99 (by decide) ?_
  refine lv_iand hx hb dX14_feed_102 ?_
  refine q_ast hx hb hA hW hS (rO_1 (g := upd (upd (upd (upd (upd (upd (upd (upd (upd (r 1) L ((((upd (upd (upd (upd (upd (fun _ => 0) 0 x1) 1 x2) 2 x3) 3 x4) 4 x5) 0) >>> (24 &&& 31)) &&& 255)) (L + 1) ((((upd (upd (upd (upd (upd (fun _ => 0) 0 x1) 1 x2) 2 x3) 3 x4) 4 x5) 0) >>> (16 &&& 31)) &&& 255)) (L + 2) ((((upd (upd (upd (upd (upd (fun _ => 0) 0 x1) 1 x2) 2 x3) 3 x4) 4 x5) 0) >>> (8 &&& 31)) &&& 255)) (L + 3) ((((upd (upd (upd (upd (upd (fun _ => 0) 0 x1) 1 x2) 2 x3) 3 x4) 4 x5) 0) >>> (0 &&& 31)) &&& 255)) (L + 4) ((((upd (upd (upd (upd (upd (fun _ => 0) 0 x1) 1 x2) 2 x3) 3 x4) 4 x5) 1) >>> (24 &&& 31)) &&& 255)) (L + 5) ((((upd (upd (upd (upd (upd (fun _ => 0) 0 x1) 1 x2) 2 x3) 3 x4) 4 x5) 1) >>> (16 &&& 31)) &&& 255)) (L + 6) ((((upd (upd (upd (upd (upd (fun _ => 0) 0 x1) 1 x2) 2 x3) 3 x4) 4 x5) 1) >>> (8 &&& 31)) &&& 255)) (L + 7) ((((upd (upd (upd (upd (upd (fun _ => 0) 0 x1) 1 x2) 2 x3) 3 x4) 4 x5) 1) >>> (0 &&& 31)) &&& 255)) (L + 8) ((((upd (upd (upd (upd (upd (fun _ => 0) 0 x1) 1 x2) 2 x3) 3 x4) 4 x5) 2) >>> (24 &&& 31)) &&& 255)) rfl) (L + 9) rfl (by omega) (by decide) dX14_feed_103 (fun H locs hW hS => ?_)
  have hW := q_sa 1 hW rfl rfl
  rw [rp_d1] at hW
  refine lv_aload_n hx hb dX14_feed_104 rfl (lv_at hl 6 rfl) ?_
  refine lv_dup hx hb dX14_feed_105 rfl ?_
  refine q_get hx hb hts hown hA hW iX14 rO_0 rfl 2 (by decide) (hts (.fieldLink RX14 73 "HighRecipesModel" "bytes" "I") (by decide +kernel)) (fun _ h9 => h9) (v := .int (nI (L + 9))) rfl dX14_feed_106 ?_
  refine lv_iconst (v := 1) hx hb dX14_feed_109 (by decide) ?_
  refine lv_iadd hx hb dX14_feed_110 ?_
  refine q_put hx hb hts hown hA hW hS iX14 tyX14 tyX14_ok nmX14 rO_0 rfl 2 (by decide) (hts (.fieldLink RX14 73 "HighRecipesModel" "bytes" "I") (by decide +kernel)) (fun _ h9 => h9) rfl rfl rfl (Nat.le_of_ble_eq_true rfl) dX14_feed_111 (fun H locs hW hS => ?_)
  rw [show (nI (L + 9)) + 1 = nI (L + 10) from nI_1 (L + 9)] at hW
  have hW := q_s0 101 (nI (L + 10)) hW rfl (by decide)
  rw [rp_d1] at hW
  refine lv_iinc (v := 8) (lv' := [(11, .int 8), (10, .int ((upd (upd (upd (upd (upd (fun _ => 0) 0 x1) 1 x2) 2 x3) 3 x4) 4 x5) 2)), (9, .int 2), (8, .int 5), (7, .ref n), (6, .ref n), (0, .ref M), (1, .int x1), (2, .int x2), (3, .int x3), (4, .int x4), (5, .int x5)]) hx hb dX14_feed_114 hl (k := 0) rfl rfl (by decide) rfl (fun ls hl => ?_)
  refine lv_goto (tgt := 81) hx hb dX14_feed_117 (by decide) ?_
  refine lv_iload hx hb dX14_feed_81 (lv_at hl 0 rfl) ?_
  refine lv_if_lt (tgt := 120) hx hb dX14_feed_83 (by decide) (fun c_83 => False.elim ((fun h9 => absurd h9 (by decide)) c_83)) (fun c_83 => ?_)
  refine lv_aload_n hx hb dX14_feed_86 rfl (lv_at hl 6 rfl) ?_
  refine q_get hx hb hts hown hA hW iX14 rO_0 rfl 1 (by decide) (hts (.fieldLink RX14 9 "HighRecipesModel" "tape" "[I") (by decide +kernel)) (fun _ h9 => h9) (v := .ref (M + 1)) rfl dX14_feed_87 ?_
  refine lv_aload_n hx hb dX14_feed_90 rfl (lv_at hl 6 rfl) ?_
  refine q_get hx hb hts hown hA hW iX14 rO_0 rfl 2 (by decide) (hts (.fieldLink RX14 73 "HighRecipesModel" "bytes" "I") (by decide +kernel)) (fun _ h9 => h9) (v := .int (nI (L + 10))) rfl dX14_feed_91 ?_
  refine lv_iload hx hb dX14_feed_94 (lv_at hl 1 rfl) ?_
  refine lv_iload hx hb dX14_feed_96 (lv_at hl 0 rfl) ?_
  refine lv_ishr hx hb dX14_feed_98 ?_
  refine lv_sipush (v := 255) hx hb dX14_feed_99 (by decide) ?_
  refine lv_iand hx hb dX14_feed_102 ?_
  refine q_ast hx hb hA hW hS (rO_1 (g := upd (upd (upd (upd (upd (upd (upd (upd (upd (upd (r 1) L ((((upd (upd (upd (upd (upd (fun _ => 0) 0 x1) 1 x2) 2 x3) 3 x4) 4 x5) 0) >>> (24 &&& 31)) &&& 255)) (L + 1) ((((upd (upd (upd (upd (upd (fun _ => 0) 0 x1) 1 x2) 2 x3) 3 x4) 4 x5) 0) >>> (16 &&& 31)) &&& 255)) (L + 2) ((((upd (upd (upd (upd (upd (fun _ => 0) 0 x1) 1 x2) 2 x3) 3 x4) 4 x5) 0) >>> (8 &&& 31)) &&& 255)) (L + 3) ((((upd (upd (upd (upd (upd (fun _ => 0) 0 x1) 1 x2) 2 x3) 3 x4) 4 x5) 0) >>> (0 &&& 31)) &&& 255)) (L + 4) ((((upd (upd (upd (upd (upd (fun _ => 0) 0 x1) 1 x2) 2 x3) 3 x4) 4 x5) 1) >>> (24 &&& 31)) &&& 255)) (L + 5) ((((upd (upd (upd (upd (upd (fun _ => 0) 0 x1) 1 x2) 2 x3) 3 x4) 4 x5) 1) >>> (16 &&& 31)) &&& 255)) (L + 6) ((((upd (upd (upd (upd (upd (fun _ => 0) 0 x1) 1 x2) 2 x3) 3 x4) 4 x5) 1) >>> (8 &&& 31)) &&& 255)) (L + 7) ((((upd (upd (upd (upd (upd (fun _ => 0) 0 x1) 1 x2) 2 x3) 3 x4) 4 x5) 1) >>> (0 &&& 31)) &&& 255)) (L + 8) ((((upd (upd (upd (upd (upd (fun _ => 0) 0 x1) 1 x2) 2 x3) 3 x4) 4 x5) 2) >>> (24 &&& 31)) &&& 255)) (L + 9) ((((upd (upd (upd (upd (upd (fun _ => 0) 0 x1) 1 x2) 2 x3) 3 x4) 4 x5) 2) >>> (16 &&& 31)) &&& 255)) rfl) (L + 10) rfl (by omega) (by decide) dX14_feed_103 (fun H locs hW hS => ?_)
  have hW := q_sa 1 hW rfl rfl
  rw [rp_d1] at hW
  refine lv_aload_n hx hb dX14_feed_104 rfl (lv_at hl 6 rfl) ?_
  refine lv_dup hx hb dX14_feed_105 rfl ?_
  refine q_get hx hb hts hown hA hW iX14 rO_0 rfl 2 (by decide) (hts (.fieldLink RX14 73 "HighRecipesModel" "bytes" "I") (by decide +kernel)) (fun _ h9 => h9) (v := .int (nI (L + 10))) rfl dX14_feed_106 ?_
  refine lv_iconst (v := 1) hx hb dX14_feed_109 (by decide) ?_
  refine lv_iadd hx hb dX14_feed_110 ?_
  refine q_put hx hb hts hown hA hW hS iX14 tyX14 tyX14_ok nmX14 rO_0 rfl 2 (by decide) (hts (.fieldLink RX14 73 "HighRecipesModel" "bytes" "I") (by decide +kernel)) (fun _ h9 => h9) rfl rfl rfl (Nat.le_of_ble_eq_true rfl) dX14_feed_111 (fun H locs hW hS => ?_)
  rw [show (nI (L + 10)) + 1 = nI (L + 11) from nI_1 (L + 10)] at hW
  have hW := q_s0 101 (nI (L + 11)) hW rfl (by decide)
  rw [rp_d1] at hW
  refine lv_iinc (v := 0) (lv' := [(11, .int 0), (10, .int ((upd (upd (upd (upd (upd (fun _ => 0) 0 x1) 1 x2) 2 x3) 3 x4) 4 x5) 2)), (9, .int 2), (8, .int 5), (7, .ref n), (6, .ref n), (0, .ref M), (1, .int x1), (2, .int x2), (3, .int x3), (4, .int x4), (5, .int x5)]) hx hb dX14_feed_114 hl (k := 0) rfl rfl (by decide) rfl (fun ls hl => ?_)
  refine lv_goto (tgt := 81) hx hb dX14_feed_117 (by decide) ?_
  refine lv_iload hx hb dX14_feed_81 (lv_at hl 0 rfl) ?_
  refine lv_if_lt (tgt := 120) hx hb dX14_feed_83 (by decide) (fun c_83 => False.elim ((fun h9 => absurd h9 (by decide)) c_83)) (fun c_83 => ?_)
  refine lv_aload_n hx hb dX14_feed_86 rfl (lv_at hl 6 rfl) ?_
  refine q_get hx hb hts hown hA hW iX14 rO_0 rfl 1 (by decide) (hts (.fieldLink RX14 9 "HighRecipesModel" "tape" "[I") (by decide +kernel)) (fun _ h9 => h9) (v := .ref (M + 1)) rfl dX14_feed_87 ?_
  refine lv_aload_n hx hb dX14_feed_90 rfl (lv_at hl 6 rfl) ?_
  refine q_get hx hb hts hown hA hW iX14 rO_0 rfl 2 (by decide) (hts (.fieldLink RX14 73 "HighRecipesModel" "bytes" "I") (by decide +kernel)) (fun _ h9 => h9) (v := .int (nI (L + 11))) rfl dX14_feed_91 ?_
  refine lv_iload hx hb dX14_feed_94 (lv_at hl 1 rfl) ?_
  refine lv_iload hx hb dX14_feed_96 (lv_at hl 0 rfl) ?_
  refine lv_ishr hx hb dX14_feed_98 ?_
  refine lv_sipush (v := 255) hx hb dX14_feed_99 (by decide) ?_
  refine lv_iand hx hb dX14_feed_102 ?_
  refine q_ast hx hb hA hW hS (rO_1 (g := upd (upd (upd (upd (upd (upd (upd (upd (upd (upd (upd (r 1) L ((((upd (upd (upd (upd (upd (fun _ => 0) 0 x1) 1 x2) 2 x3) 3 x4) 4 x5) 0) >>> (24 &&& 31)) &&& 255)) (L + 1) ((((upd (upd (upd (upd (upd (fun _ => 0) 0 x1) 1 x2) 2 x3) 3 x4) 4 x5) 0) >>> (16 &&& 31)) &&& 255)) (L + 2) ((((upd (upd (upd (upd (upd (fun _ => 0) 0 x1) 1 x2) 2 x3) 3 x4) 4 x5) 0) >>> (8 &&& 31)) &&& 255)) (L + 3) ((((upd (upd (upd (upd (upd (fun _ => 0) 0 x1) 1 x2) 2 x3) 3 x4) 4 x5) 0) >>> (0 &&& 31)) &&& 255)) (L + 4) ((((upd (upd (upd (upd (upd (fun _ => 0) 0 x1) 1 x2) 2 x3) 3 x4) 4 x5) 1) >>> (24 &&& 31)) &&& 255)) (L + 5) ((((upd (upd (upd (upd (upd (fun _ => 0) 0 x1) 1 x2) 2 x3) 3 x4) 4 x5) 1) >>> (16 &&& 31)) &&& 255)) (L + 6) ((((upd (upd (upd (upd (upd (fun _ => 0) 0 x1) 1 x2) 2 x3) 3 x4) 4 x5) 1) >>> (8 &&& 31)) &&& 255)) (L + 7) ((((upd (upd (upd (upd (upd (fun _ => 0) 0 x1) 1 x2) 2 x3) 3 x4) 4 x5) 1) >>> (0 &&& 31)) &&& 255)) (L + 8) ((((upd (upd (upd (upd (upd (fun _ => 0) 0 x1) 1 x2) 2 x3) 3 x4) 4 x5) 2) >>> (24 &&& 31)) &&& 255)) (L + 9) ((((upd (upd (upd (upd (upd (fun _ => 0) 0 x1) 1 x2) 2 x3) 3 x4) 4 x5) 2) >>> (16 &&& 31)) &&& 255)) (L + 10) ((((upd (upd (upd (upd (upd (fun _ => 0) 0 x1) 1 x2) 2 x3) 3 x4) 4 x5) 2) >>> (8 &&& 31)) &&& 255)) rfl) (L + 11) rfl (by omega) (by decide) dX14_feed_103 (fun H locs hW hS => ?_)
  have hW := q_sa 1 hW rfl rfl
  rw [rp_d1] at hW
  refine lv_aload_n hx hb dX14_feed_104 rfl (lv_at hl 6 rfl) ?_
  refine lv_dup hx hb dX14_feed_105 rfl ?_
  refine q_get hx hb hts hown hA hW iX14 rO_0 rfl 2 (by decide) (hts (.fieldLink RX14 73 "HighRecipesModel" "bytes" "I") (by decide +kernel)) (fun _ h9 => h9) (v := .int (nI (L + 11))) rfl dX14_feed_106 ?_
  refine lv_iconst (v := 1) hx hb dX14_feed_109 (by decide) ?_
  refine lv_iadd hx hb dX14_feed_110 ?_
  refine q_put hx hb hts hown hA hW hS iX14 tyX14 tyX14_ok nmX14 rO_0 rfl 2 (by decide) (hts (.fieldLink RX14 73 "HighRecipesModel" "bytes" "I") (by decide +kernel)) (fun _ h9 => h9) rfl rfl rfl (Nat.le_of_ble_eq_true rfl) dX14_feed_111 (fun H locs hW hS => ?_)
  rw [show (nI (L + 11)) + 1 = nI (L + 12) from nI_1 (L + 11)] at hW
  have hW := q_s0 101 (nI (L + 12)) hW rfl (by decide)
  rw [rp_d1] at hW
  refine lv_iinc (v := (-8)) (lv' := [(11, .int (-8)), (10, .int ((upd (upd (upd (upd (upd (fun _ => 0) 0 x1) 1 x2) 2 x3) 3 x4) 4 x5) 2)), (9, .int 2), (8, .int 5), (7, .ref n), (6, .ref n), (0, .ref M), (1, .int x1), (2, .int x2), (3, .int x3), (4, .int x4), (5, .int x5)]) hx hb dX14_feed_114 hl (k := 0) rfl rfl (by decide) rfl (fun ls hl => ?_)
  refine lv_goto (tgt := 81) hx hb dX14_feed_117 (by decide) ?_
  refine lv_iload hx hb dX14_feed_81 (lv_at hl 0 rfl) ?_
  refine lv_if_lt (tgt := 120) hx hb dX14_feed_83 (by decide) (fun c_83 => ?_) (fun c_83 => False.elim ((fun h9 => h9 (by decide)) c_83))
  refine lv_iinc (v := 3) (lv' := [(9, .int 3), (11, .int (-8)), (10, .int ((upd (upd (upd (upd (upd (fun _ => 0) 0 x1) 1 x2) 2 x3) 3 x4) 4 x5) 2)), (8, .int 5), (7, .ref n), (6, .ref n), (0, .ref M), (1, .int x1), (2, .int x2), (3, .int x3), (4, .int x4), (5, .int x5)]) hx hb dX14_feed_120 hl (k := 2) rfl rfl (by decide) rfl (fun ls hl => ?_)
  refine lv_goto (tgt := 63) hx hb dX14_feed_123 (by decide) ?_
  refine lv_iload hx hb dX14_feed_63 (lv_at hl 0 rfl) ?_
  refine lv_iload hx hb dX14_feed_65 (lv_at hl 3 rfl) ?_
  refine lv_icmp_ge (tgt := 126) hx hb dX14_feed_67 (by decide) (fun c_67 => False.elim ((fun h9 => absurd h9 (by decide)) c_67)) (fun c_67 => ?_)
  refine lv_aload hx hb dX14_feed_70 (lv_at hl 4 rfl) ?_
  refine lv_iload hx hb dX14_feed_72 (lv_at hl 0 rfl) ?_
  refine q_ald hx hb hA hW ((rO_out (by omega)).trans q_eq) 3 rfl (by decide) (by decide) (x := (upd (upd (upd (upd (upd (fun _ => 0) 0 x1) 1 x2) 2 x3) 3 x4) 4 x5) 3) rfl dX14_feed_74 ?_
  refine lv_istore (lv' := [(10, .int ((upd (upd (upd (upd (upd (fun _ => 0) 0 x1) 1 x2) 2 x3) 3 x4) 4 x5) 3)), (9, .int 3), (11, .int (-8)), (8, .int 5), (7, .ref n), (6, .ref n), (0, .ref M), (1, .int x1), (2, .int x2), (3, .int x3), (4, .int x4), (5, .int x5)]) hx hb dX14_feed_75 hl (by decide) rfl (fun ls hl => ?_)
  refine lv_bipush (v := 24) hx hb dX14_feed_77 (by decide) ?_
  refine lv_istore (lv' := [(11, .int 24), (10, .int ((upd (upd (upd (upd (upd (fun _ => 0) 0 x1) 1 x2) 2 x3) 3 x4) 4 x5) 3)), (9, .int 3), (8, .int 5), (7, .ref n), (6, .ref n), (0, .ref M), (1, .int x1), (2, .int x2), (3, .int x3), (4, .int x4), (5, .int x5)]) hx hb dX14_feed_79 hl (by decide) rfl (fun ls hl => ?_)
  refine lv_iload hx hb dX14_feed_81 (lv_at hl 0 rfl) ?_
  refine lv_if_lt (tgt := 120) hx hb dX14_feed_83 (by decide) (fun c_83 => False.elim ((fun h9 => absurd h9 (by decide)) c_83)) (fun c_83 => ?_)
  refine lv_aload_n hx hb dX14_feed_86 rfl (lv_at hl 6 rfl) ?_
  refine q_get hx hb hts hown hA hW iX14 rO_0 rfl 1 (by decide) (hts (.fieldLink RX14 9 "HighRecipesModel" "tape" "[I") (by decide +kernel)) (fun _ h9 => h9) (v := .ref (M + 1)) rfl dX14_feed_87 ?_
  refine lv_aload_n hx hb dX14_feed_90 rfl (lv_at hl 6 rfl) ?_
  refine q_get hx hb hts hown hA hW iX14 rO_0 rfl 2 (by decide) (hts (.fieldLink RX14 73 "HighRecipesModel" "bytes" "I") (by decide +kernel)) (fun _ h9 => h9) (v := .int (nI (L + 12))) rfl dX14_feed_91 ?_
  refine lv_iload hx hb dX14_feed_94 (lv_at hl 1 rfl) ?_
  refine lv_iload hx hb dX14_feed_96 (lv_at hl 0 rfl) ?_
  refine lv_ishr hx hb dX14_feed_98 ?_
  refine lv_sipush (v := 255) hx hb dX14_feed_99 (by decide) ?_
  refine lv_iand hx hb dX14_feed_102 ?_
  refine q_ast hx hb hA hW hS (rO_1 (g := upd (upd (upd (upd (upd (upd (upd (upd (upd (upd (upd (upd (r 1) L ((((upd (upd (upd (upd (upd (fun _ => 0) 0 x1) 1 x2) 2 x3) 3 x4) 4 x5) 0) >>> (24 &&& 31)) &&& 255)) (L + 1) ((((upd (upd (upd (upd (upd (fun _ => 0) 0 x1) 1 x2) 2 x3) 3 x4) 4 x5) 0) >>> (16 &&& 31)) &&& 255)) (L + 2) ((((upd (upd (upd (upd (upd (fun _ => 0) 0 x1) 1 x2) 2 x3) 3 x4) 4 x5) 0) >>> (8 &&& 31)) &&& 255)) (L + 3) ((((upd (upd (upd (upd (upd (fun _ => 0) 0 x1) 1 x2) 2 x3) 3 x4) 4 x5) 0) >>> (0 &&& 31)) &&& 255)) (L + 4) ((((upd (upd (upd (upd (upd (fun _ => 0) 0 x1) 1 x2) 2 x3) 3 x4) 4 x5) 1) >>> (24 &&& 31)) &&& 255)) (L + 5) ((((upd (upd (upd (upd (upd (fun _ => 0) 0 x1) 1 x2) 2 x3) 3 x4) 4 x5) 1) >>> (16 &&& 31)) &&& 255)) (L + 6) ((((upd (upd (upd (upd (upd (fun _ => 0) 0 x1) 1 x2) 2 x3) 3 x4) 4 x5) 1) >>> (8 &&& 31)) &&& 255)) (L + 7) ((((upd (upd (upd (upd (upd (fun _ => 0) 0 x1) 1 x2) 2 x3) 3 x4) 4 x5) 1) >>> (0 &&& 31)) &&& 255)) (L + 8) ((((upd (upd (upd (upd (upd (fun _ => 0) 0 x1) 1 x2) 2 x3) 3 x4) 4 x5) 2) >>> (24 &&& 31)) &&& 255)) (L + 9) ((((upd (upd (upd (upd (upd (fun _ => 0) 0 x1) 1 x2) 2 x3) 3 x4) 4 x5) 2) >>> (16 &&& 31)) &&& 255)) (L + 10) ((((upd (upd (upd (upd (upd (fun _ => 0) 0 x1) 1 x2) 2 x3) 3 x4) 4 x5) 2) >>> (8 &&& 31)) &&& 255)) (L + 11) ((((upd (upd (upd (upd (upd (fun _ => 0) 0 x1) 1 x2) 2 x3) 3 x4) 4 x5) 2) >>> (0 &&& 31)) &&& 255)) rfl) (L + 12) rfl (by omega) (by decide) dX14_feed_103 (fun H locs hW hS => ?_)
  have hW := q_sa 1 hW rfl rfl
  rw [rp_d1] at hW
  refine lv_aload_n hx hb dX14_feed_104 rfl (lv_at hl 6 rfl) ?_
  refine lv_dup hx hb dX14_feed_105 rfl ?_
  refine q_get hx hb hts hown hA hW iX14 rO_0 rfl 2 (by decide) (hts (.fieldLink RX14 73 "HighRecipesModel" "bytes" "I") (by decide +kernel)) (fun _ h9 => h9) (v := .int (nI (L + 12))) rfl dX14_feed_106 ?_
  refine lv_iconst (v := 1) hx hb dX14_feed_109 (by decide) ?_
  refine lv_iadd hx hb dX14_feed_110 ?_
  refine q_put hx hb hts hown hA hW hS iX14 tyX14 tyX14_ok nmX14 rO_0 rfl 2 (by decide) (hts (.fieldLink RX14 73 "HighRecipesModel" "bytes" "I") (by decide +kernel)) (fun _ h9 => h9) rfl rfl rfl (Nat.le_of_ble_eq_true rfl) dX14_feed_111 (fun H locs hW hS => ?_)
  rw [show (nI (L + 12)) + 1 = nI (L + 13) from nI_1 (L + 12)] at hW
  have hW := q_s0 101 (nI (L + 13)) hW rfl (by decide)
  rw [rp_d1] at hW
  refine lv_iinc (v := 16) (lv' := [(11, .int 16), (10, .int ((upd (upd (upd (upd (upd (fun _ => 0) 0 x1) 1 x2) 2 x3) 3 x4) 4 x5) 3)), (9, .int 3), (8, .int 5), (7, .ref n), (6, .ref n), (0, .ref M), (1, .int x1), (2, .int x2), (3, .int x3), (4, .int x4), (5, .int x5)]) hx hb dX14_feed_114 hl (k := 0) rfl rfl (by decide) rfl (fun ls hl => ?_)
  refine lv_goto (tgt := 81) hx hb dX14_feed_117 (by decide) ?_
  refine lv_iload hx hb dX14_feed_81 (lv_at hl 0 rfl) ?_
  refine lv_if_lt (tgt := 120) hx hb dX14_feed_83 (by decide) (fun c_83 => False.elim ((fun h9 => absurd h9 (by decide)) c_83)) (fun c_83 => ?_)
  refine lv_aload_n hx hb dX14_feed_86 rfl (lv_at hl 6 rfl) ?_
  refine q_get hx hb hts hown hA hW iX14 rO_0 rfl 1 (by decide) (hts (.fieldLink RX14 9 "HighRecipesModel" "tape" "[I") (by decide +kernel)) (fun _ h9 => h9) (v := .ref (M + 1)) rfl dX14_feed_87 ?_
  refine lv_aload_n hx hb dX14_feed_90 rfl (lv_at hl 6 rfl) ?_
  refine q_get hx hb hts hown hA hW iX14 rO_0 rfl 2 (by decide) (hts (.fieldLink RX14 73 "HighRecipesModel" "bytes" "I") (by decide +kernel)) (fun _ h9 => h9) (v := .int (nI (L + 13))) rfl dX14_feed_91 ?_
  refine lv_iload hx hb dX14_feed_94 (lv_at hl 1 rfl) ?_
  refine lv_iload hx hb dX14_feed_96 (lv_at hl 0 rfl) ?_
  refine lv_ishr hx hb dX14_feed_98 ?_
  refine lv_sipush (v := 255) hx hb dX14_feed_99 (by decide) ?_
  refine lv_iand hx hb dX14_feed_102 ?_
  refine q_ast hx hb hA hW hS (rO_1 (g := upd (upd (upd (upd (upd (upd (upd (upd (upd (upd (upd (upd (upd (r 1) L ((((upd (upd (upd (upd (upd (fun _ => 0) 0 x1) 1 x2) 2 x3) 3 x4) 4 x5) 0) >>> (24 &&& 31)) &&& 255)) (L + 1) ((((upd (upd (upd (upd (upd (fun _ => 0) 0 x1) 1 x2) 2 x3) 3 x4) 4 x5) 0) >>> (16 &&& 31)) &&& 255)) (L + 2) ((((upd (upd (upd (upd (upd (fun _ => 0) 0 x1) 1 x2) 2 x3) 3 x4) 4 x5) 0) >>> (8 &&& 31)) &&& 255)) (L + 3) ((((upd (upd (upd (upd (upd (fun _ => 0) 0 x1) 1 x2) 2 x3) 3 x4) 4 x5) 0) >>> (0 &&& 31)) &&& 255)) (L + 4) ((((upd (upd (upd (upd (upd (fun _ => 0) 0 x1) 1 x2) 2 x3) 3 x4) 4 x5) 1) >>> (24 &&& 31)) &&& 255)) (L + 5) ((((upd (upd (upd (upd (upd (fun _ => 0) 0 x1) 1 x2) 2 x3) 3 x4) 4 x5) 1) >>> (16 &&& 31)) &&& 255)) (L + 6) ((((upd (upd (upd (upd (upd (fun _ => 0) 0 x1) 1 x2) 2 x3) 3 x4) 4 x5) 1) >>> (8 &&& 31)) &&& 255)) (L + 7) ((((upd (upd (upd (upd (upd (fun _ => 0) 0 x1) 1 x2) 2 x3) 3 x4) 4 x5) 1) >>> (0 &&& 31)) &&& 255)) (L + 8) ((((upd (upd (upd (upd (upd (fun _ => 0) 0 x1) 1 x2) 2 x3) 3 x4) 4 x5) 2) >>> (24 &&& 31)) &&& 255)) (L + 9) ((((upd (upd (upd (upd (upd (fun _ => 0) 0 x1) 1 x2) 2 x3) 3 x4) 4 x5) 2) >>> (16 &&& 31)) &&& 255)) (L + 10) ((((upd (upd (upd (upd (upd (fun _ => 0) 0 x1) 1 x2) 2 x3) 3 x4) 4 x5) 2) >>> (8 &&& 31)) &&& 255)) (L + 11) ((((upd (upd (upd (upd (upd (fun _ => 0) 0 x1) 1 x2) 2 x3) 3 x4) 4 x5) 2) >>> (0 &&& 31)) &&& 255)) (L + 12) ((((upd (upd (upd (upd (upd (fun _ => 0) 0 x1) 1 x2) 2 x3) 3 x4) 4 x5) 3) >>> (24 &&& 31)) &&& 255)) rfl) (L + 13) rfl (by omega) (by decide) dX14_feed_103 (fun H locs hW hS => ?_)
  have hW := q_sa 1 hW rfl rfl
  rw [rp_d1] at hW
  refine lv_aload_n hx hb dX14_feed_104 rfl (lv_at hl 6 rfl) ?_
  refine lv_dup hx hb dX14_feed_105 rfl ?_
  refine q_get hx hb hts hown hA hW iX14 rO_0 rfl 2 (by decide) (hts (.fieldLink RX14 73 "HighRecipesModel" "bytes" "I") (by decide +kernel)) (fun _ h9 => h9) (v := .int (nI (L + 13))) rfl dX14_feed_106 ?_
  refine lv_iconst (v := 1) hx hb dX14_feed_109 (by decide) ?_
  refine lv_iadd hx hb dX14_feed_110 ?_
  refine q_put hx hb hts hown hA hW hS iX14 tyX14 tyX14_ok nmX14 rO_0 rfl 2 (by decide) (hts (.fieldLink RX14 73 "HighRecipesModel" "bytes" "I") (by decide +kernel)) (fun _ h9 => h9) rfl rfl rfl (Nat.le_of_ble_eq_true rfl) dX14_feed_111 (fun H locs hW hS => ?_)
  rw [show (nI (L + 13)) + 1 = nI (L + 14) from nI_1 (L + 13)] at hW
  have hW := q_s0 101 (nI (L + 14)) hW rfl (by decide)
  rw [rp_d1] at hW
  refine lv_iinc (v := 8) (lv' := [(11, .int 8), (10, .int ((upd (upd (upd (upd (upd (fun _ => 0) 0 x1) 1 x2) 2 x3) 3 x4) 4 x5) 3)), (9, .int 3), (8, .int 5), (7, .ref n), (6, .ref n), (0, .ref M), (1, .int x1), (2, .int x2), (3, .int x3), (4, .int x4), (5, .int x5)]) hx hb dX14_feed_114 hl (k := 0) rfl rfl (by decide) rfl (fun ls hl => ?_)
  refine lv_goto (tgt := 81) hx hb dX14_feed_117 (by decide) ?_
  refine lv_iload hx hb dX14_feed_81 (lv_at hl 0 rfl) ?_
  refine lv_if_lt (tgt := 120) hx hb dX14_feed_83 (by decide) (fun c_83 => False.elim ((fun h9 => absurd h9 (by decide)) c_83)) (fun c_83 => ?_)
  refine lv_aload_n hx hb dX14_feed_86 rfl (lv_at hl 6 rfl) ?_
  refine q_get hx hb hts hown hA hW iX14 rO_0 rfl 1 (by decide) (hts (.fieldLink RX14 9 "HighRecipesModel" "tape" "[I") (by decide +kernel)) (fun _ h9 => h9) (v := .ref (M + 1)) rfl dX14_feed_87 ?_
  refine lv_aload_n hx hb dX14_feed_90 rfl (lv_at hl 6 rfl) ?_
  refine q_get hx hb hts hown hA hW iX14 rO_0 rfl 2 (by decide) (hts (.fieldLink RX14 73 "HighRecipesModel" "bytes" "I") (by decide +kernel)) (fun _ h9 => h9) (v := .int (nI (L + 14))) rfl dX14_feed_91 ?_
  refine lv_iload hx hb dX14_feed_94 (lv_at hl 1 rfl) ?_
  refine lv_iload hx hb dX14_feed_96 (lv_at hl 0 rfl) ?_
  refine lv_ishr hx hb dX14_feed_98 ?_
  refine lv_sipush (v := 255) hx hb dX14_feed_99 (by decide) ?_
  refine lv_iand hx hb dX14_feed_102 ?_
  refine q_ast hx hb hA hW hS (rO_1 (g := upd (upd (upd (upd (upd (upd (upd (upd (upd (upd (upd (upd (upd (upd (r 1) L ((((upd (upd (upd (upd (upd (fun _ => 0) 0 x1) 1 x2) 2 x3) 3 x4) 4 x5) 0) >>> (24 &&& 31)) &&& 255)) (L + 1) ((((upd (upd (upd (upd (upd (fun _ => 0) 0 x1) 1 x2) 2 x3) 3 x4) 4 x5) 0) >>> (16 &&& 31)) &&& 255)) (L + 2) ((((upd (upd (upd (upd (upd (fun _ => 0) 0 x1) 1 x2) 2 x3) 3 x4) 4 x5) 0) >>> (8 &&& 31)) &&& 255)) (L + 3) ((((upd (upd (upd (upd (upd (fun _ => 0) 0 x1) 1 x2) 2 x3) 3 x4) 4 x5) 0) >>> (0 &&& 31)) &&& 255)) (L + 4) ((((upd (upd (upd (upd (upd (fun _ => 0) 0 x1) 1 x2) 2 x3) 3 x4) 4 x5) 1) >>> (24 &&& 31)) &&& 255)) (L + 5) ((((upd (upd (upd (upd (upd (fun _ => 0) 0 x1) 1 x2) 2 x3) 3 x4) 4 x5) 1) >>> (16 &&& 31)) &&& 255)) (L + 6) ((((upd (upd (upd (upd (upd (fun _ => 0) 0 x1) 1 x2) 2 x3) 3 x4) 4 x5) 1) >>> (8 &&& 31)) &&& 255)) (L + 7) ((((upd (upd (upd (upd (upd (fun _ => 0) 0 x1) 1 x2) 2 x3) 3 x4) 4 x5) 1) >>> (0 &&& 31)) &&& 255)) (L + 8) ((((upd (upd (upd (upd (upd (fun _ => 0) 0 x1) 1 x2) 2 x3) 3 x4) 4 x5) 2) >>> (24 &&& 31)) &&& 255)) (L + 9) ((((upd (upd (upd (upd (upd (fun _ => 0) 0 x1) 1 x2) 2 x3) 3 x4) 4 x5) 2) >>> (16 &&& 31)) &&& 255)) (L + 10) ((((upd (upd (upd (upd (upd (fun _ => 0) 0 x1) 1 x2) 2 x3) 3 x4) 4 x5) 2) >>> (8 &&& 31)) &&& 255)) (L + 11) ((((upd (upd (upd (upd (upd (fun _ => 0) 0 x1) 1 x2) 2 x3) 3 x4) 4 x5) 2) >>> (0 &&& 31)) &&& 255)) (L + 12) ((((upd (upd (upd (upd (upd (fun _ => 0) 0 x1) 1 x2) 2 x3) 3 x4) 4 x5) 3) >>> (24 &&& 31)) &&& 255)) (L + 13) ((((upd (upd (upd (upd (upd (fun _ => 0) 0 x1) 1 x2) 2 x3) 3 x4) 4 x5) 3) >>> (16 &&& 31)) &&& 255)) rfl) (L + 14) rfl (by omega) (by decide) dX14_feed_103 (fun H locs hW hS => ?_)
  have hW := q_sa 1 hW rfl rfl
  rw [rp_d1] at hW
  refine lv_aload_n hx hb dX14_feed_104 rfl (lv_at hl 6 rfl) ?_
  refine lv_dup hx hb dX14_feed_105 rfl ?_
  refine q_get hx hb hts hown hA hW iX14 rO_0 rfl 2 (by decide) (hts (.fieldLink RX14 73 "HighRecipesModel" "bytes" "I") (by decide +kernel)) (fun _ h9 => h9) (v := .int (nI (L + 14))) rfl dX14_feed_106 ?_
  refine lv_iconst (v := 1) hx hb dX14_feed_109 (by decide) ?_
  refine lv_iadd hx hb dX14_feed_110 ?_
  refine q_put hx hb hts hown hA hW hS iX14 tyX14 tyX14_ok nmX14 rO_0 rfl 2 (by decide) (hts (.fieldLink RX14 73 "HighRecipesModel" "bytes" "I") (by decide +kernel)) (fun _ h9 => h9) rfl rfl rfl (Nat.le_of_ble_eq_true rfl) dX14_feed_111 (fun H locs hW hS => ?_)
  rw [show (nI (L + 14)) + 1 = nI (L + 15) from nI_1 (L + 14)] at hW
  have hW := q_s0 101 (nI (L + 15)) hW rfl (by decide)
  rw [rp_d1] at hW
  refine lv_iinc (v := 0) (lv' := [(11, .int 0), (10, .int ((upd (upd (upd (upd (upd (fun _ => 0) 0 x1) 1 x2) 2 x3) 3 x4) 4 x5) 3)), (9, .int 3), (8, .int 5), (7, .ref n), (6, .ref n), (0, .ref M), (1, .int x1), (2, .int x2), (3, .int x3), (4, .int x4), (5, .int x5)]) hx hb dX14_feed_114 hl (k := 0) rfl rfl (by decide) rfl (fun ls hl => ?_)
  refine lv_goto (tgt := 81) hx hb dX14_feed_117 (by decide) ?_
  refine lv_iload hx hb dX14_feed_81 (lv_at hl 0 rfl) ?_
  refine lv_if_lt (tgt := 120) hx hb dX14_feed_83 (by decide) (fun c_83 => False.elim ((fun h9 => absurd h9 (by decide)) c_83)) (fun c_83 => ?_)
  refine lv_aload_n hx hb dX14_feed_86 rfl (lv_at hl 6 rfl) ?_
  refine q_get hx hb hts hown hA hW iX14 rO_0 rfl 1 (by decide) (hts (.fieldLink RX14 9 "HighRecipesModel" "tape" "[I") (by decide +kernel)) (fun _ h9 => h9) (v := .ref (M + 1)) rfl dX14_feed_87 ?_
  refine lv_aload_n hx hb dX14_feed_90 rfl (lv_at hl 6 rfl) ?_
  refine q_get hx hb hts hown hA hW iX14 rO_0 rfl 2 (by decide) (hts (.fieldLink RX14 73 "HighRecipesModel" "bytes" "I") (by decide +kernel)) (fun _ h9 => h9) (v := .int (nI (L + 15))) rfl dX14_feed_91 ?_
  refine lv_iload hx hb dX14_feed_94 (lv_at hl 1 rfl) ?_
  refine lv_iload hx hb dX14_feed_96 (lv_at hl 0 rfl) ?_
  refine lv_ishr hx hb dX14_feed_98 ?_
  refine lv_sipush (v := 255) hx hb dX14_feed_99 (by decide) ?_
  refine lv_iand hx hb dX14_feed_102 ?_
  refine q_ast hx hb hA hW hS (rO_1 (g := upd (upd (upd (upd (upd (upd (upd (upd (upd (upd (upd (upd (upd (upd (upd (r 1) L ((((upd (upd (upd (upd (upd (fun _ => 0) 0 x1) 1 x2) 2 x3) 3 x4) 4 x5) 0) >>> (24 &&& 31)) &&& 255)) (L + 1) ((((upd (upd (upd (upd (upd (fun _ => 0) 0 x1) 1 x2) 2 x3) 3 x4) 4 x5) 0) >>> (16 &&& 31)) &&& 255)) (L + 2) ((((upd (upd (upd (upd (upd (fun _ => 0) 0 x1) 1 x2) 2 x3) 3 x4) 4 x5) 0) >>> (8 &&& 31)) &&& 255)) (L + 3) ((((upd (upd (upd (upd (upd (fun _ => 0) 0 x1) 1 x2) 2 x3) 3 x4) 4 x5) 0) >>> (0 &&& 31)) &&& 255)) (L + 4) ((((upd (upd (upd (upd (upd (fun _ => 0) 0 x1) 1 x2) 2 x3) 3 x4) 4 x5) 1) >>> (24 &&& 31)) &&& 255)) (L + 5) ((((upd (upd (upd (upd (upd (fun _ => 0) 0 x1) 1 x2) 2 x3) 3 x4) 4 x5) 1) >>> (16 &&& 31)) &&& 255)) (L + 6) ((((upd (upd (upd (upd (upd (fun _ => 0) 0 x1) 1 x2) 2 x3) 3 x4) 4 x5) 1) >>> (8 &&& 31)) &&& 255)) (L + 7) ((((upd (upd (upd (upd (upd (fun _ => 0) 0 x1) 1 x2) 2 x3) 3 x4) 4 x5) 1) >>> (0 &&& 31)) &&& 255)) (L + 8) ((((upd (upd (upd (upd (upd (fun _ => 0) 0 x1) 1 x2) 2 x3) 3 x4) 4 x5) 2) >>> (24 &&& 31)) &&& 255)) (L + 9) ((((upd (upd (upd (upd (upd (fun _ => 0) 0 x1) 1 x2) 2 x3) 3 x4) 4 x5) 2) >>> (16 &&& 31)) &&& 255)) (L + 10) ((((upd (upd (upd (upd (upd (fun _ => 0) 0 x1) 1 x2) 2 x3) 3 x4) 4 x5) 2) >>> (8 &&& 31)) &&& 255)) (L + 11) ((((upd (upd (upd (upd (upd (fun _ => 0) 0 x1) 1 x2) 2 x3) 3 x4) 4 x5) 2) >>> (0 &&& 31)) &&& 255)) (L + 12) ((((upd (upd (upd (upd (upd (fun _ => 0) 0 x1) 1 x2) 2 x3) 3 x4) 4 x5) 3) >>> (24 &&& 31)) &&& 255)) (L + 13) ((((upd (upd (upd (upd (upd (fun _ => 0) 0 x1) 1 x2) 2 x3) 3 x4) 4 x5) 3) >>> (16 &&& 31)) &&& 255)) (L + 14) ((((upd (upd (upd (upd (upd (fun _ => 0) 0 x1) 1 x2) 2 x3) 3 x4) 4 x5) 3) >>> (8 &&& 31)) &&& 255)) rfl) (L + 15) rfl (by omega) (by decide) dX14_feed_103 (fun H locs hW hS => ?_)
  have hW := q_sa 1 hW rfl rfl
  rw [rp_d1] at hW
  refine lv_aload_n hx hb dX14_feed_104 rfl (lv_at hl 6 rfl) ?_
  refine lv_dup hx hb dX14_feed_105 rfl ?_
  refine q_get hx hb hts hown hA hW iX14 rO_0 rfl 2 (by decide) (hts (.fieldLink RX14 73 "HighRecipesModel" "bytes" "I") (by decide +kernel)) (fun _ h9 => h9) (v := .int (nI (L + 15))) rfl dX14_feed_106 ?_
  refine lv_iconst (v := 1) hx hb dX14_feed_109 (by decide) ?_
  refine lv_iadd hx hb dX14_feed_110 ?_
  refine q_put hx hb hts hown hA hW hS iX14 tyX14 tyX14_ok nmX14 rO_0 rfl 2 (by decide) (hts (.fieldLink RX14 73 "HighRecipesModel" "bytes" "I") (by decide +kernel)) (fun _ h9 => h9) rfl rfl rfl (Nat.le_of_ble_eq_true rfl) dX14_feed_111 (fun H locs hW hS => ?_)
  rw [show (nI (L + 15)) + 1 = nI (L + 16) from nI_1 (L + 15)] at hW
  have hW := q_s0 101 (nI (L + 16)) hW rfl (by decide)
  rw [rp_d1] at hW
  refine lv_iinc (v := (-8)) (lv' := [(11, .int (-8)), (10, .int ((upd (upd (upd (upd (upd (fun _ => 0) 0 x1) 1 x2) 2 x3) 3 x4) 4 x5) 3)), (9, .int 3), (8, .int 5), (7, .ref n), (6, .ref n), (0, .ref M), (1, .int x1), (2, .int x2), (3, .int x3), (4, .int x4), (5, .int x5)]) hx hb dX14_feed_114 hl (k := 0) rfl rfl (by decide) rfl (fun ls hl => ?_)
  refine lv_goto (tgt := 81) hx hb dX14_feed_117 (by decide) ?_
  refine lv_iload hx hb dX14_feed_81 (lv_at hl 0 rfl) ?_
  refine lv_if_lt (tgt := 120) hx hb dX14_feed_83 (by decide) (fun c_83 => ?_) (fun c_83 => False.elim ((fun h9 => h9 (by decide)) c_83))
  refine lv_iinc (v := 4) (lv' := [(9, .int 4), (11, .int (-8)), (10, .int ((upd (upd (upd (upd (upd (fun _ => 0) 0 x1) 1 x2) 2 x3) 3 x4) 4 x5) 3)), (8, .int 5), (7, .ref n), (6, .ref n), (0, .ref M), (1, .int x1), (2, .int x2), (3, .int x3), (4, .int x4), (5, .int x5)]) hx hb dX14_feed_120 hl (k := 2) rfl rfl (by decide) rfl (fun ls hl => ?_)
  refine lv_goto (tgt := 63) hx hb dX14_feed_123 (by decide) ?_
  refine lv_iload hx hb dX14_feed_63 (lv_at hl 0 rfl) ?_
  refine lv_iload hx hb dX14_feed_65 (lv_at hl 3 rfl) ?_
  refine lv_icmp_ge (tgt := 126) hx hb dX14_feed_67 (by decide) (fun c_67 => False.elim ((fun h9 => absurd h9 (by decide)) c_67)) (fun c_67 => ?_)
  refine lv_aload hx hb dX14_feed_70 (lv_at hl 4 rfl) ?_
  refine lv_iload hx hb dX14_feed_72 (lv_at hl 0 rfl) ?_
  refine q_ald hx hb hA hW ((rO_out (by omega)).trans q_eq) 4 rfl (by decide) (by decide) (x := (upd (upd (upd (upd (upd (fun _ => 0) 0 x1) 1 x2) 2 x3) 3 x4) 4 x5) 4) rfl dX14_feed_74 ?_
  refine lv_istore (lv' := [(10, .int ((upd (upd (upd (upd (upd (fun _ => 0) 0 x1) 1 x2) 2 x3) 3 x4) 4 x5) 4)), (9, .int 4), (11, .int (-8)), (8, .int 5), (7, .ref n), (6, .ref n), (0, .ref M), (1, .int x1), (2, .int x2), (3, .int x3), (4, .int x4), (5, .int x5)]) hx hb dX14_feed_75 hl (by decide) rfl (fun ls hl => ?_)
  refine lv_bipush (v := 24) hx hb dX14_feed_77 (by decide) ?_
  refine lv_istore (lv' := [(11, .int 24), (10, .int ((upd (upd (upd (upd (upd (fun _ => 0) 0 x1) 1 x2) 2 x3) 3 x4) 4 x5) 4)), (9, .int 4), (8, .int 5), (7, .ref n), (6, .ref n), (0, .ref M), (1, .int x1), (2, .int x2), (3, .int x3), (4, .int x4), (5, .int x5)]) hx hb dX14_feed_79 hl (by decide) rfl (fun ls hl => ?_)
  refine lv_iload hx hb dX14_feed_81 (lv_at hl 0 rfl) ?_
  refine lv_if_lt (tgt := 120) hx hb dX14_feed_83 (by decide) (fun c_83 => False.elim ((fun h9 => absurd h9 (by decide)) c_83)) (fun c_83 => ?_)
  refine lv_aload_n hx hb dX14_feed_86 rfl (lv_at hl 6 rfl) ?_
  refine q_get hx hb hts hown hA hW iX14 rO_0 rfl 1 (by decide) (hts (.fieldLink RX14 9 "HighRecipesModel" "tape" "[I") (by decide +kernel)) (fun _ h9 => h9) (v := .ref (M + 1)) rfl dX14_feed_87 ?_
  refine lv_aload_n hx hb dX14_feed_90 rfl (lv_at hl 6 rfl) ?_
  refine q_get hx hb hts hown hA hW iX14 rO_0 rfl 2 (by decide) (hts (.fieldLink RX14 73 "HighRecipesModel" "bytes" "I") (by decide +kernel)) (fun _ h9 => h9) (v := .int (nI (L + 16))) rfl dX14_feed_91 ?_
  refine lv_iload hx hb dX14_feed_94 (lv_at hl 1 rfl) ?_
  refine lv_iload hx hb dX14_feed_96 (lv_at hl 0 rfl) ?_
  refine lv_ishr hx hb dX14_feed_98 ?_
  refine lv_sipush (v := 255) hx hb dX14_feed_99 (by decide) ?_
  refine lv_iand hx hb dX14_feed_102 ?_
  refine q_ast hx hb hA hW hS (rO_1 (g := upd (upd (upd (upd (upd (upd (upd (upd (upd (upd (upd (upd (upd (upd (upd (upd (r 1) L ((((upd (upd (upd (upd (upd (fun _ => 0) 0 x1) 1 x2) 2 x3) 3 x4) 4 x5) 0) >>> (24 &&& 31)) &&& 255)) (L + 1) ((((upd (upd (upd (upd (upd (fun _ => 0) 0 x1) 1 x2) 2 x3) 3 x4) 4 x5) 0) >>> (16 &&& 31)) &&& 255)) (L + 2) ((((upd (upd (upd (upd (upd (fun _ => 0) 0 x1) 1 x2) 2 x3) 3 x4) 4 x5) 0) >>> (8 &&& 31)) &&& 255)) (L + 3) ((((upd (upd (upd (upd (upd (fun _ => 0) 0 x1) 1 x2) 2 x3) 3 x4) 4 x5) 0) >>> (0 &&& 31)) &&& 255)) (L + 4) ((((upd (upd (upd (upd (upd (fun _ => 0) 0 x1) 1 x2) 2 x3) 3 x4) 4 x5) 1) >>> (24 &&& 31)) &&& 255)) (L + 5) ((((upd (upd (upd (upd (upd (fun _ => 0) 0 x1) 1 x2) 2 x3) 3 x4) 4 x5) 1) >>> (16 &&& 31)) &&& 255)) (L + 6) ((((upd (upd (upd (upd (upd (fun _ => 0) 0 x1) 1 x2) 2 x3) 3 x4) 4 x5) 1) >>> (8 &&& 31)) &&& 255)) (L + 7) ((((upd (upd (upd (upd (upd (fun _ => 0) 0 x1) 1 x2) 2 x3) 3 x4) 4 x5) 1) >>> (0 &&& 31)) &&& 255)) (L + 8) ((((upd (upd (upd (upd (upd (fun _ => 0) 0 x1) 1 x2) 2 x3) 3 x4) 4 x5) 2) >>> (24 &&& 31)) &&& 255)) (L + 9) ((((upd (upd (upd (upd (upd (fun _ => 0) 0 x1) 1 x2) 2 x3) 3 x4) 4 x5) 2) >>> (16 &&& 31)) &&& 255)) (L + 10) ((((upd (upd (upd (upd (upd (fun _ => 0) 0 x1) 1 x2) 2 x3) 3 x4) 4 x5) 2) >>> (8 &&& 31)) &&& 255)) (L + 11) ((((upd (upd (upd (upd (upd (fun _ => 0) 0 x1) 1 x2) 2 x3) 3 x4) 4 x5) 2) >>> (0 &&& 31)) &&& 255)) (L + 12) ((((upd (upd (upd (upd (upd (fun _ => 0) 0 x1) 1 x2) 2 x3) 3 x4) 4 x5) 3) >>> (24 &&& 31)) &&& 255)) (L + 13) ((((upd (upd (upd (upd (upd (fun _ => 0) 0 x1) 1 x2) 2 x3) 3 x4) 4 x5) 3) >>> (16 &&& 31)) &&& 255)) (L + 14) ((((upd (upd (upd (upd (upd (fun _ => 0) 0 x1) 1 x2) 2 x3) 3 x4) 4 x5) 3) >>> (8 &&& 31)) &&& 255)) (L + 15) ((((upd (upd (upd (upd (upd (fun _ => 0) 0 x1) 1 x2) 2 x3) 3 x4) 4 x5) 3) >>> (0 &&& 31)) &&& 255)) rfl) (L + 16) rfl (by omega) (by decide) dX14_feed_103 (fun H locs hW hS => ?_)
  have hW := q_sa 1 hW rfl rfl
  rw [rp_d1] at hW
  refine lv_aload_n hx hb dX14_feed_104 rfl (lv_at hl 6 rfl) ?_
  refine lv_dup hx hb dX14_feed_105 rfl ?_
  refine q_get hx hb hts hown hA hW iX14 rO_0 rfl 2 (by decide) (hts (.fieldLink RX14 73 "HighRecipesModel" "bytes" "I") (by decide +kernel)) (fun _ h9 => h9) (v := .int (nI (L + 16))) rfl dX14_feed_106 ?_
  refine lv_iconst (v := 1) hx hb dX14_feed_109 (by decide) ?_
  refine lv_iadd hx hb dX14_feed_110 ?_
  refine q_put hx hb hts hown hA hW hS iX14 tyX14 tyX14_ok nmX14 rO_0 rfl 2 (by decide) (hts (.fieldLink RX14 73 "HighRecipesModel" "bytes" "I") (by decide +kernel)) (fun _ h9 => h9) rfl rfl rfl (Nat.le_of_ble_eq_true rfl) dX14_feed_111 (fun H locs hW hS => ?_)
  rw [show (nI (L + 16)) + 1 = nI (L + 17) from nI_1 (L + 16)] at hW
  have hW := q_s0 101 (nI (L + 17)) hW rfl (by decide)
  rw [rp_d1] at hW
  refine lv_iinc (v := 16) (lv' := [(11, .int 16), (10, .int ((upd (upd (upd (upd (upd (fun _ => 0) 0 x1) 1 x2) 2 x3) 3 x4) 4 x5) 4)), (9, .int 4), (8, .int 5), (7, .ref n), (6, .ref n), (0, .ref M), (1, .int x1), (2, .int x2), (3, .int x3), (4, .int x4), (5, .int x5)]) hx hb dX14_feed_114 hl (k := 0) rfl rfl (by decide) rfl (fun ls hl => ?_)
  refine lv_goto (tgt := 81) hx hb dX14_feed_117 (by decide) ?_
  refine lv_iload hx hb dX14_feed_81 (lv_at hl 0 rfl) ?_
  refine lv_if_lt (tgt := 120) hx hb dX14_feed_83 (by decide) (fun c_83 => False.elim ((fun h9 => absurd h9 (by decide)) c_83)) (fun c_83 => ?_)
  refine lv_aload_n hx hb dX14_feed_86 rfl (lv_at hl 6 rfl) ?_
  refine q_get hx hb hts hown hA hW iX14 rO_0 rfl 1 (by decide) (hts (.fieldLink RX14 9 "HighRecipesModel" "tape" "[I") (by decide +kernel)) (fun _ h9 => h9) (v := .ref (M + 1)) rfl dX14_feed_87 ?_
  refine lv_aload_n hx hb dX14_feed_90 rfl (lv_at hl 6 rfl) ?_
  refine q_get hx hb hts hown hA hW iX14 rO_0 rfl 2 (by decide) (hts (.fieldLink RX14 73 "HighRecipesModel" "bytes" "I") (by decide +kernel)) (fun _ h9 => h9) (v := .int (nI (L + 17))) rfl dX14_feed_91 ?_
  refine lv_iload hx hb dX14_feed_94 (lv_at hl 1 rfl) ?_
  refine lv_iload hx hb dX14_feed_96 (lv_at hl 0 rfl) ?_
  refine lv_ishr hx hb dX14_feed_98 ?_
  refine lv_sipush (v := 255) hx hb dX14_feed_99 (by decide) ?_
  refine lv_iand hx hb dX14_feed_102 ?_
  refine q_ast hx hb hA hW hS (rO_1 (g := upd (upd (upd (upd (upd (upd (upd (upd (upd (upd (upd (upd (upd (upd (upd (upd (upd (r 1) L ((((upd (upd (upd (upd (upd (fun _ => 0) 0 x1) 1 x2) 2 x3) 3 x4) 4 x5) 0) >>> (24 &&& 31)) &&& 255)) (L + 1) ((((upd (upd (upd (upd (upd (fun _ => 0) 0 x1) 1 x2) 2 x3) 3 x4) 4 x5) 0) >>> (16 &&& 31)) &&& 255)) (L + 2) ((((upd (upd (upd (upd (upd (fun _ => 0) 0 x1) 1 x2) 2 x3) 3 x4) 4 x5) 0) >>> (8 &&& 31)) &&& 255)) (L + 3) ((((upd (upd (upd (upd (upd (fun _ => 0) 0 x1) 1 x2) 2 x3) 3 x4) 4 x5) 0) >>> (0 &&& 31)) &&& 255)) (L + 4) ((((upd (upd (upd (upd (upd (fun _ => 0) 0 x1) 1 x2) 2 x3) 3 x4) 4 x5) 1) >>> (24 &&& 31)) &&& 255)) (L + 5) ((((upd (upd (upd (upd (upd (fun _ => 0) 0 x1) 1 x2) 2 x3) 3 x4) 4 x5) 1) >>> (16 &&& 31)) &&& 255)) (L + 6) ((((upd (upd (upd (upd (upd (fun _ => 0) 0 x1) 1 x2) 2 x3) 3 x4) 4 x5) 1) >>> (8 &&& 31)) &&& 255)) (L + 7) ((((upd (upd (upd (upd (upd (fun _ => 0) 0 x1) 1 x2) 2 x3) 3 x4) 4 x5) 1) >>> (0 &&& 31)) &&& 255)) (L + 8) ((((upd (upd (upd (upd (upd (fun _ => 0) 0 x1) 1 x2) 2 x3) 3 x4) 4 x5) 2) >>> (24 &&& 31)) &&& 255)) (L + 9) ((((upd (upd (upd (upd (upd (fun _ => 0) 0 x1) 1 x2) 2 x3) 3 x4) 4 x5) 2) >>> (16 &&& 31)) &&& 255)) (L + 10) ((((upd (upd (upd (upd (upd (fun _ => 0) 0 x1) 1 x2) 2 x3) 3 x4) 4 x5) 2) >>> (8 &&& 31)) &&& 255)) (L + 11) ((((upd (upd (upd (upd (upd (fun _ => 0) 0 x1) 1 x2) 2 x3) 3 x4) 4 x5) 2) >>> (0 &&& 31)) &&& 255)) (L + 12) ((((upd (upd (upd (upd (upd (fun _ => 0) 0 x1) 1 x2) 2 x3) 3 x4) 4 x5) 3) >>> (24 &&& 31)) &&& 255)) (L + 13) ((((upd (upd (upd (upd (upd (fun _ => 0) 0 x1) 1 x2) 2 x3) 3 x4) 4 x5) 3) >>> (16 &&& 31)) &&& 255)) (L + 14) ((((upd (upd (upd (upd (upd (fun _ => 0) 0 x1) 1 x2) 2 x3) 3 x4) 4 x5) 3) >>> (8 &&& 31)) &&& 255)) (L + 15) ((((upd (upd (upd (upd (upd (fun _ => 0) 0 x1) 1 x2) 2 x3) 3 x4) 4 x5) 3) >>> (0 &&& 31)) &&& 255)) (L + 16) ((((upd (upd (upd (upd (upd (fun _ => 0) 0 x1) 1 x2) 2 x3) 3 x4) 4 x5) 4) >>> (24 &&& 31)) &&& 255)) rfl) (L + 17) rfl (by omega) (by decide) dX14_feed_103 (fun H locs hW hS => ?_)
  have hW := q_sa 1 hW rfl rfl
  rw [rp_d1] at hW
  refine lv_aload_n hx hb dX14_feed_104 rfl (lv_at hl 6 rfl) ?_
  refine lv_dup hx hb dX14_feed_105 rfl ?_
  refine q_get hx hb hts hown hA hW iX14 rO_0 rfl 2 (by decide) (hts (.fieldLink RX14 73 "HighRecipesModel" "bytes" "I") (by decide +kernel)) (fun _ h9 => h9) (v := .int (nI (L + 17))) rfl dX14_feed_106 ?_
  refine lv_iconst (v := 1) hx hb dX14_feed_109 (by decide) ?_
  refine lv_iadd hx hb dX14_feed_110 ?_
  refine q_put hx hb hts hown hA hW hS iX14 tyX14 tyX14_ok nmX14 rO_0 rfl 2 (by decide) (hts (.fieldLink RX14 73 "HighRecipesModel" "bytes" "I") (by decide +kernel)) (fun _ h9 => h9) rfl rfl rfl (Nat.le_of_ble_eq_true rfl) dX14_feed_111 (fun H locs hW hS => ?_)
  rw [show (nI (L + 17)) + 1 = nI (L + 18) from nI_1 (L + 17)] at hW
  have hW := q_s0 101 (nI (L + 18)) hW rfl (by decide)
  rw [rp_d1] at hW
  refine lv_iinc (v := 8) (lv' := [(11, .int 8), (10, .int ((upd (upd (upd (upd (upd (fun _ => 0) 0 x1) 1 x2) 2 x3) 3 x4) 4 x5) 4)), (9, .int 4), (8, .int 5), (7, .ref n), (6, .ref n), (0, .ref M), (1, .int x1), (2, .int x2), (3, .int x3), (4, .int x4), (5, .int x5)]) hx hb dX14_feed_114 hl (k := 0) rfl rfl (by decide) rfl (fun ls hl => ?_)
  refine lv_goto (tgt := 81) hx hb dX14_feed_117 (by decide) ?_
  refine lv_iload hx hb dX14_feed_81 (lv_at hl 0 rfl) ?_
  refine lv_if_lt (tgt := 120) hx hb dX14_feed_83 (by decide) (fun c_83 => False.elim ((fun h9 => absurd h9 (by decide)) c_83)) (fun c_83 => ?_)
  refine lv_aload_n hx hb dX14_feed_86 rfl (lv_at hl 6 rfl) ?_
  refine q_get hx hb hts hown hA hW iX14 rO_0 rfl 1 (by decide) (hts (.fieldLink RX14 9 "HighRecipesModel" "tape" "[I") (by decide +kernel)) (fun _ h9 => h9) (v := .ref (M + 1)) rfl dX14_feed_87 ?_
  refine lv_aload_n hx hb dX14_feed_90 rfl (lv_at hl 6 rfl) ?_
  refine q_get hx hb hts hown hA hW iX14 rO_0 rfl 2 (by decide) (hts (.fieldLink RX14 73 "HighRecipesModel" "bytes" "I") (by decide +kernel)) (fun _ h9 => h9) (v := .int (nI (L + 18))) rfl dX14_feed_91 ?_
  refine lv_iload hx hb dX14_feed_94 (lv_at hl 1 rfl) ?_
  refine lv_iload hx hb dX14_feed_96 (lv_at hl 0 rfl) ?_
  refine lv_ishr hx hb dX14_feed_98 ?_
  refine lv_sipush (v := 255) hx hb dX14_feed_99 (by decide) ?_
  refine lv_iand hx hb dX14_feed_102 ?_
  refine q_ast hx hb hA hW hS (rO_1 (g := upd (upd (upd (upd (upd (upd (upd (upd (upd (upd (upd (upd (upd (upd (upd (upd (upd (upd (r 1) L ((((upd (upd (upd (upd (upd (fun _ => 0) 0 x1) 1 x2) 2 x3) 3 x4) 4 x5) 0) >>> (24 &&& 31)) &&& 255)) (L + 1) ((((upd (upd (upd (upd (upd (fun _ => 0) 0 x1) 1 x2) 2 x3) 3 x4) 4 x5) 0) >>> (16 &&& 31)) &&& 255)) (L + 2) ((((upd (upd (upd (upd (upd (fun _ => 0) 0 x1) 1 x2) 2 x3) 3 x4) 4 x5) 0) >>> (8 &&& 31)) &&& 255)) (L + 3) ((((upd (upd (upd (upd (upd (fun _ => 0) 0 x1) 1 x2) 2 x3) 3 x4) 4 x5) 0) >>> (0 &&& 31)) &&& 255)) (L + 4) ((((upd (upd (upd (upd (upd (fun _ => 0) 0 x1) 1 x2) 2 x3) 3 x4) 4 x5) 1) >>> (24 &&& 31)) &&& 255)) (L + 5) ((((upd (upd (upd (upd (upd (fun _ => 0) 0 x1) 1 x2) 2 x3) 3 x4) 4 x5) 1) >>> (16 &&& 31)) &&& 255)) (L + 6) ((((upd (upd (upd (upd (upd (fun _ => 0) 0 x1) 1 x2) 2 x3) 3 x4) 4 x5) 1) >>> (8 &&& 31)) &&& 255)) (L + 7) ((((upd (upd (upd (upd (upd (fun _ => 0) 0 x1) 1 x2) 2 x3) 3 x4) 4 x5) 1) >>> (0 &&& 31)) &&& 255)) (L + 8) ((((upd (upd (upd (upd (upd (fun _ => 0) 0 x1) 1 x2) 2 x3) 3 x4) 4 x5) 2) >>> (24 &&& 31)) &&& 255)) (L + 9) ((((upd (upd (upd (upd (upd (fun _ => 0) 0 x1) 1 x2) 2 x3) 3 x4) 4 x5) 2) >>> (16 &&& 31)) &&& 255)) (L + 10) ((((upd (upd (upd (upd (upd (fun _ => 0) 0 x1) 1 x2) 2 x3) 3 x4) 4 x5) 2) >>> (8 &&& 31)) &&& 255)) (L + 11) ((((upd (upd (upd (upd (upd (fun _ => 0) 0 x1) 1 x2) 2 x3) 3 x4) 4 x5) 2) >>> (0 &&& 31)) &&& 255)) (L + 12) ((((upd (upd (upd (upd (upd (fun _ => 0) 0 x1) 1 x2) 2 x3) 3 x4) 4 x5) 3) >>> (24 &&& 31)) &&& 255)) (L + 13) ((((upd (upd (upd (upd (upd (fun _ => 0) 0 x1) 1 x2) 2 x3) 3 x4) 4 x5) 3) >>> (16 &&& 31)) &&& 255)) (L + 14) ((((upd (upd (upd (upd (upd (fun _ => 0) 0 x1) 1 x2) 2 x3) 3 x4) 4 x5) 3) >>> (8 &&& 31)) &&& 255)) (L + 15) ((((upd (upd (upd (upd (upd (fun _ => 0) 0 x1) 1 x2) 2 x3) 3 x4) 4 x5) 3) >>> (0 &&& 31)) &&& 255)) (L + 16) ((((upd (upd (upd (upd (upd (fun _ => 0) 0 x1) 1 x2) 2 x3) 3 x4) 4 x5) 4) >>> (24 &&& 31)) &&& 255)) (L + 17) ((((upd (upd (upd (upd (upd (fun _ => 0) 0 x1) 1 x2) 2 x3) 3 x4) 4 x5) 4) >>> (16 &&& 31)) &&& 255)) rfl) (L + 18) rfl (by omega) (by decide) dX14_feed_103 (fun H locs hW hS => ?_)
  have hW := q_sa 1 hW rfl rfl
  rw [rp_d1] at hW
  refine lv_aload_n hx hb dX14_feed_104 rfl (lv_at hl 6 rfl) ?_
  refine lv_dup hx hb dX14_feed_105 rfl ?_
  refine q_get hx hb hts hown hA hW iX14 rO_0 rfl 2 (by decide) (hts (.fieldLink RX14 73 "HighRecipesModel" "bytes" "I") (by decide +kernel)) (fun _ h9 => h9) (v := .int (nI (L + 18))) rfl dX14_feed_106 ?_
  refine lv_iconst (v := 1) hx hb dX14_feed_109 (by decide) ?_
  refine lv_iadd hx hb dX14_feed_110 ?_
  refine q_put hx hb hts hown hA hW hS iX14 tyX14 tyX14_ok nmX14 rO_0 rfl 2 (by decide) (hts (.fieldLink RX14 73 "HighRecipesModel" "bytes" "I") (by decide +kernel)) (fun _ h9 => h9) rfl rfl rfl (Nat.le_of_ble_eq_true rfl) dX14_feed_111 (fun H locs hW hS => ?_)
  rw [show (nI (L + 18)) + 1 = nI (L + 19) from nI_1 (L + 18)] at hW
  have hW := q_s0 101 (nI (L + 19)) hW rfl (by decide)
  rw [rp_d1] at hW
  refine lv_iinc (v := 0) (lv' := [(11, .int 0), (10, .int ((upd (upd (upd (upd (upd (fun _ => 0) 0 x1) 1 x2) 2 x3) 3 x4) 4 x5) 4)), (9, .int 4), (8, .int 5), (7, .ref n), (6, .ref n), (0, .ref M), (1, .int x1), (2, .int x2), (3, .int x3), (4, .int x4), (5, .int x5)]) hx hb dX14_feed_114 hl (k := 0) rfl rfl (by decide) rfl (fun ls hl => ?_)
  refine lv_goto (tgt := 81) hx hb dX14_feed_117 (by decide) ?_
  refine lv_iload hx hb dX14_feed_81 (lv_at hl 0 rfl) ?_
  refine lv_if_lt (tgt := 120) hx hb dX14_feed_83 (by decide) (fun c_83 => False.elim ((fun h9 => absurd h9 (by decide)) c_83)) (fun c_83 => ?_)
  refine lv_aload_n hx hb dX14_feed_86 rfl (lv_at hl 6 rfl) ?_
  refine q_get hx hb hts hown hA hW iX14 rO_0 rfl 1 (by decide) (hts (.fieldLink RX14 9 "HighRecipesModel" "tape" "[I") (by decide +kernel)) (fun _ h9 => h9) (v := .ref (M + 1)) rfl dX14_feed_87 ?_
  refine lv_aload_n hx hb dX14_feed_90 rfl (lv_at hl 6 rfl) ?_
  refine q_get hx hb hts hown hA hW iX14 rO_0 rfl 2 (by decide) (hts (.fieldLink RX14 73 "HighRecipesModel" "bytes" "I") (by decide +kernel)) (fun _ h9 => h9) (v := .int (nI (L + 19))) rfl dX14_feed_91 ?_
  refine lv_iload hx hb dX14_feed_94 (lv_at hl 1 rfl) ?_
  refine lv_iload hx hb dX14_feed_96 (lv_at hl 0 rfl) ?_
  refine lv_ishr hx hb dX14_feed_98 ?_
  refine lv_sipush (v := 255) hx hb dX14_feed_99 (by decide) ?_
  refine lv_iand hx hb dX14_feed_102 ?_
  refine q_ast hx hb hA hW hS (rO_1 (g := upd (upd (upd (upd (upd (upd (upd (upd (upd (upd (upd (upd (upd (upd (upd (upd (upd (upd (upd (r 1) L ((((upd (upd (upd (upd (upd (fun _ => 0) 0 x1) 1 x2) 2 x3) 3 x4) 4 x5) 0) >>> (24 &&& 31)) &&& 255)) (L + 1) ((((upd (upd (upd (upd (upd (fun _ => 0) 0 x1) 1 x2) 2 x3) 3 x4) 4 x5) 0) >>> (16 &&& 31)) &&& 255)) (L + 2) ((((upd (upd (upd (upd (upd (fun _ => 0) 0 x1) 1 x2) 2 x3) 3 x4) 4 x5) 0) >>> (8 &&& 31)) &&& 255)) (L + 3) ((((upd (upd (upd (upd (upd (fun _ => 0) 0 x1) 1 x2) 2 x3) 3 x4) 4 x5) 0) >>> (0 &&& 31)) &&& 255)) (L + 4) ((((upd (upd (upd (upd (upd (fun _ => 0) 0 x1) 1 x2) 2 x3) 3 x4) 4 x5) 1) >>> (24 &&& 31)) &&& 255)) (L + 5) ((((upd (upd (upd (upd (upd (fun _ => 0) 0 x1) 1 x2) 2 x3) 3 x4) 4 x5) 1) >>> (16 &&& 31)) &&& 255)) (L + 6) ((((upd (upd (upd (upd (upd (fun _ => 0) 0 x1) 1 x2) 2 x3) 3 x4) 4 x5) 1) >>> (8 &&& 31)) &&& 255)) (L + 7) ((((upd (upd (upd (upd (upd (fun _ => 0) 0 x1) 1 x2) 2 x3) 3 x4) 4 x5) 1) >>> (0 &&& 31)) &&& 255)) (L + 8) ((((upd (upd (upd (upd (upd (fun _ => 0) 0 x1) 1 x2) 2 x3) 3 x4) 4 x5) 2) >>> (24 &&& 31)) &&& 255)) (L + 9) ((((upd (upd (upd (upd (upd (fun _ => 0) 0 x1) 1 x2) 2 x3) 3 x4) 4 x5) 2) >>> (16 &&& 31)) &&& 255)) (L + 10) ((((upd (upd (upd (upd (upd (fun _ => 0) 0 x1) 1 x2) 2 x3) 3 x4) 4 x5) 2) >>> (8 &&& 31)) &&& 255)) (L + 11) ((((upd (upd (upd (upd (upd (fun _ => 0) 0 x1) 1 x2) 2 x3) 3 x4) 4 x5) 2) >>> (0 &&& 31)) &&& 255)) (L + 12) ((((upd (upd (upd (upd (upd (fun _ => 0) 0 x1) 1 x2) 2 x3) 3 x4) 4 x5) 3) >>> (24 &&& 31)) &&& 255)) (L + 13) ((((upd (upd (upd (upd (upd (fun _ => 0) 0 x1) 1 x2) 2 x3) 3 x4) 4 x5) 3) >>> (16 &&& 31)) &&& 255)) (L + 14) ((((upd (upd (upd (upd (upd (fun _ => 0) 0 x1) 1 x2) 2 x3) 3 x4) 4 x5) 3) >>> (8 &&& 31)) &&& 255)) (L + 15) ((((upd (upd (upd (upd (upd (fun _ => 0) 0 x1) 1 x2) 2 x3) 3 x4) 4 x5) 3) >>> (0 &&& 31)) &&& 255)) (L + 16) ((((upd (upd (upd (upd (upd (fun _ => 0) 0 x1) 1 x2) 2 x3) 3 x4) 4 x5) 4) >>> (24 &&& 31)) &&& 255)) (L + 17) ((((upd (upd (upd (upd (upd (fun _ => 0) 0 x1) 1 x2) 2 x3) 3 x4) 4 x5) 4) >>> (16 &&& 31)) &&& 255)) (L + 18) ((((upd (upd (upd (upd (upd (fun _ => 0) 0 x1) 1 x2) 2 x3) 3 x4) 4 x5) 4) >>> (8 &&& 31)) &&& 255)) rfl) (L + 19) rfl (by omega) (by decide) dX14_feed_103 (fun H locs hW hS => ?_)
  have hW := q_sa 1 hW rfl rfl
  rw [rp_d1] at hW
  refine lv_aload_n hx hb dX14_feed_104 rfl (lv_at hl 6 rfl) ?_
  refine lv_dup hx hb dX14_feed_105 rfl ?_
  refine q_get hx hb hts hown hA hW iX14 rO_0 rfl 2 (by decide) (hts (.fieldLink RX14 73 "HighRecipesModel" "bytes" "I") (by decide +kernel)) (fun _ h9 => h9) (v := .int (nI (L + 19))) rfl dX14_feed_106 ?_
  refine lv_iconst (v := 1) hx hb dX14_feed_109 (by decide) ?_
  refine lv_iadd hx hb dX14_feed_110 ?_
  refine q_put hx hb hts hown hA hW hS iX14 tyX14 tyX14_ok nmX14 rO_0 rfl 2 (by decide) (hts (.fieldLink RX14 73 "HighRecipesModel" "bytes" "I") (by decide +kernel)) (fun _ h9 => h9) rfl rfl rfl (Nat.le_of_ble_eq_true rfl) dX14_feed_111 (fun H locs hW hS => ?_)
  rw [show (nI (L + 19)) + 1 = nI (L + 20) from nI_1 (L + 19)] at hW
  have hW := q_s0 101 (nI (L + 20)) hW rfl (by decide)
  rw [rp_d1] at hW
  refine lv_iinc (v := (-8)) (lv' := [(11, .int (-8)), (10, .int ((upd (upd (upd (upd (upd (fun _ => 0) 0 x1) 1 x2) 2 x3) 3 x4) 4 x5) 4)), (9, .int 4), (8, .int 5), (7, .ref n), (6, .ref n), (0, .ref M), (1, .int x1), (2, .int x2), (3, .int x3), (4, .int x4), (5, .int x5)]) hx hb dX14_feed_114 hl (k := 0) rfl rfl (by decide) rfl (fun ls hl => ?_)
  refine lv_goto (tgt := 81) hx hb dX14_feed_117 (by decide) ?_
  refine lv_iload hx hb dX14_feed_81 (lv_at hl 0 rfl) ?_
  refine lv_if_lt (tgt := 120) hx hb dX14_feed_83 (by decide) (fun c_83 => ?_) (fun c_83 => False.elim ((fun h9 => h9 (by decide)) c_83))
  refine lv_iinc (v := 5) (lv' := [(9, .int 5), (11, .int (-8)), (10, .int ((upd (upd (upd (upd (upd (fun _ => 0) 0 x1) 1 x2) 2 x3) 3 x4) 4 x5) 4)), (8, .int 5), (7, .ref n), (6, .ref n), (0, .ref M), (1, .int x1), (2, .int x2), (3, .int x3), (4, .int x4), (5, .int x5)]) hx hb dX14_feed_120 hl (k := 2) rfl rfl (by decide) rfl (fun ls hl => ?_)
  refine lv_goto (tgt := 63) hx hb dX14_feed_123 (by decide) ?_
  refine lv_iload hx hb dX14_feed_63 (lv_at hl 0 rfl) ?_
  refine lv_iload hx hb dX14_feed_65 (lv_at hl 3 rfl) ?_
  refine lv_icmp_ge (tgt := 126) hx hb dX14_feed_67 (by decide) (fun c_67 => ?_) (fun c_67 => False.elim ((fun h9 => h9 (by decide)) c_67))
  refine lv_aload_n hx hb dX14_feed_126 rfl (lv_at hl 6 rfl) ?_
  refine q_get hx hb hts hown hA hW iX14 rO_0 rfl 2 (by decide) (hts (.fieldLink RX14 73 "HighRecipesModel" "bytes" "I") (by decide +kernel)) (fun _ h9 => h9) (v := .int (nI (L + 20))) rfl dX14_feed_127 ?_
  exact q_iret hx hb hr hlocks hW hS ⟨rfl, ⟨_, rfl⟩, rfl⟩ (Nat.le_of_ble_eq_true rfl) (Nat.le_of_ble_eq_true rfl) dX14_feed_130

set_option maxHeartbeats 4000000 in
set_option maxRecDepth 100000 in
theorem kX14_feed_F (l : Launch) (E : q_E) (f : q_H) (n : Nat) (M : Nat) (r : q_R) (L : Nat) (x1 x2 x3 x4 x5 : Int32)  (hm : RM E f M r) (hL : (r 101 0) = nI L) (hL9 : L ≤ 1600) (hL16 : 1600 < L + 20) : Met l yX14_feed wsX14_feed ({ frames := 1, cells := 0, slots := 0, locals := 21 }) (q_P E [.ref M, .int x1, .int x2, .int x3, .int x4, .int x5] f n) (q_Qi E (fun r0 f1 n1 => 0 = r0 ∧ rO E f M (rp r 100 (fun _ => 1)) = f1 ∧ n = n1)) 0 0 (q_ge E) := by
  refine Met.ofW (cc := cX14_feed) (maxL := 12) (ret := (some .int)) (by decide) rfl ?_
  intro p e s m args below meth c s₁ B hml hv
  obtain ⟨rfl, hA, hW⟩ := hv
  have hx := B.exec
  have hb := B.bytes
  have hr := B.returns
  have hts := atoms_spec (ws := wsX14_feed) B.pre
  have hown : s.vm.findClass RX14 = some m.cls := findClass_of_methodNamed B.named
  have hlocks := B.notSynchronized
  have hS : va_S (q_ge E) s.heap s.heap [] := va_S.rf
  have iX14 : ∀ w ∈ wsX140, w ∈ wsX14_feed := by decide +kernel
  have hl := lv_entry ([.ref M, .int x1, .int x2, .int x3, .int x4, .int x5]) (n := 12) (Nat.le_of_ble_eq_true rfl)
  rw [lg_entry_eq]
  generalize (lg_sl ([.ref M, .int x1, .int x2, .int x3, .int x4, .int x5]) ++ List.replicate (12 - (lg_sl ([.ref M, .int x1, .int x2, .int x3, .int x4, .int x5])).length) Slot.unset).toArray = ls at hl ⊢
  have hl : lv_has ls 12 [(0, .ref M), (1, .int x1), (2, .int x2), (3, .int x3), (4, .int x4), (5, .int x5)] := hl
  have hmE := hm.eq
  rw [hm.eq] at hW
  refine lv_aload_n hx hb dX14_feed_0 rfl (lv_at hl 0 rfl) ?_
  refine lv_iconst (v := 0) hx hb dX14_feed_1 (by decide) ?_
  refine q_put hx hb hts hown hA hW hS iX14 tyX14 tyX14_ok nmX14 rO_0 rfl 0 (by decide) (hts (.fieldLink RX14 54 "HighRecipesModel" "thrown" "I") (by decide +kernel)) (fun _ h9 => h9) rfl rfl rfl (Nat.le_of_ble_eq_true rfl) dX14_feed_2 (fun H locs hW hS => ?_)
  have hW := q_s0 100 (0) hW rfl (by decide)
  refine lv_aload_n hx hb dX14_feed_5 rfl (lv_at hl 0 rfl) ?_
  refine q_get hx hb hts hown hA hW iX14 rO_0 rfl 2 (by decide) (hts (.fieldLink RX14 73 "HighRecipesModel" "bytes" "I") (by decide +kernel)) (fun _ h9 => h9) (v := .int (nI L)) (congrArg (fun z => some (Value.int z)) hL) dX14_feed_6 ?_
  refine lv_bipush (v := 20) hx hb dX14_feed_9 (by decide) ?_
  refine lv_iadd hx hb dX14_feed_11 ?_
  rw [show (20 : Int32) = nI 20 from rfl, nI_add]
  refine lv_sipush (v := 1600) hx hb dX14_feed_12 (by decide) ?_
  refine lv_icmp_le (tgt := 24) hx hb dX14_feed_15 (by decide) (fun c_15 => False.elim ((fun h9 => absurd ((nI_leI (by omega) (by decide)).1 (show nI (L + 20) ≤ nI 1600 from h9)) (by omega)) c_15)) (fun c_15 => ?_)
  refine lv_aload_n hx hb dX14_feed_18 rfl (lv_at hl 0 rfl) ?_
  refine lv_iconst (v := 1) hx hb dX14_feed_19 (by decide) ?_
  refine q_ci (va_runV (As := [.int 1]) (rest := []) ⟨hx, hb, hml, hown, hts⟩ (kX14_no l E (rO E f M (rp r 100 (fun _ => 0))) n M (rp r 100 (fun _ => 0)) 1 rO_K) (cwV 1 hts gX14_feed_X14_no rfl rfl rfl (by decide +kernel) ⟨(Nat.le_of_ble_eq_true rfl), (Nat.le_of_ble_eq_true rfl)⟩) (q_pV hA hW hS (ci := 12) rfl rO_0) rfl rfl hl.1 rfl (lv_room (Nat.le_of_ble_eq_true rfl)) dX14_feed_20 ⟨Nat.le_of_ble_eq_true rfl, Nat.le_of_ble_eq_true rfl⟩) hS (fun r_20 f_20 n_20 H locs hp hW hS => ?_)
  obtain ⟨rfl, rfl, rfl⟩ := hp
  have hW : q_W E (rO E f M (rp (rp r 100 (fun _ => 0)) 100 (fun _ => 1))) n H := by rw [rO_rO] at hW; exact hW
  rw [rp_d0] at hW
  have hW : q_W E (rO E f M (rp r 100 (fun _ => 1))) n H := hW
  exact q_iret hx hb hr hlocks hW hS ⟨rfl, rfl, rfl⟩ (Nat.le_of_ble_eq_true rfl) (Nat.le_of_ble_eq_true rfl) dX14_feed_23
