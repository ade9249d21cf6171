abbrev z_mx (d : Int64) (x : Int32) : Int64 := d * 31 + x.toInt64
def z_mxs (g : Nat → Int32) (d : Int64) : Nat → Int64
  | 0 => d
  | j + 1 => z_mx (z_mxs g d j) (g j)
def z_dp4 (v : q_V) (i : Nat) (d : Int64) : Nat → Int64
  | 0 => d
  | j + 1 => z_mx (z_dp4 v i d j) (v (52 + j + 4 * i))
def z_dgp (hd v : q_V) (d : Int64) : Nat → Int64
  | 0 => d
  | j + 1 => z_dp4 v j (z_mx (z_dgp hd v d j) (hd j)) 4
def z_dgh (v : q_V) (t w : Nat) (d : Int64) : Nat → Int64
  | 0 => d
  | j + 1 => z_mx (z_dgh v t w d j) (v (w + (t - 1 - j) % 20))
def z_dg0 (a b c : Int32) (v : q_V) : Int64 := z_mx (z_mx (z_mx (z_mx (z_mx (z_mx (z_mx (z_mx (z_mx (z_mx (z_mx (z_mx (z_mx (z_mx 1913 a) b) c) (v 0)) (v 1)) (v 2)) (v 3)) (v 4)) (v 5)) (v 7)) (v 8)) (v 9)) (v 10)) (v 11)
def z_dig (pn : Nat) (b c : Int32) (hd v : q_V) (tw tn : Nat) : Int64 := z_dgh v tn 32 (z_dgh v tw 12 (z_dgp hd v (z_dg0 (nI pn) b c v) pn) (min 20 tw)) (min 20 tn)

def z_ga (a0 a1 a2 a3 a4 a5 a6 a7 a8 a9 a10 a11 a12 a13 : Int32) : Nat → Int32 := (upd (upd (upd (upd (upd (upd (upd (upd (upd (upd (upd (upd (upd (upd (fun _ => 0) 0 a0) 1 a1) 2 a2) 3 a3) 4 a4) 5 a5) 6 a6) 7 a7) 8 a8) 9 a9) 10 a10) 11 a11) 12 a12) 13 a13)
theorem z_ga_eq {a b c : Int32} {v : q_V} : z_mxs (z_ga a b c (v 0) (v 1) (v 2) (v 3) (v 4) (v 5) (v 7) (v 8) (v 9) (v 10) (v 11)) 1913 14 = z_dg0 a b c v := rfl

set_option maxHeartbeats 4000000 in
set_option maxRecDepth 100000 in
theorem kX14_digest (l : Launch) (E : q_E) (f : q_H) (n : Nat) (M : Nat) (r : q_R) (pn tw tn : Nat)  (hm : RM E f M r) (hpn9 : (r 120 0) = nI pn) (hpn : pn ≤ 8) (h4 : (r 42) 4 = nI tw) (h5 : (r 42) 5 = nI tn) (ht4 : tw < 2 ^ 30) (ht5 : tn < 2 ^ 30) (hMn : M + 44 ≤ n) : Met l yX14_digest wsX14_digest ({ frames := 2, cells := 1, slots := 14, locals := 45 }) (q_P E [.ref M] f n) (q_Ql E (fun r0 f1 n1 => z_dig pn (r 121 0) (r 122 0) (r 9) (r 42) tw tn = r0 ∧ (∃ x, rO E (va_up f n (some x)) M (rp r 100 (fun _ => 0)) = f1) ∧ n + 1 = n1)) 1 14 (q_ge E) := by
  refine Met.ofW (cc := cX14_digest) (maxL := 8) (ret := (some .long)) (by decide) rfl ?_
  intro p e s m args below meth c s₁ B hml hv
  obtain ⟨rfl, hA, hW⟩ := hv
  have hx := B.exec
  have hb := B.bytes
  have hr := B.returns
  have hts := atoms_spec (ws := wsX14_digest) B.pre
  have hown : s.vm.findClass RX14 = some m.cls := findClass_of_methodNamed B.named
  have hlocks := B.notSynchronized
  have hS : va_S (q_ge E) s.heap s.heap [] := va_S.rf
  have iX13 : ∀ w ∈ wsX130, w ∈ wsX14_digest := by decide +kernel
  have iX14 : ∀ w ∈ wsX140, w ∈ wsX14_digest := by decide +kernel
  have hl := lv_entry ([.ref M]) (n := 8) (Nat.le_of_ble_eq_true rfl)
  rw [lg_entry_eq]
  generalize (lg_sl ([.ref M]) ++ List.replicate (8 - (lg_sl ([.ref M])).length) Slot.unset).toArray = ls at hl ⊢
  have hl : lv_has ls 8 [(0, .ref M)] := hl
  have hmE := hm.eq
  rw [hm.eq] at hW
  refine lv_bipush (v := 14) hx hb dX14_digest_0 (by decide) ?_
  refine q_newa (atype := .int) hx hb hA hW hS (hts (.arrayClass .int) (by decide +kernel)) (ty := .int) rfl 0 rfl (fun C h9 => by cases h9) (N' := 14) (a0 := (14, .inl (fun _ => 0))) (fun _ => rfl) (by decide) (by decide) (Nat.le_of_ble_eq_true rfl) (Nat.le_of_ble_eq_true rfl) (Nat.le_of_ble_eq_true rfl) dX14_digest_2 (fun H hW hS => ?_)
  rw [rO_iu (by omega)] at hW
  have hW : q_W E (rO E (va_up f n (some (aI E 14 (fun _ => 0)))) M r) (n + 1) H := hW
  refine lv_dup hx hb dX14_digest_4 rfl ?_
  refine lv_iconst (v := 0) hx hb dX14_digest_5 (by decide) ?_
  refine lv_aload_n hx hb dX14_digest_6 rfl (lv_at hl 0 rfl) ?_
  refine q_get hx hb hts hown hA hW iX14 rO_0 rfl 17 (by decide) (hts (.fieldLink RX14 38 "HighRecipesModel" "told" "LHighRecipesModel$Book;") (by decide +kernel)) (fun _ h9 => h9) (v := .ref (M + 8)) rfl dX14_digest_7 ?_
  refine q_getN hx hb hts hown hA hW iX13 rO_8 rfl 0 (by decide) (va_Nw.use rfl (hA.2.2.2.1 ("HighRecipesModel", 150, "HighRecipesModel$Book", "pans", "I", "HighRecipesModel") (by decide +kernel))) (fun _ h9 => h9) (v := .int (nI pn)) (congrArg (fun z => some (Value.int z)) hpn9) dX14_digest_10 ?_
  refine q_ast hx hb hA hW hS ((rO_out (by omega)).trans q_eq) 0 rfl (by decide) (by decide) dX14_digest_13 (fun H locs hW hS => ?_)
  rw [rO_iu (by omega)] at hW
  rw [q_upup] at hW
  have hW : q_W E (rO E (va_up f n (some (aI E 14 (upd (fun _ => 0) 0 (nI pn))))) M r) (n + 1) H := hW
  refine lv_dup hx hb dX14_digest_14 rfl ?_
  refine lv_iconst (v := 1) hx hb dX14_digest_15 (by decide) ?_
  refine lv_aload_n hx hb dX14_digest_16 rfl (lv_at hl 0 rfl) ?_
  refine q_get hx hb hts hown hA hW iX14 rO_0 rfl 17 (by decide) (hts (.fieldLink RX14 38 "HighRecipesModel" "told" "LHighRecipesModel$Book;") (by decide +kernel)) (fun _ h9 => h9) (v := .ref (M + 8)) rfl dX14_digest_17 ?_
  refine q_getN hx hb hts hown hA hW iX13 rO_8 rfl 2 (by decide) (va_Nw.use rfl (hA.2.2.2.1 ("HighRecipesModel", 156, "HighRecipesModel$Book", "recipes", "I", "HighRecipesModel") (by decide +kernel))) (fun _ h9 => h9) (v := .int (r 121 0)) rfl dX14_digest_20 ?_
  refine q_ast hx hb hA hW hS ((rO_out (by omega)).trans q_eq) 1 rfl (by decide) (by decide) dX14_digest_23 (fun H locs hW hS => ?_)
  rw [rO_iu (by omega)] at hW
  rw [q_upup] at hW
  have hW : q_W E (rO E (va_up f n (some (aI E 14 (upd (upd (fun _ => 0) 0 (nI pn)) 1 (r 121 0))))) M r) (n + 1) H := hW
  refine lv_dup hx hb dX14_digest_24 rfl ?_
  refine lv_iconst (v := 2) hx hb dX14_digest_25 (by decide) ?_
  refine lv_aload_n hx hb dX14_digest_26 rfl (lv_at hl 0 rfl) ?_
  refine q_get hx hb hts hown hA hW iX14 rO_0 rfl 17 (by decide) (hts (.fieldLink RX14 38 "HighRecipesModel" "told" "LHighRecipesModel$Book;") (by decide +kernel)) (fun _ h9 => h9) (v := .ref (M + 8)) rfl dX14_digest_27 ?_
  refine q_getN hx hb hts hown hA hW iX13 rO_8 rfl 4 (by decide) (va_Nw.use rfl (hA.2.2.2.1 ("HighRecipesModel", 215, "HighRecipesModel$Book", "acts", "I", "HighRecipesModel") (by decide +kernel))) (fun _ h9 => h9) (v := .int (r 122 0)) rfl dX14_digest_30 ?_
  refine q_ast hx hb hA hW hS ((rO_out (by omega)).trans q_eq) 2 rfl (by decide) (by decide) dX14_digest_33 (fun H locs hW hS => ?_)
  rw [rO_iu (by omega)] at hW
  rw [q_upup] at hW
  have hW : q_W E (rO E (va_up f n (some (aI E 14 (upd (upd (upd (fun _ => 0) 0 (nI pn)) 1 (r 121 0)) 2 (r 122 0))))) M r) (n + 1) H := hW
  refine lv_dup hx hb dX14_digest_34 rfl ?_
  refine lv_iconst (v := 3) hx hb dX14_digest_35 (by decide) ?_
  refine lv_aload_n hx hb dX14_digest_36 rfl (lv_at hl 0 rfl) ?_
  refine q_get hx hb hts hown hA hW iX14 rO_0 rfl 19 (by decide) (hts (.fieldLink RX14 45 "HighRecipesModel" "now" "[I") (by decide +kernel)) (fun _ h9 => h9) (v := .ref (M + 42)) rfl dX14_digest_37 ?_
  refine lv_iconst (v := 0) hx hb dX14_digest_40 (by decide) ?_
  refine q_ald hx hb hA hW (rO_42 (g := r 42) rfl) 0 rfl (by decide) (by decide) (x := (r 42) 0) rfl dX14_digest_41 ?_
  refine q_ast hx hb hA hW hS ((rO_out (by omega)).trans q_eq) 3 rfl (by decide) (by decide) dX14_digest_42 (fun H locs hW hS => ?_)
  rw [rO_iu (by omega)] at hW
  rw [q_upup] at hW
  have hW : q_W E (rO E (va_up f n (some (aI E 14 (upd (upd (upd (upd (fun _ => 0) 0 (nI pn)) 1 (r 121 0)) 2 (r 122 0)) 3 ((r 42) 0))))) M r) (n + 1) H := hW
  refine lv_dup hx hb dX14_digest_43 rfl ?_
  refine lv_iconst (v := 4) hx hb dX14_digest_44 (by decide) ?_
  refine lv_aload_n hx hb dX14_digest_45 rfl (lv_at hl 0 rfl) ?_
  refine q_get hx hb hts hown hA hW iX14 rO_0 rfl 19 (by decide) (hts (.fieldLink RX14 45 "HighRecipesModel" "now" "[I") (by decide +kernel)) (fun _ h9 => h9) (v := .ref (M + 42)) rfl dX14_digest_46 ?_
  refine lv_iconst (v := 1) hx hb dX14_digest_49 (by decide) ?_
  refine q_ald hx hb hA hW (rO_42 (g := r 42) rfl) 1 rfl (by decide) (by decide) (x := (r 42) 1) rfl dX14_digest_50 ?_
  refine q_ast hx hb hA hW hS ((rO_out (by omega)).trans q_eq) 4 rfl (by decide) (by decide) dX14_digest_51 (fun H locs hW hS => ?_)
  rw [rO_iu (by omega)] at hW
  rw [q_upup] at hW
  have hW : q_W E (rO E (va_up f n (some (aI E 14 (upd (upd (upd (upd (upd (fun _ => 0) 0 (nI pn)) 1 (r 121 0)) 2 (r 122 0)) 3 ((r 42) 0)) 4 ((r 42) 1))))) M r) (n + 1) H := hW
  refine lv_dup hx hb dX14_digest_52 rfl ?_
  refine lv_iconst (v := 5) hx hb dX14_digest_53 (by decide) ?_
  refine lv_aload_n hx hb dX14_digest_54 rfl (lv_at hl 0 rfl) ?_
  refine q_get hx hb hts hown hA hW iX14 rO_0 rfl 19 (by decide) (hts (.fieldLink RX14 45 "HighRecipesModel" "now" "[I") (by decide +kernel)) (fun _ h9 => h9) (v := .ref (M + 42)) rfl dX14_digest_55 ?_
  refine lv_iconst (v := 2) hx hb dX14_digest_58 (by decide) ?_
  refine q_ald hx hb hA hW (rO_42 (g := r 42) rfl) 2 rfl (by decide) (by decide) (x := (r 42) 2) rfl dX14_digest_59 ?_
  refine q_ast hx hb hA hW hS ((rO_out (by omega)).trans q_eq) 5 rfl (by decide) (by decide) dX14_digest_60 (fun H locs hW hS => ?_)
  rw [rO_iu (by omega)] at hW
  rw [q_upup] at hW
  have hW : q_W E (rO E (va_up f n (some (aI E 14 (upd (upd (upd (upd (upd (upd (fun _ => 0) 0 (nI pn)) 1 (r 121 0)) 2 (r 122 0)) 3 ((r 42) 0)) 4 ((r 42) 1)) 5 ((r 42) 2))))) M r) (n + 1) H := hW
  refine lv_dup hx hb dX14_digest_61 rfl ?_
  refine lv_bipush (v := 6) hx hb dX14_digest_62 (by decide) ?_
  refine lv_aload_n hx hb dX14_digest_64 rfl (lv_at hl 0 rfl) ?_
  refine q_get hx hb hts hown hA hW iX14 rO_0 rfl 19 (by decide) (hts (.fieldLink RX14 45 "HighRecipesModel" "now" "[I") (by decide +kernel)) (fun _ h9 => h9) (v := .ref (M + 42)) rfl dX14_digest_65 ?_
  refine lv_iconst (v := 3) hx hb dX14_digest_68 (by decide) ?_
  refine q_ald hx hb hA hW (rO_42 (g := r 42) rfl) 3 rfl (by decide) (by decide) (x := (r 42) 3) rfl dX14_digest_69 ?_
  refine q_ast hx hb hA hW hS ((rO_out (by omega)).trans q_eq) 6 rfl (by decide) (by decide) dX14_digest_70 (fun H locs hW hS => ?_)
  rw [rO_iu (by omega)] at hW
  rw [q_upup] at hW
  have hW : q_W E (rO E (va_up f n (some (aI E 14 (upd (upd (upd (upd (upd (upd (upd (fun _ => 0) 0 (nI pn)) 1 (r 121 0)) 2 (r 122 0)) 3 ((r 42) 0)) 4 ((r 42) 1)) 5 ((r 42) 2)) 6 ((r 42) 3))))) M r) (n + 1) H := hW
  refine lv_dup hx hb dX14_digest_71 rfl ?_
  refine lv_bipush (v := 7) hx hb dX14_digest_72 (by decide) ?_
  refine lv_aload_n hx hb dX14_digest_74 rfl (lv_at hl 0 rfl) ?_
  refine q_get hx hb hts hown hA hW iX14 rO_0 rfl 19 (by decide) (hts (.fieldLink RX14 45 "HighRecipesModel" "now" "[I") (by decide +kernel)) (fun _ h9 => h9) (v := .ref (M + 42)) rfl dX14_digest_75 ?_
  refine lv_iconst (v := 4) hx hb dX14_digest_78 (by decide) ?_
  refine q_ald hx hb hA hW (rO_42 (g := r 42) rfl) 4 rfl (by decide) (by decide) (x := (r 42) 4) rfl dX14_digest_79 ?_
  refine q_ast hx hb hA hW hS ((rO_out (by omega)).trans q_eq) 7 rfl (by decide) (by decide) dX14_digest_80 (fun H locs hW hS => ?_)
  rw [rO_iu (by omega)] at hW
  rw [q_upup] at hW
  have hW : q_W E (rO E (va_up f n (some (aI E 14 (upd (upd (upd (upd (upd (upd (upd (upd (fun _ => 0) 0 (nI pn)) 1 (r 121 0)) 2 (r 122 0)) 3 ((r 42) 0)) 4 ((r 42) 1)) 5 ((r 42) 2)) 6 ((r 42) 3)) 7 ((r 42) 4))))) M r) (n + 1) H := hW
  refine lv_dup hx hb dX14_digest_81 rfl ?_
  refine lv_bipush (v := 8) hx hb dX14_digest_82 (by decide) ?_
  refine lv_aload_n hx hb dX14_digest_84 rfl (lv_at hl 0 rfl) ?_
  refine q_get hx hb hts hown hA hW iX14 rO_0 rfl 19 (by decide) (hts (.fieldLink RX14 45 "HighRecipesModel" "now" "[I") (by decide +kernel)) (fun _ h9 => h9) (v := .ref (M + 42)) rfl dX14_digest_85 ?_
  refine lv_iconst (v := 5) hx hb dX14_digest_88 (by decide) ?_
  refine q_ald hx hb hA hW (rO_42 (g := r 42) rfl) 5 rfl (by decide) (by decide) (x := (r 42) 5) rfl dX14_digest_89 ?_
  refine q_ast hx hb hA hW hS ((rO_out (by omega)).trans q_eq) 8 rfl (by decide) (by decide) dX14_digest_90 (fun H locs hW hS => ?_)
  rw [rO_iu (by omega)] at hW
  rw [q_upup] at hW
  have hW : q_W E (rO E (va_up f n (some (aI E 14 (upd (upd (upd (upd (upd (upd (upd (upd (upd (fun _ => 0) 0 (nI pn)) 1 (r 121 0)) 2 (r 122 0)) 3 ((r 42) 0)) 4 ((r 42) 1)) 5 ((r 42) 2)) 6 ((r 42) 3)) 7 ((r 42) 4)) 8 ((r 42) 5))))) M r) (n + 1) H := hW
  refine lv_dup hx hb dX14_digest_91 rfl ?_
  refine lv_bipush (v := 9) hx hb dX14_digest_92 (by decide) ?_
  refine lv_aload_n hx hb dX14_digest_94 rfl (lv_at hl 0 rfl) ?_
  refine q_get hx hb hts hown hA hW iX14 rO_0 rfl 19 (by decide) (hts (.fieldLink RX14 45 "HighRecipesModel" "now" "[I") (by decide +kernel)) (fun _ h9 => h9) (v := .ref (M + 42)) rfl dX14_digest_95 ?_
  refine lv_bipush (v := 7) hx hb dX14_digest_98 (by decide) ?_
  refine q_ald hx hb hA hW (rO_42 (g := r 42) rfl) 7 rfl (by decide) (by decide) (x := (r 42) 7) rfl dX14_digest_100 ?_
  refine q_ast hx hb hA hW hS ((rO_out (by omega)).trans q_eq) 9 rfl (by decide) (by decide) dX14_digest_101 (fun H locs hW hS => ?_)
  rw [rO_iu (by omega)] at hW
  rw [q_upup] at hW
  have hW : q_W E (rO E (va_up f n (some (aI E 14 (upd (upd (upd (upd (upd (upd (upd (upd (upd (upd (fun _ => 0) 0 (nI pn)) 1 (r 121 0)) 2 (r 122 0)) 3 ((r 42) 0)) 4 ((r 42) 1)) 5 ((r 42) 2)) 6 ((r 42) 3)) 7 ((r 42) 4)) 8 ((r 42) 5)) 9 ((r 42) 7))))) M r) (n + 1) H := hW
  refine lv_dup hx hb dX14_digest_102 rfl ?_
  refine lv_bipush (v := 10) hx hb dX14_digest_103 (by decide) ?_
  refine lv_aload_n hx hb dX14_digest_105 rfl (lv_at hl 0 rfl) ?_
  refine q_get hx hb hts hown hA hW iX14 rO_0 rfl 19 (by decide) (hts (.fieldLink RX14 45 "HighRecipesModel" "now" "[I") (by decide +kernel)) (fun _ h9 => h9) (v := .ref (M + 42)) rfl dX14_digest_106 ?_
  refine lv_bipush (v := 8) hx hb dX14_digest_109 (by decide) ?_
  refine q_ald hx hb hA hW (rO_42 (g := r 42) rfl) 8 rfl (by decide) (by decide) (x := (r 42) 8) rfl dX14_digest_111 ?_
  refine q_ast hx hb hA hW hS ((rO_out (by omega)).trans q_eq) 10 rfl (by decide) (by decide) dX14_digest_112 (fun H locs hW hS => ?_)
  rw [rO_iu (by omega)] at hW
  rw [q_upup] at hW
  have hW : q_W E (rO E (va_up f n (some (aI E 14 (upd (upd (upd (upd (upd (upd (upd (upd (upd (upd (upd (fun _ => 0) 0 (nI pn)) 1 (r 121 0)) 2 (r 122 0)) 3 ((r 42) 0)) 4 ((r 42) 1)) 5 ((r 42) 2)) 6 ((r 42) 3)) 7 ((r 42) 4)) 8 ((r 42) 5)) 9 ((r 42) 7)) 10 ((r 42) 8))))) M r) (n + 1) H := hW
  refine lv_dup hx hb dX14_digest_113 rfl ?_
  refine lv_bipush (v := 11) hx hb dX14_digest_114 (by decide) ?_
  refine lv_aload_n hx hb dX14_digest_116 rfl (lv_at hl 0 rfl) ?_
  refine q_get hx hb hts hown hA hW iX14 rO_0 rfl 19 (by decide) (hts (.fieldLink RX14 45 "HighRecipesModel" "now" "[I") (by decide +kernel)) (fun _ h9 => h9) (v := .ref (M + 42)) rfl dX14_digest_117 ?_
  refine lv_bipush (v := 9) hx hb dX14_digest_120 (by decide) ?_
  refine q_ald hx hb hA hW (rO_42 (g := r 42) rfl) 9 rfl (by decide) (by decide) (x := (r 42) 9) rfl dX14_digest_122 ?_
  refine q_ast hx hb hA hW hS ((rO_out (by omega)).trans q_eq) 11 rfl (by decide) (by decide) dX14_digest_123 (fun H locs hW hS => ?_)
  rw [rO_iu (by omega)] at hW
  rw [q_upup] at hW
  have hW : q_W E (rO E (va_up f n (some (aI E 14 (upd (upd (upd (upd (upd (upd (upd (upd (upd (upd (upd (upd (fun _ => 0) 0 (nI pn)) 1 (r 121 0)) 2 (r 122 0)) 3 ((r 42) 0)) 4 ((r 42) 1)) 5 ((r 42) 2)) 6 ((r 42) 3)) 7 ((r 42) 4)) 8 ((r 42) 5)) 9 ((r 42) 7)) 10 ((r 42) 8)) 11 ((r 42) 9))))) M r) (n + 1) H := hW
  refine lv_dup hx hb dX14_digest_124 rfl ?_
  refine lv_bipush (v := 12) hx hb dX14_digest_125 (by decide) ?_
  refine lv_aload_n hx hb dX14_digest_127 rfl (lv_at hl 0 rfl) ?_
  refine q_get hx hb hts hown hA hW iX14 rO_0 rfl 19 (by decide) (hts (.fieldLink RX14 45 "HighRecipesModel" "now" "[I") (by decide +kernel)) (fun _ h9 => h9) (v := .ref (M + 42)) rfl dX14_digest_128 ?_
  refine lv_bipush (v := 10) hx hb dX14_digest_131 (by decide) ?_
  refine q_ald hx hb hA hW (rO_42 (g := r 42) rfl) 10 rfl (by decide) (by decide) (x := (r 42) 10) rfl dX14_digest_133 ?_
  refine q_ast hx hb hA hW hS ((rO_out (by omega)).trans q_eq) 12 rfl (by decide) (by decide) dX14_digest_134 (fun H locs hW hS => ?_)
  rw [rO_iu (by omega)] at hW
  rw [q_upup] at hW
  have hW : q_W E (rO E (va_up f n (some (aI E 14 (upd (upd (upd (upd (upd (upd (upd (upd (upd (upd (upd (upd (upd (fun _ => 0) 0 (nI pn)) 1 (r 121 0)) 2 (r 122 0)) 3 ((r 42) 0)) 4 ((r 42) 1)) 5 ((r 42) 2)) 6 ((r 42) 3)) 7 ((r 42) 4)) 8 ((r 42) 5)) 9 ((r 42) 7)) 10 ((r 42) 8)) 11 ((r 42) 9)) 12 ((r 42) 10))))) M r) (n + 1) H := hW
  refine lv_dup hx hb dX14_digest_135 rfl ?_
  refine lv_bipush (v := 13) hx hb dX14_digest_136 (by decide) ?_
  refine lv_aload_n hx hb dX14_digest_138 rfl (lv_at hl 0 rfl) ?_
  refine q_get hx hb hts hown hA hW iX14 rO_0 rfl 19 (by decide) (hts (.fieldLink RX14 45 "HighRecipesModel" "now" "[I") (by decide +kernel)) (fun _ h9 => h9) (v := .ref (M + 42)) rfl dX14_digest_139 ?_
  refine lv_bipush (v := 11) hx hb dX14_digest_142 (by decide) ?_
  refine q_ald hx hb hA hW (rO_42 (g := r 42) rfl) 11 rfl (by decide) (by decide) (x := (r 42) 11) rfl dX14_digest_144 ?_
  refine q_ast hx hb hA hW hS ((rO_out (by omega)).trans q_eq) 13 rfl (by decide) (by decide) dX14_digest_145 (fun H locs hW hS => ?_)
  rw [rO_iu (by omega)] at hW
  rw [q_upup] at hW
  have hW : q_W E (rO E (va_up f n (some (aI E 14 (upd (upd (upd (upd (upd (upd (upd (upd (upd (upd (upd (upd (upd (upd (fun _ => 0) 0 (nI pn)) 1 (r 121 0)) 2 (r 122 0)) 3 ((r 42) 0)) 4 ((r 42) 1)) 5 ((r 42) 2)) 6 ((r 42) 3)) 7 ((r 42) 4)) 8 ((r 42) 5)) 9 ((r 42) 7)) 10 ((r 42) 8)) 11 ((r 42) 9)) 12 ((r 42) 10)) 13 ((r 42) 11))))) M r) (n + 1) H := hW
  refine lv_astore_n (lv' := [(1, .ref n), (0, .ref M)]) hx hb dX14_digest_146 rfl hl (by decide) rfl (fun ls hl => ?_)
  refine lv_ldc2 hx hb hown (hts (.constantLong RX14 392 (1913)) (by decide +kernel)) dX14_digest_147 ?_
  refine lv_lstore_n (lv' := [(2, .long 1913), (1, .ref n), (0, .ref M)]) hx hb dX14_digest_150 rfl hl (by decide) rfl (fun ls hl => ?_)
  refine lv_aload_n hx hb dX14_digest_151 rfl (lv_at hl 1 rfl) ?_
  refine lv_astore (lv' := [(4, .ref n), (2, .long 1913), (1, .ref n), (0, .ref M)]) hx hb dX14_digest_152 hl (by decide) rfl (fun ls hl => ?_)
  refine lv_aload hx hb dX14_digest_154 (lv_at hl 0 rfl) ?_
  refine q_alen hx hb hA hW 0 rfl ((rO_out (by omega)).trans q_eq) (v := Int32.ofNat 14) rfl dX14_digest_156 ?_
  refine lv_istore (lv' := [(5, .int (Int32.ofNat 14)), (4, .ref n), (2, .long 1913), (1, .ref n), (0, .ref M)]) hx hb dX14_digest_157 hl (by decide) rfl (fun ls hl => ?_)
  refine lv_iconst (v := 0) hx hb dX14_digest_159 (by decide) ?_
  refine lv_istore (lv' := [(6, .int 0), (5, .int (Int32.ofNat 14)), (4, .ref n), (2, .long 1913), (1, .ref n), (0, .ref M)]) hx hb dX14_digest_160 hl (by decide) rfl (fun ls hl => ?_)
  have K162 : ∀ (fu : Nat) (j : Nat) (hj : j ≤ 14) (hm : 14 - j < fu) (H : Heap) (locs : List Loc) (ls : Array Slot), q_W E (rO E (va_up f n (some (aI E 14 (z_ga (nI pn) (r 121 0) (r 122 0) (r 42 0) (r 42 1) (r 42 2) (r 42 3) (r 42 4) (r 42 5) (r 42 7) (r 42 8) (r 42 9) (r 42 10) (r 42 11))))) M r) (n + 1) H → va_S (q_ge E) s.heap H locs → lv_has ls 8 [(0, .ref M), (4, .ref n), (5, .int 14), (2, .long (z_mxs (z_ga (nI pn) (r 121 0) (r 122 0) (r 42 0) (r 42 1) (r 42 2) (r 42 3) (r 42 4) (r 42 5) (r 42 7) (r 42 8) (r 42 9) (r 42 10) (r 42 11)) 1913 j)), (6, .int (nI j))] → W p l e (headSpec wsX14_digest ({ frames := 2, cells := 1, slots := 14, locals := 45 })).room s m ([.ref M] : List Value).toArray below meth c H locs 1 14 (MQ below (q_Ql E (fun r0 f1 n1 => z_dig pn (r 121 0) (r 122 0) (r 9) (r 42) tw tn = r0 ∧ (∃ x, rO E (va_up f n (some x)) M (rp r 100 (fun _ => 0)) = f1) ∧ n + 1 = n1)) ([.ref M] : List Value).toArray s 1 14 (q_ge E)) (F0 m 162 ls []) := by
    intro fu
    induction fu with
    | zero =>
      intro j hj hm
      exact absurd hm (Nat.not_lt_zero _)
    | succ fu ih =>
      intro j hj hm H locs ls hW hS hl
      refine lv_iload hx hb dX14_digest_162 (lv_at hl 4 rfl) ?_
      refine lv_iload hx hb dX14_digest_164 (lv_at hl 2 rfl) ?_
      refine lv_icmp_ge (tgt := 192) hx hb dX14_digest_166 (by decide) (fun c_166 => ?_) (fun c_166 => ?_)
      · have ej : j = 14 := by rcases Nat.lt_or_ge j 14 with h9 | h9; exact absurd (show nI 14 ≤ nI j from c_166) (nI_ge h9 (by decide)); omega
        rw [ej, z_ga_eq] at hl
        refine lv_iconst (v := 0) hx hb dX14_digest_192 (by decide) ?_
        refine lv_istore (lv' := [(4, .int 0), (0, .ref M), (5, .int 14), (2, .long (z_dg0 (nI pn) (r 121 0) (r 122 0) (r 42))), (6, .int (nI 14))]) hx hb dX14_digest_193 hl (by decide) rfl (fun ls hl => ?_)
        have K195 : ∀ (fu : Nat) (j : Nat) (hj : j ≤ pn) (hm : pn - j < fu) (H : Heap) (locs : List Loc) (ls : Array Slot), q_W E (rO E (va_up f n (some (aI E 14 (z_ga (nI pn) (r 121 0) (r 122 0) (r 42 0) (r 42 1) (r 42 2) (r 42 3) (r 42 4) (r 42 5) (r 42 7) (r 42 8) (r 42 9) (r 42 10) (r 42 11))))) M r) (n + 1) H → va_S (q_ge E) s.heap H locs → lv_has ls 8 [(0, .ref M), (2, .long (z_dgp (r 9) (r 42) (z_dg0 (nI pn) (r 121 0) (r 122 0) (r 42)) j)), (4, .int (nI j))] → W p l e (headSpec wsX14_digest ({ frames := 2, cells := 1, slots := 14, locals := 45 })).room s m ([.ref M] : List Value).toArray below meth c H locs 1 14 (MQ below (q_Ql E (fun r0 f1 n1 => z_dig pn (r 121 0) (r 122 0) (r 9) (r 42) tw tn = r0 ∧ (∃ x, rO E (va_up f n (some x)) M (rp r 100 (fun _ => 0)) = f1) ∧ n + 1 = n1)) ([.ref M] : List Value).toArray s 1 14 (q_ge E)) (F0 m 195 ls []) := by
          intro fu
          induction fu with
          | zero =>
            intro j hj hm
            exact absurd hm (Nat.not_lt_zero _)
          | succ fu ih =>
            intro j hj hm H locs ls hW hS hl
            have ih195 := ih
            refine lv_iload hx hb dX14_digest_195 (lv_at hl 2 rfl) ?_
            refine lv_aload_n hx hb dX14_digest_197 rfl (lv_at hl 0 rfl) ?_
            refine q_get hx hb hts hown hA hW iX14 rO_0 rfl 17 (by decide) (hts (.fieldLink RX14 38 "HighRecipesModel" "told" "LHighRecipesModel$Book;") (by decide +kernel)) (fun _ h9 => h9) (v := .ref (M + 8)) rfl dX14_digest_198 ?_
            refine q_getN hx hb hts hown hA hW iX13 rO_8 rfl 0 (by decide) (va_Nw.use rfl (hA.2.2.2.1 ("HighRecipesModel", 150, "HighRecipesModel$Book", "pans", "I", "HighRecipesModel") (by decide +kernel))) (fun _ h9 => h9) (v := .int (nI pn)) (congrArg (fun z => some (Value.int z)) hpn9) dX14_digest_201 ?_
            refine lv_icmp_ge (tgt := 266) hx hb dX14_digest_204 (by decide) (fun c_204 => ?_) (fun c_204 => ?_)
            · have ej : j = pn := by rcases Nat.lt_or_ge j (pn) with h9 | h9; exact absurd (show nI (pn) ≤ nI j from c_204) (nI_ge h9 (by omega)); omega
              rw [ej] at hl
              refine lv_iconst (v := 0) hx hb dX14_digest_266 (by decide) ?_
              refine lv_istore (lv' := [(4, .int 0), (0, .ref M), (2, .long (z_dgp (r 9) (r 42) (z_dg0 (nI pn) (r 121 0) (r 122 0) (r 42)) pn))]) hx hb dX14_digest_267 hl (by decide) rfl (fun ls hl => ?_)
              have K269 : ∀ (fu : Nat) (j : Nat) (x9 : Int32) (hj : j ≤ min 20 tw) (hm : min 20 tw - j < fu) (H : Heap) (locs : List Loc) (ls : Array Slot), q_W E (rO E (va_up f n (some (aI E 14 (z_ga (nI pn) (r 121 0) (r 122 0) (r 42 0) (r 42 1) (r 42 2) (r 42 3) (r 42 4) (r 42 5) (r 42 7) (r 42 8) (r 42 9) (r 42 10) (r 42 11))))) M (rp r 100 (fun _ => x9))) (n + 1) H → va_S (q_ge E) s.heap H locs → lv_has ls 8 [(0, .ref M), (2, .long (z_dgh (r 42) tw 12 (z_dgp (r 9) (r 42) (z_dg0 (nI pn) (r 121 0) (r 122 0) (r 42)) pn) j)), (4, .int (nI j))] → W p l e (headSpec wsX14_digest ({ frames := 2, cells := 1, slots := 14, locals := 45 })).room s m ([.ref M] : List Value).toArray below meth c H locs 1 14 (MQ below (q_Ql E (fun r0 f1 n1 => z_dig pn (r 121 0) (r 122 0) (r 9) (r 42) tw tn = r0 ∧ (∃ x, rO E (va_up f n (some x)) M (rp r 100 (fun _ => 0)) = f1) ∧ n + 1 = n1)) ([.ref M] : List Value).toArray s 1 14 (q_ge E)) (F0 m 269 ls []) := by
                intro fu
                induction fu with
                | zero =>
                  intro j x9 hj hm
                  exact absurd hm (Nat.not_lt_zero _)
                | succ fu ih =>
                  intro j x9 hj hm H locs ls hW hS hl
                  refine lv_iload hx hb dX14_digest_269 (lv_at hl 2 rfl) ?_
                  refine lv_bipush (v := 20) hx hb dX14_digest_271 (by decide) ?_
                  refine lv_aload_n hx hb dX14_digest_273 rfl (lv_at hl 0 rfl) ?_
                  refine q_get hx hb hts hown hA hW iX14 rO_0 rfl 19 (by decide) (hts (.fieldLink RX14 45 "HighRecipesModel" "now" "[I") (by decide +kernel)) (fun _ h9 => h9) (v := .ref (M + 42)) rfl dX14_digest_274 ?_
                  refine lv_iconst (v := 4) hx hb dX14_digest_277 (by decide) ?_
                  refine q_ald hx hb hA hW (rO_42 (g := r 42) rfl) 4 rfl (by decide) (by decide) (x := nI tw) h4 dX14_digest_278 ?_
                  refine va_mmin hx hb (hml.trans hl.1.symm) hown (hts (.methodLink RX14 57 Lib.Math.min.name) (by decide +kernel)) (hts (.static Lib.Math.min.name) (by decide +kernel)) (hts (.initialized "java/lang/Math") (by decide +kernel)) (hts (.code Lib.Math.min.name Lib.Math.min.code 2 (some .int)) (by decide +kernel)) (Nat.le_of_ble_eq_true rfl) (Nat.le_of_ble_eq_true rfl) (Nat.le_of_ble_eq_true rfl) (Nat.le_of_ble_eq_true rfl) dX14_digest_279 ?_
                  rw [show (if nI tw < 20 then nI tw else 20) = nI (min 20 tw) from q_min_n (a := 20) (b := tw) (by decide) (by omega)]
                  refine lv_icmp_ge (tgt := 313) hx hb dX14_digest_282 (by decide) (fun c_282 => ?_) (fun c_282 => ?_)
                  · have ej : j = min 20 tw := by rcases Nat.lt_or_ge j (min 20 tw) with h9 | h9; exact absurd (show nI (min 20 tw) ≤ nI j from c_282) (nI_ge h9 (by omega)); omega
                    rw [ej] at hl
                    refine lv_iconst (v := 0) hx hb dX14_digest_313 (by decide) ?_
                    refine lv_istore (lv' := [(4, .int 0), (0, .ref M), (2, .long (z_dgh (r 42) tw 12 (z_dgp (r 9) (r 42) (z_dg0 (nI pn) (r 121 0) (r 122 0) (r 42)) pn) (min 20 tw)))]) hx hb dX14_digest_314 hl (by decide) rfl (fun ls hl => ?_)
                    have K316 : ∀ (fu : Nat) (j : Nat) (x9 : Int32) (hj : j ≤ min 20 tn) (hm : min 20 tn - j < fu) (H : Heap) (locs : List Loc) (ls : Array Slot), q_W E (rO E (va_up f n (some (aI E 14 (z_ga (nI pn) (r 121 0) (r 122 0) (r 42 0) (r 42 1) (r 42 2) (r 42 3) (r 42 4) (r 42 5) (r 42 7) (r 42 8) (r 42 9) (r 42 10) (r 42 11))))) M (rp r 100 (fun _ => x9))) (n + 1) H → va_S (q_ge E) s.heap H locs → lv_has ls 8 [(0, .ref M), (2, .long (z_dgh (r 42) tn 32 (z_dgh (r 42) tw 12 (z_dgp (r 9) (r 42) (z_dg0 (nI pn) (r 121 0) (r 122 0) (r 42)) pn) (min 20 tw)) j)), (4, .int (nI j))] → W p l e (headSpec wsX14_digest ({ frames := 2, cells := 1, slots := 14, locals := 45 })).room s m ([.ref M] : List Value).toArray below meth c H locs 1 14 (MQ below (q_Ql E (fun r0 f1 n1 => z_dig pn (r 121 0) (r 122 0) (r 9) (r 42) tw tn = r0 ∧ (∃ x, rO E (va_up f n (some x)) M (rp r 100 (fun _ => 0)) = f1) ∧ n + 1 = n1)) ([.ref M] : List Value).toArray s 1 14 (q_ge E)) (F0 m 316 ls []) := by
                      intro fu
                      induction fu with
                      | zero =>
                        intro j x9 hj hm
                        exact absurd hm (Nat.not_lt_zero _)
                      | succ fu ih =>
                        intro j x9 hj hm H locs ls hW hS hl
                        refine lv_iload hx hb dX14_digest_316 (lv_at hl 2 rfl) ?_
                        refine lv_bipush (v := 20) hx hb dX14_digest_318 (by decide) ?_
                        refine lv_aload_n hx hb dX14_digest_320 rfl (lv_at hl 0 rfl) ?_
                        refine q_get hx hb hts hown hA hW iX14 rO_0 rfl 19 (by decide) (hts (.fieldLink RX14 45 "HighRecipesModel" "now" "[I") (by decide +kernel)) (fun _ h9 => h9) (v := .ref (M + 42)) rfl dX14_digest_321 ?_
                        refine lv_iconst (v := 5) hx hb dX14_digest_324 (by decide) ?_
                        refine q_ald hx hb hA hW (rO_42 (g := r 42) rfl) 5 rfl (by decide) (by decide) (x := nI tn) h5 dX14_digest_325 ?_
                        refine va_mmin hx hb (hml.trans hl.1.symm) hown (hts (.methodLink RX14 57 Lib.Math.min.name) (by decide +kernel)) (hts (.static Lib.Math.min.name) (by decide +kernel)) (hts (.initialized "java/lang/Math") (by decide +kernel)) (hts (.code Lib.Math.min.name Lib.Math.min.code 2 (some .int)) (by decide +kernel)) (Nat.le_of_ble_eq_true rfl) (Nat.le_of_ble_eq_true rfl) (Nat.le_of_ble_eq_true rfl) (Nat.le_of_ble_eq_true rfl) dX14_digest_326 ?_
                        rw [show (if nI tn < 20 then nI tn else 20) = nI (min 20 tn) from q_min_n (a := 20) (b := tn) (by decide) (by omega)]
                        refine lv_icmp_ge (tgt := 360) hx hb dX14_digest_329 (by decide) (fun c_329 => ?_) (fun c_329 => ?_)
                        · have ej : j = min 20 tn := by rcases Nat.lt_or_ge j (min 20 tn) with h9 | h9; exact absurd (show nI (min 20 tn) ≤ nI j from c_329) (nI_ge h9 (by omega)); omega
                          rw [ej] at hl
                          refine lv_aload_n hx hb dX14_digest_360 rfl (lv_at hl 0 rfl) ?_
                          refine lv_iconst (v := 0) hx hb dX14_digest_361 (by decide) ?_
                          refine q_put hx hb hts hown hA hW hS iX14 tyX14 tyX14_ok nmX14 rO_0 rfl 0 (by decide) (hts (.fieldLink RX14 54 "HighRecipesModel" "thrown" "I") (by decide +kernel)) (fun _ h9 => h9) rfl rfl rfl (Nat.le_of_ble_eq_true rfl) dX14_digest_362 (fun H locs hW hS => ?_)
                          have hW := q_s0 100 (0) hW rfl (by decide)
                          rw [rp_d0] at hW
                          refine lv_lload_n hx hb dX14_digest_365 rfl (lv_at hl 1 rfl) ?_
                          exact q_lret hx hb hr hlocks hW hS ⟨rfl, ⟨_, rfl⟩, rfl⟩ (Nat.le_of_ble_eq_true rfl) (Nat.le_of_ble_eq_true rfl) dX14_digest_366
                        · have hlt : j < min 20 tn := by rcases Nat.lt_or_ge j (min 20 tn) with h9 | h9; exact h9; exact absurd (show nI (min 20 tn) ≤ nI j from nI_le h9 (by omega)) c_329
                          refine lv_lload_n hx hb dX14_digest_332 rfl (lv_at hl 1 rfl) ?_
                          refine lv_ldc2 hx hb hown (hts (.constantLong RX14 394 (31)) (by decide +kernel)) dX14_digest_333 ?_
                          refine lv_lmul hx hb dX14_digest_336 ?_
                          refine lv_aload_n hx hb dX14_digest_337 rfl (lv_at hl 0 rfl) ?_
                          refine lv_iload hx hb dX14_digest_338 (lv_at hl 2 rfl) ?_
                          refine lv_aload_n hx hb dX14_digest_340 rfl (lv_at hl 0 rfl) ?_
                          refine q_get hx hb hts hown hA hW iX14 rO_0 rfl 19 (by decide) (hts (.fieldLink RX14 45 "HighRecipesModel" "now" "[I") (by decide +kernel)) (fun _ h9 => h9) (v := .ref (M + 42)) rfl dX14_digest_341 ?_
                          refine lv_iconst (v := 5) hx hb dX14_digest_344 (by decide) ?_
                          refine q_ald hx hb hA hW (rO_42 (g := r 42) rfl) 5 rfl (by decide) (by decide) (x := nI tn) h5 dX14_digest_345 ?_
                          refine lv_bipush (v := 32) hx hb dX14_digest_346 (by decide) ?_
                          refine q_ci (va_runV (As := [.int (nI j), .int (nI tn), .int 32]) (rest := [.long ((z_dgh (r 42) tn 32 (z_dgh (r 42) tw 12 (z_dgp (r 9) (r 42) (z_dg0 (nI pn) (r 121 0) (r 122 0) (r 42)) pn) (min 20 tw)) j) * 31)]) ⟨hx, hb, hml, hown, hts⟩ (kX14_latest l E (rO E (va_up f n (some (aI E 14 (z_ga (nI pn) (r 121 0) (r 122 0) (r 42 0) (r 42 1) (r 42 2) (r 42 3) (r 42 4) (r 42 5) (r 42 7) (r 42 8) (r 42 9) (r 42 10) (r 42 11))))) M (rp r 100 (fun _ => x9))) (n + 1) M (rp r 100 (fun _ => x9)) j tn 32 rO_K (by assumption) (by assumption) (by decide)) (cwV 3 hts gX14_digest_X14_latest rfl rfl rfl (by decide +kernel) ⟨(Nat.le_of_ble_eq_true rfl), (Nat.le_of_ble_eq_true rfl)⟩) (q_pV hA hW hS (ci := 12) rfl rO_0) rfl rfl hl.1 rfl (lv_room (Nat.le_of_ble_eq_true rfl)) dX14_digest_348 ⟨Nat.le_of_ble_eq_true rfl, Nat.le_of_ble_eq_true rfl⟩) hS (fun r_348 f_348 n_348 H locs hp hW hS => ?_)
                          obtain ⟨rfl, rfl, rfl⟩ := hp
                          rw [show ((rp r 100 (fun _ => x9)) 42) (32 + (tn - 1 - j) % 20) = (r 42) (32 + (tn - 1 - j) % 20) from rfl]
                          have hW : q_W E (rO E (va_up f n (some (aI E 14 (z_ga (nI pn) (r 121 0) (r 122 0) (r 42 0) (r 42 1) (r 42 2) (r 42 3) (r 42 4) (r 42 5) (r 42 7) (r 42 8) (r 42 9) (r 42 10) (r 42 11))))) M (rp (rp r 100 (fun _ => x9)) 100 (fun _ => 0))) (n + 1) H := by rw [rO_rO] at hW; exact hW
                          rw [rp_d0] at hW
                          have hW : q_W E (rO E (va_up f n (some (aI E 14 (z_ga (nI pn) (r 121 0) (r 122 0) (r 42 0) (r 42 1) (r 42 2) (r 42 3) (r 42 4) (r 42 5) (r 42 7) (r 42 8) (r 42 9) (r 42 10) (r 42 11))))) M (rp r 100 (fun _ => 0))) (n + 1) H := hW
                          refine lv_i2l hx hb dX14_digest_351 rfl ?_
                          refine lv_ladd hx hb dX14_digest_352 ?_
                          refine lv_lstore_n (lv' := [(2, .long (((z_dgh (r 42) tn 32 (z_dgh (r 42) tw 12 (z_dgp (r 9) (r 42) (z_dg0 (nI pn) (r 121 0) (r 122 0) (r 42)) pn) (min 20 tw)) j) * 31) + (((r 42) (32 + (tn - 1 - j) % 20)).toInt64))), (0, .ref M), (4, .int (nI j))]) hx hb dX14_digest_353 rfl hl (by decide) rfl (fun ls hl => ?_)
                          refine lv_iinc (v := nI (j + 1)) (lv' := [(4, .int (nI (j + 1))), (2, .long (((z_dgh (r 42) tn 32 (z_dgh (r 42) tw 12 (z_dgp (r 9) (r 42) (z_dg0 (nI pn) (r 121 0) (r 122 0) (r 42)) pn) (min 20 tw)) j) * 31) + (((r 42) (32 + (tn - 1 - j) % 20)).toInt64))), (0, .ref M)]) hx hb dX14_digest_354 hl (k := 2) rfl (nI_1 j) (by decide) rfl (fun ls hl => ?_)
                          refine lv_goto (tgt := 316) hx hb dX14_digest_357 (by decide) ?_
                          exact ih (j + 1) 0 hlt (by omega) _ _ _ hW hS (lv_sub hl [2, 1, 0] rfl)
                    exact K316 _ 0 x9 (Nat.zero_le _) (Nat.lt_succ_self _) _ _ _ hW hS (lv_sub hl [1, 2, 0] rfl)
                  · have hlt : j < min 20 tw := by rcases Nat.lt_or_ge j (min 20 tw) with h9 | h9; exact h9; exact absurd (show nI (min 20 tw) ≤ nI j from nI_le h9 (by omega)) c_282
                    refine lv_lload_n hx hb dX14_digest_285 rfl (lv_at hl 1 rfl) ?_
                    refine lv_ldc2 hx hb hown (hts (.constantLong RX14 394 (31)) (by decide +kernel)) dX14_digest_286 ?_
                    refine lv_lmul hx hb dX14_digest_289 ?_
                    refine lv_aload_n hx hb dX14_digest_290 rfl (lv_at hl 0 rfl) ?_
                    refine lv_iload hx hb dX14_digest_291 (lv_at hl 2 rfl) ?_
                    refine lv_aload_n hx hb dX14_digest_293 rfl (lv_at hl 0 rfl) ?_
                    refine q_get hx hb hts hown hA hW iX14 rO_0 rfl 19 (by decide) (hts (.fieldLink RX14 45 "HighRecipesModel" "now" "[I") (by decide +kernel)) (fun _ h9 => h9) (v := .ref (M + 42)) rfl dX14_digest_294 ?_
                    refine lv_iconst (v := 4) hx hb dX14_digest_297 (by decide) ?_
                    refine q_ald hx hb hA hW (rO_42 (g := r 42) rfl) 4 rfl (by decide) (by decide) (x := nI tw) h4 dX14_digest_298 ?_
                    refine lv_bipush (v := 12) hx hb dX14_digest_299 (by decide) ?_
                    refine q_ci (va_runV (As := [.int (nI j), .int (nI tw), .int 12]) (rest := [.long ((z_dgh (r 42) tw 12 (z_dgp (r 9) (r 42) (z_dg0 (nI pn) (r 121 0) (r 122 0) (r 42)) pn) j) * 31)]) ⟨hx, hb, hml, hown, hts⟩ (kX14_latest l E (rO E (va_up f n (some (aI E 14 (z_ga (nI pn) (r 121 0) (r 122 0) (r 42 0) (r 42 1) (r 42 2) (r 42 3) (r 42 4) (r 42 5) (r 42 7) (r 42 8) (r 42 9) (r 42 10) (r 42 11))))) M (rp r 100 (fun _ => x9))) (n + 1) M (rp r 100 (fun _ => x9)) j tw 12 rO_K (by assumption) (by assumption) (by decide)) (cwV 3 hts gX14_digest_X14_latest rfl rfl rfl (by decide +kernel) ⟨(Nat.le_of_ble_eq_true rfl), (Nat.le_of_ble_eq_true rfl)⟩) (q_pV hA hW hS (ci := 12) rfl rO_0) rfl rfl hl.1 rfl (lv_room (Nat.le_of_ble_eq_true rfl)) dX14_digest_301 ⟨Nat.le_of_ble_eq_true rfl, Nat.le_of_ble_eq_true rfl⟩) hS (fun r_301 f_301 n_301 H locs hp hW hS => ?_)
                    obtain ⟨rfl, rfl, rfl⟩ := hp
                    rw [show ((rp r 100 (fun _ => x9)) 42) (12 + (tw - 1 - j) % 20) = (r 42) (12 + (tw - 1 - j) % 20) from rfl]
                    have hW : q_W E (rO E (va_up f n (some (aI E 14 (z_ga (nI pn) (r 121 0) (r 122 0) (r 42 0) (r 42 1) (r 42 2) (r 42 3) (r 42 4) (r 42 5) (r 42 7) (r 42 8) (r 42 9) (r 42 10) (r 42 11))))) M (rp (rp r 100 (fun _ => x9)) 100 (fun _ => 0))) (n + 1) H := by rw [rO_rO] at hW; exact hW
                    rw [rp_d0] at hW
                    have hW : q_W E (rO E (va_up f n (some (aI E 14 (z_ga (nI pn) (r 121 0) (r 122 0) (r 42 0) (r 42 1) (r 42 2) (r 42 3) (r 42 4) (r 42 5) (r 42 7) (r 42 8) (r 42 9) (r 42 10) (r 42 11))))) M (rp r 100 (fun _ => 0))) (n + 1) H := hW
                    refine lv_i2l hx hb dX14_digest_304 rfl ?_
                    refine lv_ladd hx hb dX14_digest_305 ?_
                    refine lv_lstore_n (lv' := [(2, .long (((z_dgh (r 42) tw 12 (z_dgp (r 9) (r 42) (z_dg0 (nI pn) (r 121 0) (r 122 0) (r 42)) pn) j) * 31) + (((r 42) (12 + (tw - 1 - j) % 20)).toInt64))), (0, .ref M), (4, .int (nI j))]) hx hb dX14_digest_306 rfl hl (by decide) rfl (fun ls hl => ?_)
                    refine lv_iinc (v := nI (j + 1)) (lv' := [(4, .int (nI (j + 1))), (2, .long (((z_dgh (r 42) tw 12 (z_dgp (r 9) (r 42) (z_dg0 (nI pn) (r 121 0) (r 122 0) (r 42)) pn) j) * 31) + (((r 42) (12 + (tw - 1 - j) % 20)).toInt64))), (0, .ref M)]) hx hb dX14_digest_307 hl (k := 2) rfl (nI_1 j) (by decide) rfl (fun ls hl => ?_)
                    refine lv_goto (tgt := 269) hx hb dX14_digest_310 (by decide) ?_
                    exact ih (j + 1) 0 hlt (by omega) _ _ _ hW hS (lv_sub hl [2, 1, 0] rfl)
              have hW := q_sc 100 (x := r 100 0) hW rfl (by decide)
              exact K269 _ 0 (r 100 0) (Nat.zero_le _) (Nat.lt_succ_self _) _ _ _ hW hS (lv_sub hl [1, 2, 0] rfl)
            · have hlt : j < pn := by rcases Nat.lt_or_ge j (pn) with h9 | h9; exact h9; exact absurd (show nI (pn) ≤ nI j from nI_le h9 (by omega)) c_204
              refine lv_lload_n hx hb dX14_digest_207 rfl (lv_at hl 1 rfl) ?_
              refine lv_ldc2 hx hb hown (hts (.constantLong RX14 394 (31)) (by decide +kernel)) dX14_digest_208 ?_
              refine lv_lmul hx hb dX14_digest_211 ?_
              refine lv_aload_n hx hb dX14_digest_212 rfl (lv_at hl 0 rfl) ?_
              refine q_get hx hb hts hown hA hW iX14 rO_0 rfl 17 (by decide) (hts (.fieldLink RX14 38 "HighRecipesModel" "told" "LHighRecipesModel$Book;") (by decide +kernel)) (fun _ h9 => h9) (v := .ref (M + 8)) rfl dX14_digest_213 ?_
              refine q_getN hx hb hts hown hA hW iX13 rO_8 rfl 1 (by decide) (va_Nw.use rfl (hA.2.2.2.1 ("HighRecipesModel", 260, "HighRecipesModel$Book", "holds", "[I", "HighRecipesModel") (by decide +kernel))) (fun _ h9 => h9) (v := .ref (M + 9)) rfl dX14_digest_216 ?_
              refine lv_iload hx hb dX14_digest_219 (lv_at hl 2 rfl) ?_
              refine q_ald hx hb hA hW (rO_9 (g := r 9) rfl) j rfl (by omega) (by decide) (x := (r 9) j) rfl dX14_digest_221 ?_
              refine lv_i2l hx hb dX14_digest_222 rfl ?_
              refine lv_ladd hx hb dX14_digest_223 ?_
              refine lv_lstore_n (lv' := [(2, .long (((z_dgp (r 9) (r 42) (z_dg0 (nI pn) (r 121 0) (r 122 0) (r 42)) j) * 31) + (((r 9) j).toInt64))), (0, .ref M), (4, .int (nI j))]) hx hb dX14_digest_224 rfl hl (by decide) rfl (fun ls hl => ?_)
              refine lv_iconst (v := 0) hx hb dX14_digest_225 (by decide) ?_
              refine lv_istore (lv' := [(5, .int 0), (2, .long (((z_dgp (r 9) (r 42) (z_dg0 (nI pn) (r 121 0) (r 122 0) (r 42)) j) * 31) + (((r 9) j).toInt64))), (0, .ref M), (4, .int (nI j))]) hx hb dX14_digest_226 hl (by decide) rfl (fun ls hl => ?_)
              have K228 : ∀ (fu : Nat) (i : Nat) (hi4 : i ≤ 4) (hm : 4 - i < fu) (H : Heap) (locs : List Loc) (ls : Array Slot), q_W E (rO E (va_up f n (some (aI E 14 (z_ga (nI pn) (r 121 0) (r 122 0) (r 42 0) (r 42 1) (r 42 2) (r 42 3) (r 42 4) (r 42 5) (r 42 7) (r 42 8) (r 42 9) (r 42 10) (r 42 11))))) M r) (n + 1) H → va_S (q_ge E) s.heap H locs → lv_has ls 8 [(0, .ref M), (2, .long (z_dp4 (r 42) j (z_mx (z_dgp (r 9) (r 42) (z_dg0 (nI pn) (r 121 0) (r 122 0) (r 42)) j) (r 9 j)) i)), (4, .int (nI j)), (5, .int (nI i))] → W p l e (headSpec wsX14_digest ({ frames := 2, cells := 1, slots := 14, locals := 45 })).room s m ([.ref M] : List Value).toArray below meth c H locs 1 14 (MQ below (q_Ql E (fun r0 f1 n1 => z_dig pn (r 121 0) (r 122 0) (r 9) (r 42) tw tn = r0 ∧ (∃ x, rO E (va_up f n (some x)) M (rp r 100 (fun _ => 0)) = f1) ∧ n + 1 = n1)) ([.ref M] : List Value).toArray s 1 14 (q_ge E)) (F0 m 228 ls []) := by
                intro fu
                induction fu with
                | zero =>
                  intro i hi4 hm
                  exact absurd hm (Nat.not_lt_zero _)
                | succ fu ih =>
                  intro i hi4 hm H locs ls hW hS hl
                  refine lv_iload hx hb dX14_digest_228 (lv_at hl 3 rfl) ?_
                  refine lv_iconst (v := 4) hx hb dX14_digest_230 (by decide) ?_
                  refine lv_icmp_ge (tgt := 260) hx hb dX14_digest_231 (by decide) (fun c_231 => ?_) (fun c_231 => ?_)
                  · have ej : i = 4 := by rcases Nat.lt_or_ge i (4) with h9 | h9; exact absurd (show nI (4) ≤ nI i from c_231) (nI_ge h9 (by omega)); omega
                    rw [ej] at hl
                    refine lv_iinc (v := nI (j + 1)) (lv' := [(4, .int (nI (j + 1))), (0, .ref M), (2, .long (z_dp4 (r 42) j (z_mx (z_dgp (r 9) (r 42) (z_dg0 (nI pn) (r 121 0) (r 122 0) (r 42)) j) (r 9 j)) 4)), (5, .int (nI 4))]) hx hb dX14_digest_260 hl (k := 2) rfl (nI_1 j) (by decide) rfl (fun ls hl => ?_)
                    refine lv_goto (tgt := 195) hx hb dX14_digest_263 (by decide) ?_
                    exact ih195 (j + 1) hlt (by omega) _ _ _ hW hS (lv_sub hl [1, 2, 0] rfl)
                  · have hlti : i < 4 := by rcases Nat.lt_or_ge i (4) with h9 | h9; exact h9; exact absurd (show nI (4) ≤ nI i from nI_le h9 (by omega)) c_231
                    refine lv_lload_n hx hb dX14_digest_234 rfl (lv_at hl 1 rfl) ?_
                    refine lv_ldc2 hx hb hown (hts (.constantLong RX14 394 (31)) (by decide +kernel)) dX14_digest_235 ?_
                    refine lv_lmul hx hb dX14_digest_238 ?_
                    refine lv_aload_n hx hb dX14_digest_239 rfl (lv_at hl 0 rfl) ?_
                    refine q_get hx hb hts hown hA hW iX14 rO_0 rfl 19 (by decide) (hts (.fieldLink RX14 45 "HighRecipesModel" "now" "[I") (by decide +kernel)) (fun _ h9 => h9) (v := .ref (M + 42)) rfl dX14_digest_240 ?_
                    refine lv_iload hx hb dX14_digest_243 (lv_at hl 2 rfl) ?_
                    refine lv_iload hx hb dX14_digest_245 (lv_at hl 3 rfl) ?_
                    refine q_ci (va_runS (As := [.int (nI j), .int (nI i)]) (rest := [.ref (M + 42), .long ((z_dp4 (r 42) j (z_mx (z_dgp (r 9) (r 42) (z_dg0 (nI pn) (r 121 0) (r 122 0) (r 42)) j) (r 9 j)) i) * 31)]) ⟨hx, hb, hml, hown, hts⟩ (kX14_of l E (rO E (va_up f n (some (aI E 14 (z_ga (nI pn) (r 121 0) (r 122 0) (r 42 0) (r 42 1) (r 42 2) (r 42 3) (r 42 4) (r 42 5) (r 42 7) (r 42 8) (r 42 9) (r 42 10) (r 42 11))))) M r) (n + 1) j i) (va_cwS 2 hts gX14_digest_X14_of rfl rfl rfl (by decide +kernel) ⟨(Nat.le_of_ble_eq_true rfl), (Nat.le_of_ble_eq_true rfl)⟩) (q_pS hA hW hS) rfl rfl hl.1 rfl (lv_room (Nat.le_of_ble_eq_true rfl)) dX14_digest_247 ⟨Nat.le_of_ble_eq_true rfl, Nat.le_of_ble_eq_true rfl⟩) hS (fun r_247 f_247 n_247 H locs hp hW hS => ?_)
                    obtain ⟨rfl, rfl, rfl⟩ := hp
                    have hW : q_W E (rO E (va_up f n (some (aI E 14 (z_ga (nI pn) (r 121 0) (r 122 0) (r 42 0) (r 42 1) (r 42 2) (r 42 3) (r 42 4) (r 42 5) (r 42 7) (r 42 8) (r 42 9) (r 42 10) (r 42 11))))) M r) (n + 1) H := hW
                    refine q_ald hx hb hA hW (rO_42 (g := r 42) rfl) (52 + i + 4 * j) rfl (by omega) (by decide) (x := (r 42) (52 + i + 4 * j)) rfl dX14_digest_250 ?_
                    refine lv_i2l hx hb dX14_digest_251 rfl ?_
                    refine lv_ladd hx hb dX14_digest_252 ?_
                    refine lv_lstore_n (lv' := [(2, .long (((z_dp4 (r 42) j (z_mx (z_dgp (r 9) (r 42) (z_dg0 (nI pn) (r 121 0) (r 122 0) (r 42)) j) (r 9 j)) i) * 31) + (((r 42) (52 + i + 4 * j)).toInt64))), (0, .ref M), (4, .int (nI j)), (5, .int (nI i))]) hx hb dX14_digest_253 rfl hl (by decide) rfl (fun ls hl => ?_)
                    refine lv_iinc (v := nI (i + 1)) (lv' := [(5, .int (nI (i + 1))), (2, .long (((z_dp4 (r 42) j (z_mx (z_dgp (r 9) (r 42) (z_dg0 (nI pn) (r 121 0) (r 122 0) (r 42)) j) (r 9 j)) i) * 31) + (((r 42) (52 + i + 4 * j)).toInt64))), (0, .ref M), (4, .int (nI j))]) hx hb dX14_digest_254 hl (k := 3) rfl (nI_1 i) (by decide) rfl (fun ls hl => ?_)
                    refine lv_goto (tgt := 228) hx hb dX14_digest_257 (by decide) ?_
                    exact ih (i + 1) hlti (by omega) _ _ _ hW hS (lv_sub hl [2, 1, 3, 0] rfl)
              exact K228 _ 0 (Nat.zero_le _) (Nat.lt_succ_self _) _ _ _ hW hS (lv_sub hl [2, 1, 3, 0] rfl)
        exact K195 _ 0 (Nat.zero_le _) (Nat.lt_succ_self _) _ _ _ hW hS (lv_sub hl [1, 3, 0] rfl)
      · have hlt : j < 14 := by rcases Nat.lt_or_ge j 14 with h9 | h9; exact h9; exact absurd (show nI 14 ≤ nI j from nI_le h9 (by omega)) c_166
        refine lv_aload hx hb dX14_digest_169 (lv_at hl 1 rfl) ?_
        refine lv_iload hx hb dX14_digest_171 (lv_at hl 4 rfl) ?_
        refine q_ald hx hb hA hW ((rO_out (by omega)).trans q_eq) j rfl (by omega) (by decide) (x := (z_ga (nI pn) (r 121 0) (r 122 0) (r 42 0) (r 42 1) (r 42 2) (r 42 3) (r 42 4) (r 42 5) (r 42 7) (r 42 8) (r 42 9) (r 42 10) (r 42 11)) j) rfl dX14_digest_173 ?_
        refine lv_istore (lv' := [(7, .int ((z_ga (nI pn) (r 121 0) (r 122 0) (r 42 0) (r 42 1) (r 42 2) (r 42 3) (r 42 4) (r 42 5) (r 42 7) (r 42 8) (r 42 9) (r 42 10) (r 42 11)) j)), (0, .ref M), (4, .ref n), (5, .int 14), (2, .long (z_mxs (z_ga (nI pn) (r 121 0) (r 122 0) (r 42 0) (r 42 1) (r 42 2) (r 42 3) (r 42 4) (r 42 5) (r 42 7) (r 42 8) (r 42 9) (r 42 10) (r 42 11)) 1913 j)), (6, .int (nI j))]) hx hb dX14_digest_174 hl (by decide) rfl (fun ls hl => ?_)
        refine lv_lload_n hx hb dX14_digest_176 rfl (lv_at hl 4 rfl) ?_
        refine lv_ldc2 hx hb hown (hts (.constantLong RX14 394 (31)) (by decide +kernel)) dX14_digest_177 ?_
        refine lv_lmul hx hb dX14_digest_180 ?_
        refine lv_iload hx hb dX14_digest_181 (lv_at hl 0 rfl) ?_
        refine lv_i2l hx hb dX14_digest_183 rfl ?_
        refine lv_ladd hx hb dX14_digest_184 ?_
        refine lv_lstore_n (lv' := [(2, .long (((z_mxs (z_ga (nI pn) (r 121 0) (r 122 0) (r 42 0) (r 42 1) (r 42 2) (r 42 3) (r 42 4) (r 42 5) (r 42 7) (r 42 8) (r 42 9) (r 42 10) (r 42 11)) 1913 j) * 31) + (((z_ga (nI pn) (r 121 0) (r 122 0) (r 42 0) (r 42 1) (r 42 2) (r 42 3) (r 42 4) (r 42 5) (r 42 7) (r 42 8) (r 42 9) (r 42 10) (r 42 11)) j).toInt64))), (7, .int ((z_ga (nI pn) (r 121 0) (r 122 0) (r 42 0) (r 42 1) (r 42 2) (r 42 3) (r 42 4) (r 42 5) (r 42 7) (r 42 8) (r 42 9) (r 42 10) (r 42 11)) j)), (0, .ref M), (4, .ref n), (5, .int 14), (6, .int (nI j))]) hx hb dX14_digest_185 rfl hl (by decide) rfl (fun ls hl => ?_)
        refine lv_iinc (v := nI (j + 1)) (lv' := [(6, .int (nI (j + 1))), (2, .long (((z_mxs (z_ga (nI pn) (r 121 0) (r 122 0) (r 42 0) (r 42 1) (r 42 2) (r 42 3) (r 42 4) (r 42 5) (r 42 7) (r 42 8) (r 42 9) (r 42 10) (r 42 11)) 1913 j) * 31) + (((z_ga (nI pn) (r 121 0) (r 122 0) (r 42 0) (r 42 1) (r 42 2) (r 42 3) (r 42 4) (r 42 5) (r 42 7) (r 42 8) (r 42 9) (r 42 10) (r 42 11)) j).toInt64))), (7, .int ((z_ga (nI pn) (r 121 0) (r 122 0) (r 42 0) (r 42 1) (r 42 2) (r 42 3) (r 42 4) (r 42 5) (r 42 7) (r 42 8) (r 42 9) (r 42 10) (r 42 11)) j)), (0, .ref M), (4, .ref n), (5, .int 14)]) hx hb dX14_digest_186 hl (k := 5) rfl (nI_1 j) (by decide) rfl (fun ls hl => ?_)
        refine lv_goto (tgt := 162) hx hb dX14_digest_189 (by decide) ?_
        exact ih (j + 1) hlt (by omega) _ _ _ hW hS (lv_sub hl [3, 4, 5, 1, 0] rfl)
  exact K162 _ 0 (Nat.zero_le _) (Nat.lt_succ_self _) _ _ _ hW hS (lv_sub hl [5, 2, 1, 3, 0] rfl)
