/-! the law's kitchen: time, warnings, climbing -/
theorem z_warn_4 {v : q_V} {T kd : Nat} : z_warn v T kd 4 = nI T + 1 := by
  unfold z_warn
  rw [z_un (by omega), z_us]
theorem z_warn_5 {v : q_V} {T kd : Nat} : z_warn v T kd 5 = v 5 := by
  unfold z_warn
  rw [z_un (by omega), z_un (by omega), z_un (by omega)]
theorem z_warn_k {v : q_V} {T kd j : Nat} (hk : kd < 6) (hj : j < 6) : z_warn v T kd (6 + j) = if j = kd then v (6 + j) + 1 else v (6 + j) := by
  unfold z_warn
  by_cases e : j = kd
  · subst e
    rw [z_us, if_pos rfl]
  · rw [if_neg e, z_un (by omega), z_un (by omega), z_un (by omega)]
/-- what its numbers are -/
def w_ok (pn : Nat) (hd v : q_V) : Prop := (∃ al, al ≤ 60 ∧ v 0 = nI al) ∧ (∃ se, 1 ≤ se ∧ se ≤ 12 ∧ v 1 = nI se) ∧ (∃ sp, 1 ≤ sp ∧ sp ≤ 10 ∧ v 2 = nI sp) ∧ (v 4 = nI (k_T v) ∧ v 5 = nI (k_N v)) ∧
  ∀ i, i < pn → ∃ h a m t d, hd i = nI h ∧ v (52 + 4 * i) = nI a ∧ v (53 + 4 * i) = nI m ∧ v (54 + 4 * i) = nI t ∧ v (55 + 4 * i) = nI d ∧ h ≤ 200 ∧ a + m ≤ h ∧ 20 ≤ t ∧ t ≤ 100 ∧ d ≤ 100 ∧ (m = 0 → d = 0)
theorem w_ok.v {pn : Nat} {hd v : q_V} (h : w_ok pn hd v) : v_ok pn hd v := by
  obtain ⟨h0, -, h2, -, hp⟩ := h
  refine ⟨h0, h2, fun i hi => ?_⟩
  obtain ⟨h, a, m, t, d, e1, e2, e3, e4, e5, b1, b2, -⟩ := hp i hi
  exact ⟨a, m, h, e2, e3, e1, b2, b1⟩
theorem gb_lo {t c : Nat} (ht : t = 20) (hc : c ≤ 4000) : nI t = q_max 20 (nI t - nI c / 2) := by
  subst ht
  rw [show nI c / 2 = nI (c / 2) from pk_div (d := 2) (by omega) (by decide) (by decide)]
  refine (if_neg ?_).symm
  rw [Int32.lt_iff_toInt_lt, pk_sub_toInt (by decide) (by omega)]
  show ¬ (20 : Int) < _
  omega
theorem gb_ge {x : Int32} (h : x < 20) : (20 : Int32) = q_max 20 x := (if_neg (Int32.not_lt.mpr (Int32.le_of_lt h))).symm
theorem gb_in {x : Int32} (h : ¬ x < 20) : x = q_max 20 x := by
  unfold q_max
  split
  · rfl
  · next h1 => exact Int32.le_antisymm (Int32.not_lt.mp h1) (Int32.not_lt.mp h)

theorem neg1_ne {j : Nat} (h : j < 100) (e : nI j = -1) : False := by
  have h1 : ¬ nI j < 0 := nI_pos (by omega)
  rw [e] at h1
  exact h1 (by decide)

set_option maxHeartbeats 4000000 in
set_option maxRecDepth 100000 in
theorem kX15_goBy (l : Launch) (E : q_E) (f : q_H) (n : Nat) (k pa re ki wa no pn : Nat) (pr : Nat → Nat) (hd v : q_V) (b : Nat) (w : Int32) (c : Nat) (but : Nat)  (hK : LK E f k pa re ki wa no pn pr hd v b w) (hs : LSp ki wa no pn pr) (hpn : pn ≤ 8) (hc : c ≤ 4000) (hbt : but < 8) (hht : ∀ i, i < pn → ∃ t, v (54 + 4 * i) = nI t ∧ 20 ≤ t ∧ t ≤ 100) : Met l yX15_goBy wsX15_goBy ({ frames := 0, cells := 0, slots := 0, locals := 0 }) (q_P E [.ref k, .int (nI c), .int (nI but)] f n) (q_Qv E (fun f1 n1 => LK E f1 k pa re ki wa no pn pr hd (z_pass v (nI c) but pn) b w ∧ n1 = n ∧ ∀ z9, z9 ≠ k → (∀ i, i < pn → z9 ≠ pr i) → z9 < n → f1 z9 = f z9)) 0 0 (q_ge E) := by
  refine Met.ofW (cc := cX15_goBy) (maxL := 4) (ret := none) (by decide) rfl ?_
  intro p0_ e0_ s0_ m0_ args0_ below0_ meth0_ c0_ s1_ B hml hv
  obtain ⟨rfl, hA, hW⟩ := hv
  have hx := B.exec
  have hb := B.bytes
  have hr := B.returns
  have hts := atoms_spec (ws := wsX15_goBy) B.pre
  have hown : s0_.vm.findClass RX15 = some m0_.cls := findClass_of_methodNamed B.named
  have hlocks := B.notSynchronized
  have hS : va_S (q_ge E) s0_.heap s0_.heap [] := va_S.rf
  have iX15 : ∀ w ∈ wsX150, w ∈ wsX15_goBy := by decide +kernel
  have hl := lv_entry ([.ref k, .int (nI c), .int (nI but)]) (n := 4) (Nat.le_of_ble_eq_true rfl)
  rw [lg_entry_eq]
  generalize (lg_sl ([.ref k, .int (nI c), .int (nI but)]) ++ List.replicate (4 - (lg_sl ([.ref k, .int (nI c), .int (nI but)])).length) Slot.unset).toArray = ls at hl ⊢
  have hl : lv_has ls 4 [(0, .ref k), (1, .int (nI c)), (2, .int (nI but))] := hl
  obtain ⟨hk0, ⟨gk, hki, hkv⟩, ⟨gw, hwa, hwv⟩, ⟨gn, hno, hnv⟩, ⟨gp, hpa, hpv⟩, hrow⟩ := id hK
  have l_k := hW.lt hk0
  have l_ki := hW.lt hki
  have l_wa := hW.lt hwa
  have l_no := hW.lt hno
  have l_pa := hW.lt hpa
  refine lv_aload_n hx hb dX15_goBy_0 rfl (lv_at hl 0 rfl) ?_
  refine lv_dup hx hb dX15_goBy_1 rfl ?_
  refine q_get hx hb hts hown hA hW iX15 hk0 rfl 3 (by decide) (hts (.fieldLink RX15 41 "HighRecipesLaw$Kitchen" "minute" "I") (by decide +kernel)) (fun _ h9 => h9) (v := .int (v 3)) rfl dX15_goBy_2 ?_
  refine lv_iload_n hx hb dX15_goBy_5 rfl (lv_at hl 1 rfl) ?_
  refine lv_iadd hx hb dX15_goBy_6 ?_
  refine q_put hx hb hts hown hA hW hS iX15 tyX15 tyX15_ok nmX15 hk0 rfl 3 (by decide) (hts (.fieldLink RX15 41 "HighRecipesLaw$Kitchen" "minute" "I") (by decide +kernel)) (fun _ h9 => h9) rfl rfl rfl (Nat.le_of_ble_eq_true rfl) dX15_goBy_7 (fun H locs hW hS => ?_)
  have hW : q_W E (va_up f k (some (cLK (v 0) (v 1) (v 2) ((v 3) + (nI c)) (some pa) (some re) (some ki) (some wa) (some no) (v 5) (nI b) w))) n H := hW
  refine lv_iconst (v := 0) hx hb dX15_goBy_10 (by decide) ?_
  refine lv_istore_n (lv' := [(3, .int 0), (0, .ref k), (1, .int (nI c)), (2, .int (nI but))]) hx hb dX15_goBy_11 rfl hl (by decide) rfl (fun ls hl => ?_)
  have K12 : ∀ (fu : Nat) (F : q_H) (j : Nat) (hj : j ≤ pn) (hKF : LK E F k pa re ki wa no pn pr hd (z_pass v (nI c) but j) b w) (hfr_F : ∀ z9, z9 ≠ k → (∀ i, i < pn → z9 ≠ pr i) → z9 < n → F z9 = f z9) (hm : pn - j < fu) (H : Heap) (locs : List Loc) (ls : Array Slot), q_W E (F) n H → va_S (q_ge E) s0_.heap H locs → lv_has ls 4 [(0, .ref k), (1, .int (nI c)), (2, .int (nI but)), (3, .int (nI j))] → W p0_ l e0_ (headSpec wsX15_goBy ({ frames := 0, cells := 0, slots := 0, locals := 0 })).room s0_ m0_ ([.ref k, .int (nI c), .int (nI but)] : List Value).toArray below0_ meth0_ c0_ H locs 0 0 (MQ below0_ (q_Qv E (fun f1 n1 => LK E f1 k pa re ki wa no pn pr hd (z_pass v (nI c) but pn) b w ∧ n1 = n ∧ ∀ z9, z9 ≠ k → (∀ i, i < pn → z9 ≠ pr i) → z9 < n → f1 z9 = f z9)) ([.ref k, .int (nI c), .int (nI but)] : List Value).toArray s0_ 0 0 (q_ge E)) (F0 m0_ 12 ls []) := by
    intro fu
    induction fu with
    | zero =>
      intro F j hj hKF hfr_F hm
      exact absurd hm (Nat.not_lt_zero _)
    | succ fu ih =>
      intro F j hj hKF hfr_F hm H locs ls hW hS hl
      obtain ⟨hF0, -, -, -, ⟨gp2, hFp, hp2⟩, hFrow⟩ := id hKF
      refine lv_iload_n hx hb dX15_goBy_12 rfl (lv_at hl 3 rfl) ?_
      refine lv_aload_n hx hb dX15_goBy_13 rfl (lv_at hl 0 rfl) ?_
      refine q_get hx hb hts hown hA hW iX15 hF0 rfl 4 (by decide) (hts (.fieldLink RX15 18 "HighRecipesLaw$Kitchen" "pans" "[[I") (by decide +kernel)) (fun _ h9 => h9) (v := .ref pa) rfl dX15_goBy_14 ?_
      refine q_alen hx hb hA hW 8 rfl hFp (v := nI pn) rfl dX15_goBy_17 ?_
      refine lv_icmp_ge (tgt := 87) hx hb dX15_goBy_18 (by decide) (fun c_18 => ?_) (fun c_18 => ?_)
      · have hjp : j = pn := Nat.le_antisymm hj (q_leN (by omega) c_18)
        exact q_vret hx hb hr hlocks hW hS ⟨(by have h9 := hKF; rw [hjp] at h9; exact h9), rfl, (fun z9 g0 g1 g2 => hfr_F z9 g0 g1 g2)⟩ (Nat.le_of_ble_eq_true rfl) (Nat.le_of_ble_eq_true rfl) dX15_goBy_87
      · have hjn : j < pn := q_gtn (by omega) c_18
        refine lv_iload_n hx hb dX15_goBy_21 rfl (lv_at hl 3 rfl) ?_
        refine lv_iload_n hx hb dX15_goBy_22 rfl (lv_at hl 2 rfl) ?_
        refine lv_icmp_eq (tgt := 81) hx hb dX15_goBy_23 (by decide) (fun c_23 => ?_) (fun c_23 => ?_)
        · have hbj : j = but := (nI_eq (by omega) (by omega)).mp c_23
          refine lv_iinc (v := nI (j + 1)) (lv' := [(3, .int (nI (j + 1))), (0, .ref k), (1, .int (nI c)), (2, .int (nI but))]) hx hb dX15_goBy_81 hl (k := 3) rfl (nI_1 j) (by decide) rfl (fun ls hl => ?_)
          refine lv_goto (tgt := 12) hx hb dX15_goBy_84 (by decide) ?_
          exact ih F (j + 1) (by omega) (by rw [← z_pass_b hbj]; exact hKF) (fun z9 g0 g1 g2 => (hfr_F z9 g0 g1 g2)) (by omega) _ _ _ hW hS (lv_sub hl [1, 2, 3, 0] rfl)
        · have hbj : j ≠ but := fun e => c_23 (by rw [e])
          obtain ⟨gr, hFr, hg0, hg1, hg2, hg3, hg4⟩ := hFrow j hjn
          obtain ⟨t, ht, ht1, ht2⟩ := hht j hjn
          have ev : (z_pass v (nI c) but j) (54 + 4 * j) = v (54 + 4 * j) := by unfold z_pass; rw [if_neg (by omega), if_neg (by omega)]
          refine lv_aload_n hx hb dX15_goBy_26 rfl (lv_at hl 0 rfl) ?_
          refine q_get hx hb hts hown hA hW iX15 hF0 rfl 4 (by decide) (hts (.fieldLink RX15 18 "HighRecipesLaw$Kitchen" "pans" "[[I") (by decide +kernel)) (fun _ h9 => h9) (v := .ref pa) rfl dX15_goBy_27 ?_
          refine lv_iload_n hx hb dX15_goBy_30 rfl (lv_at hl 3 rfl) ?_
          refine q_aaldA hx hb hA hW 8 rfl hFp (vp_in_nI hjn (by omega)) dX15_goBy_31 ?_
          rw [show gp2 (nI j).toNatClampNeg = some (pr j) from by rw [nI_clamp (by omega)]; exact hp2 j hjn]
          refine lv_iconst (v := 3) hx hb dX15_goBy_32 (by decide) ?_
          refine q_iald hx hb hA hW hFr (vp_in_nI (by decide) (by decide)) dX15_goBy_33 ?_
          rw [show gr (3 : Int32).toNatClampNeg = nI t from hg3.trans (ev.trans ht)]
          refine lv_bipush (v := 20) hx hb dX15_goBy_34 (by decide) ?_
          refine lv_icmp_le (tgt := 81) hx hb dX15_goBy_36 (by decide) (fun c_36 => ?_) (fun c_36 => ?_)
          · have h20 : t = 20 := by have h8 := q_leN (a := t) (b := 20) (by omega) c_36 (by decide); omega
            refine lv_iinc (v := nI (j + 1)) (lv' := [(3, .int (nI (j + 1))), (0, .ref k), (1, .int (nI c)), (2, .int (nI but))]) hx hb dX15_goBy_81 hl (k := 3) rfl (nI_1 j) (by decide) rfl (fun ls hl => ?_)
            refine lv_goto (tgt := 12) hx hb dX15_goBy_84 (by decide) ?_
            exact ih F (j + 1) (by omega) (by rw [← z_pass_s hbj, show (z_pass v (nI c) but j) (54 + 4 * j) = nI t from ev.trans ht, ← gb_lo h20 hc, ← (ev.trans ht), z_pan_id]; exact hKF) (fun z9 g0 g1 g2 => (hfr_F z9 g0 g1 g2)) (by omega) _ _ _ hW hS (lv_sub hl [1, 2, 3, 0] rfl)
          · have h20 : 20 < t := q_gtn (a := t) (b := 20) (by omega) c_36 (by decide)
            refine lv_aload_n hx hb dX15_goBy_39 rfl (lv_at hl 0 rfl) ?_
            refine q_get hx hb hts hown hA hW iX15 hF0 rfl 4 (by decide) (hts (.fieldLink RX15 18 "HighRecipesLaw$Kitchen" "pans" "[[I") (by decide +kernel)) (fun _ h9 => h9) (v := .ref pa) rfl dX15_goBy_40 ?_
            refine lv_iload_n hx hb dX15_goBy_43 rfl (lv_at hl 3 rfl) ?_
            refine q_aaldA hx hb hA hW 8 rfl hFp (vp_in_nI hjn (by omega)) dX15_goBy_44 ?_
            rw [show gp2 (nI j).toNatClampNeg = some (pr j) from by rw [nI_clamp (by omega)]; exact hp2 j hjn]
            refine lv_iconst (v := 3) hx hb dX15_goBy_45 (by decide) ?_
            refine lv_aload_n hx hb dX15_goBy_46 rfl (lv_at hl 0 rfl) ?_
            refine q_get hx hb hts hown hA hW iX15 hF0 rfl 4 (by decide) (hts (.fieldLink RX15 18 "HighRecipesLaw$Kitchen" "pans" "[[I") (by decide +kernel)) (fun _ h9 => h9) (v := .ref pa) rfl dX15_goBy_47 ?_
            refine lv_iload_n hx hb dX15_goBy_50 rfl (lv_at hl 3 rfl) ?_
            refine q_aaldA hx hb hA hW 8 rfl hFp (vp_in_nI hjn (by omega)) dX15_goBy_51 ?_
            rw [show gp2 (nI j).toNatClampNeg = some (pr j) from by rw [nI_clamp (by omega)]; exact hp2 j hjn]
            refine lv_iconst (v := 3) hx hb dX15_goBy_52 (by decide) ?_
            refine q_iald hx hb hA hW hFr (vp_in_nI (by decide) (by decide)) dX15_goBy_53 ?_
            rw [show gr (3 : Int32).toNatClampNeg = nI t from hg3.trans (ev.trans ht)]
            refine lv_iload_n hx hb dX15_goBy_54 rfl (lv_at hl 1 rfl) ?_
            refine lv_iconst (v := 2) hx hb dX15_goBy_55 (by decide) ?_
            refine lv_idiv hx hb dX15_goBy_56 (by decide) ?_
            refine lv_isub hx hb dX15_goBy_57 ?_
            refine lv_bipush (v := 20) hx hb dX15_goBy_58 (by decide) ?_
            refine lv_icmp_ge (tgt := 68) hx hb dX15_goBy_60 (by decide) (fun c_60 => ?_) (fun c_60 => ?_)
            · refine lv_aload_n hx hb dX15_goBy_68 rfl (lv_at hl 0 rfl) ?_
              refine q_get hx hb hts hown hA hW iX15 hF0 rfl 4 (by decide) (hts (.fieldLink RX15 18 "HighRecipesLaw$Kitchen" "pans" "[[I") (by decide +kernel)) (fun _ h9 => h9) (v := .ref pa) rfl dX15_goBy_69 ?_
              refine lv_iload_n hx hb dX15_goBy_72 rfl (lv_at hl 3 rfl) ?_
              refine q_aaldA hx hb hA hW 8 rfl hFp (vp_in_nI hjn (by omega)) dX15_goBy_73 ?_
              rw [show gp2 (nI j).toNatClampNeg = some (pr j) from by rw [nI_clamp (by omega)]; exact hp2 j hjn]
              refine lv_iconst (v := 3) hx hb dX15_goBy_74 (by decide) ?_
              refine q_iald hx hb hA hW hFr (vp_in_nI (by decide) (by decide)) dX15_goBy_75 ?_
              rw [show gr (3 : Int32).toNatClampNeg = nI t from hg3.trans (ev.trans ht)]
              refine lv_iload_n hx hb dX15_goBy_76 rfl (lv_at hl 1 rfl) ?_
              refine lv_iconst (v := 2) hx hb dX15_goBy_77 (by decide) ?_
              refine lv_idiv hx hb dX15_goBy_78 (by decide) ?_
              refine lv_isub hx hb dX15_goBy_79 ?_
              refine q_iast hx hb hA hW hS hFr (vp_in_nI (by decide) (by decide)) dX15_goBy_80 (fun H locs hW hS => ?_)
              rw [show (3 : Int32).toNatClampNeg = 3 from (by decide)] at hW
              have hW : q_W E (va_up F (pr j) (some (aI E 5 (upd gr 3 ((nI t) - ((nI c) / 2)))))) n H := hW
              refine lv_iinc (v := nI (j + 1)) (lv' := [(3, .int (nI (j + 1))), (0, .ref k), (1, .int (nI c)), (2, .int (nI but))]) hx hb dX15_goBy_81 hl (k := 3) rfl (nI_1 j) (by decide) rfl (fun ls hl => ?_)
              refine lv_goto (tgt := 12) hx hb dX15_goBy_84 (by decide) ?_
              exact ih (va_up F (pr j) (some (aI E 5 (upd gr 3 ((nI t) - ((nI c) / 2)))))) (j + 1) (by omega) (by rw [← z_pass_s hbj, show (z_pass v (nI c) but j) (54 + 4 * j) = nI t from ev.trans ht, ← gb_in (Int32.not_lt.mpr c_60)]; exact LK.pan hKF hs hjn ((if_neg (by decide)).trans hg0) ((if_neg (by decide)).trans hg1) ((if_neg (by decide)).trans hg2) (if_pos rfl) ((if_neg (by decide)).trans hg4)) (fun z9 g0 g1 g2 => (q_ne (g1 j hjn) (hfr_F z9 g0 g1 g2))) (by omega) _ _ _ hW hS (lv_sub hl [1, 2, 3, 0] rfl)
            · refine lv_bipush (v := 20) hx hb dX15_goBy_63 (by decide) ?_
              refine lv_goto (tgt := 80) hx hb dX15_goBy_65 (by decide) ?_
              refine q_iast hx hb hA hW hS hFr (vp_in_nI (by decide) (by decide)) dX15_goBy_80 (fun H locs hW hS => ?_)
              rw [show (3 : Int32).toNatClampNeg = 3 from (by decide)] at hW
              have hW : q_W E (va_up F (pr j) (some (aI E 5 (upd gr 3 20)))) n H := hW
              refine lv_iinc (v := nI (j + 1)) (lv' := [(3, .int (nI (j + 1))), (0, .ref k), (1, .int (nI c)), (2, .int (nI but))]) hx hb dX15_goBy_81 hl (k := 3) rfl (nI_1 j) (by decide) rfl (fun ls hl => ?_)
              refine lv_goto (tgt := 12) hx hb dX15_goBy_84 (by decide) ?_
              exact ih (va_up F (pr j) (some (aI E 5 (upd gr 3 20)))) (j + 1) (by omega) (by rw [← z_pass_s hbj, show (z_pass v (nI c) but j) (54 + 4 * j) = nI t from ev.trans ht, ← gb_ge (Int32.not_le.mp c_60)]; exact LK.pan hKF hs hjn ((if_neg (by decide)).trans hg0) ((if_neg (by decide)).trans hg1) ((if_neg (by decide)).trans hg2) (if_pos rfl) ((if_neg (by decide)).trans hg4)) (fun z9 g0 g1 g2 => (q_ne (g1 j hjn) (hfr_F z9 g0 g1 g2))) (by omega) _ _ _ hW hS (lv_sub hl [1, 2, 3, 0] rfl)
  exact K12 _ (va_up f k (some (cLK (v 0) (v 1) (v 2) ((v 3) + (nI c)) (some pa) (some re) (some ki) (some wa) (some no) (v 5) (nI b) w))) 0 (Nat.zero_le _) (by have h9 := LK.head (b' := b) (w' := w) hK (v' := z_pass v (nI c) but 0) (z_pass_lo (by decide) (by decide)) (fun q hq => by rw [← z_pass_0]; exact z_un (by omega)); have e3 : z_pass v (nI c) but 0 3 = v 3 + nI c := if_pos rfl; rw [show z_pass v (nI c) but 0 0 = v 0 from z_pass_lo (by decide) (by decide), show z_pass v (nI c) but 0 1 = v 1 from z_pass_lo (by decide) (by decide), show z_pass v (nI c) but 0 2 = v 2 from z_pass_lo (by decide) (by decide), e3, show z_pass v (nI c) but 0 5 = v 5 from z_pass_lo (by decide) (by decide)] at h9; exact h9) (fun z9 g0 g1 g2 => q_ne g0 rfl) (Nat.lt_succ_self _) _ _ _ hW hS (lv_sub hl [1, 2, 3, 0] rfl)

set_option maxHeartbeats 4000000 in
set_option maxRecDepth 100000 in
theorem kX15_goByN (l : Launch) (E : q_E) (f : q_H) (n : Nat) (k pa re ki wa no pn : Nat) (pr : Nat → Nat) (hd v : q_V) (b : Nat) (w : Int32) (c : Nat)  (hK : LK E f k pa re ki wa no pn pr hd v b w) (hs : LSp ki wa no pn pr) (hpn : pn ≤ 8) (hc : c ≤ 4000) (hht : ∀ i, i < pn → ∃ t, v (54 + 4 * i) = nI t ∧ 20 ≤ t ∧ t ≤ 100) : Met l yX15_goBy wsX15_goBy ({ frames := 0, cells := 0, slots := 0, locals := 0 }) (q_P E [.ref k, .int (nI c), .int (-1)] f n) (q_Qv E (fun f1 n1 => LK E f1 k pa re ki wa no pn pr hd (z_pass v (nI c) 8 pn) b w ∧ n1 = n ∧ ∀ z9, z9 ≠ k → (∀ i, i < pn → z9 ≠ pr i) → z9 < n → f1 z9 = f z9)) 0 0 (q_ge E) := by
  refine Met.ofW (cc := cX15_goBy) (maxL := 4) (ret := none) (by decide) rfl ?_
  intro p0_ e0_ s0_ m0_ args0_ below0_ meth0_ c0_ s1_ B hml hv
  obtain ⟨rfl, hA, hW⟩ := hv
  have hx := B.exec
  have hb := B.bytes
  have hr := B.returns
  have hts := atoms_spec (ws := wsX15_goBy) B.pre
  have hown : s0_.vm.findClass RX15 = some m0_.cls := findClass_of_methodNamed B.named
  have hlocks := B.notSynchronized
  have hS : va_S (q_ge E) s0_.heap s0_.heap [] := va_S.rf
  have iX15 : ∀ w ∈ wsX150, w ∈ wsX15_goBy := by decide +kernel
  have hl := lv_entry ([.ref k, .int (nI c), .int (-1)]) (n := 4) (Nat.le_of_ble_eq_true rfl)
  rw [lg_entry_eq]
  generalize (lg_sl ([.ref k, .int (nI c), .int (-1)]) ++ List.replicate (4 - (lg_sl ([.ref k, .int (nI c), .int (-1)])).length) Slot.unset).toArray = ls at hl ⊢
  have hl : lv_has ls 4 [(0, .ref k), (1, .int (nI c)), (2, .int (-1))] := hl
  obtain ⟨hk0, ⟨gk, hki, hkv⟩, ⟨gw, hwa, hwv⟩, ⟨gn, hno, hnv⟩, ⟨gp, hpa, hpv⟩, hrow⟩ := id hK
  have l_k := hW.lt hk0
  have l_ki := hW.lt hki
  have l_wa := hW.lt hwa
  have l_no := hW.lt hno
  have l_pa := hW.lt hpa
  refine lv_aload_n hx hb dX15_goBy_0 rfl (lv_at hl 0 rfl) ?_
  refine lv_dup hx hb dX15_goBy_1 rfl ?_
  refine q_get hx hb hts hown hA hW iX15 hk0 rfl 3 (by decide) (hts (.fieldLink RX15 41 "HighRecipesLaw$Kitchen" "minute" "I") (by decide +kernel)) (fun _ h9 => h9) (v := .int (v 3)) rfl dX15_goBy_2 ?_
  refine lv_iload_n hx hb dX15_goBy_5 rfl (lv_at hl 1 rfl) ?_
  refine lv_iadd hx hb dX15_goBy_6 ?_
  refine q_put hx hb hts hown hA hW hS iX15 tyX15 tyX15_ok nmX15 hk0 rfl 3 (by decide) (hts (.fieldLink RX15 41 "HighRecipesLaw$Kitchen" "minute" "I") (by decide +kernel)) (fun _ h9 => h9) rfl rfl rfl (Nat.le_of_ble_eq_true rfl) dX15_goBy_7 (fun H locs hW hS => ?_)
  have hW : q_W E (va_up f k (some (cLK (v 0) (v 1) (v 2) ((v 3) + (nI c)) (some pa) (some re) (some ki) (some wa) (some no) (v 5) (nI b) w))) n H := hW
  refine lv_iconst (v := 0) hx hb dX15_goBy_10 (by decide) ?_
  refine lv_istore_n (lv' := [(3, .int 0), (0, .ref k), (1, .int (nI c)), (2, .int (-1))]) hx hb dX15_goBy_11 rfl hl (by decide) rfl (fun ls hl => ?_)
  have K12 : ∀ (fu : Nat) (F : q_H) (j : Nat) (hj : j ≤ pn) (hKF : LK E F k pa re ki wa no pn pr hd (z_pass v (nI c) 8 j) b w) (hfr_F : ∀ z9, z9 ≠ k → (∀ i, i < pn → z9 ≠ pr i) → z9 < n → F z9 = f z9) (hm : pn - j < fu) (H : Heap) (locs : List Loc) (ls : Array Slot), q_W E (F) n H → va_S (q_ge E) s0_.heap H locs → lv_has ls 4 [(0, .ref k), (1, .int (nI c)), (2, .int (-1)), (3, .int (nI j))] → W p0_ l e0_ (headSpec wsX15_goBy ({ frames := 0, cells := 0, slots := 0, locals := 0 })).room s0_ m0_ ([.ref k, .int (nI c), .int (-1)] : List Value).toArray below0_ meth0_ c0_ H locs 0 0 (MQ below0_ (q_Qv E (fun f1 n1 => LK E f1 k pa re ki wa no pn pr hd (z_pass v (nI c) 8 pn) b w ∧ n1 = n ∧ ∀ z9, z9 ≠ k → (∀ i, i < pn → z9 ≠ pr i) → z9 < n → f1 z9 = f z9)) ([.ref k, .int (nI c), .int (-1)] : List Value).toArray s0_ 0 0 (q_ge E)) (F0 m0_ 12 ls []) := by
    intro fu
    induction fu with
    | zero =>
      intro F j hj hKF hfr_F hm
      exact absurd hm (Nat.not_lt_zero _)
    | succ fu ih =>
      intro F j hj hKF hfr_F hm H locs ls hW hS hl
      obtain ⟨hF0, -, -, -, ⟨gp2, hFp, hp2⟩, hFrow⟩ := id hKF
      refine lv_iload_n hx hb dX15_goBy_12 rfl (lv_at hl 3 rfl) ?_
      refine lv_aload_n hx hb dX15_goBy_13 rfl (lv_at hl 0 rfl) ?_
      refine q_get hx hb hts hown hA hW iX15 hF0 rfl 4 (by decide) (hts (.fieldLink RX15 18 "HighRecipesLaw$Kitchen" "pans" "[[I") (by decide +kernel)) (fun _ h9 => h9) (v := .ref pa) rfl dX15_goBy_14 ?_
      refine q_alen hx hb hA hW 8 rfl hFp (v := nI pn) rfl dX15_goBy_17 ?_
      refine lv_icmp_ge (tgt := 87) hx hb dX15_goBy_18 (by decide) (fun c_18 => ?_) (fun c_18 => ?_)
      · have hjp : j = pn := Nat.le_antisymm hj (q_leN (by omega) c_18)
        exact q_vret hx hb hr hlocks hW hS ⟨(by have h9 := hKF; rw [hjp] at h9; exact h9), rfl, (fun z9 g0 g1 g2 => hfr_F z9 g0 g1 g2)⟩ (Nat.le_of_ble_eq_true rfl) (Nat.le_of_ble_eq_true rfl) dX15_goBy_87
      · have hjn : j < pn := q_gtn (by omega) c_18
        refine lv_iload_n hx hb dX15_goBy_21 rfl (lv_at hl 3 rfl) ?_
        refine lv_iload_n hx hb dX15_goBy_22 rfl (lv_at hl 2 rfl) ?_
        refine lv_icmp_eq (tgt := 81) hx hb dX15_goBy_23 (by decide) (fun c_23 => False.elim ((fun h9 => neg1_ne (by omega) h9) c_23)) (fun c_23 => ?_)
        have hbj : j ≠ 8 := by omega
        obtain ⟨gr, hFr, hg0, hg1, hg2, hg3, hg4⟩ := hFrow j hjn
        obtain ⟨t, ht, ht1, ht2⟩ := hht j hjn
        have ev : (z_pass v (nI c) 8 j) (54 + 4 * j) = v (54 + 4 * j) := by unfold z_pass; rw [if_neg (by omega), if_neg (by omega)]
        refine lv_aload_n hx hb dX15_goBy_26 rfl (lv_at hl 0 rfl) ?_
        refine q_get hx hb hts hown hA hW iX15 hF0 rfl 4 (by decide) (hts (.fieldLink RX15 18 "HighRecipesLaw$Kitchen" "pans" "[[I") (by decide +kernel)) (fun _ h9 => h9) (v := .ref pa) rfl dX15_goBy_27 ?_
        refine lv_iload_n hx hb dX15_goBy_30 rfl (lv_at hl 3 rfl) ?_
        refine q_aaldA hx hb hA hW 8 rfl hFp (vp_in_nI hjn (by omega)) dX15_goBy_31 ?_
        rw [show gp2 (nI j).toNatClampNeg = some (pr j) from by rw [nI_clamp (by omega)]; exact hp2 j hjn]
        refine lv_iconst (v := 3) hx hb dX15_goBy_32 (by decide) ?_
        refine q_iald hx hb hA hW hFr (vp_in_nI (by decide) (by decide)) dX15_goBy_33 ?_
        rw [show gr (3 : Int32).toNatClampNeg = nI t from hg3.trans (ev.trans ht)]
        refine lv_bipush (v := 20) hx hb dX15_goBy_34 (by decide) ?_
        refine lv_icmp_le (tgt := 81) hx hb dX15_goBy_36 (by decide) (fun c_36 => ?_) (fun c_36 => ?_)
        · have h20 : t = 20 := by have h8 := q_leN (a := t) (b := 20) (by omega) c_36 (by decide); omega
          refine lv_iinc (v := nI (j + 1)) (lv' := [(3, .int (nI (j + 1))), (0, .ref k), (1, .int (nI c)), (2, .int (-1))]) hx hb dX15_goBy_81 hl (k := 3) rfl (nI_1 j) (by decide) rfl (fun ls hl => ?_)
          refine lv_goto (tgt := 12) hx hb dX15_goBy_84 (by decide) ?_
          exact ih F (j + 1) (by omega) (by rw [← z_pass_s hbj, show (z_pass v (nI c) 8 j) (54 + 4 * j) = nI t from ev.trans ht, ← gb_lo h20 hc, ← (ev.trans ht), z_pan_id]; exact hKF) (fun z9 g0 g1 g2 => (hfr_F z9 g0 g1 g2)) (by omega) _ _ _ hW hS (lv_sub hl [1, 2, 3, 0] rfl)
        · have h20 : 20 < t := q_gtn (a := t) (b := 20) (by omega) c_36 (by decide)
          refine lv_aload_n hx hb dX15_goBy_39 rfl (lv_at hl 0 rfl) ?_
          refine q_get hx hb hts hown hA hW iX15 hF0 rfl 4 (by decide) (hts (.fieldLink RX15 18 "HighRecipesLaw$Kitchen" "pans" "[[I") (by decide +kernel)) (fun _ h9 => h9) (v := .ref pa) rfl dX15_goBy_40 ?_
          refine lv_iload_n hx hb dX15_goBy_43 rfl (lv_at hl 3 rfl) ?_
          refine q_aaldA hx hb hA hW 8 rfl hFp (vp_in_nI hjn (by omega)) dX15_goBy_44 ?_
          rw [show gp2 (nI j).toNatClampNeg = some (pr j) from by rw [nI_clamp (by omega)]; exact hp2 j hjn]
          refine lv_iconst (v := 3) hx hb dX15_goBy_45 (by decide) ?_
          refine lv_aload_n hx hb dX15_goBy_46 rfl (lv_at hl 0 rfl) ?_
          refine q_get hx hb hts hown hA hW iX15 hF0 rfl 4 (by decide) (hts (.fieldLink RX15 18 "HighRecipesLaw$Kitchen" "pans" "[[I") (by decide +kernel)) (fun _ h9 => h9) (v := .ref pa) rfl dX15_goBy_47 ?_
          refine lv_iload_n hx hb dX15_goBy_50 rfl (lv_at hl 3 rfl) ?_
          refine q_aaldA hx hb hA hW 8 rfl hFp (vp_in_nI hjn (by omega)) dX15_goBy_51 ?_
          rw [show gp2 (nI j).toNatClampNeg = some (pr j) from by rw [nI_clamp (by omega)]; exact hp2 j hjn]
          refine lv_iconst (v := 3) hx hb dX15_goBy_52 (by decide) ?_
          refine q_iald hx hb hA hW hFr (vp_in_nI (by decide) (by decide)) dX15_goBy_53 ?_
          rw [show gr (3 : Int32).toNatClampNeg = nI t from hg3.trans (ev.trans ht)]
          refine lv_iload_n hx hb dX15_goBy_54 rfl (lv_at hl 1 rfl) ?_
          refine lv_iconst (v := 2) hx hb dX15_goBy_55 (by decide) ?_
          refine lv_idiv hx hb dX15_goBy_56 (by decide) ?_
          refine lv_isub hx hb dX15_goBy_57 ?_
          refine lv_bipush (v := 20) hx hb dX15_goBy_58 (by decide) ?_
          refine lv_icmp_ge (tgt := 68) hx hb dX15_goBy_60 (by decide) (fun c_60 => ?_) (fun c_60 => ?_)
          · refine lv_aload_n hx hb dX15_goBy_68 rfl (lv_at hl 0 rfl) ?_
            refine q_get hx hb hts hown hA hW iX15 hF0 rfl 4 (by decide) (hts (.fieldLink RX15 18 "HighRecipesLaw$Kitchen" "pans" "[[I") (by decide +kernel)) (fun _ h9 => h9) (v := .ref pa) rfl dX15_goBy_69 ?_
            refine lv_iload_n hx hb dX15_goBy_72 rfl (lv_at hl 3 rfl) ?_
            refine q_aaldA hx hb hA hW 8 rfl hFp (vp_in_nI hjn (by omega)) dX15_goBy_73 ?_
            rw [show gp2 (nI j).toNatClampNeg = some (pr j) from by rw [nI_clamp (by omega)]; exact hp2 j hjn]
            refine lv_iconst (v := 3) hx hb dX15_goBy_74 (by decide) ?_
            refine q_iald hx hb hA hW hFr (vp_in_nI (by decide) (by decide)) dX15_goBy_75 ?_
            rw [show gr (3 : Int32).toNatClampNeg = nI t from hg3.trans (ev.trans ht)]
            refine lv_iload_n hx hb dX15_goBy_76 rfl (lv_at hl 1 rfl) ?_
            refine lv_iconst (v := 2) hx hb dX15_goBy_77 (by decide) ?_
            refine lv_idiv hx hb dX15_goBy_78 (by decide) ?_
            refine lv_isub hx hb dX15_goBy_79 ?_
            refine q_iast hx hb hA hW hS hFr (vp_in_nI (by decide) (by decide)) dX15_goBy_80 (fun H locs hW hS => ?_)
            rw [show (3 : Int32).toNatClampNeg = 3 from (by decide)] at hW
            have hW : q_W E (va_up F (pr j) (some (aI E 5 (upd gr 3 ((nI t) - ((nI c) / 2)))))) n H := hW
            refine lv_iinc (v := nI (j + 1)) (lv' := [(3, .int (nI (j + 1))), (0, .ref k), (1, .int (nI c)), (2, .int (-1))]) hx hb dX15_goBy_81 hl (k := 3) rfl (nI_1 j) (by decide) rfl (fun ls hl => ?_)
            refine lv_goto (tgt := 12) hx hb dX15_goBy_84 (by decide) ?_
            exact ih (va_up F (pr j) (some (aI E 5 (upd gr 3 ((nI t) - ((nI c) / 2)))))) (j + 1) (by omega) (by rw [← z_pass_s hbj, show (z_pass v (nI c) 8 j) (54 + 4 * j) = nI t from ev.trans ht, ← gb_in (Int32.not_lt.mpr c_60)]; exact LK.pan hKF hs hjn ((if_neg (by decide)).trans hg0) ((if_neg (by decide)).trans hg1) ((if_neg (by decide)).trans hg2) (if_pos rfl) ((if_neg (by decide)).trans hg4)) (fun z9 g0 g1 g2 => (q_ne (g1 j hjn) (hfr_F z9 g0 g1 g2))) (by omega) _ _ _ hW hS (lv_sub hl [1, 2, 3, 0] rfl)
          · refine lv_bipush (v := 20) hx hb dX15_goBy_63 (by decide) ?_
            refine lv_goto (tgt := 80) hx hb dX15_goBy_65 (by decide) ?_
            refine q_iast hx hb hA hW hS hFr (vp_in_nI (by decide) (by decide)) dX15_goBy_80 (fun H locs hW hS => ?_)
            rw [show (3 : Int32).toNatClampNeg = 3 from (by decide)] at hW
            have hW : q_W E (va_up F (pr j) (some (aI E 5 (upd gr 3 20)))) n H := hW
            refine lv_iinc (v := nI (j + 1)) (lv' := [(3, .int (nI (j + 1))), (0, .ref k), (1, .int (nI c)), (2, .int (-1))]) hx hb dX15_goBy_81 hl (k := 3) rfl (nI_1 j) (by decide) rfl (fun ls hl => ?_)
            refine lv_goto (tgt := 12) hx hb dX15_goBy_84 (by decide) ?_
            exact ih (va_up F (pr j) (some (aI E 5 (upd gr 3 20)))) (j + 1) (by omega) (by rw [← z_pass_s hbj, show (z_pass v (nI c) 8 j) (54 + 4 * j) = nI t from ev.trans ht, ← gb_ge (Int32.not_le.mp c_60)]; exact LK.pan hKF hs hjn ((if_neg (by decide)).trans hg0) ((if_neg (by decide)).trans hg1) ((if_neg (by decide)).trans hg2) (if_pos rfl) ((if_neg (by decide)).trans hg4)) (fun z9 g0 g1 g2 => (q_ne (g1 j hjn) (hfr_F z9 g0 g1 g2))) (by omega) _ _ _ hW hS (lv_sub hl [1, 2, 3, 0] rfl)
  exact K12 _ (va_up f k (some (cLK (v 0) (v 1) (v 2) ((v 3) + (nI c)) (some pa) (some re) (some ki) (some wa) (some no) (v 5) (nI b) w))) 0 (Nat.zero_le _) (by have h9 := LK.head (b' := b) (w' := w) hK (v' := z_pass v (nI c) 8 0) (z_pass_lo (by decide) (by decide)) (fun q hq => by rw [← z_pass_0]; exact z_un (by omega)); have e3 : z_pass v (nI c) 8 0 3 = v 3 + nI c := if_pos rfl; rw [show z_pass v (nI c) 8 0 0 = v 0 from z_pass_lo (by decide) (by decide), show z_pass v (nI c) 8 0 1 = v 1 from z_pass_lo (by decide) (by decide), show z_pass v (nI c) 8 0 2 = v 2 from z_pass_lo (by decide) (by decide), e3, show z_pass v (nI c) 8 0 5 = v 5 from z_pass_lo (by decide) (by decide)] at h9; exact h9) (fun z9 g0 g1 g2 => q_ne g0 rfl) (Nat.lt_succ_self _) _ _ _ hW hS (lv_sub hl [1, 2, 3, 0] rfl)

theorem wa_lo {T N : Nat} (h : T ≤ N) : min T 20 ≤ 20 := by omega
/-- the latest ones behind one more -/
theorem late_1 {v w : q_V} {T bb : Nat} {x : Int32} {gw g1 : Nat → Int32} (hg : ∀ j, j < min T 20 → gw j = v (bb + (T - 1 - j) % 20)) (h0 : g1 0 = x) (h1 : ∀ j, j + 1 < min (min T 20 + 1) 20 → g1 (j + 1) = gw j)
    (hw0 : w (bb + T % 20) = x) (hw : ∀ j, j < 20 → j ≠ T % 20 → w (bb + j) = v (bb + j)) : ∀ j, j < min (T + 1) 20 → g1 j = w (bb + (T + 1 - 1 - j) % 20) := by
  intro j hj
  match j, hj with
  | 0, _ =>
    rw [show T + 1 - 1 - 0 = T by omega, hw0]
    exact h0
  | j + 1, hj =>
    rw [h1 j (by omega), hg j (by omega), show T + 1 - 1 - (j + 1) = T - 1 - j by omega]
    exact (hw _ (Nat.mod_lt _ (by decide)) (by omega)).symm
theorem min_20 (T : Nat) : min (min T 20 + 1) 20 = min (T + 1) 20 := by omega

set_option maxHeartbeats 4000000 in
set_option maxRecDepth 100000 in
theorem kX15_warn (l : Launch) (E : q_E) (f : q_H) (n : Nat) (k pa re ki wa no pn : Nat) (pr : Nat → Nat) (hd v : q_V) (b : Nat) (w : Int32) (kd : Nat)  (hK : LK E f k pa re ki wa no pn pr hd v b w) (hs : LSp ki wa no pn pr) (hpn : pn ≤ 8) (hkd : kd < 6) (hT : v 4 = nI (k_T v)) (hT2 : k_T v < 2 ^ 30) : Met l yX15_warn wsX15_warn ({ frames := 1, cells := 1, slots := 20, locals := 23 }) (q_P E [.ref k, .int (nI kd)] f n) (q_Qv E (fun f1 n1 => ∃ (wa2 : Nat), LK E f1 k pa re ki wa2 no pn pr hd (z_warn v (k_T v) kd) b (if w < 0 then nI b else w) ∧ LSp ki wa2 no pn pr ∧ n ≤ wa2 ∧ n ≤ n1 ∧ ∀ z9, z9 ≠ k → z9 ≠ ki → z9 < n → f1 z9 = f z9)) 1 20 (q_ge E) := by
  refine Met.ofW (cc := cX15_warn) (maxL := 2) (ret := none) (by decide) rfl ?_
  intro p0_ e0_ s0_ m0_ args0_ below0_ meth0_ c0_ s1_ B hml hv
  obtain ⟨rfl, hA, hW⟩ := hv
  have hx := B.exec
  have hb := B.bytes
  have hr := B.returns
  have hts := atoms_spec (ws := wsX15_warn) B.pre
  have hown : s0_.vm.findClass RX15 = some m0_.cls := findClass_of_methodNamed B.named
  have hlocks := B.notSynchronized
  have hS : va_S (q_ge E) s0_.heap s0_.heap [] := va_S.rf
  have iX15 : ∀ w ∈ wsX150, w ∈ wsX15_warn := by decide +kernel
  have hl := lv_entry ([.ref k, .int (nI kd)]) (n := 2) (Nat.le_of_ble_eq_true rfl)
  rw [lg_entry_eq]
  generalize (lg_sl ([.ref k, .int (nI kd)]) ++ List.replicate (2 - (lg_sl ([.ref k, .int (nI kd)])).length) Slot.unset).toArray = ls at hl ⊢
  have hl : lv_has ls 2 [(0, .ref k), (1, .int (nI kd))] := hl
  obtain ⟨hk0, ⟨gk, hki, hkv⟩, ⟨gw, hwa, hwv⟩, ⟨gn, hno, hnv⟩, ⟨gp, hpa, hpv⟩, hrow⟩ := id hK
  have l_k := hW.lt hk0
  have l_ki := hW.lt hki
  have l_wa := hW.lt hwa
  have l_no := hW.lt hno
  have l_pa := hW.lt hpa
  have hkk := ne_ab hk0 hki
  have hkw := ne_ab hk0 hwa
  have hW0 := hW
  have hs1 := hs.1
  have hs2 := hs.2.1
  have hkn9 := ne_ab hk0 hno
  have hkp9 := ne_ab hk0 hpa
  have hip9 := ne_iq hki hpa
  refine lv_aload_n hx hb dX15_warn_0 rfl (lv_at hl 0 rfl) ?_
  refine q_get hx hb hts hown hA hW iX15 hk0 rfl 11 (by decide) (hts (.fieldLink RX15 59 "HighRecipesLaw$Kitchen" "first" "I") (by decide +kernel)) (fun _ h9 => h9) (v := .int w) rfl dX15_warn_1 ?_
  refine lv_if_ge (tgt := 15) hx hb dX15_warn_4 (by decide) (fun c_4 => ?_) (fun c_4 => ?_)
  · refine lv_aload_n hx hb dX15_warn_15 rfl (lv_at hl 0 rfl) ?_
    refine q_get hx hb hts hown hA hW iX15 hk0 rfl 6 (by decide) (hts (.fieldLink RX15 28 "HighRecipesLaw$Kitchen" "kinds" "[I") (by decide +kernel)) (fun _ h9 => h9) (v := .ref ki) rfl dX15_warn_16 ?_
    refine lv_iload_n hx hb dX15_warn_19 rfl (lv_at hl 1 rfl) ?_
    refine lv_dup2_11 hx hb dX15_warn_20 rfl rfl ?_
    refine q_iald hx hb hA hW hki (vp_in_nI hkd (by decide)) dX15_warn_21 ?_
    rw [nI_clamp (by omega)]
    refine lv_iconst (v := 1) hx hb dX15_warn_22 (by decide) ?_
    refine lv_iadd hx hb dX15_warn_23 ?_
    refine q_iast hx hb hA hW hS hki (vp_in_nI hkd (by decide)) dX15_warn_24 (fun H locs hW hS => ?_)
    rw [show (nI kd).toNatClampNeg = kd from (nI_clamp (by omega))] at hW
    have hW : q_W E (va_up f ki (some (aI E 6 (upd gk kd ((gk kd) + 1))))) n H := hW
    refine lv_aload_n hx hb dX15_warn_25 rfl (lv_at hl 0 rfl) ?_
    refine lv_aload_n hx hb dX15_warn_26 rfl (lv_at hl 0 rfl) ?_
    refine q_get hx hb hts hown hA hW iX15 (q_ne (by omega) hk0) rfl 7 (by decide) (hts (.fieldLink RX15 31 "HighRecipesLaw$Kitchen" "warned" "[I") (by decide +kernel)) (fun _ h9 => h9) (v := .ref wa) rfl dX15_warn_27 ?_
    refine lv_iload_n hx hb dX15_warn_30 rfl (lv_at hl 1 rfl) ?_
    refine q_cq (va_runS (As := [.ref wa, .int (nI kd)]) (rest := [.ref k]) ⟨hx, hb, hml, hown, hts⟩ (kX15_ahead l E (va_up f ki (some (aI E 6 (upd gk kd ((gk kd) + 1))))) n wa (min (k_T v) 20) (nI kd) gw (q_ne (by omega) hwa) (by omega)) (va_cwS 2 hts gX15_warn_X15_ahead rfl rfl rfl (by decide +kernel) ⟨(Nat.le_of_ble_eq_true rfl), (Nat.le_of_ble_eq_true rfl)⟩) (q_pS hA hW hS) rfl rfl hl.1 rfl (lv_room (Nat.le_of_ble_eq_true rfl)) dX15_warn_31 ⟨(Nat.le_of_ble_eq_true rfl), (Nat.le_of_ble_eq_true rfl)⟩) hS (fun r_31 f_31 n_31 H locs hp hW hS => ?_)
    obtain ⟨g1_31, rfl, e0_31, eg0_31, eg_31, en_31, hfr_31⟩ := hp
    have l_e0_31 := hW.lt e0_31
    have hk_31 : f_31 k = some (cLK (v 0) (v 1) (v 2) (v 3) (some pa) (some re) (some ki) (some wa) (some no) (v 5) (nI b) w) := (hfr_31 _ (by omega)).trans (q_ne (by omega) hk0)
    have hki_31 : f_31 ki = some (aI E 6 (upd gk kd ((gk kd) + 1))) := (hfr_31 _ (by omega)).trans q_eq
    have hwa_31 : f_31 wa = some (aI E (min (k_T v) 20) gw) := (hfr_31 _ (by omega)).trans (q_ne (by omega) hwa)
    have hno_31 : f_31 no = some (aI E (min (k_N v) 20) gn) := (hfr_31 _ (by omega)).trans (q_ne (by omega) hno)
    have hpa_31 : f_31 pa = some (aQ E 8 pn gp) := (hfr_31 _ (by omega)).trans (q_ne (by omega) hpa)
    refine q_put hx hb hts hown hA hW hS iX15 tyX15 tyX15_ok nmX15 hk_31 rfl 7 (by decide) (hts (.fieldLink RX15 31 "HighRecipesLaw$Kitchen" "warned" "[I") (by decide +kernel)) (fun _ h9 => h9) rfl rfl rfl (Nat.le_of_ble_eq_true rfl) dX15_warn_34 (fun H locs hW hS => ?_)
    have hW : q_W E (va_up f_31 k (some (cLK (v 0) (v 1) (v 2) (v 3) (some pa) (some re) (some ki) (some n) (some no) (v 5) (nI b) w))) n_31 H := hW
    have eT : k_T (z_warn v (k_T v) kd) = k_T v + 1 := by show (z_warn v (k_T v) kd 4).toNatClampNeg = _; rw [z_warn_4, nI_1]; exact nI_clamp (by omega)
    have eN : k_N (z_warn v (k_T v) kd) = k_N v := by unfold k_N; rw [z_warn_5]
    have zl : ∀ q, q < 4 → z_warn v (k_T v) kd q = v q := fun q hq => by unfold z_warn; rw [z_un (by omega), z_un (by omega), z_un (by omega)]
    have zh : ∀ q, 32 ≤ q → z_warn v (k_T v) kd q = v q := fun q hq => by have := Nat.mod_lt (k_T v) (show 20 > 0 by decide); unfold z_warn; rw [z_un (by omega), z_un (by omega), z_un (by omega)]
    have zr : ∀ j, j < 20 → z_warn v (k_T v) kd (12 + j) = if j = k_T v % 20 then nI kd else v (12 + j) := fun j hj => by unfold z_warn; rw [z_un (by omega), z_un (by omega)]; by_cases e9 : j = k_T v % 20; (rw [if_pos e9, e9, z_us]); (rw [if_neg e9, z_un (by omega)])
    exact q_vret hx hb hr hlocks hW hS ⟨n, ⟨(by rw [zl 0 (by decide), zl 1 (by decide), zl 2 (by decide), zl 3 (by decide), z_warn_5, if_neg (Int32.not_lt.mpr c_4)]; exact q_eq), ⟨_, (q_ne (by omega) hki_31), fun j hj => by rw [z_warn_k hkd hj]; by_cases e9 : j = kd; (subst e9; rw [if_pos rfl]; exact (if_pos rfl).trans (by rw [hkv j hj])); (rw [if_neg e9]; exact (if_neg e9).trans (hkv j hj))⟩, ⟨g1_31, (by rw [eT, ← min_20]; exact (q_ne (by omega) e0_31)), (by rw [eT]; exact late_1 hwv eg0_31 eg_31 ((zr _ (Nat.mod_lt _ (by decide))).trans (if_pos rfl)) (fun j hj hne => (zr j hj).trans (if_neg hne)))⟩, ⟨gn, (by rw [eN]; exact (q_ne (by omega) hno_31)), fun j hj => by rw [eN] at hj ⊢; rw [zh _ (by omega)]; exact hnv j hj⟩, ⟨gp, (q_ne (by omega) hpa_31), hpv⟩, (fun i hi => by obtain ⟨gr, e1, e2, e3, e4, e5, e6⟩ := hrow i hi; have h7 := hK.kr hi; have h8 := hs.2.2.1 i hi; have l9 := hW0.lt e1; exact ⟨gr, ((q_ne (by omega) ((hfr_31 _ (by omega)).trans (q_ne (by omega) rfl)))).trans e1, e2, by rw [zh _ (by omega)]; exact e3, by rw [zh _ (by omega)]; exact e4, by rw [zh _ (by omega)]; exact e5, by rw [zh _ (by omega)]; exact e6⟩)⟩, ⟨(by omega), hs.2.1, (fun i hi => by have l9 := hW0.lt (hrow i hi).choose_spec.1; exact ⟨(hs.2.2.1 i hi).1, by omega, (hs.2.2.1 i hi).2.2⟩), hs.2.2.2⟩, (by omega), (by omega), (fun z9 g0 g1 g2 => (q_ne (by omega) ((hfr_31 _ (by omega)).trans (q_ne (by omega) rfl))))⟩ (Nat.le_of_ble_eq_true rfl) (Nat.le_of_ble_eq_true rfl) dX15_warn_37
  · refine lv_aload_n hx hb dX15_warn_7 rfl (lv_at hl 0 rfl) ?_
    refine lv_aload_n hx hb dX15_warn_8 rfl (lv_at hl 0 rfl) ?_
    refine q_get hx hb hts hown hA hW iX15 hk0 rfl 10 (by decide) (hts (.fieldLink RX15 62 "HighRecipesLaw$Kitchen" "begun" "I") (by decide +kernel)) (fun _ h9 => h9) (v := .int (nI b)) rfl dX15_warn_9 ?_
    refine q_put hx hb hts hown hA hW hS iX15 tyX15 tyX15_ok nmX15 hk0 rfl 11 (by decide) (hts (.fieldLink RX15 59 "HighRecipesLaw$Kitchen" "first" "I") (by decide +kernel)) (fun _ h9 => h9) rfl rfl rfl (Nat.le_of_ble_eq_true rfl) dX15_warn_12 (fun H locs hW hS => ?_)
    have hW : q_W E (va_up f k (some (cLK (v 0) (v 1) (v 2) (v 3) (some pa) (some re) (some ki) (some wa) (some no) (v 5) (nI b) (nI b)))) n H := hW
    refine lv_aload_n hx hb dX15_warn_15 rfl (lv_at hl 0 rfl) ?_
    refine q_get hx hb hts hown hA hW iX15 q_eq rfl 6 (by decide) (hts (.fieldLink RX15 28 "HighRecipesLaw$Kitchen" "kinds" "[I") (by decide +kernel)) (fun _ h9 => h9) (v := .ref ki) rfl dX15_warn_16 ?_
    refine lv_iload_n hx hb dX15_warn_19 rfl (lv_at hl 1 rfl) ?_
    refine lv_dup2_11 hx hb dX15_warn_20 rfl rfl ?_
    refine q_iald hx hb hA hW (q_ne (by omega) hki) (vp_in_nI hkd (by decide)) dX15_warn_21 ?_
    rw [nI_clamp (by omega)]
    refine lv_iconst (v := 1) hx hb dX15_warn_22 (by decide) ?_
    refine lv_iadd hx hb dX15_warn_23 ?_
    refine q_iast hx hb hA hW hS (q_ne (by omega) hki) (vp_in_nI hkd (by decide)) dX15_warn_24 (fun H locs hW hS => ?_)
    rw [show (nI kd).toNatClampNeg = kd from (nI_clamp (by omega))] at hW
    have hW : q_W E (va_up (va_up f k (some (cLK (v 0) (v 1) (v 2) (v 3) (some pa) (some re) (some ki) (some wa) (some no) (v 5) (nI b) (nI b)))) ki (some (aI E 6 (upd gk kd ((gk kd) + 1))))) n H := hW
    refine lv_aload_n hx hb dX15_warn_25 rfl (lv_at hl 0 rfl) ?_
    refine lv_aload_n hx hb dX15_warn_26 rfl (lv_at hl 0 rfl) ?_
    refine q_get hx hb hts hown hA hW iX15 (q_ne (by omega) q_eq) rfl 7 (by decide) (hts (.fieldLink RX15 31 "HighRecipesLaw$Kitchen" "warned" "[I") (by decide +kernel)) (fun _ h9 => h9) (v := .ref wa) rfl dX15_warn_27 ?_
    refine lv_iload_n hx hb dX15_warn_30 rfl (lv_at hl 1 rfl) ?_
    refine q_cq (va_runS (As := [.ref wa, .int (nI kd)]) (rest := [.ref k]) ⟨hx, hb, hml, hown, hts⟩ (kX15_ahead l E (va_up (va_up f k (some (cLK (v 0) (v 1) (v 2) (v 3) (some pa) (some re) (some ki) (some wa) (some no) (v 5) (nI b) (nI b)))) ki (some (aI E 6 (upd gk kd ((gk kd) + 1))))) n wa (min (k_T v) 20) (nI kd) gw (q_ne (by omega) (q_ne (by omega) hwa)) (by omega)) (va_cwS 2 hts gX15_warn_X15_ahead rfl rfl rfl (by decide +kernel) ⟨(Nat.le_of_ble_eq_true rfl), (Nat.le_of_ble_eq_true rfl)⟩) (q_pS hA hW hS) rfl rfl hl.1 rfl (lv_room (Nat.le_of_ble_eq_true rfl)) dX15_warn_31 ⟨(Nat.le_of_ble_eq_true rfl), (Nat.le_of_ble_eq_true rfl)⟩) hS (fun r_31 f_31 n_31 H locs hp hW hS => ?_)
    obtain ⟨g1_31, rfl, e0_31, eg0_31, eg_31, en_31, hfr_31⟩ := hp
    have l_e0_31 := hW.lt e0_31
    have hk_31 : f_31 k = some (cLK (v 0) (v 1) (v 2) (v 3) (some pa) (some re) (some ki) (some wa) (some no) (v 5) (nI b) (nI b)) := (hfr_31 _ (by omega)).trans (q_ne (by omega) q_eq)
    have hki_31 : f_31 ki = some (aI E 6 (upd gk kd ((gk kd) + 1))) := (hfr_31 _ (by omega)).trans q_eq
    have hwa_31 : f_31 wa = some (aI E (min (k_T v) 20) gw) := (hfr_31 _ (by omega)).trans (q_ne (by omega) (q_ne (by omega) hwa))
    have hno_31 : f_31 no = some (aI E (min (k_N v) 20) gn) := (hfr_31 _ (by omega)).trans (q_ne (by omega) (q_ne (by omega) hno))
    have hpa_31 : f_31 pa = some (aQ E 8 pn gp) := (hfr_31 _ (by omega)).trans (q_ne (by omega) (q_ne (by omega) hpa))
    refine q_put hx hb hts hown hA hW hS iX15 tyX15 tyX15_ok nmX15 hk_31 rfl 7 (by decide) (hts (.fieldLink RX15 31 "HighRecipesLaw$Kitchen" "warned" "[I") (by decide +kernel)) (fun _ h9 => h9) rfl rfl rfl (Nat.le_of_ble_eq_true rfl) dX15_warn_34 (fun H locs hW hS => ?_)
    have hW : q_W E (va_up f_31 k (some (cLK (v 0) (v 1) (v 2) (v 3) (some pa) (some re) (some ki) (some n) (some no) (v 5) (nI b) (nI b)))) n_31 H := hW
    have eT : k_T (z_warn v (k_T v) kd) = k_T v + 1 := by show (z_warn v (k_T v) kd 4).toNatClampNeg = _; rw [z_warn_4, nI_1]; exact nI_clamp (by omega)
    have eN : k_N (z_warn v (k_T v) kd) = k_N v := by unfold k_N; rw [z_warn_5]
    have zl : ∀ q, q < 4 → z_warn v (k_T v) kd q = v q := fun q hq => by unfold z_warn; rw [z_un (by omega), z_un (by omega), z_un (by omega)]
    have zh : ∀ q, 32 ≤ q → z_warn v (k_T v) kd q = v q := fun q hq => by have := Nat.mod_lt (k_T v) (show 20 > 0 by decide); unfold z_warn; rw [z_un (by omega), z_un (by omega), z_un (by omega)]
    have zr : ∀ j, j < 20 → z_warn v (k_T v) kd (12 + j) = if j = k_T v % 20 then nI kd else v (12 + j) := fun j hj => by unfold z_warn; rw [z_un (by omega), z_un (by omega)]; by_cases e9 : j = k_T v % 20; (rw [if_pos e9, e9, z_us]); (rw [if_neg e9, z_un (by omega)])
    exact q_vret hx hb hr hlocks hW hS ⟨n, ⟨(by rw [zl 0 (by decide), zl 1 (by decide), zl 2 (by decide), zl 3 (by decide), z_warn_5, if_pos (Int32.not_le.mp c_4)]; exact q_eq), ⟨_, (q_ne (by omega) hki_31), fun j hj => by rw [z_warn_k hkd hj]; by_cases e9 : j = kd; (subst e9; rw [if_pos rfl]; exact (if_pos rfl).trans (by rw [hkv j hj])); (rw [if_neg e9]; exact (if_neg e9).trans (hkv j hj))⟩, ⟨g1_31, (by rw [eT, ← min_20]; exact (q_ne (by omega) e0_31)), (by rw [eT]; exact late_1 hwv eg0_31 eg_31 ((zr _ (Nat.mod_lt _ (by decide))).trans (if_pos rfl)) (fun j hj hne => (zr j hj).trans (if_neg hne)))⟩, ⟨gn, (by rw [eN]; exact (q_ne (by omega) hno_31)), fun j hj => by rw [eN] at hj ⊢; rw [zh _ (by omega)]; exact hnv j hj⟩, ⟨gp, (q_ne (by omega) hpa_31), hpv⟩, (fun i hi => by obtain ⟨gr, e1, e2, e3, e4, e5, e6⟩ := hrow i hi; have h7 := hK.kr hi; have h8 := hs.2.2.1 i hi; have l9 := hW0.lt e1; exact ⟨gr, ((q_ne (by omega) ((hfr_31 _ (by omega)).trans (q_ne (by omega) (q_ne (by omega) rfl))))).trans e1, e2, by rw [zh _ (by omega)]; exact e3, by rw [zh _ (by omega)]; exact e4, by rw [zh _ (by omega)]; exact e5, by rw [zh _ (by omega)]; exact e6⟩)⟩, ⟨(by omega), hs.2.1, (fun i hi => by have l9 := hW0.lt (hrow i hi).choose_spec.1; exact ⟨(hs.2.2.1 i hi).1, by omega, (hs.2.2.1 i hi).2.2⟩), hs.2.2.2⟩, (by omega), (by omega), (fun z9 g0 g1 g2 => (q_ne (by omega) ((hfr_31 _ (by omega)).trans (q_ne (by omega) (q_ne (by omega) rfl)))))⟩ (Nat.le_of_ble_eq_true rfl) (Nat.le_of_ble_eq_true rfl) dX15_warn_37

