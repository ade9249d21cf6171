/-! a text is fed in twenties, trimmed, taught -/
def cT (TW : List Int32) (i : Nat) : Int32 := if i < TW.length then tx TW i else 32
theorem cT_nI {TW : List Int32} (ho : okb TW) (i : Nat) : ∃ c, c < 128 ∧ cT TW i = nI c := by
  unfold cT
  split
  · obtain ⟨k, e, hk⟩ := okb_tx ho i
    exact ⟨k, hk, e⟩
  · exact ⟨32, by decide, rfl⟩
theorem pk_or {a c : Nat} (ha : a < 2 ^ 23) (hc : c < 256) : (nI a <<< ((8 : Int32) &&& 31)) ||| nI c = nI (a * 256 + c) := by
  apply Int32.toBitVec_inj.1
  rw [Int32.toBitVec_or, Int32.toBitVec_shiftLeft]
  apply BitVec.eq_of_toNat_eq
  rw [BitVec.toNat_or, show ((8 : Int32) &&& 31).toBitVec.smod 32 = 8#32 from by decide, BitVec.shiftLeft_eq', BitVec.toNat_shiftLeft]
  show (a % 2 ^ 32) <<< 8 % 2 ^ 32 ||| (c % 2 ^ 32) = (a * 256 + c) % 2 ^ 32
  have e : a <<< 8 + c = a <<< 8 ||| c := Nat.shiftLeft_add_eq_or_of_lt (by omega) a
  have e2 : a <<< 8 = a * 2 ^ 8 := Nat.shiftLeft_eq a 8
  rw [Nat.mod_eq_of_lt (show a < 2 ^ 32 by omega), Nat.mod_eq_of_lt (show c < 2 ^ 32 by omega), Nat.mod_eq_of_lt (show a <<< 8 < 2 ^ 32 by omega), ← e, Nat.mod_eq_of_lt (show a * 256 + c < 2 ^ 32 by omega)]
  omega
def pkp (TW : List Int32) (x : Nat) : Nat → Int32
  | 0 => 0
  | e + 1 => (pkp TW x e <<< ((8 : Int32) &&& 31)) ||| cT TW (x + e)
theorem i8_mod (Y : Nat) : (nI Y).toInt8 = (nI (Y % 256)).toInt8 := by
  apply Int8.toBitVec_inj.1
  show (BitVec.ofNat 32 Y).signExtend 8 = (BitVec.ofNat 32 (Y % 256)).signExtend 8
  rw [BitVec.signExtend_eq_setWidth_of_le _ (by decide), BitVec.signExtend_eq_setWidth_of_le _ (by decide)]
  apply BitVec.eq_of_toNat_eq
  rw [BitVec.toNat_setWidth, BitVec.toNat_setWidth, BitVec.toNat_ofNat, BitVec.toNat_ofNat]
  omega
theorem i8_ch : ∀ k, k < 128 → (nI k).toInt8.toInt32.toInt8.toInt32 = nI k := by decide +kernel
theorem tb_nI {X c kn : Nat} {kk : Int32} (hk : kk.toUInt32 &&& Int32.toUInt32 31 = UInt32.ofNat kn) (hkn : kn < 32) (hX : X < 2 ^ 31) (hc : X / 2 ^ kn % 256 = c) (hc8 : c < 128) : t_b (nI X) kk = nI c := by
  have e1 : (nI X).toUInt32 >>> UInt32.ofNat kn = UInt32.ofNat (X / 2 ^ kn) := by
    apply UInt32.toNat_inj.1
    rw [UInt32.toNat_shiftRight, UInt32.toNat_ofNat', UInt32.toNat_ofNat']
    show (X % 2 ^ 32) >>> (kn % 2 ^ 32 % 32) = X / 2 ^ kn % 2 ^ 32
    rw [Nat.mod_eq_of_lt (show X < 2 ^ 32 by omega), Nat.mod_eq_of_lt (show kn < 2 ^ 32 by omega), Nat.mod_eq_of_lt hkn, Nat.shiftRight_eq_div_pow]
    exact (Nat.mod_eq_of_lt (Nat.lt_of_le_of_lt (Nat.div_le_self _ _) (by omega))).symm
  unfold t_b
  rw [hk, e1, show (UInt32.ofNat (X / 2 ^ kn)).toInt32 = nI (X / 2 ^ kn) from rfl, i8_mod, hc]
  exact i8_ch c hc8
/-- the tape holds the text's beginning -/
def PRE (TW : List Int32) (g : Nat → Int32) (L : Nat) : Prop := ∀ i, i < L → i < TW.length → g i = tx TW i
theorem cT_tx {TW : List Int32} {i : Nat} (h : i < TW.length) : cT TW i = tx TW i := if_pos h
theorem PRE.four {TW : List Int32} {g : Nat → Int32} {L : Nat} (ho : okb TW) (h : PRE TW g L) : PRE TW (t_four g L (pkp TW L 4)) (L + 4) := by
  obtain ⟨c0, h0, e0⟩ := cT_nI ho L
  obtain ⟨c1, h1, e1⟩ := cT_nI ho (L + 1)
  obtain ⟨c2, h2, e2⟩ := cT_nI ho (L + 2)
  obtain ⟨c3, h3, e3⟩ := cT_nI ho (L + 3)
  have p1 : pkp TW L 1 = nI c0 := by
    show ((0 : Int32) <<< ((8 : Int32) &&& 31)) ||| cT TW (L + 0) = _
    rw [Nat.add_zero, e0]
    exact (pk_or (a := 0) (by decide) (by omega)).trans (by rw [Nat.zero_mul, Nat.zero_add])
  have p2 : pkp TW L 2 = nI (c0 * 256 + c1) := by
    show (pkp TW L 1 <<< ((8 : Int32) &&& 31)) ||| cT TW (L + 1) = _
    rw [p1, e1]
    exact pk_or (by omega) (by omega)
  have p3 : pkp TW L 3 = nI ((c0 * 256 + c1) * 256 + c2) := by
    show (pkp TW L 2 <<< ((8 : Int32) &&& 31)) ||| cT TW (L + 2) = _
    rw [p2, e2]
    exact pk_or (by omega) (by omega)
  have p4 : pkp TW L 4 = nI (((c0 * 256 + c1) * 256 + c2) * 256 + c3) := by
    show (pkp TW L 3 <<< ((8 : Int32) &&& 31)) ||| cT TW (L + 3) = _
    rw [p3, e3]
    exact pk_or (by omega) (by omega)
  have t0 := tb_nI (X := ((c0 * 256 + c1) * 256 + c2) * 256 + c3) (c := c0) (kn := 24) (kk := 24) (by decide) (by decide) (by omega) (by omega) h0
  have t1 := tb_nI (X := ((c0 * 256 + c1) * 256 + c2) * 256 + c3) (c := c1) (kn := 16) (kk := 16) (by decide) (by decide) (by omega) (by omega) h1
  have t2 := tb_nI (X := ((c0 * 256 + c1) * 256 + c2) * 256 + c3) (c := c2) (kn := 8) (kk := 8) (by decide) (by decide) (by omega) (by omega) h2
  have t3 := tb_nI (X := ((c0 * 256 + c1) * 256 + c2) * 256 + c3) (c := c3) (kn := 0) (kk := 0) (by decide) (by decide) (by omega) (by omega) h3
  intro i hi hl
  unfold t_four
  rw [p4, t0, t1, t2, t3]
  unfold upd
  by_cases h8 : i = L + 3
  · rw [if_pos h8, h8, ← e3]; exact cT_tx (by omega)
  · rw [if_neg h8]
    by_cases h7 : i = L + 2
    · rw [if_pos h7, h7, ← e2]; exact cT_tx (by omega)
    · rw [if_neg h7]
      by_cases h6 : i = L + 1
      · rw [if_pos h6, h6, ← e1]; exact cT_tx (by omega)
      · rw [if_neg h6]
        by_cases h5 : i = L
        · rw [if_pos h5, h5, ← e0]; exact cT_tx (by omega)
        · rw [if_neg h5]; exact h i (by omega) hl
theorem PRE.five {TW : List Int32} {g : Nat → Int32} {L : Nat} (ho : okb TW) (h : PRE TW g L) : PRE TW (t_four (t_four (t_four (t_four (t_four g L (pkp TW (L + 4 * 0) 4)) (L + 4) (pkp TW (L + 4 * 1) 4)) (L + 8) (pkp TW (L + 4 * 2) 4)) (L + 12) (pkp TW (L + 4 * 3) 4)) (L + 16) (pkp TW (L + 4 * 4) 4)) (L + 20) := ((((h.four ho).four ho).four ho).four ho).four ho
theorem mul4 (k : Nat) : (4 : Int32) * nI k = nI (4 * k) := nI_mul 4 k

theorem q_upn {f : q_H} {a : Nat} {c : Option va_E} {q : Nat} (h : q ≠ a) : va_up f a c q = f q := va_up_ne _ _ h
theorem va_up_id {f : q_H} {a : Nat} {c : va_E} (h : f a = some c) : va_up f a (some c) = f := by
  funext q
  by_cases e : q = a
  · rw [e, va_up_self]; exact h.symm
  · exact va_up_ne _ _ e
theorem CM.wide {E : q_E} {a BB : Nat} {f : q_H} {n L : Nat} {g : Nat → Int32} {pn rc : Nat} {ac : Int32} {hd v : q_V} {RS : Nat → q_S} {Q Q' : Nat → Prop} (h : CM E a BB f n L g pn rc ac hd v RS Q) (hq : ∀ q, Q q → Q' q) : CM E a BB f n L g pn rc ac hd v RS Q' := by
  obtain ⟨ep, bk0, et, er0, c0, here0, k0, kk0, po0, wo0, b0, w0, b1, w1, bk, gB, bt, hdt, vt, lo, hi, hF, p9, hs, hQ⟩ := h
  exact ⟨ep, bk0, et, er0, c0, here0, k0, kk0, po0, wo0, b0, w0, b1, w1, bk, gB, bt, hdt, vt, lo, hi, hF, p9, hs, fun q h8 => hq q (hQ q h8)⟩

set_option maxHeartbeats 4000000 in
set_option maxRecDepth 100000 in
theorem kL_taught (l : Launch) (E : q_E) (f : q_H) (n : Nat) (a BB : Nat) (g : Nat → Int32) (pn rc : Nat) (ac : Int32) (hd v : q_V) (RS : Nat → q_S) (Q : Nat → Prop) (t tb : Nat) (TW : List Int32) (pn2 NR ac2 : Nat) (hd2 : q_V) (RS2 : Nat → q_S) (ht : f t = some (cStr tb)) (htb : f tb = some (aB E TW.length (tx TW))) (hM : CM E a BB f n 0 g pn rc ac hd v RS Q) (hQ : ∀ q, Q q → q < n) (hT : TOLD TW pn2 NR ac2 hd2 RS2) (hsb : ∀ i, i < NR → s_blk pn2 (RS2 i)) (hpn2 : pn2 ≤ 8) (hNR6 : NR ≤ 6) (hl9 : TW.length ≤ 1500) (ho : okb TW) (hta : t < a ∨ a + 55 ≤ t) (htba : tb < a ∨ a + 55 ≤ tb) (han : a + 55 ≤ n) : Met l yL_taught wsL_taught ({ frames := 130, cells := 421, slots := 3785, locals := 3000 }) (q_P E [.ref a, .ref t] f n) (q_Qi E (fun r0 f1 n1 => 0 = r0 ∧ (∃ (g' : Nat → Int32) (hd' : q_V) (RS' : Nat → q_S), (∀ j, j < pn2 → hd' j = hd2 j) ∧ (∀ r, r < NR → RS' r = RS2 r) ∧ CM E a 100 f1 n1 0 g' pn2 NR (nI ac2) hd' (z_bgn v pn2) RS' (fun q => (a ≤ q ∧ q < a + 55) ∨ (n ≤ q ∧ q < n1))) ∧ n ≤ n1 ∧ ∀ z9, (z9 < a ∨ a + 55 ≤ z9) → z9 < n → f1 z9 = f z9)) 421 3785 (q_ge E) := by
  refine Met.ofW (cc := cL_taught) (maxL := 6) (ret := (some .int)) (by decide) rfl ?_
  intro p0_ e0_ s0_ m0_ args0_ below0_ meth0_ c0_ s1_ B0_ hml hv
  obtain ⟨rfl, hA, hW⟩ := hv
  have hx := B0_.exec
  have hb := B0_.bytes
  have hr := B0_.returns
  have hts := atoms_spec (ws := wsL_taught) B0_.pre
  have hown : s0_.vm.findClass RL = some m0_.cls := findClass_of_methodNamed B0_.named
  have hlocks := B0_.notSynchronized
  have hS : va_S (q_ge E) s0_.heap s0_.heap [] := va_S.rf
  have hl := lv_entry ([.ref a, .ref t]) (n := 6) (Nat.le_of_ble_eq_true rfl)
  rw [lg_entry_eq]
  generalize (lg_sl ([.ref a, .ref t]) ++ List.replicate (6 - (lg_sl ([.ref a, .ref t])).length) Slot.unset).toArray = ls at hl ⊢
  have hl : lv_has ls 6 [(0, .ref a), (1, .ref t)] := hl
  have l_ht := hW.lt ht
  have l_htb := hW.lt htb
  refine lv_iconst (v := 5) hx hb dL_taught_0 (by decide) ?_
  refine q_newa (atype := .int) hx hb hA hW hS (hts (.arrayClass .int) (by decide +kernel)) (ty := .int) rfl 0 rfl (fun C h9 => by cases h9) (N' := 5) (a0 := (5, .inl (fun _ => 0))) (fun _ => rfl) (by decide) (by decide) (Nat.le_of_ble_eq_true rfl) (by show _ ≤ 421; omega) (by show _ ≤ 3785; omega) dL_taught_1 (fun H hW hS => ?_)
  have hW : q_W E (va_up f n (some (aI E 5 (fun _ => 0)))) (n + 1) H := hW
  refine lv_astore_n (lv' := [(2, .ref n), (0, .ref a), (1, .ref t)]) hx hb dL_taught_3 rfl hl (by decide) rfl (fun ls hl => ?_)
  refine lv_iconst (v := 0) hx hb dL_taught_4 (by decide) ?_
  refine lv_istore_n (lv' := [(3, .int 0), (2, .ref n), (0, .ref a), (1, .ref t)]) hx hb dL_taught_5 rfl hl (by decide) rfl (fun ls hl => ?_)
  have K6 : ∀ (fu : Nat) (F : q_H) (L : Nat) (gL : Nat → Int32) (gf : Nat → Int32) (htF : F t = some (cStr tb)) (htbF : F tb = some (aB E TW.length (tx TW))) (hnF : F n = some (aI E 5 gf)) (hMF : CM E a BB F (n + 1) L gL pn rc ac hd v RS Q) (hPL : PRE TW gL L) (hLb : L ≤ TW.length + 20) (hfr_K6 : ∀ z9, (z9 < a ∨ a + 55 ≤ z9) → z9 < n → F z9 = f z9) (hm : 1600 - L < fu) (H : Heap) (locs : List Loc) (ls : Array Slot), q_W E (F) (n + 1) H → va_S (q_ge E) s0_.heap H locs → lv_has ls 6 [(0, .ref a), (1, .ref t), (2, .ref n), (3, .int (nI L))] → W p0_ l e0_ (headSpec wsL_taught ({ frames := 130, cells := 421, slots := 3785, locals := 3000 })).room s0_ m0_ ([.ref a, .ref t] : List Value).toArray below0_ meth0_ c0_ H locs 1 5 (MQ below0_ (q_Qi E (fun r0 f1 n1 => 0 = r0 ∧ (∃ (g' : Nat → Int32) (hd' : q_V) (RS' : Nat → q_S), (∀ j, j < pn2 → hd' j = hd2 j) ∧ (∀ r, r < NR → RS' r = RS2 r) ∧ CM E a 100 f1 n1 0 g' pn2 NR (nI ac2) hd' (z_bgn v pn2) RS' (fun q => (a ≤ q ∧ q < a + 55) ∨ (n ≤ q ∧ q < n1))) ∧ n ≤ n1 ∧ ∀ z9, (z9 < a ∨ a + 55 ≤ z9) → z9 < n → f1 z9 = f z9)) ([.ref a, .ref t] : List Value).toArray s0_ 421 3785 (q_ge E)) (F0 m0_ 6 ls []) := by
    intro fu
    induction fu with
    | zero =>
      intro F L gL gf htF htbF hnF hMF hPL hLb hfr_K6 hm
      exact absurd hm (Nat.not_lt_zero _)
    | succ fu ih =>
      intro F L gL gf htF htbF hnF hMF hPL hLb hfr_K6 hm H locs ls hW hS hl
      have ihO := ih
      refine lv_iload_n hx hb dL_taught_6 rfl (lv_at hl 3 rfl) ?_
      refine lv_aload_n hx hb dL_taught_7 rfl (lv_at hl 1 rfl) ?_
      refine q_ci (va_runV (As := []) (rest := [.int (nI L)]) ⟨hx, hb, hml, hown, hts⟩ (kJ0_length_8abf5 l E F (n + 1) t tb TW.length (tx TW) htF htbF) (cwV 0 hts gL_taught_J0_length_8abf5 rfl rfl rfl (by decide +kernel) ⟨(Nat.le_of_ble_eq_true rfl), (Nat.le_of_ble_eq_true rfl)⟩) (q_pV hA hW hS (ci := 0) rfl htF) rfl rfl hl.1 rfl (lv_room (Nat.le_of_ble_eq_true rfl)) dL_taught_8 ⟨(by show _ ≤ 421; omega), (by show _ ≤ 3785; omega)⟩) hS (fun r_8 f_8 n_8 H locs hp hW hS => ?_)
      obtain ⟨rfl, rfl, rfl⟩ := hp
      have hW : q_W E (F) (n + 1) H := hW
      refine lv_icmp_ge (tgt := 119) hx hb dL_taught_11 (by decide) (fun c_11 => ?_) (fun c_11 => ?_)
      · have hLe : TW.length ≤ L := q_leN (by omega) c_11
        refine lv_aload_n hx hb dL_taught_119 rfl (lv_at hl 0 rfl) ?_
        refine lv_aload_n hx hb dL_taught_120 rfl (lv_at hl 1 rfl) ?_
        refine q_ci (va_runV (As := []) (rest := [.ref a]) ⟨hx, hb, hml, hown, hts⟩ (kJ0_length_8abf5 l E F (n + 1) t tb TW.length (tx TW) htF htbF) (cwV 0 hts gL_taught_J0_length_8abf5 rfl rfl rfl (by decide +kernel) ⟨(Nat.le_of_ble_eq_true rfl), (Nat.le_of_ble_eq_true rfl)⟩) (q_pV hA hW hS (ci := 0) rfl htF) rfl rfl hl.1 rfl (lv_room (Nat.le_of_ble_eq_true rfl)) dL_taught_121 ⟨(by show _ ≤ 421; omega), (by show _ ≤ 3785; omega)⟩) hS (fun r_121 f_121 n_121 H locs hp hW hS => ?_)
        obtain ⟨rfl, rfl, rfl⟩ := hp
        have hW : q_W E (F) (n + 1) H := hW
        refine q_ci (va_runV (As := [.int (nI TW.length)]) (rest := []) ⟨hx, hb, hml, hown, hts⟩ (cm_trim l E F (n + 1) a BB L gL pn rc ac hd v RS Q TW.length hMF hLe) (cwV 1 hts gL_taught_X12_trim rfl rfl rfl (by decide +kernel) ⟨(Nat.le_of_ble_eq_true rfl), (Nat.le_of_ble_eq_true rfl)⟩) (q_pV hA hW hS (ci := 12) rfl (Classical.choose_spec (Classical.choose_spec (Classical.choose_spec (Classical.choose_spec (Classical.choose_spec (Classical.choose_spec (Classical.choose_spec hMF.cell)))))))) rfl rfl hl.1 rfl (lv_room (Nat.le_of_ble_eq_true rfl)) dL_taught_124 ⟨(by show _ ≤ 421; omega), (by show _ ≤ 3785; omega)⟩) hS (fun r_124 f_124 n_124 H locs hp hW hS => ?_)
        obtain ⟨rfl, eM_124, en_124, hfr_124⟩ := hp
        have ht_124 : f_124 t = some (cStr tb) := (hfr_124 _ (by omega) (by omega)).trans htF
        have htb_124 : f_124 tb = some (aB E TW.length (tx TW)) := (hfr_124 _ (by omega) (by omega)).trans htbF
        have hn_124 : f_124 n = some (aI E 5 gf) := (hfr_124 _ (by omega) (by omega)).trans hnF
        refine lv_pop hx hb dL_taught_127 rfl ?_
        refine lv_aload_n hx hb dL_taught_128 rfl (lv_at hl 0 rfl) ?_
        refine q_ci (va_runV (As := []) (rest := []) ⟨hx, hb, hml, hown, hts⟩ (cm_teach l E f_124 n_124 a BB TW.length gL pn rc ac hd v RS Q TW pn2 NR ac2 hd2 RS2 eM_124 rfl (fun j hj => hPL j (by omega) hj) hT hsb hpn2 hNR6) (cwV 0 hts gL_taught_X12_teach rfl rfl rfl (by decide +kernel) ⟨(Nat.le_of_ble_eq_true rfl), (Nat.le_of_ble_eq_true rfl)⟩) (q_pV hA hW hS (ci := 12) rfl (Classical.choose_spec (Classical.choose_spec (Classical.choose_spec (Classical.choose_spec (Classical.choose_spec (Classical.choose_spec (Classical.choose_spec eM_124.cell)))))))) rfl rfl hl.1 rfl (lv_room (Nat.le_of_ble_eq_true rfl)) dL_taught_129 ⟨(by show _ ≤ 421; omega), (by show _ ≤ 3785; omega)⟩) hS (fun r_129 f_129 n_129 H locs hp hW hS => ?_)
        obtain ⟨rfl, eT_129, en_129, hfr_129⟩ := hp
        have ht_129 : f_129 t = some (cStr tb) := (hfr_129 _ (by omega) (by omega)).trans ht_124
        have htb_129 : f_129 tb = some (aB E TW.length (tx TW)) := (hfr_129 _ (by omega) (by omega)).trans htb_124
        have hn_129 : f_129 n = some (aI E 5 gf) := (hfr_129 _ (by omega) (by omega)).trans hn_124
        exact q_iret hx hb hr hlocks hW hS ⟨rfl, (by obtain ⟨hd9, RS9, x1, x2, x3⟩ := eT_129; exact ⟨_, hd9, RS9, x1, x2, x3.wide (fun q hq => hq.elim Or.inl (fun h8 => Or.inr ⟨by omega, h8.2⟩))⟩), (by omega), (fun z9 g0 g1 => ((hfr_129 _ (by omega) (by omega)).trans ((hfr_124 _ (by omega) (by omega)).trans ((hfr_K6 _ (by omega) (by omega)).trans rfl))))⟩ (by show _ ≤ 421; omega) (by show _ ≤ 3785; omega) dL_taught_132
      · have hLl : L < TW.length := q_gtn (by omega) c_11
        refine lv_iconst (v := 0) hx hb dL_taught_14 (by decide) ?_
        refine lv_istore (lv' := [(4, .int 0), (0, .ref a), (1, .ref t), (2, .ref n), (3, .int (nI L))]) hx hb dL_taught_15 hl (by decide) rfl (fun ls hl => ?_)
        have K17 : ∀ (fu : Nat) (kk : Nat) (gf1 : Nat → Int32) (hkk : kk ≤ 5) (hgf : ∀ q, q < kk → gf1 q = pkp TW (L + 4 * q) 4) (hm : 5 - kk < fu) (H : Heap) (locs : List Loc) (ls : Array Slot), q_W E (va_up F n (some (aI E 5 gf1))) (n + 1) H → va_S (q_ge E) s0_.heap H locs → lv_has ls 6 [(0, .ref a), (1, .ref t), (2, .ref n), (3, .int (nI L)), (4, .int (nI kk))] → W p0_ l e0_ (headSpec wsL_taught ({ frames := 130, cells := 421, slots := 3785, locals := 3000 })).room s0_ m0_ ([.ref a, .ref t] : List Value).toArray below0_ meth0_ c0_ H locs 1 5 (MQ below0_ (q_Qi E (fun r0 f1 n1 => 0 = r0 ∧ (∃ (g' : Nat → Int32) (hd' : q_V) (RS' : Nat → q_S), (∀ j, j < pn2 → hd' j = hd2 j) ∧ (∀ r, r < NR → RS' r = RS2 r) ∧ CM E a 100 f1 n1 0 g' pn2 NR (nI ac2) hd' (z_bgn v pn2) RS' (fun q => (a ≤ q ∧ q < a + 55) ∨ (n ≤ q ∧ q < n1))) ∧ n ≤ n1 ∧ ∀ z9, (z9 < a ∨ a + 55 ≤ z9) → z9 < n → f1 z9 = f z9)) ([.ref a, .ref t] : List Value).toArray s0_ 421 3785 (q_ge E)) (F0 m0_ 17 ls []) := by
          intro fu
          induction fu with
          | zero =>
            intro kk gf1 hkk hgf hm
            exact absurd hm (Nat.not_lt_zero _)
          | succ fu ih =>
            intro kk gf1 hkk hgf hm H locs ls hW hS hl
            have ihM := ih
            refine lv_iload hx hb dL_taught_17 (lv_at hl 4 rfl) ?_
            refine lv_iconst (v := 5) hx hb dL_taught_19 (by decide) ?_
            refine lv_icmp_ge (tgt := 93) hx hb dL_taught_20 (by decide) (fun c_20 => ?_) (fun c_20 => ?_)
            · have hk5 : kk = 5 := by have h8 := q_leN (a := 5) (b := kk) (by decide) c_20; omega
              refine lv_aload_n hx hb dL_taught_93 rfl (lv_at hl 0 rfl) ?_
              refine lv_aload_n hx hb dL_taught_94 rfl (lv_at hl 2 rfl) ?_
              refine lv_iconst (v := 0) hx hb dL_taught_95 (by decide) ?_
              refine q_iald hx hb hA hW q_eq (vp_in_nI (n := 0) (by decide) (by decide)) dL_taught_96 ?_
              rw [show gf1 (0 : Int32).toNatClampNeg = pkp TW (L + 4 * 0) 4 from hgf 0 (by omega)]
              refine lv_aload_n hx hb dL_taught_97 rfl (lv_at hl 2 rfl) ?_
              refine lv_iconst (v := 1) hx hb dL_taught_98 (by decide) ?_
              refine q_iald hx hb hA hW q_eq (vp_in_nI (n := 1) (by decide) (by decide)) dL_taught_99 ?_
              rw [show gf1 (1 : Int32).toNatClampNeg = pkp TW (L + 4 * 1) 4 from hgf 1 (by omega)]
              refine lv_aload_n hx hb dL_taught_100 rfl (lv_at hl 2 rfl) ?_
              refine lv_iconst (v := 2) hx hb dL_taught_101 (by decide) ?_
              refine q_iald hx hb hA hW q_eq (vp_in_nI (n := 2) (by decide) (by decide)) dL_taught_102 ?_
              rw [show gf1 (2 : Int32).toNatClampNeg = pkp TW (L + 4 * 2) 4 from hgf 2 (by omega)]
              refine lv_aload_n hx hb dL_taught_103 rfl (lv_at hl 2 rfl) ?_
              refine lv_iconst (v := 3) hx hb dL_taught_104 (by decide) ?_
              refine q_iald hx hb hA hW q_eq (vp_in_nI (n := 3) (by decide) (by decide)) dL_taught_105 ?_
              rw [show gf1 (3 : Int32).toNatClampNeg = pkp TW (L + 4 * 3) 4 from hgf 3 (by omega)]
              refine lv_aload_n hx hb dL_taught_106 rfl (lv_at hl 2 rfl) ?_
              refine lv_iconst (v := 4) hx hb dL_taught_107 (by decide) ?_
              refine q_iald hx hb hA hW q_eq (vp_in_nI (n := 4) (by decide) (by decide)) dL_taught_108 ?_
              rw [show gf1 (4 : Int32).toNatClampNeg = pkp TW (L + 4 * 4) 4 from hgf 4 (by omega)]
              have hM9 : CM E a BB (va_up F n (some (aI E 5 gf1))) (n + 1) L gL pn rc ac hd v RS Q := hMF.frame (fun q hq => q_upn (by have := hQ q hq; omega)) (Nat.le_refl _) (Nat.le_refl _)
              refine q_ci (va_runV (As := [.int (pkp TW (L + 4 * 0) 4), .int (pkp TW (L + 4 * 1) 4), .int (pkp TW (L + 4 * 2) 4), .int (pkp TW (L + 4 * 3) 4), .int (pkp TW (L + 4 * 4) 4)]) (rest := []) ⟨hx, hb, hml, hown, hts⟩ (cm_feed l E (va_up F n (some (aI E 5 gf1))) (n + 1) a BB L gL pn rc ac hd v RS Q (pkp TW (L + 4 * 0) 4) (pkp TW (L + 4 * 1) 4) (pkp TW (L + 4 * 2) 4) (pkp TW (L + 4 * 3) 4) (pkp TW (L + 4 * 4) 4) hM9 (by omega)) (cwV 5 hts gL_taught_X12_feed rfl rfl rfl (by decide +kernel) ⟨(Nat.le_of_ble_eq_true rfl), (Nat.le_of_ble_eq_true rfl)⟩) (q_pV hA hW hS (ci := 12) rfl (Classical.choose_spec (Classical.choose_spec (Classical.choose_spec (Classical.choose_spec (Classical.choose_spec (Classical.choose_spec (Classical.choose_spec hM9.cell)))))))) rfl rfl hl.1 rfl (lv_room (Nat.le_of_ble_eq_true rfl)) dL_taught_109 ⟨(by show _ ≤ 421; omega), (by show _ ≤ 3785; omega)⟩) hS (fun r_109 f_109 n_109 H locs hp hW hS => ?_)
              obtain ⟨rfl, eM_109, en_109, hfr_109⟩ := hp
              have ht_109 : f_109 t = some (cStr tb) := (hfr_109 _ (by omega) (by omega)).trans (q_ne (by omega) htF)
              have htb_109 : f_109 tb = some (aB E TW.length (tx TW)) := (hfr_109 _ (by omega) (by omega)).trans (q_ne (by omega) htbF)
              have hn_109 : f_109 n = some (aI E 5 gf1) := (hfr_109 _ (by omega) (by omega)).trans q_eq
              refine lv_pop hx hb dL_taught_112 rfl ?_
              refine lv_iinc (v := nI (L + 20)) (lv' := [(3, .int (nI (L + 20))), (0, .ref a), (1, .ref t), (2, .ref n), (4, .int (nI kk))]) hx hb dL_taught_113 hl (k := 3) rfl (nI_add L 20) (by decide) rfl (fun ls hl => ?_)
              refine lv_goto (tgt := 6) hx hb dL_taught_116 (by decide) ?_
              rw [en_109] at hW
              exact ihO f_109 (L + 20) _ gf1 ht_109 htb_109 hn_109 (by rw [en_109] at eM_109; exact eM_109) (hPL.five ho) (by omega) (fun z9 g0 g1 => ((hfr_109 _ (by omega) (by omega)).trans (q_ne (by omega) ((hfr_K6 _ (by omega) (by omega)).trans rfl)))) (by omega) _ _ _ hW hS (lv_sub hl [1, 2, 3, 0] rfl)
            · have hkl : kk < 5 := Nat.lt_of_not_le (fun h9 => c_20 (nI_le (a := 5) h9 (by omega)))
              refine lv_aload_n hx hb dL_taught_23 rfl (lv_at hl 2 rfl) ?_
              refine lv_iload hx hb dL_taught_24 (lv_at hl 4 rfl) ?_
              refine lv_iconst (v := 0) hx hb dL_taught_26 (by decide) ?_
              refine q_iast hx hb hA hW hS q_eq (vp_in_nI hkl (by decide)) dL_taught_27 (fun H locs hW hS => ?_)
              rw [show (nI kk).toNatClampNeg = kk from (nI_clamp (by omega))] at hW
              rw [q_upup] at hW
              have hW : q_W E (va_up F n (some (aI E 5 (upd gf1 kk 0)))) (n + 1) H := hW
              refine lv_iload_n hx hb dL_taught_28 rfl (lv_at hl 3 rfl) ?_
              refine lv_iconst (v := 4) hx hb dL_taught_29 (by decide) ?_
              refine lv_iload hx hb dL_taught_30 (lv_at hl 4 rfl) ?_
              refine lv_imul hx hb dL_taught_32 ?_
              rw [mul4]
              refine lv_iadd hx hb dL_taught_33 ?_
              rw [nI_add]
              refine lv_istore (lv' := [(5, .int (nI (L + 4 * kk))), (0, .ref a), (1, .ref t), (2, .ref n), (3, .int (nI L)), (4, .int (nI kk))]) hx hb dL_taught_34 hl (by decide) rfl (fun ls hl => ?_)
              have K36 : ∀ (fu : Nat) (e9 : Nat) (gf2 : Nat → Int32) (he9 : e9 ≤ 4) (hgf2 : ∀ q, q < kk → gf2 q = pkp TW (L + 4 * q) 4) (hge : gf2 kk = pkp TW (L + 4 * kk) e9) (hm : 4 - e9 < fu) (H : Heap) (locs : List Loc) (ls : Array Slot), q_W E (va_up F n (some (aI E 5 gf2))) (n + 1) H → va_S (q_ge E) s0_.heap H locs → lv_has ls 6 [(0, .ref a), (1, .ref t), (2, .ref n), (3, .int (nI L)), (4, .int (nI kk)), (5, .int (nI (L + 4 * kk + e9)))] → W p0_ l e0_ (headSpec wsL_taught ({ frames := 130, cells := 421, slots := 3785, locals := 3000 })).room s0_ m0_ ([.ref a, .ref t] : List Value).toArray below0_ meth0_ c0_ H locs 1 5 (MQ below0_ (q_Qi E (fun r0 f1 n1 => 0 = r0 ∧ (∃ (g' : Nat → Int32) (hd' : q_V) (RS' : Nat → q_S), (∀ j, j < pn2 → hd' j = hd2 j) ∧ (∀ r, r < NR → RS' r = RS2 r) ∧ CM E a 100 f1 n1 0 g' pn2 NR (nI ac2) hd' (z_bgn v pn2) RS' (fun q => (a ≤ q ∧ q < a + 55) ∨ (n ≤ q ∧ q < n1))) ∧ n ≤ n1 ∧ ∀ z9, (z9 < a ∨ a + 55 ≤ z9) → z9 < n → f1 z9 = f z9)) ([.ref a, .ref t] : List Value).toArray s0_ 421 3785 (q_ge E)) (F0 m0_ 36 ls []) := by
                intro fu
                induction fu with
                | zero =>
                  intro e9 gf2 he9 hgf2 hge hm
                  exact absurd hm (Nat.not_lt_zero _)
                | succ fu ih =>
                  intro e9 gf2 he9 hgf2 hge hm H locs ls hW hS hl
                  refine lv_iload hx hb dL_taught_36 (lv_at hl 5 rfl) ?_
                  refine lv_iload_n hx hb dL_taught_38 rfl (lv_at hl 3 rfl) ?_
                  refine lv_iconst (v := 4) hx hb dL_taught_39 (by decide) ?_
                  refine lv_iload hx hb dL_taught_40 (lv_at hl 4 rfl) ?_
                  refine lv_imul hx hb dL_taught_42 ?_
                  rw [mul4]
                  refine lv_iadd hx hb dL_taught_43 ?_
                  rw [nI_add]
                  refine lv_iconst (v := 4) hx hb dL_taught_44 (by decide) ?_
                  refine lv_iadd hx hb dL_taught_45 ?_
                  rw [show nI (L + 4 * kk) + 4 = nI (L + 4 * kk + 4) from nI_add _ 4]
                  refine lv_icmp_ge (tgt := 87) hx hb dL_taught_46 (by decide) (fun c_46 => ?_) (fun c_46 => ?_)
                  · have he4 : e9 = 4 := by have h8 := q_leN (by omega) c_46; omega
                    refine lv_iinc (v := nI (kk + 1)) (lv' := [(4, .int (nI (kk + 1))), (0, .ref a), (1, .ref t), (2, .ref n), (3, .int (nI L)), (5, .int (nI (L + 4 * kk + e9)))]) hx hb dL_taught_87 hl (k := 4) rfl (nI_1 kk) (by decide) rfl (fun ls hl => ?_)
                    refine lv_goto (tgt := 17) hx hb dL_taught_90 (by decide) ?_
                    exact ihM (kk + 1) gf2 hkl (fun q hq => by by_cases e8 : q = kk; (rw [e8]; rw [he4] at hge; exact hge); (exact hgf2 q (by omega))) (by omega) _ _ _ hW hS (lv_sub hl [1, 2, 3, 4, 0] rfl)
                  · have hel : e9 < 4 := by have h8 := q_gtn (by omega) c_46; omega
                    refine lv_aload_n hx hb dL_taught_49 rfl (lv_at hl 2 rfl) ?_
                    refine lv_iload hx hb dL_taught_50 (lv_at hl 4 rfl) ?_
                    refine lv_aload_n hx hb dL_taught_52 rfl (lv_at hl 2 rfl) ?_
                    refine lv_iload hx hb dL_taught_53 (lv_at hl 4 rfl) ?_
                    refine q_iald hx hb hA hW q_eq (vp_in_nI hkl (by decide)) dL_taught_55 ?_
                    rw [show gf2 (nI kk).toNatClampNeg = pkp TW (L + 4 * kk) e9 from by rw [nI_clamp (by omega)]; exact hge]
                    refine lv_bipush (v := 8) hx hb dL_taught_56 (by decide) ?_
                    refine lv_ishl hx hb dL_taught_58 ?_
                    refine lv_iload hx hb dL_taught_59 (lv_at hl 5 rfl) ?_
                    refine lv_aload_n hx hb dL_taught_61 rfl (lv_at hl 1 rfl) ?_
                    refine q_ci (va_runV (As := []) (rest := [.int (nI (L + 4 * kk + e9)), .int ((pkp TW (L + 4 * kk) e9) <<< (8 &&& 31)), .int (nI kk), .ref n]) ⟨hx, hb, hml, hown, hts⟩ (kJ0_length_8abf5 l E (va_up F n (some (aI E 5 gf2))) (n + 1) t tb TW.length (tx TW) (q_ne (by omega) htF) (q_ne (by omega) htbF)) (cwV 0 hts gL_taught_J0_length_8abf5 rfl rfl rfl (by decide +kernel) ⟨(Nat.le_of_ble_eq_true rfl), (Nat.le_of_ble_eq_true rfl)⟩) (q_pV hA hW hS (ci := 0) rfl (q_ne (by omega) htF)) rfl rfl hl.1 rfl (lv_room (Nat.le_of_ble_eq_true rfl)) dL_taught_62 ⟨(by show _ ≤ 421; omega), (by show _ ≤ 3785; omega)⟩) hS (fun r_62 f_62 n_62 H locs hp hW hS => ?_)
                    obtain ⟨rfl, rfl, rfl⟩ := hp
                    have hW : q_W E (va_up F n (some (aI E 5 gf2))) (n + 1) H := hW
                    refine lv_icmp_ge (tgt := 77) hx hb dL_taught_65 (by decide) (fun c_65 => ?_) (fun c_65 => ?_)
                    · have hch : cT TW (L + 4 * kk + e9) = 32 := if_neg (by have h8 := q_leN (by omega) c_65; omega)
                      refine lv_bipush (v := 32) hx hb dL_taught_77 (by decide) ?_
                      refine lv_ior hx hb dL_taught_79 ?_
                      rw [show (pkp TW (L + 4 * kk) e9 <<< ((8 : Int32) &&& 31)) ||| (32 : Int32) = pkp TW (L + 4 * kk) (e9 + 1) from by rw [← hch]; rfl]
                      refine q_iast hx hb hA hW hS q_eq (vp_in_nI hkl (by decide)) dL_taught_80 (fun H locs hW hS => ?_)
                      rw [show (nI kk).toNatClampNeg = kk from (nI_clamp (by omega))] at hW
                      rw [q_upup] at hW
                      have hW : q_W E (va_up F n (some (aI E 5 (upd gf2 kk (pkp TW (L + 4 * kk) (e9 + 1)))))) (n + 1) H := hW
                      refine lv_iinc (v := nI (L + 4 * kk + (e9 + 1))) (lv' := [(5, .int (nI (L + 4 * kk + (e9 + 1)))), (0, .ref a), (1, .ref t), (2, .ref n), (3, .int (nI L)), (4, .int (nI kk))]) hx hb dL_taught_81 hl (k := 5) rfl (nI_1 _) (by decide) rfl (fun ls hl => ?_)
                      refine lv_goto (tgt := 36) hx hb dL_taught_84 (by decide) ?_
                      exact ih (e9 + 1) (upd gf2 kk (pkp TW (L + 4 * kk) (e9 + 1))) hel (fun q hq => (if_neg (by omega)).trans (hgf2 q hq)) (if_pos rfl) (by omega) _ _ _ hW hS (lv_sub hl [1, 2, 3, 4, 5, 0] rfl)
                    · have hcl : L + 4 * kk + e9 < TW.length := q_gtn (by omega) c_65
                      have hch : cT TW (L + 4 * kk + e9) = tx TW (L + 4 * kk + e9) := if_pos hcl
                      refine lv_aload_n hx hb dL_taught_68 rfl (lv_at hl 1 rfl) ?_
                      refine lv_iload hx hb dL_taught_69 (lv_at hl 5 rfl) ?_
                      refine q_ci (va_runV (As := [.int (nI (L + 4 * kk + e9))]) (rest := [.int ((pkp TW (L + 4 * kk) e9) <<< (8 &&& 31)), .int (nI kk), .ref n]) ⟨hx, hb, hml, hown, hts⟩ (kJ0_charAt_5068e l E (va_up F n (some (aI E 5 gf2))) (n + 1) t tb (L + 4 * kk + e9) TW (q_ne (by omega) htF) (q_ne (by omega) htbF) hcl (by omega) ho) (cwV 1 hts gL_taught_J0_charAt_5068e rfl rfl rfl (by decide +kernel) ⟨(Nat.le_of_ble_eq_true rfl), (Nat.le_of_ble_eq_true rfl)⟩) (q_pV hA hW hS (ci := 0) rfl (q_ne (by omega) htF)) rfl rfl hl.1 rfl (lv_room (Nat.le_of_ble_eq_true rfl)) dL_taught_71 ⟨(by show _ ≤ 421; omega), (by show _ ≤ 3785; omega)⟩) hS (fun r_71 f_71 n_71 H locs hp hW hS => ?_)
                      obtain ⟨rfl, rfl, rfl⟩ := hp
                      have hW : q_W E (va_up F n (some (aI E 5 gf2))) (n + 1) H := hW
                      refine lv_goto (tgt := 79) hx hb dL_taught_74 (by decide) ?_
                      refine lv_ior hx hb dL_taught_79 ?_
                      rw [show (pkp TW (L + 4 * kk) e9 <<< ((8 : Int32) &&& 31)) ||| (tx TW (L + 4 * kk + e9) : Int32) = pkp TW (L + 4 * kk) (e9 + 1) from by rw [← hch]; rfl]
                      refine q_iast hx hb hA hW hS q_eq (vp_in_nI hkl (by decide)) dL_taught_80 (fun H locs hW hS => ?_)
                      rw [show (nI kk).toNatClampNeg = kk from (nI_clamp (by omega))] at hW
                      rw [q_upup] at hW
                      have hW : q_W E (va_up F n (some (aI E 5 (upd gf2 kk (pkp TW (L + 4 * kk) (e9 + 1)))))) (n + 1) H := hW
                      refine lv_iinc (v := nI (L + 4 * kk + (e9 + 1))) (lv' := [(5, .int (nI (L + 4 * kk + (e9 + 1)))), (0, .ref a), (1, .ref t), (2, .ref n), (3, .int (nI L)), (4, .int (nI kk))]) hx hb dL_taught_81 hl (k := 5) rfl (nI_1 _) (by decide) rfl (fun ls hl => ?_)
                      refine lv_goto (tgt := 36) hx hb dL_taught_84 (by decide) ?_
                      exact ih (e9 + 1) (upd gf2 kk (pkp TW (L + 4 * kk) (e9 + 1))) hel (fun q hq => (if_neg (by omega)).trans (hgf2 q hq)) (if_pos rfl) (by omega) _ _ _ hW hS (lv_sub hl [1, 2, 3, 4, 5, 0] rfl)
              exact K36 _ 0 (upd gf1 kk 0) (by decide) (fun q hq => (if_neg (by omega)).trans (hgf q hq)) (if_pos rfl) (Nat.lt_succ_self _) _ _ _ hW hS (lv_sub hl [1, 2, 3, 4, 5, 0] rfl)
        have hW : q_W E (va_up F n (some (aI E 5 gf))) (n + 1) H := by rw [va_up_id hnF]; exact hW
        exact K17 _ 0 gf (by decide) (fun q hq => absurd hq (Nat.not_lt_zero _)) (Nat.lt_succ_self _) _ _ _ hW hS (lv_sub hl [1, 2, 3, 4, 0] rfl)
  exact K6 _ (va_up f n (some (aI E 5 (fun _ => 0)))) 0 g (fun _ => 0) (q_ne (by omega) ht) (q_ne (by omega) htb) q_eq (hM.frame (fun q hq => q_upn (by have := hQ q hq; omega)) (Nat.le_succ _) (Nat.le_refl _)) (fun i hi => absurd hi (Nat.not_lt_zero _)) (by omega) (fun z9 g0 g1 => va_up_ne _ _ (by omega)) (Nat.lt_succ_self _) _ _ _ hW hS (lv_sub hl [2, 3, 1, 0] rfl)

