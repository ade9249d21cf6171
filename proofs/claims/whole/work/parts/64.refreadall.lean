/-! all tokens of the reference -/
theorem endF_all {g : Nat → Int32} {L : Nat} {c : Int32} : ∀ (m j q : Nat), j ≤ q → q < t_endF g L c m j → b_goes c (t_at g L q) = true
  | 0, j, q, h1, h2 => by
    have h2 : q < j := h2
    omega
  | m + 1, j, q, h1, h2 => by
    unfold t_endF at h2
    by_cases h : j < L ∧ b_goes c (t_at g L j) = true
    · rw [if_pos h] at h2
      by_cases e : j = q
      · rw [← e]; exact h.2
      · exact endF_all m (j + 1) q (by omega) h2
    · rw [if_neg h] at h2
      omega
theorem end_lets {g : Nat → Int32} {L ps : Nat} (hc : b_let (t_at g L ps) = true) : ∀ q, q < t_end g L ps - ps → b_let (t_at g L (ps + q)) = true := by
  intro q hq
  obtain ⟨z, -, -, -, -, hd, -⟩ := let_at hc
  rcases Nat.eq_zero_or_pos q with e | e
  · rw [e]; exact hc
  · have z := endF_all (g := g) (L := L) (c := t_at g L ps) (L - (ps + 1)) (ps + 1) (ps + q) (by omega) (by show ps + q < t_end g L ps; omega)
    rw [goes_let hc hd] at z
    exact z
theorem K_37 {g : Nat → Int32} {L j : Nat} (h : t_K g L j = 37) : b_let (t_at g L (t_ps g L j)) = true ∧ t_end g L (t_ps g L j) - t_ps g L j ≤ 8 ∧ t_W g L j = t_wor g L (t_ps g L j) (t_end g L (t_ps g L j)) := by
  unfold t_K at h
  split at h
  · next hp =>
    split at h
    · unfold t_kind at h
      by_cases hc : b_let (t_at g L (t_ps g L j)) = true
      · rw [if_pos hc] at h
        split at h
        · next h8 => exact ⟨hc, h8, if_pos hp⟩
        · cases h
      · rw [if_neg hc] at h
        split at h
        · split at h <;> cases h
        · have hne : ¬ t_at g L (t_ps g L j) = -1 := by
            obtain ⟨z, hz, e⟩ := at_byte (g := g) hp
            rw [e]; exact nI_m1 (by omega)
          rcases k_sign_ne hne with z | z <;> omega
    · cases h
  · cases h
def r_RA (r9 : q_R) (g : Nat → Int32) (L i : Nat) : Prop := (∀ j, j < i → t_ps g L j < L ∧ r9 2 j = nI (m_kd (t_K g L j)) ∧ r9 4 j = nI (t_ps g L j) ∧ r9 5 j = nI (t_end g L (t_ps g L j) - t_ps g L j) ∧ (t_K g L j = 38 → r9 3 j = (t_W g L j).toInt32)) ∧ ∀ j, j + 1 < i → t_K g L j ≠ 40
theorem r_RA.more {r9 r1 : q_R} {g : Nat → Int32} {L i : Nat} (h : r_RA r9 g L i) (hp : t_ps g L i < L) (hb : 0 < i → t_K g L (i - 1) ≠ 40) {y : Int32} (h2 : r1 2 = upd (r9 2) i (nI (m_kd (t_K g L i)))) (h4 : r1 4 = upd (r9 4) i (nI (t_ps g L i))) (h5 : r1 5 = upd (r9 5) i (nI (t_end g L (t_ps g L i) - t_ps g L i))) (h3 : ∀ q, q ≠ i → r1 3 q = r9 3 q) (h38 : t_K g L i = 38 → r1 3 i = (t_W g L i).toInt32) : r_RA r1 g L (i + 1) := by
  refine ⟨fun j hj => ?_, fun j hj => ?_⟩
  · by_cases e : j = i
    · subst e
      exact ⟨hp, by rw [h2, z_us], by rw [h4, z_us], by rw [h5, z_us], h38⟩
    · obtain ⟨a1, a2, a3, a4, a5⟩ := h.1 j (by omega)
      exact ⟨a1, by rw [h2, z_un e]; exact a2, by rw [h4, z_un e]; exact a3, by rw [h5, z_un e]; exact a4, fun k => by rw [h3 j e]; exact a5 k⟩
  · by_cases e : j + 1 < i
    · exact h.2 j e
    · have e2 : j = i - 1 := by omega
      rw [e2]; exact hb (by omega)
theorem r_RA.fin {r r9 r1 : q_R} {g : Nat → Int32} {L i : Nat} (h : r_RA r9 g L i) (htp : r_tp r1 g L) (hi : i ≤ 401) (hx : (0 < i ∧ t_K g L (i - 1) = 40) ∨ L ≤ t_ps g L i) (h2 : r1 2 = upd (r9 2) i 71) (h4 : r1 4 = upd (r9 4) i (nI L)) (h3 : r1 3 = r9 3) (h5 : r1 5 = r9 5) : ∃ T, T ≤ 400 ∧ (t_K g L T = 39 ∨ t_K g L T = 40) ∧ (∀ j, j < T → t_K g L j ≠ 39 ∧ t_K g L j ≠ 40) ∧ r_T r1 (t_K g L) (t_W g L) T ∧ ∀ j, j ≤ T → r1 4 j = nI (t_P g L j) := by
  have main : ∀ T, T ≤ 400 → (T < i ∨ (T = i ∧ t_K g L i = 39 ∧ L ≤ t_ps g L i)) → (t_K g L T = 39 ∨ t_K g L T = 40) → (∀ j, j < T → t_K g L j ≠ 40) → ∃ T, T ≤ 400 ∧ (t_K g L T = 39 ∨ t_K g L T = 40) ∧ (∀ j, j < T → t_K g L j ≠ 39 ∧ t_K g L j ≠ 40) ∧ r_T r1 (t_K g L) (t_W g L) T ∧ ∀ j, j ≤ T → r1 4 j = nI (t_P g L j) := by
    intro T hT hTi hK h40
    have lo : ∀ j, j ≤ T → j < i ∨ (j = i ∧ t_K g L i = 39 ∧ L ≤ t_ps g L i) := fun j hj => by
      rcases Nat.lt_or_ge j i with h9 | h9
      · exact Or.inl h9
      · rcases hTi with z | z
        · omega
        · exact Or.inr ⟨by omega, z.2⟩
    refine ⟨T, hT, hK, fun j hj => ⟨?_, h40 j hj⟩, ⟨fun j hj => ?_, fun j hj hk => ?_, t_ps g L, fun j => t_end g L (t_ps g L j) - t_ps g L j, fun j hj hk => ?_, fun a b ha hb hka hkb => ?_⟩, fun j hj => ?_⟩
    · rcases lo j (by omega) with z | z
      · exact t_K_39 (h.1 j z).1
      · omega
    · rcases lo j hj with z | ⟨z, z2, -⟩
      · rw [h2, z_un (by omega)]; exact (h.1 j z).2.1
      · rw [z, h2, z_us, z2]; rfl
    · rcases lo j hj with z | ⟨z, z2, -⟩
      · rw [h3]; exact (h.1 j z).2.2.2.2 hk
      · rw [z, z2] at hk; cases hk
    · rcases lo j hj with z | ⟨z, z2, -⟩
      · obtain ⟨a1, a2, a3, a4, a5⟩ := h.1 j z
        have e := t_end_le (g := g) a1
        have e2 := t_end_gt (g := g) (L := L) (j := t_ps g L j)
        have hL := htp.2.1
        exact ⟨by rw [h4, z_un (by omega)]; exact a3, by rw [h5]; exact a4, by show t_ps g L j + (t_end g L (t_ps g L j) - t_ps g L j) ≤ 1600; omega, (K_37 hk).2.1⟩
      · rw [z, z2] at hk; cases hk
    · obtain ⟨c1, c2, c3⟩ := K_37 hka
      obtain ⟨d1, d2, d3⟩ := K_37 hkb
      have pa : t_ps g L a < L := at_in (fun h9 => by rw [h9] at c1; exact absurd c1 (by decide))
      have pb : t_ps g L b < L := at_in (fun h9 => by rw [h9] at d1; exact absurd d1 (by decide))
      have ea := t_end_le (g := g) pa
      have eb := t_end_le (g := g) pb
      have ga := t_end_gt (g := g) (L := L) (j := t_ps g L a)
      have gb := t_end_gt (g := g) (L := L) (j := t_ps g L b)
      have z := wor_iff (g := g) (L := L) (end_lets c1) (end_lets d1) c2 d2
      rw [show t_ps g L a + (t_end g L (t_ps g L a) - t_ps g L a) = t_end g L (t_ps g L a) by omega, show t_ps g L b + (t_end g L (t_ps g L b) - t_ps g L b) = t_end g L (t_ps g L b) by omega, ← c3, ← d3] at z
      rw [z]
      refine ⟨fun y => ⟨y.1, fun k hk => ?_⟩, fun y => ⟨y.1, fun k hk => ?_⟩⟩
      · have hk : k < t_end g L (t_ps g L a) - t_ps g L a := hk
        have y1 := y.1
        rw [htp.2.2 _ (by omega), htp.2.2 _ (by omega)]; exact y.2 k hk
      · have y1 : t_end g L (t_ps g L a) - t_ps g L a = t_end g L (t_ps g L b) - t_ps g L b := y.1
        have w := y.2 k hk
        rw [htp.2.2 _ (by omega), htp.2.2 _ (by omega)] at w
        exact w
    · rcases lo j hj with z | ⟨z, z2, z3⟩
      · obtain ⟨a1, a2, a3, a4, a5⟩ := h.1 j z
        rw [h4, z_un (by omega), a3]
        unfold t_P
        rw [if_pos a1]
      · rw [z, h4, z_us]
        unfold t_P
        rw [if_neg (by omega)]
  by_cases hb : 0 < i ∧ t_K g L (i - 1) = 40
  · exact main (i - 1) (by omega) (Or.inl (by omega)) (Or.inr hb.2) (fun j hj => h.2 j (by omega))
  · have hL := hx.resolve_left hb
    have h4 : i ≤ 400 := by
      rcases Nat.lt_or_ge i 401 with z | z
      · omega
      · have e : i = 401 := by omega
        subst e
        exact absurd ⟨by decide, by unfold t_K; rw [if_pos (h.1 400 (by decide)).1, if_neg (by decide)]⟩ hb
    exact main i h4 (Or.inr ⟨rfl, t_K_end hL, hL⟩) (Or.inl (t_K_end hL)) (fun j hj => by
      by_cases e : j + 1 < i
      · exact h.2 j e
      · rw [show j = i - 1 by omega]; exact fun k => hb ⟨by omega, k⟩)

set_option maxHeartbeats 4000000 in
set_option maxRecDepth 100000 in
theorem kX14_readAll (l : Launch) (E : q_E) (f : q_H) (n : Nat) (M : Nat) (r : q_R) (g : Nat → Int32) (L : Nat)  (hm : RM E f M r) (htp : r_tp r g L) : Met l yX14_readAll wsX14_readAll ({ frames := 7, cells := 0, slots := 0, locals := 157 }) (q_P E [.ref M] f n) (q_Qv E (fun f1 n1 => ∃ (r1 : q_R) (T : Nat), T ≤ 400 ∧ (t_K g L T = 39 ∨ t_K g L T = 40) ∧ (∀ j, j < T → t_K g L j ≠ 39 ∧ t_K g L j ≠ 40) ∧ r_T r1 (t_K g L) (t_W g L) T ∧ (∀ j, j ≤ T → r1 4 j = nI (t_P g L j)) ∧ (∀ j, (j < 2 ∨ 5 < j) → r1 j = r j) ∧ rO E f M r1 = f1 ∧ n = n1)) 0 0 (q_ge E) := by
  refine Met.ofW (cc := cX14_readAll) (maxL := 3) (ret := none) (by decide) rfl ?_
  intro p e s m args below meth c s₁ B hml hv
  obtain ⟨rfl, hA, hW⟩ := hv
  have hx := B.exec
  have hb := B.bytes
  have hr := B.returns
  have hts := atoms_spec (ws := wsX14_readAll) B.pre
  have hown : s.vm.findClass RX14 = some m.cls := findClass_of_methodNamed B.named
  have hlocks := B.notSynchronized
  have hS : va_S (q_ge E) s.heap s.heap [] := va_S.rf
  have iX14 : ∀ w ∈ wsX140, w ∈ wsX14_readAll := by decide +kernel
  have hl := lv_entry ([.ref M]) (n := 3) (Nat.le_of_ble_eq_true rfl)
  rw [lg_entry_eq]
  generalize (lg_sl ([.ref M]) ++ List.replicate (3 - (lg_sl ([.ref M])).length) Slot.unset).toArray = ls at hl ⊢
  have hl : lv_has ls 3 [(0, .ref M)] := hl
  have hmE := hm.eq
  rw [hm.eq] at hW
  have hL := htp.2.1
  refine lv_aload_n hx hb dX14_readAll_0 rfl (lv_at hl 0 rfl) ?_
  refine lv_iconst (v := 0) hx hb dX14_readAll_1 (by decide) ?_
  refine q_ci (va_runV (As := [.int 0]) (rest := []) ⟨hx, hb, hml, hown, hts⟩ (kX14_skip l E (rO E f M r) n M r g L 0 rO_K htp (Nat.zero_le _)) (cwV 1 hts gX14_readAll_X14_skip rfl rfl rfl (by decide +kernel) ⟨(Nat.le_of_ble_eq_true rfl), (Nat.le_of_ble_eq_true rfl)⟩) (q_pV hA hW hS (ci := 12) rfl rO_0) rfl rfl hl.1 rfl (lv_room (Nat.le_of_ble_eq_true rfl)) dX14_readAll_2 ⟨Nat.le_of_ble_eq_true rfl, Nat.le_of_ble_eq_true rfl⟩) hS (fun r_2 f_2 n_2 H locs hp hW hS => ?_)
  obtain ⟨rfl, rfl, rfl⟩ := hp
  have hW : q_W E (rO E f M r) n H := hW
  refine lv_istore_n (lv' := [(1, .int (nI (t_skip g L 0))), (0, .ref M)]) hx hb dX14_readAll_5 rfl hl (by decide) rfl (fun ls hl => ?_)
  refine lv_iconst (v := 0) hx hb dX14_readAll_6 (by decide) ?_
  refine lv_istore_n (lv' := [(2, .int 0), (1, .int (nI (t_skip g L 0))), (0, .ref M)]) hx hb dX14_readAll_7 rfl hl (by decide) rfl (fun ls hl => ?_)
  have K8 : ∀ (fu : Nat) (R_9 : q_R) (i : Nat) (htp9 : r_tp R_9 g L) (hi : i ≤ 401) (hps9 : t_ps g L i ≤ L) (hRA : r_RA R_9 g L i) (ho9 : ∀ j, (j < 2 ∨ 5 < j) → R_9 j = r j) (hm : 401 - i < fu) (H : Heap) (locs : List Loc) (ls : Array Slot), q_W E (rO E f M R_9) n H → va_S (q_ge E) s.heap H locs → lv_has ls 3 [(0, .ref M), (1, .int (nI (t_ps g L i))), (2, .int (nI i))] → W p l e (headSpec wsX14_readAll ({ frames := 7, cells := 0, slots := 0, locals := 157 })).room s m ([.ref M] : List Value).toArray below meth c H locs 0 0 (MQ below (q_Qv E (fun f1 n1 => ∃ (r1 : q_R) (T : Nat), T ≤ 400 ∧ (t_K g L T = 39 ∨ t_K g L T = 40) ∧ (∀ j, j < T → t_K g L j ≠ 39 ∧ t_K g L j ≠ 40) ∧ r_T r1 (t_K g L) (t_W g L) T ∧ (∀ j, j ≤ T → r1 4 j = nI (t_P g L j)) ∧ (∀ j, (j < 2 ∨ 5 < j) → r1 j = r j) ∧ rO E f M r1 = f1 ∧ n = n1)) ([.ref M] : List Value).toArray s 0 0 (q_ge E)) (F0 m 8 ls []) := by
    intro fu
    induction fu with
    | zero =>
      intro R_9 i htp9 hi hps9 hRA ho9 hm
      exact absurd hm (Nat.not_lt_zero _)
    | succ fu ih =>
      intro R_9 i htp9 hi hps9 hRA ho9 hm H locs ls hW hS hl
      refine lv_iload_n hx hb dX14_readAll_8 rfl (lv_at hl 1 rfl) ?_
      refine lv_aload_n hx hb dX14_readAll_9 rfl (lv_at hl 0 rfl) ?_
      refine q_get hx hb hts hown hA hW iX14 rO_0 rfl 2 (by decide) (hts (.fieldLink RX14 73 "HighRecipesModel" "bytes" "I") (by decide +kernel)) (fun _ h9 => h9) (v := .int (nI L)) (congrArg (fun z => some (Value.int z)) htp9.1) dX14_readAll_10 ?_
      refine lv_icmp_ge (tgt := 65) hx hb dX14_readAll_13 (by decide) (fun c_13 => ?_) (fun c_13 => ?_)
      · have hex : L ≤ t_ps g L i := by rcases Nat.lt_or_ge (t_ps g L i) L with h9 | h9; exact absurd c_13 (nI_ge h9 (by omega)); exact h9
        refine lv_aload_n hx hb dX14_readAll_65 rfl (lv_at hl 0 rfl) ?_
        refine q_get hx hb hts hown hA hW iX14 rO_0 rfl 4 (by decide) (hts (.fieldLink RX14 17 "HighRecipesModel" "kind" "[I") (by decide +kernel)) (fun _ h9 => h9) (v := .ref (M + 2)) rfl dX14_readAll_66 ?_
        refine lv_iload_n hx hb dX14_readAll_69 rfl (lv_at hl 2 rfl) ?_
        refine lv_bipush (v := 71) hx hb dX14_readAll_70 (by decide) ?_
        refine q_ast hx hb hA hW hS (rO_2 (g := R_9 2) rfl) i rfl (by omega) (by decide) dX14_readAll_72 (fun H locs hW hS => ?_)
        have hW := q_sa 2 hW rfl rfl
        refine lv_aload_n hx hb dX14_readAll_73 rfl (lv_at hl 0 rfl) ?_
        refine q_get hx hb hts hown hA hW iX14 rO_0 rfl 6 (by decide) (hts (.fieldLink RX14 23 "HighRecipesModel" "position" "[I") (by decide +kernel)) (fun _ h9 => h9) (v := .ref (M + 4)) rfl dX14_readAll_74 ?_
        refine lv_iload_n hx hb dX14_readAll_77 rfl (lv_at hl 2 rfl) ?_
        refine lv_aload_n hx hb dX14_readAll_78 rfl (lv_at hl 0 rfl) ?_
        refine q_get hx hb hts hown hA hW iX14 rO_0 rfl 2 (by decide) (hts (.fieldLink RX14 73 "HighRecipesModel" "bytes" "I") (by decide +kernel)) (fun _ h9 => h9) (v := .int (nI L)) (congrArg (fun z => some (Value.int z)) htp9.1) dX14_readAll_79 ?_
        refine q_ast hx hb hA hW hS (rO_4 (g := R_9 4) rfl) i rfl (by omega) (by decide) dX14_readAll_82 (fun H locs hW hS => ?_)
        have hW := q_sa 4 hW rfl rfl
        exact q_vret hx hb hr hlocks hW hS (by obtain ⟨T, y1, y2, y3, y4, y5⟩ := hRA.fin (r := r) (r1 := (rp (rp R_9 2 (upd (R_9 2) i 71)) 4 (upd (R_9 4) i (nI L)))) htp9 hi (Or.inr hex) rfl rfl rfl rfl; exact ⟨_, T, y1, y2, y3, y4, y5, (fun j hj => (rp_n (by omega)).trans ((rp_n (by omega)).trans (ho9 j hj))), rfl, rfl⟩) (Nat.le_of_ble_eq_true rfl) (Nat.le_of_ble_eq_true rfl) dX14_readAll_83
      · have hp9 : t_ps g L i < L := by rcases Nat.lt_or_ge (t_ps g L i) L with h9 | h9; exact h9; exact absurd ((nI_leI (by omega) (by omega)).2 h9) c_13
        refine lv_iload_n hx hb dX14_readAll_16 rfl (lv_at hl 2 rfl) ?_
        refine lv_if_eq (tgt := 33) hx hb dX14_readAll_17 (by decide) (fun c_17 => ?_) (fun c_17 => ?_)
        · have hi0 : i = 0 := (nI_eq (b := 0) (by omega) (by decide)).1 c_17
          have hi4 : i ≤ 400 := by omega
          refine lv_aload_n hx hb dX14_readAll_33 rfl (lv_at hl 0 rfl) ?_
          refine lv_aload_n hx hb dX14_readAll_34 rfl (lv_at hl 0 rfl) ?_
          refine lv_iload_n hx hb dX14_readAll_35 rfl (lv_at hl 1 rfl) ?_
          refine lv_iload_n hx hb dX14_readAll_36 rfl (lv_at hl 2 rfl) ?_
          refine q_ci (va_runV (As := [.int (nI (t_ps g L i)), .int (nI i)]) (rest := [.ref M]) ⟨hx, hb, hml, hown, hts⟩ (kX14_read l E (rO E f M R_9) n M R_9 g L (t_ps g L i) i rO_K htp9 hp9 hi4) (cwV 2 hts gX14_readAll_X14_read rfl rfl rfl (by decide +kernel) ⟨(Nat.le_of_ble_eq_true rfl), (Nat.le_of_ble_eq_true rfl)⟩) (q_pV hA hW hS (ci := 12) rfl rO_0) rfl rfl hl.1 rfl (lv_room (Nat.le_of_ble_eq_true rfl)) dX14_readAll_37 ⟨Nat.le_of_ble_eq_true rfl, Nat.le_of_ble_eq_true rfl⟩) hS (fun r_37 f_37 n_37 H locs hp hW hS => ?_)
          obtain ⟨rfl, R_37, x4, x2, x5, x3, x38, xo, rfl, rfl⟩ := hp
          have htp37 : r_tp R_37 g L := ⟨by rw [xo 101 (by decide)]; exact htp9.1, hL, fun j hj => by rw [xo 1 (by decide)]; exact htp9.2.2 j hj⟩
          rw [rO_rO] at hW
          have hW : q_W E (rO E f M R_37) n H := hW
          refine q_ci (va_runV (As := [.int (nI (t_end g L (t_ps g L i)))]) (rest := []) ⟨hx, hb, hml, hown, hts⟩ (kX14_skip l E (rO E f M R_37) n M R_37 g L (t_end g L (t_ps g L i)) rO_K htp37 (t_end_le hp9)) (cwV 1 hts gX14_readAll_X14_skip rfl rfl rfl (by decide +kernel) ⟨(Nat.le_of_ble_eq_true rfl), (Nat.le_of_ble_eq_true rfl)⟩) (q_pV hA hW hS (ci := 12) rfl rO_0) rfl rfl hl.1 rfl (lv_room (Nat.le_of_ble_eq_true rfl)) dX14_readAll_40 ⟨Nat.le_of_ble_eq_true rfl, Nat.le_of_ble_eq_true rfl⟩) hS (fun r_40 f_40 n_40 H locs hp hW hS => ?_)
          obtain ⟨rfl, rfl, rfl⟩ := hp
          have hW : q_W E (rO E f M R_37) n H := hW
          refine lv_istore_n (lv' := [(1, .int (nI (t_skip g L (t_end g L (t_ps g L i))))), (0, .ref M), (2, .int (nI i))]) hx hb dX14_readAll_43 rfl hl (by decide) rfl (fun ls hl => ?_)
          refine lv_iload_n hx hb dX14_readAll_44 rfl (lv_at hl 2 rfl) ?_
          refine lv_sipush (v := 400) hx hb dX14_readAll_45 (by decide) ?_
          refine lv_icmp_ne (tgt := 59) hx hb dX14_readAll_48 (by decide) (fun c_48 => ?_) (fun c_48 => ?_)
          · have ne4 : ¬ i = 400 := fun h9 => c_48 (by rw [h9]; rfl)
            have hKi : t_K g L i = t_kind (t_at g L (t_ps g L i)) (t_end g L (t_ps g L i) - t_ps g L i) (t_wor g L (t_ps g L i) (t_end g L (t_ps g L i))) := by unfold t_K; rw [if_pos hp9, if_pos (by omega)]
            refine lv_iinc (v := nI (i + 1)) (lv' := [(2, .int (nI (i + 1))), (1, .int (nI (t_skip g L (t_end g L (t_ps g L i))))), (0, .ref M)]) hx hb dX14_readAll_59 hl (k := 2) rfl (nI_1 i) (by decide) rfl (fun ls hl => ?_)
            refine lv_goto (tgt := 8) hx hb dX14_readAll_62 (by decide) ?_
            exact ih R_37 (i + 1) htp37 (by omega) (t_skip_le (t_end_le hp9)) (hRA.more (y := 0) hp9 (fun h9 => by omega) (by rw [hKi]; exact x2) x4 x5 x3 (fun k => by rw [hKi] at k; rw [x38 k]; unfold t_W; rw [if_pos hp9])) (fun j hj => (xo j hj).trans (ho9 j hj)) (by omega) _ _ _ hW hS (lv_sub hl [2, 1, 0] rfl)
          · have e4 : i = 400 := (nI_eq (b := 400) (by omega) (by decide)).1 c_48
            have hKi : t_K g L i = 40 := by unfold t_K; rw [if_pos hp9, if_neg (by omega)]
            refine lv_aload_n hx hb dX14_readAll_51 rfl (lv_at hl 1 rfl) ?_
            refine q_get hx hb hts hown hA hW iX14 rO_0 rfl 4 (by decide) (hts (.fieldLink RX14 17 "HighRecipesModel" "kind" "[I") (by decide +kernel)) (fun _ h9 => h9) (v := .ref (M + 2)) rfl dX14_readAll_52 ?_
            refine lv_iload_n hx hb dX14_readAll_55 rfl (lv_at hl 2 rfl) ?_
            refine lv_bipush (v := 70) hx hb dX14_readAll_56 (by decide) ?_
            refine q_ast hx hb hA hW hS (rO_2 (g := R_37 2) rfl) i rfl (by omega) (by decide) dX14_readAll_58 (fun H locs hW hS => ?_)
            have hW := q_sa 2 hW rfl rfl
            refine lv_iinc (v := nI (i + 1)) (lv' := [(2, .int (nI (i + 1))), (1, .int (nI (t_skip g L (t_end g L (t_ps g L i))))), (0, .ref M)]) hx hb dX14_readAll_59 hl (k := 2) rfl (nI_1 i) (by decide) rfl (fun ls hl => ?_)
            refine lv_goto (tgt := 8) hx hb dX14_readAll_62 (by decide) ?_
            exact ih (rp R_37 2 (upd (R_37 2) i 70)) (i + 1) htp37 (by omega) (t_skip_le (t_end_le hp9)) (hRA.more (y := 0) hp9 (fun h9 => by omega) (by rw [hKi]; show upd (R_37 2) i 70 = _; rw [x2]; funext q; by_cases e : q = i; rw [e, z_us, z_us]; rfl; rw [z_un e, z_un e, z_un e]) x4 x5 x3 (fun k => by rw [hKi] at k; cases k)) (fun j hj => (rp_n (by omega)).trans ((xo j hj).trans (ho9 j hj))) (by omega) _ _ _ hW hS (lv_sub hl [2, 1, 0] rfl)
        · have hi0 : 0 < i := by rcases Nat.eq_zero_or_pos i with h9 | h9; exact absurd (by rw [h9]; rfl) c_17; exact h9
          refine lv_aload_n hx hb dX14_readAll_20 rfl (lv_at hl 0 rfl) ?_
          refine q_get hx hb hts hown hA hW iX14 rO_0 rfl 4 (by decide) (hts (.fieldLink RX14 17 "HighRecipesModel" "kind" "[I") (by decide +kernel)) (fun _ h9 => h9) (v := .ref (M + 2)) rfl dX14_readAll_21 ?_
          refine lv_iload_n hx hb dX14_readAll_24 rfl (lv_at hl 2 rfl) ?_
          refine lv_iconst (v := 1) hx hb dX14_readAll_25 (by decide) ?_
          refine lv_isub hx hb dX14_readAll_26 ?_
          rw [show (1 : Int32) = nI 1 from rfl, pk_sub (by omega)]
          refine q_ald hx hb hA hW (rO_2 (g := R_9 2) rfl) (i - 1) rfl (by omega) (by decide) (x := nI (m_kd (t_K g L (i - 1)))) ((hRA.1 (i - 1) (by omega)).2.1) dX14_readAll_27 ?_
          refine lv_bipush (v := 70) hx hb dX14_readAll_28 (by decide) ?_
          refine lv_icmp_eq (tgt := 65) hx hb dX14_readAll_30 (by decide) (fun c_30 => ?_) (fun c_30 => ?_)
          · have hbad : t_K g L (i - 1) = 40 := (m_kd_eq t_K_lt (by decide)).1 c_30
            refine lv_aload_n hx hb dX14_readAll_65 rfl (lv_at hl 0 rfl) ?_
            refine q_get hx hb hts hown hA hW iX14 rO_0 rfl 4 (by decide) (hts (.fieldLink RX14 17 "HighRecipesModel" "kind" "[I") (by decide +kernel)) (fun _ h9 => h9) (v := .ref (M + 2)) rfl dX14_readAll_66 ?_
            refine lv_iload_n hx hb dX14_readAll_69 rfl (lv_at hl 2 rfl) ?_
            refine lv_bipush (v := 71) hx hb dX14_readAll_70 (by decide) ?_
            refine q_ast hx hb hA hW hS (rO_2 (g := R_9 2) rfl) i rfl (by omega) (by decide) dX14_readAll_72 (fun H locs hW hS => ?_)
            have hW := q_sa 2 hW rfl rfl
            refine lv_aload_n hx hb dX14_readAll_73 rfl (lv_at hl 0 rfl) ?_
            refine q_get hx hb hts hown hA hW iX14 rO_0 rfl 6 (by decide) (hts (.fieldLink RX14 23 "HighRecipesModel" "position" "[I") (by decide +kernel)) (fun _ h9 => h9) (v := .ref (M + 4)) rfl dX14_readAll_74 ?_
            refine lv_iload_n hx hb dX14_readAll_77 rfl (lv_at hl 2 rfl) ?_
            refine lv_aload_n hx hb dX14_readAll_78 rfl (lv_at hl 0 rfl) ?_
            refine q_get hx hb hts hown hA hW iX14 rO_0 rfl 2 (by decide) (hts (.fieldLink RX14 73 "HighRecipesModel" "bytes" "I") (by decide +kernel)) (fun _ h9 => h9) (v := .int (nI L)) (congrArg (fun z => some (Value.int z)) htp9.1) dX14_readAll_79 ?_
            refine q_ast hx hb hA hW hS (rO_4 (g := R_9 4) rfl) i rfl (by omega) (by decide) dX14_readAll_82 (fun H locs hW hS => ?_)
            have hW := q_sa 4 hW rfl rfl
            exact q_vret hx hb hr hlocks hW hS (by obtain ⟨T, y1, y2, y3, y4, y5⟩ := hRA.fin (r := r) (r1 := (rp (rp R_9 2 (upd (R_9 2) i 71)) 4 (upd (R_9 4) i (nI L)))) htp9 hi (Or.inl ⟨hi0, hbad⟩) rfl rfl rfl rfl; exact ⟨_, T, y1, y2, y3, y4, y5, (fun j hj => (rp_n (by omega)).trans ((rp_n (by omega)).trans (ho9 j hj))), rfl, rfl⟩) (Nat.le_of_ble_eq_true rfl) (Nat.le_of_ble_eq_true rfl) dX14_readAll_83
          · have hnb : t_K g L (i - 1) ≠ 40 := fun h9 => c_30 (by rw [h9]; rfl)
            have hi4 : i ≤ 400 := by rcases Nat.lt_or_ge i 401 with z | z; omega; exact absurd (by rw [show i - 1 = 400 by omega]; unfold t_K; rw [if_pos (hRA.1 400 (by omega)).1, if_neg (by decide)]) hnb
            refine lv_aload_n hx hb dX14_readAll_33 rfl (lv_at hl 0 rfl) ?_
            refine lv_aload_n hx hb dX14_readAll_34 rfl (lv_at hl 0 rfl) ?_
            refine lv_iload_n hx hb dX14_readAll_35 rfl (lv_at hl 1 rfl) ?_
            refine lv_iload_n hx hb dX14_readAll_36 rfl (lv_at hl 2 rfl) ?_
            refine q_ci (va_runV (As := [.int (nI (t_ps g L i)), .int (nI i)]) (rest := [.ref M]) ⟨hx, hb, hml, hown, hts⟩ (kX14_read l E (rO E f M R_9) n M R_9 g L (t_ps g L i) i rO_K htp9 hp9 hi4) (cwV 2 hts gX14_readAll_X14_read rfl rfl rfl (by decide +kernel) ⟨(Nat.le_of_ble_eq_true rfl), (Nat.le_of_ble_eq_true rfl)⟩) (q_pV hA hW hS (ci := 12) rfl rO_0) rfl rfl hl.1 rfl (lv_room (Nat.le_of_ble_eq_true rfl)) dX14_readAll_37 ⟨Nat.le_of_ble_eq_true rfl, Nat.le_of_ble_eq_true rfl⟩) hS (fun r_37 f_37 n_37 H locs hp hW hS => ?_)
            obtain ⟨rfl, R_37, x4, x2, x5, x3, x38, xo, rfl, rfl⟩ := hp
            have htp37 : r_tp R_37 g L := ⟨by rw [xo 101 (by decide)]; exact htp9.1, hL, fun j hj => by rw [xo 1 (by decide)]; exact htp9.2.2 j hj⟩
            rw [rO_rO] at hW
            have hW : q_W E (rO E f M R_37) n H := hW
            refine q_ci (va_runV (As := [.int (nI (t_end g L (t_ps g L i)))]) (rest := []) ⟨hx, hb, hml, hown, hts⟩ (kX14_skip l E (rO E f M R_37) n M R_37 g L (t_end g L (t_ps g L i)) rO_K htp37 (t_end_le hp9)) (cwV 1 hts gX14_readAll_X14_skip rfl rfl rfl (by decide +kernel) ⟨(Nat.le_of_ble_eq_true rfl), (Nat.le_of_ble_eq_true rfl)⟩) (q_pV hA hW hS (ci := 12) rfl rO_0) rfl rfl hl.1 rfl (lv_room (Nat.le_of_ble_eq_true rfl)) dX14_readAll_40 ⟨Nat.le_of_ble_eq_true rfl, Nat.le_of_ble_eq_true rfl⟩) hS (fun r_40 f_40 n_40 H locs hp hW hS => ?_)
            obtain ⟨rfl, rfl, rfl⟩ := hp
            have hW : q_W E (rO E f M R_37) n H := hW
            refine lv_istore_n (lv' := [(1, .int (nI (t_skip g L (t_end g L (t_ps g L i))))), (0, .ref M), (2, .int (nI i))]) hx hb dX14_readAll_43 rfl hl (by decide) rfl (fun ls hl => ?_)
            refine lv_iload_n hx hb dX14_readAll_44 rfl (lv_at hl 2 rfl) ?_
            refine lv_sipush (v := 400) hx hb dX14_readAll_45 (by decide) ?_
            refine lv_icmp_ne (tgt := 59) hx hb dX14_readAll_48 (by decide) (fun c_48 => ?_) (fun c_48 => ?_)
            · have ne4 : ¬ i = 400 := fun h9 => c_48 (by rw [h9]; rfl)
              have hKi : t_K g L i = t_kind (t_at g L (t_ps g L i)) (t_end g L (t_ps g L i) - t_ps g L i) (t_wor g L (t_ps g L i) (t_end g L (t_ps g L i))) := by unfold t_K; rw [if_pos hp9, if_pos (by omega)]
              refine lv_iinc (v := nI (i + 1)) (lv' := [(2, .int (nI (i + 1))), (1, .int (nI (t_skip g L (t_end g L (t_ps g L i))))), (0, .ref M)]) hx hb dX14_readAll_59 hl (k := 2) rfl (nI_1 i) (by decide) rfl (fun ls hl => ?_)
              refine lv_goto (tgt := 8) hx hb dX14_readAll_62 (by decide) ?_
              exact ih R_37 (i + 1) htp37 (by omega) (t_skip_le (t_end_le hp9)) (hRA.more (y := 0) hp9 (fun _ => hnb) (by rw [hKi]; exact x2) x4 x5 x3 (fun k => by rw [hKi] at k; rw [x38 k]; unfold t_W; rw [if_pos hp9])) (fun j hj => (xo j hj).trans (ho9 j hj)) (by omega) _ _ _ hW hS (lv_sub hl [2, 1, 0] rfl)
            · have e4 : i = 400 := (nI_eq (b := 400) (by omega) (by decide)).1 c_48
              have hKi : t_K g L i = 40 := by unfold t_K; rw [if_pos hp9, if_neg (by omega)]
              refine lv_aload_n hx hb dX14_readAll_51 rfl (lv_at hl 1 rfl) ?_
              refine q_get hx hb hts hown hA hW iX14 rO_0 rfl 4 (by decide) (hts (.fieldLink RX14 17 "HighRecipesModel" "kind" "[I") (by decide +kernel)) (fun _ h9 => h9) (v := .ref (M + 2)) rfl dX14_readAll_52 ?_
              refine lv_iload_n hx hb dX14_readAll_55 rfl (lv_at hl 2 rfl) ?_
              refine lv_bipush (v := 70) hx hb dX14_readAll_56 (by decide) ?_
              refine q_ast hx hb hA hW hS (rO_2 (g := R_37 2) rfl) i rfl (by omega) (by decide) dX14_readAll_58 (fun H locs hW hS => ?_)
              have hW := q_sa 2 hW rfl rfl
              refine lv_iinc (v := nI (i + 1)) (lv' := [(2, .int (nI (i + 1))), (1, .int (nI (t_skip g L (t_end g L (t_ps g L i))))), (0, .ref M)]) hx hb dX14_readAll_59 hl (k := 2) rfl (nI_1 i) (by decide) rfl (fun ls hl => ?_)
              refine lv_goto (tgt := 8) hx hb dX14_readAll_62 (by decide) ?_
              exact ih (rp R_37 2 (upd (R_37 2) i 70)) (i + 1) htp37 (by omega) (t_skip_le (t_end_le hp9)) (hRA.more (y := 0) hp9 (fun _ => hnb) (by rw [hKi]; show upd (R_37 2) i 70 = _; rw [x2]; funext q; by_cases e : q = i; rw [e, z_us, z_us]; rfl; rw [z_un e, z_un e, z_un e]) x4 x5 x3 (fun k => by rw [hKi] at k; cases k)) (fun j hj => (rp_n (by omega)).trans ((xo j hj).trans (ho9 j hj))) (by omega) _ _ _ hW hS (lv_sub hl [2, 1, 0] rfl)
  exact K8 _ r 0 htp (Nat.zero_le _) (t_skip_le (Nat.zero_le _)) (⟨fun j hj => absurd hj (Nat.not_lt_zero _), fun j hj => absurd hj (Nat.not_lt_zero _)⟩) (fun _ _ => rfl) (Nat.lt_succ_self _) _ _ _ hW hS (lv_sub hl [2, 1, 0] rfl)
