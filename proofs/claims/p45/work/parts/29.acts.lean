/-! compares, acts and blocks out of tokens -/
def p_cs (K : Nat → Nat) (s : p_S) : p_S := p_step K (b_csign s.2.1) (p_new s)
section PV
variable (K : Nat → Nat) (Wd pN : Nat → Int64) (pn : Nat)
def p_cmp (s : p_S) : p_S := p_val K Wd pN pn 4 (p_cs K (p_val K Wd pN pn 4 s))
def p_cmpC (s : p_S) (C : q_V → q_V → Bool) : q_V → q_V → Bool := fun hd v => c_cmp (p_val K Wd pN pn 4 s).2.1 (p_valD K Wd pN pn 4 s hd v) (p_valD K Wd pN pn 4 (p_cs K (p_val K Wd pN pn 4 s)) hd v) && C hd v
def p_cmps : Nat → p_S → p_S
  | 0, s => s
  | m + 1, s => if (p_cmp K Wd pN pn s).2.1 = 17 then p_cmps m (p_take K 17 (p_cmp K Wd pN pn s)) else p_cmp K Wd pN pn s
def p_cmpsC : Nat → p_S → (q_V → q_V → Bool) → q_V → q_V → Bool
  | 0, _, C => C
  | m + 1, s, C => if (p_cmp K Wd pN pn s).2.1 = 17 then p_cmpsC m (p_take K 17 (p_cmp K Wd pN pn s)) (p_cmpC K Wd pN pn s C) else p_cmpC K Wd pN pn s C
variable (rN : Nat → Int64) (rc : Nat)
/-- behind the word that begins an act -/
def p_beg (s : p_S) : p_S := p_step K true (p_cnt (p_new s))
def p_else (B : p_S → p_S) (s : p_S) : p_S := if s.2.1 = 18 then B (p_take K 18 s) else s
def p_what (s : p_S) : p_S := p_take K 6 (p_take K (if s.2.1 = 5 then 5 else 4) s)
def p_act (B : p_S → p_S) (s : p_S) : p_S :=
  if s.2.1 = 15 then B (p_val K Wd pN pn 4 (p_beg K s))
  else if s.2.1 = 16 then p_else K B (B (p_cmps K Wd pN pn 400 (p_beg K s)))
  else if s.2.1 = 3 then p_take K 29 (p_known K Wd pN pn (p_what K (p_val K Wd pN pn 4 (p_beg K s))))
  else if s.2.1 = 7 then p_take K 29 (p_val K Wd pN pn 4 (p_take K 8 (p_known K Wd pN pn (p_beg K s))))
  else if s.2.1 = 9 then p_take K 29 (p_val K Wd pN pn 4 (p_take K 10 (p_known K Wd pN pn (p_beg K s))))
  else if s.2.1 = 11 then p_take K 29 (p_known K Wd pN pn (p_beg K s))
  else if s.2.1 = 14 then p_take K 29 (p_known K Wd rN rc (p_beg K s))
  else p_take K 29 (p_val K Wd pN pn 4 (p_beg K s))
def p_actS (RS : Nat → q_S) (B : p_S → p_S) (M : p_S → q_S) (s : p_S) : q_S :=
  if s.2.1 = 15 then k_again (p_valD K Wd pN pn 4 (p_beg K s)) (M (p_val K Wd pN pn 4 (p_beg K s)))
  else if s.2.1 = 16 then k_if (p_cmpsC K Wd pN pn 400 (p_beg K s) (fun _ _ => true)) (M (p_cmps K Wd pN pn 400 (p_beg K s))) (if (B (p_cmps K Wd pN pn 400 (p_beg K s))).2.1 = 18 then M (p_take K 18 (B (p_cmps K Wd pN pn 400 (p_beg K s)))) else k_nil)
  else if s.2.1 = 3 then k_pour pn (ix pN pn (Wd (p_what K (p_val K Wd pN pn 4 (p_beg K s))).1)).toNatClampNeg (if (p_val K Wd pN pn 4 (p_beg K s)).2.1 = 5 then 1 else 0) (p_valD K Wd pN pn 4 (p_beg K s))
  else if s.2.1 = 7 then k_heat pn (ix pN pn (Wd (p_beg K s).1)).toNatClampNeg (p_valD K Wd pN pn 4 (p_take K 8 (p_known K Wd pN pn (p_beg K s))))
  else if s.2.1 = 9 then k_boil pn (ix pN pn (Wd (p_beg K s).1)).toNatClampNeg (p_valD K Wd pN pn 4 (p_take K 10 (p_known K Wd pN pn (p_beg K s))))
  else if s.2.1 = 11 then k_empty pn (ix pN pn (Wd (p_beg K s).1)).toNatClampNeg
  else if s.2.1 = 14 then RS (ix rN rc (Wd (p_beg K s).1)).toNatClampNeg
  else if s.2.1 = 12 then k_rest pn (p_valD K Wd pN pn 4 (p_beg K s))
  else k_note (p_valD K Wd pN pn 4 (p_beg K s))
def p_acts (A : p_S → p_S) : Nat → p_S → p_S
  | 0, s => s
  | m + 1, s => if b_act s.2.1 = true then p_acts A m (A s) else s
def p_actsS (A : p_S → p_S) (M : p_S → q_S) : Nat → p_S → q_S
  | 0, _ => k_nil
  | m + 1, s => if b_act s.2.1 = true then k_cons (M s) (p_actsS A M m (A s)) else k_nil
def p_blk : Nat → p_S → p_S
  | 0, s => p_take K 28 (p_step K false s)
  | d + 1, s => p_take K 28 (p_acts (p_act K Wd pN pn rN rc (p_blk d)) 400 (p_take K 27 s))
def p_blkS (RS : Nat → q_S) : Nat → p_S → q_S
  | 0, _ => k_nil
  | d + 1, s => p_actsS (p_act K Wd pN pn rN rc (p_blk K Wd pN pn rN rc d)) (p_actS K Wd pN pn rN rc RS (p_blk K Wd pN pn rN rc d) (p_blkS RS d)) 400 (p_take K 27 s)
end PV
section PG
variable {K : Nat → Nat} {T : Nat} {Wd pN rN : Nat → Int64} {pn rc : Nat}
theorem go_val0 (hKT : 39 ≤ K T) (d : Nat) (s : p_S) : p_go K T s (p_val K Wd pN pn d s) := go_new.trans (go_val hKT d s)
theorem go_cs {s : p_S} (hKT : 39 ≤ K T) : p_go K T s (p_cs K s) := go_new.trans (go_step (s := p_new s) hKT fun e => (b_csign_lt (kd := s.2.1) e).1)
theorem go_cmp {s : p_S} (hKT : 39 ≤ K T) : p_go K T s (p_cmp K Wd pN pn s) := ((go_val0 hKT 4 s).trans (go_cs hKT)).trans (go_val0 hKT 4 _)
theorem go_cmps (hKT : 39 ≤ K T) : ∀ (m : Nat) (s : p_S), p_go K T s (p_cmps K Wd pN pn m s)
  | 0, _ => go_rf
  | m + 1, s => by
    unfold p_cmps
    split
    · exact ((go_cmp hKT).trans (go_take hKT (by decide))).trans (go_cmps hKT m _)
    · exact go_cmp hKT
theorem go_beg {s : p_S} (hKT : 39 ≤ K T) (h : s.2.1 < 39) : p_go K T s (p_beg K s) := fun h0 => ⟨(p_ok.act (s := p_new s) h0 hKT h), by
  refine ⟨Nat.le_succ _, Nat.le_succ _, fun _ => by omega, fun z => ?_⟩
  have z : (if decide (80 < s.2.2.2.2.1 + 1) = true ∧ s.2.2.1 = 0 then 4 else s.2.2.1) = 0 := z
  split at z
  · cases z
  · exact z⟩
theorem go_else {B : p_S → p_S} {s : p_S} (hKT : 39 ≤ K T) (hB : ∀ s, p_go K T s (B s)) : p_go K T s (p_else K B s) := by
  unfold p_else
  split
  · exact (go_take hKT (by decide)).trans (hB _)
  · exact go_rf
theorem go_what {s : p_S} (hKT : 39 ≤ K T) : p_go K T s (p_what K s) := (go_take hKT (by split <;> decide)).trans (go_take hKT (by decide))
theorem go_act {B : p_S → p_S} {s : p_S} (hKT : 39 ≤ K T) (hB : ∀ s, p_go K T s (B s)) (h : b_act s.2.1 = true) : p_go K T s (p_act K Wd pN pn rN rc B s) := by
  have hb := go_beg hKT (b_act_lt h)
  have t29 := fun s : p_S => go_take (s := s) (w := 29) hKT (by decide)
  unfold p_act
  split
  · exact (hb.trans (go_val0 hKT 4 _)).trans (hB _)
  · split
    · exact ((hb.trans (go_cmps hKT 400 _)).trans (hB _)).trans (go_else hKT hB)
    · split
      · exact (((hb.trans (go_val0 hKT 4 _)).trans (go_what hKT)).trans (go_known hKT)).trans (t29 _)
      · split
        · exact (((hb.trans (go_known hKT)).trans (go_take (w := 8) hKT (by decide))).trans (go_val0 hKT 4 _)).trans (t29 _)
        · split
          · exact (((hb.trans (go_known hKT)).trans (go_take (w := 10) hKT (by decide))).trans (go_val0 hKT 4 _)).trans (t29 _)
          · split
            · exact (hb.trans (go_known hKT)).trans (t29 _)
            · split
              · exact (hb.trans (go_known hKT)).trans (t29 _)
              · exact (hb.trans (go_val0 hKT 4 _)).trans (t29 _)
theorem go_acts {A : p_S → p_S} (hA : ∀ s, b_act s.2.1 = true → p_go K T s (A s)) : ∀ (m : Nat) (s : p_S), p_go K T s (p_acts A m s)
  | 0, _ => go_rf
  | m + 1, s => by
    unfold p_acts
    split
    · next h => exact (hA s h).trans (go_acts hA m _)
    · exact go_rf
theorem go_blk (hKT : 39 ≤ K T) : ∀ (d : Nat) (s : p_S), p_go K T s (p_blk K Wd pN pn rN rc d s)
  | 0, s => (go_step (r := false) hKT (fun h => by cases h)).trans (go_take hKT (by decide))
  | d + 1, s => ((go_take (w := 27) hKT (by decide)).trans (go_acts (fun s h => go_act hKT (go_blk hKT d) h) 400 _)).trans (go_take hKT (by decide))
end PG

theorem val_all (l : Launch) (E : q_E) : ∀ d, VAL l E d
  | 0 => fun f px bk T pn rc u kk wo pN rN K Wd f2 f4 g1 g3 hp hbk hn hT hkk hKT hK41 hWd hpn hrc hok hd => kX8_readValue l E f u.2.2.2.2.2 px bk T pn rc u kk wo pN rN K Wd 0 f2 f4 g1 g3 hp hbk hn hT hkk hKT hK41 hWd hpn hrc hok rfl hd (fun d1 h => by cases h)
  | d + 1 => fun f px bk T pn rc u kk wo pN rN K Wd f2 f4 g1 g3 hp hbk hn hT hkk hKT hK41 hWd hpn hrc hok hd => kX8_readValue l E f u.2.2.2.2.2 px bk T pn rc u kk wo pN rN K Wd (d + 1) f2 f4 g1 g3 hp hbk hn hT hkk hKT hK41 hWd hpn hrc hok rfl hd (fun d1 h => by cases h; exact val_all l E d)
def CMPq (E : q_E) (f : q_H) (px bk T pn rc : Nat) (K : Nat → Nat) (Wd pN : Nat → Int64) (u : p_S) : Option Nat → q_H → Nat → Prop := fun r f1 n1 => ∃ g, pS E g px bk T pn rc (p_cmps K Wd pN pn 400 u) = f1 ∧ (p_cmps K Wd pN pn 400 u).2.2.2.2.2 = n1 ∧ (∀ q, q < u.2.2.2.2.2 → q ≠ px → q ≠ px + 1 → q ≠ bk → g q = f q) ∧ ((p_cmps K Wd pN pn 400 u).2.1 ≠ 40 → (p_cmps K Wd pN pn 400 u).2.2.1 = 0 → ∃ mc, rC E pn u.2.2.2.2.2 (p_cmps K Wd pN pn 400 u).2.2.2.2.2 g mc r (p_cmpsC K Wd pN pn 400 u (fun _ _ => true)))

set_option maxHeartbeats 4000000 in
set_option maxRecDepth 100000 in
theorem kX8_readCompares (l : Launch) (E : q_E) (f : q_H) (n : Nat) (px bk T pn rc : Nat) (u : p_S) (kk : Nat → Option Nat) (wo pN rN : Nat → Int64) (K : Nat → Nat) (Wd : Nat → Int64) (f2 : f (px + 2) = some (aQ E 5 401 kk)) (f4 : f (px + 4) = some (aJ E 401 wo)) (g1 : f (bk + 1) = some (aJ E 8 pN)) (g3 : f (bk + 3) = some (aJ E 6 rN)) (hp : PAR E f px bk T pn rc u) (hbk : px + 5 ≤ bk) (hn : bk + 5 ≤ n) (hT : T ≤ 400) (hkk : ∀ j, j ≤ T → kk j = some (E.2.2.2 (K j))) (hKT : 39 ≤ K T) (hK41 : ∀ j, K j < 41) (hWd : ∀ j, j ≤ T → wo j = Wd j) (hpn : pn ≤ 8) (hrc : rc ≤ 6) (hok : p_ok K T u) (hsn : n = u.2.2.2.2.2) : Met l yX8_readCompares wsX8_readCompares ({ frames := 34, cells := (p_cmps K Wd pN pn 400 u).2.2.2.2.2 - u.2.2.2.2.2, slots := 9 * ((p_cmps K Wd pN pn 400 u).2.2.2.2.2 - u.2.2.2.2.2), locals := 950 }) (q_P E [.ref px] f n) (q_Qq E (CMPq E f px bk T pn rc K Wd pN u)) ((p_cmps K Wd pN pn 400 u).2.2.2.2.2 - u.2.2.2.2.2) (9 * ((p_cmps K Wd pN pn 400 u).2.2.2.2.2 - u.2.2.2.2.2)) (q_ge E) := by
  refine Met.ofW (cc := cX8_readCompares) (maxL := 6) (ret := (some (.object "HighRecipes$Value"))) (by decide) rfl ?_
  intro p e s m args below meth c s₁ B hml hv
  obtain ⟨rfl, hA, hW⟩ := hv
  have hx := B.exec
  have hb := B.bytes
  have hr := B.returns
  have hts := atoms_spec (ws := wsX8_readCompares) B.pre
  have hown : s.vm.findClass RX8 = some m.cls := findClass_of_methodNamed B.named
  have hlocks := B.notSynchronized
  have hS : va_S (q_ge E) s.heap s.heap [] := va_S.rf
  have iX10 : ∀ w ∈ wsX100, w ∈ wsX8_readCompares := by decide +kernel
  have iX11 : ∀ w ∈ wsX110, w ∈ wsX8_readCompares := by decide +kernel
  have iX8 : ∀ w ∈ wsX80, w ∈ wsX8_readCompares := by decide +kernel
  have hl := lv_entry ([.ref px]) (n := 6) (Nat.le_of_ble_eq_true rfl)
  rw [lg_entry_eq]
  generalize (lg_sl ([.ref px]) ++ List.replicate (6 - (lg_sl ([.ref px])).length) Slot.unset).toArray = ls at hl ⊢
  have hl : lv_has ls 6 [(0, .ref px)] := hl
  subst hsn
  rw [hp.eq] at hW
  have K9 : ∀ (m9 i9 : Nat) (s9 : p_S) (g9 : q_H) (o9 : Option Nat) (C9 : q_V → q_V → Bool), i9 + m9 = 400 → p_ok K T s9 → u.2.2.2.2.2 ≤ s9.2.2.2.2.2 → (∀ q, q < u.2.2.2.2.2 → q ≠ px → q ≠ px + 1 → q ≠ bk → g9 q = f q) → p_cmps K Wd pN pn 400 u = p_cmps K Wd pN pn m9 s9 → p_cmpsC K Wd pN pn 400 u (fun _ _ => true) = p_cmpsC K Wd pN pn m9 s9 C9 → (s9.2.1 ≠ 40 → s9.2.2.1 = 0 → ∃ mc, rC E pn u.2.2.2.2.2 s9.2.2.2.2.2 g9 mc o9 C9) → ∀ (H : Heap) (locs : List Loc) (ls : Array Slot), q_W E (pS E g9 px bk T pn rc s9) s9.2.2.2.2.2 H → va_S (q_ge E) s.heap H locs → lv_has ls 6 [(0, .ref px), (1, va_rf o9), (2, .int 1), (3, .int (nI i9))] → W p l e (headSpec wsX8_readCompares ({ frames := 34, cells := (p_cmps K Wd pN pn 400 u).2.2.2.2.2 - u.2.2.2.2.2, slots := 9 * ((p_cmps K Wd pN pn 400 u).2.2.2.2.2 - u.2.2.2.2.2), locals := 950 })).room s m ([.ref px] : List Value).toArray below meth c H locs (s9.2.2.2.2.2 - u.2.2.2.2.2) (9 * (s9.2.2.2.2.2 - u.2.2.2.2.2)) (MQ below (q_Qq E (CMPq E f px bk T pn rc K Wd pN u)) ([.ref px] : List Value).toArray s ((p_cmps K Wd pN pn 400 u).2.2.2.2.2 - u.2.2.2.2.2) (9 * ((p_cmps K Wd pN pn 400 u).2.2.2.2.2 - u.2.2.2.2.2)) (q_ge E)) (F0 m 6 ls []) := by
    intro m9
    induction m9 with
    | zero =>
      intro i9 s9 g9 o9 C9 hi9 ok9 hn9 hfr9 hcm hcC hrep H locs ls hW hS hl
      have hN : (p_cmps K Wd pN pn 400 u).2.2.2.2.2 = s9.2.2.2.2.2 := by rw [hcm]; rfl
      refine lv_iload_n hx hb dX8_readCompares_6 rfl (lv_at hl 3 rfl) ?_
      refine lv_sipush (v := 400) hx hb dX8_readCompares_7 (by decide) ?_
      refine lv_icmp_ge (tgt := 122) hx hb dX8_readCompares_10 (by decide) (fun c_10 => ?_) (fun c_10 => False.elim ((fun h9 => h9 (by rw [show i9 = 400 by omega]; decide)) c_10))
      refine q_aload_nQ hx hb dX8_readCompares_122 rfl (lv_at hl 1 rfl) ?_
      exact q_aret (v := o9) hx hb hr (Or.inl ⟨_, rfl⟩) hlocks hW hS ⟨_, by rw [hcm]; rfl, by rw [hcm]; rfl, hfr9, fun k1 k2 => by rw [hcC]; rw [hcm] at k1 k2 ⊢; exact hrep k1 k2⟩ (by show s9.2.2.2.2.2 - u.2.2.2.2.2 ≤ (p_cmps K Wd pN pn 400 u).2.2.2.2.2 - u.2.2.2.2.2; omega) (by show 9 * (s9.2.2.2.2.2 - u.2.2.2.2.2) ≤ 9 * ((p_cmps K Wd pN pn 400 u).2.2.2.2.2 - u.2.2.2.2.2); omega) dX8_readCompares_123
    | succ m9 ih =>
      intro i9 s9 g9 o9 C9 hi9 ok9 hn9 hfr9 hcm hcC hrep H locs ls hW hS hl
      obtain ⟨s1, hu_s1⟩ : ∃ z, p_val K Wd pN pn 4 s9 = z := ⟨_, rfl⟩
      obtain ⟨s4, hu_s4⟩ : ∃ z, p_val K Wd pN pn 4 (p_cs K s1) = z := ⟨_, rfl⟩
      have v1 := val_n (Wd := Wd) (pN := pN) (pn := pn) (d := 4) hKT ok9
      rw [hu_s1] at v1
      have ok1 := v1.1
      have okc : p_ok K T (p_cs K s1) := (go_cs hKT ok1).1
      have v4 := val_n (Wd := Wd) (pN := pN) (pn := pn) (d := 4) hKT okc
      rw [hu_s4] at v4
      have ok4 := v4.1
      have vn1 : s9.2.2.2.2.2 + 1 ≤ s1.2.2.2.2.2 := v1.2.2
      have vn4 : s1.2.2.2.2.2 + 1 + 1 ≤ s4.2.2.2.2.2 := v4.2.2
      have ec : p_cmp K Wd pN pn s9 = s4 := by unfold p_cmp; rw [hu_s1, hu_s4]
      have hM : s4.2.2.2.2.2 ≤ (p_cmps K Wd pN pn 400 u).2.2.2.2.2 := by
        rw [hcm]
        show s4.2.2.2.2.2 ≤ (if (p_cmp K Wd pN pn s9).2.1 = 17 then p_cmps K Wd pN pn m9 (p_take K 17 (p_cmp K Wd pN pn s9)) else p_cmp K Wd pN pn s9).2.2.2.2.2
        rw [ec]
        split
        · exact (go_cmps hKT m9 _ (ok4.take hKT (by decide))).2.2.1
        · exact Nat.le_refl _
      have hk1 : s1.2.1 < 41 := by rcases ok1.2.1 with h9 | h9 <;> rw [h9]; decide; exact hK41 _
      have hk4 : s4.2.1 < 41 := by rcases ok4.2.1 with h9 | h9 <;> rw [h9]; decide; exact hK41 _
      refine lv_iload_n hx hb dX8_readCompares_6 rfl (lv_at hl 3 rfl) ?_
      refine lv_sipush (v := 400) hx hb dX8_readCompares_7 (by decide) ?_
      refine lv_icmp_ge (tgt := 122) hx hb dX8_readCompares_10 (by decide) (fun c_10 => False.elim ((fun h9 => absurd (show nI 400 ≤ nI i9 from h9) (nI_ge (by omega) (by decide))) c_10)) (fun c_10 => ?_)
      refine lv_iload_n hx hb dX8_readCompares_13 rfl (lv_at hl 2 rfl) ?_
      refine lv_if_eq (tgt := 122) hx hb dX8_readCompares_14 (by decide) (fun c_14 => False.elim ((fun h9 => absurd h9 (by decide)) c_14)) (fun c_14 => ?_)
      refine lv_aload_n hx hb dX8_readCompares_17 rfl (lv_at hl 0 rfl) ?_
      refine lv_iconst (v := 0) hx hb dX8_readCompares_18 (by decide) ?_
      refine q_cq (va_runV (As := [.int 0]) (rest := []) ⟨hx, hb, hml, hown, hts⟩ (val_all l E 4 (pS E g9 px bk T pn rc s9) px bk T pn rc s9 kk wo pN rN K Wd  ((pS_out (by omega) (by omega) (by omega)).trans ((hfr9 _ (by omega) (by omega) (by omega) (by omega)).trans f2)) ((pS_out (by omega) (by omega) (by omega)).trans ((hfr9 _ (by omega) (by omega) (by omega) (by omega)).trans f4)) ((pS_out (by omega) (by omega) (by omega)).trans ((hfr9 _ (by omega) (by omega) (by omega) (by omega)).trans g1)) ((pS_out (by omega) (by omega) (by omega)).trans ((hfr9 _ (by omega) (by omega) (by omega) (by omega)).trans g3)) (pS_K hbk) hbk (by show bk + 5 ≤ s9.2.2.2.2.2; omega) hT hkk hKT hK41 hWd hpn hrc ok9 (by decide)) (cwV 1 hts gX8_readCompares_X8_readValue rfl rfl rfl (by decide +kernel) ⟨(Nat.le_of_ble_eq_true rfl), (Nat.le_of_ble_eq_true rfl)⟩) (q_pV hA hW hS (ci := 8) rfl pS_p) rfl rfl hl.1 rfl (lv_room (Nat.le_of_ble_eq_true rfl)) dX8_readCompares_19 ⟨(by rw [hu_s1]; show s9.2.2.2.2.2 - u.2.2.2.2.2 + (s1.2.2.2.2.2 - (s9.2.2.2.2.2)) ≤ (p_cmps K Wd pN pn 400 u).2.2.2.2.2 - u.2.2.2.2.2; omega), (by rw [hu_s1]; show 9 * (s9.2.2.2.2.2 - u.2.2.2.2.2) + (9 * (s1.2.2.2.2.2 - (s9.2.2.2.2.2))) ≤ 9 * ((p_cmps K Wd pN pn 400 u).2.2.2.2.2 - u.2.2.2.2.2); omega)⟩) hS (fun r_19 f_19 n_19 H locs hp hW hS => ?_)
      obtain ⟨g_19, rfl, rfl, rfl, fr_19, rep_19⟩ := hp
      rw [hu_s1] at hW rep_19
      rw [hu_s1]
      have fr_19 : ∀ q, q < s9.2.2.2.2.2 → q ≠ px → q ≠ px + 1 → q ≠ bk → g_19 q = (pS E g9 px bk T pn rc s9) q := fr_19
      have fi_19 : ∀ q, q < u.2.2.2.2.2 → q ≠ px → q ≠ px + 1 → q ≠ bk → g_19 q = f q := fun q hq h7 h8 h9 => (fr_19 q (by omega) h7 h8 h9).trans ((pS_out h7 h8 h9).trans ((hfr9 q hq h7 h8 h9)))
      have hW : q_W E (pS E g_19 px bk T pn rc s1) (s1.2.2.2.2.2) H := hW
      refine lv_astore (lv' := [(4, .ref s9.2.2.2.2.2), (0, .ref px), (1, va_rf o9), (2, .int 1), (3, .int (nI i9))]) hx hb dX8_readCompares_22 hl (by decide) rfl (fun ls hl => ?_)
      refine q_new (ci := 11) hx hb hts hown hA hW hS iX11 tyX11 tyX11_ok (hts (.classLink RX8 218 RX11) (by decide +kernel)) (hts (.instantiable RX11 5) (by decide +kernel)) (hts (.initialized RX11) (by decide +kernel)) rfl (fs := [.null, .int 0, .null, .null, .null]) (by decide) (by show s9.2.2.2.2.2 - u.2.2.2.2.2 + (s1.2.2.2.2.2 - (s9.2.2.2.2.2)) + 1 ≤ (p_cmps K Wd pN pn 400 u).2.2.2.2.2 - u.2.2.2.2.2; omega) (by show 9 * (s9.2.2.2.2.2 - u.2.2.2.2.2) + (9 * (s1.2.2.2.2.2 - (s9.2.2.2.2.2))) + 5 ≤ 9 * ((p_cmps K Wd pN pn 400 u).2.2.2.2.2 - u.2.2.2.2.2); omega) dX8_readCompares_24 (fun H hW hS => ?_)
      have hW : q_W E (va_up (pS E g_19 px bk T pn rc s1) s1.2.2.2.2.2 (some (rX11 none 0 none none none))) (s1.2.2.2.2.2 + 1) H := hW
      rw [pS_iu (by omega) (by omega) (by omega)] at hW
      have hW : q_W E (pS E (va_up g_19 s1.2.2.2.2.2 (some (rX11 none 0 none none none))) px bk T pn rc (p_new s1)) (s1.2.2.2.2.2 + 1) H := hW
      refine lv_dup hx hb dX8_readCompares_27 rfl ?_
      refine lv_aload_n hx hb dX8_readCompares_28 rfl (lv_at hl 1 rfl) ?_
      refine q_get hx hb hts hown hA hW iX8 pS_p rfl 0 (by decide) (hts (.fieldLink RX8 10 "HighRecipes$Parser" "tokens" "LHighRecipes$Tokens;") (by decide +kernel)) (fun _ h9 => h9) (v := .ref (px + 1)) rfl dX8_readCompares_29 ?_
      refine q_getN hx hb hts hown hA hW iX10 pS_t rfl 5 (by decide) (va_Nw.use rfl (hA.2.2.2.1 ("HighRecipes$Parser", 31, "HighRecipes$Tokens", "kind", "LHighRecipes$Kind;", "HighRecipes") (by decide +kernel))) (fun _ h9 => h9) (v := .ref (E.2.2.2 ((p_new s1)).2.1)) rfl dX8_readCompares_32 ?_
      refine q_cv (va_runI (As := [.ref (E.2.2.2 s1.2.1)]) (rest := [.ref s1.2.2.2.2.2]) ⟨hx, hb, hml, hown, hts⟩ (kX11_init l E (pS E (va_up g_19 s1.2.2.2.2.2 (some (rX11 none 0 none none none))) px bk T pn rc (p_new s1)) (s1.2.2.2.2.2 + 1) s1.2.2.2.2.2 s1.2.1 ((pS_out (by omega) (by omega) (by omega)).trans q_eq)) (cwI 1 hts gX8_readCompares_X11_init rfl rfl rfl (hts (.initialized RX11) (by decide +kernel)) (hts (.methodLink RX8 220 yX11_init) (by decide +kernel)) (hts (.instanceMethod yX11_init) (by decide +kernel)) rfl (by decide +kernel) ⟨(Nat.le_of_ble_eq_true rfl), (Nat.le_of_ble_eq_true rfl)⟩) (q_pS hA hW hS) rfl rfl hl.1 rfl (lv_room (Nat.le_of_ble_eq_true rfl)) dX8_readCompares_35 ⟨(by show s9.2.2.2.2.2 - u.2.2.2.2.2 + (s1.2.2.2.2.2 - (s9.2.2.2.2.2)) + 1 + 0 ≤ (p_cmps K Wd pN pn 400 u).2.2.2.2.2 - u.2.2.2.2.2; omega), (by show 9 * (s9.2.2.2.2.2 - u.2.2.2.2.2) + (9 * (s1.2.2.2.2.2 - (s9.2.2.2.2.2))) + 5 + 0 ≤ 9 * ((p_cmps K Wd pN pn 400 u).2.2.2.2.2 - u.2.2.2.2.2); omega)⟩) hS (fun f_35 n_35 H locs hp hW hS => ?_)
      obtain ⟨rfl, rfl⟩ := hp
      have hW : q_W E (va_up (pS E (va_up g_19 s1.2.2.2.2.2 (some (rX11 none 0 none none none))) px bk T pn rc (p_new s1)) s1.2.2.2.2.2 (some (rX11 (some (E.2.2.2 s1.2.1)) 0 none none none))) (s1.2.2.2.2.2 + 1) H := hW
      rw [pS_iu (by omega) (by omega) (by omega)] at hW
      rw [q_upup] at hW
      have hW : q_W E (pS E (va_up g_19 s1.2.2.2.2.2 (some (rX11 (some (E.2.2.2 s1.2.1)) 0 none none none))) px bk T pn rc (p_new s1)) (s1.2.2.2.2.2 + 1) H := hW
      refine lv_astore (lv' := [(5, .ref s1.2.2.2.2.2), (4, .ref s9.2.2.2.2.2), (0, .ref px), (1, va_rf o9), (2, .int 1), (3, .int (nI i9))]) hx hb dX8_readCompares_38 hl (by decide) rfl (fun ls hl => ?_)
      refine lv_aload_n hx hb dX8_readCompares_40 rfl (lv_at hl 2 rfl) ?_
      refine q_get hx hb hts hown hA hW iX8 pS_p rfl 0 (by decide) (hts (.fieldLink RX8 10 "HighRecipes$Parser" "tokens" "LHighRecipes$Tokens;") (by decide +kernel)) (fun _ h9 => h9) (v := .ref (px + 1)) rfl dX8_readCompares_41 ?_
      refine lv_aload_n hx hb dX8_readCompares_44 rfl (lv_at hl 2 rfl) ?_
      refine q_get hx hb hts hown hA hW iX8 pS_p rfl 0 (by decide) (hts (.fieldLink RX8 10 "HighRecipes$Parser" "tokens" "LHighRecipes$Tokens;") (by decide +kernel)) (fun _ h9 => h9) (v := .ref (px + 1)) rfl dX8_readCompares_45 ?_
      refine q_getN hx hb hts hown hA hW iX10 pS_t rfl 5 (by decide) (va_Nw.use rfl (hA.2.2.2.1 ("HighRecipes$Parser", 31, "HighRecipes$Tokens", "kind", "LHighRecipes$Kind;", "HighRecipes") (by decide +kernel))) (fun _ h9 => h9) (v := .ref (E.2.2.2 ((p_new s1)).2.1)) rfl dX8_readCompares_48 ?_
      refine q_ci (va_runV (As := []) (rest := [.ref (px + 1)]) ⟨hx, hb, hml, hown, hts⟩ (kX5_isCompareSign l E (pS E (va_up g_19 s1.2.2.2.2.2 (some (rX11 (some (E.2.2.2 s1.2.1)) 0 none none none))) px bk T pn rc (p_new s1)) (s1.2.2.2.2.2 + 1) (((p_new s1)).2.1) hk1) (cwV 0 hts gX8_readCompares_X5_isCompareSign rfl rfl rfl (by decide +kernel) ⟨(Nat.le_of_ble_eq_true rfl), (Nat.le_of_ble_eq_true rfl)⟩) (q_pK hA hW hS hk1) rfl rfl hl.1 rfl (lv_room (Nat.le_of_ble_eq_true rfl)) dX8_readCompares_51 ⟨(by show s9.2.2.2.2.2 - u.2.2.2.2.2 + (s1.2.2.2.2.2 - (s9.2.2.2.2.2)) + 1 + 0 ≤ (p_cmps K Wd pN pn 400 u).2.2.2.2.2 - u.2.2.2.2.2; omega), (by show 9 * (s9.2.2.2.2.2 - u.2.2.2.2.2) + (9 * (s1.2.2.2.2.2 - (s9.2.2.2.2.2))) + 5 + 0 ≤ 9 * ((p_cmps K Wd pN pn 400 u).2.2.2.2.2 - u.2.2.2.2.2); omega)⟩) hS (fun r_51 f_51 n_51 H locs hp hW hS => ?_)
      obtain ⟨rfl, rfl, rfl⟩ := hp
      have hW : q_W E (pS E (va_up g_19 s1.2.2.2.2.2 (some (rX11 (some (E.2.2.2 s1.2.1)) 0 none none none))) px bk T pn rc (p_new s1)) (s1.2.2.2.2.2 + 1) H := hW
      refine q_cv (va_runV (As := [.int (b01 (b_csign (((p_new s1)).2.1)))]) (rest := []) ⟨hx, hb, hml, hown, hts⟩ (kX10_step l E (pS E (va_up g_19 s1.2.2.2.2.2 (some (rX11 (some (E.2.2.2 s1.2.1)) 0 none none none))) px bk T pn rc (p_new s1)) (s1.2.2.2.2.2 + 1) (px + 1) T (p_new s1) kk K (b_csign s1.2.1) pS_t ((pS_out (by omega) (by omega) (by omega)).trans (q_ne (by omega) ((fr_19 _ (by omega) (by omega) (by omega) (by omega)).trans ((pS_out (by omega) (by omega) (by omega)).trans ((hfr9 _ (by omega) (by omega) (by omega) (by omega)).trans f2))))) (by assumption) (by assumption) (ok1.step hKT (r := b_csign s1.2.1) (fun h9 => (b_csign_lt h9).1)).2) (cwV 1 hts gX8_readCompares_X10_step rfl rfl rfl (by decide +kernel) ⟨(Nat.le_of_ble_eq_true rfl), (Nat.le_of_ble_eq_true rfl)⟩) (q_pV hA hW hS (ci := 10) rfl pS_t) rfl rfl hl.1 rfl (lv_room (Nat.le_of_ble_eq_true rfl)) dX8_readCompares_54 ⟨(by show s9.2.2.2.2.2 - u.2.2.2.2.2 + (s1.2.2.2.2.2 - (s9.2.2.2.2.2)) + 1 + 0 ≤ (p_cmps K Wd pN pn 400 u).2.2.2.2.2 - u.2.2.2.2.2; omega), (by show 9 * (s9.2.2.2.2.2 - u.2.2.2.2.2) + (9 * (s1.2.2.2.2.2 - (s9.2.2.2.2.2))) + 5 + 0 ≤ 9 * ((p_cmps K Wd pN pn 400 u).2.2.2.2.2 - u.2.2.2.2.2); omega)⟩) hS (fun f_54 n_54 H locs hp hW hS => ?_)
      obtain ⟨rfl, rfl⟩ := hp
      have hW : q_W E (va_up (pS E (va_up g_19 s1.2.2.2.2.2 (some (rX11 (some (E.2.2.2 s1.2.1)) 0 none none none))) px bk T pn rc (p_new s1)) (px + 1) (some (cTS E (px + 1) T (p_step K (b_csign s1.2.1) (p_new s1))))) (s1.2.2.2.2.2 + 1) H := hW
      have hW : q_W E (pS E (va_up g_19 s1.2.2.2.2.2 (some (rX11 (some (E.2.2.2 s1.2.1)) 0 none none none))) px bk T pn rc (p_step K (b_csign s1.2.1) (p_new s1))) (s1.2.2.2.2.2 + 1) H := by rw [← pS_st (s := p_new s1) (s' := p_step K (b_csign s1.2.1) (p_new s1)) rfl rfl]; exact hW
      have hW : q_W E (pS E (va_up g_19 s1.2.2.2.2.2 (some (rX11 (some (E.2.2.2 s1.2.1)) 0 none none none))) px bk T pn rc (p_step K (b_csign s1.2.1) (p_new s1))) (s1.2.2.2.2.2 + 1) H := hW
      refine lv_aload hx hb dX8_readCompares_57 (lv_at hl 0 rfl) ?_
      refine lv_aload hx hb dX8_readCompares_59 (lv_at hl 1 rfl) ?_
      refine q_putN hx hb hts hown hA hW hS iX11 tyX11 tyX11_ok nmX11 ((pS_out (by omega) (by omega) (by omega)).trans q_eq) rfl 2 (by decide) (va_Nw.use rfl (hA.2.2.2.1 ("HighRecipes$Parser", 224, "HighRecipes$Value", "left", "LHighRecipes$Value;", "HighRecipes") (by decide +kernel))) (fun _ h9 => h9) rfl rfl rfl (Nat.le_of_ble_eq_true rfl) dX8_readCompares_61 (fun H locs hW hS => ?_)
      have hW : q_W E (va_up (pS E (va_up g_19 s1.2.2.2.2.2 (some (rX11 (some (E.2.2.2 s1.2.1)) 0 none none none))) px bk T pn rc (p_cs K s1)) s1.2.2.2.2.2 (some (rX11 (some (E.2.2.2 s1.2.1)) 0 (some s9.2.2.2.2.2) none none))) (s1.2.2.2.2.2 + 1) H := hW
      rw [pS_iu (by omega) (by omega) (by omega)] at hW
      rw [q_upup] at hW
      refine lv_aload hx hb dX8_readCompares_64 (lv_at hl 0 rfl) ?_
      refine lv_aload_n hx hb dX8_readCompares_66 rfl (lv_at hl 2 rfl) ?_
      refine lv_iconst (v := 0) hx hb dX8_readCompares_67 (by decide) ?_
      refine q_cq (va_runV (As := [.int 0]) (rest := [.ref s1.2.2.2.2.2]) ⟨hx, hb, hml, hown, hts⟩ (val_all l E 4 (pS E (va_up g_19 s1.2.2.2.2.2 (some (rX11 (some (E.2.2.2 s1.2.1)) 0 (some s9.2.2.2.2.2) none none))) px bk T pn rc (p_cs K s1)) px bk T pn rc (p_cs K s1) kk wo pN rN K Wd  ((pS_out (by omega) (by omega) (by omega)).trans (q_ne (by omega) ((fr_19 _ (by omega) (by omega) (by omega) (by omega)).trans ((pS_out (by omega) (by omega) (by omega)).trans ((hfr9 _ (by omega) (by omega) (by omega) (by omega)).trans f2))))) ((pS_out (by omega) (by omega) (by omega)).trans (q_ne (by omega) ((fr_19 _ (by omega) (by omega) (by omega) (by omega)).trans ((pS_out (by omega) (by omega) (by omega)).trans ((hfr9 _ (by omega) (by omega) (by omega) (by omega)).trans f4))))) ((pS_out (by omega) (by omega) (by omega)).trans (q_ne (by omega) ((fr_19 _ (by omega) (by omega) (by omega) (by omega)).trans ((pS_out (by omega) (by omega) (by omega)).trans ((hfr9 _ (by omega) (by omega) (by omega) (by omega)).trans g1))))) ((pS_out (by omega) (by omega) (by omega)).trans (q_ne (by omega) ((fr_19 _ (by omega) (by omega) (by omega) (by omega)).trans ((pS_out (by omega) (by omega) (by omega)).trans ((hfr9 _ (by omega) (by omega) (by omega) (by omega)).trans g3))))) (pS_K hbk) hbk (by show bk + 5 ≤ s1.2.2.2.2.2 + 1; omega) hT hkk hKT hK41 hWd hpn hrc okc (by decide)) (cwV 1 hts gX8_readCompares_X8_readValue rfl rfl rfl (by decide +kernel) ⟨(Nat.le_of_ble_eq_true rfl), (Nat.le_of_ble_eq_true rfl)⟩) (q_pV hA hW hS (ci := 8) rfl pS_p) rfl rfl hl.1 rfl (lv_room (Nat.le_of_ble_eq_true rfl)) dX8_readCompares_68 ⟨(by rw [hu_s4]; show s9.2.2.2.2.2 - u.2.2.2.2.2 + (s1.2.2.2.2.2 - (s9.2.2.2.2.2)) + 1 + (s4.2.2.2.2.2 - (s1.2.2.2.2.2 + 1)) ≤ (p_cmps K Wd pN pn 400 u).2.2.2.2.2 - u.2.2.2.2.2; omega), (by rw [hu_s4]; show 9 * (s9.2.2.2.2.2 - u.2.2.2.2.2) + (9 * (s1.2.2.2.2.2 - (s9.2.2.2.2.2))) + 5 + (9 * (s4.2.2.2.2.2 - (s1.2.2.2.2.2 + 1))) ≤ 9 * ((p_cmps K Wd pN pn 400 u).2.2.2.2.2 - u.2.2.2.2.2); omega)⟩) hS (fun r_68 f_68 n_68 H locs hp hW hS => ?_)
      obtain ⟨g_68, rfl, rfl, rfl, fr_68, rep_68⟩ := hp
      rw [hu_s4] at hW rep_68
      rw [hu_s4]
      have fr_68 : ∀ q, q < s1.2.2.2.2.2 + 1 → q ≠ px → q ≠ px + 1 → q ≠ bk → g_68 q = (pS E (va_up g_19 s1.2.2.2.2.2 (some (rX11 (some (E.2.2.2 s1.2.1)) 0 (some s9.2.2.2.2.2) none none))) px bk T pn rc (p_cs K s1)) q := fr_68
      have fi_68 : ∀ q, q < u.2.2.2.2.2 → q ≠ px → q ≠ px + 1 → q ≠ bk → g_68 q = f q := fun q hq h7 h8 h9 => (fr_68 q (by omega) h7 h8 h9).trans ((pS_out h7 h8 h9).trans (((va_up_ne _ _ (by omega)).trans (fi_19 q hq h7 h8 h9))))
      have hW : q_W E (pS E g_68 px bk T pn rc s4) (s4.2.2.2.2.2) H := hW
      refine q_putN hx hb hts hown hA hW hS iX11 tyX11 tyX11_ok nmX11 ((pS_out (by omega) (by omega) (by omega)).trans ((fr_68 _ (by omega) (by omega) (by omega) (by omega)).trans ((pS_out (by omega) (by omega) (by omega)).trans q_eq))) rfl 3 (by decide) (va_Nw.use rfl (hA.2.2.2.1 ("HighRecipes$Parser", 227, "HighRecipes$Value", "right", "LHighRecipes$Value;", "HighRecipes") (by decide +kernel))) (fun _ h9 => h9) rfl rfl rfl (Nat.le_of_ble_eq_true rfl) dX8_readCompares_71 (fun H locs hW hS => ?_)
      have hW : q_W E (va_up (pS E g_68 px bk T pn rc s4) s1.2.2.2.2.2 (some (rX11 (some (E.2.2.2 s1.2.1)) 0 (some s9.2.2.2.2.2) (some (s1.2.2.2.2.2 + 1)) none))) s4.2.2.2.2.2 H := hW
      rw [pS_iu (by omega) (by omega) (by omega)] at hW
      refine lv_aload hx hb dX8_readCompares_74 (lv_at hl 0 rfl) ?_
      refine q_aload_nQ hx hb dX8_readCompares_76 rfl (lv_at hl 3 rfl) ?_
      refine q_putN hx hb hts hown hA hW hS iX11 tyX11 tyX11_ok nmX11 ((pS_out (by omega) (by omega) (by omega)).trans q_eq) rfl 4 (by decide) (va_Nw.use rfl (hA.2.2.2.1 ("HighRecipes$Parser", 230, "HighRecipes$Value", "ahead", "LHighRecipes$Value;", "HighRecipes") (by decide +kernel))) (fun _ h9 => h9) rfl (by cases o9 <;> rfl) (by cases o9 <;> rfl) (Nat.le_of_ble_eq_true rfl) dX8_readCompares_77 (fun H locs hW hS => ?_)
      have hW : q_W E (va_up (pS E (va_up g_68 s1.2.2.2.2.2 (some (rX11 (some (E.2.2.2 s1.2.1)) 0 (some s9.2.2.2.2.2) (some (s1.2.2.2.2.2 + 1)) none))) px bk T pn rc s4) s1.2.2.2.2.2 (some (rX11 (some (E.2.2.2 s1.2.1)) 0 (some s9.2.2.2.2.2) (some (s1.2.2.2.2.2 + 1)) o9))) s4.2.2.2.2.2 H := hW
      rw [pS_iu (by omega) (by omega) (by omega)] at hW
      rw [q_upup] at hW
      have repc : s4.2.1 ≠ 40 → s4.2.2.1 = 0 → ∃ mc, rC E pn u.2.2.2.2.2 s4.2.2.2.2.2 (va_up g_68 s1.2.2.2.2.2 (some (rX11 (some (E.2.2.2 s1.2.1)) 0 (some s9.2.2.2.2.2) (some (s1.2.2.2.2.2 + 1)) o9))) mc (some s1.2.2.2.2.2) (p_cmpC K Wd pN pn s9 C9) := by
        intro k1 k2
        have R2 := rep_68 k1 k2
        have k1b := v4.2.1.2.2.1 k1
        have k2b := v4.2.1.2.2.2 k2
        have lc := (go_cs (s := s1) hKT ok1).2
        have R1 := rep_19 (lc.2.2.1 k1b) (lc.2.2.2 k2b)
        obtain ⟨mc, R0⟩ := hrep (v1.2.1.2.2.1 (lc.2.2.1 k1b)) (v1.2.1.2.2.2 (lc.2.2.2 k2b))
        have hm : b_csign s1.2.1 = true := by cases hb9 : b_csign s1.2.1 with | true => rfl | false => exact absurd (by show (p_step K (b_csign s1.2.1) (p_new s1)).2.1 = 40; rw [hb9]; rfl) k1b
        refine ⟨mc + 1, s1.2.2.2.2.2, s1.2.1, 0, s9.2.2.2.2.2, s1.2.2.2.2.2 + 1, o9, C9, _, _, rfl, by omega, by omega, q_eq, (b_csign_lt hm).2.1, (b_csign_lt hm).2.2, rV_frame ?_ (by omega) (by omega) _ _ _ R1, rV_frame ?_ (by show u.2.2.2.2.2 ≤ s1.2.2.2.2.2 + 1; omega) (Nat.le_refl _) _ _ _ R2, rC_frame ?_ (Nat.le_refl _) (by omega) _ _ _ R0, by unfold p_cmpC; rw [hu_s1]⟩
        · exact fun q h1 h2 => (va_up_ne _ _ (by omega)).trans ((fr_68 q (by omega) (by omega) (by omega) (by omega)).trans ((pS_out (by omega) (by omega) (by omega)).trans (va_up_ne _ _ (by omega))))
        · intro q h1 h2
          have h1 : s1.2.2.2.2.2 + 1 ≤ q := h1
          exact va_up_ne _ _ (by omega)
        · exact fun q h1 h2 => (va_up_ne _ _ (by omega)).trans ((fr_68 q (by omega) (by omega) (by omega) (by omega)).trans ((pS_out (by omega) (by omega) (by omega)).trans ((va_up_ne _ _ (by omega)).trans ((fr_19 q (by omega) (by omega) (by omega) (by omega)).trans (pS_out (by omega) (by omega) (by omega))))))
      refine lv_aload hx hb dX8_readCompares_80 (lv_at hl 0 rfl) ?_
      refine lv_astore_n (lv' := [(1, .ref s1.2.2.2.2.2), (5, .ref s1.2.2.2.2.2), (4, .ref s9.2.2.2.2.2), (0, .ref px), (2, .int 1), (3, .int (nI i9))]) hx hb dX8_readCompares_82 rfl hl (by decide) rfl (fun ls hl => ?_)
      refine lv_aload_n hx hb dX8_readCompares_83 rfl (lv_at hl 3 rfl) ?_
      refine q_get hx hb hts hown hA hW iX8 pS_p rfl 0 (by decide) (hts (.fieldLink RX8 10 "HighRecipes$Parser" "tokens" "LHighRecipes$Tokens;") (by decide +kernel)) (fun _ h9 => h9) (v := .ref (px + 1)) rfl dX8_readCompares_84 ?_
      refine q_getN hx hb hts hown hA hW iX10 pS_t rfl 5 (by decide) (va_Nw.use rfl (hA.2.2.2.1 ("HighRecipes$Parser", 31, "HighRecipes$Tokens", "kind", "LHighRecipes$Kind;", "HighRecipes") (by decide +kernel))) (fun _ h9 => h9) (v := .ref (E.2.2.2 (s4).2.1)) rfl dX8_readCompares_87 ?_
      refine va_gets (n := "AND") (v := .ref (E.2.2.2 17)) hx hb (hA.2.2.1.1.1 17 (by decide)).1 hS hown (hts (.fieldLink RX8 233 "HighRecipes$Kind" "AND" "LHighRecipes$Kind;") (by decide +kernel)) (fun _ h9 => h9) dX8_readCompares_90 ?_
      refine lv_acmp_ne (rx := (some (E.2.2.2 (s4).2.1))) (ry := (some (E.2.2.2 17))) (tgt := 100) hx hb dX8_readCompares_93 (by decide) (fun c_93 => ?_) (fun c_93 => ?_)
      · have e93 : ¬ s4.2.1 = 17 := fun h9 => c_93 (by rw [h9])
        refine lv_iconst (v := 0) hx hb dX8_readCompares_100 (by decide) ?_
        refine lv_istore_n (lv' := [(2, .int 0), (1, .ref s1.2.2.2.2.2), (5, .ref s1.2.2.2.2.2), (4, .ref s9.2.2.2.2.2), (0, .ref px), (3, .int (nI i9))]) hx hb dX8_readCompares_101 rfl hl (by decide) rfl (fun ls hl => ?_)
        refine lv_iload_n hx hb dX8_readCompares_102 rfl (lv_at hl 0 rfl) ?_
        refine lv_if_eq (tgt := 116) hx hb dX8_readCompares_103 (by decide) (fun c_103 => ?_) (fun c_103 => False.elim ((fun h9 => h9 rfl) c_103))
        refine lv_iinc (v := nI (i9 + 1)) (lv' := [(3, .int (nI (i9 + 1))), (2, .int 0), (1, .ref s1.2.2.2.2.2), (5, .ref s1.2.2.2.2.2), (4, .ref s9.2.2.2.2.2), (0, .ref px)]) hx hb dX8_readCompares_116 hl (k := 5) rfl (nI_1 i9) (by decide) rfl (fun ls hl => ?_)
        refine lv_goto (tgt := 6) hx hb dX8_readCompares_119 (by decide) ?_
        refine lv_iload_n hx hb dX8_readCompares_6 rfl (lv_at hl 0 rfl) ?_
        refine lv_sipush (v := 400) hx hb dX8_readCompares_7 (by decide) ?_
        refine lv_icmp_ge (tgt := 122) hx hb dX8_readCompares_10 (by decide) (fun c_10 => ?_) (fun c_10 => ?_)
        · refine lv_aload_n hx hb dX8_readCompares_122 rfl (lv_at hl 2 rfl) ?_
          have eX : p_cmps K Wd pN pn 400 u = s4 := by rw [hcm]; show (if (p_cmp K Wd pN pn s9).2.1 = 17 then _ else _) = _; rw [ec, if_neg e93]
          have eXC : p_cmpsC K Wd pN pn 400 u (fun _ _ => true) = p_cmpC K Wd pN pn s9 C9 := by rw [hcC]; show (if (p_cmp K Wd pN pn s9).2.1 = 17 then _ else _) = _; rw [ec, if_neg e93]
          exact q_aret (v := some s1.2.2.2.2.2) hx hb hr (Or.inl ⟨_, rfl⟩) hlocks hW hS ⟨_, by rw [eX], by rw [eX], fun q hq h7 h8 h9 => ((va_up_ne _ _ (by omega)).trans (fi_68 q hq h7 h8 h9)), fun k1 k2 => by rw [eXC]; rw [eX] at k1 k2 ⊢; exact repc k1 k2⟩ (by show s9.2.2.2.2.2 - u.2.2.2.2.2 + (s1.2.2.2.2.2 - (s9.2.2.2.2.2)) + 1 + (s4.2.2.2.2.2 - (s1.2.2.2.2.2 + 1)) ≤ (p_cmps K Wd pN pn 400 u).2.2.2.2.2 - u.2.2.2.2.2; omega) (by show 9 * (s9.2.2.2.2.2 - u.2.2.2.2.2) + (9 * (s1.2.2.2.2.2 - (s9.2.2.2.2.2))) + 5 + (9 * (s4.2.2.2.2.2 - (s1.2.2.2.2.2 + 1))) ≤ 9 * ((p_cmps K Wd pN pn 400 u).2.2.2.2.2 - u.2.2.2.2.2); omega) dX8_readCompares_123
        · refine lv_iload_n hx hb dX8_readCompares_13 rfl (lv_at hl 1 rfl) ?_
          refine lv_if_eq (tgt := 122) hx hb dX8_readCompares_14 (by decide) (fun c_14 => ?_) (fun c_14 => False.elim ((fun h9 => h9 rfl) c_14))
          refine lv_aload_n hx hb dX8_readCompares_122 rfl (lv_at hl 2 rfl) ?_
          have eX : p_cmps K Wd pN pn 400 u = s4 := by rw [hcm]; show (if (p_cmp K Wd pN pn s9).2.1 = 17 then _ else _) = _; rw [ec, if_neg e93]
          have eXC : p_cmpsC K Wd pN pn 400 u (fun _ _ => true) = p_cmpC K Wd pN pn s9 C9 := by rw [hcC]; show (if (p_cmp K Wd pN pn s9).2.1 = 17 then _ else _) = _; rw [ec, if_neg e93]
          exact q_aret (v := some s1.2.2.2.2.2) hx hb hr (Or.inl ⟨_, rfl⟩) hlocks hW hS ⟨_, by rw [eX], by rw [eX], fun q hq h7 h8 h9 => ((va_up_ne _ _ (by omega)).trans (fi_68 q hq h7 h8 h9)), fun k1 k2 => by rw [eXC]; rw [eX] at k1 k2 ⊢; exact repc k1 k2⟩ (by show s9.2.2.2.2.2 - u.2.2.2.2.2 + (s1.2.2.2.2.2 - (s9.2.2.2.2.2)) + 1 + (s4.2.2.2.2.2 - (s1.2.2.2.2.2 + 1)) ≤ (p_cmps K Wd pN pn 400 u).2.2.2.2.2 - u.2.2.2.2.2; omega) (by show 9 * (s9.2.2.2.2.2 - u.2.2.2.2.2) + (9 * (s1.2.2.2.2.2 - (s9.2.2.2.2.2))) + 5 + (9 * (s4.2.2.2.2.2 - (s1.2.2.2.2.2 + 1))) ≤ 9 * ((p_cmps K Wd pN pn 400 u).2.2.2.2.2 - u.2.2.2.2.2); omega) dX8_readCompares_123
      · have e93 : s4.2.1 = 17 := q_kinj hA hk4 (by decide) c_93
        refine lv_iconst (v := 1) hx hb dX8_readCompares_96 (by decide) ?_
        refine lv_goto (tgt := 101) hx hb dX8_readCompares_97 (by decide) ?_
        refine lv_istore_n (lv' := [(2, .int 1), (1, .ref s1.2.2.2.2.2), (5, .ref s1.2.2.2.2.2), (4, .ref s9.2.2.2.2.2), (0, .ref px), (3, .int (nI i9))]) hx hb dX8_readCompares_101 rfl hl (by decide) rfl (fun ls hl => ?_)
        refine lv_iload_n hx hb dX8_readCompares_102 rfl (lv_at hl 0 rfl) ?_
        refine lv_if_eq (tgt := 116) hx hb dX8_readCompares_103 (by decide) (fun c_103 => False.elim ((fun h9 => absurd h9 (by decide)) c_103)) (fun c_103 => ?_)
        refine lv_aload_n hx hb dX8_readCompares_106 rfl (lv_at hl 4 rfl) ?_
        refine q_get hx hb hts hown hA hW iX8 pS_p rfl 0 (by decide) (hts (.fieldLink RX8 10 "HighRecipes$Parser" "tokens" "LHighRecipes$Tokens;") (by decide +kernel)) (fun _ h9 => h9) (v := .ref (px + 1)) rfl dX8_readCompares_107 ?_
        refine va_gets (n := "AND") (v := .ref (E.2.2.2 17)) hx hb (hA.2.2.1.1.1 17 (by decide)).1 hS hown (hts (.fieldLink RX8 233 "HighRecipes$Kind" "AND" "LHighRecipes$Kind;") (by decide +kernel)) (fun _ h9 => h9) dX8_readCompares_110 ?_
        refine q_cv (va_runV (As := [.ref (E.2.2.2 17)]) (rest := []) ⟨hx, hb, hml, hown, hts⟩ (kX10_take l E (pS E (va_up g_68 s1.2.2.2.2.2 (some (rX11 (some (E.2.2.2 s1.2.1)) 0 (some s9.2.2.2.2.2) (some (s1.2.2.2.2.2 + 1)) o9))) px bk T pn rc s4) s4.2.2.2.2.2 (px + 1) T s4 kk K 17 pS_t ((pS_out (by omega) (by omega) (by omega)).trans (q_ne (by omega) ((fr_68 _ (by omega) (by omega) (by omega) (by omega)).trans ((pS_out (by omega) (by omega) (by omega)).trans (q_ne (by omega) ((fr_19 _ (by omega) (by omega) (by omega) (by omega)).trans ((pS_out (by omega) (by omega) (by omega)).trans ((hfr9 _ (by omega) (by omega) (by omega) (by omega)).trans f2)))))))) (by assumption) (by assumption) (by assumption) (by assumption) ok4 (by first | assumption | decide)) (cwV 1 hts gX8_readCompares_X10_take rfl rfl rfl (by decide +kernel) ⟨(Nat.le_of_ble_eq_true rfl), (Nat.le_of_ble_eq_true rfl)⟩) (q_pV hA hW hS (ci := 10) rfl pS_t) rfl rfl hl.1 rfl (lv_room (Nat.le_of_ble_eq_true rfl)) dX8_readCompares_113 ⟨(by show s9.2.2.2.2.2 - u.2.2.2.2.2 + (s1.2.2.2.2.2 - (s9.2.2.2.2.2)) + 1 + (s4.2.2.2.2.2 - (s1.2.2.2.2.2 + 1)) + 0 ≤ (p_cmps K Wd pN pn 400 u).2.2.2.2.2 - u.2.2.2.2.2; omega), (by show 9 * (s9.2.2.2.2.2 - u.2.2.2.2.2) + (9 * (s1.2.2.2.2.2 - (s9.2.2.2.2.2))) + 5 + (9 * (s4.2.2.2.2.2 - (s1.2.2.2.2.2 + 1))) + 0 ≤ 9 * ((p_cmps K Wd pN pn 400 u).2.2.2.2.2 - u.2.2.2.2.2); omega)⟩) hS (fun f_113 n_113 H locs hp hW hS => ?_)
        obtain ⟨rfl, rfl⟩ := hp
        have hW : q_W E (va_up (pS E (va_up g_68 s1.2.2.2.2.2 (some (rX11 (some (E.2.2.2 s1.2.1)) 0 (some s9.2.2.2.2.2) (some (s1.2.2.2.2.2 + 1)) o9))) px bk T pn rc s4) (px + 1) (some (cTS E (px + 1) T (p_take K 17 s4)))) s4.2.2.2.2.2 H := hW
        have hW : q_W E (pS E (va_up g_68 s1.2.2.2.2.2 (some (rX11 (some (E.2.2.2 s1.2.1)) 0 (some s9.2.2.2.2.2) (some (s1.2.2.2.2.2 + 1)) o9))) px bk T pn rc (p_take K 17 s4)) s4.2.2.2.2.2 H := by rw [← pS_st (s := s4) (s' := p_take K 17 s4) rfl rfl]; exact hW
        have hok_113 : p_ok K T (p_take K 17 s4) := ok4.take hKT (by first | assumption | decide)
        have hW : q_W E (pS E (va_up g_68 s1.2.2.2.2.2 (some (rX11 (some (E.2.2.2 s1.2.1)) 0 (some s9.2.2.2.2.2) (some (s1.2.2.2.2.2 + 1)) o9))) px bk T pn rc (p_take K 17 s4)) s4.2.2.2.2.2 H := hW
        refine lv_iinc (v := nI (i9 + 1)) (lv' := [(3, .int (nI (i9 + 1))), (2, .int 1), (1, .ref s1.2.2.2.2.2), (5, .ref s1.2.2.2.2.2), (4, .ref s9.2.2.2.2.2), (0, .ref px)]) hx hb dX8_readCompares_116 hl (k := 5) rfl (nI_1 i9) (by decide) rfl (fun ls hl => ?_)
        refine lv_goto (tgt := 6) hx hb dX8_readCompares_119 (by decide) ?_
        refine W.widen (show s9.2.2.2.2.2 - u.2.2.2.2.2 + (s1.2.2.2.2.2 - (s9.2.2.2.2.2)) + 1 + (s4.2.2.2.2.2 - (s1.2.2.2.2.2 + 1)) ≤ s4.2.2.2.2.2 - u.2.2.2.2.2 by omega) (show 9 * (s9.2.2.2.2.2 - u.2.2.2.2.2) + (9 * (s1.2.2.2.2.2 - (s9.2.2.2.2.2))) + 5 + (9 * (s4.2.2.2.2.2 - (s1.2.2.2.2.2 + 1))) ≤ 9 * (s4.2.2.2.2.2 - u.2.2.2.2.2) by omega) ?_
        exact ih (i9 + 1) (p_take K 17 s4) _ _ (p_cmpC K Wd pN pn s9 C9) (by omega) (ok4.take hKT (by decide)) (by show u.2.2.2.2.2 ≤ s4.2.2.2.2.2; omega) (fun q hq h7 h8 h9 => ((va_up_ne _ _ (by omega)).trans (fi_68 q hq h7 h8 h9))) (by rw [hcm]; show (if (p_cmp K Wd pN pn s9).2.1 = 17 then _ else _) = _; rw [ec, if_pos e93]) (by rw [hcC]; show (if (p_cmp K Wd pN pn s9).2.1 = 17 then _ else _) = _; rw [ec, if_pos e93]) (fun k1 k2 => repc ((go_take (s := s4) (w := 17) hKT (by decide) ok4).2.2.2.1 k1) k2) _ _ _ hW hS (lv_sub hl [5, 2, 1, 0] rfl)
  refine lv_null hx hb dX8_readCompares_0 ?_
  refine lv_astore_nN (lv' := [(1, .null), (0, .ref px)]) hx hb dX8_readCompares_1 rfl hl (by decide) rfl (fun ls hl => ?_)
  refine lv_iconst (v := 1) hx hb dX8_readCompares_2 (by decide) ?_
  refine lv_istore_n (lv' := [(2, .int 1), (1, .null), (0, .ref px)]) hx hb dX8_readCompares_3 rfl hl (by decide) rfl (fun ls hl => ?_)
  refine lv_iconst (v := 0) hx hb dX8_readCompares_4 (by decide) ?_
  refine lv_istore_n (lv' := [(3, .int 0), (2, .int 1), (1, .null), (0, .ref px)]) hx hb dX8_readCompares_5 rfl hl (by decide) rfl (fun ls hl => ?_)
  refine W.widen (Nat.zero_le (u.2.2.2.2.2 - u.2.2.2.2.2)) (Nat.zero_le (9 * (u.2.2.2.2.2 - u.2.2.2.2.2))) ?_
  exact K9 400 0 u f none (fun _ _ => true) rfl hok (Nat.le_refl _) (fun _ _ _ _ _ => rfl) rfl rfl (fun _ _ => ⟨0, rfl, rfl⟩) _ _ _ hW hS (lv_sub hl [3, 2, 1, 0] rfl)

