section QDR
variable {p : Program} {l : Launch} {e : Env} {R : Room} {s : State} {m : MethodId} {args : Array Value} {below : List Frame} {meth : Method} {c : Code} {H : Heap} {locs : List Loc} {cells slots : Nat}
variable {cc : ByteArray} {pc : Nat} {ls : Array Slot} {E : q_E} {f : q_H} {n mc ms : Nat}
theorem q_dret {post : UInt64 → q_H → Nat → Prop} (hx : p.tables.exec = Jvm.exec) (hb : c.code = cc) (hr : meth.sig.returnType = some .double) (hlocks : meth.locks = false) (hW : q_W E f n H) (hS : va_S (q_ge E) s.heap H locs) {v : UInt64} (hp : post v f n) (h1 : cells ≤ mc) (h2 : slots ≤ ms) (hdg : decode cc pc = .ok (.dreturn, 1)) : W p l e R s m args below meth c H locs cells slots (MQ below (q_Qd E post) args s mc ms (q_ge E)) (F0 m pc ls [.double v]) :=
  W.widen h1 h2 (W.dret hx hb hr (fun t ht _ => ⟨⟨v, (f, n), rfl, hp, by show q_W E f n t.heap; rw [ht]; exact hW⟩, hS.F ht⟩) hS.2.2 hdg hlocks)
end QDR
def z_sum (v : q_V) : Nat → Int32
  | 0 => 0
  | j + 1 => z_sum v j + v (54 + 4 * j)
def z_mean (v : q_V) (pn : Nat) : UInt64 := if pn = 0 then FP.dconst0 else FP.ddiv (FP.i2d (z_sum v pn)) (FP.i2d (nI pn))
/-- the bits of a double, by their fields -/
def fl_G (N S E T : Nat) : Prop := N = (S * 2048 + E) * 2 ^ 52 + T ∧ S ≤ 1 ∧ E ≤ 2047 ∧ T < 2 ^ 52
theorem fl_tails : FP.Core.b64.tails = 2 ^ 52 := rfl
theorem fl_exps : FP.Core.b64.exps = 2048 := rfl
theorem fl_qmin : FP.Core.b64.qmin = -1074 := rfl
theorem fl_qmax : FP.Core.b64.qmax = 971 := rfl
theorem fl_asm (s : Bool) {E T : Nat} (hE : E ≤ 2047) (hT : T < 2 ^ 52) : ∃ S, fl_G (FP.Core.assemble FP.Core.b64 s E T) S E T := by
  refine ⟨s.toNat, ?_, by cases s <;> decide, hE, hT⟩
  unfold FP.Core.assemble
  rw [fl_tails, fl_exps]
/-- a number of the format, encoded -/
theorem fl_fin (s : Bool) {c : Nat} {q : Int} (hc : c < 2 ^ 53) (hq : q ≤ 971) : ∃ S E T, fl_G (FP.Core.encode FP.Core.b64 (.fin s c q)) S E T ∧ E < 2047 ∧ (2 ^ 52 ≤ c → E ≠ 0) := by
  by_cases h : c < FP.Core.b64.tails
  · have e : FP.Core.encode FP.Core.b64 (.fin s c q) = FP.Core.assemble FP.Core.b64 s 0 c := if_pos h
    rw [fl_tails] at h
    rw [e]
    obtain ⟨S, h1⟩ := fl_asm s (E := 0) (T := c) (by omega) h
    exact ⟨S, 0, c, h1, by omega, fun h9 => absurd h (by omega)⟩
  · have e : FP.Core.encode FP.Core.b64 (.fin s c q) = FP.Core.assemble FP.Core.b64 s ((q - FP.Core.b64.qmin).toNat + 1) (c - FP.Core.b64.tails) := if_neg h
    rw [fl_tails] at h
    rw [fl_tails, fl_qmin] at e
    rw [e]
    obtain ⟨S, h1⟩ := fl_asm s (E := (q - -1074).toNat + 1) (T := c - 2 ^ 52) (by omega) (by omega)
    exact ⟨S, _, _, h1, by omega, fun _ => by omega⟩
theorem fl_inf (s : Bool) : ∃ S E T, fl_G (FP.Core.encode FP.Core.b64 (.inf s)) S E T ∧ (E = 2047 → T = 0) := by
  obtain ⟨S, h1⟩ := fl_asm s (E := 2047) (T := 0) (by omega) (by omega)
  exact ⟨S, 2047, 0, h1, fun _ => rfl⟩
/-- what is rounded is no NaN -/
theorem fl_settle (s : Bool) (c : Nat) (q : Int) : ∃ S E T, fl_G (FP.Core.encode FP.Core.b64 (FP.Core.settle FP.Core.b64 s c q)) S E T ∧ (E = 2047 → T = 0) := by
  unfold FP.Core.settle FP.Core.bound
  rw [fl_qmax, fl_tails, show FP.Core.b64.p = 53 from rfl]
  split
  · next h =>
    split
    · next h2 =>
      obtain ⟨S, E, T, h3, h4, -⟩ := fl_fin s h h2
      exact ⟨S, E, T, h3, fun h9 => by omega⟩
    · exact fl_inf s
  · split
    · next h2 =>
      obtain ⟨S, E, T, h3, h4, -⟩ := fl_fin s (c := 2 ^ 52) (by omega) h2
      exact ⟨S, E, T, h3, fun h9 => by omega⟩
    · exact fl_inf s
theorem fl_ratio (s : Bool) (a b : Nat) (e : Int) : ∃ S E T, fl_G (FP.Core.encode FP.Core.b64 (FP.Core.roundRatio FP.Core.b64 s a b e)) S E T ∧ (E = 2047 → T = 0) := by
  unfold FP.Core.roundRatio
  split
  · obtain ⟨S, E, T, h3, h4, -⟩ := fl_fin s (c := 0) (q := FP.Core.b64.qmin) (by omega) (by rw [fl_qmin]; omega)
    exact ⟨S, E, T, h3, fun h9 => by omega⟩
  · exact fl_settle s _ _
theorem fl_lt {N S E T : Nat} (h : fl_G N S E T) : N < 2 ^ 64 := by
  obtain ⟨rfl, h1, h2, h3⟩ := h
  omega
theorem fl_T {N S E T : Nat} (h : fl_G N S E T) : FP.Core.fieldT FP.Core.b64 N = T := by
  obtain ⟨rfl, h1, h2, h3⟩ := h
  unfold FP.Core.fieldT
  rw [fl_tails]
  omega
theorem fl_E {N S E T : Nat} (h : fl_G N S E T) : FP.Core.fieldE FP.Core.b64 N = E := by
  obtain ⟨rfl, h1, h2, h3⟩ := h
  unfold FP.Core.fieldE
  rw [fl_tails, fl_exps]
  omega
theorem fl_to {N S E T : Nat} (h : fl_G N S E T) : (UInt64.ofNat N).toNat = N := UInt64.toNat_ofNat_of_lt' (by have := fl_lt h; simpa using this)
theorem fl_bits {N S E T : Nat} (h : fl_G N S E T) (hT : E = 2047 → T = 0) : vf_n64 (UInt64.ofNat N) := by
  unfold vf_n64
  rw [UInt64.le_iff_toNat_le, UInt64.toNat_and, fl_to h]
  rw [show (0x7fffffffffffffff : UInt64).toNat = 2 ^ 63 - 1 from rfl, show (0x7ff0000000000000 : UInt64).toNat = 2047 * 2 ^ 52 from rfl, Nat.and_two_pow_sub_one_eq_mod]
  obtain ⟨rfl, h1, h2, h3⟩ := h
  by_cases h9 : E = 2047
  · have := hT h9
    omega
  · omega
theorem fl_dec {N S E T : Nat} (h : fl_G N S E T) (hT : E = 2047 → T = 0) : FP.Core.decode FP.Core.b64 N ≠ .nan := by
  unfold FP.Core.decode
  rw [fl_T h, fl_E h, fl_exps]
  split
  · next h9 =>
    rw [if_pos (hT h9)]
    intro h; cases h
  · split
    · intro h; cases h
    · intro h; cases h
theorem fl_dec2 {N S E T : Nat} (h : fl_G N S E T) (h1 : E < 2047) (h2 : E ≠ 0) : ∃ s c q, FP.Core.decode FP.Core.b64 N = .fin s c q ∧ c ≠ 0 := by
  unfold FP.Core.decode
  rw [fl_T h, fl_E h, fl_exps, if_neg (by omega), if_neg h2, fl_tails]
  exact ⟨_, _, _, rfl, by omega⟩
/-- an int that is not 0, as a double -/
theorem fl_int {i : Int} (h0 : i ≠ 0) (h1 : i.natAbs < 2 ^ 32) : ∃ S E T, fl_G (FP.Core.fromInt FP.Core.b64 i) S E T ∧ E < 2047 ∧ E ≠ 0 := by
  unfold FP.Core.fromInt FP.Core.ofInt FP.Core.round FP.Core.roundRatio FP.Core.roundAt
  generalize decide (i < 0) = s
  obtain ⟨c, hc⟩ : ∃ c, c = i.natAbs := ⟨_, rfl⟩
  have hc0 : c ≠ 0 := by omega
  have hc1 : c < 2 ^ 32 := by omega
  rw [← hc]
  clear hc
  simp only [if_neg hc0]
  have hk1 : 2 ^ c.log2 ≤ c := Nat.log2_self_le hc0
  have hk2 : c.log2 < 32 := (Nat.log2_lt hc0).2 hc1
  obtain ⟨k, hk⟩ : ∃ k, k = c.log2 := ⟨_, rfl⟩
  have hl : FP.Core.leading c 1 = (k : Int) := by
    unfold FP.Core.leading
    have e : (c.log2 : Int) - ((1 : Nat).log2 : Int) = (k : Int) := by
      rw [show (1 : Nat).log2 = 0 from rfl, hk]; omega
    simp only [e]
    rw [if_pos]
    rw [show ((k : Int)).toNat = k by omega, show (-(k : Int)).toNat = 0 by omega, hk]
    omega
  have hq : FP.Core.quantum FP.Core.b64 c 1 0 = (k : Int) - 52 := by
    unfold FP.Core.quantum
    rw [hl, fl_qmin, show FP.Core.b64.p = 53 from rfl]
    omega
  rw [hq]
  have hn : FP.Core.nearest (FP.Core.unitsNum c 0 ((k : Int) - 52)) (FP.Core.unitsDen 1 0 ((k : Int) - 52)) = c * 2 ^ (52 - k) := by
    unfold FP.Core.unitsNum FP.Core.unitsDen
    rw [show ((k : Int) - 52 - 0).toNat = 0 by omega, show (0 - ((k : Int) - 52)).toNat = 52 - k by omega]
    unfold FP.Core.nearest
    rw [show 1 * 2 ^ 0 = 1 from rfl, Nat.mod_one, if_pos (by omega), Nat.div_one]
  rw [hn]
  have hg : 2 ^ 52 ≤ c * 2 ^ (52 - k) := by
    rw [show (2 : Nat) ^ 52 = 2 ^ k * 2 ^ (52 - k) by rw [← Nat.pow_add]; congr 1; omega]
    exact Nat.mul_le_mul_right _ (by rw [hk]; exact hk1)
  unfold FP.Core.settle FP.Core.bound
  rw [fl_qmax, fl_tails, show FP.Core.b64.p = 53 from rfl]
  split
  · next h =>
    rw [if_pos (by omega)]
    obtain ⟨S, E, T, h3, h4, h5⟩ := fl_fin s h (show (k : Int) - 52 ≤ 971 by omega)
    exact ⟨S, E, T, h3, h4, h5 hg⟩
  · rw [if_pos (by omega)]
    obtain ⟨S, E, T, h3, h4, h5⟩ := fl_fin s (c := 2 ^ 52) (by omega) (show (k : Int) - 52 + 1 ≤ 971 by omega)
    exact ⟨S, E, T, h3, h4, h5 (Nat.le_refl _)⟩
theorem fl_any (i : Int) : ∃ S E T, fl_G (FP.Core.fromInt FP.Core.b64 i) S E T ∧ (E = 2047 → T = 0) := fl_ratio _ _ _ _
theorem z_nn {x y : Int32} (h : y ≠ 0) : vf_n64 (FP.ddiv (FP.i2d x) (FP.i2d y)) := by
  obtain ⟨S, E, T, h1, h2⟩ := fl_any x.toInt
  have hy0 : y.toInt ≠ 0 := fun e => h (Int32.toInt_inj.1 (by rw [e]; rfl))
  have hy1 : y.toInt.natAbs < 2 ^ 32 := by
    have := y.toInt_lt
    have := y.le_toInt
    omega
  obtain ⟨S', E', T', g1, g2, g3⟩ := fl_int hy0 hy1
  have e1 : (FP.i2d x).toNat = FP.Core.fromInt FP.Core.b64 x.toInt := fl_to h1
  have e2 : (FP.i2d y).toNat = FP.Core.fromInt FP.Core.b64 y.toInt := fl_to g1
  have hX := fl_dec h1 h2
  obtain ⟨s, d, r, hY, hd⟩ := fl_dec2 g1 g2 g3
  have e3 : FP.ddiv (FP.i2d x) (FP.i2d y) = UInt64.ofNat (FP.Core.encode FP.Core.b64 (FP.Core.quotient FP.Core.b64 (FP.Core.decode FP.Core.b64 (FP.i2d x).toNat) (FP.Core.decode FP.Core.b64 (FP.i2d y).toNat))) := rfl
  rw [e3, e1, e2, hY]
  cases hD : FP.Core.decode FP.Core.b64 (FP.Core.fromInt FP.Core.b64 x.toInt) with
  | nan => exact absurd hD hX
  | inf t =>
    obtain ⟨S, E, T, h3, h4⟩ := fl_inf (t != s)
    exact fl_bits h3 h4
  | fin t c q =>
    unfold FP.Core.quotient
    simp only [if_neg hd]
    obtain ⟨S, E, T, h3, h4⟩ := fl_ratio (t != s) c d (q - r)
    exact fl_bits h3 h4

set_option maxHeartbeats 4000000 in
set_option maxRecDepth 100000 in
theorem kX14_meanHeat (l : Launch) (E : q_E) (f : q_H) (n : Nat) (M : Nat) (r : q_R) (pn : Nat)  (hm : RM E f M r) (hpn9 : (r 120 0) = nI pn) (hpn : pn ≤ 8) : Met l yX14_meanHeat wsX14_meanHeat ({ frames := 1, cells := 0, slots := 0, locals := 21 }) (q_P E [.ref M] f n) (q_Qd E (fun r0 f1 n1 => z_mean (r 42) pn = r0 ∧ rO E f M (rp r 100 (fun _ => 0)) = f1 ∧ n = n1)) 0 0 (q_ge E) := by
  refine Met.ofW (cc := cX14_meanHeat) (maxL := 3) (ret := (some .double)) (by decide) rfl ?_
  intro p e s m args below meth c s₁ B hml hv
  obtain ⟨rfl, hA, hW⟩ := hv
  have hx := B.exec
  have hb := B.bytes
  have hr := B.returns
  have hts := atoms_spec (ws := wsX14_meanHeat) B.pre
  have hown : s.vm.findClass RX14 = some m.cls := findClass_of_methodNamed B.named
  have hlocks := B.notSynchronized
  have hS : va_S (q_ge E) s.heap s.heap [] := va_S.rf
  have iX13 : ∀ w ∈ wsX130, w ∈ wsX14_meanHeat := by decide +kernel
  have iX14 : ∀ w ∈ wsX140, w ∈ wsX14_meanHeat := by decide +kernel
  have hl := lv_entry ([.ref M]) (n := 3) (Nat.le_of_ble_eq_true rfl)
  rw [lg_entry_eq]
  generalize (lg_sl ([.ref M]) ++ List.replicate (3 - (lg_sl ([.ref M])).length) Slot.unset).toArray = ls at hl ⊢
  have hl : lv_has ls 3 [(0, .ref M)] := hl
  have hmE := hm.eq
  rw [hm.eq] at hW
  refine lv_aload_n hx hb dX14_meanHeat_0 rfl (lv_at hl 0 rfl) ?_
  refine lv_iconst (v := 0) hx hb dX14_meanHeat_1 (by decide) ?_
  refine q_put hx hb hts hown hA hW hS iX14 tyX14 tyX14_ok nmX14 rO_0 rfl 0 (by decide) (hts (.fieldLink RX14 54 "HighRecipesModel" "thrown" "I") (by decide +kernel)) (fun _ h9 => h9) rfl rfl rfl (Nat.le_of_ble_eq_true rfl) dX14_meanHeat_2 (fun H locs hW hS => ?_)
  have hW := q_s0 100 (0) hW rfl (by decide)
  refine lv_iconst (v := 0) hx hb dX14_meanHeat_5 (by decide) ?_
  refine lv_istore_n (lv' := [(1, .int 0), (0, .ref M)]) hx hb dX14_meanHeat_6 rfl hl (by decide) rfl (fun ls hl => ?_)
  refine lv_iconst (v := 0) hx hb dX14_meanHeat_7 (by decide) ?_
  refine lv_istore_n (lv' := [(2, .int 0), (1, .int 0), (0, .ref M)]) hx hb dX14_meanHeat_8 rfl hl (by decide) rfl (fun ls hl => ?_)
  have K9 : ∀ (fu : Nat) (j : Nat) (hj : j ≤ pn) (hm : pn - j < fu) (H : Heap) (locs : List Loc) (ls : Array Slot), q_W E (rO E f M (rp r 100 (fun _ => 0))) n H → va_S (q_ge E) s.heap H locs → lv_has ls 3 [(0, .ref M), (1, .int (z_sum (r 42) j)), (2, .int (nI j))] → W p l e (headSpec wsX14_meanHeat ({ frames := 1, cells := 0, slots := 0, locals := 21 })).room s m ([.ref M] : List Value).toArray below meth c H locs 0 0 (MQ below (q_Qd E (fun r0 f1 n1 => z_mean (r 42) pn = r0 ∧ rO E f M (rp r 100 (fun _ => 0)) = f1 ∧ n = n1)) ([.ref M] : List Value).toArray s 0 0 (q_ge E)) (F0 m 9 ls []) := by
    intro fu
    induction fu with
    | zero =>
      intro j hj hm
      exact absurd hm (Nat.not_lt_zero _)
    | succ fu ih =>
      intro j hj hm H locs ls hW hS hl
      refine lv_iload_n hx hb dX14_meanHeat_9 rfl (lv_at hl 2 rfl) ?_
      refine lv_aload_n hx hb dX14_meanHeat_10 rfl (lv_at hl 0 rfl) ?_
      refine q_get hx hb hts hown hA hW iX14 rO_0 rfl 17 (by decide) (hts (.fieldLink RX14 38 "HighRecipesModel" "told" "LHighRecipesModel$Book;") (by decide +kernel)) (fun _ h9 => h9) (v := .ref (M + 8)) rfl dX14_meanHeat_11 ?_
      refine q_getN hx hb hts hown hA hW iX13 rO_8 rfl 0 (by decide) (va_Nw.use rfl (hA.2.2.2.1 ("HighRecipesModel", 150, "HighRecipesModel$Book", "pans", "I", "HighRecipesModel") (by decide +kernel))) (fun _ h9 => h9) (v := .int (nI pn)) (congrArg (fun z => some (Value.int z)) hpn9) dX14_meanHeat_14 ?_
      refine lv_icmp_ge (tgt := 39) hx hb dX14_meanHeat_17 (by decide) (fun c_17 => ?_) (fun c_17 => ?_)
      · have ej : j = pn := by rcases Nat.lt_or_ge j pn with h9 | h9; exact absurd c_17 (nI_ge h9 (by omega)); omega
        rw [ej] at hl
        refine lv_aload_n hx hb dX14_meanHeat_39 rfl (lv_at hl 0 rfl) ?_
        refine q_get hx hb hts hown hA hW iX14 rO_0 rfl 17 (by decide) (hts (.fieldLink RX14 38 "HighRecipesModel" "told" "LHighRecipesModel$Book;") (by decide +kernel)) (fun _ h9 => h9) (v := .ref (M + 8)) rfl dX14_meanHeat_40 ?_
        refine q_getN hx hb hts hown hA hW iX13 rO_8 rfl 0 (by decide) (va_Nw.use rfl (hA.2.2.2.1 ("HighRecipesModel", 150, "HighRecipesModel$Book", "pans", "I", "HighRecipesModel") (by decide +kernel))) (fun _ h9 => h9) (v := .int (nI pn)) (congrArg (fun z => some (Value.int z)) hpn9) dX14_meanHeat_43 ?_
        refine lv_if_ne (tgt := 53) hx hb dX14_meanHeat_46 (by decide) (fun c_46 => ?_) (fun c_46 => ?_)
        · have e0 : ¬ pn = 0 := fun h9 => c_46 (by rw [h9]; rfl)
          refine lv_iload_n hx hb dX14_meanHeat_53 rfl (lv_at hl 1 rfl) ?_
          refine lv_i2d hx hb dX14_meanHeat_54 ?_
          refine lv_aload_n hx hb dX14_meanHeat_55 rfl (lv_at hl 0 rfl) ?_
          refine q_get hx hb hts hown hA hW iX14 rO_0 rfl 17 (by decide) (hts (.fieldLink RX14 38 "HighRecipesModel" "told" "LHighRecipesModel$Book;") (by decide +kernel)) (fun _ h9 => h9) (v := .ref (M + 8)) rfl dX14_meanHeat_56 ?_
          refine q_getN hx hb hts hown hA hW iX13 rO_8 rfl 0 (by decide) (va_Nw.use rfl (hA.2.2.2.1 ("HighRecipesModel", 150, "HighRecipesModel$Book", "pans", "I", "HighRecipesModel") (by decide +kernel))) (fun _ h9 => h9) (v := .int (nI pn)) (congrArg (fun z => some (Value.int z)) hpn9) dX14_meanHeat_59 ?_
          refine lv_i2d hx hb dX14_meanHeat_62 ?_
          refine lv_ddiv hx hb dX14_meanHeat_63 (z_nn c_46) ?_
          exact q_dret hx hb hr hlocks hW hS ⟨(if_neg e0), rfl, rfl⟩ (Nat.le_of_ble_eq_true rfl) (Nat.le_of_ble_eq_true rfl) dX14_meanHeat_64
        · have e0 : pn = 0 := (nI_eq (b := 0) (by omega) (by decide)).1 c_46
          refine lv_dconst0 hx hb dX14_meanHeat_49 ?_
          refine lv_goto (tgt := 64) hx hb dX14_meanHeat_50 (by decide) ?_
          exact q_dret hx hb hr hlocks hW hS ⟨(if_pos e0), rfl, rfl⟩ (Nat.le_of_ble_eq_true rfl) (Nat.le_of_ble_eq_true rfl) dX14_meanHeat_64
      · have hlt : j < pn := by rcases Nat.lt_or_ge j pn with h9 | h9; exact h9; exact absurd (nI_le h9 (by omega)) c_17
        refine lv_iload_n hx hb dX14_meanHeat_20 rfl (lv_at hl 1 rfl) ?_
        refine lv_aload_n hx hb dX14_meanHeat_21 rfl (lv_at hl 0 rfl) ?_
        refine q_get hx hb hts hown hA hW iX14 rO_0 rfl 19 (by decide) (hts (.fieldLink RX14 45 "HighRecipesModel" "now" "[I") (by decide +kernel)) (fun _ h9 => h9) (v := .ref (M + 42)) rfl dX14_meanHeat_22 ?_
        refine lv_iload_n hx hb dX14_meanHeat_25 rfl (lv_at hl 2 rfl) ?_
        refine lv_iconst (v := 2) hx hb dX14_meanHeat_26 (by decide) ?_
        refine q_ci (va_runS (As := [.int (nI j), .int 2]) (rest := [.ref (M + 42), .int (z_sum (r 42) j)]) ⟨hx, hb, hml, hown, hts⟩ (kX14_of_2 l E (rO E f M (rp r 100 (fun _ => 0))) n j) (va_cwS 2 hts gX14_meanHeat_X14_of rfl rfl rfl (by decide +kernel) ⟨(Nat.le_of_ble_eq_true rfl), (Nat.le_of_ble_eq_true rfl)⟩) (q_pS hA hW hS) rfl rfl hl.1 rfl (lv_room (Nat.le_of_ble_eq_true rfl)) dX14_meanHeat_27 ⟨Nat.le_of_ble_eq_true rfl, Nat.le_of_ble_eq_true rfl⟩) hS (fun r_27 f_27 n_27 H locs hp hW hS => ?_)
        obtain ⟨rfl, rfl, rfl⟩ := hp
        have hW : q_W E (rO E f M (rp r 100 (fun _ => 0))) n H := hW
        refine q_ald hx hb hA hW (rO_42 (g := r 42) rfl) (54 + 4 * j) rfl (by omega) (by decide) (x := (r 42) (54 + 4 * j)) rfl dX14_meanHeat_30 ?_
        refine lv_iadd hx hb dX14_meanHeat_31 ?_
        refine lv_istore_n (lv' := [(1, .int ((z_sum (r 42) j) + ((r 42) (54 + 4 * j)))), (0, .ref M), (2, .int (nI j))]) hx hb dX14_meanHeat_32 rfl hl (by decide) rfl (fun ls hl => ?_)
        refine lv_iinc (v := nI (j + 1)) (lv' := [(2, .int (nI (j + 1))), (1, .int ((z_sum (r 42) j) + ((r 42) (54 + 4 * j)))), (0, .ref M)]) hx hb dX14_meanHeat_33 hl (k := 2) rfl (nI_1 j) (by decide) rfl (fun ls hl => ?_)
        refine lv_goto (tgt := 9) hx hb dX14_meanHeat_36 (by decide) ?_
        exact ih (j + 1) hlt (by omega) _ _ _ hW hS (lv_sub hl [2, 1, 0] rfl)
  exact K9 _ 0 (Nat.zero_le _) (Nat.lt_succ_self _) _ _ _ hW hS (lv_sub hl [2, 1, 0] rfl)
