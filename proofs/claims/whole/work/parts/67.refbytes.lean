/-! bytes of ints -/
theorem low8 (y : Int32) : y.toInt8.toInt32 &&& 255 = y &&& 255 := by
  apply Int32.toBitVec_inj.mp
  apply BitVec.eq_of_getLsbD_eq
  intro i hi
  have e : (255 : Int32).toBitVec.getLsbD i = decide (i < 8) := by
    have z : ∀ i, i < 32 → (255 : Int32).toBitVec.getLsbD i = decide (i < 8) := by decide +kernel
    exact z i hi
  rw [Int32.toBitVec_and, Int32.toBitVec_and, BitVec.getLsbD_and, BitVec.getLsbD_and, e]
  by_cases h : i < 8
  · rw [decide_eq_true h, Bool.and_true, Bool.and_true, Int8.toBitVec_toInt32, Int32.toBitVec_toInt8, BitVec.getLsbD_signExtend, decide_eq_true hi, Bool.true_and, if_pos h, BitVec.getLsbD_signExtend, decide_eq_true h, Bool.true_and, if_pos hi]
  · rw [decide_eq_false h, Bool.and_false, Bool.and_false]
theorem shr_b (x : Int32) {i n : Nat} (h : i + n < 32) : (x.toBitVec >>> n).getLsbD i = (x.toBitVec.sshiftRight n).getLsbD i := by
  rw [BitVec.getLsbD_ushiftRight, BitVec.getLsbD_sshiftRight, decide_eq_false (show ¬ 32 ≤ i by omega), if_pos (by omega)]
  rfl
theorem shr_24 (x : Int32) : (x.toUInt32 >>> ((24 : Int32).toUInt32 &&& Int32.toUInt32 31)).toInt32 &&& 255 = x >>> ((24 : Int32) &&& 31) &&& 255 := by
  apply Int32.toBitVec_inj.mp
  apply BitVec.eq_of_getLsbD_eq
  intro i hi
  have e : (255 : Int32).toBitVec.getLsbD i = decide (i < 8) := by
    have z : ∀ i, i < 32 → (255 : Int32).toBitVec.getLsbD i = decide (i < 8) := by decide +kernel
    exact z i hi
  rw [Int32.toBitVec_and, Int32.toBitVec_and, BitVec.getLsbD_and, BitVec.getLsbD_and, e]
  by_cases h : i < 8
  · rw [decide_eq_true h, Bool.and_true, Bool.and_true]
    exact shr_b x (n := 24) (by omega)
  · rw [decide_eq_false h, Bool.and_false, Bool.and_false]
theorem shr_16 (x : Int32) : (x.toUInt32 >>> ((16 : Int32).toUInt32 &&& Int32.toUInt32 31)).toInt32 &&& 255 = x >>> ((16 : Int32) &&& 31) &&& 255 := by
  apply Int32.toBitVec_inj.mp
  apply BitVec.eq_of_getLsbD_eq
  intro i hi
  have e : (255 : Int32).toBitVec.getLsbD i = decide (i < 8) := by
    have z : ∀ i, i < 32 → (255 : Int32).toBitVec.getLsbD i = decide (i < 8) := by decide +kernel
    exact z i hi
  rw [Int32.toBitVec_and, Int32.toBitVec_and, BitVec.getLsbD_and, BitVec.getLsbD_and, e]
  by_cases h : i < 8
  · rw [decide_eq_true h, Bool.and_true, Bool.and_true]
    exact shr_b x (n := 16) (by omega)
  · rw [decide_eq_false h, Bool.and_false, Bool.and_false]
theorem shr_8 (x : Int32) : (x.toUInt32 >>> ((8 : Int32).toUInt32 &&& Int32.toUInt32 31)).toInt32 &&& 255 = x >>> ((8 : Int32) &&& 31) &&& 255 := by
  apply Int32.toBitVec_inj.mp
  apply BitVec.eq_of_getLsbD_eq
  intro i hi
  have e : (255 : Int32).toBitVec.getLsbD i = decide (i < 8) := by
    have z : ∀ i, i < 32 → (255 : Int32).toBitVec.getLsbD i = decide (i < 8) := by decide +kernel
    exact z i hi
  rw [Int32.toBitVec_and, Int32.toBitVec_and, BitVec.getLsbD_and, BitVec.getLsbD_and, e]
  by_cases h : i < 8
  · rw [decide_eq_true h, Bool.and_true, Bool.and_true]
    exact shr_b x (n := 8) (by omega)
  · rw [decide_eq_false h, Bool.and_false, Bool.and_false]
theorem shr_0 (x : Int32) : (x.toUInt32 >>> ((0 : Int32).toUInt32 &&& Int32.toUInt32 31)).toInt32 &&& 255 = x >>> ((0 : Int32) &&& 31) &&& 255 := by
  apply Int32.toBitVec_inj.mp
  apply BitVec.eq_of_getLsbD_eq
  intro i hi
  have e : (255 : Int32).toBitVec.getLsbD i = decide (i < 8) := by
    have z : ∀ i, i < 32 → (255 : Int32).toBitVec.getLsbD i = decide (i < 8) := by decide +kernel
    exact z i hi
  rw [Int32.toBitVec_and, Int32.toBitVec_and, BitVec.getLsbD_and, BitVec.getLsbD_and, e]
  by_cases h : i < 8
  · rw [decide_eq_true h, Bool.and_true, Bool.and_true]
    exact shr_b x (n := 0) (by omega)
  · rw [decide_eq_false h, Bool.and_false, Bool.and_false]
theorem tb_24 (x : Int32) : t_b x 24 &&& 255 = x >>> ((24 : Int32) &&& 31) &&& 255 := by
  unfold t_b
  rw [low8, low8]
  exact shr_24 x
theorem tb_16 (x : Int32) : t_b x 16 &&& 255 = x >>> ((16 : Int32) &&& 31) &&& 255 := by
  unfold t_b
  rw [low8, low8]
  exact shr_16 x
theorem tb_8 (x : Int32) : t_b x 8 &&& 255 = x >>> ((8 : Int32) &&& 31) &&& 255 := by
  unfold t_b
  rw [low8, low8]
  exact shr_8 x
theorem tb_0 (x : Int32) : t_b x 0 &&& 255 = x >>> ((0 : Int32) &&& 31) &&& 255 := by
  unfold t_b
  rw [low8, low8]
  exact shr_0 x
theorem tp_four {g t : Nat → Int32} {L : Nat} {x : Int32} (h : ∀ j, j < L → t j = t_at g L j) : ∀ j, j < L + 4 → fd4 t L x j = t_at (t_four g L x) (L + 4) j := by
  intro j hj
  have e : t_at (t_four g L x) (L + 4) j = t_four g L x j &&& 255 := if_pos hj
  rw [e]
  unfold fd4 t_four
  by_cases e3 : j = L + 3
  · rw [e3, z_us, z_us, tb_0]
  · rw [z_un e3, z_un e3]
    by_cases e2 : j = L + 2
    · rw [e2, z_us, z_us, tb_8]
    · rw [z_un e2, z_un e2]
      by_cases e1 : j = L + 1
      · rw [e1, z_us, z_us, tb_16]
      · rw [z_un e1, z_un e1]
        by_cases e0 : j = L
        · rw [e0, z_us, z_us, tb_24]
        · rw [z_un e0, z_un e0, h j (by omega)]
          exact if_pos (by omega)
/-- the tapes after twenty bytes more -/
theorem tp_feed {g t : Nat → Int32} {L : Nat} {x1 x2 x3 x4 x5 : Int32} (h : ∀ j, j < L → t j = t_at g L j) : ∀ j, j < L + 20 → fd4 (fd4 (fd4 (fd4 (fd4 t L x1) (L + 4) x2) (L + 8) x3) (L + 12) x4) (L + 16) x5 j = t_at (t_four (t_four (t_four (t_four (t_four g L x1) (L + 4) x2) (L + 8) x3) (L + 12) x4) (L + 16) x5) (L + 20) j :=
  tp_four (tp_four (tp_four (tp_four (tp_four h))))
