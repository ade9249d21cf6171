/-! no error: eighty acts at most -/
def p_a (s : p_S) : Prop := s.2.2.1 = 0 → s.2.2.2.2.1 ≤ 80
section PA
variable {K : Nat → Nat} {Wd pN rN : Nat → Int64} {pn rc : Nat}
theorem a_step {r : Bool} {s : p_S} (h : p_a s) : p_a (p_step K r s) := h
theorem a_take {w : Nat} {s : p_S} (h : p_a s) : p_a (p_take K w s) := h
theorem a_new {s : p_S} (h : p_a s) : p_a (p_new s) := h
theorem a_ci {c : Bool} {e : Nat} {s : p_S} (he : e ≠ 0) (h : p_a s) : p_a (p_ci c e s) := by
  intro z
  have z : (if c = true ∧ s.2.2.1 = 0 then e else s.2.2.1) = 0 := z
  split at z
  · exact absurd z he
  · exact h z
theorem a_known {nm : Nat → Int64} {cnt : Nat} {s : p_S} (h : p_a s) : p_a (p_known K Wd nm cnt s) := a_step (a_ci (by decide) h)
theorem a_newn {full : Bool} {s : p_S} (h : p_a s) : p_a (p_newn K Wd pN pn rN rc full s) := by
  unfold p_newn
  refine a_take ?_
  split
  · split
    · exact a_ci (by decide) h
    · exact a_ci (by decide) h
  · exact h
theorem a_beg {s : p_S} : p_a (p_beg K s) := fun z => beg_ok (K := K) (u := s) z
theorem a_val1 {V : p_S → p_S} {b : Bool} (hV : ∀ s, p_a s → p_a (V s)) {s : p_S} (h : p_a s) : p_a (p_val1 K Wd pN pn V b s) := by
  unfold p_val1
  split
  · exact a_take (a_new h)
  · split
    · exact a_known (a_take (a_step (a_new h)))
    · split
      · exact a_take (hV _ (a_step (hV _ (a_take (a_new h)))))
      · exact a_step (a_new h)
theorem a_val : ∀ (d : Nat) (s : p_S), p_a s → p_a (p_val K Wd pN pn d s)
  | 0, s, h => a_val1 (V := id) (b := false) (fun _ h => h) h
  | d + 1, s, h => a_val1 (V := p_val K Wd pN pn d) (b := true) (a_val d) h
theorem a_cmp {s : p_S} (h : p_a s) : p_a (p_cmp K Wd pN pn s) := a_val 4 _ (a_step (a_new (a_val 4 _ h)))
theorem a_cmps : ∀ (m : Nat) (s : p_S), p_a s → p_a (p_cmps K Wd pN pn m s)
  | 0, _, h => h
  | m + 1, s, h => by
    unfold p_cmps
    split
    · exact a_cmps m _ (a_take (a_cmp h))
    · exact a_cmp h
theorem a_act {B : p_S → p_S} (hB : ∀ s, p_a s → p_a (B s)) {s : p_S} : p_a (p_act K Wd pN pn rN rc B s) := by
  have b : p_a (p_beg K s) := a_beg
  unfold p_act
  split
  · exact hB _ (a_val 4 _ b)
  · split
    · unfold p_else
      split
      · exact hB _ (a_take (hB _ (a_cmps 400 _ b)))
      · exact hB _ (a_cmps 400 _ b)
    · split
      · exact a_take (a_known (a_take (a_take (a_val 4 _ b))))
      · split
        · exact a_take (a_val 4 _ (a_take (a_known b)))
        · split
          · exact a_take (a_val 4 _ (a_take (a_known b)))
          · split
            · exact a_take (a_known b)
            · split
              · exact a_take (a_known b)
              · exact a_take (a_val 4 _ b)
theorem a_acts {A : p_S → p_S} (hA : ∀ s, p_a (A s)) : ∀ (m : Nat) (s : p_S), p_a s → p_a (p_acts A m s)
  | 0, _, h => h
  | m + 1, s, h => by
    unfold p_acts
    split
    · exact a_acts hA m _ (hA s)
    · exact h
theorem a_blk : ∀ (d : Nat) (s : p_S), p_a s → p_a (p_blk K Wd pN pn rN rc d s)
  | 0, s, h => a_take (a_step h)
  | d + 1, s, h => a_take (a_acts (fun s => a_act (a_blk d)) 400 _ (a_take h))
theorem a_panS {s : p_S} (h : p_a s) : p_a (p_panS K Wd pn pN s) := a_take (a_take (a_ci (by decide) (a_take (a_newn (a_take h)))))
theorem a_pans : ∀ (m : Nat) (s : p_S) (pn : Nat) (pN : Nat → Int64) (hd : Nat → Int32), p_a s → p_a (b_pans K Wd m s pn pN hd).1
  | 0, _, _, _, _, h => h
  | m + 1, s, pn, pN, hd, h => by
    unfold b_pans
    split
    · split
      · exact a_pans m _ _ _ _ (a_panS h)
      · exact a_pans m _ _ _ _ (a_panS h)
    · exact h
theorem a_recs : ∀ (m : Nat) (s : p_S) (rc : Nat) (rN : Nat → Int64) (RS : Nat → q_S), p_a s → p_a (b_recs K Wd pn pN m s rc rN RS).1
  | 0, _, _, _, _, h => h
  | m + 1, s, rc, rN, RS, h => by
    unfold b_recs
    split
    · split
      · exact a_recs m _ _ _ _ (a_blk 6 _ (a_newn (a_take h)))
      · exact a_recs m _ _ _ _ (a_blk 6 _ (a_newn (a_take h)))
    · exact h
/-- a book without an error has eighty acts at most -/
theorem a_book {et n : Nat} (h : (BKp K Wd et n).2.2.1 = 0) : (BKp K Wd et n).2.2.2.2.1 ≤ 80 := by
  have z : p_a (b_R K Wd et n).1 := a_recs 400 _ _ _ _ (a_pans 400 _ _ _ _ (fun _ => Nat.zero_le _))
  unfold BKp p_fin at h ⊢
  split at h
  · next e => rw [if_pos e]; exact z h
  · exact absurd (show (1 : Nat) = 0 from h) (by decide)
end PA
