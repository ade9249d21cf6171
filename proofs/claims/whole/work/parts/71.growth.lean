/-! how many objects a book makes: one a token, and twelve -/
def p_gr (A B : Nat) (s s' : p_S) : Prop := s.1 ≤ s'.1 ∧ (s.2.1 ≠ 40 → s'.2.2.2.2.2 + s.1 ≤ s.2.2.2.2.2 + s'.1 + (if s'.2.1 = 40 then A else 0)) ∧ (s.2.1 = 40 → s'.2.1 = 40 ∧ s'.2.2.2.2.2 + s.1 ≤ s.2.2.2.2.2 + s'.1 + B)
theorem gr_rf {A B : Nat} {s : p_S} : p_gr A B s s := ⟨Nat.le_refl _, fun _ => Nat.le_add_right _ _, fun h => ⟨h, Nat.le_add_right _ _⟩⟩
theorem gr_tr {A1 B1 A2 B2 A B : Nat} {s t u : p_S} (h : p_gr A1 B1 s t) (h2 : p_gr A2 B2 t u) (e1 : A1 + B2 ≤ A) (e2 : A2 ≤ A) (e3 : B1 + B2 ≤ B) : p_gr A B s u := by
  obtain ⟨a, b, c⟩ := h
  obtain ⟨a2, b2, c2⟩ := h2
  refine ⟨Nat.le_trans a a2, fun z => ?_, fun z => ⟨(c2 (c z).1).1, by have x1 := (c z).2; have x2 := (c2 (c z).1).2; omega⟩⟩
  have x1 := b z
  by_cases ht : t.2.1 = 40
  · rw [if_pos ht] at x1
    rw [if_pos (c2 ht).1]
    have x2 := (c2 ht).2
    omega
  · rw [if_neg ht] at x1
    have x2 := b2 ht
    split at x2
    · next h9 => rw [if_pos h9]; omega
    · next h9 => rw [if_neg h9]; omega
/-- the middle is no end -/
theorem gr_tl {A1 B1 A2 B2 A B : Nat} {s t u : p_S} (h : p_gr A1 B1 s t) (h2 : p_gr A2 B2 t u) (ht : t.2.1 ≠ 40) (e2 : A2 ≤ A) : p_gr A B s u := by
  have hs : s.2.1 ≠ 40 := fun z => ht (h.2.2 z).1
  have x1 := h.2.1 hs
  rw [if_neg ht] at x1
  have x2 := h2.2.1 ht
  refine ⟨Nat.le_trans h.1 h2.1, fun _ => ?_, fun z => absurd z hs⟩
  split at x2
  · next h9 => rw [if_pos h9]; omega
  · next h9 => rw [if_neg h9]; omega
theorem gr_live {A B B' : Nat} {s u : p_S} (hs : s.2.1 ≠ 40) (h : p_gr A B s u) : p_gr A B' s u := ⟨h.1, h.2.1, fun z => absurd z hs⟩
section GR
variable {K : Nat → Nat}
theorem gr_step {A B : Nat} {r : Bool} {s : p_S} (hr : r = true → s.2.1 ≠ 40) : p_gr A B s (p_step K r s) := by
  cases r
  · exact ⟨Nat.le_refl _, fun _ => Nat.le_add_right _ _, fun _ => ⟨rfl, Nat.le_add_right _ _⟩⟩
  · refine ⟨Nat.le_succ _, fun _ => ?_, fun z => absurd z (hr rfl)⟩
    show s.2.2.2.2.2 + s.1 ≤ s.2.2.2.2.2 + (s.1 + 1) + _
    omega
theorem gr_ns {A B : Nat} {r : Bool} {s : p_S} (hr : r = true → s.2.1 ≠ 40) (hA : 1 ≤ A) (hB : 1 ≤ B) : p_gr A B s (p_step K r (p_new s)) := by
  cases r
  · refine ⟨Nat.le_refl _, fun _ => ?_, fun _ => ⟨rfl, ?_⟩⟩
    · rw [if_pos (show (p_step K false (p_new s)).2.1 = 40 from rfl)]
      show s.2.2.2.2.2 + 1 + s.1 ≤ s.2.2.2.2.2 + s.1 + A
      omega
    · show s.2.2.2.2.2 + 1 + s.1 ≤ s.2.2.2.2.2 + s.1 + B
      omega
  · refine ⟨Nat.le_succ _, fun _ => ?_, fun z => absurd z (hr rfl)⟩
    show s.2.2.2.2.2 + 1 + s.1 ≤ s.2.2.2.2.2 + (s.1 + 1) + _
    omega
theorem gr_take {A B w : Nat} {s : p_S} (hw : w < 39) : p_gr A B s (p_take K w s) := gr_step fun e => by have := of_decide_eq_true e; omega
theorem gr_ci {A B e : Nat} {c : Bool} {s : p_S} : p_gr A B s (p_ci c e s) := ⟨Nat.le_refl _, fun _ => Nat.le_add_right _ _, fun h => ⟨h, Nat.le_add_right _ _⟩⟩
variable {Wd pN rN : Nat → Int64} {pn rc : Nat}
theorem gr_known {A B cnt : Nat} {nm : Nat → Int64} {s : p_S} : p_gr A B s (p_known K Wd nm cnt s) := gr_tr (gr_ci (A := 0) (B := 0)) (gr_step (A := 0) (B := 0) fun e => by have h9 := of_decide_eq_true e; show s.2.1 ≠ 40; omega) (Nat.zero_le _) (Nat.zero_le _) (Nat.zero_le _)
theorem gr_newn {A B : Nat} {full : Bool} {s : p_S} : p_gr A B s (p_newn K Wd pN pn rN rc full s) := by
  unfold p_newn
  refine gr_tr (A1 := 0) (B1 := 0) (A2 := 0) (B2 := 0) ?_ (gr_take (by decide)) (Nat.zero_le _) (Nat.zero_le _) (Nat.zero_le _)
  split
  · split
    · exact gr_ci
    · exact gr_ci
  · exact gr_rf
theorem gr_mid {A B : Nat} {s : p_S} : p_gr A B s (p_mid K s) := gr_step fun e => by have := (b_vsign_lt e).1; omega
theorem gr_val1 {V : p_S → p_S} {b : Bool} {A : Nat} (hb : b = true → ∀ s, p_gr A 1 s (V s)) (hA : 2 ≤ A) (s : p_S) : p_gr (A + 1) 1 s (p_val1 K Wd pN pn V b s) := by
  unfold p_val1
  split
  · next h => exact gr_ns (s := s) (fun _ => by omega) (by omega) (by omega)
  · split
    · next h =>
        have h40 : s.2.1 ≠ 40 := by have := (b_cont_lt h).1; omega
        exact gr_live h40 (gr_tr (B := 1) (gr_tr (A := A + 1) (B := 1) (gr_ns (A := 1) (B := 1) (s := s) (r := true) (fun _ => h40) (Nat.le_refl _) (Nat.le_refl _)) (gr_take (A := 0) (B := 0) (by decide)) (by omega) (by omega) (by omega)) (gr_known (A := 0) (B := 0)) (by omega) (by omega) (by omega))
    · split
      · next h =>
          obtain ⟨h1, rfl⟩ := h
          have hV := hb rfl
          refine gr_live (B := 3) (by omega) ?_
          exact gr_tr (gr_tr (A := A + 1) (B := 3) (gr_tr (A := A) (B := 2) (gr_tr (A := A) (B := 2) (gr_ns (A := 1) (B := 1) (s := s) (r := decide ((p_new s).2.1 = 27)) (fun _ => by omega) (Nat.le_refl _) (Nat.le_refl _)) (hV _) (by omega) (by omega) (by omega)) (gr_mid (A := 0) (B := 0)) (by omega) (by omega) (by omega)) (hV _) (by omega) (by omega) (by omega)) (gr_take (A := 0) (B := 0) (by decide)) (by omega) (by omega) (by omega)
      · exact gr_ns (s := s) (fun e => by have h9 := (b_meas_lt e).1; omega) (by omega) (by omega)
theorem gr_val : ∀ (d : Nat) (s : p_S), p_gr (d + 3) 1 s (p_val K Wd pN pn d s)
  | 0, s => gr_val1 (A := 2) (fun h => absurd h (by decide)) (Nat.le_refl _) s
  | d + 1, s => gr_val1 (A := d + 3) (fun _ s => gr_val d s) (by omega) s
theorem gr_cs {A B : Nat} {s : p_S} (hA : 1 ≤ A) (hB : 1 ≤ B) : p_gr A B s (p_cs K s) := gr_ns (s := s) (fun e => by have h9 := (b_csign_lt e).1; omega) hA hB
theorem gr_cmp {s : p_S} : p_gr 9 3 s (p_cmp K Wd pN pn s) := gr_tr (gr_tr (A := 8) (B := 2) (gr_val 4 s) (gr_cs (A := 1) (B := 1) (Nat.le_refl _) (Nat.le_refl _)) (by omega) (by omega) (by omega)) (gr_val 4 _) (by omega) (by omega) (by omega)
theorem gr_cmps : ∀ (m : Nat) (s : p_S), p_gr 9 3 s (p_cmps K Wd pN pn m s)
  | 0, _ => gr_rf
  | m + 1, s => by
    unfold p_cmps
    split
    · next h => exact gr_tl gr_cmp (gr_tr (A := 9) (B := 3) (gr_take (A := 0) (B := 0) (by decide)) (gr_cmps m _) (by omega) (by omega) (by omega)) (by omega) (Nat.le_refl _)
    · exact gr_cmp
theorem gr_beg {A B : Nat} {s : p_S} (h : s.2.1 ≠ 40) : p_gr A B s (p_beg K s) := by
  refine gr_live (B := 0) h ⟨Nat.le_succ _, fun _ => ?_, fun z => absurd z h⟩
  show s.2.2.2.2.2 + 1 + s.1 ≤ s.2.2.2.2.2 + (s.1 + 1) + _
  omega
theorem gr_else {B : p_S → p_S} {s : p_S} (hB : ∀ s, p_gr 12 0 s (B s)) : p_gr 12 0 s (p_else K B s) := by
  unfold p_else
  split
  · exact gr_tr (gr_take (A := 0) (B := 0) (by decide)) (hB _) (by omega) (by omega) (by omega)
  · exact gr_rf
theorem gr_what {A B : Nat} {s : p_S} : p_gr A B s (p_what K s) := gr_tr (gr_take (A := 0) (B := 0) (by split <;> decide)) (gr_take (A := 0) (B := 0) (by decide)) (Nat.zero_le _) (Nat.zero_le _) (Nat.zero_le _)
theorem gr_bv {s : p_S} (h : s.2.1 ≠ 40) : p_gr 7 1 s (p_val K Wd pN pn 4 (p_beg K s)) := gr_tr (gr_beg (A := 0) (B := 0) h) (gr_val 4 _) (by omega) (by omega) (by omega)
theorem gr_bk {cnt : Nat} {nm : Nat → Int64} {s : p_S} (h : s.2.1 ≠ 40) : p_gr 0 0 s (p_known K Wd nm cnt (p_beg K s)) := gr_tr (gr_beg (A := 0) (B := 0) h) (gr_known (A := 0) (B := 0)) (by omega) (by omega) (by omega)
theorem gr_act {B : p_S → p_S} {s : p_S} (hB : ∀ s, p_gr 12 0 s (B s)) (h0 : b_act s.2.1 = true) : p_gr 12 0 s (p_act K Wd pN pn rN rc B s) := by
  have h : s.2.1 ≠ 40 := by have := b_act_lt h0; omega
  refine gr_live (B := 4) h ?_
  unfold p_act
  split
  · exact gr_tr (gr_bv h) (hB _) (by omega) (by omega) (by omega)
  split
  · exact gr_tr (gr_tr (A := 12) (B := 3) (gr_tr (A := 9) (B := 3) (gr_beg (A := 0) (B := 0) h) (gr_cmps 400 _) (by omega) (by omega) (by omega)) (hB _) (by omega) (by omega) (by omega)) (gr_else hB) (by omega) (by omega) (by omega)
  split
  · exact gr_tr (gr_tr (A := 12) (B := 4) (gr_tr (A := 12) (B := 4) (gr_bv h) (gr_what (A := 0) (B := 0)) (by omega) (by omega) (by omega)) (gr_known (A := 0) (B := 0)) (by omega) (by omega) (by omega)) (gr_take (A := 0) (B := 0) (by decide)) (by omega) (by omega) (by omega)
  split
  · exact gr_tr (gr_tr (A := 7) (B := 4) (gr_tr (A := 0) (B := 0) (gr_bk h) (gr_take (A := 0) (B := 0) (by decide)) (by omega) (by omega) (by omega)) (gr_val 4 _) (by omega) (by omega) (by omega)) (gr_take (A := 0) (B := 0) (by decide)) (by omega) (by omega) (by omega)
  split
  · exact gr_tr (gr_tr (A := 7) (B := 4) (gr_tr (A := 0) (B := 0) (gr_bk h) (gr_take (A := 0) (B := 0) (by decide)) (by omega) (by omega) (by omega)) (gr_val 4 _) (by omega) (by omega) (by omega)) (gr_take (A := 0) (B := 0) (by decide)) (by omega) (by omega) (by omega)
  split
  · exact gr_tr (gr_bk h) (gr_take (A := 0) (B := 0) (by decide)) (by omega) (by omega) (by omega)
  split
  · exact gr_tr (gr_bk h) (gr_take (A := 0) (B := 0) (by decide)) (by omega) (by omega) (by omega)
  · exact gr_tr (gr_bv h) (gr_take (A := 0) (B := 0) (by decide)) (by omega) (by omega) (by omega)
theorem gr_acts {A : p_S → p_S} (hA : ∀ s, b_act s.2.1 = true → p_gr 12 0 s (A s)) : ∀ (m : Nat) (s : p_S), p_gr 12 0 s (p_acts A m s)
  | 0, _ => gr_rf
  | m + 1, s => by
    unfold p_acts
    split
    · next h => exact gr_tr (hA s h) (gr_acts hA m _) (by omega) (by omega) (by omega)
    · exact gr_rf
theorem gr_blk : ∀ (d : Nat) (s : p_S), p_gr 12 0 s (p_blk K Wd pN pn rN rc d s)
  | 0, s => gr_tr (gr_step (A := 0) (B := 0) (r := false) (fun h => absurd h (by decide))) (gr_take (A := 0) (B := 0) (by decide)) (by omega) (by omega) (by omega)
  | d + 1, s => gr_tr (gr_tr (A := 12) (B := 0) (gr_take (A := 0) (B := 0) (w := 27) (s := s) (by decide)) (gr_acts (fun s h => gr_act (fun s => gr_blk d s) h) 400 _) (by omega) (by omega) (by omega)) (gr_take (A := 0) (B := 0) (by decide)) (by omega) (by omega) (by omega)
theorem gr_recS {A B : Nat} {s : p_S} : p_gr A B s (p_recS K Wd pn pN rc rN s) := gr_tr (gr_take (A := 0) (B := 0) (by decide)) (gr_newn (A := 0) (B := 0)) (Nat.zero_le _) (Nat.zero_le _) (Nat.zero_le _)
theorem gr_panS {A B : Nat} {s : p_S} : p_gr A B s (p_panS K Wd pn pN s) := gr_tr (gr_tr (A := 0) (B := 0) (gr_tr (A := 0) (B := 0) (gr_tr (A := 0) (B := 0) (gr_tr (A := 0) (B := 0) (gr_take (A := 0) (B := 0) (by decide)) (gr_newn (A := 0) (B := 0)) (Nat.zero_le _) (Nat.zero_le _) (Nat.zero_le _)) (gr_take (A := 0) (B := 0) (by decide)) (Nat.zero_le _) (Nat.zero_le _) (Nat.zero_le _)) (gr_ci (A := 0) (B := 0)) (Nat.zero_le _) (Nat.zero_le _) (Nat.zero_le _)) (gr_take (A := 0) (B := 0) (by decide)) (Nat.zero_le _) (Nat.zero_le _) (Nat.zero_le _)) (gr_take (A := 0) (B := 0) (by decide)) (Nat.zero_le _) (Nat.zero_le _) (Nat.zero_le _)
end GR
theorem gr_recs {K : Nat → Nat} {Wd pN : Nat → Int64} {pn : Nat} : ∀ (m : Nat) (s : p_S) (rc : Nat) (rN : Nat → Int64) (RS : Nat → q_S), p_gr 12 0 s (b_recs K Wd pn pN m s rc rN RS).1
  | 0, _, _, _, _ => gr_rf
  | m + 1, s, rc, rN, RS => by
    unfold b_recs
    split
    · split
      · exact gr_tr (gr_tr (A := 12) (B := 0) (gr_recS (A := 0) (B := 0)) (gr_blk 6 _) (by omega) (by omega) (by omega)) (gr_recs m _ _ _ _) (by omega) (by omega) (by omega)
      · exact gr_tr (gr_tr (A := 12) (B := 0) (gr_recS (A := 0) (B := 0)) (gr_blk 6 _) (by omega) (by omega) (by omega)) (gr_recs m _ _ _ _) (by omega) (by omega) (by omega)
    · exact gr_rf
theorem gr_pans {K : Nat → Nat} {Wd : Nat → Int64} : ∀ (m : Nat) (s : p_S) (pn : Nat) (pN : Nat → Int64) (hd : Nat → Int32), p_gr 12 0 s (b_pans K Wd m s pn pN hd).1
  | 0, _, _, _, _ => gr_rf
  | m + 1, s, pn, pN, hd => by
    unfold b_pans
    split
    · split
      · exact gr_tr (gr_panS (A := 0) (B := 0)) (gr_pans m _ _ _ _) (by omega) (by omega) (by omega)
      · exact gr_tr (gr_panS (A := 0) (B := 0)) (gr_pans m _ _ _ _) (by omega) (by omega) (by omega)
    · exact gr_rf
theorem t_K_400 {g : Nat → Int32} {L : Nat} : 39 ≤ t_K g L 400 := by
  unfold t_K
  split
  · rw [if_neg (by decide)]
    decide
  · decide
/-- a book makes at most 412 objects beside its own five -/
theorem room_book {g : Nat → Int32} {L et n : Nat} : n ≤ (b_R (t_K g L) (t_W g L) et n).1.2.2.2.2.2 ∧ (b_R (t_K g L) (t_W g L) et n).1.2.2.2.2.2 ≤ n + 412 := by
  have ok0 : p_ok (t_K g L) 400 (0, t_K g L 0, 0, et, 0, n) := ⟨Nat.zero_le _, Or.inr rfl, Nat.zero_le _, fun h => absurd rfl h, Nat.le_refl _⟩
  have go := (go_pans (Wd := t_W g L) (t_K_400 (g := g) (L := L)) 400 (0, t_K g L 0, 0, et, 0, n) 0 (fun _ => 0) (fun _ => 0)).trans (go_recs (Wd := t_W g L) (pn := (b_P (t_K g L) (t_W g L) et n).2.1) (pN := (b_P (t_K g L) (t_W g L) et n).2.2.1) (t_K_400 (g := g) (L := L)) 400 _ 0 (fun _ => 0) (fun _ => k_nil))
  obtain ⟨ok1, le1⟩ := go ok0
  have gr : p_gr 12 0 (0, t_K g L 0, 0, et, 0, n) (b_R (t_K g L) (t_W g L) et n).1 := gr_tr (gr_pans 400 _ _ _ _) (gr_recs 400 _ _ _ _) (by omega) (by omega) (by omega)
  have h1 : (b_R (t_K g L) (t_W g L) et n).1.1 ≤ 400 := ok1.1
  refine ⟨le1.2.1, ?_⟩
  obtain ⟨-, g1, g2⟩ := gr
  by_cases h : t_K g L 0 = 40
  · have g2 := (g2 h).2
    have g2 : (b_R (t_K g L) (t_W g L) et n).1.2.2.2.2.2 + 0 ≤ n + (b_R (t_K g L) (t_W g L) et n).1.1 + 0 := g2
    omega
  · have g1 := g1 h
    have g1 : (b_R (t_K g L) (t_W g L) et n).1.2.2.2.2.2 + 0 ≤ n + (b_R (t_K g L) (t_W g L) et n).1.1 + (if (b_R (t_K g L) (t_W g L) et n).1.2.1 = 40 then 12 else 0) := g1
    split at g1
    · omega
    · omega
theorem fin_n {s : p_S} : (p_fin s).2.2.2.2.2 = s.2.2.2.2.2 := by
  unfold p_fin
  split
  · rfl
  · rfl
