/-! the second text: what it tells -/
def sA : Int64 := l_wor [nI 97]
def sR : Int64 := l_wor [nI 114]
def spA : List Int32 := (kt 31).take 15
def srA : List Int32 := ((kt 31).drop 15).take 9
def shA : List Int32 := (kt 31).drop 25
def sbA : List Int32 := ((kt 32).drop 1).take 13
def s1T (N : Nat) : List Int32 := shA ++ dg N ++ kt 3
def s1 (N : Nat) : LT := (0, k_heat 1 0 (fun _ _ => nI N), s1T N, 0)
def s2 : LT := (0, k_boil 1 0 (fun _ _ => nI 1), sbA, 0)
def sTW (N : Nat) : List Int32 := kt 31 ++ dg N ++ kt 32
theorem s_31 : kt 31 = spA ++ srA ++ kt 5 ++ shA := by decide +kernel
theorem s_32 : kt 32 = kt 3 ++ sbA ++ kt 29 := by decide +kernel
theorem s_text (N : Nat) : sTW N = spA ++ (srA ++ bT [s1 N, s2]) := by
  show kt 31 ++ dg N ++ kt 32 = spA ++ (srA ++ (kt 5 ++ (s1T N ++ (sbA ++ [])) ++ kt 29))
  rw [s_31, s_32]
  unfold s1T
  simp only [List.append_assoc, List.append_nil]
theorem s_len {N : Nat} : (sTW N).length ≤ 60 := by
  have := dg_len N
  unfold sTW
  rw [List.length_append, List.length_append, ktl_31, ktl_32]
  omega
theorem s_okb {N : Nat} (h : N < 1000) : okb (sTW N) := okb_app (okb_app (kt_okb (by decide)) (dg_ok N h)) (kt_okb (by decide))
theorem s_lp : lex spA = [(0, 16430), (37, sA), (1, 8892563), (38, Int64.ofNat 30), (29, -37)] := by decide +kernel
theorem s_lr : lex srA = [(2, 609330693), (37, sR)] := by decide +kernel
theorem s_lh : lex shA = [(7, 267316), (37, sA), (8, 655)] := by decide +kernel
theorem s_lb : lex sbA = [(9, 81196), (37, sA), (10, 6642), (38, Int64.ofNat 1), (29, -37)] := by decide +kernel
theorem s_l1 {N : Nat} (h : N < 1000) : lex (s1T N) = [(7, 267316), (37, sA), (8, 655)] ++ [(38, Int64.ofNat N)] ++ [(29, -37)] := by
  unfold s1T
  rw [lex_app (sl_jn (by decide +kernel)), lex_app (sr_jn (by decide +kernel)), s_lh, lex_num N h, show lex (kt 3) = [(29, -37)] from by decide +kernel]
section TS2
variable {K : Nat → Nat} {Wd pN rN : Nat → Int64} {i et ac nn pn R F : Nat} {RS' : Nat → q_S}
theorem PNUM {k d : Nat} (hk : k < 1000) (t1 : K i = 38) (t2 : Wd i = Int64.ofNat k) : ∃ nn', p_val K Wd pN pn d (ST K i et ac nn) = ST K (i + 1) et ac nn' ∧ p_valD K Wd pN pn d (ST K i et ac nn) = fun _ _ => nI k := by
  have key : ∀ (G : p_S → p_S) (M : p_S → q_D) (b : Bool), p_val1 K Wd pN pn G b (ST K i et ac nn) = ST K (i + 1) et ac (nn + 1) ∧ p_valD1 K Wd pN pn G M b (ST K i et ac nn) = fun _ _ => nI k := fun G M b => by
    refine ⟨?_, ?_⟩
    · unfold p_val1
      rw [if_pos (show (ST K i et ac nn).2.1 = 38 from t1), ST_new, ST_take t1]
    · unfold p_valD1
      rw [if_pos (show (ST K i et ac nn).2.1 = 38 from t1)]
      funext hd v
      show (Wd i).toInt32 = nI k
      rw [t2, num_int k hk]
  cases d with
  | zero => exact ⟨_, key id (fun _ _ _ => 0) false⟩
  | succ d => exact ⟨_, key (p_val K Wd pN pn d) (p_valD K Wd pN pn d) true⟩
theorem s_P1 {N : Nat} (hN1000 : N < 1000) (hp : ix pN 1 sA = nI 0) : PAp K Wd pN rN 1 R RS' F (s1 N) := by
  intro i et ac nn hT h18 hac
  have hac : ac + 1 + 0 ≤ 80 := hac
  have hT : TOK K Wd i (lex (s1T N)) := hT
  show b_act (K i) = true ∧ ∃ nn', p_act K Wd pN 1 rN R (p_blk K Wd pN 1 rN R F) (ST K i et ac nn) = ST K (i + (lex (s1T N)).length) et (ac + 1 + 0) nn' ∧ p_actS K Wd pN 1 rN R RS' (p_blk K Wd pN 1 rN R F) (p_blkS K Wd pN 1 rN R RS' F) (ST K i et ac nn) = k_heat 1 0 (fun _ _ => nI N)
  rw [s_l1 hN1000] at hT ⊢
  obtain ⟨k1, -, k2, k2w, k3, -, k4, k4w, k5, -, -⟩ := hT
  have k1 : K i = 7 := k1
  have k2 : K (i + 1) = 37 := k2
  have k2w : Wd (i + 1) = sA := k2w
  have k3 : K (i + 1 + 1) = 8 := k3
  have k4 : K (i + 1 + 1 + 1) = 38 := k4
  have k4w : Wd (i + 1 + 1 + 1) = Int64.ofNat N := k4w
  have k5 : K (i + 1 + 1 + 1 + 1) = 29 := k5
  obtain ⟨m1, e1, f1⟩ := PNUM (pN := pN) (pn := 1) (et := et) (ac := ac + 1) (nn := nn + 1) (d := 4) hN1000 k4 k4w
  refine ⟨by rw [k1]; decide, m1, ?_, ?_⟩
  · rw [act_7 k1, ST_beg (by omega), ST_known (j := 0) k2 (by decide) (by rw [k2w]; exact hp), ST_take k3, e1, ST_take k5]
    rfl
  · rw [actS_7 k1, ST_beg (by omega), ST_known (j := 0) k2 (by decide) (by rw [k2w]; exact hp), ST_take k3, f1]
    show k_heat 1 (ix pN 1 (Wd (i + 1))).toNatClampNeg _ = _
    rw [k2w, hp]
    rfl
theorem s_P2 (hp : ix pN 1 sA = nI 0) : PAp K Wd pN rN 1 R RS' F s2 := by
  intro i et ac nn hT h18 hac
  have hac : ac + 1 + 0 ≤ 80 := hac
  have hT : TOK K Wd i (lex sbA) := hT
  show b_act (K i) = true ∧ ∃ nn', p_act K Wd pN 1 rN R (p_blk K Wd pN 1 rN R F) (ST K i et ac nn) = ST K (i + (lex sbA).length) et (ac + 1 + 0) nn' ∧ p_actS K Wd pN 1 rN R RS' (p_blk K Wd pN 1 rN R F) (p_blkS K Wd pN 1 rN R RS' F) (ST K i et ac nn) = k_boil 1 0 (fun _ _ => nI 1)
  rw [s_lb] at hT ⊢
  obtain ⟨k1, -, k2, k2w, k3, -, k4, k4w, k5, -, -⟩ := hT
  have k1 : K i = 9 := k1
  have k2 : K (i + 1) = 37 := k2
  have k2w : Wd (i + 1) = sA := k2w
  have k3 : K (i + 1 + 1) = 10 := k3
  have k4 : K (i + 1 + 1 + 1) = 38 := k4
  have k4w : Wd (i + 1 + 1 + 1) = Int64.ofNat 1 := k4w
  have k5 : K (i + 1 + 1 + 1 + 1) = 29 := k5
  obtain ⟨m1, e1, f1⟩ := PNUM (pN := pN) (pn := 1) (et := et) (ac := ac + 1) (nn := nn + 1) (d := 4) (by decide) k4 k4w
  refine ⟨by rw [k1]; decide, m1, ?_, ?_⟩
  · rw [act_9 k1, ST_beg (by omega), ST_known (j := 0) k2 (by decide) (by rw [k2w]; exact hp), ST_take k3, e1, ST_take k5]
    rfl
  · rw [actS_9 k1, ST_beg (by omega), ST_known (j := 0) k2 (by decide) (by rw [k2w]; exact hp), ST_take k3, f1]
    show k_boil 1 (ix pN 1 (Wd (i + 1))).toNatClampNeg _ = _
    rw [k2w, hp]
    rfl
theorem sb_hp : ix (vp_updL (fun _ => 0) 0 sA) 1 sA = nI 0 := by decide +kernel
theorem sb_l7 {A B C : List (Nat × Int64)} (h1 : A.length = 5) (h2 : B.length = 2) : (A ++ (B ++ C)).length = 7 + C.length := by
  rw [List.length_append, List.length_append, h1, h2]; omega
theorem sb_eP {n : Nat} (k0 : K 0 = 0) (k1 : K 1 = 37) (w1 : Wd 1 = sA) (k2 : K 2 = 1) (k3 : K 3 = 38) (w3 : Wd 3 = Int64.ofNat 30) (k4 : K 4 = 29) (k5 : K 5 = 2) : b_P K Wd et n = (ST K 5 et 0 n, 1, vp_updL (fun _ => 0) 0 sA, upd (fun _ => 0) 0 (nI 30)) := by
  have hho : p_hold K Wd 0 (fun _ => 0) (ST K 0 et 0 n) = ST K 3 et 0 n := by
    unfold p_hold
    rw [show decide (8 ≤ 0) = false from rfl, ST_take k0, ST_newn k1 rfl rfl, ST_take k2]
  have hX : p_panX K Wd 0 (fun _ => 0) (ST K 0 et 0 n) = nI 30 := by
    unfold p_panX
    rw [hho]
    show (Wd 3).toInt32 = _
    rw [w3]
    rfl
  have hS : p_panS K Wd 0 (fun _ => 0) (ST K 0 et 0 n) = ST K 5 et 0 n := by
    unfold p_panS
    rw [hX, hho, show decide (nI 30 < 1) = false from by decide, show decide ((200 : Int32) < nI 30) = false from by decide, Bool.or_false, Bool.and_false]
    show p_take K 29 (p_take K 38 (ST K 3 et 0 n)) = _
    rw [ST_take k3, ST_take k4]
  obtain ⟨F9, hF9⟩ : ∃ F9, 400 = F9 + 1 + 1 := ⟨398, rfl⟩
  unfold b_P
  rw [hF9]
  show b_pans K Wd (F9 + 1 + 1) (ST K 0 et 0 n) 0 (fun _ => 0) (fun _ => 0) = _
  refine (if_pos (show (ST K 0 et 0 n).2.1 = 0 from k0)).trans ((if_pos (by decide)).trans ?_)
  rw [hX, hS, show (p_take K 0 (ST K 0 et 0 n)).1 = 1 from by rw [ST_take k0], w1]
  exact if_neg (show ¬ K 5 = 0 from by rw [k5]; decide)
theorem sb_hr {n : Nat} (k5 : K 5 = 2) (k6 : K 6 = 37) (w6 : Wd 6 = sR) : p_recS K Wd 1 (vp_updL (fun _ => 0) 0 sA) 0 (fun _ => 0) (ST K 5 et 0 n) = ST K 7 et 0 n := by
  unfold p_recS
  rw [show decide (6 ≤ 0) = false from rfl, ST_take k5, ST_newn k6 (by rw [w6]; decide +kernel) rfl]
theorem sb_bC (N : Nat) : bC [s1 N, s2] = 2 := rfl
theorem sb_bl {N : Nat} : ∀ x ∈ [s1 N, s2], x = s1 N ∨ x = s2 := fun x hx => (List.mem_cons.mp hx).elim Or.inl (fun h => Or.inr (List.mem_singleton.mp h))
theorem sb_blk {N n : Nat} (hN : N < 1000) (t3 : TOK K Wd 7 (lex (bT [s1 N, s2]))) : ∃ m1, p_blk K Wd (vp_updL (fun _ => 0) 0 sA) 1 (fun _ => 0) 0 (5 + 1) (ST K 7 et 0 n) = ST K (7 + (lex (bT [s1 N, s2])).length) et 2 m1 ∧ p_blkS K Wd (vp_updL (fun _ => 0) 0 sA) 1 (fun _ => 0) 0 (fun _ => k_nil) (5 + 1) (ST K 7 et 0 n) = bS [s1 N, s2] := by
  have hA : ∀ x ∈ [s1 N, s2], PAp K Wd (vp_updL (fun _ => 0) 0 sA) (fun _ => 0) 1 0 (fun _ => k_nil) 5 x ∧ sr x.2.2.1 = true := fun x hx => by
    rcases sb_bl x hx with rfl | rfl
    · exact ⟨s_P1 hN sb_hp, sr_app (W := shA ++ dg N) (by decide +kernel) (by decide +kernel)⟩
    · exact ⟨s_P2 sb_hp, by decide +kernel⟩
  obtain ⟨m1, e1, f1⟩ := PBLK (K := K) (Wd := Wd) (F := 5) (i := 7) (et := et) (ac := 0) (nn := n) hA (show 2 < 400 from by decide) t3 (by rw [sb_bC]; decide)
  rw [sb_bC] at e1
  exact ⟨m1, e1, f1⟩
theorem sb_eR {N n m1 : Nat} (k5 : K 5 = 2) (k6 : K 6 = 37) (w6 : Wd 6 = sR) (h39 : K (7 + (lex (bT [s1 N, s2])).length) = 39) (eP : b_P K Wd et n = (ST K 5 et 0 n, 1, vp_updL (fun _ => 0) 0 sA, upd (fun _ => 0) 0 (nI 30)))
    (e1 : p_blk K Wd (vp_updL (fun _ => 0) 0 sA) 1 (fun _ => 0) 0 (5 + 1) (ST K 7 et 0 n) = ST K (7 + (lex (bT [s1 N, s2])).length) et 2 m1) (f1 : p_blkS K Wd (vp_updL (fun _ => 0) 0 sA) 1 (fun _ => 0) 0 (fun _ => k_nil) (5 + 1) (ST K 7 et 0 n) = bS [s1 N, s2]) : b_R K Wd et n = (ST K (7 + (lex (bT [s1 N, s2])).length) et 2 m1, 1, vp_updL (fun _ => 0) 0 sR, fun r => if r = 0 then bS [s1 N, s2] else k_nil) := by
  unfold b_R
  rw [eP]
  generalize (lex (bT [s1 N, s2])).length = ln at h39 e1 ⊢
  generalize bS [s1 N, s2] = S9 at f1 ⊢
  obtain ⟨F9, hF9⟩ : ∃ F9, 400 = F9 + 1 + 1 := ⟨398, rfl⟩
  rw [hF9]
  show b_recs K Wd 1 (vp_updL (fun _ => 0) 0 sA) (F9 + 1 + 1) (ST K 5 et 0 n) 0 (fun _ => 0) (fun _ => k_nil) = _
  refine (if_pos (show (ST K 5 et 0 n).2.1 = 2 from k5)).trans ((if_pos (by decide)).trans ?_)
  rw [sb_hr k5 k6 w6, e1, f1, show (p_take K 2 (ST K 5 et 0 n)).1 = 6 from by rw [ST_take k5], w6]
  exact if_neg (show ¬ K (7 + ln) = 2 from by rw [h39]; decide)
/-- the whole of it -/
theorem s_book {N n : Nat} (hN : N < 1000) (hT : TOK K Wd 0 (lex (sTW N))) (hK : K (lex (sTW N)).length = 39) :
    (b_P K Wd et n).2.1 = 1 ∧ (∀ j, j < 1 → (b_P K Wd et n).2.2.2 j = nI 30) ∧ (b_R K Wd et n).2.1 = 1 ∧ (∀ r, r < 1 → (b_R K Wd et n).2.2.2 r = bS [s1 N, s2]) ∧ (BKp K Wd et n).2.2.1 = 0 ∧ (BKp K Wd et n).2.2.2.2.1 = 2 := by
  have hl : lex (sTW N) = [(0, 16430), (37, sA), (1, 8892563), (38, Int64.ofNat 30), (29, -37)] ++ ([(2, 609330693), (37, sR)] ++ lex (bT [s1 N, s2])) := by
    rw [s_text, lex_app (sr_jn (by decide +kernel)), lex_app (sl_jn sl_bT), s_lp, s_lr]
  rw [hl] at hT hK
  obtain ⟨t1, t2⟩ := TOK.app hT
  obtain ⟨t2, t3⟩ := TOK.app t2
  obtain ⟨k0, -, k1, w1, k2, -, k3, w3, k4, -, -⟩ := t1
  have k0 : K 0 = 0 := k0
  have k1 : K 1 = 37 := k1
  have w1 : Wd 1 = sA := w1
  have k2 : K 2 = 1 := k2
  have k3 : K 3 = 38 := k3
  have w3 : Wd 3 = Int64.ofNat 30 := w3
  have k4 : K 4 = 29 := k4
  obtain ⟨k5, -, k6, w6, -⟩ := t2
  have k5 : K 5 = 2 := k5
  have k6 : K 6 = 37 := k6
  have w6 : Wd 6 = sR := w6
  have t3 : TOK K Wd 7 (lex (bT [s1 N, s2])) := t3
  have eP := sb_eP (et := et) (n := n) k0 k1 w1 k2 k3 w3 k4 k5
  rw [sb_l7 rfl rfl] at hK
  obtain ⟨m1, e1, f1⟩ := sb_blk (et := et) (n := n) hN t3
  have eR := sb_eR k5 k6 w6 hK eP e1 f1
  have eB : BKp K Wd et n = ST K (7 + (lex (bT [s1 N, s2])).length) et 2 m1 := by
    unfold BKp
    rw [eR]
    exact if_pos hK
  rw [eP, eR, eB]
  refine ⟨rfl, fun j hj => ?_, rfl, fun r hr => ?_, rfl, rfl⟩
  · obtain rfl : j = 0 := by omega
    rfl
  · obtain rfl : r = 0 := by omega
    rfl
end TS2
theorem s_tok {N : Nat} (h : N < 1000) : (lex (sTW N)).length ≤ 400 := by
  have e : (lex (bT [s1 N, s2])).length = 12 := by
    rw [lex_bT, show lex (bV [s1 N, s2]) = lex (s1T N) ++ lex (sbA ++ []) from lex_app (sr_jn (sr_app (by decide +kernel) (by decide +kernel))), List.append_nil, s_l1 h, s_lb]
    rfl
  rw [s_text, lex_app (sr_jn (by decide +kernel)), lex_app (sl_jn sl_bT), s_lp, s_lr, List.length_append, List.length_append, e]
  decide
theorem s1_S (N : Nat) : (s1 N).2.1 = k_heat 1 0 (fun _ _ => nI N) := rfl
theorem s2_S : s2.2.1 = k_boil 1 0 (fun _ _ => nI 1) := rfl
theorem s_blk2 (N : Nat) : s_blk 1 (bS [s1 N, s2]) := s_list [s1 N, s2] (fun x hx => by
  rcases sb_bl x hx with rfl | rfl
  · rw [s1_S]; exact s_heat (by decide) (fun _ _ _ _ _ => rfl)
  · rw [s2_S]; exact s_boil (by decide) (fun _ _ _ _ _ => rfl))
