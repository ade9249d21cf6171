/-! the law's cases: one call of the class, one of the reference -/
/-- what the law's walk stands on -/
def LX (p : Program) (l : Launch) (s : State) (m : MethodId) (c : Code) (E : q_E) (b L a : Nat) (xs : Nat → Int32) : Prop :=
  p.tables.exec = Jvm.exec ∧ c.code = code ∧ c.maxLocals = 9 ∧ s.vm.findClass RL = some m.cls ∧ (∀ w ∈ wsL_law, w.before #[Value.ref b] s = true) ∧ va_X b L xs s s.heap ∧ b < s.heap.size ∧ ¬ q_ge E b ∧ q_A E s ∧ va_Nc "java/lang/IllegalArgumentException" "java/lang/IndexOutOfBoundsException" s ∧ l.stackTraces = false ∧ L ≤ 3072
theorem JJ.cls {E : q_E} {a BB n : Nat} {f : q_H} (h : JJ E a BB f n) : ∃ q1 q2 q3 q4 q5 q6 ep, f a = some (rX12 q1 q2 q3 q4 q5 q6 ep) := by
  obtain ⟨ep, L, g, bk0, et, er0, c0, here0, k0, kk0, po0, wo0, b0, w0, b1, w1, bk, pn, rc, ac, gB, hd, v, bt, hdt, vt, lo, hi, RS, r, og, hF, hQ, hM, hO⟩ := h
  exact ⟨_, _, _, _, _, _, _, hF.1⟩
theorem JJ.le {E : q_E} {a BB B9 n : Nat} {f : q_H} (h : JJ E a BB f n) (hB : BB ≤ B9) : JJ E a B9 f n := by
  obtain ⟨ep, L, g, bk0, et, er0, c0, here0, k0, kk0, po0, wo0, b0, w0, b1, w1, bk, pn, rc, ac, gB, hd, v, bt, hdt, vt, lo, hi, RS, r, og, hF, hQ, hM, hO⟩ := h
  exact ⟨ep, L, g, bk0, et, er0, c0, here0, k0, kk0, po0, wo0, b0, w0, b1, w1, bk, pn, rc, ac, gB, hd, v, bt, hdt, vt, lo, hi, RS, r, og, hF, hQ.le hB (Nat.le_refl _), hM, hO⟩

set_option maxHeartbeats 4000000 in
set_option maxRecDepth 100000 in
theorem law_c0 {p : Program} {l : Launch} {e : Env} {s : State} {m : MethodId} {below : List Frame} {meth : Method} {c : Code} {E : q_E} {b L a : Nat} {xs : Nat → Int32} {Q : State → Prop} (X : LX p l s m c E b L a xs) {i : Nat} (hi : i + 6 ≤ L) {f : q_H} {n BB : Nat} {H : Heap} {locs : List Loc} {ls : Array Slot} {cells slots : Nat} (hB : BB ≤ 2 ^ 29) (hJ : JJ E a BB f n) (hW : q_W E f n H) (hS : va_S (q_ge E) s.heap H locs) (hl : lv_has ls 9 [(4, .int (nI i)), (3, .ref (a + 99)), (2, .ref (a + 55)), (1, .ref a), (0, .ref b)]) (hc : cells + 430 ≤ 601024) (hsl : slots + 3900 ≤ 7293034)
    (kk : ∀ (f1 : q_H) (n1 : Nat) (H1 : Heap) (locs1 : List Loc) (ls1 : Array Slot), JJ E a (BB + 100) f1 n1 → q_W E f1 n1 H1 → va_S (q_ge E) s.heap H1 locs1 → lv_has ls1 9 [(4, .int (nI i)), (3, .ref (a + 99)), (2, .ref (a + 55)), (1, .ref a), (0, .ref b)] → W p l e room_1 s m #[Value.ref b] below meth c H1 locs1 (cells + 430) (slots + 3900) Q (F0 m 2099 ls1 [])) :
    W p l e room_1 s m #[Value.ref b] below meth c H locs cells slots Q (F0 m 224 ls []) := by
  obtain ⟨hx, hb, hml, hown, hts, hX, hbl, hbA, hA, hNc, hst, hL⟩ := X
  obtain ⟨k9, P1, fr, c1, s1, lo, b1, b2, b3, b4, hM1, hM2⟩ := P_feed l E a BB f n hst hB hJ (xs (i + 1)) (xs (i + 2)) (xs (i + 3)) (xs (i + 4)) (xs (i + 5))
  refine lv_aload_n hx hb dL_law_224 rfl (lv_at hl 3 rfl) ?_
  refine lv_aload_n hx hb dL_law_225 rfl (lv_at hl 4 rfl) ?_
  refine lv_iload hx hb dL_law_226 (lv_at hl 0 rfl) ?_
  refine lv_iconst (v := 1) hx hb dL_law_228 (by decide) ?_
  refine lv_iadd hx hb dL_law_229 ?_
  rw [show nI i + 1 = nI (i + 1) from by rw [show (1 : Int32) = nI 1 from rfl, nI_add]]
  refine va_sld hx hb hX hbl hbA hS (vp_in_nI (show i + 1 < L by omega) (by omega)) dL_law_230 ?_
  rw [nI_clamp (show i + 1 < 2 ^ 31 by omega)]
  refine lv_aload_n hx hb dL_law_231 rfl (lv_at hl 4 rfl) ?_
  refine lv_iload hx hb dL_law_232 (lv_at hl 0 rfl) ?_
  refine lv_iconst (v := 2) hx hb dL_law_234 (by decide) ?_
  refine lv_iadd hx hb dL_law_235 ?_
  rw [show nI i + 2 = nI (i + 2) from by rw [show (2 : Int32) = nI 2 from rfl, nI_add]]
  refine va_sld hx hb hX hbl hbA hS (vp_in_nI (show i + 2 < L by omega) (by omega)) dL_law_236 ?_
  rw [nI_clamp (show i + 2 < 2 ^ 31 by omega)]
  refine lv_aload_n hx hb dL_law_237 rfl (lv_at hl 4 rfl) ?_
  refine lv_iload hx hb dL_law_238 (lv_at hl 0 rfl) ?_
  refine lv_iconst (v := 3) hx hb dL_law_240 (by decide) ?_
  refine lv_iadd hx hb dL_law_241 ?_
  rw [show nI i + 3 = nI (i + 3) from by rw [show (3 : Int32) = nI 3 from rfl, nI_add]]
  refine va_sld hx hb hX hbl hbA hS (vp_in_nI (show i + 3 < L by omega) (by omega)) dL_law_242 ?_
  rw [nI_clamp (show i + 3 < 2 ^ 31 by omega)]
  refine lv_aload_n hx hb dL_law_243 rfl (lv_at hl 4 rfl) ?_
  refine lv_iload hx hb dL_law_244 (lv_at hl 0 rfl) ?_
  refine lv_iconst (v := 4) hx hb dL_law_246 (by decide) ?_
  refine lv_iadd hx hb dL_law_247 ?_
  rw [show nI i + 4 = nI (i + 4) from by rw [show (4 : Int32) = nI 4 from rfl, nI_add]]
  refine va_sld hx hb hX hbl hbA hS (vp_in_nI (show i + 4 < L by omega) (by omega)) dL_law_248 ?_
  rw [nI_clamp (show i + 4 < 2 ^ 31 by omega)]
  refine lv_aload_n hx hb dL_law_249 rfl (lv_at hl 4 rfl) ?_
  refine lv_iload hx hb dL_law_250 (lv_at hl 0 rfl) ?_
  refine lv_iconst (v := 5) hx hb dL_law_252 (by decide) ?_
  refine lv_iadd hx hb dL_law_253 ?_
  rw [show nI i + 5 = nI (i + 5) from by rw [show (5 : Int32) = nI 5 from rfl, nI_add]]
  refine va_sld hx hb hX hbl hbA hS (vp_in_nI (show i + 5 < L by omega) (by omega)) dL_law_254 ?_
  rw [nI_clamp (show i + 5 < 2 ^ 31 by omega)]
  refine lv_aload_n hx hb dL_law_255 rfl (lv_at hl 1 rfl) ?_
  refine q_xi (vx_runSX (As := [.ref a, .int (xs (i + 1)), .int (xs (i + 2)), .int (xs (i + 3)), .int (xs (i + 4)), .int (xs (i + 5)), .ref (a + 99)]) (rest := []) ⟨hx, hb, hml, hown, hts⟩ hM1 (vx_cwSW 7 hts gL_law_L_feed rfl rfl rfl (by decide +kernel) ⟨(by show fr + 1 ≤ 2048; omega), (by show 8 + (8 + 11) + lo ≤ 84000; omega)⟩) (q_pSN hNc hA hW hS) rfl rfl hl.1 rfl (lv_room (Nat.le_of_ble_eq_true rfl)) dL_law_256 ⟨(by show cells + c1 ≤ 601024; omega), (by show slots + s1 ≤ 7293034; omega)⟩) hS (fun C9 ce9 q9 f9 n9 H locs hp hW hS h91 h92 h93 => False.elim hp) (fun r1 f1 n1 H locs hp hW hS => ?_)
  obtain ⟨rfl, hp1⟩ := hp
  obtain ⟨b9, P2, fr2, c2, s2, lo2, e1, e2, e3, e4, hM3, -, ⟨r9, hR9⟩, hM4⟩ := hM2 f1 n1 hp1
  refine lv_istore (lv' := [(5, .int k9), (4, .int (nI i)), (3, .ref (a + 99)), (2, .ref (a + 55)), (1, .ref a), (0, .ref b)]) hx hb dL_law_259 hl (by decide) rfl (fun ls hl => ?_)
  refine lv_aload_n hx hb dL_law_261 rfl (lv_at hl 3 rfl) ?_
  refine lv_aload_n hx hb dL_law_262 rfl (lv_at hl 5 rfl) ?_
  refine lv_iload hx hb dL_law_263 (lv_at hl 1 rfl) ?_
  refine lv_iconst (v := 1) hx hb dL_law_265 (by decide) ?_
  refine lv_iadd hx hb dL_law_266 ?_
  rw [show nI i + 1 = nI (i + 1) from by rw [show (1 : Int32) = nI 1 from rfl, nI_add]]
  refine va_sld hx hb hX hbl hbA hS (vp_in_nI (show i + 1 < L by omega) (by omega)) dL_law_267 ?_
  rw [nI_clamp (show i + 1 < 2 ^ 31 by omega)]
  refine lv_aload_n hx hb dL_law_268 rfl (lv_at hl 5 rfl) ?_
  refine lv_iload hx hb dL_law_269 (lv_at hl 1 rfl) ?_
  refine lv_iconst (v := 2) hx hb dL_law_271 (by decide) ?_
  refine lv_iadd hx hb dL_law_272 ?_
  rw [show nI i + 2 = nI (i + 2) from by rw [show (2 : Int32) = nI 2 from rfl, nI_add]]
  refine va_sld hx hb hX hbl hbA hS (vp_in_nI (show i + 2 < L by omega) (by omega)) dL_law_273 ?_
  rw [nI_clamp (show i + 2 < 2 ^ 31 by omega)]
  refine lv_aload_n hx hb dL_law_274 rfl (lv_at hl 5 rfl) ?_
  refine lv_iload hx hb dL_law_275 (lv_at hl 1 rfl) ?_
  refine lv_iconst (v := 3) hx hb dL_law_277 (by decide) ?_
  refine lv_iadd hx hb dL_law_278 ?_
  rw [show nI i + 3 = nI (i + 3) from by rw [show (3 : Int32) = nI 3 from rfl, nI_add]]
  refine va_sld hx hb hX hbl hbA hS (vp_in_nI (show i + 3 < L by omega) (by omega)) dL_law_279 ?_
  rw [nI_clamp (show i + 3 < 2 ^ 31 by omega)]
  refine lv_aload_n hx hb dL_law_280 rfl (lv_at hl 5 rfl) ?_
  refine lv_iload hx hb dL_law_281 (lv_at hl 1 rfl) ?_
  refine lv_iconst (v := 4) hx hb dL_law_283 (by decide) ?_
  refine lv_iadd hx hb dL_law_284 ?_
  rw [show nI i + 4 = nI (i + 4) from by rw [show (4 : Int32) = nI 4 from rfl, nI_add]]
  refine va_sld hx hb hX hbl hbA hS (vp_in_nI (show i + 4 < L by omega) (by omega)) dL_law_285 ?_
  rw [nI_clamp (show i + 4 < 2 ^ 31 by omega)]
  refine lv_aload_n hx hb dL_law_286 rfl (lv_at hl 5 rfl) ?_
  refine lv_iload hx hb dL_law_287 (lv_at hl 1 rfl) ?_
  refine lv_iconst (v := 5) hx hb dL_law_289 (by decide) ?_
  refine lv_iadd hx hb dL_law_290 ?_
  rw [show nI i + 5 = nI (i + 5) from by rw [show (5 : Int32) = nI 5 from rfl, nI_add]]
  refine va_sld hx hb hX hbl hbA hS (vp_in_nI (show i + 5 < L by omega) (by omega)) dL_law_291 ?_
  rw [nI_clamp (show i + 5 < 2 ^ 31 by omega)]
  refine q_ci (va_runV (As := [.int (xs (i + 1)), .int (xs (i + 2)), .int (xs (i + 3)), .int (xs (i + 4)), .int (xs (i + 5))]) (rest := []) ⟨hx, hb, hml, hown, hts⟩ hM3 (cwV 5 hts gL_law_X14_feed rfl rfl rfl (by decide +kernel) ⟨(by show fr2 + 1 ≤ 2048; omega), (by show 8 + (12 + 11) + lo2 ≤ 84000; omega)⟩) (q_pV hA hW hS (ci := 12) rfl (show f1 (a + 55) = some (cMod (a + 55) r9) from hR9 0 (by decide))) rfl rfl hl.1 rfl (lv_room (Nat.le_of_ble_eq_true rfl)) dL_law_292 ⟨(by show cells + c1 + c2 ≤ 601024; omega), (by show slots + s1 + s2 ≤ 7293034; omega)⟩) hS (fun r2 f2 n2 H locs hp hW hS => ?_)
  obtain ⟨rfl, hp2⟩ := hp
  obtain ⟨r3, og3, hR3, hk3, ho3, heq3, hJ3⟩ := hM4 f2 n2 hp2
  refine lv_istore (lv' := [(6, .int b9), (5, .int k9), (4, .int (nI i)), (3, .ref (a + 99)), (2, .ref (a + 55)), (1, .ref a), (0, .ref b)]) hx hb dL_law_295 hl (by decide) rfl (fun ls hl => ?_)
  refine lv_aload_n hx hb dL_law_297 rfl (lv_at hl 4 rfl) ?_
  refine q_ci (va_runV (As := []) (rest := []) ⟨hx, hb, hml, hown, hts⟩ (kX14_thrown l E f2 n2 (a + 55) r3 hR3) (cwV 0 hts gL_law_X14_thrown rfl rfl rfl (by decide +kernel) ⟨(Nat.le_of_ble_eq_true rfl), (Nat.le_of_ble_eq_true rfl)⟩) (q_pV hA hW hS (ci := 12) rfl (show f2 (a + 55) = some (cMod (a + 55) r3) from hR3 0 (by decide))) rfl rfl hl.1 rfl (lv_room (Nat.le_of_ble_eq_true rfl)) dL_law_298 ⟨(by show cells + c1 + c2 + 0 ≤ 601024; omega), (by show slots + s1 + s2 + 0 ≤ 7293034; omega)⟩) hS (fun r4 f4 n4 H locs hp hW hS => ?_)
  obtain ⟨rfl, rfl, rfl⟩ := hp
  rw [hk3]
  refine lv_iload hx hb dL_law_301 (lv_at hl 1 rfl) ?_
  refine lv_icmp_eq (tgt := 308) hx hb dL_law_303 (by decide) (fun c9 => ?_) (fun c9 => absurd rfl c9)
  refine lv_iload hx hb dL_law_308 (lv_at hl 1 rfl) ?_
  refine lv_if_ne (tgt := 325) hx hb dL_law_310 (by decide) (fun c0 => ?_) (fun c0 => ?_)
  · refine lv_goto (tgt := 2099) hx hb dL_law_325 (by decide) ?_
    refine W.widen (k := cells + 430) (n := slots + 3900) (by omega) (by omega) ?_
    exact kk _ _ _ _ _ hJ3 hW hS (lv_sub hl [2, 3, 4, 5, 6] rfl)
  · refine lv_aload_n hx hb dL_law_313 rfl (lv_at hl 3 rfl) ?_
    refine lv_iconst (v := 0) hx hb dL_law_314 (by decide) ?_
    refine q_lald hx hb hA hW ho3 (show vp_in (nI 0) 1 from vp_in_nI (by decide) (by decide)) dL_law_315 ?_
    rw [show (0 : Int32).toNatClampNeg = 0 from rfl]
    refine lv_iload hx hb dL_law_316 (lv_at hl 0 rfl) ?_
    refine lv_i2l hx hb dL_law_318 rfl ?_
    refine q_lcmp0 hx hb (heq3 c0) dL_law_319 ?_
    refine lv_if_eq (tgt := 325) hx hb dL_law_320 (by decide) (fun c5 => ?_) (fun c5 => absurd rfl c5)
    refine lv_goto (tgt := 2099) hx hb dL_law_325 (by decide) ?_
    refine W.widen (k := cells + 430) (n := slots + 3900) (by omega) (by omega) ?_
    exact kk _ _ _ _ _ hJ3 hW hS (lv_sub hl [2, 3, 4, 5, 6] rfl)

set_option maxHeartbeats 4000000 in
set_option maxRecDepth 100000 in
theorem law_c1 {p : Program} {l : Launch} {e : Env} {s : State} {m : MethodId} {below : List Frame} {meth : Method} {c : Code} {E : q_E} {b L a : Nat} {xs : Nat → Int32} {Q : State → Prop} (X : LX p l s m c E b L a xs) {i : Nat} (hi : i + 6 ≤ L) {f : q_H} {n BB : Nat} {H : Heap} {locs : List Loc} {ls : Array Slot} {cells slots : Nat} (hB : BB ≤ 2 ^ 29) (hJ : JJ E a BB f n) (hW : q_W E f n H) (hS : va_S (q_ge E) s.heap H locs) (hl : lv_has ls 9 [(4, .int (nI i)), (3, .ref (a + 99)), (2, .ref (a + 55)), (1, .ref a), (0, .ref b)]) (hc : cells + 430 ≤ 601024) (hsl : slots + 3900 ≤ 7293034)
    (kk : ∀ (f1 : q_H) (n1 : Nat) (H1 : Heap) (locs1 : List Loc) (ls1 : Array Slot), JJ E a (BB + 100) f1 n1 → q_W E f1 n1 H1 → va_S (q_ge E) s.heap H1 locs1 → lv_has ls1 9 [(4, .int (nI i)), (3, .ref (a + 99)), (2, .ref (a + 55)), (1, .ref a), (0, .ref b)] → W p l e room_1 s m #[Value.ref b] below meth c H1 locs1 (cells + 430) (slots + 3900) Q (F0 m 2099 ls1 [])) :
    W p l e room_1 s m #[Value.ref b] below meth c H locs cells slots Q (F0 m 328 ls []) := by
  obtain ⟨hx, hb, hml, hown, hts, hX, hbl, hbA, hA, hNc, hst, hL⟩ := X
  obtain ⟨k9, P1, fr, c1, s1, lo, b1, b2, b3, b4, hM1, hM2⟩ := P_trim l E a BB f n hst hB hJ (xs (i + 1))
  refine lv_aload_n hx hb dL_law_328 rfl (lv_at hl 3 rfl) ?_
  refine lv_aload_n hx hb dL_law_329 rfl (lv_at hl 4 rfl) ?_
  refine lv_iload hx hb dL_law_330 (lv_at hl 0 rfl) ?_
  refine lv_iconst (v := 1) hx hb dL_law_332 (by decide) ?_
  refine lv_iadd hx hb dL_law_333 ?_
  rw [show nI i + 1 = nI (i + 1) from by rw [show (1 : Int32) = nI 1 from rfl, nI_add]]
  refine va_sld hx hb hX hbl hbA hS (vp_in_nI (show i + 1 < L by omega) (by omega)) dL_law_334 ?_
  rw [nI_clamp (show i + 1 < 2 ^ 31 by omega)]
  refine lv_aload_n hx hb dL_law_335 rfl (lv_at hl 1 rfl) ?_
  refine q_xi (vx_runSX (As := [.ref a, .int (xs (i + 1)), .ref (a + 99)]) (rest := []) ⟨hx, hb, hml, hown, hts⟩ hM1 (vx_cwSW 3 hts gL_law_L_trim rfl rfl rfl (by decide +kernel) ⟨(by show fr + 1 ≤ 2048; omega), (by show 8 + (4 + 11) + lo ≤ 84000; omega)⟩) (q_pSN hNc hA hW hS) rfl rfl hl.1 rfl (lv_room (Nat.le_of_ble_eq_true rfl)) dL_law_336 ⟨(by show cells + c1 ≤ 601024; omega), (by show slots + s1 ≤ 7293034; omega)⟩) hS (fun C9 ce9 q9 f9 n9 H locs hp hW hS h91 h92 h93 => False.elim hp) (fun r1 f1 n1 H locs hp hW hS => ?_)
  obtain ⟨rfl, hp1⟩ := hp
  obtain ⟨b9, P2, fr2, c2, s2, lo2, e1, e2, e3, e4, hM3, -, ⟨r9, hR9⟩, hM4⟩ := hM2 f1 n1 hp1
  refine lv_istore (lv' := [(5, .int k9), (4, .int (nI i)), (3, .ref (a + 99)), (2, .ref (a + 55)), (1, .ref a), (0, .ref b)]) hx hb dL_law_339 hl (by decide) rfl (fun ls hl => ?_)
  refine lv_aload_n hx hb dL_law_341 rfl (lv_at hl 3 rfl) ?_
  refine lv_aload_n hx hb dL_law_342 rfl (lv_at hl 5 rfl) ?_
  refine lv_iload hx hb dL_law_343 (lv_at hl 1 rfl) ?_
  refine lv_iconst (v := 1) hx hb dL_law_345 (by decide) ?_
  refine lv_iadd hx hb dL_law_346 ?_
  rw [show nI i + 1 = nI (i + 1) from by rw [show (1 : Int32) = nI 1 from rfl, nI_add]]
  refine va_sld hx hb hX hbl hbA hS (vp_in_nI (show i + 1 < L by omega) (by omega)) dL_law_347 ?_
  rw [nI_clamp (show i + 1 < 2 ^ 31 by omega)]
  refine q_ci (va_runV (As := [.int (xs (i + 1))]) (rest := []) ⟨hx, hb, hml, hown, hts⟩ hM3 (cwV 1 hts gL_law_X14_trim rfl rfl rfl (by decide +kernel) ⟨(by show fr2 + 1 ≤ 2048; omega), (by show 8 + (2 + 11) + lo2 ≤ 84000; omega)⟩) (q_pV hA hW hS (ci := 12) rfl (show f1 (a + 55) = some (cMod (a + 55) r9) from hR9 0 (by decide))) rfl rfl hl.1 rfl (lv_room (Nat.le_of_ble_eq_true rfl)) dL_law_348 ⟨(by show cells + c1 + c2 ≤ 601024; omega), (by show slots + s1 + s2 ≤ 7293034; omega)⟩) hS (fun r2 f2 n2 H locs hp hW hS => ?_)
  obtain ⟨rfl, hp2⟩ := hp
  obtain ⟨r3, og3, hR3, hk3, ho3, heq3, hJ3⟩ := hM4 f2 n2 hp2
  refine lv_istore (lv' := [(6, .int b9), (5, .int k9), (4, .int (nI i)), (3, .ref (a + 99)), (2, .ref (a + 55)), (1, .ref a), (0, .ref b)]) hx hb dL_law_351 hl (by decide) rfl (fun ls hl => ?_)
  refine lv_aload_n hx hb dL_law_353 rfl (lv_at hl 4 rfl) ?_
  refine q_ci (va_runV (As := []) (rest := []) ⟨hx, hb, hml, hown, hts⟩ (kX14_thrown l E f2 n2 (a + 55) r3 hR3) (cwV 0 hts gL_law_X14_thrown rfl rfl rfl (by decide +kernel) ⟨(Nat.le_of_ble_eq_true rfl), (Nat.le_of_ble_eq_true rfl)⟩) (q_pV hA hW hS (ci := 12) rfl (show f2 (a + 55) = some (cMod (a + 55) r3) from hR3 0 (by decide))) rfl rfl hl.1 rfl (lv_room (Nat.le_of_ble_eq_true rfl)) dL_law_354 ⟨(by show cells + c1 + c2 + 0 ≤ 601024; omega), (by show slots + s1 + s2 + 0 ≤ 7293034; omega)⟩) hS (fun r4 f4 n4 H locs hp hW hS => ?_)
  obtain ⟨rfl, rfl, rfl⟩ := hp
  rw [hk3]
  refine lv_iload hx hb dL_law_357 (lv_at hl 1 rfl) ?_
  refine lv_icmp_eq (tgt := 364) hx hb dL_law_359 (by decide) (fun c9 => ?_) (fun c9 => absurd rfl c9)
  refine lv_iload hx hb dL_law_364 (lv_at hl 1 rfl) ?_
  refine lv_if_ne (tgt := 381) hx hb dL_law_366 (by decide) (fun c0 => ?_) (fun c0 => ?_)
  · refine lv_goto (tgt := 2099) hx hb dL_law_381 (by decide) ?_
    refine W.widen (k := cells + 430) (n := slots + 3900) (by omega) (by omega) ?_
    exact kk _ _ _ _ _ hJ3 hW hS (lv_sub hl [2, 3, 4, 5, 6] rfl)
  · refine lv_aload_n hx hb dL_law_369 rfl (lv_at hl 3 rfl) ?_
    refine lv_iconst (v := 0) hx hb dL_law_370 (by decide) ?_
    refine q_lald hx hb hA hW ho3 (show vp_in (nI 0) 1 from vp_in_nI (by decide) (by decide)) dL_law_371 ?_
    rw [show (0 : Int32).toNatClampNeg = 0 from rfl]
    refine lv_iload hx hb dL_law_372 (lv_at hl 0 rfl) ?_
    refine lv_i2l hx hb dL_law_374 rfl ?_
    refine q_lcmp0 hx hb (heq3 c0) dL_law_375 ?_
    refine lv_if_eq (tgt := 381) hx hb dL_law_376 (by decide) (fun c5 => ?_) (fun c5 => absurd rfl c5)
    refine lv_goto (tgt := 2099) hx hb dL_law_381 (by decide) ?_
    refine W.widen (k := cells + 430) (n := slots + 3900) (by omega) (by omega) ?_
    exact kk _ _ _ _ _ hJ3 hW hS (lv_sub hl [2, 3, 4, 5, 6] rfl)

set_option maxHeartbeats 4000000 in
set_option maxRecDepth 100000 in
theorem law_c2 {p : Program} {l : Launch} {e : Env} {s : State} {m : MethodId} {below : List Frame} {meth : Method} {c : Code} {E : q_E} {b L a : Nat} {xs : Nat → Int32} {Q : State → Prop} (X : LX p l s m c E b L a xs) {i : Nat} (hi : i + 6 ≤ L) {f : q_H} {n BB : Nat} {H : Heap} {locs : List Loc} {ls : Array Slot} {cells slots : Nat} (hB : BB ≤ 2 ^ 29) (hJ : JJ E a BB f n) (hW : q_W E f n H) (hS : va_S (q_ge E) s.heap H locs) (hl : lv_has ls 9 [(4, .int (nI i)), (3, .ref (a + 99)), (2, .ref (a + 55)), (1, .ref a), (0, .ref b)]) (hc : cells + 430 ≤ 601024) (hsl : slots + 3900 ≤ 7293034)
    (kk : ∀ (f1 : q_H) (n1 : Nat) (H1 : Heap) (locs1 : List Loc) (ls1 : Array Slot), JJ E a (BB + 100) f1 n1 → q_W E f1 n1 H1 → va_S (q_ge E) s.heap H1 locs1 → lv_has ls1 9 [(4, .int (nI i)), (3, .ref (a + 99)), (2, .ref (a + 55)), (1, .ref a), (0, .ref b)] → W p l e room_1 s m #[Value.ref b] below meth c H1 locs1 (cells + 430) (slots + 3900) Q (F0 m 2099 ls1 [])) :
    W p l e room_1 s m #[Value.ref b] below meth c H locs cells slots Q (F0 m 384 ls []) := by
  obtain ⟨hx, hb, hml, hown, hts, hX, hbl, hbA, hA, hNc, hst, hL⟩ := X
  obtain ⟨R9, P1, fr, c1, s1, lo, b1, b2, b3, b4, hM1, hM2⟩ := P_teach l E a BB f n hB hJ
  obtain ⟨z1, z2, z3, z4, z5, z6, ep9, hcl⟩ := hJ.cls
  refine lv_aload_n hx hb dL_law_384 rfl (lv_at hl 3 rfl) ?_
  refine q_ci (va_runV (As := []) (rest := []) ⟨hx, hb, hml, hown, hts⟩ hM1 (cwV 0 hts gL_law_X12_teach rfl rfl rfl (by decide +kernel) ⟨(by show fr + 1 ≤ 2048; omega), (by show 8 + (2 + 11) + lo ≤ 84000; omega)⟩) (q_pV hA hW hS (ci := 10) rfl hcl) rfl rfl hl.1 rfl (lv_room (Nat.le_of_ble_eq_true rfl)) dL_law_385 ⟨(by show cells + c1 ≤ 601024; omega), (by show slots + s1 ≤ 7293034; omega)⟩) hS (fun r1 f1 n1 H locs hp hW hS => ?_)
  obtain ⟨rfl, hp1⟩ := hp
  obtain ⟨b9, P2, fr2, c2, s2, lo2, e1, e2, e3, e4, hM3, heq, ⟨r9, hR9⟩, hM4⟩ := hM2 f1 n1 hp1
  refine lv_aload_n hx hb dL_law_388 rfl (lv_at hl 2 rfl) ?_
  refine q_ci (va_runV (As := []) (rest := [.int R9]) ⟨hx, hb, hml, hown, hts⟩ hM3 (cwV 0 hts gL_law_X14_teach rfl rfl rfl (by decide +kernel) ⟨(by show fr2 + 1 ≤ 2048; omega), (by show 8 + (1 + 11) + lo2 ≤ 84000; omega)⟩) (q_pV hA hW hS (ci := 12) rfl (show f1 (a + 55) = some (cMod (a + 55) r9) from hR9 0 (by decide))) rfl rfl hl.1 rfl (lv_room (Nat.le_of_ble_eq_true rfl)) dL_law_389 ⟨(by show cells + c1 + c2 ≤ 601024; omega), (by show slots + s1 + s2 ≤ 7293034; omega)⟩) hS (fun r2 f2 n2 H locs hp hW hS => ?_)
  obtain ⟨rfl, hp2⟩ := hp
  have hJ3 := hM4 f2 n2 hp2
  refine lv_icmp_eq (tgt := 2099) hx hb dL_law_392 (by decide) (fun c9 => ?_) (fun c9 => absurd heq c9)
  refine W.widen (k := cells + 430) (n := slots + 3900) (by omega) (by omega) ?_
  exact kk _ _ _ _ _ hJ3 hW hS (lv_sub hl [0, 1, 2, 3, 4] rfl)

set_option maxHeartbeats 4000000 in
set_option maxRecDepth 100000 in
theorem law_c3 {p : Program} {l : Launch} {e : Env} {s : State} {m : MethodId} {below : List Frame} {meth : Method} {c : Code} {E : q_E} {b L a : Nat} {xs : Nat → Int32} {Q : State → Prop} (X : LX p l s m c E b L a xs) {i : Nat} (hi : i + 6 ≤ L) {f : q_H} {n BB : Nat} {H : Heap} {locs : List Loc} {ls : Array Slot} {cells slots : Nat} (hB : BB ≤ 2 ^ 29) (hJ : JJ E a BB f n) (hW : q_W E f n H) (hS : va_S (q_ge E) s.heap H locs) (hl : lv_has ls 9 [(4, .int (nI i)), (3, .ref (a + 99)), (2, .ref (a + 55)), (1, .ref a), (0, .ref b)]) (hc : cells + 430 ≤ 601024) (hsl : slots + 3900 ≤ 7293034)
    (kk : ∀ (f1 : q_H) (n1 : Nat) (H1 : Heap) (locs1 : List Loc) (ls1 : Array Slot), JJ E a (BB + 100) f1 n1 → q_W E f1 n1 H1 → va_S (q_ge E) s.heap H1 locs1 → lv_has ls1 9 [(4, .int (nI i)), (3, .ref (a + 99)), (2, .ref (a + 55)), (1, .ref a), (0, .ref b)] → W p l e room_1 s m #[Value.ref b] below meth c H1 locs1 (cells + 430) (slots + 3900) Q (F0 m 2099 ls1 [])) :
    W p l e room_1 s m #[Value.ref b] below meth c H locs cells slots Q (F0 m 397 ls []) := by
  obtain ⟨hx, hb, hml, hown, hts, hX, hbl, hbA, hA, hNc, hst, hL⟩ := X
  obtain ⟨R9, P1, fr, c1, s1, lo, b1, b2, b3, b4, hM1, hM2⟩ := P_errorAt l E a BB f n hB hJ
  obtain ⟨z1, z2, z3, z4, z5, z6, ep9, hcl⟩ := hJ.cls
  refine lv_aload_n hx hb dL_law_397 rfl (lv_at hl 3 rfl) ?_
  refine q_ci (va_runV (As := []) (rest := []) ⟨hx, hb, hml, hown, hts⟩ hM1 (cwV 0 hts gL_law_X12_errorAt rfl rfl rfl (by decide +kernel) ⟨(by show fr + 1 ≤ 2048; omega), (by show 8 + (1 + 11) + lo ≤ 84000; omega)⟩) (q_pV hA hW hS (ci := 10) rfl hcl) rfl rfl hl.1 rfl (lv_room (Nat.le_of_ble_eq_true rfl)) dL_law_398 ⟨(by show cells + c1 ≤ 601024; omega), (by show slots + s1 ≤ 7293034; omega)⟩) hS (fun r1 f1 n1 H locs hp hW hS => ?_)
  obtain ⟨rfl, hp1⟩ := hp
  obtain ⟨b9, P2, fr2, c2, s2, lo2, e1, e2, e3, e4, hM3, heq, ⟨r9, hR9⟩, hM4⟩ := hM2 f1 n1 hp1
  refine lv_aload_n hx hb dL_law_401 rfl (lv_at hl 2 rfl) ?_
  refine q_ci (va_runV (As := []) (rest := [.int R9]) ⟨hx, hb, hml, hown, hts⟩ hM3 (cwV 0 hts gL_law_X14_errorAt rfl rfl rfl (by decide +kernel) ⟨(by show fr2 + 1 ≤ 2048; omega), (by show 8 + (1 + 11) + lo2 ≤ 84000; omega)⟩) (q_pV hA hW hS (ci := 12) rfl (show f1 (a + 55) = some (cMod (a + 55) r9) from hR9 0 (by decide))) rfl rfl hl.1 rfl (lv_room (Nat.le_of_ble_eq_true rfl)) dL_law_402 ⟨(by show cells + c1 + c2 ≤ 601024; omega), (by show slots + s1 + s2 ≤ 7293034; omega)⟩) hS (fun r2 f2 n2 H locs hp hW hS => ?_)
  obtain ⟨rfl, hp2⟩ := hp
  have hJ3 := hM4 f2 n2 hp2
  refine lv_icmp_eq (tgt := 2099) hx hb dL_law_405 (by decide) (fun c9 => ?_) (fun c9 => absurd heq c9)
  refine W.widen (k := cells + 430) (n := slots + 3900) (by omega) (by omega) ?_
  exact kk _ _ _ _ _ hJ3 hW hS (lv_sub hl [0, 1, 2, 3, 4] rfl)

set_option maxHeartbeats 4000000 in
set_option maxRecDepth 100000 in
theorem law_c4 {p : Program} {l : Launch} {e : Env} {s : State} {m : MethodId} {below : List Frame} {meth : Method} {c : Code} {E : q_E} {b L a : Nat} {xs : Nat → Int32} {Q : State → Prop} (X : LX p l s m c E b L a xs) {i : Nat} (hi : i + 6 ≤ L) {f : q_H} {n BB : Nat} {H : Heap} {locs : List Loc} {ls : Array Slot} {cells slots : Nat} (hB : BB ≤ 2 ^ 29) (hJ : JJ E a BB f n) (hW : q_W E f n H) (hS : va_S (q_ge E) s.heap H locs) (hl : lv_has ls 9 [(4, .int (nI i)), (3, .ref (a + 99)), (2, .ref (a + 55)), (1, .ref a), (0, .ref b)]) (hc : cells + 430 ≤ 601024) (hsl : slots + 3900 ≤ 7293034)
    (kk : ∀ (f1 : q_H) (n1 : Nat) (H1 : Heap) (locs1 : List Loc) (ls1 : Array Slot), JJ E a (BB + 100) f1 n1 → q_W E f1 n1 H1 → va_S (q_ge E) s.heap H1 locs1 → lv_has ls1 9 [(4, .int (nI i)), (3, .ref (a + 99)), (2, .ref (a + 55)), (1, .ref a), (0, .ref b)] → W p l e room_1 s m #[Value.ref b] below meth c H1 locs1 (cells + 430) (slots + 3900) Q (F0 m 2099 ls1 [])) :
    W p l e room_1 s m #[Value.ref b] below meth c H locs cells slots Q (F0 m 410 ls []) := by
  obtain ⟨hx, hb, hml, hown, hts, hX, hbl, hbA, hA, hNc, hst, hL⟩ := X
  obtain ⟨R9, P1, fr, c1, s1, lo, b1, b2, b3, b4, hM1, hM2⟩ := P_pans l E a BB f n hB hJ
  obtain ⟨z1, z2, z3, z4, z5, z6, ep9, hcl⟩ := hJ.cls
  refine lv_aload_n hx hb dL_law_410 rfl (lv_at hl 3 rfl) ?_
  refine q_ci (va_runV (As := []) (rest := []) ⟨hx, hb, hml, hown, hts⟩ hM1 (cwV 0 hts gL_law_X12_pans rfl rfl rfl (by decide +kernel) ⟨(by show fr + 1 ≤ 2048; omega), (by show 8 + (1 + 11) + lo ≤ 84000; omega)⟩) (q_pV hA hW hS (ci := 10) rfl hcl) rfl rfl hl.1 rfl (lv_room (Nat.le_of_ble_eq_true rfl)) dL_law_411 ⟨(by show cells + c1 ≤ 601024; omega), (by show slots + s1 ≤ 7293034; omega)⟩) hS (fun r1 f1 n1 H locs hp hW hS => ?_)
  obtain ⟨rfl, hp1⟩ := hp
  obtain ⟨b9, P2, fr2, c2, s2, lo2, e1, e2, e3, e4, hM3, heq, ⟨r9, hR9⟩, hM4⟩ := hM2 f1 n1 hp1
  refine lv_aload_n hx hb dL_law_414 rfl (lv_at hl 2 rfl) ?_
  refine q_ci (va_runV (As := []) (rest := [.int R9]) ⟨hx, hb, hml, hown, hts⟩ hM3 (cwV 0 hts gL_law_X14_pans rfl rfl rfl (by decide +kernel) ⟨(by show fr2 + 1 ≤ 2048; omega), (by show 8 + (1 + 11) + lo2 ≤ 84000; omega)⟩) (q_pV hA hW hS (ci := 12) rfl (show f1 (a + 55) = some (cMod (a + 55) r9) from hR9 0 (by decide))) rfl rfl hl.1 rfl (lv_room (Nat.le_of_ble_eq_true rfl)) dL_law_415 ⟨(by show cells + c1 + c2 ≤ 601024; omega), (by show slots + s1 + s2 ≤ 7293034; omega)⟩) hS (fun r2 f2 n2 H locs hp hW hS => ?_)
  obtain ⟨rfl, hp2⟩ := hp
  have hJ3 := hM4 f2 n2 hp2
  refine lv_icmp_eq (tgt := 2099) hx hb dL_law_418 (by decide) (fun c9 => ?_) (fun c9 => absurd heq c9)
  refine W.widen (k := cells + 430) (n := slots + 3900) (by omega) (by omega) ?_
  exact kk _ _ _ _ _ hJ3 hW hS (lv_sub hl [0, 1, 2, 3, 4] rfl)

set_option maxHeartbeats 4000000 in
set_option maxRecDepth 100000 in
theorem law_c5 {p : Program} {l : Launch} {e : Env} {s : State} {m : MethodId} {below : List Frame} {meth : Method} {c : Code} {E : q_E} {b L a : Nat} {xs : Nat → Int32} {Q : State → Prop} (X : LX p l s m c E b L a xs) {i : Nat} (hi : i + 6 ≤ L) {f : q_H} {n BB : Nat} {H : Heap} {locs : List Loc} {ls : Array Slot} {cells slots : Nat} (hB : BB ≤ 2 ^ 29) (hJ : JJ E a BB f n) (hW : q_W E f n H) (hS : va_S (q_ge E) s.heap H locs) (hl : lv_has ls 9 [(4, .int (nI i)), (3, .ref (a + 99)), (2, .ref (a + 55)), (1, .ref a), (0, .ref b)]) (hc : cells + 430 ≤ 601024) (hsl : slots + 3900 ≤ 7293034)
    (kk : ∀ (f1 : q_H) (n1 : Nat) (H1 : Heap) (locs1 : List Loc) (ls1 : Array Slot), JJ E a (BB + 100) f1 n1 → q_W E f1 n1 H1 → va_S (q_ge E) s.heap H1 locs1 → lv_has ls1 9 [(4, .int (nI i)), (3, .ref (a + 99)), (2, .ref (a + 55)), (1, .ref a), (0, .ref b)] → W p l e room_1 s m #[Value.ref b] below meth c H1 locs1 (cells + 430) (slots + 3900) Q (F0 m 2099 ls1 [])) :
    W p l e room_1 s m #[Value.ref b] below meth c H locs cells slots Q (F0 m 423 ls []) := by
  obtain ⟨hx, hb, hml, hown, hts, hX, hbl, hbA, hA, hNc, hst, hL⟩ := X
  obtain ⟨R9, P1, fr, c1, s1, lo, b1, b2, b3, b4, hM1, hM2⟩ := P_recipes l E a BB f n hB hJ
  obtain ⟨z1, z2, z3, z4, z5, z6, ep9, hcl⟩ := hJ.cls
  refine lv_aload_n hx hb dL_law_423 rfl (lv_at hl 3 rfl) ?_
  refine q_ci (va_runV (As := []) (rest := []) ⟨hx, hb, hml, hown, hts⟩ hM1 (cwV 0 hts gL_law_X12_recipes rfl rfl rfl (by decide +kernel) ⟨(by show fr + 1 ≤ 2048; omega), (by show 8 + (1 + 11) + lo ≤ 84000; omega)⟩) (q_pV hA hW hS (ci := 10) rfl hcl) rfl rfl hl.1 rfl (lv_room (Nat.le_of_ble_eq_true rfl)) dL_law_424 ⟨(by show cells + c1 ≤ 601024; omega), (by show slots + s1 ≤ 7293034; omega)⟩) hS (fun r1 f1 n1 H locs hp hW hS => ?_)
  obtain ⟨rfl, hp1⟩ := hp
  obtain ⟨b9, P2, fr2, c2, s2, lo2, e1, e2, e3, e4, hM3, heq, ⟨r9, hR9⟩, hM4⟩ := hM2 f1 n1 hp1
  refine lv_aload_n hx hb dL_law_427 rfl (lv_at hl 2 rfl) ?_
  refine q_ci (va_runV (As := []) (rest := [.int R9]) ⟨hx, hb, hml, hown, hts⟩ hM3 (cwV 0 hts gL_law_X14_recipes rfl rfl rfl (by decide +kernel) ⟨(by show fr2 + 1 ≤ 2048; omega), (by show 8 + (1 + 11) + lo2 ≤ 84000; omega)⟩) (q_pV hA hW hS (ci := 12) rfl (show f1 (a + 55) = some (cMod (a + 55) r9) from hR9 0 (by decide))) rfl rfl hl.1 rfl (lv_room (Nat.le_of_ble_eq_true rfl)) dL_law_428 ⟨(by show cells + c1 + c2 ≤ 601024; omega), (by show slots + s1 + s2 ≤ 7293034; omega)⟩) hS (fun r2 f2 n2 H locs hp hW hS => ?_)
  obtain ⟨rfl, hp2⟩ := hp
  have hJ3 := hM4 f2 n2 hp2
  refine lv_icmp_eq (tgt := 2099) hx hb dL_law_431 (by decide) (fun c9 => ?_) (fun c9 => absurd heq c9)
  refine W.widen (k := cells + 430) (n := slots + 3900) (by omega) (by omega) ?_
  exact kk _ _ _ _ _ hJ3 hW hS (lv_sub hl [0, 1, 2, 3, 4] rfl)

set_option maxHeartbeats 4000000 in
set_option maxRecDepth 100000 in
theorem law_c6 {p : Program} {l : Launch} {e : Env} {s : State} {m : MethodId} {below : List Frame} {meth : Method} {c : Code} {E : q_E} {b L a : Nat} {xs : Nat → Int32} {Q : State → Prop} (X : LX p l s m c E b L a xs) {i : Nat} (hi : i + 6 ≤ L) {f : q_H} {n BB : Nat} {H : Heap} {locs : List Loc} {ls : Array Slot} {cells slots : Nat} (hB : BB ≤ 2 ^ 29) (hJ : JJ E a BB f n) (hW : q_W E f n H) (hS : va_S (q_ge E) s.heap H locs) (hl : lv_has ls 9 [(4, .int (nI i)), (3, .ref (a + 99)), (2, .ref (a + 55)), (1, .ref a), (0, .ref b)]) (hc : cells + 430 ≤ 601024) (hsl : slots + 3900 ≤ 7293034)
    (kk : ∀ (f1 : q_H) (n1 : Nat) (H1 : Heap) (locs1 : List Loc) (ls1 : Array Slot), JJ E a (BB + 100) f1 n1 → q_W E f1 n1 H1 → va_S (q_ge E) s.heap H1 locs1 → lv_has ls1 9 [(4, .int (nI i)), (3, .ref (a + 99)), (2, .ref (a + 55)), (1, .ref a), (0, .ref b)] → W p l e room_1 s m #[Value.ref b] below meth c H1 locs1 (cells + 430) (slots + 3900) Q (F0 m 2099 ls1 [])) :
    W p l e room_1 s m #[Value.ref b] below meth c H locs cells slots Q (F0 m 436 ls []) := by
  obtain ⟨hx, hb, hml, hown, hts, hX, hbl, hbA, hA, hNc, hst, hL⟩ := X
  obtain ⟨R9, P1, fr, c1, s1, lo, b1, b2, b3, b4, hM1, hM2⟩ := P_acts l E a BB f n hB hJ
  obtain ⟨z1, z2, z3, z4, z5, z6, ep9, hcl⟩ := hJ.cls
  refine lv_aload_n hx hb dL_law_436 rfl (lv_at hl 3 rfl) ?_
  refine q_ci (va_runV (As := []) (rest := []) ⟨hx, hb, hml, hown, hts⟩ hM1 (cwV 0 hts gL_law_X12_acts rfl rfl rfl (by decide +kernel) ⟨(by show fr + 1 ≤ 2048; omega), (by show 8 + (1 + 11) + lo ≤ 84000; omega)⟩) (q_pV hA hW hS (ci := 10) rfl hcl) rfl rfl hl.1 rfl (lv_room (Nat.le_of_ble_eq_true rfl)) dL_law_437 ⟨(by show cells + c1 ≤ 601024; omega), (by show slots + s1 ≤ 7293034; omega)⟩) hS (fun r1 f1 n1 H locs hp hW hS => ?_)
  obtain ⟨rfl, hp1⟩ := hp
  obtain ⟨b9, P2, fr2, c2, s2, lo2, e1, e2, e3, e4, hM3, heq, ⟨r9, hR9⟩, hM4⟩ := hM2 f1 n1 hp1
  refine lv_aload_n hx hb dL_law_440 rfl (lv_at hl 2 rfl) ?_
  refine q_ci (va_runV (As := []) (rest := [.int R9]) ⟨hx, hb, hml, hown, hts⟩ hM3 (cwV 0 hts gL_law_X14_acts rfl rfl rfl (by decide +kernel) ⟨(by show fr2 + 1 ≤ 2048; omega), (by show 8 + (1 + 11) + lo2 ≤ 84000; omega)⟩) (q_pV hA hW hS (ci := 12) rfl (show f1 (a + 55) = some (cMod (a + 55) r9) from hR9 0 (by decide))) rfl rfl hl.1 rfl (lv_room (Nat.le_of_ble_eq_true rfl)) dL_law_441 ⟨(by show cells + c1 + c2 ≤ 601024; omega), (by show slots + s1 + s2 ≤ 7293034; omega)⟩) hS (fun r2 f2 n2 H locs hp hW hS => ?_)
  obtain ⟨rfl, hp2⟩ := hp
  have hJ3 := hM4 f2 n2 hp2
  refine lv_icmp_eq (tgt := 2099) hx hb dL_law_444 (by decide) (fun c9 => ?_) (fun c9 => absurd heq c9)
  refine W.widen (k := cells + 430) (n := slots + 3900) (by omega) (by omega) ?_
  exact kk _ _ _ _ _ hJ3 hW hS (lv_sub hl [0, 1, 2, 3, 4] rfl)

set_option maxHeartbeats 4000000 in
set_option maxRecDepth 100000 in
theorem law_c7 {p : Program} {l : Launch} {e : Env} {s : State} {m : MethodId} {below : List Frame} {meth : Method} {c : Code} {E : q_E} {b L a : Nat} {xs : Nat → Int32} {Q : State → Prop} (X : LX p l s m c E b L a xs) {i : Nat} (hi : i + 6 ≤ L) {f : q_H} {n BB : Nat} {H : Heap} {locs : List Loc} {ls : Array Slot} {cells slots : Nat} (hB : BB ≤ 2 ^ 29) (hJ : JJ E a BB f n) (hW : q_W E f n H) (hS : va_S (q_ge E) s.heap H locs) (hl : lv_has ls 9 [(4, .int (nI i)), (3, .ref (a + 99)), (2, .ref (a + 55)), (1, .ref a), (0, .ref b)]) (hc : cells + 430 ≤ 601024) (hsl : slots + 3900 ≤ 7293034)
    (kk : ∀ (f1 : q_H) (n1 : Nat) (H1 : Heap) (locs1 : List Loc) (ls1 : Array Slot), JJ E a (BB + 100) f1 n1 → q_W E f1 n1 H1 → va_S (q_ge E) s.heap H1 locs1 → lv_has ls1 9 [(4, .int (nI i)), (3, .ref (a + 99)), (2, .ref (a + 55)), (1, .ref a), (0, .ref b)] → W p l e room_1 s m #[Value.ref b] below meth c H1 locs1 (cells + 430) (slots + 3900) Q (F0 m 2099 ls1 [])) :
    W p l e room_1 s m #[Value.ref b] below meth c H locs cells slots Q (F0 m 449 ls []) := by
  obtain ⟨hx, hb, hml, hown, hts, hX, hbl, hbA, hA, hNc, hst, hL⟩ := X
  obtain ⟨R9, P1, fr, c1, s1, lo, b1, b2, b3, b4, hM1, hM2⟩ := P_altitude l E a BB f n hB hJ
  obtain ⟨z1, z2, z3, z4, z5, z6, ep9, hcl⟩ := hJ.cls
  refine lv_aload_n hx hb dL_law_449 rfl (lv_at hl 3 rfl) ?_
  refine q_ci (va_runV (As := []) (rest := []) ⟨hx, hb, hml, hown, hts⟩ hM1 (cwV 0 hts gL_law_X12_altitude rfl rfl rfl (by decide +kernel) ⟨(by show fr + 1 ≤ 2048; omega), (by show 8 + (1 + 11) + lo ≤ 84000; omega)⟩) (q_pV hA hW hS (ci := 10) rfl hcl) rfl rfl hl.1 rfl (lv_room (Nat.le_of_ble_eq_true rfl)) dL_law_450 ⟨(by show cells + c1 ≤ 601024; omega), (by show slots + s1 ≤ 7293034; omega)⟩) hS (fun r1 f1 n1 H locs hp hW hS => ?_)
  obtain ⟨rfl, hp1⟩ := hp
  obtain ⟨b9, P2, fr2, c2, s2, lo2, e1, e2, e3, e4, hM3, heq, ⟨r9, hR9⟩, hM4⟩ := hM2 f1 n1 hp1
  refine lv_aload_n hx hb dL_law_453 rfl (lv_at hl 2 rfl) ?_
  refine q_ci (va_runV (As := []) (rest := [.int R9]) ⟨hx, hb, hml, hown, hts⟩ hM3 (cwV 0 hts gL_law_X14_altitude rfl rfl rfl (by decide +kernel) ⟨(by show fr2 + 1 ≤ 2048; omega), (by show 8 + (1 + 11) + lo2 ≤ 84000; omega)⟩) (q_pV hA hW hS (ci := 12) rfl (show f1 (a + 55) = some (cMod (a + 55) r9) from hR9 0 (by decide))) rfl rfl hl.1 rfl (lv_room (Nat.le_of_ble_eq_true rfl)) dL_law_454 ⟨(by show cells + c1 + c2 ≤ 601024; omega), (by show slots + s1 + s2 ≤ 7293034; omega)⟩) hS (fun r2 f2 n2 H locs hp hW hS => ?_)
  obtain ⟨rfl, hp2⟩ := hp
  have hJ3 := hM4 f2 n2 hp2
  refine lv_icmp_eq (tgt := 2099) hx hb dL_law_457 (by decide) (fun c9 => ?_) (fun c9 => absurd heq c9)
  refine W.widen (k := cells + 430) (n := slots + 3900) (by omega) (by omega) ?_
  exact kk _ _ _ _ _ hJ3 hW hS (lv_sub hl [0, 1, 2, 3, 4] rfl)

set_option maxHeartbeats 4000000 in
set_option maxRecDepth 100000 in
theorem law_c8 {p : Program} {l : Launch} {e : Env} {s : State} {m : MethodId} {below : List Frame} {meth : Method} {c : Code} {E : q_E} {b L a : Nat} {xs : Nat → Int32} {Q : State → Prop} (X : LX p l s m c E b L a xs) {i : Nat} (hi : i + 6 ≤ L) {f : q_H} {n BB : Nat} {H : Heap} {locs : List Loc} {ls : Array Slot} {cells slots : Nat} (hB : BB ≤ 2 ^ 29) (hJ : JJ E a BB f n) (hW : q_W E f n H) (hS : va_S (q_ge E) s.heap H locs) (hl : lv_has ls 9 [(4, .int (nI i)), (3, .ref (a + 99)), (2, .ref (a + 55)), (1, .ref a), (0, .ref b)]) (hc : cells + 430 ≤ 601024) (hsl : slots + 3900 ≤ 7293034)
    (kk : ∀ (f1 : q_H) (n1 : Nat) (H1 : Heap) (locs1 : List Loc) (ls1 : Array Slot), JJ E a (BB + 100) f1 n1 → q_W E f1 n1 H1 → va_S (q_ge E) s.heap H1 locs1 → lv_has ls1 9 [(4, .int (nI i)), (3, .ref (a + 99)), (2, .ref (a + 55)), (1, .ref a), (0, .ref b)] → W p l e room_1 s m #[Value.ref b] below meth c H1 locs1 (cells + 430) (slots + 3900) Q (F0 m 2099 ls1 [])) :
    W p l e room_1 s m #[Value.ref b] below meth c H locs cells slots Q (F0 m 462 ls []) := by
  obtain ⟨hx, hb, hml, hown, hts, hX, hbl, hbA, hA, hNc, hst, hL⟩ := X
  obtain ⟨R9, P1, fr, c1, s1, lo, b1, b2, b3, b4, hM1, hM2⟩ := P_boilingPoint l E a BB f n hB hJ
  obtain ⟨z1, z2, z3, z4, z5, z6, ep9, hcl⟩ := hJ.cls
  refine lv_aload_n hx hb dL_law_462 rfl (lv_at hl 3 rfl) ?_
  refine q_ci (va_runV (As := []) (rest := []) ⟨hx, hb, hml, hown, hts⟩ hM1 (cwV 0 hts gL_law_X12_boilingPoint rfl rfl rfl (by decide +kernel) ⟨(by show fr + 1 ≤ 2048; omega), (by show 8 + (1 + 11) + lo ≤ 84000; omega)⟩) (q_pV hA hW hS (ci := 10) rfl hcl) rfl rfl hl.1 rfl (lv_room (Nat.le_of_ble_eq_true rfl)) dL_law_463 ⟨(by show cells + c1 ≤ 601024; omega), (by show slots + s1 ≤ 7293034; omega)⟩) hS (fun r1 f1 n1 H locs hp hW hS => ?_)
  obtain ⟨rfl, hp1⟩ := hp
  obtain ⟨b9, P2, fr2, c2, s2, lo2, e1, e2, e3, e4, hM3, heq, ⟨r9, hR9⟩, hM4⟩ := hM2 f1 n1 hp1
  refine lv_aload_n hx hb dL_law_466 rfl (lv_at hl 2 rfl) ?_
  refine q_ci (va_runV (As := []) (rest := [.int R9]) ⟨hx, hb, hml, hown, hts⟩ hM3 (cwV 0 hts gL_law_X14_boilingPoint rfl rfl rfl (by decide +kernel) ⟨(by show fr2 + 1 ≤ 2048; omega), (by show 8 + (1 + 11) + lo2 ≤ 84000; omega)⟩) (q_pV hA hW hS (ci := 12) rfl (show f1 (a + 55) = some (cMod (a + 55) r9) from hR9 0 (by decide))) rfl rfl hl.1 rfl (lv_room (Nat.le_of_ble_eq_true rfl)) dL_law_467 ⟨(by show cells + c1 + c2 ≤ 601024; omega), (by show slots + s1 + s2 ≤ 7293034; omega)⟩) hS (fun r2 f2 n2 H locs hp hW hS => ?_)
  obtain ⟨rfl, hp2⟩ := hp
  have hJ3 := hM4 f2 n2 hp2
  refine lv_icmp_eq (tgt := 2099) hx hb dL_law_470 (by decide) (fun c9 => ?_) (fun c9 => absurd heq c9)
  refine W.widen (k := cells + 430) (n := slots + 3900) (by omega) (by omega) ?_
  exact kk _ _ _ _ _ hJ3 hW hS (lv_sub hl [0, 1, 2, 3, 4] rfl)

set_option maxHeartbeats 4000000 in
set_option maxRecDepth 100000 in
theorem law_c9 {p : Program} {l : Launch} {e : Env} {s : State} {m : MethodId} {below : List Frame} {meth : Method} {c : Code} {E : q_E} {b L a : Nat} {xs : Nat → Int32} {Q : State → Prop} (X : LX p l s m c E b L a xs) {i : Nat} (hi : i + 6 ≤ L) {f : q_H} {n BB : Nat} {H : Heap} {locs : List Loc} {ls : Array Slot} {cells slots : Nat} (hB : BB ≤ 2 ^ 29) (hJ : JJ E a BB f n) (hW : q_W E f n H) (hS : va_S (q_ge E) s.heap H locs) (hl : lv_has ls 9 [(4, .int (nI i)), (3, .ref (a + 99)), (2, .ref (a + 55)), (1, .ref a), (0, .ref b)]) (hc : cells + 430 ≤ 601024) (hsl : slots + 3900 ≤ 7293034)
    (kk : ∀ (f1 : q_H) (n1 : Nat) (H1 : Heap) (locs1 : List Loc) (ls1 : Array Slot), JJ E a (BB + 100) f1 n1 → q_W E f1 n1 H1 → va_S (q_ge E) s.heap H1 locs1 → lv_has ls1 9 [(4, .int (nI i)), (3, .ref (a + 99)), (2, .ref (a + 55)), (1, .ref a), (0, .ref b)] → W p l e room_1 s m #[Value.ref b] below meth c H1 locs1 (cells + 430) (slots + 3900) Q (F0 m 2099 ls1 [])) :
    W p l e room_1 s m #[Value.ref b] below meth c H locs cells slots Q (F0 m 475 ls []) := by
  obtain ⟨hx, hb, hml, hown, hts, hX, hbl, hbA, hA, hNc, hst, hL⟩ := X
  obtain ⟨R9, P1, fr, c1, s1, lo, b1, b2, b3, b4, hM1, hM2⟩ := P_servings l E a BB f n hB hJ
  obtain ⟨z1, z2, z3, z4, z5, z6, ep9, hcl⟩ := hJ.cls
  refine lv_aload_n hx hb dL_law_475 rfl (lv_at hl 3 rfl) ?_
  refine q_ci (va_runV (As := []) (rest := []) ⟨hx, hb, hml, hown, hts⟩ hM1 (cwV 0 hts gL_law_X12_servings rfl rfl rfl (by decide +kernel) ⟨(by show fr + 1 ≤ 2048; omega), (by show 8 + (1 + 11) + lo ≤ 84000; omega)⟩) (q_pV hA hW hS (ci := 10) rfl hcl) rfl rfl hl.1 rfl (lv_room (Nat.le_of_ble_eq_true rfl)) dL_law_476 ⟨(by show cells + c1 ≤ 601024; omega), (by show slots + s1 ≤ 7293034; omega)⟩) hS (fun r1 f1 n1 H locs hp hW hS => ?_)
  obtain ⟨rfl, hp1⟩ := hp
  obtain ⟨b9, P2, fr2, c2, s2, lo2, e1, e2, e3, e4, hM3, heq, ⟨r9, hR9⟩, hM4⟩ := hM2 f1 n1 hp1
  refine lv_aload_n hx hb dL_law_479 rfl (lv_at hl 2 rfl) ?_
  refine q_ci (va_runV (As := []) (rest := [.int R9]) ⟨hx, hb, hml, hown, hts⟩ hM3 (cwV 0 hts gL_law_X14_servings rfl rfl rfl (by decide +kernel) ⟨(by show fr2 + 1 ≤ 2048; omega), (by show 8 + (1 + 11) + lo2 ≤ 84000; omega)⟩) (q_pV hA hW hS (ci := 12) rfl (show f1 (a + 55) = some (cMod (a + 55) r9) from hR9 0 (by decide))) rfl rfl hl.1 rfl (lv_room (Nat.le_of_ble_eq_true rfl)) dL_law_480 ⟨(by show cells + c1 + c2 ≤ 601024; omega), (by show slots + s1 + s2 ≤ 7293034; omega)⟩) hS (fun r2 f2 n2 H locs hp hW hS => ?_)
  obtain ⟨rfl, hp2⟩ := hp
  have hJ3 := hM4 f2 n2 hp2
  refine lv_icmp_eq (tgt := 2099) hx hb dL_law_483 (by decide) (fun c9 => ?_) (fun c9 => absurd heq c9)
  refine W.widen (k := cells + 430) (n := slots + 3900) (by omega) (by omega) ?_
  exact kk _ _ _ _ _ hJ3 hW hS (lv_sub hl [0, 1, 2, 3, 4] rfl)

set_option maxHeartbeats 4000000 in
set_option maxRecDepth 100000 in
theorem law_c10 {p : Program} {l : Launch} {e : Env} {s : State} {m : MethodId} {below : List Frame} {meth : Method} {c : Code} {E : q_E} {b L a : Nat} {xs : Nat → Int32} {Q : State → Prop} (X : LX p l s m c E b L a xs) {i : Nat} (hi : i + 6 ≤ L) {f : q_H} {n BB : Nat} {H : Heap} {locs : List Loc} {ls : Array Slot} {cells slots : Nat} (hB : BB ≤ 2 ^ 29) (hJ : JJ E a BB f n) (hW : q_W E f n H) (hS : va_S (q_ge E) s.heap H locs) (hl : lv_has ls 9 [(4, .int (nI i)), (3, .ref (a + 99)), (2, .ref (a + 55)), (1, .ref a), (0, .ref b)]) (hc : cells + 430 ≤ 601024) (hsl : slots + 3900 ≤ 7293034)
    (kk : ∀ (f1 : q_H) (n1 : Nat) (H1 : Heap) (locs1 : List Loc) (ls1 : Array Slot), JJ E a (BB + 100) f1 n1 → q_W E f1 n1 H1 → va_S (q_ge E) s.heap H1 locs1 → lv_has ls1 9 [(4, .int (nI i)), (3, .ref (a + 99)), (2, .ref (a + 55)), (1, .ref a), (0, .ref b)] → W p l e room_1 s m #[Value.ref b] below meth c H1 locs1 (cells + 430) (slots + 3900) Q (F0 m 2099 ls1 [])) :
    W p l e room_1 s m #[Value.ref b] below meth c H locs cells slots Q (F0 m 488 ls []) := by
  obtain ⟨hx, hb, hml, hown, hts, hX, hbl, hbA, hA, hNc, hst, hL⟩ := X
  obtain ⟨R9, P1, fr, c1, s1, lo, b1, b2, b3, b4, hM1, hM2⟩ := P_spoon l E a BB f n hB hJ
  obtain ⟨z1, z2, z3, z4, z5, z6, ep9, hcl⟩ := hJ.cls
  refine lv_aload_n hx hb dL_law_488 rfl (lv_at hl 3 rfl) ?_
  refine q_ci (va_runV (As := []) (rest := []) ⟨hx, hb, hml, hown, hts⟩ hM1 (cwV 0 hts gL_law_X12_spoon rfl rfl rfl (by decide +kernel) ⟨(by show fr + 1 ≤ 2048; omega), (by show 8 + (1 + 11) + lo ≤ 84000; omega)⟩) (q_pV hA hW hS (ci := 10) rfl hcl) rfl rfl hl.1 rfl (lv_room (Nat.le_of_ble_eq_true rfl)) dL_law_489 ⟨(by show cells + c1 ≤ 601024; omega), (by show slots + s1 ≤ 7293034; omega)⟩) hS (fun r1 f1 n1 H locs hp hW hS => ?_)
  obtain ⟨rfl, hp1⟩ := hp
  obtain ⟨b9, P2, fr2, c2, s2, lo2, e1, e2, e3, e4, hM3, heq, ⟨r9, hR9⟩, hM4⟩ := hM2 f1 n1 hp1
  refine lv_aload_n hx hb dL_law_492 rfl (lv_at hl 2 rfl) ?_
  refine q_ci (va_runV (As := []) (rest := [.int R9]) ⟨hx, hb, hml, hown, hts⟩ hM3 (cwV 0 hts gL_law_X14_spoon rfl rfl rfl (by decide +kernel) ⟨(by show fr2 + 1 ≤ 2048; omega), (by show 8 + (1 + 11) + lo2 ≤ 84000; omega)⟩) (q_pV hA hW hS (ci := 12) rfl (show f1 (a + 55) = some (cMod (a + 55) r9) from hR9 0 (by decide))) rfl rfl hl.1 rfl (lv_room (Nat.le_of_ble_eq_true rfl)) dL_law_493 ⟨(by show cells + c1 + c2 ≤ 601024; omega), (by show slots + s1 + s2 ≤ 7293034; omega)⟩) hS (fun r2 f2 n2 H locs hp hW hS => ?_)
  obtain ⟨rfl, hp2⟩ := hp
  have hJ3 := hM4 f2 n2 hp2
  refine lv_icmp_eq (tgt := 2099) hx hb dL_law_496 (by decide) (fun c9 => ?_) (fun c9 => absurd heq c9)
  refine W.widen (k := cells + 430) (n := slots + 3900) (by omega) (by omega) ?_
  exact kk _ _ _ _ _ hJ3 hW hS (lv_sub hl [0, 1, 2, 3, 4] rfl)

set_option maxHeartbeats 4000000 in
set_option maxRecDepth 100000 in
theorem law_c11 {p : Program} {l : Launch} {e : Env} {s : State} {m : MethodId} {below : List Frame} {meth : Method} {c : Code} {E : q_E} {b L a : Nat} {xs : Nat → Int32} {Q : State → Prop} (X : LX p l s m c E b L a xs) {i : Nat} (hi : i + 6 ≤ L) {f : q_H} {n BB : Nat} {H : Heap} {locs : List Loc} {ls : Array Slot} {cells slots : Nat} (hB : BB ≤ 2 ^ 29) (hJ : JJ E a BB f n) (hW : q_W E f n H) (hS : va_S (q_ge E) s.heap H locs) (hl : lv_has ls 9 [(4, .int (nI i)), (3, .ref (a + 99)), (2, .ref (a + 55)), (1, .ref a), (0, .ref b)]) (hc : cells + 430 ≤ 601024) (hsl : slots + 3900 ≤ 7293034)
    (kk : ∀ (f1 : q_H) (n1 : Nat) (H1 : Heap) (locs1 : List Loc) (ls1 : Array Slot), JJ E a (BB + 100) f1 n1 → q_W E f1 n1 H1 → va_S (q_ge E) s.heap H1 locs1 → lv_has ls1 9 [(4, .int (nI i)), (3, .ref (a + 99)), (2, .ref (a + 55)), (1, .ref a), (0, .ref b)] → W p l e room_1 s m #[Value.ref b] below meth c H1 locs1 (cells + 430) (slots + 3900) Q (F0 m 2099 ls1 [])) :
    W p l e room_1 s m #[Value.ref b] below meth c H locs cells slots Q (F0 m 501 ls []) := by
  obtain ⟨hx, hb, hml, hown, hts, hX, hbl, hbA, hA, hNc, hst, hL⟩ := X
  obtain ⟨R9, P1, fr, c1, s1, lo, b1, b2, b3, b4, hM1, hM2⟩ := P_minute l E a BB f n hB hJ
  obtain ⟨z1, z2, z3, z4, z5, z6, ep9, hcl⟩ := hJ.cls
  refine lv_aload_n hx hb dL_law_501 rfl (lv_at hl 3 rfl) ?_
  refine q_ci (va_runV (As := []) (rest := []) ⟨hx, hb, hml, hown, hts⟩ hM1 (cwV 0 hts gL_law_X12_minute rfl rfl rfl (by decide +kernel) ⟨(by show fr + 1 ≤ 2048; omega), (by show 8 + (1 + 11) + lo ≤ 84000; omega)⟩) (q_pV hA hW hS (ci := 10) rfl hcl) rfl rfl hl.1 rfl (lv_room (Nat.le_of_ble_eq_true rfl)) dL_law_502 ⟨(by show cells + c1 ≤ 601024; omega), (by show slots + s1 ≤ 7293034; omega)⟩) hS (fun r1 f1 n1 H locs hp hW hS => ?_)
  obtain ⟨rfl, hp1⟩ := hp
  obtain ⟨b9, P2, fr2, c2, s2, lo2, e1, e2, e3, e4, hM3, heq, ⟨r9, hR9⟩, hM4⟩ := hM2 f1 n1 hp1
  refine lv_aload_n hx hb dL_law_505 rfl (lv_at hl 2 rfl) ?_
  refine q_ci (va_runV (As := []) (rest := [.int R9]) ⟨hx, hb, hml, hown, hts⟩ hM3 (cwV 0 hts gL_law_X14_minute rfl rfl rfl (by decide +kernel) ⟨(by show fr2 + 1 ≤ 2048; omega), (by show 8 + (1 + 11) + lo2 ≤ 84000; omega)⟩) (q_pV hA hW hS (ci := 12) rfl (show f1 (a + 55) = some (cMod (a + 55) r9) from hR9 0 (by decide))) rfl rfl hl.1 rfl (lv_room (Nat.le_of_ble_eq_true rfl)) dL_law_506 ⟨(by show cells + c1 + c2 ≤ 601024; omega), (by show slots + s1 + s2 ≤ 7293034; omega)⟩) hS (fun r2 f2 n2 H locs hp hW hS => ?_)
  obtain ⟨rfl, hp2⟩ := hp
  have hJ3 := hM4 f2 n2 hp2
  refine lv_icmp_eq (tgt := 2099) hx hb dL_law_509 (by decide) (fun c9 => ?_) (fun c9 => absurd heq c9)
  refine W.widen (k := cells + 430) (n := slots + 3900) (by omega) (by omega) ?_
  exact kk _ _ _ _ _ hJ3 hW hS (lv_sub hl [0, 1, 2, 3, 4] rfl)

set_option maxHeartbeats 4000000 in
set_option maxRecDepth 100000 in
theorem law_c12 {p : Program} {l : Launch} {e : Env} {s : State} {m : MethodId} {below : List Frame} {meth : Method} {c : Code} {E : q_E} {b L a : Nat} {xs : Nat → Int32} {Q : State → Prop} (X : LX p l s m c E b L a xs) {i : Nat} (hi : i + 6 ≤ L) {f : q_H} {n BB : Nat} {H : Heap} {locs : List Loc} {ls : Array Slot} {cells slots : Nat} (hB : BB ≤ 2 ^ 29) (hJ : JJ E a BB f n) (hW : q_W E f n H) (hS : va_S (q_ge E) s.heap H locs) (hl : lv_has ls 9 [(4, .int (nI i)), (3, .ref (a + 99)), (2, .ref (a + 55)), (1, .ref a), (0, .ref b)]) (hc : cells + 430 ≤ 601024) (hsl : slots + 3900 ≤ 7293034)
    (kk : ∀ (f1 : q_H) (n1 : Nat) (H1 : Heap) (locs1 : List Loc) (ls1 : Array Slot), JJ E a (BB + 100) f1 n1 → q_W E f1 n1 H1 → va_S (q_ge E) s.heap H1 locs1 → lv_has ls1 9 [(4, .int (nI i)), (3, .ref (a + 99)), (2, .ref (a + 55)), (1, .ref a), (0, .ref b)] → W p l e room_1 s m #[Value.ref b] below meth c H1 locs1 (cells + 430) (slots + 3900) Q (F0 m 2099 ls1 [])) :
    W p l e room_1 s m #[Value.ref b] below meth c H locs cells slots Q (F0 m 514 ls []) := by
  obtain ⟨hx, hb, hml, hown, hts, hX, hbl, hbA, hA, hNc, hst, hL⟩ := X
  obtain ⟨k9, P1, fr, c1, s1, lo, b1, b2, b3, b4, hM1, hM2⟩ := P_holdsOf l E a BB f n hst hB hJ (xs (i + 1))
  refine lv_aload_n hx hb dL_law_514 rfl (lv_at hl 3 rfl) ?_
  refine lv_aload_n hx hb dL_law_515 rfl (lv_at hl 4 rfl) ?_
  refine lv_iload hx hb dL_law_516 (lv_at hl 0 rfl) ?_
  refine lv_iconst (v := 1) hx hb dL_law_518 (by decide) ?_
  refine lv_iadd hx hb dL_law_519 ?_
  rw [show nI i + 1 = nI (i + 1) from by rw [show (1 : Int32) = nI 1 from rfl, nI_add]]
  refine va_sld hx hb hX hbl hbA hS (vp_in_nI (show i + 1 < L by omega) (by omega)) dL_law_520 ?_
  rw [nI_clamp (show i + 1 < 2 ^ 31 by omega)]
  refine lv_aload_n hx hb dL_law_521 rfl (lv_at hl 1 rfl) ?_
  refine q_xi (vx_runSX (As := [.ref a, .int (xs (i + 1)), .ref (a + 99)]) (rest := []) ⟨hx, hb, hml, hown, hts⟩ hM1 (vx_cwSW 3 hts gL_law_L_holdsOf rfl rfl rfl (by decide +kernel) ⟨(by show fr + 1 ≤ 2048; omega), (by show 8 + (4 + 11) + lo ≤ 84000; omega)⟩) (q_pSN hNc hA hW hS) rfl rfl hl.1 rfl (lv_room (Nat.le_of_ble_eq_true rfl)) dL_law_522 ⟨(by show cells + c1 ≤ 601024; omega), (by show slots + s1 ≤ 7293034; omega)⟩) hS (fun C9 ce9 q9 f9 n9 H locs hp hW hS h91 h92 h93 => False.elim hp) (fun r1 f1 n1 H locs hp hW hS => ?_)
  obtain ⟨rfl, hp1⟩ := hp
  obtain ⟨b9, P2, fr2, c2, s2, lo2, e1, e2, e3, e4, hM3, -, ⟨r9, hR9⟩, hM4⟩ := hM2 f1 n1 hp1
  refine lv_istore (lv' := [(5, .int k9), (4, .int (nI i)), (3, .ref (a + 99)), (2, .ref (a + 55)), (1, .ref a), (0, .ref b)]) hx hb dL_law_525 hl (by decide) rfl (fun ls hl => ?_)
  refine lv_aload_n hx hb dL_law_527 rfl (lv_at hl 3 rfl) ?_
  refine lv_aload_n hx hb dL_law_528 rfl (lv_at hl 5 rfl) ?_
  refine lv_iload hx hb dL_law_529 (lv_at hl 1 rfl) ?_
  refine lv_iconst (v := 1) hx hb dL_law_531 (by decide) ?_
  refine lv_iadd hx hb dL_law_532 ?_
  rw [show nI i + 1 = nI (i + 1) from by rw [show (1 : Int32) = nI 1 from rfl, nI_add]]
  refine va_sld hx hb hX hbl hbA hS (vp_in_nI (show i + 1 < L by omega) (by omega)) dL_law_533 ?_
  rw [nI_clamp (show i + 1 < 2 ^ 31 by omega)]
  refine q_ci (va_runV (As := [.int (xs (i + 1))]) (rest := []) ⟨hx, hb, hml, hown, hts⟩ hM3 (cwV 1 hts gL_law_X14_holdsOf rfl rfl rfl (by decide +kernel) ⟨(by show fr2 + 1 ≤ 2048; omega), (by show 8 + (2 + 11) + lo2 ≤ 84000; omega)⟩) (q_pV hA hW hS (ci := 12) rfl (show f1 (a + 55) = some (cMod (a + 55) r9) from hR9 0 (by decide))) rfl rfl hl.1 rfl (lv_room (Nat.le_of_ble_eq_true rfl)) dL_law_534 ⟨(by show cells + c1 + c2 ≤ 601024; omega), (by show slots + s1 + s2 ≤ 7293034; omega)⟩) hS (fun r2 f2 n2 H locs hp hW hS => ?_)
  obtain ⟨rfl, hp2⟩ := hp
  obtain ⟨r3, og3, hR3, hk3, ho3, heq3, hJ3⟩ := hM4 f2 n2 hp2
  refine lv_istore (lv' := [(6, .int b9), (5, .int k9), (4, .int (nI i)), (3, .ref (a + 99)), (2, .ref (a + 55)), (1, .ref a), (0, .ref b)]) hx hb dL_law_537 hl (by decide) rfl (fun ls hl => ?_)
  refine lv_aload_n hx hb dL_law_539 rfl (lv_at hl 4 rfl) ?_
  refine q_ci (va_runV (As := []) (rest := []) ⟨hx, hb, hml, hown, hts⟩ (kX14_thrown l E f2 n2 (a + 55) r3 hR3) (cwV 0 hts gL_law_X14_thrown rfl rfl rfl (by decide +kernel) ⟨(Nat.le_of_ble_eq_true rfl), (Nat.le_of_ble_eq_true rfl)⟩) (q_pV hA hW hS (ci := 12) rfl (show f2 (a + 55) = some (cMod (a + 55) r3) from hR3 0 (by decide))) rfl rfl hl.1 rfl (lv_room (Nat.le_of_ble_eq_true rfl)) dL_law_540 ⟨(by show cells + c1 + c2 + 0 ≤ 601024; omega), (by show slots + s1 + s2 + 0 ≤ 7293034; omega)⟩) hS (fun r4 f4 n4 H locs hp hW hS => ?_)
  obtain ⟨rfl, rfl, rfl⟩ := hp
  rw [hk3]
  refine lv_iload hx hb dL_law_543 (lv_at hl 1 rfl) ?_
  refine lv_icmp_eq (tgt := 550) hx hb dL_law_545 (by decide) (fun c9 => ?_) (fun c9 => absurd rfl c9)
  refine lv_iload hx hb dL_law_550 (lv_at hl 1 rfl) ?_
  refine lv_if_ne (tgt := 567) hx hb dL_law_552 (by decide) (fun c0 => ?_) (fun c0 => ?_)
  · refine lv_goto (tgt := 2099) hx hb dL_law_567 (by decide) ?_
    refine W.widen (k := cells + 430) (n := slots + 3900) (by omega) (by omega) ?_
    exact kk _ _ _ _ _ hJ3 hW hS (lv_sub hl [2, 3, 4, 5, 6] rfl)
  · refine lv_aload_n hx hb dL_law_555 rfl (lv_at hl 3 rfl) ?_
    refine lv_iconst (v := 0) hx hb dL_law_556 (by decide) ?_
    refine q_lald hx hb hA hW ho3 (show vp_in (nI 0) 1 from vp_in_nI (by decide) (by decide)) dL_law_557 ?_
    rw [show (0 : Int32).toNatClampNeg = 0 from rfl]
    refine lv_iload hx hb dL_law_558 (lv_at hl 0 rfl) ?_
    refine lv_i2l hx hb dL_law_560 rfl ?_
    refine q_lcmp0 hx hb (heq3 c0) dL_law_561 ?_
    refine lv_if_eq (tgt := 567) hx hb dL_law_562 (by decide) (fun c5 => ?_) (fun c5 => absurd rfl c5)
    refine lv_goto (tgt := 2099) hx hb dL_law_567 (by decide) ?_
    refine W.widen (k := cells + 430) (n := slots + 3900) (by omega) (by omega) ?_
    exact kk _ _ _ _ _ hJ3 hW hS (lv_sub hl [2, 3, 4, 5, 6] rfl)

set_option maxHeartbeats 4000000 in
set_option maxRecDepth 100000 in
theorem law_c13 {p : Program} {l : Launch} {e : Env} {s : State} {m : MethodId} {below : List Frame} {meth : Method} {c : Code} {E : q_E} {b L a : Nat} {xs : Nat → Int32} {Q : State → Prop} (X : LX p l s m c E b L a xs) {i : Nat} (hi : i + 6 ≤ L) {f : q_H} {n BB : Nat} {H : Heap} {locs : List Loc} {ls : Array Slot} {cells slots : Nat} (hB : BB ≤ 2 ^ 29) (hJ : JJ E a BB f n) (hW : q_W E f n H) (hS : va_S (q_ge E) s.heap H locs) (hl : lv_has ls 9 [(4, .int (nI i)), (3, .ref (a + 99)), (2, .ref (a + 55)), (1, .ref a), (0, .ref b)]) (hc : cells + 430 ≤ 601024) (hsl : slots + 3900 ≤ 7293034)
    (kk : ∀ (f1 : q_H) (n1 : Nat) (H1 : Heap) (locs1 : List Loc) (ls1 : Array Slot), JJ E a (BB + 100) f1 n1 → q_W E f1 n1 H1 → va_S (q_ge E) s.heap H1 locs1 → lv_has ls1 9 [(4, .int (nI i)), (3, .ref (a + 99)), (2, .ref (a + 55)), (1, .ref a), (0, .ref b)] → W p l e room_1 s m #[Value.ref b] below meth c H1 locs1 (cells + 430) (slots + 3900) Q (F0 m 2099 ls1 [])) :
    W p l e room_1 s m #[Value.ref b] below meth c H locs cells slots Q (F0 m 570 ls []) := by
  obtain ⟨hx, hb, hml, hown, hts, hX, hbl, hbA, hA, hNc, hst, hL⟩ := X
  obtain ⟨k9, P1, fr, c1, s1, lo, b1, b2, b3, b4, hM1, hM2⟩ := P_waterIn l E a BB f n hst hB hJ (xs (i + 1))
  refine lv_aload_n hx hb dL_law_570 rfl (lv_at hl 3 rfl) ?_
  refine lv_aload_n hx hb dL_law_571 rfl (lv_at hl 4 rfl) ?_
  refine lv_iload hx hb dL_law_572 (lv_at hl 0 rfl) ?_
  refine lv_iconst (v := 1) hx hb dL_law_574 (by decide) ?_
  refine lv_iadd hx hb dL_law_575 ?_
  rw [show nI i + 1 = nI (i + 1) from by rw [show (1 : Int32) = nI 1 from rfl, nI_add]]
  refine va_sld hx hb hX hbl hbA hS (vp_in_nI (show i + 1 < L by omega) (by omega)) dL_law_576 ?_
  rw [nI_clamp (show i + 1 < 2 ^ 31 by omega)]
  refine lv_aload_n hx hb dL_law_577 rfl (lv_at hl 1 rfl) ?_
  refine q_xi (vx_runSX (As := [.ref a, .int (xs (i + 1)), .ref (a + 99)]) (rest := []) ⟨hx, hb, hml, hown, hts⟩ hM1 (vx_cwSW 3 hts gL_law_L_waterIn rfl rfl rfl (by decide +kernel) ⟨(by show fr + 1 ≤ 2048; omega), (by show 8 + (4 + 11) + lo ≤ 84000; omega)⟩) (q_pSN hNc hA hW hS) rfl rfl hl.1 rfl (lv_room (Nat.le_of_ble_eq_true rfl)) dL_law_578 ⟨(by show cells + c1 ≤ 601024; omega), (by show slots + s1 ≤ 7293034; omega)⟩) hS (fun C9 ce9 q9 f9 n9 H locs hp hW hS h91 h92 h93 => False.elim hp) (fun r1 f1 n1 H locs hp hW hS => ?_)
  obtain ⟨rfl, hp1⟩ := hp
  obtain ⟨b9, P2, fr2, c2, s2, lo2, e1, e2, e3, e4, hM3, -, ⟨r9, hR9⟩, hM4⟩ := hM2 f1 n1 hp1
  refine lv_istore (lv' := [(5, .int k9), (4, .int (nI i)), (3, .ref (a + 99)), (2, .ref (a + 55)), (1, .ref a), (0, .ref b)]) hx hb dL_law_581 hl (by decide) rfl (fun ls hl => ?_)
  refine lv_aload_n hx hb dL_law_583 rfl (lv_at hl 3 rfl) ?_
  refine lv_aload_n hx hb dL_law_584 rfl (lv_at hl 5 rfl) ?_
  refine lv_iload hx hb dL_law_585 (lv_at hl 1 rfl) ?_
  refine lv_iconst (v := 1) hx hb dL_law_587 (by decide) ?_
  refine lv_iadd hx hb dL_law_588 ?_
  rw [show nI i + 1 = nI (i + 1) from by rw [show (1 : Int32) = nI 1 from rfl, nI_add]]
  refine va_sld hx hb hX hbl hbA hS (vp_in_nI (show i + 1 < L by omega) (by omega)) dL_law_589 ?_
  rw [nI_clamp (show i + 1 < 2 ^ 31 by omega)]
  refine q_ci (va_runV (As := [.int (xs (i + 1))]) (rest := []) ⟨hx, hb, hml, hown, hts⟩ hM3 (cwV 1 hts gL_law_X14_waterIn rfl rfl rfl (by decide +kernel) ⟨(by show fr2 + 1 ≤ 2048; omega), (by show 8 + (2 + 11) + lo2 ≤ 84000; omega)⟩) (q_pV hA hW hS (ci := 12) rfl (show f1 (a + 55) = some (cMod (a + 55) r9) from hR9 0 (by decide))) rfl rfl hl.1 rfl (lv_room (Nat.le_of_ble_eq_true rfl)) dL_law_590 ⟨(by show cells + c1 + c2 ≤ 601024; omega), (by show slots + s1 + s2 ≤ 7293034; omega)⟩) hS (fun r2 f2 n2 H locs hp hW hS => ?_)
  obtain ⟨rfl, hp2⟩ := hp
  obtain ⟨r3, og3, hR3, hk3, ho3, heq3, hJ3⟩ := hM4 f2 n2 hp2
  refine lv_istore (lv' := [(6, .int b9), (5, .int k9), (4, .int (nI i)), (3, .ref (a + 99)), (2, .ref (a + 55)), (1, .ref a), (0, .ref b)]) hx hb dL_law_593 hl (by decide) rfl (fun ls hl => ?_)
  refine lv_aload_n hx hb dL_law_595 rfl (lv_at hl 4 rfl) ?_
  refine q_ci (va_runV (As := []) (rest := []) ⟨hx, hb, hml, hown, hts⟩ (kX14_thrown l E f2 n2 (a + 55) r3 hR3) (cwV 0 hts gL_law_X14_thrown rfl rfl rfl (by decide +kernel) ⟨(Nat.le_of_ble_eq_true rfl), (Nat.le_of_ble_eq_true rfl)⟩) (q_pV hA hW hS (ci := 12) rfl (show f2 (a + 55) = some (cMod (a + 55) r3) from hR3 0 (by decide))) rfl rfl hl.1 rfl (lv_room (Nat.le_of_ble_eq_true rfl)) dL_law_596 ⟨(by show cells + c1 + c2 + 0 ≤ 601024; omega), (by show slots + s1 + s2 + 0 ≤ 7293034; omega)⟩) hS (fun r4 f4 n4 H locs hp hW hS => ?_)
  obtain ⟨rfl, rfl, rfl⟩ := hp
  rw [hk3]
  refine lv_iload hx hb dL_law_599 (lv_at hl 1 rfl) ?_
  refine lv_icmp_eq (tgt := 606) hx hb dL_law_601 (by decide) (fun c9 => ?_) (fun c9 => absurd rfl c9)
  refine lv_iload hx hb dL_law_606 (lv_at hl 1 rfl) ?_
  refine lv_if_ne (tgt := 623) hx hb dL_law_608 (by decide) (fun c0 => ?_) (fun c0 => ?_)
  · refine lv_goto (tgt := 2099) hx hb dL_law_623 (by decide) ?_
    refine W.widen (k := cells + 430) (n := slots + 3900) (by omega) (by omega) ?_
    exact kk _ _ _ _ _ hJ3 hW hS (lv_sub hl [2, 3, 4, 5, 6] rfl)
  · refine lv_aload_n hx hb dL_law_611 rfl (lv_at hl 3 rfl) ?_
    refine lv_iconst (v := 0) hx hb dL_law_612 (by decide) ?_
    refine q_lald hx hb hA hW ho3 (show vp_in (nI 0) 1 from vp_in_nI (by decide) (by decide)) dL_law_613 ?_
    rw [show (0 : Int32).toNatClampNeg = 0 from rfl]
    refine lv_iload hx hb dL_law_614 (lv_at hl 0 rfl) ?_
    refine lv_i2l hx hb dL_law_616 rfl ?_
    refine q_lcmp0 hx hb (heq3 c0) dL_law_617 ?_
    refine lv_if_eq (tgt := 623) hx hb dL_law_618 (by decide) (fun c5 => ?_) (fun c5 => absurd rfl c5)
    refine lv_goto (tgt := 2099) hx hb dL_law_623 (by decide) ?_
    refine W.widen (k := cells + 430) (n := slots + 3900) (by omega) (by omega) ?_
    exact kk _ _ _ _ _ hJ3 hW hS (lv_sub hl [2, 3, 4, 5, 6] rfl)

set_option maxHeartbeats 4000000 in
set_option maxRecDepth 100000 in
theorem law_c14 {p : Program} {l : Launch} {e : Env} {s : State} {m : MethodId} {below : List Frame} {meth : Method} {c : Code} {E : q_E} {b L a : Nat} {xs : Nat → Int32} {Q : State → Prop} (X : LX p l s m c E b L a xs) {i : Nat} (hi : i + 6 ≤ L) {f : q_H} {n BB : Nat} {H : Heap} {locs : List Loc} {ls : Array Slot} {cells slots : Nat} (hB : BB ≤ 2 ^ 29) (hJ : JJ E a BB f n) (hW : q_W E f n H) (hS : va_S (q_ge E) s.heap H locs) (hl : lv_has ls 9 [(4, .int (nI i)), (3, .ref (a + 99)), (2, .ref (a + 55)), (1, .ref a), (0, .ref b)]) (hc : cells + 430 ≤ 601024) (hsl : slots + 3900 ≤ 7293034)
    (kk : ∀ (f1 : q_H) (n1 : Nat) (H1 : Heap) (locs1 : List Loc) (ls1 : Array Slot), JJ E a (BB + 100) f1 n1 → q_W E f1 n1 H1 → va_S (q_ge E) s.heap H1 locs1 → lv_has ls1 9 [(4, .int (nI i)), (3, .ref (a + 99)), (2, .ref (a + 55)), (1, .ref a), (0, .ref b)] → W p l e room_1 s m #[Value.ref b] below meth c H1 locs1 (cells + 430) (slots + 3900) Q (F0 m 2099 ls1 [])) :
    W p l e room_1 s m #[Value.ref b] below meth c H locs cells slots Q (F0 m 626 ls []) := by
  obtain ⟨hx, hb, hml, hown, hts, hX, hbl, hbA, hA, hNc, hst, hL⟩ := X
  obtain ⟨k9, P1, fr, c1, s1, lo, b1, b2, b3, b4, hM1, hM2⟩ := P_mealIn l E a BB f n hst hB hJ (xs (i + 1))
  refine lv_aload_n hx hb dL_law_626 rfl (lv_at hl 3 rfl) ?_
  refine lv_aload_n hx hb dL_law_627 rfl (lv_at hl 4 rfl) ?_
  refine lv_iload hx hb dL_law_628 (lv_at hl 0 rfl) ?_
  refine lv_iconst (v := 1) hx hb dL_law_630 (by decide) ?_
  refine lv_iadd hx hb dL_law_631 ?_
  rw [show nI i + 1 = nI (i + 1) from by rw [show (1 : Int32) = nI 1 from rfl, nI_add]]
  refine va_sld hx hb hX hbl hbA hS (vp_in_nI (show i + 1 < L by omega) (by omega)) dL_law_632 ?_
  rw [nI_clamp (show i + 1 < 2 ^ 31 by omega)]
  refine lv_aload_n hx hb dL_law_633 rfl (lv_at hl 1 rfl) ?_
  refine q_xi (vx_runSX (As := [.ref a, .int (xs (i + 1)), .ref (a + 99)]) (rest := []) ⟨hx, hb, hml, hown, hts⟩ hM1 (vx_cwSW 3 hts gL_law_L_mealIn rfl rfl rfl (by decide +kernel) ⟨(by show fr + 1 ≤ 2048; omega), (by show 8 + (4 + 11) + lo ≤ 84000; omega)⟩) (q_pSN hNc hA hW hS) rfl rfl hl.1 rfl (lv_room (Nat.le_of_ble_eq_true rfl)) dL_law_634 ⟨(by show cells + c1 ≤ 601024; omega), (by show slots + s1 ≤ 7293034; omega)⟩) hS (fun C9 ce9 q9 f9 n9 H locs hp hW hS h91 h92 h93 => False.elim hp) (fun r1 f1 n1 H locs hp hW hS => ?_)
  obtain ⟨rfl, hp1⟩ := hp
  obtain ⟨b9, P2, fr2, c2, s2, lo2, e1, e2, e3, e4, hM3, -, ⟨r9, hR9⟩, hM4⟩ := hM2 f1 n1 hp1
  refine lv_istore (lv' := [(5, .int k9), (4, .int (nI i)), (3, .ref (a + 99)), (2, .ref (a + 55)), (1, .ref a), (0, .ref b)]) hx hb dL_law_637 hl (by decide) rfl (fun ls hl => ?_)
  refine lv_aload_n hx hb dL_law_639 rfl (lv_at hl 3 rfl) ?_
  refine lv_aload_n hx hb dL_law_640 rfl (lv_at hl 5 rfl) ?_
  refine lv_iload hx hb dL_law_641 (lv_at hl 1 rfl) ?_
  refine lv_iconst (v := 1) hx hb dL_law_643 (by decide) ?_
  refine lv_iadd hx hb dL_law_644 ?_
  rw [show nI i + 1 = nI (i + 1) from by rw [show (1 : Int32) = nI 1 from rfl, nI_add]]
  refine va_sld hx hb hX hbl hbA hS (vp_in_nI (show i + 1 < L by omega) (by omega)) dL_law_645 ?_
  rw [nI_clamp (show i + 1 < 2 ^ 31 by omega)]
  refine q_ci (va_runV (As := [.int (xs (i + 1))]) (rest := []) ⟨hx, hb, hml, hown, hts⟩ hM3 (cwV 1 hts gL_law_X14_mealIn rfl rfl rfl (by decide +kernel) ⟨(by show fr2 + 1 ≤ 2048; omega), (by show 8 + (2 + 11) + lo2 ≤ 84000; omega)⟩) (q_pV hA hW hS (ci := 12) rfl (show f1 (a + 55) = some (cMod (a + 55) r9) from hR9 0 (by decide))) rfl rfl hl.1 rfl (lv_room (Nat.le_of_ble_eq_true rfl)) dL_law_646 ⟨(by show cells + c1 + c2 ≤ 601024; omega), (by show slots + s1 + s2 ≤ 7293034; omega)⟩) hS (fun r2 f2 n2 H locs hp hW hS => ?_)
  obtain ⟨rfl, hp2⟩ := hp
  obtain ⟨r3, og3, hR3, hk3, ho3, heq3, hJ3⟩ := hM4 f2 n2 hp2
  refine lv_istore (lv' := [(6, .int b9), (5, .int k9), (4, .int (nI i)), (3, .ref (a + 99)), (2, .ref (a + 55)), (1, .ref a), (0, .ref b)]) hx hb dL_law_649 hl (by decide) rfl (fun ls hl => ?_)
  refine lv_aload_n hx hb dL_law_651 rfl (lv_at hl 4 rfl) ?_
  refine q_ci (va_runV (As := []) (rest := []) ⟨hx, hb, hml, hown, hts⟩ (kX14_thrown l E f2 n2 (a + 55) r3 hR3) (cwV 0 hts gL_law_X14_thrown rfl rfl rfl (by decide +kernel) ⟨(Nat.le_of_ble_eq_true rfl), (Nat.le_of_ble_eq_true rfl)⟩) (q_pV hA hW hS (ci := 12) rfl (show f2 (a + 55) = some (cMod (a + 55) r3) from hR3 0 (by decide))) rfl rfl hl.1 rfl (lv_room (Nat.le_of_ble_eq_true rfl)) dL_law_652 ⟨(by show cells + c1 + c2 + 0 ≤ 601024; omega), (by show slots + s1 + s2 + 0 ≤ 7293034; omega)⟩) hS (fun r4 f4 n4 H locs hp hW hS => ?_)
  obtain ⟨rfl, rfl, rfl⟩ := hp
  rw [hk3]
  refine lv_iload hx hb dL_law_655 (lv_at hl 1 rfl) ?_
  refine lv_icmp_eq (tgt := 662) hx hb dL_law_657 (by decide) (fun c9 => ?_) (fun c9 => absurd rfl c9)
  refine lv_iload hx hb dL_law_662 (lv_at hl 1 rfl) ?_
  refine lv_if_ne (tgt := 679) hx hb dL_law_664 (by decide) (fun c0 => ?_) (fun c0 => ?_)
  · refine lv_goto (tgt := 2099) hx hb dL_law_679 (by decide) ?_
    refine W.widen (k := cells + 430) (n := slots + 3900) (by omega) (by omega) ?_
    exact kk _ _ _ _ _ hJ3 hW hS (lv_sub hl [2, 3, 4, 5, 6] rfl)
  · refine lv_aload_n hx hb dL_law_667 rfl (lv_at hl 3 rfl) ?_
    refine lv_iconst (v := 0) hx hb dL_law_668 (by decide) ?_
    refine q_lald hx hb hA hW ho3 (show vp_in (nI 0) 1 from vp_in_nI (by decide) (by decide)) dL_law_669 ?_
    rw [show (0 : Int32).toNatClampNeg = 0 from rfl]
    refine lv_iload hx hb dL_law_670 (lv_at hl 0 rfl) ?_
    refine lv_i2l hx hb dL_law_672 rfl ?_
    refine q_lcmp0 hx hb (heq3 c0) dL_law_673 ?_
    refine lv_if_eq (tgt := 679) hx hb dL_law_674 (by decide) (fun c5 => ?_) (fun c5 => absurd rfl c5)
    refine lv_goto (tgt := 2099) hx hb dL_law_679 (by decide) ?_
    refine W.widen (k := cells + 430) (n := slots + 3900) (by omega) (by omega) ?_
    exact kk _ _ _ _ _ hJ3 hW hS (lv_sub hl [2, 3, 4, 5, 6] rfl)

set_option maxHeartbeats 4000000 in
set_option maxRecDepth 100000 in
theorem law_c15 {p : Program} {l : Launch} {e : Env} {s : State} {m : MethodId} {below : List Frame} {meth : Method} {c : Code} {E : q_E} {b L a : Nat} {xs : Nat → Int32} {Q : State → Prop} (X : LX p l s m c E b L a xs) {i : Nat} (hi : i + 6 ≤ L) {f : q_H} {n BB : Nat} {H : Heap} {locs : List Loc} {ls : Array Slot} {cells slots : Nat} (hB : BB ≤ 2 ^ 29) (hJ : JJ E a BB f n) (hW : q_W E f n H) (hS : va_S (q_ge E) s.heap H locs) (hl : lv_has ls 9 [(4, .int (nI i)), (3, .ref (a + 99)), (2, .ref (a + 55)), (1, .ref a), (0, .ref b)]) (hc : cells + 430 ≤ 601024) (hsl : slots + 3900 ≤ 7293034)
    (kk : ∀ (f1 : q_H) (n1 : Nat) (H1 : Heap) (locs1 : List Loc) (ls1 : Array Slot), JJ E a (BB + 100) f1 n1 → q_W E f1 n1 H1 → va_S (q_ge E) s.heap H1 locs1 → lv_has ls1 9 [(4, .int (nI i)), (3, .ref (a + 99)), (2, .ref (a + 55)), (1, .ref a), (0, .ref b)] → W p l e room_1 s m #[Value.ref b] below meth c H1 locs1 (cells + 430) (slots + 3900) Q (F0 m 2099 ls1 [])) :
    W p l e room_1 s m #[Value.ref b] below meth c H locs cells slots Q (F0 m 682 ls []) := by
  obtain ⟨hx, hb, hml, hown, hts, hX, hbl, hbA, hA, hNc, hst, hL⟩ := X
  obtain ⟨k9, P1, fr, c1, s1, lo, b1, b2, b3, b4, hM1, hM2⟩ := P_heatOf l E a BB f n hst hB hJ (xs (i + 1))
  refine lv_aload_n hx hb dL_law_682 rfl (lv_at hl 3 rfl) ?_
  refine lv_aload_n hx hb dL_law_683 rfl (lv_at hl 4 rfl) ?_
  refine lv_iload hx hb dL_law_684 (lv_at hl 0 rfl) ?_
  refine lv_iconst (v := 1) hx hb dL_law_686 (by decide) ?_
  refine lv_iadd hx hb dL_law_687 ?_
  rw [show nI i + 1 = nI (i + 1) from by rw [show (1 : Int32) = nI 1 from rfl, nI_add]]
  refine va_sld hx hb hX hbl hbA hS (vp_in_nI (show i + 1 < L by omega) (by omega)) dL_law_688 ?_
  rw [nI_clamp (show i + 1 < 2 ^ 31 by omega)]
  refine lv_aload_n hx hb dL_law_689 rfl (lv_at hl 1 rfl) ?_
  refine q_xi (vx_runSX (As := [.ref a, .int (xs (i + 1)), .ref (a + 99)]) (rest := []) ⟨hx, hb, hml, hown, hts⟩ hM1 (vx_cwSW 3 hts gL_law_L_heatOf rfl rfl rfl (by decide +kernel) ⟨(by show fr + 1 ≤ 2048; omega), (by show 8 + (4 + 11) + lo ≤ 84000; omega)⟩) (q_pSN hNc hA hW hS) rfl rfl hl.1 rfl (lv_room (Nat.le_of_ble_eq_true rfl)) dL_law_690 ⟨(by show cells + c1 ≤ 601024; omega), (by show slots + s1 ≤ 7293034; omega)⟩) hS (fun C9 ce9 q9 f9 n9 H locs hp hW hS h91 h92 h93 => False.elim hp) (fun r1 f1 n1 H locs hp hW hS => ?_)
  obtain ⟨rfl, hp1⟩ := hp
  obtain ⟨b9, P2, fr2, c2, s2, lo2, e1, e2, e3, e4, hM3, -, ⟨r9, hR9⟩, hM4⟩ := hM2 f1 n1 hp1
  refine lv_istore (lv' := [(5, .int k9), (4, .int (nI i)), (3, .ref (a + 99)), (2, .ref (a + 55)), (1, .ref a), (0, .ref b)]) hx hb dL_law_693 hl (by decide) rfl (fun ls hl => ?_)
  refine lv_aload_n hx hb dL_law_695 rfl (lv_at hl 3 rfl) ?_
  refine lv_aload_n hx hb dL_law_696 rfl (lv_at hl 5 rfl) ?_
  refine lv_iload hx hb dL_law_697 (lv_at hl 1 rfl) ?_
  refine lv_iconst (v := 1) hx hb dL_law_699 (by decide) ?_
  refine lv_iadd hx hb dL_law_700 ?_
  rw [show nI i + 1 = nI (i + 1) from by rw [show (1 : Int32) = nI 1 from rfl, nI_add]]
  refine va_sld hx hb hX hbl hbA hS (vp_in_nI (show i + 1 < L by omega) (by omega)) dL_law_701 ?_
  rw [nI_clamp (show i + 1 < 2 ^ 31 by omega)]
  refine q_ci (va_runV (As := [.int (xs (i + 1))]) (rest := []) ⟨hx, hb, hml, hown, hts⟩ hM3 (cwV 1 hts gL_law_X14_heatOf rfl rfl rfl (by decide +kernel) ⟨(by show fr2 + 1 ≤ 2048; omega), (by show 8 + (2 + 11) + lo2 ≤ 84000; omega)⟩) (q_pV hA hW hS (ci := 12) rfl (show f1 (a + 55) = some (cMod (a + 55) r9) from hR9 0 (by decide))) rfl rfl hl.1 rfl (lv_room (Nat.le_of_ble_eq_true rfl)) dL_law_702 ⟨(by show cells + c1 + c2 ≤ 601024; omega), (by show slots + s1 + s2 ≤ 7293034; omega)⟩) hS (fun r2 f2 n2 H locs hp hW hS => ?_)
  obtain ⟨rfl, hp2⟩ := hp
  obtain ⟨r3, og3, hR3, hk3, ho3, heq3, hJ3⟩ := hM4 f2 n2 hp2
  refine lv_istore (lv' := [(6, .int b9), (5, .int k9), (4, .int (nI i)), (3, .ref (a + 99)), (2, .ref (a + 55)), (1, .ref a), (0, .ref b)]) hx hb dL_law_705 hl (by decide) rfl (fun ls hl => ?_)
  refine lv_aload_n hx hb dL_law_707 rfl (lv_at hl 4 rfl) ?_
  refine q_ci (va_runV (As := []) (rest := []) ⟨hx, hb, hml, hown, hts⟩ (kX14_thrown l E f2 n2 (a + 55) r3 hR3) (cwV 0 hts gL_law_X14_thrown rfl rfl rfl (by decide +kernel) ⟨(Nat.le_of_ble_eq_true rfl), (Nat.le_of_ble_eq_true rfl)⟩) (q_pV hA hW hS (ci := 12) rfl (show f2 (a + 55) = some (cMod (a + 55) r3) from hR3 0 (by decide))) rfl rfl hl.1 rfl (lv_room (Nat.le_of_ble_eq_true rfl)) dL_law_708 ⟨(by show cells + c1 + c2 + 0 ≤ 601024; omega), (by show slots + s1 + s2 + 0 ≤ 7293034; omega)⟩) hS (fun r4 f4 n4 H locs hp hW hS => ?_)
  obtain ⟨rfl, rfl, rfl⟩ := hp
  rw [hk3]
  refine lv_iload hx hb dL_law_711 (lv_at hl 1 rfl) ?_
  refine lv_icmp_eq (tgt := 718) hx hb dL_law_713 (by decide) (fun c9 => ?_) (fun c9 => absurd rfl c9)
  refine lv_iload hx hb dL_law_718 (lv_at hl 1 rfl) ?_
  refine lv_if_ne (tgt := 735) hx hb dL_law_720 (by decide) (fun c0 => ?_) (fun c0 => ?_)
  · refine lv_goto (tgt := 2099) hx hb dL_law_735 (by decide) ?_
    refine W.widen (k := cells + 430) (n := slots + 3900) (by omega) (by omega) ?_
    exact kk _ _ _ _ _ hJ3 hW hS (lv_sub hl [2, 3, 4, 5, 6] rfl)
  · refine lv_aload_n hx hb dL_law_723 rfl (lv_at hl 3 rfl) ?_
    refine lv_iconst (v := 0) hx hb dL_law_724 (by decide) ?_
    refine q_lald hx hb hA hW ho3 (show vp_in (nI 0) 1 from vp_in_nI (by decide) (by decide)) dL_law_725 ?_
    rw [show (0 : Int32).toNatClampNeg = 0 from rfl]
    refine lv_iload hx hb dL_law_726 (lv_at hl 0 rfl) ?_
    refine lv_i2l hx hb dL_law_728 rfl ?_
    refine q_lcmp0 hx hb (heq3 c0) dL_law_729 ?_
    refine lv_if_eq (tgt := 735) hx hb dL_law_730 (by decide) (fun c5 => ?_) (fun c5 => absurd rfl c5)
    refine lv_goto (tgt := 2099) hx hb dL_law_735 (by decide) ?_
    refine W.widen (k := cells + 430) (n := slots + 3900) (by omega) (by omega) ?_
    exact kk _ _ _ _ _ hJ3 hW hS (lv_sub hl [2, 3, 4, 5, 6] rfl)

set_option maxHeartbeats 4000000 in
set_option maxRecDepth 100000 in
theorem law_c16 {p : Program} {l : Launch} {e : Env} {s : State} {m : MethodId} {below : List Frame} {meth : Method} {c : Code} {E : q_E} {b L a : Nat} {xs : Nat → Int32} {Q : State → Prop} (X : LX p l s m c E b L a xs) {i : Nat} (hi : i + 6 ≤ L) {f : q_H} {n BB : Nat} {H : Heap} {locs : List Loc} {ls : Array Slot} {cells slots : Nat} (hB : BB ≤ 2 ^ 29) (hJ : JJ E a BB f n) (hW : q_W E f n H) (hS : va_S (q_ge E) s.heap H locs) (hl : lv_has ls 9 [(4, .int (nI i)), (3, .ref (a + 99)), (2, .ref (a + 55)), (1, .ref a), (0, .ref b)]) (hc : cells + 430 ≤ 601024) (hsl : slots + 3900 ≤ 7293034)
    (kk : ∀ (f1 : q_H) (n1 : Nat) (H1 : Heap) (locs1 : List Loc) (ls1 : Array Slot), JJ E a (BB + 100) f1 n1 → q_W E f1 n1 H1 → va_S (q_ge E) s.heap H1 locs1 → lv_has ls1 9 [(4, .int (nI i)), (3, .ref (a + 99)), (2, .ref (a + 55)), (1, .ref a), (0, .ref b)] → W p l e room_1 s m #[Value.ref b] below meth c H1 locs1 (cells + 430) (slots + 3900) Q (F0 m 2099 ls1 [])) :
    W p l e room_1 s m #[Value.ref b] below meth c H locs cells slots Q (F0 m 738 ls []) := by
  obtain ⟨hx, hb, hml, hown, hts, hX, hbl, hbA, hA, hNc, hst, hL⟩ := X
  obtain ⟨k9, P1, fr, c1, s1, lo, b1, b2, b3, b4, hM1, hM2⟩ := P_doneIn l E a BB f n hst hB hJ (xs (i + 1))
  refine lv_aload_n hx hb dL_law_738 rfl (lv_at hl 3 rfl) ?_
  refine lv_aload_n hx hb dL_law_739 rfl (lv_at hl 4 rfl) ?_
  refine lv_iload hx hb dL_law_740 (lv_at hl 0 rfl) ?_
  refine lv_iconst (v := 1) hx hb dL_law_742 (by decide) ?_
  refine lv_iadd hx hb dL_law_743 ?_
  rw [show nI i + 1 = nI (i + 1) from by rw [show (1 : Int32) = nI 1 from rfl, nI_add]]
  refine va_sld hx hb hX hbl hbA hS (vp_in_nI (show i + 1 < L by omega) (by omega)) dL_law_744 ?_
  rw [nI_clamp (show i + 1 < 2 ^ 31 by omega)]
  refine lv_aload_n hx hb dL_law_745 rfl (lv_at hl 1 rfl) ?_
  refine q_xi (vx_runSX (As := [.ref a, .int (xs (i + 1)), .ref (a + 99)]) (rest := []) ⟨hx, hb, hml, hown, hts⟩ hM1 (vx_cwSW 3 hts gL_law_L_doneIn rfl rfl rfl (by decide +kernel) ⟨(by show fr + 1 ≤ 2048; omega), (by show 8 + (4 + 11) + lo ≤ 84000; omega)⟩) (q_pSN hNc hA hW hS) rfl rfl hl.1 rfl (lv_room (Nat.le_of_ble_eq_true rfl)) dL_law_746 ⟨(by show cells + c1 ≤ 601024; omega), (by show slots + s1 ≤ 7293034; omega)⟩) hS (fun C9 ce9 q9 f9 n9 H locs hp hW hS h91 h92 h93 => False.elim hp) (fun r1 f1 n1 H locs hp hW hS => ?_)
  obtain ⟨rfl, hp1⟩ := hp
  obtain ⟨b9, P2, fr2, c2, s2, lo2, e1, e2, e3, e4, hM3, -, ⟨r9, hR9⟩, hM4⟩ := hM2 f1 n1 hp1
  refine lv_istore (lv' := [(5, .int k9), (4, .int (nI i)), (3, .ref (a + 99)), (2, .ref (a + 55)), (1, .ref a), (0, .ref b)]) hx hb dL_law_749 hl (by decide) rfl (fun ls hl => ?_)
  refine lv_aload_n hx hb dL_law_751 rfl (lv_at hl 3 rfl) ?_
  refine lv_aload_n hx hb dL_law_752 rfl (lv_at hl 5 rfl) ?_
  refine lv_iload hx hb dL_law_753 (lv_at hl 1 rfl) ?_
  refine lv_iconst (v := 1) hx hb dL_law_755 (by decide) ?_
  refine lv_iadd hx hb dL_law_756 ?_
  rw [show nI i + 1 = nI (i + 1) from by rw [show (1 : Int32) = nI 1 from rfl, nI_add]]
  refine va_sld hx hb hX hbl hbA hS (vp_in_nI (show i + 1 < L by omega) (by omega)) dL_law_757 ?_
  rw [nI_clamp (show i + 1 < 2 ^ 31 by omega)]
  refine q_ci (va_runV (As := [.int (xs (i + 1))]) (rest := []) ⟨hx, hb, hml, hown, hts⟩ hM3 (cwV 1 hts gL_law_X14_doneIn rfl rfl rfl (by decide +kernel) ⟨(by show fr2 + 1 ≤ 2048; omega), (by show 8 + (2 + 11) + lo2 ≤ 84000; omega)⟩) (q_pV hA hW hS (ci := 12) rfl (show f1 (a + 55) = some (cMod (a + 55) r9) from hR9 0 (by decide))) rfl rfl hl.1 rfl (lv_room (Nat.le_of_ble_eq_true rfl)) dL_law_758 ⟨(by show cells + c1 + c2 ≤ 601024; omega), (by show slots + s1 + s2 ≤ 7293034; omega)⟩) hS (fun r2 f2 n2 H locs hp hW hS => ?_)
  obtain ⟨rfl, hp2⟩ := hp
  obtain ⟨r3, og3, hR3, hk3, ho3, heq3, hJ3⟩ := hM4 f2 n2 hp2
  refine lv_istore (lv' := [(6, .int b9), (5, .int k9), (4, .int (nI i)), (3, .ref (a + 99)), (2, .ref (a + 55)), (1, .ref a), (0, .ref b)]) hx hb dL_law_761 hl (by decide) rfl (fun ls hl => ?_)
  refine lv_aload_n hx hb dL_law_763 rfl (lv_at hl 4 rfl) ?_
  refine q_ci (va_runV (As := []) (rest := []) ⟨hx, hb, hml, hown, hts⟩ (kX14_thrown l E f2 n2 (a + 55) r3 hR3) (cwV 0 hts gL_law_X14_thrown rfl rfl rfl (by decide +kernel) ⟨(Nat.le_of_ble_eq_true rfl), (Nat.le_of_ble_eq_true rfl)⟩) (q_pV hA hW hS (ci := 12) rfl (show f2 (a + 55) = some (cMod (a + 55) r3) from hR3 0 (by decide))) rfl rfl hl.1 rfl (lv_room (Nat.le_of_ble_eq_true rfl)) dL_law_764 ⟨(by show cells + c1 + c2 + 0 ≤ 601024; omega), (by show slots + s1 + s2 + 0 ≤ 7293034; omega)⟩) hS (fun r4 f4 n4 H locs hp hW hS => ?_)
  obtain ⟨rfl, rfl, rfl⟩ := hp
  rw [hk3]
  refine lv_iload hx hb dL_law_767 (lv_at hl 1 rfl) ?_
  refine lv_icmp_eq (tgt := 774) hx hb dL_law_769 (by decide) (fun c9 => ?_) (fun c9 => absurd rfl c9)
  refine lv_iload hx hb dL_law_774 (lv_at hl 1 rfl) ?_
  refine lv_if_ne (tgt := 791) hx hb dL_law_776 (by decide) (fun c0 => ?_) (fun c0 => ?_)
  · refine lv_goto (tgt := 2099) hx hb dL_law_791 (by decide) ?_
    refine W.widen (k := cells + 430) (n := slots + 3900) (by omega) (by omega) ?_
    exact kk _ _ _ _ _ hJ3 hW hS (lv_sub hl [2, 3, 4, 5, 6] rfl)
  · refine lv_aload_n hx hb dL_law_779 rfl (lv_at hl 3 rfl) ?_
    refine lv_iconst (v := 0) hx hb dL_law_780 (by decide) ?_
    refine q_lald hx hb hA hW ho3 (show vp_in (nI 0) 1 from vp_in_nI (by decide) (by decide)) dL_law_781 ?_
    rw [show (0 : Int32).toNatClampNeg = 0 from rfl]
    refine lv_iload hx hb dL_law_782 (lv_at hl 0 rfl) ?_
    refine lv_i2l hx hb dL_law_784 rfl ?_
    refine q_lcmp0 hx hb (heq3 c0) dL_law_785 ?_
    refine lv_if_eq (tgt := 791) hx hb dL_law_786 (by decide) (fun c5 => ?_) (fun c5 => absurd rfl c5)
    refine lv_goto (tgt := 2099) hx hb dL_law_791 (by decide) ?_
    refine W.widen (k := cells + 430) (n := slots + 3900) (by omega) (by omega) ?_
    exact kk _ _ _ _ _ hJ3 hW hS (lv_sub hl [2, 3, 4, 5, 6] rfl)

set_option maxHeartbeats 4000000 in
set_option maxRecDepth 100000 in
theorem law_c17 {p : Program} {l : Launch} {e : Env} {s : State} {m : MethodId} {below : List Frame} {meth : Method} {c : Code} {E : q_E} {b L a : Nat} {xs : Nat → Int32} {Q : State → Prop} (X : LX p l s m c E b L a xs) {i : Nat} (hi : i + 6 ≤ L) {f : q_H} {n BB : Nat} {H : Heap} {locs : List Loc} {ls : Array Slot} {cells slots : Nat} (hB : BB ≤ 2 ^ 29) (hJ : JJ E a BB f n) (hW : q_W E f n H) (hS : va_S (q_ge E) s.heap H locs) (hl : lv_has ls 9 [(4, .int (nI i)), (3, .ref (a + 99)), (2, .ref (a + 55)), (1, .ref a), (0, .ref b)]) (hc : cells + 430 ≤ 601024) (hsl : slots + 3900 ≤ 7293034)
    (kk : ∀ (f1 : q_H) (n1 : Nat) (H1 : Heap) (locs1 : List Loc) (ls1 : Array Slot), JJ E a (BB + 100) f1 n1 → q_W E f1 n1 H1 → va_S (q_ge E) s.heap H1 locs1 → lv_has ls1 9 [(4, .int (nI i)), (3, .ref (a + 99)), (2, .ref (a + 55)), (1, .ref a), (0, .ref b)] → W p l e room_1 s m #[Value.ref b] below meth c H1 locs1 (cells + 430) (slots + 3900) Q (F0 m 2099 ls1 [])) :
    W p l e room_1 s m #[Value.ref b] below meth c H locs cells slots Q (F0 m 794 ls []) := by
  obtain ⟨hx, hb, hml, hown, hts, hX, hbl, hbA, hA, hNc, hst, hL⟩ := X
  obtain ⟨k9, P1, fr, c1, s1, lo, b1, b2, b3, b4, hM1, hM2⟩ := P_roomIn l E a BB f n hst hB hJ (xs (i + 1))
  refine lv_aload_n hx hb dL_law_794 rfl (lv_at hl 3 rfl) ?_
  refine lv_aload_n hx hb dL_law_795 rfl (lv_at hl 4 rfl) ?_
  refine lv_iload hx hb dL_law_796 (lv_at hl 0 rfl) ?_
  refine lv_iconst (v := 1) hx hb dL_law_798 (by decide) ?_
  refine lv_iadd hx hb dL_law_799 ?_
  rw [show nI i + 1 = nI (i + 1) from by rw [show (1 : Int32) = nI 1 from rfl, nI_add]]
  refine va_sld hx hb hX hbl hbA hS (vp_in_nI (show i + 1 < L by omega) (by omega)) dL_law_800 ?_
  rw [nI_clamp (show i + 1 < 2 ^ 31 by omega)]
  refine lv_aload_n hx hb dL_law_801 rfl (lv_at hl 1 rfl) ?_
  refine q_xi (vx_runSX (As := [.ref a, .int (xs (i + 1)), .ref (a + 99)]) (rest := []) ⟨hx, hb, hml, hown, hts⟩ hM1 (vx_cwSW 3 hts gL_law_L_roomIn rfl rfl rfl (by decide +kernel) ⟨(by show fr + 1 ≤ 2048; omega), (by show 8 + (4 + 11) + lo ≤ 84000; omega)⟩) (q_pSN hNc hA hW hS) rfl rfl hl.1 rfl (lv_room (Nat.le_of_ble_eq_true rfl)) dL_law_802 ⟨(by show cells + c1 ≤ 601024; omega), (by show slots + s1 ≤ 7293034; omega)⟩) hS (fun C9 ce9 q9 f9 n9 H locs hp hW hS h91 h92 h93 => False.elim hp) (fun r1 f1 n1 H locs hp hW hS => ?_)
  obtain ⟨rfl, hp1⟩ := hp
  obtain ⟨b9, P2, fr2, c2, s2, lo2, e1, e2, e3, e4, hM3, -, ⟨r9, hR9⟩, hM4⟩ := hM2 f1 n1 hp1
  refine lv_istore (lv' := [(5, .int k9), (4, .int (nI i)), (3, .ref (a + 99)), (2, .ref (a + 55)), (1, .ref a), (0, .ref b)]) hx hb dL_law_805 hl (by decide) rfl (fun ls hl => ?_)
  refine lv_aload_n hx hb dL_law_807 rfl (lv_at hl 3 rfl) ?_
  refine lv_aload_n hx hb dL_law_808 rfl (lv_at hl 5 rfl) ?_
  refine lv_iload hx hb dL_law_809 (lv_at hl 1 rfl) ?_
  refine lv_iconst (v := 1) hx hb dL_law_811 (by decide) ?_
  refine lv_iadd hx hb dL_law_812 ?_
  rw [show nI i + 1 = nI (i + 1) from by rw [show (1 : Int32) = nI 1 from rfl, nI_add]]
  refine va_sld hx hb hX hbl hbA hS (vp_in_nI (show i + 1 < L by omega) (by omega)) dL_law_813 ?_
  rw [nI_clamp (show i + 1 < 2 ^ 31 by omega)]
  refine q_ci (va_runV (As := [.int (xs (i + 1))]) (rest := []) ⟨hx, hb, hml, hown, hts⟩ hM3 (cwV 1 hts gL_law_X14_roomIn rfl rfl rfl (by decide +kernel) ⟨(by show fr2 + 1 ≤ 2048; omega), (by show 8 + (2 + 11) + lo2 ≤ 84000; omega)⟩) (q_pV hA hW hS (ci := 12) rfl (show f1 (a + 55) = some (cMod (a + 55) r9) from hR9 0 (by decide))) rfl rfl hl.1 rfl (lv_room (Nat.le_of_ble_eq_true rfl)) dL_law_814 ⟨(by show cells + c1 + c2 ≤ 601024; omega), (by show slots + s1 + s2 ≤ 7293034; omega)⟩) hS (fun r2 f2 n2 H locs hp hW hS => ?_)
  obtain ⟨rfl, hp2⟩ := hp
  obtain ⟨r3, og3, hR3, hk3, ho3, heq3, hJ3⟩ := hM4 f2 n2 hp2
  refine lv_istore (lv' := [(6, .int b9), (5, .int k9), (4, .int (nI i)), (3, .ref (a + 99)), (2, .ref (a + 55)), (1, .ref a), (0, .ref b)]) hx hb dL_law_817 hl (by decide) rfl (fun ls hl => ?_)
  refine lv_aload_n hx hb dL_law_819 rfl (lv_at hl 4 rfl) ?_
  refine q_ci (va_runV (As := []) (rest := []) ⟨hx, hb, hml, hown, hts⟩ (kX14_thrown l E f2 n2 (a + 55) r3 hR3) (cwV 0 hts gL_law_X14_thrown rfl rfl rfl (by decide +kernel) ⟨(Nat.le_of_ble_eq_true rfl), (Nat.le_of_ble_eq_true rfl)⟩) (q_pV hA hW hS (ci := 12) rfl (show f2 (a + 55) = some (cMod (a + 55) r3) from hR3 0 (by decide))) rfl rfl hl.1 rfl (lv_room (Nat.le_of_ble_eq_true rfl)) dL_law_820 ⟨(by show cells + c1 + c2 + 0 ≤ 601024; omega), (by show slots + s1 + s2 + 0 ≤ 7293034; omega)⟩) hS (fun r4 f4 n4 H locs hp hW hS => ?_)
  obtain ⟨rfl, rfl, rfl⟩ := hp
  rw [hk3]
  refine lv_iload hx hb dL_law_823 (lv_at hl 1 rfl) ?_
  refine lv_icmp_eq (tgt := 830) hx hb dL_law_825 (by decide) (fun c9 => ?_) (fun c9 => absurd rfl c9)
  refine lv_iload hx hb dL_law_830 (lv_at hl 1 rfl) ?_
  refine lv_if_ne (tgt := 847) hx hb dL_law_832 (by decide) (fun c0 => ?_) (fun c0 => ?_)
  · refine lv_goto (tgt := 2099) hx hb dL_law_847 (by decide) ?_
    refine W.widen (k := cells + 430) (n := slots + 3900) (by omega) (by omega) ?_
    exact kk _ _ _ _ _ hJ3 hW hS (lv_sub hl [2, 3, 4, 5, 6] rfl)
  · refine lv_aload_n hx hb dL_law_835 rfl (lv_at hl 3 rfl) ?_
    refine lv_iconst (v := 0) hx hb dL_law_836 (by decide) ?_
    refine q_lald hx hb hA hW ho3 (show vp_in (nI 0) 1 from vp_in_nI (by decide) (by decide)) dL_law_837 ?_
    rw [show (0 : Int32).toNatClampNeg = 0 from rfl]
    refine lv_iload hx hb dL_law_838 (lv_at hl 0 rfl) ?_
    refine lv_i2l hx hb dL_law_840 rfl ?_
    refine q_lcmp0 hx hb (heq3 c0) dL_law_841 ?_
    refine lv_if_eq (tgt := 847) hx hb dL_law_842 (by decide) (fun c5 => ?_) (fun c5 => absurd rfl c5)
    refine lv_goto (tgt := 2099) hx hb dL_law_847 (by decide) ?_
    refine W.widen (k := cells + 430) (n := slots + 3900) (by omega) (by omega) ?_
    exact kk _ _ _ _ _ hJ3 hW hS (lv_sub hl [2, 3, 4, 5, 6] rfl)

set_option maxHeartbeats 4000000 in
set_option maxRecDepth 100000 in
theorem law_c18 {p : Program} {l : Launch} {e : Env} {s : State} {m : MethodId} {below : List Frame} {meth : Method} {c : Code} {E : q_E} {b L a : Nat} {xs : Nat → Int32} {Q : State → Prop} (X : LX p l s m c E b L a xs) {i : Nat} (hi : i + 6 ≤ L) {f : q_H} {n BB : Nat} {H : Heap} {locs : List Loc} {ls : Array Slot} {cells slots : Nat} (hB : BB ≤ 2 ^ 29) (hJ : JJ E a BB f n) (hW : q_W E f n H) (hS : va_S (q_ge E) s.heap H locs) (hl : lv_has ls 9 [(4, .int (nI i)), (3, .ref (a + 99)), (2, .ref (a + 55)), (1, .ref a), (0, .ref b)]) (hc : cells + 430 ≤ 601024) (hsl : slots + 3900 ≤ 7293034)
    (kk : ∀ (f1 : q_H) (n1 : Nat) (H1 : Heap) (locs1 : List Loc) (ls1 : Array Slot), JJ E a (BB + 100) f1 n1 → q_W E f1 n1 H1 → va_S (q_ge E) s.heap H1 locs1 → lv_has ls1 9 [(4, .int (nI i)), (3, .ref (a + 99)), (2, .ref (a + 55)), (1, .ref a), (0, .ref b)] → W p l e room_1 s m #[Value.ref b] below meth c H1 locs1 (cells + 430) (slots + 3900) Q (F0 m 2099 ls1 [])) :
    W p l e room_1 s m #[Value.ref b] below meth c H locs cells slots Q (F0 m 850 ls []) := by
  obtain ⟨hx, hb, hml, hown, hts, hX, hbl, hbA, hA, hNc, hst, hL⟩ := X
  obtain ⟨k9, P1, fr, c1, s1, lo, b1, b2, b3, b4, hM1, hM2⟩ := P_boilingAt l E a BB f n hst hB hJ (xs (i + 1))
  refine lv_aload_n hx hb dL_law_850 rfl (lv_at hl 3 rfl) ?_
  refine lv_aload_n hx hb dL_law_851 rfl (lv_at hl 4 rfl) ?_
  refine lv_iload hx hb dL_law_852 (lv_at hl 0 rfl) ?_
  refine lv_iconst (v := 1) hx hb dL_law_854 (by decide) ?_
  refine lv_iadd hx hb dL_law_855 ?_
  rw [show nI i + 1 = nI (i + 1) from by rw [show (1 : Int32) = nI 1 from rfl, nI_add]]
  refine va_sld hx hb hX hbl hbA hS (vp_in_nI (show i + 1 < L by omega) (by omega)) dL_law_856 ?_
  rw [nI_clamp (show i + 1 < 2 ^ 31 by omega)]
  refine lv_aload_n hx hb dL_law_857 rfl (lv_at hl 1 rfl) ?_
  refine q_xi (vx_runSX (As := [.ref a, .int (xs (i + 1)), .ref (a + 99)]) (rest := []) ⟨hx, hb, hml, hown, hts⟩ hM1 (vx_cwSW 3 hts gL_law_L_boilingAt rfl rfl rfl (by decide +kernel) ⟨(by show fr + 1 ≤ 2048; omega), (by show 8 + (4 + 11) + lo ≤ 84000; omega)⟩) (q_pSN hNc hA hW hS) rfl rfl hl.1 rfl (lv_room (Nat.le_of_ble_eq_true rfl)) dL_law_858 ⟨(by show cells + c1 ≤ 601024; omega), (by show slots + s1 ≤ 7293034; omega)⟩) hS (fun C9 ce9 q9 f9 n9 H locs hp hW hS h91 h92 h93 => False.elim hp) (fun r1 f1 n1 H locs hp hW hS => ?_)
  obtain ⟨rfl, hp1⟩ := hp
  obtain ⟨b9, P2, fr2, c2, s2, lo2, e1, e2, e3, e4, hM3, -, ⟨r9, hR9⟩, hM4⟩ := hM2 f1 n1 hp1
  refine lv_istore (lv' := [(5, .int k9), (4, .int (nI i)), (3, .ref (a + 99)), (2, .ref (a + 55)), (1, .ref a), (0, .ref b)]) hx hb dL_law_861 hl (by decide) rfl (fun ls hl => ?_)
  refine lv_aload_n hx hb dL_law_863 rfl (lv_at hl 3 rfl) ?_
  refine lv_aload_n hx hb dL_law_864 rfl (lv_at hl 5 rfl) ?_
  refine lv_iload hx hb dL_law_865 (lv_at hl 1 rfl) ?_
  refine lv_iconst (v := 1) hx hb dL_law_867 (by decide) ?_
  refine lv_iadd hx hb dL_law_868 ?_
  rw [show nI i + 1 = nI (i + 1) from by rw [show (1 : Int32) = nI 1 from rfl, nI_add]]
  refine va_sld hx hb hX hbl hbA hS (vp_in_nI (show i + 1 < L by omega) (by omega)) dL_law_869 ?_
  rw [nI_clamp (show i + 1 < 2 ^ 31 by omega)]
  refine q_ci (va_runV (As := [.int (xs (i + 1))]) (rest := []) ⟨hx, hb, hml, hown, hts⟩ hM3 (cwV 1 hts gL_law_X14_boilingAt rfl rfl rfl (by decide +kernel) ⟨(by show fr2 + 1 ≤ 2048; omega), (by show 8 + (2 + 11) + lo2 ≤ 84000; omega)⟩) (q_pV hA hW hS (ci := 12) rfl (show f1 (a + 55) = some (cMod (a + 55) r9) from hR9 0 (by decide))) rfl rfl hl.1 rfl (lv_room (Nat.le_of_ble_eq_true rfl)) dL_law_870 ⟨(by show cells + c1 + c2 ≤ 601024; omega), (by show slots + s1 + s2 ≤ 7293034; omega)⟩) hS (fun r2 f2 n2 H locs hp hW hS => ?_)
  obtain ⟨rfl, hp2⟩ := hp
  obtain ⟨r3, og3, hR3, hk3, ho3, heq3, hJ3⟩ := hM4 f2 n2 hp2
  refine lv_istore (lv' := [(6, .int b9), (5, .int k9), (4, .int (nI i)), (3, .ref (a + 99)), (2, .ref (a + 55)), (1, .ref a), (0, .ref b)]) hx hb dL_law_873 hl (by decide) rfl (fun ls hl => ?_)
  refine lv_aload_n hx hb dL_law_875 rfl (lv_at hl 4 rfl) ?_
  refine q_ci (va_runV (As := []) (rest := []) ⟨hx, hb, hml, hown, hts⟩ (kX14_thrown l E f2 n2 (a + 55) r3 hR3) (cwV 0 hts gL_law_X14_thrown rfl rfl rfl (by decide +kernel) ⟨(Nat.le_of_ble_eq_true rfl), (Nat.le_of_ble_eq_true rfl)⟩) (q_pV hA hW hS (ci := 12) rfl (show f2 (a + 55) = some (cMod (a + 55) r3) from hR3 0 (by decide))) rfl rfl hl.1 rfl (lv_room (Nat.le_of_ble_eq_true rfl)) dL_law_876 ⟨(by show cells + c1 + c2 + 0 ≤ 601024; omega), (by show slots + s1 + s2 + 0 ≤ 7293034; omega)⟩) hS (fun r4 f4 n4 H locs hp hW hS => ?_)
  obtain ⟨rfl, rfl, rfl⟩ := hp
  rw [hk3]
  refine lv_iload hx hb dL_law_879 (lv_at hl 1 rfl) ?_
  refine lv_icmp_eq (tgt := 886) hx hb dL_law_881 (by decide) (fun c9 => ?_) (fun c9 => absurd rfl c9)
  refine lv_iload hx hb dL_law_886 (lv_at hl 1 rfl) ?_
  refine lv_if_ne (tgt := 903) hx hb dL_law_888 (by decide) (fun c0 => ?_) (fun c0 => ?_)
  · refine lv_goto (tgt := 2099) hx hb dL_law_903 (by decide) ?_
    refine W.widen (k := cells + 430) (n := slots + 3900) (by omega) (by omega) ?_
    exact kk _ _ _ _ _ hJ3 hW hS (lv_sub hl [2, 3, 4, 5, 6] rfl)
  · refine lv_aload_n hx hb dL_law_891 rfl (lv_at hl 3 rfl) ?_
    refine lv_iconst (v := 0) hx hb dL_law_892 (by decide) ?_
    refine q_lald hx hb hA hW ho3 (show vp_in (nI 0) 1 from vp_in_nI (by decide) (by decide)) dL_law_893 ?_
    rw [show (0 : Int32).toNatClampNeg = 0 from rfl]
    refine lv_iload hx hb dL_law_894 (lv_at hl 0 rfl) ?_
    refine lv_i2l hx hb dL_law_896 rfl ?_
    refine q_lcmp0 hx hb (heq3 c0) dL_law_897 ?_
    refine lv_if_eq (tgt := 903) hx hb dL_law_898 (by decide) (fun c5 => ?_) (fun c5 => absurd rfl c5)
    refine lv_goto (tgt := 2099) hx hb dL_law_903 (by decide) ?_
    refine W.widen (k := cells + 430) (n := slots + 3900) (by omega) (by omega) ?_
    exact kk _ _ _ _ _ hJ3 hW hS (lv_sub hl [2, 3, 4, 5, 6] rfl)

set_option maxHeartbeats 4000000 in
set_option maxRecDepth 100000 in
theorem law_c19 {p : Program} {l : Launch} {e : Env} {s : State} {m : MethodId} {below : List Frame} {meth : Method} {c : Code} {E : q_E} {b L a : Nat} {xs : Nat → Int32} {Q : State → Prop} (X : LX p l s m c E b L a xs) {i : Nat} (hi : i + 6 ≤ L) {f : q_H} {n BB : Nat} {H : Heap} {locs : List Loc} {ls : Array Slot} {cells slots : Nat} (hB : BB ≤ 2 ^ 29) (hJ : JJ E a BB f n) (hW : q_W E f n H) (hS : va_S (q_ge E) s.heap H locs) (hl : lv_has ls 9 [(4, .int (nI i)), (3, .ref (a + 99)), (2, .ref (a + 55)), (1, .ref a), (0, .ref b)]) (hc : cells + 430 ≤ 601024) (hsl : slots + 3900 ≤ 7293034)
    (kk : ∀ (f1 : q_H) (n1 : Nat) (H1 : Heap) (locs1 : List Loc) (ls1 : Array Slot), JJ E a (BB + 100) f1 n1 → q_W E f1 n1 H1 → va_S (q_ge E) s.heap H1 locs1 → lv_has ls1 9 [(4, .int (nI i)), (3, .ref (a + 99)), (2, .ref (a + 55)), (1, .ref a), (0, .ref b)] → W p l e room_1 s m #[Value.ref b] below meth c H1 locs1 (cells + 430) (slots + 3900) Q (F0 m 2099 ls1 [])) :
    W p l e room_1 s m #[Value.ref b] below meth c H locs cells slots Q (F0 m 906 ls []) := by
  obtain ⟨hx, hb, hml, hown, hts, hX, hbl, hbA, hA, hNc, hst, hL⟩ := X
  obtain ⟨k9, P1, fr, c1, s1, lo, b1, b2, b3, b4, hM1, hM2⟩ := P_minutesAt l E a BB f n hst hB hJ (xs (i + 1)) (xs (i + 2))
  refine lv_aload_n hx hb dL_law_906 rfl (lv_at hl 3 rfl) ?_
  refine lv_aload_n hx hb dL_law_907 rfl (lv_at hl 4 rfl) ?_
  refine lv_iload hx hb dL_law_908 (lv_at hl 0 rfl) ?_
  refine lv_iconst (v := 1) hx hb dL_law_910 (by decide) ?_
  refine lv_iadd hx hb dL_law_911 ?_
  rw [show nI i + 1 = nI (i + 1) from by rw [show (1 : Int32) = nI 1 from rfl, nI_add]]
  refine va_sld hx hb hX hbl hbA hS (vp_in_nI (show i + 1 < L by omega) (by omega)) dL_law_912 ?_
  rw [nI_clamp (show i + 1 < 2 ^ 31 by omega)]
  refine lv_aload_n hx hb dL_law_913 rfl (lv_at hl 4 rfl) ?_
  refine lv_iload hx hb dL_law_914 (lv_at hl 0 rfl) ?_
  refine lv_iconst (v := 2) hx hb dL_law_916 (by decide) ?_
  refine lv_iadd hx hb dL_law_917 ?_
  rw [show nI i + 2 = nI (i + 2) from by rw [show (2 : Int32) = nI 2 from rfl, nI_add]]
  refine va_sld hx hb hX hbl hbA hS (vp_in_nI (show i + 2 < L by omega) (by omega)) dL_law_918 ?_
  rw [nI_clamp (show i + 2 < 2 ^ 31 by omega)]
  refine lv_aload_n hx hb dL_law_919 rfl (lv_at hl 1 rfl) ?_
  refine q_xi (vx_runSX (As := [.ref a, .int (xs (i + 1)), .int (xs (i + 2)), .ref (a + 99)]) (rest := []) ⟨hx, hb, hml, hown, hts⟩ hM1 (vx_cwSW 4 hts gL_law_L_minutesAt rfl rfl rfl (by decide +kernel) ⟨(by show fr + 1 ≤ 2048; omega), (by show 8 + (5 + 11) + lo ≤ 84000; omega)⟩) (q_pSN hNc hA hW hS) rfl rfl hl.1 rfl (lv_room (Nat.le_of_ble_eq_true rfl)) dL_law_920 ⟨(by show cells + c1 ≤ 601024; omega), (by show slots + s1 ≤ 7293034; omega)⟩) hS (fun C9 ce9 q9 f9 n9 H locs hp hW hS h91 h92 h93 => False.elim hp) (fun r1 f1 n1 H locs hp hW hS => ?_)
  obtain ⟨rfl, hp1⟩ := hp
  obtain ⟨b9, P2, fr2, c2, s2, lo2, e1, e2, e3, e4, hM3, -, ⟨r9, hR9⟩, hM4⟩ := hM2 f1 n1 hp1
  refine lv_istore (lv' := [(5, .int k9), (4, .int (nI i)), (3, .ref (a + 99)), (2, .ref (a + 55)), (1, .ref a), (0, .ref b)]) hx hb dL_law_923 hl (by decide) rfl (fun ls hl => ?_)
  refine lv_aload_n hx hb dL_law_925 rfl (lv_at hl 3 rfl) ?_
  refine lv_aload_n hx hb dL_law_926 rfl (lv_at hl 5 rfl) ?_
  refine lv_iload hx hb dL_law_927 (lv_at hl 1 rfl) ?_
  refine lv_iconst (v := 1) hx hb dL_law_929 (by decide) ?_
  refine lv_iadd hx hb dL_law_930 ?_
  rw [show nI i + 1 = nI (i + 1) from by rw [show (1 : Int32) = nI 1 from rfl, nI_add]]
  refine va_sld hx hb hX hbl hbA hS (vp_in_nI (show i + 1 < L by omega) (by omega)) dL_law_931 ?_
  rw [nI_clamp (show i + 1 < 2 ^ 31 by omega)]
  refine lv_aload_n hx hb dL_law_932 rfl (lv_at hl 5 rfl) ?_
  refine lv_iload hx hb dL_law_933 (lv_at hl 1 rfl) ?_
  refine lv_iconst (v := 2) hx hb dL_law_935 (by decide) ?_
  refine lv_iadd hx hb dL_law_936 ?_
  rw [show nI i + 2 = nI (i + 2) from by rw [show (2 : Int32) = nI 2 from rfl, nI_add]]
  refine va_sld hx hb hX hbl hbA hS (vp_in_nI (show i + 2 < L by omega) (by omega)) dL_law_937 ?_
  rw [nI_clamp (show i + 2 < 2 ^ 31 by omega)]
  refine q_ci (va_runV (As := [.int (xs (i + 1)), .int (xs (i + 2))]) (rest := []) ⟨hx, hb, hml, hown, hts⟩ hM3 (cwV 2 hts gL_law_X14_minutesAt rfl rfl rfl (by decide +kernel) ⟨(by show fr2 + 1 ≤ 2048; omega), (by show 8 + (3 + 11) + lo2 ≤ 84000; omega)⟩) (q_pV hA hW hS (ci := 12) rfl (show f1 (a + 55) = some (cMod (a + 55) r9) from hR9 0 (by decide))) rfl rfl hl.1 rfl (lv_room (Nat.le_of_ble_eq_true rfl)) dL_law_938 ⟨(by show cells + c1 + c2 ≤ 601024; omega), (by show slots + s1 + s2 ≤ 7293034; omega)⟩) hS (fun r2 f2 n2 H locs hp hW hS => ?_)
  obtain ⟨rfl, hp2⟩ := hp
  obtain ⟨r3, og3, hR3, hk3, ho3, heq3, hJ3⟩ := hM4 f2 n2 hp2
  refine lv_istore (lv' := [(6, .int b9), (5, .int k9), (4, .int (nI i)), (3, .ref (a + 99)), (2, .ref (a + 55)), (1, .ref a), (0, .ref b)]) hx hb dL_law_941 hl (by decide) rfl (fun ls hl => ?_)
  refine lv_aload_n hx hb dL_law_943 rfl (lv_at hl 4 rfl) ?_
  refine q_ci (va_runV (As := []) (rest := []) ⟨hx, hb, hml, hown, hts⟩ (kX14_thrown l E f2 n2 (a + 55) r3 hR3) (cwV 0 hts gL_law_X14_thrown rfl rfl rfl (by decide +kernel) ⟨(Nat.le_of_ble_eq_true rfl), (Nat.le_of_ble_eq_true rfl)⟩) (q_pV hA hW hS (ci := 12) rfl (show f2 (a + 55) = some (cMod (a + 55) r3) from hR3 0 (by decide))) rfl rfl hl.1 rfl (lv_room (Nat.le_of_ble_eq_true rfl)) dL_law_944 ⟨(by show cells + c1 + c2 + 0 ≤ 601024; omega), (by show slots + s1 + s2 + 0 ≤ 7293034; omega)⟩) hS (fun r4 f4 n4 H locs hp hW hS => ?_)
  obtain ⟨rfl, rfl, rfl⟩ := hp
  rw [hk3]
  refine lv_iload hx hb dL_law_947 (lv_at hl 1 rfl) ?_
  refine lv_icmp_eq (tgt := 954) hx hb dL_law_949 (by decide) (fun c9 => ?_) (fun c9 => absurd rfl c9)
  refine lv_iload hx hb dL_law_954 (lv_at hl 1 rfl) ?_
  refine lv_if_ne (tgt := 971) hx hb dL_law_956 (by decide) (fun c0 => ?_) (fun c0 => ?_)
  · refine lv_goto (tgt := 2099) hx hb dL_law_971 (by decide) ?_
    refine W.widen (k := cells + 430) (n := slots + 3900) (by omega) (by omega) ?_
    exact kk _ _ _ _ _ hJ3 hW hS (lv_sub hl [2, 3, 4, 5, 6] rfl)
  · refine lv_aload_n hx hb dL_law_959 rfl (lv_at hl 3 rfl) ?_
    refine lv_iconst (v := 0) hx hb dL_law_960 (by decide) ?_
    refine q_lald hx hb hA hW ho3 (show vp_in (nI 0) 1 from vp_in_nI (by decide) (by decide)) dL_law_961 ?_
    rw [show (0 : Int32).toNatClampNeg = 0 from rfl]
    refine lv_iload hx hb dL_law_962 (lv_at hl 0 rfl) ?_
    refine lv_i2l hx hb dL_law_964 rfl ?_
    refine q_lcmp0 hx hb (heq3 c0) dL_law_965 ?_
    refine lv_if_eq (tgt := 971) hx hb dL_law_966 (by decide) (fun c5 => ?_) (fun c5 => absurd rfl c5)
    refine lv_goto (tgt := 2099) hx hb dL_law_971 (by decide) ?_
    refine W.widen (k := cells + 430) (n := slots + 3900) (by omega) (by omega) ?_
    exact kk _ _ _ _ _ hJ3 hW hS (lv_sub hl [2, 3, 4, 5, 6] rfl)

set_option maxHeartbeats 4000000 in
set_option maxRecDepth 100000 in
theorem law_c20 {p : Program} {l : Launch} {e : Env} {s : State} {m : MethodId} {below : List Frame} {meth : Method} {c : Code} {E : q_E} {b L a : Nat} {xs : Nat → Int32} {Q : State → Prop} (X : LX p l s m c E b L a xs) {i : Nat} (hi : i + 6 ≤ L) {f : q_H} {n BB : Nat} {H : Heap} {locs : List Loc} {ls : Array Slot} {cells slots : Nat} (hB : BB ≤ 2 ^ 29) (hJ : JJ E a BB f n) (hW : q_W E f n H) (hS : va_S (q_ge E) s.heap H locs) (hl : lv_has ls 9 [(4, .int (nI i)), (3, .ref (a + 99)), (2, .ref (a + 55)), (1, .ref a), (0, .ref b)]) (hc : cells + 430 ≤ 601024) (hsl : slots + 3900 ≤ 7293034)
    (kk : ∀ (f1 : q_H) (n1 : Nat) (H1 : Heap) (locs1 : List Loc) (ls1 : Array Slot), JJ E a (BB + 100) f1 n1 → q_W E f1 n1 H1 → va_S (q_ge E) s.heap H1 locs1 → lv_has ls1 9 [(4, .int (nI i)), (3, .ref (a + 99)), (2, .ref (a + 55)), (1, .ref a), (0, .ref b)] → W p l e room_1 s m #[Value.ref b] below meth c H1 locs1 (cells + 430) (slots + 3900) Q (F0 m 2099 ls1 [])) :
    W p l e room_1 s m #[Value.ref b] below meth c H locs cells slots Q (F0 m 974 ls []) := by
  obtain ⟨hx, hb, hml, hown, hts, hX, hbl, hbA, hA, hNc, hst, hL⟩ := X
  obtain ⟨k9, P1, fr, c1, s1, lo, b1, b2, b3, b4, hM1, hM2⟩ := P_amountFor l E a BB f n hst hB hJ (xs (i + 1))
  refine lv_aload_n hx hb dL_law_974 rfl (lv_at hl 3 rfl) ?_
  refine lv_aload_n hx hb dL_law_975 rfl (lv_at hl 4 rfl) ?_
  refine lv_iload hx hb dL_law_976 (lv_at hl 0 rfl) ?_
  refine lv_iconst (v := 1) hx hb dL_law_978 (by decide) ?_
  refine lv_iadd hx hb dL_law_979 ?_
  rw [show nI i + 1 = nI (i + 1) from by rw [show (1 : Int32) = nI 1 from rfl, nI_add]]
  refine va_sld hx hb hX hbl hbA hS (vp_in_nI (show i + 1 < L by omega) (by omega)) dL_law_980 ?_
  rw [nI_clamp (show i + 1 < 2 ^ 31 by omega)]
  refine lv_aload_n hx hb dL_law_981 rfl (lv_at hl 1 rfl) ?_
  refine q_xi (vx_runSX (As := [.ref a, .int (xs (i + 1)), .ref (a + 99)]) (rest := []) ⟨hx, hb, hml, hown, hts⟩ hM1 (vx_cwSW 3 hts gL_law_L_amountFor rfl rfl rfl (by decide +kernel) ⟨(by show fr + 1 ≤ 2048; omega), (by show 8 + (4 + 11) + lo ≤ 84000; omega)⟩) (q_pSN hNc hA hW hS) rfl rfl hl.1 rfl (lv_room (Nat.le_of_ble_eq_true rfl)) dL_law_982 ⟨(by show cells + c1 ≤ 601024; omega), (by show slots + s1 ≤ 7293034; omega)⟩) hS (fun C9 ce9 q9 f9 n9 H locs hp hW hS h91 h92 h93 => False.elim hp) (fun r1 f1 n1 H locs hp hW hS => ?_)
  obtain ⟨rfl, hp1⟩ := hp
  obtain ⟨b9, P2, fr2, c2, s2, lo2, e1, e2, e3, e4, hM3, -, ⟨r9, hR9⟩, hM4⟩ := hM2 f1 n1 hp1
  refine lv_istore (lv' := [(5, .int k9), (4, .int (nI i)), (3, .ref (a + 99)), (2, .ref (a + 55)), (1, .ref a), (0, .ref b)]) hx hb dL_law_985 hl (by decide) rfl (fun ls hl => ?_)
  refine lv_aload_n hx hb dL_law_987 rfl (lv_at hl 3 rfl) ?_
  refine lv_aload_n hx hb dL_law_988 rfl (lv_at hl 5 rfl) ?_
  refine lv_iload hx hb dL_law_989 (lv_at hl 1 rfl) ?_
  refine lv_iconst (v := 1) hx hb dL_law_991 (by decide) ?_
  refine lv_iadd hx hb dL_law_992 ?_
  rw [show nI i + 1 = nI (i + 1) from by rw [show (1 : Int32) = nI 1 from rfl, nI_add]]
  refine va_sld hx hb hX hbl hbA hS (vp_in_nI (show i + 1 < L by omega) (by omega)) dL_law_993 ?_
  rw [nI_clamp (show i + 1 < 2 ^ 31 by omega)]
  refine q_ci (va_runV (As := [.int (xs (i + 1))]) (rest := []) ⟨hx, hb, hml, hown, hts⟩ hM3 (cwV 1 hts gL_law_X14_amountFor rfl rfl rfl (by decide +kernel) ⟨(by show fr2 + 1 ≤ 2048; omega), (by show 8 + (2 + 11) + lo2 ≤ 84000; omega)⟩) (q_pV hA hW hS (ci := 12) rfl (show f1 (a + 55) = some (cMod (a + 55) r9) from hR9 0 (by decide))) rfl rfl hl.1 rfl (lv_room (Nat.le_of_ble_eq_true rfl)) dL_law_994 ⟨(by show cells + c1 + c2 ≤ 601024; omega), (by show slots + s1 + s2 ≤ 7293034; omega)⟩) hS (fun r2 f2 n2 H locs hp hW hS => ?_)
  obtain ⟨rfl, hp2⟩ := hp
  obtain ⟨r3, og3, hR3, hk3, ho3, heq3, hJ3⟩ := hM4 f2 n2 hp2
  refine lv_istore (lv' := [(6, .int b9), (5, .int k9), (4, .int (nI i)), (3, .ref (a + 99)), (2, .ref (a + 55)), (1, .ref a), (0, .ref b)]) hx hb dL_law_997 hl (by decide) rfl (fun ls hl => ?_)
  refine lv_aload_n hx hb dL_law_999 rfl (lv_at hl 4 rfl) ?_
  refine q_ci (va_runV (As := []) (rest := []) ⟨hx, hb, hml, hown, hts⟩ (kX14_thrown l E f2 n2 (a + 55) r3 hR3) (cwV 0 hts gL_law_X14_thrown rfl rfl rfl (by decide +kernel) ⟨(Nat.le_of_ble_eq_true rfl), (Nat.le_of_ble_eq_true rfl)⟩) (q_pV hA hW hS (ci := 12) rfl (show f2 (a + 55) = some (cMod (a + 55) r3) from hR3 0 (by decide))) rfl rfl hl.1 rfl (lv_room (Nat.le_of_ble_eq_true rfl)) dL_law_1000 ⟨(by show cells + c1 + c2 + 0 ≤ 601024; omega), (by show slots + s1 + s2 + 0 ≤ 7293034; omega)⟩) hS (fun r4 f4 n4 H locs hp hW hS => ?_)
  obtain ⟨rfl, rfl, rfl⟩ := hp
  rw [hk3]
  refine lv_iload hx hb dL_law_1003 (lv_at hl 1 rfl) ?_
  refine lv_icmp_eq (tgt := 1010) hx hb dL_law_1005 (by decide) (fun c9 => ?_) (fun c9 => absurd rfl c9)
  refine lv_iload hx hb dL_law_1010 (lv_at hl 1 rfl) ?_
  refine lv_if_ne (tgt := 1027) hx hb dL_law_1012 (by decide) (fun c0 => ?_) (fun c0 => ?_)
  · refine lv_goto (tgt := 2099) hx hb dL_law_1027 (by decide) ?_
    refine W.widen (k := cells + 430) (n := slots + 3900) (by omega) (by omega) ?_
    exact kk _ _ _ _ _ hJ3 hW hS (lv_sub hl [2, 3, 4, 5, 6] rfl)
  · refine lv_aload_n hx hb dL_law_1015 rfl (lv_at hl 3 rfl) ?_
    refine lv_iconst (v := 0) hx hb dL_law_1016 (by decide) ?_
    refine q_lald hx hb hA hW ho3 (show vp_in (nI 0) 1 from vp_in_nI (by decide) (by decide)) dL_law_1017 ?_
    rw [show (0 : Int32).toNatClampNeg = 0 from rfl]
    refine lv_iload hx hb dL_law_1018 (lv_at hl 0 rfl) ?_
    refine lv_i2l hx hb dL_law_1020 rfl ?_
    refine q_lcmp0 hx hb (heq3 c0) dL_law_1021 ?_
    refine lv_if_eq (tgt := 1027) hx hb dL_law_1022 (by decide) (fun c5 => ?_) (fun c5 => absurd rfl c5)
    refine lv_goto (tgt := 2099) hx hb dL_law_1027 (by decide) ?_
    refine W.widen (k := cells + 430) (n := slots + 3900) (by omega) (by omega) ?_
    exact kk _ _ _ _ _ hJ3 hW hS (lv_sub hl [2, 3, 4, 5, 6] rfl)

set_option maxHeartbeats 4000000 in
set_option maxRecDepth 100000 in
theorem law_c21 {p : Program} {l : Launch} {e : Env} {s : State} {m : MethodId} {below : List Frame} {meth : Method} {c : Code} {E : q_E} {b L a : Nat} {xs : Nat → Int32} {Q : State → Prop} (X : LX p l s m c E b L a xs) {i : Nat} (hi : i + 6 ≤ L) {f : q_H} {n BB : Nat} {H : Heap} {locs : List Loc} {ls : Array Slot} {cells slots : Nat} (hB : BB ≤ 2 ^ 29) (hJ : JJ E a BB f n) (hW : q_W E f n H) (hS : va_S (q_ge E) s.heap H locs) (hl : lv_has ls 9 [(4, .int (nI i)), (3, .ref (a + 99)), (2, .ref (a + 55)), (1, .ref a), (0, .ref b)]) (hc : cells + 430 ≤ 601024) (hsl : slots + 3900 ≤ 7293034)
    (kk : ∀ (f1 : q_H) (n1 : Nat) (H1 : Heap) (locs1 : List Loc) (ls1 : Array Slot), JJ E a (BB + 100) f1 n1 → q_W E f1 n1 H1 → va_S (q_ge E) s.heap H1 locs1 → lv_has ls1 9 [(4, .int (nI i)), (3, .ref (a + 99)), (2, .ref (a + 55)), (1, .ref a), (0, .ref b)] → W p l e room_1 s m #[Value.ref b] below meth c H1 locs1 (cells + 430) (slots + 3900) Q (F0 m 2099 ls1 [])) :
    W p l e room_1 s m #[Value.ref b] below meth c H locs cells slots Q (F0 m 1030 ls []) := by
  obtain ⟨hx, hb, hml, hown, hts, hX, hbl, hbA, hA, hNc, hst, hL⟩ := X
  obtain ⟨R9, P1, fr, c1, s1, lo, b1, b2, b3, b4, hM1, hM2⟩ := P_warnings l E a BB f n hB hJ
  obtain ⟨z1, z2, z3, z4, z5, z6, ep9, hcl⟩ := hJ.cls
  refine lv_aload_n hx hb dL_law_1030 rfl (lv_at hl 3 rfl) ?_
  refine q_ci (va_runV (As := []) (rest := []) ⟨hx, hb, hml, hown, hts⟩ hM1 (cwV 0 hts gL_law_X12_warnings rfl rfl rfl (by decide +kernel) ⟨(by show fr + 1 ≤ 2048; omega), (by show 8 + (1 + 11) + lo ≤ 84000; omega)⟩) (q_pV hA hW hS (ci := 10) rfl hcl) rfl rfl hl.1 rfl (lv_room (Nat.le_of_ble_eq_true rfl)) dL_law_1031 ⟨(by show cells + c1 ≤ 601024; omega), (by show slots + s1 ≤ 7293034; omega)⟩) hS (fun r1 f1 n1 H locs hp hW hS => ?_)
  obtain ⟨rfl, hp1⟩ := hp
  obtain ⟨b9, P2, fr2, c2, s2, lo2, e1, e2, e3, e4, hM3, heq, ⟨r9, hR9⟩, hM4⟩ := hM2 f1 n1 hp1
  refine lv_aload_n hx hb dL_law_1034 rfl (lv_at hl 2 rfl) ?_
  refine q_ci (va_runV (As := []) (rest := [.int R9]) ⟨hx, hb, hml, hown, hts⟩ hM3 (cwV 0 hts gL_law_X14_warnings rfl rfl rfl (by decide +kernel) ⟨(by show fr2 + 1 ≤ 2048; omega), (by show 8 + (1 + 11) + lo2 ≤ 84000; omega)⟩) (q_pV hA hW hS (ci := 12) rfl (show f1 (a + 55) = some (cMod (a + 55) r9) from hR9 0 (by decide))) rfl rfl hl.1 rfl (lv_room (Nat.le_of_ble_eq_true rfl)) dL_law_1035 ⟨(by show cells + c1 + c2 ≤ 601024; omega), (by show slots + s1 + s2 ≤ 7293034; omega)⟩) hS (fun r2 f2 n2 H locs hp hW hS => ?_)
  obtain ⟨rfl, hp2⟩ := hp
  have hJ3 := hM4 f2 n2 hp2
  refine lv_icmp_eq (tgt := 2099) hx hb dL_law_1038 (by decide) (fun c9 => ?_) (fun c9 => absurd heq c9)
  refine W.widen (k := cells + 430) (n := slots + 3900) (by omega) (by omega) ?_
  exact kk _ _ _ _ _ hJ3 hW hS (lv_sub hl [0, 1, 2, 3, 4] rfl)

set_option maxHeartbeats 4000000 in
set_option maxRecDepth 100000 in
theorem law_c22 {p : Program} {l : Launch} {e : Env} {s : State} {m : MethodId} {below : List Frame} {meth : Method} {c : Code} {E : q_E} {b L a : Nat} {xs : Nat → Int32} {Q : State → Prop} (X : LX p l s m c E b L a xs) {i : Nat} (hi : i + 6 ≤ L) {f : q_H} {n BB : Nat} {H : Heap} {locs : List Loc} {ls : Array Slot} {cells slots : Nat} (hB : BB ≤ 2 ^ 29) (hJ : JJ E a BB f n) (hW : q_W E f n H) (hS : va_S (q_ge E) s.heap H locs) (hl : lv_has ls 9 [(4, .int (nI i)), (3, .ref (a + 99)), (2, .ref (a + 55)), (1, .ref a), (0, .ref b)]) (hc : cells + 430 ≤ 601024) (hsl : slots + 3900 ≤ 7293034)
    (kk : ∀ (f1 : q_H) (n1 : Nat) (H1 : Heap) (locs1 : List Loc) (ls1 : Array Slot), JJ E a (BB + 100) f1 n1 → q_W E f1 n1 H1 → va_S (q_ge E) s.heap H1 locs1 → lv_has ls1 9 [(4, .int (nI i)), (3, .ref (a + 99)), (2, .ref (a + 55)), (1, .ref a), (0, .ref b)] → W p l e room_1 s m #[Value.ref b] below meth c H1 locs1 (cells + 430) (slots + 3900) Q (F0 m 2099 ls1 [])) :
    W p l e room_1 s m #[Value.ref b] below meth c H locs cells slots Q (F0 m 1043 ls []) := by
  obtain ⟨hx, hb, hml, hown, hts, hX, hbl, hbA, hA, hNc, hst, hL⟩ := X
  obtain ⟨k9, P1, fr, c1, s1, lo, b1, b2, b3, b4, hM1, hM2⟩ := P_warningsOf l E a BB f n hst hB hJ (xs (i + 1))
  refine lv_aload_n hx hb dL_law_1043 rfl (lv_at hl 3 rfl) ?_
  refine lv_aload_n hx hb dL_law_1044 rfl (lv_at hl 4 rfl) ?_
  refine lv_iload hx hb dL_law_1045 (lv_at hl 0 rfl) ?_
  refine lv_iconst (v := 1) hx hb dL_law_1047 (by decide) ?_
  refine lv_iadd hx hb dL_law_1048 ?_
  rw [show nI i + 1 = nI (i + 1) from by rw [show (1 : Int32) = nI 1 from rfl, nI_add]]
  refine va_sld hx hb hX hbl hbA hS (vp_in_nI (show i + 1 < L by omega) (by omega)) dL_law_1049 ?_
  rw [nI_clamp (show i + 1 < 2 ^ 31 by omega)]
  refine lv_aload_n hx hb dL_law_1050 rfl (lv_at hl 1 rfl) ?_
  refine q_xi (vx_runSX (As := [.ref a, .int (xs (i + 1)), .ref (a + 99)]) (rest := []) ⟨hx, hb, hml, hown, hts⟩ hM1 (vx_cwSW 3 hts gL_law_L_warningsOf rfl rfl rfl (by decide +kernel) ⟨(by show fr + 1 ≤ 2048; omega), (by show 8 + (4 + 11) + lo ≤ 84000; omega)⟩) (q_pSN hNc hA hW hS) rfl rfl hl.1 rfl (lv_room (Nat.le_of_ble_eq_true rfl)) dL_law_1051 ⟨(by show cells + c1 ≤ 601024; omega), (by show slots + s1 ≤ 7293034; omega)⟩) hS (fun C9 ce9 q9 f9 n9 H locs hp hW hS h91 h92 h93 => False.elim hp) (fun r1 f1 n1 H locs hp hW hS => ?_)
  obtain ⟨rfl, hp1⟩ := hp
  obtain ⟨b9, P2, fr2, c2, s2, lo2, e1, e2, e3, e4, hM3, -, ⟨r9, hR9⟩, hM4⟩ := hM2 f1 n1 hp1
  refine lv_istore (lv' := [(5, .int k9), (4, .int (nI i)), (3, .ref (a + 99)), (2, .ref (a + 55)), (1, .ref a), (0, .ref b)]) hx hb dL_law_1054 hl (by decide) rfl (fun ls hl => ?_)
  refine lv_aload_n hx hb dL_law_1056 rfl (lv_at hl 3 rfl) ?_
  refine lv_aload_n hx hb dL_law_1057 rfl (lv_at hl 5 rfl) ?_
  refine lv_iload hx hb dL_law_1058 (lv_at hl 1 rfl) ?_
  refine lv_iconst (v := 1) hx hb dL_law_1060 (by decide) ?_
  refine lv_iadd hx hb dL_law_1061 ?_
  rw [show nI i + 1 = nI (i + 1) from by rw [show (1 : Int32) = nI 1 from rfl, nI_add]]
  refine va_sld hx hb hX hbl hbA hS (vp_in_nI (show i + 1 < L by omega) (by omega)) dL_law_1062 ?_
  rw [nI_clamp (show i + 1 < 2 ^ 31 by omega)]
  refine q_ci (va_runV (As := [.int (xs (i + 1))]) (rest := []) ⟨hx, hb, hml, hown, hts⟩ hM3 (cwV 1 hts gL_law_X14_warningsOf rfl rfl rfl (by decide +kernel) ⟨(by show fr2 + 1 ≤ 2048; omega), (by show 8 + (2 + 11) + lo2 ≤ 84000; omega)⟩) (q_pV hA hW hS (ci := 12) rfl (show f1 (a + 55) = some (cMod (a + 55) r9) from hR9 0 (by decide))) rfl rfl hl.1 rfl (lv_room (Nat.le_of_ble_eq_true rfl)) dL_law_1063 ⟨(by show cells + c1 + c2 ≤ 601024; omega), (by show slots + s1 + s2 ≤ 7293034; omega)⟩) hS (fun r2 f2 n2 H locs hp hW hS => ?_)
  obtain ⟨rfl, hp2⟩ := hp
  obtain ⟨r3, og3, hR3, hk3, ho3, heq3, hJ3⟩ := hM4 f2 n2 hp2
  refine lv_istore (lv' := [(6, .int b9), (5, .int k9), (4, .int (nI i)), (3, .ref (a + 99)), (2, .ref (a + 55)), (1, .ref a), (0, .ref b)]) hx hb dL_law_1066 hl (by decide) rfl (fun ls hl => ?_)
  refine lv_aload_n hx hb dL_law_1068 rfl (lv_at hl 4 rfl) ?_
  refine q_ci (va_runV (As := []) (rest := []) ⟨hx, hb, hml, hown, hts⟩ (kX14_thrown l E f2 n2 (a + 55) r3 hR3) (cwV 0 hts gL_law_X14_thrown rfl rfl rfl (by decide +kernel) ⟨(Nat.le_of_ble_eq_true rfl), (Nat.le_of_ble_eq_true rfl)⟩) (q_pV hA hW hS (ci := 12) rfl (show f2 (a + 55) = some (cMod (a + 55) r3) from hR3 0 (by decide))) rfl rfl hl.1 rfl (lv_room (Nat.le_of_ble_eq_true rfl)) dL_law_1069 ⟨(by show cells + c1 + c2 + 0 ≤ 601024; omega), (by show slots + s1 + s2 + 0 ≤ 7293034; omega)⟩) hS (fun r4 f4 n4 H locs hp hW hS => ?_)
  obtain ⟨rfl, rfl, rfl⟩ := hp
  rw [hk3]
  refine lv_iload hx hb dL_law_1072 (lv_at hl 1 rfl) ?_
  refine lv_icmp_eq (tgt := 1079) hx hb dL_law_1074 (by decide) (fun c9 => ?_) (fun c9 => absurd rfl c9)
  refine lv_iload hx hb dL_law_1079 (lv_at hl 1 rfl) ?_
  refine lv_if_ne (tgt := 1096) hx hb dL_law_1081 (by decide) (fun c0 => ?_) (fun c0 => ?_)
  · refine lv_goto (tgt := 2099) hx hb dL_law_1096 (by decide) ?_
    refine W.widen (k := cells + 430) (n := slots + 3900) (by omega) (by omega) ?_
    exact kk _ _ _ _ _ hJ3 hW hS (lv_sub hl [2, 3, 4, 5, 6] rfl)
  · refine lv_aload_n hx hb dL_law_1084 rfl (lv_at hl 3 rfl) ?_
    refine lv_iconst (v := 0) hx hb dL_law_1085 (by decide) ?_
    refine q_lald hx hb hA hW ho3 (show vp_in (nI 0) 1 from vp_in_nI (by decide) (by decide)) dL_law_1086 ?_
    rw [show (0 : Int32).toNatClampNeg = 0 from rfl]
    refine lv_iload hx hb dL_law_1087 (lv_at hl 0 rfl) ?_
    refine lv_i2l hx hb dL_law_1089 rfl ?_
    refine q_lcmp0 hx hb (heq3 c0) dL_law_1090 ?_
    refine lv_if_eq (tgt := 1096) hx hb dL_law_1091 (by decide) (fun c5 => ?_) (fun c5 => absurd rfl c5)
    refine lv_goto (tgt := 2099) hx hb dL_law_1096 (by decide) ?_
    refine W.widen (k := cells + 430) (n := slots + 3900) (by omega) (by omega) ?_
    exact kk _ _ _ _ _ hJ3 hW hS (lv_sub hl [2, 3, 4, 5, 6] rfl)

set_option maxHeartbeats 4000000 in
set_option maxRecDepth 100000 in
theorem law_c23 {p : Program} {l : Launch} {e : Env} {s : State} {m : MethodId} {below : List Frame} {meth : Method} {c : Code} {E : q_E} {b L a : Nat} {xs : Nat → Int32} {Q : State → Prop} (X : LX p l s m c E b L a xs) {i : Nat} (hi : i + 6 ≤ L) {f : q_H} {n BB : Nat} {H : Heap} {locs : List Loc} {ls : Array Slot} {cells slots : Nat} (hB : BB ≤ 2 ^ 29) (hJ : JJ E a BB f n) (hW : q_W E f n H) (hS : va_S (q_ge E) s.heap H locs) (hl : lv_has ls 9 [(4, .int (nI i)), (3, .ref (a + 99)), (2, .ref (a + 55)), (1, .ref a), (0, .ref b)]) (hc : cells + 430 ≤ 601024) (hsl : slots + 3900 ≤ 7293034)
    (kk : ∀ (f1 : q_H) (n1 : Nat) (H1 : Heap) (locs1 : List Loc) (ls1 : Array Slot), JJ E a (BB + 100) f1 n1 → q_W E f1 n1 H1 → va_S (q_ge E) s.heap H1 locs1 → lv_has ls1 9 [(4, .int (nI i)), (3, .ref (a + 99)), (2, .ref (a + 55)), (1, .ref a), (0, .ref b)] → W p l e room_1 s m #[Value.ref b] below meth c H1 locs1 (cells + 430) (slots + 3900) Q (F0 m 2099 ls1 [])) :
    W p l e room_1 s m #[Value.ref b] below meth c H locs cells slots Q (F0 m 1099 ls []) := by
  obtain ⟨hx, hb, hml, hown, hts, hX, hbl, hbA, hA, hNc, hst, hL⟩ := X
  obtain ⟨k9, P1, fr, c1, s1, lo, b1, b2, b3, b4, hM1, hM2⟩ := P_warningAt l E a BB f n hst hB hJ (xs (i + 1))
  refine lv_aload_n hx hb dL_law_1099 rfl (lv_at hl 3 rfl) ?_
  refine lv_aload_n hx hb dL_law_1100 rfl (lv_at hl 4 rfl) ?_
  refine lv_iload hx hb dL_law_1101 (lv_at hl 0 rfl) ?_
  refine lv_iconst (v := 1) hx hb dL_law_1103 (by decide) ?_
  refine lv_iadd hx hb dL_law_1104 ?_
  rw [show nI i + 1 = nI (i + 1) from by rw [show (1 : Int32) = nI 1 from rfl, nI_add]]
  refine va_sld hx hb hX hbl hbA hS (vp_in_nI (show i + 1 < L by omega) (by omega)) dL_law_1105 ?_
  rw [nI_clamp (show i + 1 < 2 ^ 31 by omega)]
  refine lv_aload_n hx hb dL_law_1106 rfl (lv_at hl 1 rfl) ?_
  refine q_xi (vx_runSX (As := [.ref a, .int (xs (i + 1)), .ref (a + 99)]) (rest := []) ⟨hx, hb, hml, hown, hts⟩ hM1 (vx_cwSW 3 hts gL_law_L_warningAt rfl rfl rfl (by decide +kernel) ⟨(by show fr + 1 ≤ 2048; omega), (by show 8 + (4 + 11) + lo ≤ 84000; omega)⟩) (q_pSN hNc hA hW hS) rfl rfl hl.1 rfl (lv_room (Nat.le_of_ble_eq_true rfl)) dL_law_1107 ⟨(by show cells + c1 ≤ 601024; omega), (by show slots + s1 ≤ 7293034; omega)⟩) hS (fun C9 ce9 q9 f9 n9 H locs hp hW hS h91 h92 h93 => False.elim hp) (fun r1 f1 n1 H locs hp hW hS => ?_)
  obtain ⟨rfl, hp1⟩ := hp
  obtain ⟨b9, P2, fr2, c2, s2, lo2, e1, e2, e3, e4, hM3, -, ⟨r9, hR9⟩, hM4⟩ := hM2 f1 n1 hp1
  refine lv_istore (lv' := [(5, .int k9), (4, .int (nI i)), (3, .ref (a + 99)), (2, .ref (a + 55)), (1, .ref a), (0, .ref b)]) hx hb dL_law_1110 hl (by decide) rfl (fun ls hl => ?_)
  refine lv_aload_n hx hb dL_law_1112 rfl (lv_at hl 3 rfl) ?_
  refine lv_aload_n hx hb dL_law_1113 rfl (lv_at hl 5 rfl) ?_
  refine lv_iload hx hb dL_law_1114 (lv_at hl 1 rfl) ?_
  refine lv_iconst (v := 1) hx hb dL_law_1116 (by decide) ?_
  refine lv_iadd hx hb dL_law_1117 ?_
  rw [show nI i + 1 = nI (i + 1) from by rw [show (1 : Int32) = nI 1 from rfl, nI_add]]
  refine va_sld hx hb hX hbl hbA hS (vp_in_nI (show i + 1 < L by omega) (by omega)) dL_law_1118 ?_
  rw [nI_clamp (show i + 1 < 2 ^ 31 by omega)]
  refine q_ci (va_runV (As := [.int (xs (i + 1))]) (rest := []) ⟨hx, hb, hml, hown, hts⟩ hM3 (cwV 1 hts gL_law_X14_warningAt rfl rfl rfl (by decide +kernel) ⟨(by show fr2 + 1 ≤ 2048; omega), (by show 8 + (2 + 11) + lo2 ≤ 84000; omega)⟩) (q_pV hA hW hS (ci := 12) rfl (show f1 (a + 55) = some (cMod (a + 55) r9) from hR9 0 (by decide))) rfl rfl hl.1 rfl (lv_room (Nat.le_of_ble_eq_true rfl)) dL_law_1119 ⟨(by show cells + c1 + c2 ≤ 601024; omega), (by show slots + s1 + s2 ≤ 7293034; omega)⟩) hS (fun r2 f2 n2 H locs hp hW hS => ?_)
  obtain ⟨rfl, hp2⟩ := hp
  obtain ⟨r3, og3, hR3, hk3, ho3, heq3, hJ3⟩ := hM4 f2 n2 hp2
  refine lv_istore (lv' := [(6, .int b9), (5, .int k9), (4, .int (nI i)), (3, .ref (a + 99)), (2, .ref (a + 55)), (1, .ref a), (0, .ref b)]) hx hb dL_law_1122 hl (by decide) rfl (fun ls hl => ?_)
  refine lv_aload_n hx hb dL_law_1124 rfl (lv_at hl 4 rfl) ?_
  refine q_ci (va_runV (As := []) (rest := []) ⟨hx, hb, hml, hown, hts⟩ (kX14_thrown l E f2 n2 (a + 55) r3 hR3) (cwV 0 hts gL_law_X14_thrown rfl rfl rfl (by decide +kernel) ⟨(Nat.le_of_ble_eq_true rfl), (Nat.le_of_ble_eq_true rfl)⟩) (q_pV hA hW hS (ci := 12) rfl (show f2 (a + 55) = some (cMod (a + 55) r3) from hR3 0 (by decide))) rfl rfl hl.1 rfl (lv_room (Nat.le_of_ble_eq_true rfl)) dL_law_1125 ⟨(by show cells + c1 + c2 + 0 ≤ 601024; omega), (by show slots + s1 + s2 + 0 ≤ 7293034; omega)⟩) hS (fun r4 f4 n4 H locs hp hW hS => ?_)
  obtain ⟨rfl, rfl, rfl⟩ := hp
  rw [hk3]
  refine lv_iload hx hb dL_law_1128 (lv_at hl 1 rfl) ?_
  refine lv_icmp_eq (tgt := 1135) hx hb dL_law_1130 (by decide) (fun c9 => ?_) (fun c9 => absurd rfl c9)
  refine lv_iload hx hb dL_law_1135 (lv_at hl 1 rfl) ?_
  refine lv_if_ne (tgt := 1152) hx hb dL_law_1137 (by decide) (fun c0 => ?_) (fun c0 => ?_)
  · refine lv_goto (tgt := 2099) hx hb dL_law_1152 (by decide) ?_
    refine W.widen (k := cells + 430) (n := slots + 3900) (by omega) (by omega) ?_
    exact kk _ _ _ _ _ hJ3 hW hS (lv_sub hl [2, 3, 4, 5, 6] rfl)
  · refine lv_aload_n hx hb dL_law_1140 rfl (lv_at hl 3 rfl) ?_
    refine lv_iconst (v := 0) hx hb dL_law_1141 (by decide) ?_
    refine q_lald hx hb hA hW ho3 (show vp_in (nI 0) 1 from vp_in_nI (by decide) (by decide)) dL_law_1142 ?_
    rw [show (0 : Int32).toNatClampNeg = 0 from rfl]
    refine lv_iload hx hb dL_law_1143 (lv_at hl 0 rfl) ?_
    refine lv_i2l hx hb dL_law_1145 rfl ?_
    refine q_lcmp0 hx hb (heq3 c0) dL_law_1146 ?_
    refine lv_if_eq (tgt := 1152) hx hb dL_law_1147 (by decide) (fun c5 => ?_) (fun c5 => absurd rfl c5)
    refine lv_goto (tgt := 2099) hx hb dL_law_1152 (by decide) ?_
    refine W.widen (k := cells + 430) (n := slots + 3900) (by omega) (by omega) ?_
    exact kk _ _ _ _ _ hJ3 hW hS (lv_sub hl [2, 3, 4, 5, 6] rfl)

set_option maxHeartbeats 4000000 in
set_option maxRecDepth 100000 in
theorem law_c24 {p : Program} {l : Launch} {e : Env} {s : State} {m : MethodId} {below : List Frame} {meth : Method} {c : Code} {E : q_E} {b L a : Nat} {xs : Nat → Int32} {Q : State → Prop} (X : LX p l s m c E b L a xs) {i : Nat} (hi : i + 6 ≤ L) {f : q_H} {n BB : Nat} {H : Heap} {locs : List Loc} {ls : Array Slot} {cells slots : Nat} (hB : BB ≤ 2 ^ 29) (hJ : JJ E a BB f n) (hW : q_W E f n H) (hS : va_S (q_ge E) s.heap H locs) (hl : lv_has ls 9 [(4, .int (nI i)), (3, .ref (a + 99)), (2, .ref (a + 55)), (1, .ref a), (0, .ref b)]) (hc : cells + 430 ≤ 601024) (hsl : slots + 3900 ≤ 7293034)
    (kk : ∀ (f1 : q_H) (n1 : Nat) (H1 : Heap) (locs1 : List Loc) (ls1 : Array Slot), JJ E a (BB + 100) f1 n1 → q_W E f1 n1 H1 → va_S (q_ge E) s.heap H1 locs1 → lv_has ls1 9 [(4, .int (nI i)), (3, .ref (a + 99)), (2, .ref (a + 55)), (1, .ref a), (0, .ref b)] → W p l e room_1 s m #[Value.ref b] below meth c H1 locs1 (cells + 430) (slots + 3900) Q (F0 m 2099 ls1 [])) :
    W p l e room_1 s m #[Value.ref b] below meth c H locs cells slots Q (F0 m 1155 ls []) := by
  obtain ⟨hx, hb, hml, hown, hts, hX, hbl, hbA, hA, hNc, hst, hL⟩ := X
  obtain ⟨R9, P1, fr, c1, s1, lo, b1, b2, b3, b4, hM1, hM2⟩ := P_notes l E a BB f n hB hJ
  obtain ⟨z1, z2, z3, z4, z5, z6, ep9, hcl⟩ := hJ.cls
  refine lv_aload_n hx hb dL_law_1155 rfl (lv_at hl 3 rfl) ?_
  refine q_ci (va_runV (As := []) (rest := []) ⟨hx, hb, hml, hown, hts⟩ hM1 (cwV 0 hts gL_law_X12_notes rfl rfl rfl (by decide +kernel) ⟨(by show fr + 1 ≤ 2048; omega), (by show 8 + (1 + 11) + lo ≤ 84000; omega)⟩) (q_pV hA hW hS (ci := 10) rfl hcl) rfl rfl hl.1 rfl (lv_room (Nat.le_of_ble_eq_true rfl)) dL_law_1156 ⟨(by show cells + c1 ≤ 601024; omega), (by show slots + s1 ≤ 7293034; omega)⟩) hS (fun r1 f1 n1 H locs hp hW hS => ?_)
  obtain ⟨rfl, hp1⟩ := hp
  obtain ⟨b9, P2, fr2, c2, s2, lo2, e1, e2, e3, e4, hM3, heq, ⟨r9, hR9⟩, hM4⟩ := hM2 f1 n1 hp1
  refine lv_aload_n hx hb dL_law_1159 rfl (lv_at hl 2 rfl) ?_
  refine q_ci (va_runV (As := []) (rest := [.int R9]) ⟨hx, hb, hml, hown, hts⟩ hM3 (cwV 0 hts gL_law_X14_notes rfl rfl rfl (by decide +kernel) ⟨(by show fr2 + 1 ≤ 2048; omega), (by show 8 + (1 + 11) + lo2 ≤ 84000; omega)⟩) (q_pV hA hW hS (ci := 12) rfl (show f1 (a + 55) = some (cMod (a + 55) r9) from hR9 0 (by decide))) rfl rfl hl.1 rfl (lv_room (Nat.le_of_ble_eq_true rfl)) dL_law_1160 ⟨(by show cells + c1 + c2 ≤ 601024; omega), (by show slots + s1 + s2 ≤ 7293034; omega)⟩) hS (fun r2 f2 n2 H locs hp hW hS => ?_)
  obtain ⟨rfl, hp2⟩ := hp
  have hJ3 := hM4 f2 n2 hp2
  refine lv_icmp_eq (tgt := 2099) hx hb dL_law_1163 (by decide) (fun c9 => ?_) (fun c9 => absurd heq c9)
  refine W.widen (k := cells + 430) (n := slots + 3900) (by omega) (by omega) ?_
  exact kk _ _ _ _ _ hJ3 hW hS (lv_sub hl [0, 1, 2, 3, 4] rfl)

set_option maxHeartbeats 4000000 in
set_option maxRecDepth 100000 in
theorem law_c25 {p : Program} {l : Launch} {e : Env} {s : State} {m : MethodId} {below : List Frame} {meth : Method} {c : Code} {E : q_E} {b L a : Nat} {xs : Nat → Int32} {Q : State → Prop} (X : LX p l s m c E b L a xs) {i : Nat} (hi : i + 6 ≤ L) {f : q_H} {n BB : Nat} {H : Heap} {locs : List Loc} {ls : Array Slot} {cells slots : Nat} (hB : BB ≤ 2 ^ 29) (hJ : JJ E a BB f n) (hW : q_W E f n H) (hS : va_S (q_ge E) s.heap H locs) (hl : lv_has ls 9 [(4, .int (nI i)), (3, .ref (a + 99)), (2, .ref (a + 55)), (1, .ref a), (0, .ref b)]) (hc : cells + 430 ≤ 601024) (hsl : slots + 3900 ≤ 7293034)
    (kk : ∀ (f1 : q_H) (n1 : Nat) (H1 : Heap) (locs1 : List Loc) (ls1 : Array Slot), JJ E a (BB + 100) f1 n1 → q_W E f1 n1 H1 → va_S (q_ge E) s.heap H1 locs1 → lv_has ls1 9 [(4, .int (nI i)), (3, .ref (a + 99)), (2, .ref (a + 55)), (1, .ref a), (0, .ref b)] → W p l e room_1 s m #[Value.ref b] below meth c H1 locs1 (cells + 430) (slots + 3900) Q (F0 m 2099 ls1 [])) :
    W p l e room_1 s m #[Value.ref b] below meth c H locs cells slots Q (F0 m 1168 ls []) := by
  obtain ⟨hx, hb, hml, hown, hts, hX, hbl, hbA, hA, hNc, hst, hL⟩ := X
  obtain ⟨k9, P1, fr, c1, s1, lo, b1, b2, b3, b4, hM1, hM2⟩ := P_noteAt l E a BB f n hst hB hJ (xs (i + 1))
  refine lv_aload_n hx hb dL_law_1168 rfl (lv_at hl 3 rfl) ?_
  refine lv_aload_n hx hb dL_law_1169 rfl (lv_at hl 4 rfl) ?_
  refine lv_iload hx hb dL_law_1170 (lv_at hl 0 rfl) ?_
  refine lv_iconst (v := 1) hx hb dL_law_1172 (by decide) ?_
  refine lv_iadd hx hb dL_law_1173 ?_
  rw [show nI i + 1 = nI (i + 1) from by rw [show (1 : Int32) = nI 1 from rfl, nI_add]]
  refine va_sld hx hb hX hbl hbA hS (vp_in_nI (show i + 1 < L by omega) (by omega)) dL_law_1174 ?_
  rw [nI_clamp (show i + 1 < 2 ^ 31 by omega)]
  refine lv_aload_n hx hb dL_law_1175 rfl (lv_at hl 1 rfl) ?_
  refine q_xi (vx_runSX (As := [.ref a, .int (xs (i + 1)), .ref (a + 99)]) (rest := []) ⟨hx, hb, hml, hown, hts⟩ hM1 (vx_cwSW 3 hts gL_law_L_noteAt rfl rfl rfl (by decide +kernel) ⟨(by show fr + 1 ≤ 2048; omega), (by show 8 + (4 + 11) + lo ≤ 84000; omega)⟩) (q_pSN hNc hA hW hS) rfl rfl hl.1 rfl (lv_room (Nat.le_of_ble_eq_true rfl)) dL_law_1176 ⟨(by show cells + c1 ≤ 601024; omega), (by show slots + s1 ≤ 7293034; omega)⟩) hS (fun C9 ce9 q9 f9 n9 H locs hp hW hS h91 h92 h93 => False.elim hp) (fun r1 f1 n1 H locs hp hW hS => ?_)
  obtain ⟨rfl, hp1⟩ := hp
  obtain ⟨b9, P2, fr2, c2, s2, lo2, e1, e2, e3, e4, hM3, -, ⟨r9, hR9⟩, hM4⟩ := hM2 f1 n1 hp1
  refine lv_istore (lv' := [(5, .int k9), (4, .int (nI i)), (3, .ref (a + 99)), (2, .ref (a + 55)), (1, .ref a), (0, .ref b)]) hx hb dL_law_1179 hl (by decide) rfl (fun ls hl => ?_)
  refine lv_aload_n hx hb dL_law_1181 rfl (lv_at hl 3 rfl) ?_
  refine lv_aload_n hx hb dL_law_1182 rfl (lv_at hl 5 rfl) ?_
  refine lv_iload hx hb dL_law_1183 (lv_at hl 1 rfl) ?_
  refine lv_iconst (v := 1) hx hb dL_law_1185 (by decide) ?_
  refine lv_iadd hx hb dL_law_1186 ?_
  rw [show nI i + 1 = nI (i + 1) from by rw [show (1 : Int32) = nI 1 from rfl, nI_add]]
  refine va_sld hx hb hX hbl hbA hS (vp_in_nI (show i + 1 < L by omega) (by omega)) dL_law_1187 ?_
  rw [nI_clamp (show i + 1 < 2 ^ 31 by omega)]
  refine q_ci (va_runV (As := [.int (xs (i + 1))]) (rest := []) ⟨hx, hb, hml, hown, hts⟩ hM3 (cwV 1 hts gL_law_X14_noteAt rfl rfl rfl (by decide +kernel) ⟨(by show fr2 + 1 ≤ 2048; omega), (by show 8 + (2 + 11) + lo2 ≤ 84000; omega)⟩) (q_pV hA hW hS (ci := 12) rfl (show f1 (a + 55) = some (cMod (a + 55) r9) from hR9 0 (by decide))) rfl rfl hl.1 rfl (lv_room (Nat.le_of_ble_eq_true rfl)) dL_law_1188 ⟨(by show cells + c1 + c2 ≤ 601024; omega), (by show slots + s1 + s2 ≤ 7293034; omega)⟩) hS (fun r2 f2 n2 H locs hp hW hS => ?_)
  obtain ⟨rfl, hp2⟩ := hp
  obtain ⟨r3, og3, hR3, hk3, ho3, heq3, hJ3⟩ := hM4 f2 n2 hp2
  refine lv_istore (lv' := [(6, .int b9), (5, .int k9), (4, .int (nI i)), (3, .ref (a + 99)), (2, .ref (a + 55)), (1, .ref a), (0, .ref b)]) hx hb dL_law_1191 hl (by decide) rfl (fun ls hl => ?_)
  refine lv_aload_n hx hb dL_law_1193 rfl (lv_at hl 4 rfl) ?_
  refine q_ci (va_runV (As := []) (rest := []) ⟨hx, hb, hml, hown, hts⟩ (kX14_thrown l E f2 n2 (a + 55) r3 hR3) (cwV 0 hts gL_law_X14_thrown rfl rfl rfl (by decide +kernel) ⟨(Nat.le_of_ble_eq_true rfl), (Nat.le_of_ble_eq_true rfl)⟩) (q_pV hA hW hS (ci := 12) rfl (show f2 (a + 55) = some (cMod (a + 55) r3) from hR3 0 (by decide))) rfl rfl hl.1 rfl (lv_room (Nat.le_of_ble_eq_true rfl)) dL_law_1194 ⟨(by show cells + c1 + c2 + 0 ≤ 601024; omega), (by show slots + s1 + s2 + 0 ≤ 7293034; omega)⟩) hS (fun r4 f4 n4 H locs hp hW hS => ?_)
  obtain ⟨rfl, rfl, rfl⟩ := hp
  rw [hk3]
  refine lv_iload hx hb dL_law_1197 (lv_at hl 1 rfl) ?_
  refine lv_icmp_eq (tgt := 1204) hx hb dL_law_1199 (by decide) (fun c9 => ?_) (fun c9 => absurd rfl c9)
  refine lv_iload hx hb dL_law_1204 (lv_at hl 1 rfl) ?_
  refine lv_if_ne (tgt := 1221) hx hb dL_law_1206 (by decide) (fun c0 => ?_) (fun c0 => ?_)
  · refine lv_goto (tgt := 2099) hx hb dL_law_1221 (by decide) ?_
    refine W.widen (k := cells + 430) (n := slots + 3900) (by omega) (by omega) ?_
    exact kk _ _ _ _ _ hJ3 hW hS (lv_sub hl [2, 3, 4, 5, 6] rfl)
  · refine lv_aload_n hx hb dL_law_1209 rfl (lv_at hl 3 rfl) ?_
    refine lv_iconst (v := 0) hx hb dL_law_1210 (by decide) ?_
    refine q_lald hx hb hA hW ho3 (show vp_in (nI 0) 1 from vp_in_nI (by decide) (by decide)) dL_law_1211 ?_
    rw [show (0 : Int32).toNatClampNeg = 0 from rfl]
    refine lv_iload hx hb dL_law_1212 (lv_at hl 0 rfl) ?_
    refine lv_i2l hx hb dL_law_1214 rfl ?_
    refine q_lcmp0 hx hb (heq3 c0) dL_law_1215 ?_
    refine lv_if_eq (tgt := 1221) hx hb dL_law_1216 (by decide) (fun c5 => ?_) (fun c5 => absurd rfl c5)
    refine lv_goto (tgt := 2099) hx hb dL_law_1221 (by decide) ?_
    refine W.widen (k := cells + 430) (n := slots + 3900) (by omega) (by omega) ?_
    exact kk _ _ _ _ _ hJ3 hW hS (lv_sub hl [2, 3, 4, 5, 6] rfl)

set_option maxHeartbeats 4000000 in
set_option maxRecDepth 100000 in
theorem law_c26 {p : Program} {l : Launch} {e : Env} {s : State} {m : MethodId} {below : List Frame} {meth : Method} {c : Code} {E : q_E} {b L a : Nat} {xs : Nat → Int32} {Q : State → Prop} (X : LX p l s m c E b L a xs) {i : Nat} (hi : i + 6 ≤ L) {f : q_H} {n BB : Nat} {H : Heap} {locs : List Loc} {ls : Array Slot} {cells slots : Nat} (hB : BB ≤ 2 ^ 29) (hJ : JJ E a BB f n) (hW : q_W E f n H) (hS : va_S (q_ge E) s.heap H locs) (hl : lv_has ls 9 [(4, .int (nI i)), (3, .ref (a + 99)), (2, .ref (a + 55)), (1, .ref a), (0, .ref b)]) (hc : cells + 430 ≤ 601024) (hsl : slots + 3900 ≤ 7293034)
    (kk : ∀ (f1 : q_H) (n1 : Nat) (H1 : Heap) (locs1 : List Loc) (ls1 : Array Slot), JJ E a (BB + 100) f1 n1 → q_W E f1 n1 H1 → va_S (q_ge E) s.heap H1 locs1 → lv_has ls1 9 [(4, .int (nI i)), (3, .ref (a + 99)), (2, .ref (a + 55)), (1, .ref a), (0, .ref b)] → W p l e room_1 s m #[Value.ref b] below meth c H1 locs1 (cells + 430) (slots + 3900) Q (F0 m 2099 ls1 [])) :
    W p l e room_1 s m #[Value.ref b] below meth c H locs cells slots Q (F0 m 1224 ls []) := by
  obtain ⟨hx, hb, hml, hown, hts, hX, hbl, hbA, hA, hNc, hst, hL⟩ := X
  obtain ⟨k9, P1, fr, c1, s1, lo, b1, b2, b3, b4, hM1, hM2⟩ := P_setAltitude l E a BB f n hst hB hJ (xs (i + 1))
  refine lv_aload_n hx hb dL_law_1224 rfl (lv_at hl 3 rfl) ?_
  refine lv_aload_n hx hb dL_law_1225 rfl (lv_at hl 4 rfl) ?_
  refine lv_iload hx hb dL_law_1226 (lv_at hl 0 rfl) ?_
  refine lv_iconst (v := 1) hx hb dL_law_1228 (by decide) ?_
  refine lv_iadd hx hb dL_law_1229 ?_
  rw [show nI i + 1 = nI (i + 1) from by rw [show (1 : Int32) = nI 1 from rfl, nI_add]]
  refine va_sld hx hb hX hbl hbA hS (vp_in_nI (show i + 1 < L by omega) (by omega)) dL_law_1230 ?_
  rw [nI_clamp (show i + 1 < 2 ^ 31 by omega)]
  refine lv_aload_n hx hb dL_law_1231 rfl (lv_at hl 1 rfl) ?_
  refine q_xi (vx_runSX (As := [.ref a, .int (xs (i + 1)), .ref (a + 99)]) (rest := []) ⟨hx, hb, hml, hown, hts⟩ hM1 (vx_cwSW 3 hts gL_law_L_setAltitude rfl rfl rfl (by decide +kernel) ⟨(by show fr + 1 ≤ 2048; omega), (by show 8 + (4 + 11) + lo ≤ 84000; omega)⟩) (q_pSN hNc hA hW hS) rfl rfl hl.1 rfl (lv_room (Nat.le_of_ble_eq_true rfl)) dL_law_1232 ⟨(by show cells + c1 ≤ 601024; omega), (by show slots + s1 ≤ 7293034; omega)⟩) hS (fun C9 ce9 q9 f9 n9 H locs hp hW hS h91 h92 h93 => False.elim hp) (fun r1 f1 n1 H locs hp hW hS => ?_)
  obtain ⟨rfl, hp1⟩ := hp
  obtain ⟨b9, P2, fr2, c2, s2, lo2, e1, e2, e3, e4, hM3, -, ⟨r9, hR9⟩, hM4⟩ := hM2 f1 n1 hp1
  refine lv_istore (lv' := [(5, .int k9), (4, .int (nI i)), (3, .ref (a + 99)), (2, .ref (a + 55)), (1, .ref a), (0, .ref b)]) hx hb dL_law_1235 hl (by decide) rfl (fun ls hl => ?_)
  refine lv_aload_n hx hb dL_law_1237 rfl (lv_at hl 3 rfl) ?_
  refine lv_aload_n hx hb dL_law_1238 rfl (lv_at hl 5 rfl) ?_
  refine lv_iload hx hb dL_law_1239 (lv_at hl 1 rfl) ?_
  refine lv_iconst (v := 1) hx hb dL_law_1241 (by decide) ?_
  refine lv_iadd hx hb dL_law_1242 ?_
  rw [show nI i + 1 = nI (i + 1) from by rw [show (1 : Int32) = nI 1 from rfl, nI_add]]
  refine va_sld hx hb hX hbl hbA hS (vp_in_nI (show i + 1 < L by omega) (by omega)) dL_law_1243 ?_
  rw [nI_clamp (show i + 1 < 2 ^ 31 by omega)]
  refine q_ci (va_runV (As := [.int (xs (i + 1))]) (rest := []) ⟨hx, hb, hml, hown, hts⟩ hM3 (cwV 1 hts gL_law_X14_setAltitude rfl rfl rfl (by decide +kernel) ⟨(by show fr2 + 1 ≤ 2048; omega), (by show 8 + (3 + 11) + lo2 ≤ 84000; omega)⟩) (q_pV hA hW hS (ci := 12) rfl (show f1 (a + 55) = some (cMod (a + 55) r9) from hR9 0 (by decide))) rfl rfl hl.1 rfl (lv_room (Nat.le_of_ble_eq_true rfl)) dL_law_1244 ⟨(by show cells + c1 + c2 ≤ 601024; omega), (by show slots + s1 + s2 ≤ 7293034; omega)⟩) hS (fun r2 f2 n2 H locs hp hW hS => ?_)
  obtain ⟨rfl, hp2⟩ := hp
  obtain ⟨r3, og3, hR3, hk3, ho3, heq3, hJ3⟩ := hM4 f2 n2 hp2
  refine lv_istore (lv' := [(6, .int b9), (5, .int k9), (4, .int (nI i)), (3, .ref (a + 99)), (2, .ref (a + 55)), (1, .ref a), (0, .ref b)]) hx hb dL_law_1247 hl (by decide) rfl (fun ls hl => ?_)
  refine lv_aload_n hx hb dL_law_1249 rfl (lv_at hl 4 rfl) ?_
  refine q_ci (va_runV (As := []) (rest := []) ⟨hx, hb, hml, hown, hts⟩ (kX14_thrown l E f2 n2 (a + 55) r3 hR3) (cwV 0 hts gL_law_X14_thrown rfl rfl rfl (by decide +kernel) ⟨(Nat.le_of_ble_eq_true rfl), (Nat.le_of_ble_eq_true rfl)⟩) (q_pV hA hW hS (ci := 12) rfl (show f2 (a + 55) = some (cMod (a + 55) r3) from hR3 0 (by decide))) rfl rfl hl.1 rfl (lv_room (Nat.le_of_ble_eq_true rfl)) dL_law_1250 ⟨(by show cells + c1 + c2 + 0 ≤ 601024; omega), (by show slots + s1 + s2 + 0 ≤ 7293034; omega)⟩) hS (fun r4 f4 n4 H locs hp hW hS => ?_)
  obtain ⟨rfl, rfl, rfl⟩ := hp
  rw [hk3]
  refine lv_iload hx hb dL_law_1253 (lv_at hl 1 rfl) ?_
  refine lv_icmp_eq (tgt := 1260) hx hb dL_law_1255 (by decide) (fun c9 => ?_) (fun c9 => absurd rfl c9)
  refine lv_iload hx hb dL_law_1260 (lv_at hl 1 rfl) ?_
  refine lv_if_ne (tgt := 1277) hx hb dL_law_1262 (by decide) (fun c0 => ?_) (fun c0 => ?_)
  · refine lv_goto (tgt := 2099) hx hb dL_law_1277 (by decide) ?_
    refine W.widen (k := cells + 430) (n := slots + 3900) (by omega) (by omega) ?_
    exact kk _ _ _ _ _ hJ3 hW hS (lv_sub hl [2, 3, 4, 5, 6] rfl)
  · refine lv_aload_n hx hb dL_law_1265 rfl (lv_at hl 3 rfl) ?_
    refine lv_iconst (v := 0) hx hb dL_law_1266 (by decide) ?_
    refine q_lald hx hb hA hW ho3 (show vp_in (nI 0) 1 from vp_in_nI (by decide) (by decide)) dL_law_1267 ?_
    rw [show (0 : Int32).toNatClampNeg = 0 from rfl]
    refine lv_iload hx hb dL_law_1268 (lv_at hl 0 rfl) ?_
    refine lv_i2l hx hb dL_law_1270 rfl ?_
    refine q_lcmp0 hx hb (heq3 c0) dL_law_1271 ?_
    refine lv_if_eq (tgt := 1277) hx hb dL_law_1272 (by decide) (fun c5 => ?_) (fun c5 => absurd rfl c5)
    refine lv_goto (tgt := 2099) hx hb dL_law_1277 (by decide) ?_
    refine W.widen (k := cells + 430) (n := slots + 3900) (by omega) (by omega) ?_
    exact kk _ _ _ _ _ hJ3 hW hS (lv_sub hl [2, 3, 4, 5, 6] rfl)

set_option maxHeartbeats 4000000 in
set_option maxRecDepth 100000 in
theorem law_c27 {p : Program} {l : Launch} {e : Env} {s : State} {m : MethodId} {below : List Frame} {meth : Method} {c : Code} {E : q_E} {b L a : Nat} {xs : Nat → Int32} {Q : State → Prop} (X : LX p l s m c E b L a xs) {i : Nat} (hi : i + 6 ≤ L) {f : q_H} {n BB : Nat} {H : Heap} {locs : List Loc} {ls : Array Slot} {cells slots : Nat} (hB : BB ≤ 2 ^ 29) (hJ : JJ E a BB f n) (hW : q_W E f n H) (hS : va_S (q_ge E) s.heap H locs) (hl : lv_has ls 9 [(4, .int (nI i)), (3, .ref (a + 99)), (2, .ref (a + 55)), (1, .ref a), (0, .ref b)]) (hc : cells + 430 ≤ 601024) (hsl : slots + 3900 ≤ 7293034)
    (kk : ∀ (f1 : q_H) (n1 : Nat) (H1 : Heap) (locs1 : List Loc) (ls1 : Array Slot), JJ E a (BB + 100) f1 n1 → q_W E f1 n1 H1 → va_S (q_ge E) s.heap H1 locs1 → lv_has ls1 9 [(4, .int (nI i)), (3, .ref (a + 99)), (2, .ref (a + 55)), (1, .ref a), (0, .ref b)] → W p l e room_1 s m #[Value.ref b] below meth c H1 locs1 (cells + 430) (slots + 3900) Q (F0 m 2099 ls1 [])) :
    W p l e room_1 s m #[Value.ref b] below meth c H locs cells slots Q (F0 m 1280 ls []) := by
  obtain ⟨hx, hb, hml, hown, hts, hX, hbl, hbA, hA, hNc, hst, hL⟩ := X
  obtain ⟨k9, P1, fr, c1, s1, lo, b1, b2, b3, b4, hM1, hM2⟩ := P_setServings l E a BB f n hst hB hJ (xs (i + 1))
  refine lv_aload_n hx hb dL_law_1280 rfl (lv_at hl 3 rfl) ?_
  refine lv_aload_n hx hb dL_law_1281 rfl (lv_at hl 4 rfl) ?_
  refine lv_iload hx hb dL_law_1282 (lv_at hl 0 rfl) ?_
  refine lv_iconst (v := 1) hx hb dL_law_1284 (by decide) ?_
  refine lv_iadd hx hb dL_law_1285 ?_
  rw [show nI i + 1 = nI (i + 1) from by rw [show (1 : Int32) = nI 1 from rfl, nI_add]]
  refine va_sld hx hb hX hbl hbA hS (vp_in_nI (show i + 1 < L by omega) (by omega)) dL_law_1286 ?_
  rw [nI_clamp (show i + 1 < 2 ^ 31 by omega)]
  refine lv_aload_n hx hb dL_law_1287 rfl (lv_at hl 1 rfl) ?_
  refine q_xi (vx_runSX (As := [.ref a, .int (xs (i + 1)), .ref (a + 99)]) (rest := []) ⟨hx, hb, hml, hown, hts⟩ hM1 (vx_cwSW 3 hts gL_law_L_setServings rfl rfl rfl (by decide +kernel) ⟨(by show fr + 1 ≤ 2048; omega), (by show 8 + (4 + 11) + lo ≤ 84000; omega)⟩) (q_pSN hNc hA hW hS) rfl rfl hl.1 rfl (lv_room (Nat.le_of_ble_eq_true rfl)) dL_law_1288 ⟨(by show cells + c1 ≤ 601024; omega), (by show slots + s1 ≤ 7293034; omega)⟩) hS (fun C9 ce9 q9 f9 n9 H locs hp hW hS h91 h92 h93 => False.elim hp) (fun r1 f1 n1 H locs hp hW hS => ?_)
  obtain ⟨rfl, hp1⟩ := hp
  obtain ⟨b9, P2, fr2, c2, s2, lo2, e1, e2, e3, e4, hM3, -, ⟨r9, hR9⟩, hM4⟩ := hM2 f1 n1 hp1
  refine lv_istore (lv' := [(5, .int k9), (4, .int (nI i)), (3, .ref (a + 99)), (2, .ref (a + 55)), (1, .ref a), (0, .ref b)]) hx hb dL_law_1291 hl (by decide) rfl (fun ls hl => ?_)
  refine lv_aload_n hx hb dL_law_1293 rfl (lv_at hl 3 rfl) ?_
  refine lv_aload_n hx hb dL_law_1294 rfl (lv_at hl 5 rfl) ?_
  refine lv_iload hx hb dL_law_1295 (lv_at hl 1 rfl) ?_
  refine lv_iconst (v := 1) hx hb dL_law_1297 (by decide) ?_
  refine lv_iadd hx hb dL_law_1298 ?_
  rw [show nI i + 1 = nI (i + 1) from by rw [show (1 : Int32) = nI 1 from rfl, nI_add]]
  refine va_sld hx hb hX hbl hbA hS (vp_in_nI (show i + 1 < L by omega) (by omega)) dL_law_1299 ?_
  rw [nI_clamp (show i + 1 < 2 ^ 31 by omega)]
  refine q_ci (va_runV (As := [.int (xs (i + 1))]) (rest := []) ⟨hx, hb, hml, hown, hts⟩ hM3 (cwV 1 hts gL_law_X14_setServings rfl rfl rfl (by decide +kernel) ⟨(by show fr2 + 1 ≤ 2048; omega), (by show 8 + (3 + 11) + lo2 ≤ 84000; omega)⟩) (q_pV hA hW hS (ci := 12) rfl (show f1 (a + 55) = some (cMod (a + 55) r9) from hR9 0 (by decide))) rfl rfl hl.1 rfl (lv_room (Nat.le_of_ble_eq_true rfl)) dL_law_1300 ⟨(by show cells + c1 + c2 ≤ 601024; omega), (by show slots + s1 + s2 ≤ 7293034; omega)⟩) hS (fun r2 f2 n2 H locs hp hW hS => ?_)
  obtain ⟨rfl, hp2⟩ := hp
  obtain ⟨r3, og3, hR3, hk3, ho3, heq3, hJ3⟩ := hM4 f2 n2 hp2
  refine lv_istore (lv' := [(6, .int b9), (5, .int k9), (4, .int (nI i)), (3, .ref (a + 99)), (2, .ref (a + 55)), (1, .ref a), (0, .ref b)]) hx hb dL_law_1303 hl (by decide) rfl (fun ls hl => ?_)
  refine lv_aload_n hx hb dL_law_1305 rfl (lv_at hl 4 rfl) ?_
  refine q_ci (va_runV (As := []) (rest := []) ⟨hx, hb, hml, hown, hts⟩ (kX14_thrown l E f2 n2 (a + 55) r3 hR3) (cwV 0 hts gL_law_X14_thrown rfl rfl rfl (by decide +kernel) ⟨(Nat.le_of_ble_eq_true rfl), (Nat.le_of_ble_eq_true rfl)⟩) (q_pV hA hW hS (ci := 12) rfl (show f2 (a + 55) = some (cMod (a + 55) r3) from hR3 0 (by decide))) rfl rfl hl.1 rfl (lv_room (Nat.le_of_ble_eq_true rfl)) dL_law_1306 ⟨(by show cells + c1 + c2 + 0 ≤ 601024; omega), (by show slots + s1 + s2 + 0 ≤ 7293034; omega)⟩) hS (fun r4 f4 n4 H locs hp hW hS => ?_)
  obtain ⟨rfl, rfl, rfl⟩ := hp
  rw [hk3]
  refine lv_iload hx hb dL_law_1309 (lv_at hl 1 rfl) ?_
  refine lv_icmp_eq (tgt := 1316) hx hb dL_law_1311 (by decide) (fun c9 => ?_) (fun c9 => absurd rfl c9)
  refine lv_iload hx hb dL_law_1316 (lv_at hl 1 rfl) ?_
  refine lv_if_ne (tgt := 1333) hx hb dL_law_1318 (by decide) (fun c0 => ?_) (fun c0 => ?_)
  · refine lv_goto (tgt := 2099) hx hb dL_law_1333 (by decide) ?_
    refine W.widen (k := cells + 430) (n := slots + 3900) (by omega) (by omega) ?_
    exact kk _ _ _ _ _ hJ3 hW hS (lv_sub hl [2, 3, 4, 5, 6] rfl)
  · refine lv_aload_n hx hb dL_law_1321 rfl (lv_at hl 3 rfl) ?_
    refine lv_iconst (v := 0) hx hb dL_law_1322 (by decide) ?_
    refine q_lald hx hb hA hW ho3 (show vp_in (nI 0) 1 from vp_in_nI (by decide) (by decide)) dL_law_1323 ?_
    rw [show (0 : Int32).toNatClampNeg = 0 from rfl]
    refine lv_iload hx hb dL_law_1324 (lv_at hl 0 rfl) ?_
    refine lv_i2l hx hb dL_law_1326 rfl ?_
    refine q_lcmp0 hx hb (heq3 c0) dL_law_1327 ?_
    refine lv_if_eq (tgt := 1333) hx hb dL_law_1328 (by decide) (fun c5 => ?_) (fun c5 => absurd rfl c5)
    refine lv_goto (tgt := 2099) hx hb dL_law_1333 (by decide) ?_
    refine W.widen (k := cells + 430) (n := slots + 3900) (by omega) (by omega) ?_
    exact kk _ _ _ _ _ hJ3 hW hS (lv_sub hl [2, 3, 4, 5, 6] rfl)

set_option maxHeartbeats 4000000 in
set_option maxRecDepth 100000 in
theorem law_c28 {p : Program} {l : Launch} {e : Env} {s : State} {m : MethodId} {below : List Frame} {meth : Method} {c : Code} {E : q_E} {b L a : Nat} {xs : Nat → Int32} {Q : State → Prop} (X : LX p l s m c E b L a xs) {i : Nat} (hi : i + 6 ≤ L) {f : q_H} {n BB : Nat} {H : Heap} {locs : List Loc} {ls : Array Slot} {cells slots : Nat} (hB : BB ≤ 2 ^ 29) (hJ : JJ E a BB f n) (hW : q_W E f n H) (hS : va_S (q_ge E) s.heap H locs) (hl : lv_has ls 9 [(4, .int (nI i)), (3, .ref (a + 99)), (2, .ref (a + 55)), (1, .ref a), (0, .ref b)]) (hc : cells + 430 ≤ 601024) (hsl : slots + 3900 ≤ 7293034)
    (kk : ∀ (f1 : q_H) (n1 : Nat) (H1 : Heap) (locs1 : List Loc) (ls1 : Array Slot), JJ E a (BB + 100) f1 n1 → q_W E f1 n1 H1 → va_S (q_ge E) s.heap H1 locs1 → lv_has ls1 9 [(4, .int (nI i)), (3, .ref (a + 99)), (2, .ref (a + 55)), (1, .ref a), (0, .ref b)] → W p l e room_1 s m #[Value.ref b] below meth c H1 locs1 (cells + 430) (slots + 3900) Q (F0 m 2099 ls1 [])) :
    W p l e room_1 s m #[Value.ref b] below meth c H locs cells slots Q (F0 m 1336 ls []) := by
  obtain ⟨hx, hb, hml, hown, hts, hX, hbl, hbA, hA, hNc, hst, hL⟩ := X
  obtain ⟨k9, P1, fr, c1, s1, lo, b1, b2, b3, b4, hM1, hM2⟩ := P_setSpoon l E a BB f n hst hB hJ (xs (i + 1))
  refine lv_aload_n hx hb dL_law_1336 rfl (lv_at hl 3 rfl) ?_
  refine lv_aload_n hx hb dL_law_1337 rfl (lv_at hl 4 rfl) ?_
  refine lv_iload hx hb dL_law_1338 (lv_at hl 0 rfl) ?_
  refine lv_iconst (v := 1) hx hb dL_law_1340 (by decide) ?_
  refine lv_iadd hx hb dL_law_1341 ?_
  rw [show nI i + 1 = nI (i + 1) from by rw [show (1 : Int32) = nI 1 from rfl, nI_add]]
  refine va_sld hx hb hX hbl hbA hS (vp_in_nI (show i + 1 < L by omega) (by omega)) dL_law_1342 ?_
  rw [nI_clamp (show i + 1 < 2 ^ 31 by omega)]
  refine lv_aload_n hx hb dL_law_1343 rfl (lv_at hl 1 rfl) ?_
  refine q_xi (vx_runSX (As := [.ref a, .int (xs (i + 1)), .ref (a + 99)]) (rest := []) ⟨hx, hb, hml, hown, hts⟩ hM1 (vx_cwSW 3 hts gL_law_L_setSpoon rfl rfl rfl (by decide +kernel) ⟨(by show fr + 1 ≤ 2048; omega), (by show 8 + (4 + 11) + lo ≤ 84000; omega)⟩) (q_pSN hNc hA hW hS) rfl rfl hl.1 rfl (lv_room (Nat.le_of_ble_eq_true rfl)) dL_law_1344 ⟨(by show cells + c1 ≤ 601024; omega), (by show slots + s1 ≤ 7293034; omega)⟩) hS (fun C9 ce9 q9 f9 n9 H locs hp hW hS h91 h92 h93 => False.elim hp) (fun r1 f1 n1 H locs hp hW hS => ?_)
  obtain ⟨rfl, hp1⟩ := hp
  obtain ⟨b9, P2, fr2, c2, s2, lo2, e1, e2, e3, e4, hM3, -, ⟨r9, hR9⟩, hM4⟩ := hM2 f1 n1 hp1
  refine lv_istore (lv' := [(5, .int k9), (4, .int (nI i)), (3, .ref (a + 99)), (2, .ref (a + 55)), (1, .ref a), (0, .ref b)]) hx hb dL_law_1347 hl (by decide) rfl (fun ls hl => ?_)
  refine lv_aload_n hx hb dL_law_1349 rfl (lv_at hl 3 rfl) ?_
  refine lv_aload_n hx hb dL_law_1350 rfl (lv_at hl 5 rfl) ?_
  refine lv_iload hx hb dL_law_1351 (lv_at hl 1 rfl) ?_
  refine lv_iconst (v := 1) hx hb dL_law_1353 (by decide) ?_
  refine lv_iadd hx hb dL_law_1354 ?_
  rw [show nI i + 1 = nI (i + 1) from by rw [show (1 : Int32) = nI 1 from rfl, nI_add]]
  refine va_sld hx hb hX hbl hbA hS (vp_in_nI (show i + 1 < L by omega) (by omega)) dL_law_1355 ?_
  rw [nI_clamp (show i + 1 < 2 ^ 31 by omega)]
  refine q_ci (va_runV (As := [.int (xs (i + 1))]) (rest := []) ⟨hx, hb, hml, hown, hts⟩ hM3 (cwV 1 hts gL_law_X14_setSpoon rfl rfl rfl (by decide +kernel) ⟨(by show fr2 + 1 ≤ 2048; omega), (by show 8 + (3 + 11) + lo2 ≤ 84000; omega)⟩) (q_pV hA hW hS (ci := 12) rfl (show f1 (a + 55) = some (cMod (a + 55) r9) from hR9 0 (by decide))) rfl rfl hl.1 rfl (lv_room (Nat.le_of_ble_eq_true rfl)) dL_law_1356 ⟨(by show cells + c1 + c2 ≤ 601024; omega), (by show slots + s1 + s2 ≤ 7293034; omega)⟩) hS (fun r2 f2 n2 H locs hp hW hS => ?_)
  obtain ⟨rfl, hp2⟩ := hp
  obtain ⟨r3, og3, hR3, hk3, ho3, heq3, hJ3⟩ := hM4 f2 n2 hp2
  refine lv_istore (lv' := [(6, .int b9), (5, .int k9), (4, .int (nI i)), (3, .ref (a + 99)), (2, .ref (a + 55)), (1, .ref a), (0, .ref b)]) hx hb dL_law_1359 hl (by decide) rfl (fun ls hl => ?_)
  refine lv_aload_n hx hb dL_law_1361 rfl (lv_at hl 4 rfl) ?_
  refine q_ci (va_runV (As := []) (rest := []) ⟨hx, hb, hml, hown, hts⟩ (kX14_thrown l E f2 n2 (a + 55) r3 hR3) (cwV 0 hts gL_law_X14_thrown rfl rfl rfl (by decide +kernel) ⟨(Nat.le_of_ble_eq_true rfl), (Nat.le_of_ble_eq_true rfl)⟩) (q_pV hA hW hS (ci := 12) rfl (show f2 (a + 55) = some (cMod (a + 55) r3) from hR3 0 (by decide))) rfl rfl hl.1 rfl (lv_room (Nat.le_of_ble_eq_true rfl)) dL_law_1362 ⟨(by show cells + c1 + c2 + 0 ≤ 601024; omega), (by show slots + s1 + s2 + 0 ≤ 7293034; omega)⟩) hS (fun r4 f4 n4 H locs hp hW hS => ?_)
  obtain ⟨rfl, rfl, rfl⟩ := hp
  rw [hk3]
  refine lv_iload hx hb dL_law_1365 (lv_at hl 1 rfl) ?_
  refine lv_icmp_eq (tgt := 1372) hx hb dL_law_1367 (by decide) (fun c9 => ?_) (fun c9 => absurd rfl c9)
  refine lv_iload hx hb dL_law_1372 (lv_at hl 1 rfl) ?_
  refine lv_if_ne (tgt := 1389) hx hb dL_law_1374 (by decide) (fun c0 => ?_) (fun c0 => ?_)
  · refine lv_goto (tgt := 2099) hx hb dL_law_1389 (by decide) ?_
    refine W.widen (k := cells + 430) (n := slots + 3900) (by omega) (by omega) ?_
    exact kk _ _ _ _ _ hJ3 hW hS (lv_sub hl [2, 3, 4, 5, 6] rfl)
  · refine lv_aload_n hx hb dL_law_1377 rfl (lv_at hl 3 rfl) ?_
    refine lv_iconst (v := 0) hx hb dL_law_1378 (by decide) ?_
    refine q_lald hx hb hA hW ho3 (show vp_in (nI 0) 1 from vp_in_nI (by decide) (by decide)) dL_law_1379 ?_
    rw [show (0 : Int32).toNatClampNeg = 0 from rfl]
    refine lv_iload hx hb dL_law_1380 (lv_at hl 0 rfl) ?_
    refine lv_i2l hx hb dL_law_1382 rfl ?_
    refine q_lcmp0 hx hb (heq3 c0) dL_law_1383 ?_
    refine lv_if_eq (tgt := 1389) hx hb dL_law_1384 (by decide) (fun c5 => ?_) (fun c5 => absurd rfl c5)
    refine lv_goto (tgt := 2099) hx hb dL_law_1389 (by decide) ?_
    refine W.widen (k := cells + 430) (n := slots + 3900) (by omega) (by omega) ?_
    exact kk _ _ _ _ _ hJ3 hW hS (lv_sub hl [2, 3, 4, 5, 6] rfl)

set_option maxHeartbeats 4000000 in
set_option maxRecDepth 100000 in
theorem law_c29 {p : Program} {l : Launch} {e : Env} {s : State} {m : MethodId} {below : List Frame} {meth : Method} {c : Code} {E : q_E} {b L a : Nat} {xs : Nat → Int32} {Q : State → Prop} (X : LX p l s m c E b L a xs) {i : Nat} (hi : i + 6 ≤ L) {f : q_H} {n BB : Nat} {H : Heap} {locs : List Loc} {ls : Array Slot} {cells slots : Nat} (hB : BB ≤ 2 ^ 29) (hJ : JJ E a BB f n) (hW : q_W E f n H) (hS : va_S (q_ge E) s.heap H locs) (hl : lv_has ls 9 [(4, .int (nI i)), (3, .ref (a + 99)), (2, .ref (a + 55)), (1, .ref a), (0, .ref b)]) (hc : cells + 430 ≤ 601024) (hsl : slots + 3900 ≤ 7293034)
    (kk : ∀ (f1 : q_H) (n1 : Nat) (H1 : Heap) (locs1 : List Loc) (ls1 : Array Slot), JJ E a (BB + 100) f1 n1 → q_W E f1 n1 H1 → va_S (q_ge E) s.heap H1 locs1 → lv_has ls1 9 [(4, .int (nI i)), (3, .ref (a + 99)), (2, .ref (a + 55)), (1, .ref a), (0, .ref b)] → W p l e room_1 s m #[Value.ref b] below meth c H1 locs1 (cells + 430) (slots + 3900) Q (F0 m 2099 ls1 [])) :
    W p l e room_1 s m #[Value.ref b] below meth c H locs cells slots Q (F0 m 1392 ls []) := by
  obtain ⟨hx, hb, hml, hown, hts, hX, hbl, hbA, hA, hNc, hst, hL⟩ := X
  obtain ⟨k9, P1, fr, c1, s1, lo, b1, b2, b3, b4, hM1, hM2⟩ := P_pourWater l E a BB f n hst hB hJ (xs (i + 1)) (xs (i + 2))
  refine lv_aload_n hx hb dL_law_1392 rfl (lv_at hl 3 rfl) ?_
  refine lv_aload_n hx hb dL_law_1393 rfl (lv_at hl 4 rfl) ?_
  refine lv_iload hx hb dL_law_1394 (lv_at hl 0 rfl) ?_
  refine lv_iconst (v := 1) hx hb dL_law_1396 (by decide) ?_
  refine lv_iadd hx hb dL_law_1397 ?_
  rw [show nI i + 1 = nI (i + 1) from by rw [show (1 : Int32) = nI 1 from rfl, nI_add]]
  refine va_sld hx hb hX hbl hbA hS (vp_in_nI (show i + 1 < L by omega) (by omega)) dL_law_1398 ?_
  rw [nI_clamp (show i + 1 < 2 ^ 31 by omega)]
  refine lv_aload_n hx hb dL_law_1399 rfl (lv_at hl 4 rfl) ?_
  refine lv_iload hx hb dL_law_1400 (lv_at hl 0 rfl) ?_
  refine lv_iconst (v := 2) hx hb dL_law_1402 (by decide) ?_
  refine lv_iadd hx hb dL_law_1403 ?_
  rw [show nI i + 2 = nI (i + 2) from by rw [show (2 : Int32) = nI 2 from rfl, nI_add]]
  refine va_sld hx hb hX hbl hbA hS (vp_in_nI (show i + 2 < L by omega) (by omega)) dL_law_1404 ?_
  rw [nI_clamp (show i + 2 < 2 ^ 31 by omega)]
  refine lv_aload_n hx hb dL_law_1405 rfl (lv_at hl 1 rfl) ?_
  refine q_xi (vx_runSX (As := [.ref a, .int (xs (i + 1)), .int (xs (i + 2)), .ref (a + 99)]) (rest := []) ⟨hx, hb, hml, hown, hts⟩ hM1 (vx_cwSW 4 hts gL_law_L_pourWater rfl rfl rfl (by decide +kernel) ⟨(by show fr + 1 ≤ 2048; omega), (by show 8 + (5 + 11) + lo ≤ 84000; omega)⟩) (q_pSN hNc hA hW hS) rfl rfl hl.1 rfl (lv_room (Nat.le_of_ble_eq_true rfl)) dL_law_1406 ⟨(by show cells + c1 ≤ 601024; omega), (by show slots + s1 ≤ 7293034; omega)⟩) hS (fun C9 ce9 q9 f9 n9 H locs hp hW hS h91 h92 h93 => False.elim hp) (fun r1 f1 n1 H locs hp hW hS => ?_)
  obtain ⟨rfl, hp1⟩ := hp
  obtain ⟨b9, P2, fr2, c2, s2, lo2, e1, e2, e3, e4, hM3, -, ⟨r9, hR9⟩, hM4⟩ := hM2 f1 n1 hp1
  refine lv_istore (lv' := [(5, .int k9), (4, .int (nI i)), (3, .ref (a + 99)), (2, .ref (a + 55)), (1, .ref a), (0, .ref b)]) hx hb dL_law_1409 hl (by decide) rfl (fun ls hl => ?_)
  refine lv_aload_n hx hb dL_law_1411 rfl (lv_at hl 3 rfl) ?_
  refine lv_aload_n hx hb dL_law_1412 rfl (lv_at hl 5 rfl) ?_
  refine lv_iload hx hb dL_law_1413 (lv_at hl 1 rfl) ?_
  refine lv_iconst (v := 1) hx hb dL_law_1415 (by decide) ?_
  refine lv_iadd hx hb dL_law_1416 ?_
  rw [show nI i + 1 = nI (i + 1) from by rw [show (1 : Int32) = nI 1 from rfl, nI_add]]
  refine va_sld hx hb hX hbl hbA hS (vp_in_nI (show i + 1 < L by omega) (by omega)) dL_law_1417 ?_
  rw [nI_clamp (show i + 1 < 2 ^ 31 by omega)]
  refine lv_aload_n hx hb dL_law_1418 rfl (lv_at hl 5 rfl) ?_
  refine lv_iload hx hb dL_law_1419 (lv_at hl 1 rfl) ?_
  refine lv_iconst (v := 2) hx hb dL_law_1421 (by decide) ?_
  refine lv_iadd hx hb dL_law_1422 ?_
  rw [show nI i + 2 = nI (i + 2) from by rw [show (2 : Int32) = nI 2 from rfl, nI_add]]
  refine va_sld hx hb hX hbl hbA hS (vp_in_nI (show i + 2 < L by omega) (by omega)) dL_law_1423 ?_
  rw [nI_clamp (show i + 2 < 2 ^ 31 by omega)]
  refine q_ci (va_runV (As := [.int (xs (i + 1)), .int (xs (i + 2))]) (rest := []) ⟨hx, hb, hml, hown, hts⟩ hM3 (cwV 2 hts gL_law_X14_pourWater rfl rfl rfl (by decide +kernel) ⟨(by show fr2 + 1 ≤ 2048; omega), (by show 8 + (3 + 11) + lo2 ≤ 84000; omega)⟩) (q_pV hA hW hS (ci := 12) rfl (show f1 (a + 55) = some (cMod (a + 55) r9) from hR9 0 (by decide))) rfl rfl hl.1 rfl (lv_room (Nat.le_of_ble_eq_true rfl)) dL_law_1424 ⟨(by show cells + c1 + c2 ≤ 601024; omega), (by show slots + s1 + s2 ≤ 7293034; omega)⟩) hS (fun r2 f2 n2 H locs hp hW hS => ?_)
  obtain ⟨rfl, hp2⟩ := hp
  obtain ⟨r3, og3, hR3, hk3, ho3, heq3, hJ3⟩ := hM4 f2 n2 hp2
  refine lv_istore (lv' := [(6, .int b9), (5, .int k9), (4, .int (nI i)), (3, .ref (a + 99)), (2, .ref (a + 55)), (1, .ref a), (0, .ref b)]) hx hb dL_law_1427 hl (by decide) rfl (fun ls hl => ?_)
  refine lv_aload_n hx hb dL_law_1429 rfl (lv_at hl 4 rfl) ?_
  refine q_ci (va_runV (As := []) (rest := []) ⟨hx, hb, hml, hown, hts⟩ (kX14_thrown l E f2 n2 (a + 55) r3 hR3) (cwV 0 hts gL_law_X14_thrown rfl rfl rfl (by decide +kernel) ⟨(Nat.le_of_ble_eq_true rfl), (Nat.le_of_ble_eq_true rfl)⟩) (q_pV hA hW hS (ci := 12) rfl (show f2 (a + 55) = some (cMod (a + 55) r3) from hR3 0 (by decide))) rfl rfl hl.1 rfl (lv_room (Nat.le_of_ble_eq_true rfl)) dL_law_1430 ⟨(by show cells + c1 + c2 + 0 ≤ 601024; omega), (by show slots + s1 + s2 + 0 ≤ 7293034; omega)⟩) hS (fun r4 f4 n4 H locs hp hW hS => ?_)
  obtain ⟨rfl, rfl, rfl⟩ := hp
  rw [hk3]
  refine lv_iload hx hb dL_law_1433 (lv_at hl 1 rfl) ?_
  refine lv_icmp_eq (tgt := 1440) hx hb dL_law_1435 (by decide) (fun c9 => ?_) (fun c9 => absurd rfl c9)
  refine lv_iload hx hb dL_law_1440 (lv_at hl 1 rfl) ?_
  refine lv_if_ne (tgt := 1457) hx hb dL_law_1442 (by decide) (fun c0 => ?_) (fun c0 => ?_)
  · refine lv_goto (tgt := 2099) hx hb dL_law_1457 (by decide) ?_
    refine W.widen (k := cells + 430) (n := slots + 3900) (by omega) (by omega) ?_
    exact kk _ _ _ _ _ hJ3 hW hS (lv_sub hl [2, 3, 4, 5, 6] rfl)
  · refine lv_aload_n hx hb dL_law_1445 rfl (lv_at hl 3 rfl) ?_
    refine lv_iconst (v := 0) hx hb dL_law_1446 (by decide) ?_
    refine q_lald hx hb hA hW ho3 (show vp_in (nI 0) 1 from vp_in_nI (by decide) (by decide)) dL_law_1447 ?_
    rw [show (0 : Int32).toNatClampNeg = 0 from rfl]
    refine lv_iload hx hb dL_law_1448 (lv_at hl 0 rfl) ?_
    refine lv_i2l hx hb dL_law_1450 rfl ?_
    refine q_lcmp0 hx hb (heq3 c0) dL_law_1451 ?_
    refine lv_if_eq (tgt := 1457) hx hb dL_law_1452 (by decide) (fun c5 => ?_) (fun c5 => absurd rfl c5)
    refine lv_goto (tgt := 2099) hx hb dL_law_1457 (by decide) ?_
    refine W.widen (k := cells + 430) (n := slots + 3900) (by omega) (by omega) ?_
    exact kk _ _ _ _ _ hJ3 hW hS (lv_sub hl [2, 3, 4, 5, 6] rfl)

set_option maxHeartbeats 4000000 in
set_option maxRecDepth 100000 in
theorem law_c30 {p : Program} {l : Launch} {e : Env} {s : State} {m : MethodId} {below : List Frame} {meth : Method} {c : Code} {E : q_E} {b L a : Nat} {xs : Nat → Int32} {Q : State → Prop} (X : LX p l s m c E b L a xs) {i : Nat} (hi : i + 6 ≤ L) {f : q_H} {n BB : Nat} {H : Heap} {locs : List Loc} {ls : Array Slot} {cells slots : Nat} (hB : BB ≤ 2 ^ 29) (hJ : JJ E a BB f n) (hW : q_W E f n H) (hS : va_S (q_ge E) s.heap H locs) (hl : lv_has ls 9 [(4, .int (nI i)), (3, .ref (a + 99)), (2, .ref (a + 55)), (1, .ref a), (0, .ref b)]) (hc : cells + 430 ≤ 601024) (hsl : slots + 3900 ≤ 7293034)
    (kk : ∀ (f1 : q_H) (n1 : Nat) (H1 : Heap) (locs1 : List Loc) (ls1 : Array Slot), JJ E a (BB + 100) f1 n1 → q_W E f1 n1 H1 → va_S (q_ge E) s.heap H1 locs1 → lv_has ls1 9 [(4, .int (nI i)), (3, .ref (a + 99)), (2, .ref (a + 55)), (1, .ref a), (0, .ref b)] → W p l e room_1 s m #[Value.ref b] below meth c H1 locs1 (cells + 430) (slots + 3900) Q (F0 m 2099 ls1 [])) :
    W p l e room_1 s m #[Value.ref b] below meth c H locs cells slots Q (F0 m 1460 ls []) := by
  obtain ⟨hx, hb, hml, hown, hts, hX, hbl, hbA, hA, hNc, hst, hL⟩ := X
  obtain ⟨k9, P1, fr, c1, s1, lo, b1, b2, b3, b4, hM1, hM2⟩ := P_pourMeal l E a BB f n hst hB hJ (xs (i + 1)) (xs (i + 2))
  refine lv_aload_n hx hb dL_law_1460 rfl (lv_at hl 3 rfl) ?_
  refine lv_aload_n hx hb dL_law_1461 rfl (lv_at hl 4 rfl) ?_
  refine lv_iload hx hb dL_law_1462 (lv_at hl 0 rfl) ?_
  refine lv_iconst (v := 1) hx hb dL_law_1464 (by decide) ?_
  refine lv_iadd hx hb dL_law_1465 ?_
  rw [show nI i + 1 = nI (i + 1) from by rw [show (1 : Int32) = nI 1 from rfl, nI_add]]
  refine va_sld hx hb hX hbl hbA hS (vp_in_nI (show i + 1 < L by omega) (by omega)) dL_law_1466 ?_
  rw [nI_clamp (show i + 1 < 2 ^ 31 by omega)]
  refine lv_aload_n hx hb dL_law_1467 rfl (lv_at hl 4 rfl) ?_
  refine lv_iload hx hb dL_law_1468 (lv_at hl 0 rfl) ?_
  refine lv_iconst (v := 2) hx hb dL_law_1470 (by decide) ?_
  refine lv_iadd hx hb dL_law_1471 ?_
  rw [show nI i + 2 = nI (i + 2) from by rw [show (2 : Int32) = nI 2 from rfl, nI_add]]
  refine va_sld hx hb hX hbl hbA hS (vp_in_nI (show i + 2 < L by omega) (by omega)) dL_law_1472 ?_
  rw [nI_clamp (show i + 2 < 2 ^ 31 by omega)]
  refine lv_aload_n hx hb dL_law_1473 rfl (lv_at hl 1 rfl) ?_
  refine q_xi (vx_runSX (As := [.ref a, .int (xs (i + 1)), .int (xs (i + 2)), .ref (a + 99)]) (rest := []) ⟨hx, hb, hml, hown, hts⟩ hM1 (vx_cwSW 4 hts gL_law_L_pourMeal rfl rfl rfl (by decide +kernel) ⟨(by show fr + 1 ≤ 2048; omega), (by show 8 + (5 + 11) + lo ≤ 84000; omega)⟩) (q_pSN hNc hA hW hS) rfl rfl hl.1 rfl (lv_room (Nat.le_of_ble_eq_true rfl)) dL_law_1474 ⟨(by show cells + c1 ≤ 601024; omega), (by show slots + s1 ≤ 7293034; omega)⟩) hS (fun C9 ce9 q9 f9 n9 H locs hp hW hS h91 h92 h93 => False.elim hp) (fun r1 f1 n1 H locs hp hW hS => ?_)
  obtain ⟨rfl, hp1⟩ := hp
  obtain ⟨b9, P2, fr2, c2, s2, lo2, e1, e2, e3, e4, hM3, -, ⟨r9, hR9⟩, hM4⟩ := hM2 f1 n1 hp1
  refine lv_istore (lv' := [(5, .int k9), (4, .int (nI i)), (3, .ref (a + 99)), (2, .ref (a + 55)), (1, .ref a), (0, .ref b)]) hx hb dL_law_1477 hl (by decide) rfl (fun ls hl => ?_)
  refine lv_aload_n hx hb dL_law_1479 rfl (lv_at hl 3 rfl) ?_
  refine lv_aload_n hx hb dL_law_1480 rfl (lv_at hl 5 rfl) ?_
  refine lv_iload hx hb dL_law_1481 (lv_at hl 1 rfl) ?_
  refine lv_iconst (v := 1) hx hb dL_law_1483 (by decide) ?_
  refine lv_iadd hx hb dL_law_1484 ?_
  rw [show nI i + 1 = nI (i + 1) from by rw [show (1 : Int32) = nI 1 from rfl, nI_add]]
  refine va_sld hx hb hX hbl hbA hS (vp_in_nI (show i + 1 < L by omega) (by omega)) dL_law_1485 ?_
  rw [nI_clamp (show i + 1 < 2 ^ 31 by omega)]
  refine lv_aload_n hx hb dL_law_1486 rfl (lv_at hl 5 rfl) ?_
  refine lv_iload hx hb dL_law_1487 (lv_at hl 1 rfl) ?_
  refine lv_iconst (v := 2) hx hb dL_law_1489 (by decide) ?_
  refine lv_iadd hx hb dL_law_1490 ?_
  rw [show nI i + 2 = nI (i + 2) from by rw [show (2 : Int32) = nI 2 from rfl, nI_add]]
  refine va_sld hx hb hX hbl hbA hS (vp_in_nI (show i + 2 < L by omega) (by omega)) dL_law_1491 ?_
  rw [nI_clamp (show i + 2 < 2 ^ 31 by omega)]
  refine q_ci (va_runV (As := [.int (xs (i + 1)), .int (xs (i + 2))]) (rest := []) ⟨hx, hb, hml, hown, hts⟩ hM3 (cwV 2 hts gL_law_X14_pourMeal rfl rfl rfl (by decide +kernel) ⟨(by show fr2 + 1 ≤ 2048; omega), (by show 8 + (3 + 11) + lo2 ≤ 84000; omega)⟩) (q_pV hA hW hS (ci := 12) rfl (show f1 (a + 55) = some (cMod (a + 55) r9) from hR9 0 (by decide))) rfl rfl hl.1 rfl (lv_room (Nat.le_of_ble_eq_true rfl)) dL_law_1492 ⟨(by show cells + c1 + c2 ≤ 601024; omega), (by show slots + s1 + s2 ≤ 7293034; omega)⟩) hS (fun r2 f2 n2 H locs hp hW hS => ?_)
  obtain ⟨rfl, hp2⟩ := hp
  obtain ⟨r3, og3, hR3, hk3, ho3, heq3, hJ3⟩ := hM4 f2 n2 hp2
  refine lv_istore (lv' := [(6, .int b9), (5, .int k9), (4, .int (nI i)), (3, .ref (a + 99)), (2, .ref (a + 55)), (1, .ref a), (0, .ref b)]) hx hb dL_law_1495 hl (by decide) rfl (fun ls hl => ?_)
  refine lv_aload_n hx hb dL_law_1497 rfl (lv_at hl 4 rfl) ?_
  refine q_ci (va_runV (As := []) (rest := []) ⟨hx, hb, hml, hown, hts⟩ (kX14_thrown l E f2 n2 (a + 55) r3 hR3) (cwV 0 hts gL_law_X14_thrown rfl rfl rfl (by decide +kernel) ⟨(Nat.le_of_ble_eq_true rfl), (Nat.le_of_ble_eq_true rfl)⟩) (q_pV hA hW hS (ci := 12) rfl (show f2 (a + 55) = some (cMod (a + 55) r3) from hR3 0 (by decide))) rfl rfl hl.1 rfl (lv_room (Nat.le_of_ble_eq_true rfl)) dL_law_1498 ⟨(by show cells + c1 + c2 + 0 ≤ 601024; omega), (by show slots + s1 + s2 + 0 ≤ 7293034; omega)⟩) hS (fun r4 f4 n4 H locs hp hW hS => ?_)
  obtain ⟨rfl, rfl, rfl⟩ := hp
  rw [hk3]
  refine lv_iload hx hb dL_law_1501 (lv_at hl 1 rfl) ?_
  refine lv_icmp_eq (tgt := 1508) hx hb dL_law_1503 (by decide) (fun c9 => ?_) (fun c9 => absurd rfl c9)
  refine lv_iload hx hb dL_law_1508 (lv_at hl 1 rfl) ?_
  refine lv_if_ne (tgt := 1525) hx hb dL_law_1510 (by decide) (fun c0 => ?_) (fun c0 => ?_)
  · refine lv_goto (tgt := 2099) hx hb dL_law_1525 (by decide) ?_
    refine W.widen (k := cells + 430) (n := slots + 3900) (by omega) (by omega) ?_
    exact kk _ _ _ _ _ hJ3 hW hS (lv_sub hl [2, 3, 4, 5, 6] rfl)
  · refine lv_aload_n hx hb dL_law_1513 rfl (lv_at hl 3 rfl) ?_
    refine lv_iconst (v := 0) hx hb dL_law_1514 (by decide) ?_
    refine q_lald hx hb hA hW ho3 (show vp_in (nI 0) 1 from vp_in_nI (by decide) (by decide)) dL_law_1515 ?_
    rw [show (0 : Int32).toNatClampNeg = 0 from rfl]
    refine lv_iload hx hb dL_law_1516 (lv_at hl 0 rfl) ?_
    refine lv_i2l hx hb dL_law_1518 rfl ?_
    refine q_lcmp0 hx hb (heq3 c0) dL_law_1519 ?_
    refine lv_if_eq (tgt := 1525) hx hb dL_law_1520 (by decide) (fun c5 => ?_) (fun c5 => absurd rfl c5)
    refine lv_goto (tgt := 2099) hx hb dL_law_1525 (by decide) ?_
    refine W.widen (k := cells + 430) (n := slots + 3900) (by omega) (by omega) ?_
    exact kk _ _ _ _ _ hJ3 hW hS (lv_sub hl [2, 3, 4, 5, 6] rfl)

set_option maxHeartbeats 4000000 in
set_option maxRecDepth 100000 in
theorem law_c31 {p : Program} {l : Launch} {e : Env} {s : State} {m : MethodId} {below : List Frame} {meth : Method} {c : Code} {E : q_E} {b L a : Nat} {xs : Nat → Int32} {Q : State → Prop} (X : LX p l s m c E b L a xs) {i : Nat} (hi : i + 6 ≤ L) {f : q_H} {n BB : Nat} {H : Heap} {locs : List Loc} {ls : Array Slot} {cells slots : Nat} (hB : BB ≤ 2 ^ 29) (hJ : JJ E a BB f n) (hW : q_W E f n H) (hS : va_S (q_ge E) s.heap H locs) (hl : lv_has ls 9 [(4, .int (nI i)), (3, .ref (a + 99)), (2, .ref (a + 55)), (1, .ref a), (0, .ref b)]) (hc : cells + 430 ≤ 601024) (hsl : slots + 3900 ≤ 7293034)
    (kk : ∀ (f1 : q_H) (n1 : Nat) (H1 : Heap) (locs1 : List Loc) (ls1 : Array Slot), JJ E a (BB + 100) f1 n1 → q_W E f1 n1 H1 → va_S (q_ge E) s.heap H1 locs1 → lv_has ls1 9 [(4, .int (nI i)), (3, .ref (a + 99)), (2, .ref (a + 55)), (1, .ref a), (0, .ref b)] → W p l e room_1 s m #[Value.ref b] below meth c H1 locs1 (cells + 430) (slots + 3900) Q (F0 m 2099 ls1 [])) :
    W p l e room_1 s m #[Value.ref b] below meth c H locs cells slots Q (F0 m 1528 ls []) := by
  obtain ⟨hx, hb, hml, hown, hts, hX, hbl, hbA, hA, hNc, hst, hL⟩ := X
  obtain ⟨k9, P1, fr, c1, s1, lo, b1, b2, b3, b4, hM1, hM2⟩ := P_wash l E a BB f n hst hB hJ (xs (i + 1))
  refine lv_aload_n hx hb dL_law_1528 rfl (lv_at hl 3 rfl) ?_
  refine lv_aload_n hx hb dL_law_1529 rfl (lv_at hl 4 rfl) ?_
  refine lv_iload hx hb dL_law_1530 (lv_at hl 0 rfl) ?_
  refine lv_iconst (v := 1) hx hb dL_law_1532 (by decide) ?_
  refine lv_iadd hx hb dL_law_1533 ?_
  rw [show nI i + 1 = nI (i + 1) from by rw [show (1 : Int32) = nI 1 from rfl, nI_add]]
  refine va_sld hx hb hX hbl hbA hS (vp_in_nI (show i + 1 < L by omega) (by omega)) dL_law_1534 ?_
  rw [nI_clamp (show i + 1 < 2 ^ 31 by omega)]
  refine lv_aload_n hx hb dL_law_1535 rfl (lv_at hl 1 rfl) ?_
  refine q_xi (vx_runSX (As := [.ref a, .int (xs (i + 1)), .ref (a + 99)]) (rest := []) ⟨hx, hb, hml, hown, hts⟩ hM1 (vx_cwSW 3 hts gL_law_L_wash rfl rfl rfl (by decide +kernel) ⟨(by show fr + 1 ≤ 2048; omega), (by show 8 + (4 + 11) + lo ≤ 84000; omega)⟩) (q_pSN hNc hA hW hS) rfl rfl hl.1 rfl (lv_room (Nat.le_of_ble_eq_true rfl)) dL_law_1536 ⟨(by show cells + c1 ≤ 601024; omega), (by show slots + s1 ≤ 7293034; omega)⟩) hS (fun C9 ce9 q9 f9 n9 H locs hp hW hS h91 h92 h93 => False.elim hp) (fun r1 f1 n1 H locs hp hW hS => ?_)
  obtain ⟨rfl, hp1⟩ := hp
  obtain ⟨b9, P2, fr2, c2, s2, lo2, e1, e2, e3, e4, hM3, -, ⟨r9, hR9⟩, hM4⟩ := hM2 f1 n1 hp1
  refine lv_istore (lv' := [(5, .int k9), (4, .int (nI i)), (3, .ref (a + 99)), (2, .ref (a + 55)), (1, .ref a), (0, .ref b)]) hx hb dL_law_1539 hl (by decide) rfl (fun ls hl => ?_)
  refine lv_aload_n hx hb dL_law_1541 rfl (lv_at hl 3 rfl) ?_
  refine lv_aload_n hx hb dL_law_1542 rfl (lv_at hl 5 rfl) ?_
  refine lv_iload hx hb dL_law_1543 (lv_at hl 1 rfl) ?_
  refine lv_iconst (v := 1) hx hb dL_law_1545 (by decide) ?_
  refine lv_iadd hx hb dL_law_1546 ?_
  rw [show nI i + 1 = nI (i + 1) from by rw [show (1 : Int32) = nI 1 from rfl, nI_add]]
  refine va_sld hx hb hX hbl hbA hS (vp_in_nI (show i + 1 < L by omega) (by omega)) dL_law_1547 ?_
  rw [nI_clamp (show i + 1 < 2 ^ 31 by omega)]
  refine q_ci (va_runV (As := [.int (xs (i + 1))]) (rest := []) ⟨hx, hb, hml, hown, hts⟩ hM3 (cwV 1 hts gL_law_X14_wash rfl rfl rfl (by decide +kernel) ⟨(by show fr2 + 1 ≤ 2048; omega), (by show 8 + (3 + 11) + lo2 ≤ 84000; omega)⟩) (q_pV hA hW hS (ci := 12) rfl (show f1 (a + 55) = some (cMod (a + 55) r9) from hR9 0 (by decide))) rfl rfl hl.1 rfl (lv_room (Nat.le_of_ble_eq_true rfl)) dL_law_1548 ⟨(by show cells + c1 + c2 ≤ 601024; omega), (by show slots + s1 + s2 ≤ 7293034; omega)⟩) hS (fun r2 f2 n2 H locs hp hW hS => ?_)
  obtain ⟨rfl, hp2⟩ := hp
  obtain ⟨r3, og3, hR3, hk3, ho3, heq3, hJ3⟩ := hM4 f2 n2 hp2
  refine lv_istore (lv' := [(6, .int b9), (5, .int k9), (4, .int (nI i)), (3, .ref (a + 99)), (2, .ref (a + 55)), (1, .ref a), (0, .ref b)]) hx hb dL_law_1551 hl (by decide) rfl (fun ls hl => ?_)
  refine lv_aload_n hx hb dL_law_1553 rfl (lv_at hl 4 rfl) ?_
  refine q_ci (va_runV (As := []) (rest := []) ⟨hx, hb, hml, hown, hts⟩ (kX14_thrown l E f2 n2 (a + 55) r3 hR3) (cwV 0 hts gL_law_X14_thrown rfl rfl rfl (by decide +kernel) ⟨(Nat.le_of_ble_eq_true rfl), (Nat.le_of_ble_eq_true rfl)⟩) (q_pV hA hW hS (ci := 12) rfl (show f2 (a + 55) = some (cMod (a + 55) r3) from hR3 0 (by decide))) rfl rfl hl.1 rfl (lv_room (Nat.le_of_ble_eq_true rfl)) dL_law_1554 ⟨(by show cells + c1 + c2 + 0 ≤ 601024; omega), (by show slots + s1 + s2 + 0 ≤ 7293034; omega)⟩) hS (fun r4 f4 n4 H locs hp hW hS => ?_)
  obtain ⟨rfl, rfl, rfl⟩ := hp
  rw [hk3]
  refine lv_iload hx hb dL_law_1557 (lv_at hl 1 rfl) ?_
  refine lv_icmp_eq (tgt := 1564) hx hb dL_law_1559 (by decide) (fun c9 => ?_) (fun c9 => absurd rfl c9)
  refine lv_iload hx hb dL_law_1564 (lv_at hl 1 rfl) ?_
  refine lv_if_ne (tgt := 1581) hx hb dL_law_1566 (by decide) (fun c0 => ?_) (fun c0 => ?_)
  · refine lv_goto (tgt := 2099) hx hb dL_law_1581 (by decide) ?_
    refine W.widen (k := cells + 430) (n := slots + 3900) (by omega) (by omega) ?_
    exact kk _ _ _ _ _ hJ3 hW hS (lv_sub hl [2, 3, 4, 5, 6] rfl)
  · refine lv_aload_n hx hb dL_law_1569 rfl (lv_at hl 3 rfl) ?_
    refine lv_iconst (v := 0) hx hb dL_law_1570 (by decide) ?_
    refine q_lald hx hb hA hW ho3 (show vp_in (nI 0) 1 from vp_in_nI (by decide) (by decide)) dL_law_1571 ?_
    rw [show (0 : Int32).toNatClampNeg = 0 from rfl]
    refine lv_iload hx hb dL_law_1572 (lv_at hl 0 rfl) ?_
    refine lv_i2l hx hb dL_law_1574 rfl ?_
    refine q_lcmp0 hx hb (heq3 c0) dL_law_1575 ?_
    refine lv_if_eq (tgt := 1581) hx hb dL_law_1576 (by decide) (fun c5 => ?_) (fun c5 => absurd rfl c5)
    refine lv_goto (tgt := 2099) hx hb dL_law_1581 (by decide) ?_
    refine W.widen (k := cells + 430) (n := slots + 3900) (by omega) (by omega) ?_
    exact kk _ _ _ _ _ hJ3 hW hS (lv_sub hl [2, 3, 4, 5, 6] rfl)

set_option maxHeartbeats 4000000 in
set_option maxRecDepth 100000 in
theorem law_c32 {p : Program} {l : Launch} {e : Env} {s : State} {m : MethodId} {below : List Frame} {meth : Method} {c : Code} {E : q_E} {b L a : Nat} {xs : Nat → Int32} {Q : State → Prop} (X : LX p l s m c E b L a xs) {i : Nat} (hi : i + 6 ≤ L) {f : q_H} {n BB : Nat} {H : Heap} {locs : List Loc} {ls : Array Slot} {cells slots : Nat} (hB : BB ≤ 2 ^ 29) (hJ : JJ E a BB f n) (hW : q_W E f n H) (hS : va_S (q_ge E) s.heap H locs) (hl : lv_has ls 9 [(4, .int (nI i)), (3, .ref (a + 99)), (2, .ref (a + 55)), (1, .ref a), (0, .ref b)]) (hc : cells + 430 ≤ 601024) (hsl : slots + 3900 ≤ 7293034)
    (kk : ∀ (f1 : q_H) (n1 : Nat) (H1 : Heap) (locs1 : List Loc) (ls1 : Array Slot), JJ E a (BB + 100) f1 n1 → q_W E f1 n1 H1 → va_S (q_ge E) s.heap H1 locs1 → lv_has ls1 9 [(4, .int (nI i)), (3, .ref (a + 99)), (2, .ref (a + 55)), (1, .ref a), (0, .ref b)] → W p l e room_1 s m #[Value.ref b] below meth c H1 locs1 (cells + 430) (slots + 3900) Q (F0 m 2099 ls1 [])) :
    W p l e room_1 s m #[Value.ref b] below meth c H locs cells slots Q (F0 m 1584 ls []) := by
  obtain ⟨hx, hb, hml, hown, hts, hX, hbl, hbA, hA, hNc, hst, hL⟩ := X
  obtain ⟨k9, P1, fr, c1, s1, lo, b1, b2, b3, b4, hM1, hM2⟩ := P_rest l E a BB f n hst hB hJ (xs (i + 1))
  refine lv_aload_n hx hb dL_law_1584 rfl (lv_at hl 3 rfl) ?_
  refine lv_aload_n hx hb dL_law_1585 rfl (lv_at hl 4 rfl) ?_
  refine lv_iload hx hb dL_law_1586 (lv_at hl 0 rfl) ?_
  refine lv_iconst (v := 1) hx hb dL_law_1588 (by decide) ?_
  refine lv_iadd hx hb dL_law_1589 ?_
  rw [show nI i + 1 = nI (i + 1) from by rw [show (1 : Int32) = nI 1 from rfl, nI_add]]
  refine va_sld hx hb hX hbl hbA hS (vp_in_nI (show i + 1 < L by omega) (by omega)) dL_law_1590 ?_
  rw [nI_clamp (show i + 1 < 2 ^ 31 by omega)]
  refine lv_aload_n hx hb dL_law_1591 rfl (lv_at hl 1 rfl) ?_
  refine q_xi (vx_runSX (As := [.ref a, .int (xs (i + 1)), .ref (a + 99)]) (rest := []) ⟨hx, hb, hml, hown, hts⟩ hM1 (vx_cwSW 3 hts gL_law_L_rest rfl rfl rfl (by decide +kernel) ⟨(by show fr + 1 ≤ 2048; omega), (by show 8 + (4 + 11) + lo ≤ 84000; omega)⟩) (q_pSN hNc hA hW hS) rfl rfl hl.1 rfl (lv_room (Nat.le_of_ble_eq_true rfl)) dL_law_1592 ⟨(by show cells + c1 ≤ 601024; omega), (by show slots + s1 ≤ 7293034; omega)⟩) hS (fun C9 ce9 q9 f9 n9 H locs hp hW hS h91 h92 h93 => False.elim hp) (fun r1 f1 n1 H locs hp hW hS => ?_)
  obtain ⟨rfl, hp1⟩ := hp
  obtain ⟨b9, P2, fr2, c2, s2, lo2, e1, e2, e3, e4, hM3, -, ⟨r9, hR9⟩, hM4⟩ := hM2 f1 n1 hp1
  refine lv_istore (lv' := [(5, .int k9), (4, .int (nI i)), (3, .ref (a + 99)), (2, .ref (a + 55)), (1, .ref a), (0, .ref b)]) hx hb dL_law_1595 hl (by decide) rfl (fun ls hl => ?_)
  refine lv_aload_n hx hb dL_law_1597 rfl (lv_at hl 3 rfl) ?_
  refine lv_aload_n hx hb dL_law_1598 rfl (lv_at hl 5 rfl) ?_
  refine lv_iload hx hb dL_law_1599 (lv_at hl 1 rfl) ?_
  refine lv_iconst (v := 1) hx hb dL_law_1601 (by decide) ?_
  refine lv_iadd hx hb dL_law_1602 ?_
  rw [show nI i + 1 = nI (i + 1) from by rw [show (1 : Int32) = nI 1 from rfl, nI_add]]
  refine va_sld hx hb hX hbl hbA hS (vp_in_nI (show i + 1 < L by omega) (by omega)) dL_law_1603 ?_
  rw [nI_clamp (show i + 1 < 2 ^ 31 by omega)]
  refine q_ci (va_runV (As := [.int (xs (i + 1))]) (rest := []) ⟨hx, hb, hml, hown, hts⟩ hM3 (cwV 1 hts gL_law_X14_rest rfl rfl rfl (by decide +kernel) ⟨(by show fr2 + 1 ≤ 2048; omega), (by show 8 + (4 + 11) + lo2 ≤ 84000; omega)⟩) (q_pV hA hW hS (ci := 12) rfl (show f1 (a + 55) = some (cMod (a + 55) r9) from hR9 0 (by decide))) rfl rfl hl.1 rfl (lv_room (Nat.le_of_ble_eq_true rfl)) dL_law_1604 ⟨(by show cells + c1 + c2 ≤ 601024; omega), (by show slots + s1 + s2 ≤ 7293034; omega)⟩) hS (fun r2 f2 n2 H locs hp hW hS => ?_)
  obtain ⟨rfl, hp2⟩ := hp
  obtain ⟨r3, og3, hR3, hk3, ho3, heq3, hJ3⟩ := hM4 f2 n2 hp2
  refine lv_istore (lv' := [(6, .int b9), (5, .int k9), (4, .int (nI i)), (3, .ref (a + 99)), (2, .ref (a + 55)), (1, .ref a), (0, .ref b)]) hx hb dL_law_1607 hl (by decide) rfl (fun ls hl => ?_)
  refine lv_aload_n hx hb dL_law_1609 rfl (lv_at hl 4 rfl) ?_
  refine q_ci (va_runV (As := []) (rest := []) ⟨hx, hb, hml, hown, hts⟩ (kX14_thrown l E f2 n2 (a + 55) r3 hR3) (cwV 0 hts gL_law_X14_thrown rfl rfl rfl (by decide +kernel) ⟨(Nat.le_of_ble_eq_true rfl), (Nat.le_of_ble_eq_true rfl)⟩) (q_pV hA hW hS (ci := 12) rfl (show f2 (a + 55) = some (cMod (a + 55) r3) from hR3 0 (by decide))) rfl rfl hl.1 rfl (lv_room (Nat.le_of_ble_eq_true rfl)) dL_law_1610 ⟨(by show cells + c1 + c2 + 0 ≤ 601024; omega), (by show slots + s1 + s2 + 0 ≤ 7293034; omega)⟩) hS (fun r4 f4 n4 H locs hp hW hS => ?_)
  obtain ⟨rfl, rfl, rfl⟩ := hp
  rw [hk3]
  refine lv_iload hx hb dL_law_1613 (lv_at hl 1 rfl) ?_
  refine lv_icmp_eq (tgt := 1620) hx hb dL_law_1615 (by decide) (fun c9 => ?_) (fun c9 => absurd rfl c9)
  refine lv_iload hx hb dL_law_1620 (lv_at hl 1 rfl) ?_
  refine lv_if_ne (tgt := 1637) hx hb dL_law_1622 (by decide) (fun c0 => ?_) (fun c0 => ?_)
  · refine lv_goto (tgt := 2099) hx hb dL_law_1637 (by decide) ?_
    refine W.widen (k := cells + 430) (n := slots + 3900) (by omega) (by omega) ?_
    exact kk _ _ _ _ _ hJ3 hW hS (lv_sub hl [2, 3, 4, 5, 6] rfl)
  · refine lv_aload_n hx hb dL_law_1625 rfl (lv_at hl 3 rfl) ?_
    refine lv_iconst (v := 0) hx hb dL_law_1626 (by decide) ?_
    refine q_lald hx hb hA hW ho3 (show vp_in (nI 0) 1 from vp_in_nI (by decide) (by decide)) dL_law_1627 ?_
    rw [show (0 : Int32).toNatClampNeg = 0 from rfl]
    refine lv_iload hx hb dL_law_1628 (lv_at hl 0 rfl) ?_
    refine lv_i2l hx hb dL_law_1630 rfl ?_
    refine q_lcmp0 hx hb (heq3 c0) dL_law_1631 ?_
    refine lv_if_eq (tgt := 1637) hx hb dL_law_1632 (by decide) (fun c5 => ?_) (fun c5 => absurd rfl c5)
    refine lv_goto (tgt := 2099) hx hb dL_law_1637 (by decide) ?_
    refine W.widen (k := cells + 430) (n := slots + 3900) (by omega) (by omega) ?_
    exact kk _ _ _ _ _ hJ3 hW hS (lv_sub hl [2, 3, 4, 5, 6] rfl)

set_option maxHeartbeats 4000000 in
set_option maxRecDepth 100000 in
theorem law_c33 {p : Program} {l : Launch} {e : Env} {s : State} {m : MethodId} {below : List Frame} {meth : Method} {c : Code} {E : q_E} {b L a : Nat} {xs : Nat → Int32} {Q : State → Prop} (X : LX p l s m c E b L a xs) {i : Nat} (hi : i + 6 ≤ L) {f : q_H} {n BB : Nat} {H : Heap} {locs : List Loc} {ls : Array Slot} {cells slots : Nat} (hB : BB ≤ 2 ^ 29) (hJ : JJ E a BB f n) (hW : q_W E f n H) (hS : va_S (q_ge E) s.heap H locs) (hl : lv_has ls 9 [(4, .int (nI i)), (3, .ref (a + 99)), (2, .ref (a + 55)), (1, .ref a), (0, .ref b)]) (hc : cells + 430 ≤ 601024) (hsl : slots + 3900 ≤ 7293034)
    (kk : ∀ (f1 : q_H) (n1 : Nat) (H1 : Heap) (locs1 : List Loc) (ls1 : Array Slot), JJ E a (BB + 100) f1 n1 → q_W E f1 n1 H1 → va_S (q_ge E) s.heap H1 locs1 → lv_has ls1 9 [(4, .int (nI i)), (3, .ref (a + 99)), (2, .ref (a + 55)), (1, .ref a), (0, .ref b)] → W p l e room_1 s m #[Value.ref b] below meth c H1 locs1 (cells + 430) (slots + 3900) Q (F0 m 2099 ls1 [])) :
    W p l e room_1 s m #[Value.ref b] below meth c H locs cells slots Q (F0 m 1640 ls []) := by
  obtain ⟨hx, hb, hml, hown, hts, hX, hbl, hbA, hA, hNc, hst, hL⟩ := X
  obtain ⟨k9, P1, fr, c1, s1, lo, b1, b2, b3, b4, hM1, hM2⟩ := P_cook l E a BB f n hst hB hJ (xs (i + 1))
  refine lv_aload_n hx hb dL_law_1640 rfl (lv_at hl 3 rfl) ?_
  refine lv_aload_n hx hb dL_law_1641 rfl (lv_at hl 4 rfl) ?_
  refine lv_iload hx hb dL_law_1642 (lv_at hl 0 rfl) ?_
  refine lv_iconst (v := 1) hx hb dL_law_1644 (by decide) ?_
  refine lv_iadd hx hb dL_law_1645 ?_
  rw [show nI i + 1 = nI (i + 1) from by rw [show (1 : Int32) = nI 1 from rfl, nI_add]]
  refine va_sld hx hb hX hbl hbA hS (vp_in_nI (show i + 1 < L by omega) (by omega)) dL_law_1646 ?_
  rw [nI_clamp (show i + 1 < 2 ^ 31 by omega)]
  refine lv_aload_n hx hb dL_law_1647 rfl (lv_at hl 1 rfl) ?_
  refine q_xi (vx_runSX (As := [.ref a, .int (xs (i + 1)), .ref (a + 99)]) (rest := []) ⟨hx, hb, hml, hown, hts⟩ hM1 (vx_cwSW 3 hts gL_law_L_cook rfl rfl rfl (by decide +kernel) ⟨(by show fr + 1 ≤ 2048; omega), (by show 8 + (4 + 11) + lo ≤ 84000; omega)⟩) (q_pSN hNc hA hW hS) rfl rfl hl.1 rfl (lv_room (Nat.le_of_ble_eq_true rfl)) dL_law_1648 ⟨(by show cells + c1 ≤ 601024; omega), (by show slots + s1 ≤ 7293034; omega)⟩) hS (fun C9 ce9 q9 f9 n9 H locs hp hW hS h91 h92 h93 => False.elim hp) (fun r1 f1 n1 H locs hp hW hS => ?_)
  obtain ⟨rfl, hp1⟩ := hp
  obtain ⟨b9, P2, fr2, c2, s2, lo2, e1, e2, e3, e4, hM3, -, ⟨r9, hR9⟩, hM4⟩ := hM2 f1 n1 hp1
  refine lv_istore (lv' := [(5, .int k9), (4, .int (nI i)), (3, .ref (a + 99)), (2, .ref (a + 55)), (1, .ref a), (0, .ref b)]) hx hb dL_law_1651 hl (by decide) rfl (fun ls hl => ?_)
  refine lv_aload_n hx hb dL_law_1653 rfl (lv_at hl 3 rfl) ?_
  refine lv_aload_n hx hb dL_law_1654 rfl (lv_at hl 5 rfl) ?_
  refine lv_iload hx hb dL_law_1655 (lv_at hl 1 rfl) ?_
  refine lv_iconst (v := 1) hx hb dL_law_1657 (by decide) ?_
  refine lv_iadd hx hb dL_law_1658 ?_
  rw [show nI i + 1 = nI (i + 1) from by rw [show (1 : Int32) = nI 1 from rfl, nI_add]]
  refine va_sld hx hb hX hbl hbA hS (vp_in_nI (show i + 1 < L by omega) (by omega)) dL_law_1659 ?_
  rw [nI_clamp (show i + 1 < 2 ^ 31 by omega)]
  refine q_ci (va_runV (As := [.int (xs (i + 1))]) (rest := []) ⟨hx, hb, hml, hown, hts⟩ hM3 (cwV 1 hts gL_law_X14_cook rfl rfl rfl (by decide +kernel) ⟨(by show fr2 + 1 ≤ 2048; omega), (by show 8 + (3 + 11) + lo2 ≤ 84000; omega)⟩) (q_pV hA hW hS (ci := 12) rfl (show f1 (a + 55) = some (cMod (a + 55) r9) from hR9 0 (by decide))) rfl rfl hl.1 rfl (lv_room (Nat.le_of_ble_eq_true rfl)) dL_law_1660 ⟨(by show cells + c1 + c2 ≤ 601024; omega), (by show slots + s1 + s2 ≤ 7293034; omega)⟩) hS (fun r2 f2 n2 H locs hp hW hS => ?_)
  obtain ⟨rfl, hp2⟩ := hp
  obtain ⟨r3, og3, hR3, hk3, ho3, heq3, hJ3⟩ := hM4 f2 n2 hp2
  refine lv_istore (lv' := [(6, .int b9), (5, .int k9), (4, .int (nI i)), (3, .ref (a + 99)), (2, .ref (a + 55)), (1, .ref a), (0, .ref b)]) hx hb dL_law_1663 hl (by decide) rfl (fun ls hl => ?_)
  refine lv_aload_n hx hb dL_law_1665 rfl (lv_at hl 4 rfl) ?_
  refine q_ci (va_runV (As := []) (rest := []) ⟨hx, hb, hml, hown, hts⟩ (kX14_thrown l E f2 n2 (a + 55) r3 hR3) (cwV 0 hts gL_law_X14_thrown rfl rfl rfl (by decide +kernel) ⟨(Nat.le_of_ble_eq_true rfl), (Nat.le_of_ble_eq_true rfl)⟩) (q_pV hA hW hS (ci := 12) rfl (show f2 (a + 55) = some (cMod (a + 55) r3) from hR3 0 (by decide))) rfl rfl hl.1 rfl (lv_room (Nat.le_of_ble_eq_true rfl)) dL_law_1666 ⟨(by show cells + c1 + c2 + 0 ≤ 601024; omega), (by show slots + s1 + s2 + 0 ≤ 7293034; omega)⟩) hS (fun r4 f4 n4 H locs hp hW hS => ?_)
  obtain ⟨rfl, rfl, rfl⟩ := hp
  rw [hk3]
  refine lv_iload hx hb dL_law_1669 (lv_at hl 1 rfl) ?_
  refine lv_icmp_eq (tgt := 1676) hx hb dL_law_1671 (by decide) (fun c9 => ?_) (fun c9 => absurd rfl c9)
  refine lv_iload hx hb dL_law_1676 (lv_at hl 1 rfl) ?_
  refine lv_if_ne (tgt := 1693) hx hb dL_law_1678 (by decide) (fun c0 => ?_) (fun c0 => ?_)
  · refine lv_goto (tgt := 2099) hx hb dL_law_1693 (by decide) ?_
    refine W.widen (k := cells + 430) (n := slots + 3900) (by omega) (by omega) ?_
    exact kk _ _ _ _ _ hJ3 hW hS (lv_sub hl [2, 3, 4, 5, 6] rfl)
  · refine lv_aload_n hx hb dL_law_1681 rfl (lv_at hl 3 rfl) ?_
    refine lv_iconst (v := 0) hx hb dL_law_1682 (by decide) ?_
    refine q_lald hx hb hA hW ho3 (show vp_in (nI 0) 1 from vp_in_nI (by decide) (by decide)) dL_law_1683 ?_
    rw [show (0 : Int32).toNatClampNeg = 0 from rfl]
    refine lv_iload hx hb dL_law_1684 (lv_at hl 0 rfl) ?_
    refine lv_i2l hx hb dL_law_1686 rfl ?_
    refine q_lcmp0 hx hb (heq3 c0) dL_law_1687 ?_
    refine lv_if_eq (tgt := 1693) hx hb dL_law_1688 (by decide) (fun c5 => ?_) (fun c5 => absurd rfl c5)
    refine lv_goto (tgt := 2099) hx hb dL_law_1693 (by decide) ?_
    refine W.widen (k := cells + 430) (n := slots + 3900) (by omega) (by omega) ?_
    exact kk _ _ _ _ _ hJ3 hW hS (lv_sub hl [2, 3, 4, 5, 6] rfl)

set_option maxHeartbeats 4000000 in
set_option maxRecDepth 100000 in
theorem law_c34 {p : Program} {l : Launch} {e : Env} {s : State} {m : MethodId} {below : List Frame} {meth : Method} {c : Code} {E : q_E} {b L a : Nat} {xs : Nat → Int32} {Q : State → Prop} (X : LX p l s m c E b L a xs) {i : Nat} (hi : i + 6 ≤ L) {f : q_H} {n BB : Nat} {H : Heap} {locs : List Loc} {ls : Array Slot} {cells slots : Nat} (hB : BB ≤ 2 ^ 29) (hJ : JJ E a BB f n) (hW : q_W E f n H) (hS : va_S (q_ge E) s.heap H locs) (hl : lv_has ls 9 [(4, .int (nI i)), (3, .ref (a + 99)), (2, .ref (a + 55)), (1, .ref a), (0, .ref b)]) (hc : cells + 430 ≤ 601024) (hsl : slots + 3900 ≤ 7293034)
    (kk : ∀ (f1 : q_H) (n1 : Nat) (H1 : Heap) (locs1 : List Loc) (ls1 : Array Slot), JJ E a (BB + 100) f1 n1 → q_W E f1 n1 H1 → va_S (q_ge E) s.heap H1 locs1 → lv_has ls1 9 [(4, .int (nI i)), (3, .ref (a + 99)), (2, .ref (a + 55)), (1, .ref a), (0, .ref b)] → W p l e room_1 s m #[Value.ref b] below meth c H1 locs1 (cells + 430) (slots + 3900) Q (F0 m 2099 ls1 [])) :
    W p l e room_1 s m #[Value.ref b] below meth c H locs cells slots Q (F0 m 1696 ls []) := by
  obtain ⟨hx, hb, hml, hown, hts, hX, hbl, hbA, hA, hNc, hst, hL⟩ := X
  obtain ⟨k9, P1, fr, c1, s1, lo, b1, b2, b3, b4, hM1, hM2⟩ := P_minutesOfRecipe l E a BB f n hst hB hJ (xs (i + 1))
  refine lv_aload_n hx hb dL_law_1696 rfl (lv_at hl 3 rfl) ?_
  refine lv_aload_n hx hb dL_law_1697 rfl (lv_at hl 4 rfl) ?_
  refine lv_iload hx hb dL_law_1698 (lv_at hl 0 rfl) ?_
  refine lv_iconst (v := 1) hx hb dL_law_1700 (by decide) ?_
  refine lv_iadd hx hb dL_law_1701 ?_
  rw [show nI i + 1 = nI (i + 1) from by rw [show (1 : Int32) = nI 1 from rfl, nI_add]]
  refine va_sld hx hb hX hbl hbA hS (vp_in_nI (show i + 1 < L by omega) (by omega)) dL_law_1702 ?_
  rw [nI_clamp (show i + 1 < 2 ^ 31 by omega)]
  refine lv_aload_n hx hb dL_law_1703 rfl (lv_at hl 1 rfl) ?_
  refine q_xi (vx_runSX (As := [.ref a, .int (xs (i + 1)), .ref (a + 99)]) (rest := []) ⟨hx, hb, hml, hown, hts⟩ hM1 (vx_cwSW 3 hts gL_law_L_minutesOfRecipe rfl rfl rfl (by decide +kernel) ⟨(by show fr + 1 ≤ 2048; omega), (by show 8 + (4 + 11) + lo ≤ 84000; omega)⟩) (q_pSN hNc hA hW hS) rfl rfl hl.1 rfl (lv_room (Nat.le_of_ble_eq_true rfl)) dL_law_1704 ⟨(by show cells + c1 ≤ 601024; omega), (by show slots + s1 ≤ 7293034; omega)⟩) hS (fun C9 ce9 q9 f9 n9 H locs hp hW hS h91 h92 h93 => False.elim hp) (fun r1 f1 n1 H locs hp hW hS => ?_)
  obtain ⟨rfl, hp1⟩ := hp
  obtain ⟨b9, P2, fr2, c2, s2, lo2, e1, e2, e3, e4, hM3, -, ⟨r9, hR9⟩, hM4⟩ := hM2 f1 n1 hp1
  refine lv_istore (lv' := [(5, .int k9), (4, .int (nI i)), (3, .ref (a + 99)), (2, .ref (a + 55)), (1, .ref a), (0, .ref b)]) hx hb dL_law_1707 hl (by decide) rfl (fun ls hl => ?_)
  refine lv_aload_n hx hb dL_law_1709 rfl (lv_at hl 3 rfl) ?_
  refine lv_aload_n hx hb dL_law_1710 rfl (lv_at hl 5 rfl) ?_
  refine lv_iload hx hb dL_law_1711 (lv_at hl 1 rfl) ?_
  refine lv_iconst (v := 1) hx hb dL_law_1713 (by decide) ?_
  refine lv_iadd hx hb dL_law_1714 ?_
  rw [show nI i + 1 = nI (i + 1) from by rw [show (1 : Int32) = nI 1 from rfl, nI_add]]
  refine va_sld hx hb hX hbl hbA hS (vp_in_nI (show i + 1 < L by omega) (by omega)) dL_law_1715 ?_
  rw [nI_clamp (show i + 1 < 2 ^ 31 by omega)]
  refine q_ci (va_runV (As := [.int (xs (i + 1))]) (rest := []) ⟨hx, hb, hml, hown, hts⟩ hM3 (cwV 1 hts gL_law_X14_minutesOfRecipe rfl rfl rfl (by decide +kernel) ⟨(by show fr2 + 1 ≤ 2048; omega), (by show 8 + (2 + 11) + lo2 ≤ 84000; omega)⟩) (q_pV hA hW hS (ci := 12) rfl (show f1 (a + 55) = some (cMod (a + 55) r9) from hR9 0 (by decide))) rfl rfl hl.1 rfl (lv_room (Nat.le_of_ble_eq_true rfl)) dL_law_1716 ⟨(by show cells + c1 + c2 ≤ 601024; omega), (by show slots + s1 + s2 ≤ 7293034; omega)⟩) hS (fun r2 f2 n2 H locs hp hW hS => ?_)
  obtain ⟨rfl, hp2⟩ := hp
  obtain ⟨r3, og3, hR3, hk3, ho3, heq3, hJ3⟩ := hM4 f2 n2 hp2
  refine lv_istore (lv' := [(6, .int b9), (5, .int k9), (4, .int (nI i)), (3, .ref (a + 99)), (2, .ref (a + 55)), (1, .ref a), (0, .ref b)]) hx hb dL_law_1719 hl (by decide) rfl (fun ls hl => ?_)
  refine lv_aload_n hx hb dL_law_1721 rfl (lv_at hl 4 rfl) ?_
  refine q_ci (va_runV (As := []) (rest := []) ⟨hx, hb, hml, hown, hts⟩ (kX14_thrown l E f2 n2 (a + 55) r3 hR3) (cwV 0 hts gL_law_X14_thrown rfl rfl rfl (by decide +kernel) ⟨(Nat.le_of_ble_eq_true rfl), (Nat.le_of_ble_eq_true rfl)⟩) (q_pV hA hW hS (ci := 12) rfl (show f2 (a + 55) = some (cMod (a + 55) r3) from hR3 0 (by decide))) rfl rfl hl.1 rfl (lv_room (Nat.le_of_ble_eq_true rfl)) dL_law_1722 ⟨(by show cells + c1 + c2 + 0 ≤ 601024; omega), (by show slots + s1 + s2 + 0 ≤ 7293034; omega)⟩) hS (fun r4 f4 n4 H locs hp hW hS => ?_)
  obtain ⟨rfl, rfl, rfl⟩ := hp
  rw [hk3]
  refine lv_iload hx hb dL_law_1725 (lv_at hl 1 rfl) ?_
  refine lv_icmp_eq (tgt := 1732) hx hb dL_law_1727 (by decide) (fun c9 => ?_) (fun c9 => absurd rfl c9)
  refine lv_iload hx hb dL_law_1732 (lv_at hl 1 rfl) ?_
  refine lv_if_ne (tgt := 1749) hx hb dL_law_1734 (by decide) (fun c0 => ?_) (fun c0 => ?_)
  · refine lv_goto (tgt := 2099) hx hb dL_law_1749 (by decide) ?_
    refine W.widen (k := cells + 430) (n := slots + 3900) (by omega) (by omega) ?_
    exact kk _ _ _ _ _ hJ3 hW hS (lv_sub hl [2, 3, 4, 5, 6] rfl)
  · refine lv_aload_n hx hb dL_law_1737 rfl (lv_at hl 3 rfl) ?_
    refine lv_iconst (v := 0) hx hb dL_law_1738 (by decide) ?_
    refine q_lald hx hb hA hW ho3 (show vp_in (nI 0) 1 from vp_in_nI (by decide) (by decide)) dL_law_1739 ?_
    rw [show (0 : Int32).toNatClampNeg = 0 from rfl]
    refine lv_iload hx hb dL_law_1740 (lv_at hl 0 rfl) ?_
    refine lv_i2l hx hb dL_law_1742 rfl ?_
    refine q_lcmp0 hx hb (heq3 c0) dL_law_1743 ?_
    refine lv_if_eq (tgt := 1749) hx hb dL_law_1744 (by decide) (fun c5 => ?_) (fun c5 => absurd rfl c5)
    refine lv_goto (tgt := 2099) hx hb dL_law_1749 (by decide) ?_
    refine W.widen (k := cells + 430) (n := slots + 3900) (by omega) (by omega) ?_
    exact kk _ _ _ _ _ hJ3 hW hS (lv_sub hl [2, 3, 4, 5, 6] rfl)

set_option maxHeartbeats 4000000 in
set_option maxRecDepth 100000 in
theorem law_c35 {p : Program} {l : Launch} {e : Env} {s : State} {m : MethodId} {below : List Frame} {meth : Method} {c : Code} {E : q_E} {b L a : Nat} {xs : Nat → Int32} {Q : State → Prop} (X : LX p l s m c E b L a xs) {i : Nat} (hi : i + 6 ≤ L) {f : q_H} {n BB : Nat} {H : Heap} {locs : List Loc} {ls : Array Slot} {cells slots : Nat} (hB : BB ≤ 2 ^ 29) (hJ : JJ E a BB f n) (hW : q_W E f n H) (hS : va_S (q_ge E) s.heap H locs) (hl : lv_has ls 9 [(4, .int (nI i)), (3, .ref (a + 99)), (2, .ref (a + 55)), (1, .ref a), (0, .ref b)]) (hc : cells + 430 ≤ 601024) (hsl : slots + 3900 ≤ 7293034)
    (kk : ∀ (f1 : q_H) (n1 : Nat) (H1 : Heap) (locs1 : List Loc) (ls1 : Array Slot), JJ E a (BB + 100) f1 n1 → q_W E f1 n1 H1 → va_S (q_ge E) s.heap H1 locs1 → lv_has ls1 9 [(4, .int (nI i)), (3, .ref (a + 99)), (2, .ref (a + 55)), (1, .ref a), (0, .ref b)] → W p l e room_1 s m #[Value.ref b] below meth c H1 locs1 (cells + 430) (slots + 3900) Q (F0 m 2099 ls1 [])) :
    W p l e room_1 s m #[Value.ref b] below meth c H locs cells slots Q (F0 m 1752 ls []) := by
  obtain ⟨hx, hb, hml, hown, hts, hX, hbl, hbA, hA, hNc, hst, hL⟩ := X
  obtain ⟨k9, P1, fr, c1, s1, lo, b1, b2, b3, b4, hM1, hM2⟩ := P_warningsOfRecipe l E a BB f n hst hB hJ (xs (i + 1))
  refine lv_aload_n hx hb dL_law_1752 rfl (lv_at hl 3 rfl) ?_
  refine lv_aload_n hx hb dL_law_1753 rfl (lv_at hl 4 rfl) ?_
  refine lv_iload hx hb dL_law_1754 (lv_at hl 0 rfl) ?_
  refine lv_iconst (v := 1) hx hb dL_law_1756 (by decide) ?_
  refine lv_iadd hx hb dL_law_1757 ?_
  rw [show nI i + 1 = nI (i + 1) from by rw [show (1 : Int32) = nI 1 from rfl, nI_add]]
  refine va_sld hx hb hX hbl hbA hS (vp_in_nI (show i + 1 < L by omega) (by omega)) dL_law_1758 ?_
  rw [nI_clamp (show i + 1 < 2 ^ 31 by omega)]
  refine lv_aload_n hx hb dL_law_1759 rfl (lv_at hl 1 rfl) ?_
  refine q_xi (vx_runSX (As := [.ref a, .int (xs (i + 1)), .ref (a + 99)]) (rest := []) ⟨hx, hb, hml, hown, hts⟩ hM1 (vx_cwSW 3 hts gL_law_L_warningsOfRecipe rfl rfl rfl (by decide +kernel) ⟨(by show fr + 1 ≤ 2048; omega), (by show 8 + (4 + 11) + lo ≤ 84000; omega)⟩) (q_pSN hNc hA hW hS) rfl rfl hl.1 rfl (lv_room (Nat.le_of_ble_eq_true rfl)) dL_law_1760 ⟨(by show cells + c1 ≤ 601024; omega), (by show slots + s1 ≤ 7293034; omega)⟩) hS (fun C9 ce9 q9 f9 n9 H locs hp hW hS h91 h92 h93 => False.elim hp) (fun r1 f1 n1 H locs hp hW hS => ?_)
  obtain ⟨rfl, hp1⟩ := hp
  obtain ⟨b9, P2, fr2, c2, s2, lo2, e1, e2, e3, e4, hM3, -, ⟨r9, hR9⟩, hM4⟩ := hM2 f1 n1 hp1
  refine lv_istore (lv' := [(5, .int k9), (4, .int (nI i)), (3, .ref (a + 99)), (2, .ref (a + 55)), (1, .ref a), (0, .ref b)]) hx hb dL_law_1763 hl (by decide) rfl (fun ls hl => ?_)
  refine lv_aload_n hx hb dL_law_1765 rfl (lv_at hl 3 rfl) ?_
  refine lv_aload_n hx hb dL_law_1766 rfl (lv_at hl 5 rfl) ?_
  refine lv_iload hx hb dL_law_1767 (lv_at hl 1 rfl) ?_
  refine lv_iconst (v := 1) hx hb dL_law_1769 (by decide) ?_
  refine lv_iadd hx hb dL_law_1770 ?_
  rw [show nI i + 1 = nI (i + 1) from by rw [show (1 : Int32) = nI 1 from rfl, nI_add]]
  refine va_sld hx hb hX hbl hbA hS (vp_in_nI (show i + 1 < L by omega) (by omega)) dL_law_1771 ?_
  rw [nI_clamp (show i + 1 < 2 ^ 31 by omega)]
  refine q_ci (va_runV (As := [.int (xs (i + 1))]) (rest := []) ⟨hx, hb, hml, hown, hts⟩ hM3 (cwV 1 hts gL_law_X14_warningsOfRecipe rfl rfl rfl (by decide +kernel) ⟨(by show fr2 + 1 ≤ 2048; omega), (by show 8 + (2 + 11) + lo2 ≤ 84000; omega)⟩) (q_pV hA hW hS (ci := 12) rfl (show f1 (a + 55) = some (cMod (a + 55) r9) from hR9 0 (by decide))) rfl rfl hl.1 rfl (lv_room (Nat.le_of_ble_eq_true rfl)) dL_law_1772 ⟨(by show cells + c1 + c2 ≤ 601024; omega), (by show slots + s1 + s2 ≤ 7293034; omega)⟩) hS (fun r2 f2 n2 H locs hp hW hS => ?_)
  obtain ⟨rfl, hp2⟩ := hp
  obtain ⟨r3, og3, hR3, hk3, ho3, heq3, hJ3⟩ := hM4 f2 n2 hp2
  refine lv_istore (lv' := [(6, .int b9), (5, .int k9), (4, .int (nI i)), (3, .ref (a + 99)), (2, .ref (a + 55)), (1, .ref a), (0, .ref b)]) hx hb dL_law_1775 hl (by decide) rfl (fun ls hl => ?_)
  refine lv_aload_n hx hb dL_law_1777 rfl (lv_at hl 4 rfl) ?_
  refine q_ci (va_runV (As := []) (rest := []) ⟨hx, hb, hml, hown, hts⟩ (kX14_thrown l E f2 n2 (a + 55) r3 hR3) (cwV 0 hts gL_law_X14_thrown rfl rfl rfl (by decide +kernel) ⟨(Nat.le_of_ble_eq_true rfl), (Nat.le_of_ble_eq_true rfl)⟩) (q_pV hA hW hS (ci := 12) rfl (show f2 (a + 55) = some (cMod (a + 55) r3) from hR3 0 (by decide))) rfl rfl hl.1 rfl (lv_room (Nat.le_of_ble_eq_true rfl)) dL_law_1778 ⟨(by show cells + c1 + c2 + 0 ≤ 601024; omega), (by show slots + s1 + s2 + 0 ≤ 7293034; omega)⟩) hS (fun r4 f4 n4 H locs hp hW hS => ?_)
  obtain ⟨rfl, rfl, rfl⟩ := hp
  rw [hk3]
  refine lv_iload hx hb dL_law_1781 (lv_at hl 1 rfl) ?_
  refine lv_icmp_eq (tgt := 1788) hx hb dL_law_1783 (by decide) (fun c9 => ?_) (fun c9 => absurd rfl c9)
  refine lv_iload hx hb dL_law_1788 (lv_at hl 1 rfl) ?_
  refine lv_if_ne (tgt := 1805) hx hb dL_law_1790 (by decide) (fun c0 => ?_) (fun c0 => ?_)
  · refine lv_goto (tgt := 2099) hx hb dL_law_1805 (by decide) ?_
    refine W.widen (k := cells + 430) (n := slots + 3900) (by omega) (by omega) ?_
    exact kk _ _ _ _ _ hJ3 hW hS (lv_sub hl [2, 3, 4, 5, 6] rfl)
  · refine lv_aload_n hx hb dL_law_1793 rfl (lv_at hl 3 rfl) ?_
    refine lv_iconst (v := 0) hx hb dL_law_1794 (by decide) ?_
    refine q_lald hx hb hA hW ho3 (show vp_in (nI 0) 1 from vp_in_nI (by decide) (by decide)) dL_law_1795 ?_
    rw [show (0 : Int32).toNatClampNeg = 0 from rfl]
    refine lv_iload hx hb dL_law_1796 (lv_at hl 0 rfl) ?_
    refine lv_i2l hx hb dL_law_1798 rfl ?_
    refine q_lcmp0 hx hb (heq3 c0) dL_law_1799 ?_
    refine lv_if_eq (tgt := 1805) hx hb dL_law_1800 (by decide) (fun c5 => ?_) (fun c5 => absurd rfl c5)
    refine lv_goto (tgt := 2099) hx hb dL_law_1805 (by decide) ?_
    refine W.widen (k := cells + 430) (n := slots + 3900) (by omega) (by omega) ?_
    exact kk _ _ _ _ _ hJ3 hW hS (lv_sub hl [2, 3, 4, 5, 6] rfl)

set_option maxHeartbeats 4000000 in
set_option maxRecDepth 100000 in
theorem law_c36 {p : Program} {l : Launch} {e : Env} {s : State} {m : MethodId} {below : List Frame} {meth : Method} {c : Code} {E : q_E} {b L a : Nat} {xs : Nat → Int32} {Q : State → Prop} (X : LX p l s m c E b L a xs) {i : Nat} (hi : i + 6 ≤ L) {f : q_H} {n BB : Nat} {H : Heap} {locs : List Loc} {ls : Array Slot} {cells slots : Nat} (hB : BB ≤ 2 ^ 29) (hJ : JJ E a BB f n) (hW : q_W E f n H) (hS : va_S (q_ge E) s.heap H locs) (hl : lv_has ls 9 [(4, .int (nI i)), (3, .ref (a + 99)), (2, .ref (a + 55)), (1, .ref a), (0, .ref b)]) (hc : cells + 430 ≤ 601024) (hsl : slots + 3900 ≤ 7293034)
    (kk : ∀ (f1 : q_H) (n1 : Nat) (H1 : Heap) (locs1 : List Loc) (ls1 : Array Slot), JJ E a (BB + 100) f1 n1 → q_W E f1 n1 H1 → va_S (q_ge E) s.heap H1 locs1 → lv_has ls1 9 [(4, .int (nI i)), (3, .ref (a + 99)), (2, .ref (a + 55)), (1, .ref a), (0, .ref b)] → W p l e room_1 s m #[Value.ref b] below meth c H1 locs1 (cells + 430) (slots + 3900) Q (F0 m 2099 ls1 [])) :
    W p l e room_1 s m #[Value.ref b] below meth c H locs cells slots Q (F0 m 1808 ls []) := by
  obtain ⟨hx, hb, hml, hown, hts, hX, hbl, hbA, hA, hNc, hst, hL⟩ := X
  obtain ⟨k9, P1, fr, c1, s1, lo, b1, b2, b3, b4, hM1, hM2⟩ := P_firstWarning l E a BB f n hst hB hJ (xs (i + 1))
  refine lv_aload_n hx hb dL_law_1808 rfl (lv_at hl 3 rfl) ?_
  refine lv_aload_n hx hb dL_law_1809 rfl (lv_at hl 4 rfl) ?_
  refine lv_iload hx hb dL_law_1810 (lv_at hl 0 rfl) ?_
  refine lv_iconst (v := 1) hx hb dL_law_1812 (by decide) ?_
  refine lv_iadd hx hb dL_law_1813 ?_
  rw [show nI i + 1 = nI (i + 1) from by rw [show (1 : Int32) = nI 1 from rfl, nI_add]]
  refine va_sld hx hb hX hbl hbA hS (vp_in_nI (show i + 1 < L by omega) (by omega)) dL_law_1814 ?_
  rw [nI_clamp (show i + 1 < 2 ^ 31 by omega)]
  refine lv_aload_n hx hb dL_law_1815 rfl (lv_at hl 1 rfl) ?_
  refine q_xi (vx_runSX (As := [.ref a, .int (xs (i + 1)), .ref (a + 99)]) (rest := []) ⟨hx, hb, hml, hown, hts⟩ hM1 (vx_cwSW 3 hts gL_law_L_firstWarning rfl rfl rfl (by decide +kernel) ⟨(by show fr + 1 ≤ 2048; omega), (by show 8 + (4 + 11) + lo ≤ 84000; omega)⟩) (q_pSN hNc hA hW hS) rfl rfl hl.1 rfl (lv_room (Nat.le_of_ble_eq_true rfl)) dL_law_1816 ⟨(by show cells + c1 ≤ 601024; omega), (by show slots + s1 ≤ 7293034; omega)⟩) hS (fun C9 ce9 q9 f9 n9 H locs hp hW hS h91 h92 h93 => False.elim hp) (fun r1 f1 n1 H locs hp hW hS => ?_)
  obtain ⟨rfl, hp1⟩ := hp
  obtain ⟨b9, P2, fr2, c2, s2, lo2, e1, e2, e3, e4, hM3, -, ⟨r9, hR9⟩, hM4⟩ := hM2 f1 n1 hp1
  refine lv_istore (lv' := [(5, .int k9), (4, .int (nI i)), (3, .ref (a + 99)), (2, .ref (a + 55)), (1, .ref a), (0, .ref b)]) hx hb dL_law_1819 hl (by decide) rfl (fun ls hl => ?_)
  refine lv_aload_n hx hb dL_law_1821 rfl (lv_at hl 3 rfl) ?_
  refine lv_aload_n hx hb dL_law_1822 rfl (lv_at hl 5 rfl) ?_
  refine lv_iload hx hb dL_law_1823 (lv_at hl 1 rfl) ?_
  refine lv_iconst (v := 1) hx hb dL_law_1825 (by decide) ?_
  refine lv_iadd hx hb dL_law_1826 ?_
  rw [show nI i + 1 = nI (i + 1) from by rw [show (1 : Int32) = nI 1 from rfl, nI_add]]
  refine va_sld hx hb hX hbl hbA hS (vp_in_nI (show i + 1 < L by omega) (by omega)) dL_law_1827 ?_
  rw [nI_clamp (show i + 1 < 2 ^ 31 by omega)]
  refine q_ci (va_runV (As := [.int (xs (i + 1))]) (rest := []) ⟨hx, hb, hml, hown, hts⟩ hM3 (cwV 1 hts gL_law_X14_firstWarning rfl rfl rfl (by decide +kernel) ⟨(by show fr2 + 1 ≤ 2048; omega), (by show 8 + (2 + 11) + lo2 ≤ 84000; omega)⟩) (q_pV hA hW hS (ci := 12) rfl (show f1 (a + 55) = some (cMod (a + 55) r9) from hR9 0 (by decide))) rfl rfl hl.1 rfl (lv_room (Nat.le_of_ble_eq_true rfl)) dL_law_1828 ⟨(by show cells + c1 + c2 ≤ 601024; omega), (by show slots + s1 + s2 ≤ 7293034; omega)⟩) hS (fun r2 f2 n2 H locs hp hW hS => ?_)
  obtain ⟨rfl, hp2⟩ := hp
  obtain ⟨r3, og3, hR3, hk3, ho3, heq3, hJ3⟩ := hM4 f2 n2 hp2
  refine lv_istore (lv' := [(6, .int b9), (5, .int k9), (4, .int (nI i)), (3, .ref (a + 99)), (2, .ref (a + 55)), (1, .ref a), (0, .ref b)]) hx hb dL_law_1831 hl (by decide) rfl (fun ls hl => ?_)
  refine lv_aload_n hx hb dL_law_1833 rfl (lv_at hl 4 rfl) ?_
  refine q_ci (va_runV (As := []) (rest := []) ⟨hx, hb, hml, hown, hts⟩ (kX14_thrown l E f2 n2 (a + 55) r3 hR3) (cwV 0 hts gL_law_X14_thrown rfl rfl rfl (by decide +kernel) ⟨(Nat.le_of_ble_eq_true rfl), (Nat.le_of_ble_eq_true rfl)⟩) (q_pV hA hW hS (ci := 12) rfl (show f2 (a + 55) = some (cMod (a + 55) r3) from hR3 0 (by decide))) rfl rfl hl.1 rfl (lv_room (Nat.le_of_ble_eq_true rfl)) dL_law_1834 ⟨(by show cells + c1 + c2 + 0 ≤ 601024; omega), (by show slots + s1 + s2 + 0 ≤ 7293034; omega)⟩) hS (fun r4 f4 n4 H locs hp hW hS => ?_)
  obtain ⟨rfl, rfl, rfl⟩ := hp
  rw [hk3]
  refine lv_iload hx hb dL_law_1837 (lv_at hl 1 rfl) ?_
  refine lv_icmp_eq (tgt := 1844) hx hb dL_law_1839 (by decide) (fun c9 => ?_) (fun c9 => absurd rfl c9)
  refine lv_iload hx hb dL_law_1844 (lv_at hl 1 rfl) ?_
  refine lv_if_ne (tgt := 1861) hx hb dL_law_1846 (by decide) (fun c0 => ?_) (fun c0 => ?_)
  · refine lv_goto (tgt := 2099) hx hb dL_law_1861 (by decide) ?_
    refine W.widen (k := cells + 430) (n := slots + 3900) (by omega) (by omega) ?_
    exact kk _ _ _ _ _ hJ3 hW hS (lv_sub hl [2, 3, 4, 5, 6] rfl)
  · refine lv_aload_n hx hb dL_law_1849 rfl (lv_at hl 3 rfl) ?_
    refine lv_iconst (v := 0) hx hb dL_law_1850 (by decide) ?_
    refine q_lald hx hb hA hW ho3 (show vp_in (nI 0) 1 from vp_in_nI (by decide) (by decide)) dL_law_1851 ?_
    rw [show (0 : Int32).toNatClampNeg = 0 from rfl]
    refine lv_iload hx hb dL_law_1852 (lv_at hl 0 rfl) ?_
    refine lv_i2l hx hb dL_law_1854 rfl ?_
    refine q_lcmp0 hx hb (heq3 c0) dL_law_1855 ?_
    refine lv_if_eq (tgt := 1861) hx hb dL_law_1856 (by decide) (fun c5 => ?_) (fun c5 => absurd rfl c5)
    refine lv_goto (tgt := 2099) hx hb dL_law_1861 (by decide) ?_
    refine W.widen (k := cells + 430) (n := slots + 3900) (by omega) (by omega) ?_
    exact kk _ _ _ _ _ hJ3 hW hS (lv_sub hl [2, 3, 4, 5, 6] rfl)

set_option maxHeartbeats 4000000 in
set_option maxRecDepth 100000 in
theorem law_c37 {p : Program} {l : Launch} {e : Env} {s : State} {m : MethodId} {below : List Frame} {meth : Method} {c : Code} {E : q_E} {b L a : Nat} {xs : Nat → Int32} {Q : State → Prop} (X : LX p l s m c E b L a xs) {i : Nat} (hi : i + 6 ≤ L) {f : q_H} {n BB : Nat} {H : Heap} {locs : List Loc} {ls : Array Slot} {cells slots : Nat} (hB : BB ≤ 2 ^ 29) (hJ : JJ E a BB f n) (hW : q_W E f n H) (hS : va_S (q_ge E) s.heap H locs) (hl : lv_has ls 9 [(4, .int (nI i)), (3, .ref (a + 99)), (2, .ref (a + 55)), (1, .ref a), (0, .ref b)]) (hc : cells + 430 ≤ 601024) (hsl : slots + 3900 ≤ 7293034)
    (kk : ∀ (f1 : q_H) (n1 : Nat) (H1 : Heap) (locs1 : List Loc) (ls1 : Array Slot), JJ E a (BB + 100) f1 n1 → q_W E f1 n1 H1 → va_S (q_ge E) s.heap H1 locs1 → lv_has ls1 9 [(4, .int (nI i)), (3, .ref (a + 99)), (2, .ref (a + 55)), (1, .ref a), (0, .ref b)] → W p l e room_1 s m #[Value.ref b] below meth c H1 locs1 (cells + 430) (slots + 3900) Q (F0 m 2099 ls1 [])) :
    W p l e room_1 s m #[Value.ref b] below meth c H locs cells slots Q (F0 m 1864 ls []) := by
  obtain ⟨hx, hb, hml, hown, hts, hX, hbl, hbA, hA, hNc, hst, hL⟩ := X
  obtain ⟨k9, P1, fr, c1, s1, lo, b1, b2, b3, b4, hM1, hM2⟩ := P_doneBehind l E a BB f n hst hB hJ (xs (i + 1)) (xs (i + 2))
  refine lv_aload_n hx hb dL_law_1864 rfl (lv_at hl 3 rfl) ?_
  refine lv_aload_n hx hb dL_law_1865 rfl (lv_at hl 4 rfl) ?_
  refine lv_iload hx hb dL_law_1866 (lv_at hl 0 rfl) ?_
  refine lv_iconst (v := 1) hx hb dL_law_1868 (by decide) ?_
  refine lv_iadd hx hb dL_law_1869 ?_
  rw [show nI i + 1 = nI (i + 1) from by rw [show (1 : Int32) = nI 1 from rfl, nI_add]]
  refine va_sld hx hb hX hbl hbA hS (vp_in_nI (show i + 1 < L by omega) (by omega)) dL_law_1870 ?_
  rw [nI_clamp (show i + 1 < 2 ^ 31 by omega)]
  refine lv_aload_n hx hb dL_law_1871 rfl (lv_at hl 4 rfl) ?_
  refine lv_iload hx hb dL_law_1872 (lv_at hl 0 rfl) ?_
  refine lv_iconst (v := 2) hx hb dL_law_1874 (by decide) ?_
  refine lv_iadd hx hb dL_law_1875 ?_
  rw [show nI i + 2 = nI (i + 2) from by rw [show (2 : Int32) = nI 2 from rfl, nI_add]]
  refine va_sld hx hb hX hbl hbA hS (vp_in_nI (show i + 2 < L by omega) (by omega)) dL_law_1876 ?_
  rw [nI_clamp (show i + 2 < 2 ^ 31 by omega)]
  refine lv_aload_n hx hb dL_law_1877 rfl (lv_at hl 1 rfl) ?_
  refine q_xi (vx_runSX (As := [.ref a, .int (xs (i + 1)), .int (xs (i + 2)), .ref (a + 99)]) (rest := []) ⟨hx, hb, hml, hown, hts⟩ hM1 (vx_cwSW 4 hts gL_law_L_doneBehind rfl rfl rfl (by decide +kernel) ⟨(by show fr + 1 ≤ 2048; omega), (by show 8 + (5 + 11) + lo ≤ 84000; omega)⟩) (q_pSN hNc hA hW hS) rfl rfl hl.1 rfl (lv_room (Nat.le_of_ble_eq_true rfl)) dL_law_1878 ⟨(by show cells + c1 ≤ 601024; omega), (by show slots + s1 ≤ 7293034; omega)⟩) hS (fun C9 ce9 q9 f9 n9 H locs hp hW hS h91 h92 h93 => False.elim hp) (fun r1 f1 n1 H locs hp hW hS => ?_)
  obtain ⟨rfl, hp1⟩ := hp
  obtain ⟨b9, P2, fr2, c2, s2, lo2, e1, e2, e3, e4, hM3, -, ⟨r9, hR9⟩, hM4⟩ := hM2 f1 n1 hp1
  refine lv_istore (lv' := [(5, .int k9), (4, .int (nI i)), (3, .ref (a + 99)), (2, .ref (a + 55)), (1, .ref a), (0, .ref b)]) hx hb dL_law_1881 hl (by decide) rfl (fun ls hl => ?_)
  refine lv_aload_n hx hb dL_law_1883 rfl (lv_at hl 3 rfl) ?_
  refine lv_aload_n hx hb dL_law_1884 rfl (lv_at hl 5 rfl) ?_
  refine lv_iload hx hb dL_law_1885 (lv_at hl 1 rfl) ?_
  refine lv_iconst (v := 1) hx hb dL_law_1887 (by decide) ?_
  refine lv_iadd hx hb dL_law_1888 ?_
  rw [show nI i + 1 = nI (i + 1) from by rw [show (1 : Int32) = nI 1 from rfl, nI_add]]
  refine va_sld hx hb hX hbl hbA hS (vp_in_nI (show i + 1 < L by omega) (by omega)) dL_law_1889 ?_
  rw [nI_clamp (show i + 1 < 2 ^ 31 by omega)]
  refine lv_aload_n hx hb dL_law_1890 rfl (lv_at hl 5 rfl) ?_
  refine lv_iload hx hb dL_law_1891 (lv_at hl 1 rfl) ?_
  refine lv_iconst (v := 2) hx hb dL_law_1893 (by decide) ?_
  refine lv_iadd hx hb dL_law_1894 ?_
  rw [show nI i + 2 = nI (i + 2) from by rw [show (2 : Int32) = nI 2 from rfl, nI_add]]
  refine va_sld hx hb hX hbl hbA hS (vp_in_nI (show i + 2 < L by omega) (by omega)) dL_law_1895 ?_
  rw [nI_clamp (show i + 2 < 2 ^ 31 by omega)]
  refine q_ci (va_runV (As := [.int (xs (i + 1)), .int (xs (i + 2))]) (rest := []) ⟨hx, hb, hml, hown, hts⟩ hM3 (cwV 2 hts gL_law_X14_doneBehind rfl rfl rfl (by decide +kernel) ⟨(by show fr2 + 1 ≤ 2048; omega), (by show 8 + (3 + 11) + lo2 ≤ 84000; omega)⟩) (q_pV hA hW hS (ci := 12) rfl (show f1 (a + 55) = some (cMod (a + 55) r9) from hR9 0 (by decide))) rfl rfl hl.1 rfl (lv_room (Nat.le_of_ble_eq_true rfl)) dL_law_1896 ⟨(by show cells + c1 + c2 ≤ 601024; omega), (by show slots + s1 + s2 ≤ 7293034; omega)⟩) hS (fun r2 f2 n2 H locs hp hW hS => ?_)
  obtain ⟨rfl, hp2⟩ := hp
  obtain ⟨r3, og3, hR3, hk3, ho3, heq3, hJ3⟩ := hM4 f2 n2 hp2
  refine lv_istore (lv' := [(6, .int b9), (5, .int k9), (4, .int (nI i)), (3, .ref (a + 99)), (2, .ref (a + 55)), (1, .ref a), (0, .ref b)]) hx hb dL_law_1899 hl (by decide) rfl (fun ls hl => ?_)
  refine lv_aload_n hx hb dL_law_1901 rfl (lv_at hl 4 rfl) ?_
  refine q_ci (va_runV (As := []) (rest := []) ⟨hx, hb, hml, hown, hts⟩ (kX14_thrown l E f2 n2 (a + 55) r3 hR3) (cwV 0 hts gL_law_X14_thrown rfl rfl rfl (by decide +kernel) ⟨(Nat.le_of_ble_eq_true rfl), (Nat.le_of_ble_eq_true rfl)⟩) (q_pV hA hW hS (ci := 12) rfl (show f2 (a + 55) = some (cMod (a + 55) r3) from hR3 0 (by decide))) rfl rfl hl.1 rfl (lv_room (Nat.le_of_ble_eq_true rfl)) dL_law_1902 ⟨(by show cells + c1 + c2 + 0 ≤ 601024; omega), (by show slots + s1 + s2 + 0 ≤ 7293034; omega)⟩) hS (fun r4 f4 n4 H locs hp hW hS => ?_)
  obtain ⟨rfl, rfl, rfl⟩ := hp
  rw [hk3]
  refine lv_iload hx hb dL_law_1905 (lv_at hl 1 rfl) ?_
  refine lv_icmp_eq (tgt := 1912) hx hb dL_law_1907 (by decide) (fun c9 => ?_) (fun c9 => absurd rfl c9)
  refine lv_iload hx hb dL_law_1912 (lv_at hl 1 rfl) ?_
  refine lv_if_ne (tgt := 1929) hx hb dL_law_1914 (by decide) (fun c0 => ?_) (fun c0 => ?_)
  · refine lv_goto (tgt := 2099) hx hb dL_law_1929 (by decide) ?_
    refine W.widen (k := cells + 430) (n := slots + 3900) (by omega) (by omega) ?_
    exact kk _ _ _ _ _ hJ3 hW hS (lv_sub hl [2, 3, 4, 5, 6] rfl)
  · refine lv_aload_n hx hb dL_law_1917 rfl (lv_at hl 3 rfl) ?_
    refine lv_iconst (v := 0) hx hb dL_law_1918 (by decide) ?_
    refine q_lald hx hb hA hW ho3 (show vp_in (nI 0) 1 from vp_in_nI (by decide) (by decide)) dL_law_1919 ?_
    rw [show (0 : Int32).toNatClampNeg = 0 from rfl]
    refine lv_iload hx hb dL_law_1920 (lv_at hl 0 rfl) ?_
    refine lv_i2l hx hb dL_law_1922 rfl ?_
    refine q_lcmp0 hx hb (heq3 c0) dL_law_1923 ?_
    refine lv_if_eq (tgt := 1929) hx hb dL_law_1924 (by decide) (fun c5 => ?_) (fun c5 => absurd rfl c5)
    refine lv_goto (tgt := 2099) hx hb dL_law_1929 (by decide) ?_
    refine W.widen (k := cells + 430) (n := slots + 3900) (by omega) (by omega) ?_
    exact kk _ _ _ _ _ hJ3 hW hS (lv_sub hl [2, 3, 4, 5, 6] rfl)

set_option maxHeartbeats 4000000 in
set_option maxRecDepth 100000 in
theorem law_c38 {p : Program} {l : Launch} {e : Env} {s : State} {m : MethodId} {below : List Frame} {meth : Method} {c : Code} {E : q_E} {b L a : Nat} {xs : Nat → Int32} {Q : State → Prop} (X : LX p l s m c E b L a xs) {i : Nat} (hi : i + 6 ≤ L) {f : q_H} {n BB : Nat} {H : Heap} {locs : List Loc} {ls : Array Slot} {cells slots : Nat} (hB : BB ≤ 2 ^ 29) (hJ : JJ E a BB f n) (hW : q_W E f n H) (hS : va_S (q_ge E) s.heap H locs) (hl : lv_has ls 9 [(4, .int (nI i)), (3, .ref (a + 99)), (2, .ref (a + 55)), (1, .ref a), (0, .ref b)]) (hc : cells + 430 ≤ 601024) (hsl : slots + 3900 ≤ 7293034)
    (kk : ∀ (f1 : q_H) (n1 : Nat) (H1 : Heap) (locs1 : List Loc) (ls1 : Array Slot), JJ E a (BB + 100) f1 n1 → q_W E f1 n1 H1 → va_S (q_ge E) s.heap H1 locs1 → lv_has ls1 9 [(4, .int (nI i)), (3, .ref (a + 99)), (2, .ref (a + 55)), (1, .ref a), (0, .ref b)] → W p l e room_1 s m #[Value.ref b] below meth c H1 locs1 (cells + 430) (slots + 3900) Q (F0 m 2099 ls1 [])) :
    W p l e room_1 s m #[Value.ref b] below meth c H locs cells slots Q (F0 m 1932 ls []) := by
  obtain ⟨hx, hb, hml, hown, hts, hX, hbl, hbA, hA, hNc, hst, hL⟩ := X
  obtain ⟨k9, P1, fr, c1, s1, lo, b1, b2, b3, b4, hM1, hM2⟩ := P_highestSafe l E a BB f n hst hB hJ (xs (i + 1))
  refine lv_aload_n hx hb dL_law_1932 rfl (lv_at hl 3 rfl) ?_
  refine lv_aload_n hx hb dL_law_1933 rfl (lv_at hl 4 rfl) ?_
  refine lv_iload hx hb dL_law_1934 (lv_at hl 0 rfl) ?_
  refine lv_iconst (v := 1) hx hb dL_law_1936 (by decide) ?_
  refine lv_iadd hx hb dL_law_1937 ?_
  rw [show nI i + 1 = nI (i + 1) from by rw [show (1 : Int32) = nI 1 from rfl, nI_add]]
  refine va_sld hx hb hX hbl hbA hS (vp_in_nI (show i + 1 < L by omega) (by omega)) dL_law_1938 ?_
  rw [nI_clamp (show i + 1 < 2 ^ 31 by omega)]
  refine lv_aload_n hx hb dL_law_1939 rfl (lv_at hl 1 rfl) ?_
  refine q_xi (vx_runSX (As := [.ref a, .int (xs (i + 1)), .ref (a + 99)]) (rest := []) ⟨hx, hb, hml, hown, hts⟩ hM1 (vx_cwSW 3 hts gL_law_L_highestSafe rfl rfl rfl (by decide +kernel) ⟨(by show fr + 1 ≤ 2048; omega), (by show 8 + (4 + 11) + lo ≤ 84000; omega)⟩) (q_pSN hNc hA hW hS) rfl rfl hl.1 rfl (lv_room (Nat.le_of_ble_eq_true rfl)) dL_law_1940 ⟨(by show cells + c1 ≤ 601024; omega), (by show slots + s1 ≤ 7293034; omega)⟩) hS (fun C9 ce9 q9 f9 n9 H locs hp hW hS h91 h92 h93 => False.elim hp) (fun r1 f1 n1 H locs hp hW hS => ?_)
  obtain ⟨rfl, hp1⟩ := hp
  obtain ⟨b9, P2, fr2, c2, s2, lo2, e1, e2, e3, e4, hM3, -, ⟨r9, hR9⟩, hM4⟩ := hM2 f1 n1 hp1
  refine lv_istore (lv' := [(5, .int k9), (4, .int (nI i)), (3, .ref (a + 99)), (2, .ref (a + 55)), (1, .ref a), (0, .ref b)]) hx hb dL_law_1943 hl (by decide) rfl (fun ls hl => ?_)
  refine lv_aload_n hx hb dL_law_1945 rfl (lv_at hl 3 rfl) ?_
  refine lv_aload_n hx hb dL_law_1946 rfl (lv_at hl 5 rfl) ?_
  refine lv_iload hx hb dL_law_1947 (lv_at hl 1 rfl) ?_
  refine lv_iconst (v := 1) hx hb dL_law_1949 (by decide) ?_
  refine lv_iadd hx hb dL_law_1950 ?_
  rw [show nI i + 1 = nI (i + 1) from by rw [show (1 : Int32) = nI 1 from rfl, nI_add]]
  refine va_sld hx hb hX hbl hbA hS (vp_in_nI (show i + 1 < L by omega) (by omega)) dL_law_1951 ?_
  rw [nI_clamp (show i + 1 < 2 ^ 31 by omega)]
  refine q_ci (va_runV (As := [.int (xs (i + 1))]) (rest := []) ⟨hx, hb, hml, hown, hts⟩ hM3 (cwV 1 hts gL_law_X14_highestSafe rfl rfl rfl (by decide +kernel) ⟨(by show fr2 + 1 ≤ 2048; omega), (by show 8 + (4 + 11) + lo2 ≤ 84000; omega)⟩) (q_pV hA hW hS (ci := 12) rfl (show f1 (a + 55) = some (cMod (a + 55) r9) from hR9 0 (by decide))) rfl rfl hl.1 rfl (lv_room (Nat.le_of_ble_eq_true rfl)) dL_law_1952 ⟨(by show cells + c1 + c2 ≤ 601024; omega), (by show slots + s1 + s2 ≤ 7293034; omega)⟩) hS (fun r2 f2 n2 H locs hp hW hS => ?_)
  obtain ⟨rfl, hp2⟩ := hp
  obtain ⟨r3, og3, hR3, hk3, ho3, heq3, hJ3⟩ := hM4 f2 n2 hp2
  refine lv_istore (lv' := [(6, .int b9), (5, .int k9), (4, .int (nI i)), (3, .ref (a + 99)), (2, .ref (a + 55)), (1, .ref a), (0, .ref b)]) hx hb dL_law_1955 hl (by decide) rfl (fun ls hl => ?_)
  refine lv_aload_n hx hb dL_law_1957 rfl (lv_at hl 4 rfl) ?_
  refine q_ci (va_runV (As := []) (rest := []) ⟨hx, hb, hml, hown, hts⟩ (kX14_thrown l E f2 n2 (a + 55) r3 hR3) (cwV 0 hts gL_law_X14_thrown rfl rfl rfl (by decide +kernel) ⟨(Nat.le_of_ble_eq_true rfl), (Nat.le_of_ble_eq_true rfl)⟩) (q_pV hA hW hS (ci := 12) rfl (show f2 (a + 55) = some (cMod (a + 55) r3) from hR3 0 (by decide))) rfl rfl hl.1 rfl (lv_room (Nat.le_of_ble_eq_true rfl)) dL_law_1958 ⟨(by show cells + c1 + c2 + 0 ≤ 601024; omega), (by show slots + s1 + s2 + 0 ≤ 7293034; omega)⟩) hS (fun r4 f4 n4 H locs hp hW hS => ?_)
  obtain ⟨rfl, rfl, rfl⟩ := hp
  rw [hk3]
  refine lv_iload hx hb dL_law_1961 (lv_at hl 1 rfl) ?_
  refine lv_icmp_eq (tgt := 1968) hx hb dL_law_1963 (by decide) (fun c9 => ?_) (fun c9 => absurd rfl c9)
  refine lv_iload hx hb dL_law_1968 (lv_at hl 1 rfl) ?_
  refine lv_if_ne (tgt := 1985) hx hb dL_law_1970 (by decide) (fun c0 => ?_) (fun c0 => ?_)
  · refine lv_goto (tgt := 2099) hx hb dL_law_1985 (by decide) ?_
    refine W.widen (k := cells + 430) (n := slots + 3900) (by omega) (by omega) ?_
    exact kk _ _ _ _ _ hJ3 hW hS (lv_sub hl [2, 3, 4, 5, 6] rfl)
  · refine lv_aload_n hx hb dL_law_1973 rfl (lv_at hl 3 rfl) ?_
    refine lv_iconst (v := 0) hx hb dL_law_1974 (by decide) ?_
    refine q_lald hx hb hA hW ho3 (show vp_in (nI 0) 1 from vp_in_nI (by decide) (by decide)) dL_law_1975 ?_
    rw [show (0 : Int32).toNatClampNeg = 0 from rfl]
    refine lv_iload hx hb dL_law_1976 (lv_at hl 0 rfl) ?_
    refine lv_i2l hx hb dL_law_1978 rfl ?_
    refine q_lcmp0 hx hb (heq3 c0) dL_law_1979 ?_
    refine lv_if_eq (tgt := 1985) hx hb dL_law_1980 (by decide) (fun c5 => ?_) (fun c5 => absurd rfl c5)
    refine lv_goto (tgt := 2099) hx hb dL_law_1985 (by decide) ?_
    refine W.widen (k := cells + 430) (n := slots + 3900) (by omega) (by omega) ?_
    exact kk _ _ _ _ _ hJ3 hW hS (lv_sub hl [2, 3, 4, 5, 6] rfl)

set_option maxHeartbeats 4000000 in
set_option maxRecDepth 100000 in
theorem law_c39 {p : Program} {l : Launch} {e : Env} {s : State} {m : MethodId} {below : List Frame} {meth : Method} {c : Code} {E : q_E} {b L a : Nat} {xs : Nat → Int32} {Q : State → Prop} (X : LX p l s m c E b L a xs) {i : Nat} (hi : i + 6 ≤ L) {f : q_H} {n BB : Nat} {H : Heap} {locs : List Loc} {ls : Array Slot} {cells slots : Nat} (hB : BB ≤ 2 ^ 29) (hJ : JJ E a BB f n) (hW : q_W E f n H) (hS : va_S (q_ge E) s.heap H locs) (hl : lv_has ls 9 [(4, .int (nI i)), (3, .ref (a + 99)), (2, .ref (a + 55)), (1, .ref a), (0, .ref b)]) (hc : cells + 430 ≤ 601024) (hsl : slots + 3900 ≤ 7293034)
    (kk : ∀ (f1 : q_H) (n1 : Nat) (H1 : Heap) (locs1 : List Loc) (ls1 : Array Slot), JJ E a (BB + 100) f1 n1 → q_W E f1 n1 H1 → va_S (q_ge E) s.heap H1 locs1 → lv_has ls1 9 [(4, .int (nI i)), (3, .ref (a + 99)), (2, .ref (a + 55)), (1, .ref a), (0, .ref b)] → W p l e room_1 s m #[Value.ref b] below meth c H1 locs1 (cells + 430) (slots + 3900) Q (F0 m 2099 ls1 [])) :
    W p l e room_1 s m #[Value.ref b] below meth c H locs cells slots Q (F0 m 1988 ls []) := by
  obtain ⟨hx, hb, hml, hown, hts, hX, hbl, hbA, hA, hNc, hst, hL⟩ := X
  obtain ⟨k9, P1, fr, c1, s1, lo, b1, b2, b3, b4, hM1, hM2⟩ := P_mostServings l E a BB f n hst hB hJ (xs (i + 1))
  refine lv_aload_n hx hb dL_law_1988 rfl (lv_at hl 3 rfl) ?_
  refine lv_aload_n hx hb dL_law_1989 rfl (lv_at hl 4 rfl) ?_
  refine lv_iload hx hb dL_law_1990 (lv_at hl 0 rfl) ?_
  refine lv_iconst (v := 1) hx hb dL_law_1992 (by decide) ?_
  refine lv_iadd hx hb dL_law_1993 ?_
  rw [show nI i + 1 = nI (i + 1) from by rw [show (1 : Int32) = nI 1 from rfl, nI_add]]
  refine va_sld hx hb hX hbl hbA hS (vp_in_nI (show i + 1 < L by omega) (by omega)) dL_law_1994 ?_
  rw [nI_clamp (show i + 1 < 2 ^ 31 by omega)]
  refine lv_aload_n hx hb dL_law_1995 rfl (lv_at hl 1 rfl) ?_
  refine q_xi (vx_runSX (As := [.ref a, .int (xs (i + 1)), .ref (a + 99)]) (rest := []) ⟨hx, hb, hml, hown, hts⟩ hM1 (vx_cwSW 3 hts gL_law_L_mostServings rfl rfl rfl (by decide +kernel) ⟨(by show fr + 1 ≤ 2048; omega), (by show 8 + (4 + 11) + lo ≤ 84000; omega)⟩) (q_pSN hNc hA hW hS) rfl rfl hl.1 rfl (lv_room (Nat.le_of_ble_eq_true rfl)) dL_law_1996 ⟨(by show cells + c1 ≤ 601024; omega), (by show slots + s1 ≤ 7293034; omega)⟩) hS (fun C9 ce9 q9 f9 n9 H locs hp hW hS h91 h92 h93 => False.elim hp) (fun r1 f1 n1 H locs hp hW hS => ?_)
  obtain ⟨rfl, hp1⟩ := hp
  obtain ⟨b9, P2, fr2, c2, s2, lo2, e1, e2, e3, e4, hM3, -, ⟨r9, hR9⟩, hM4⟩ := hM2 f1 n1 hp1
  refine lv_istore (lv' := [(5, .int k9), (4, .int (nI i)), (3, .ref (a + 99)), (2, .ref (a + 55)), (1, .ref a), (0, .ref b)]) hx hb dL_law_1999 hl (by decide) rfl (fun ls hl => ?_)
  refine lv_aload_n hx hb dL_law_2001 rfl (lv_at hl 3 rfl) ?_
  refine lv_aload_n hx hb dL_law_2002 rfl (lv_at hl 5 rfl) ?_
  refine lv_iload hx hb dL_law_2003 (lv_at hl 1 rfl) ?_
  refine lv_iconst (v := 1) hx hb dL_law_2005 (by decide) ?_
  refine lv_iadd hx hb dL_law_2006 ?_
  rw [show nI i + 1 = nI (i + 1) from by rw [show (1 : Int32) = nI 1 from rfl, nI_add]]
  refine va_sld hx hb hX hbl hbA hS (vp_in_nI (show i + 1 < L by omega) (by omega)) dL_law_2007 ?_
  rw [nI_clamp (show i + 1 < 2 ^ 31 by omega)]
  refine q_ci (va_runV (As := [.int (xs (i + 1))]) (rest := []) ⟨hx, hb, hml, hown, hts⟩ hM3 (cwV 1 hts gL_law_X14_mostServings rfl rfl rfl (by decide +kernel) ⟨(by show fr2 + 1 ≤ 2048; omega), (by show 8 + (4 + 11) + lo2 ≤ 84000; omega)⟩) (q_pV hA hW hS (ci := 12) rfl (show f1 (a + 55) = some (cMod (a + 55) r9) from hR9 0 (by decide))) rfl rfl hl.1 rfl (lv_room (Nat.le_of_ble_eq_true rfl)) dL_law_2008 ⟨(by show cells + c1 + c2 ≤ 601024; omega), (by show slots + s1 + s2 ≤ 7293034; omega)⟩) hS (fun r2 f2 n2 H locs hp hW hS => ?_)
  obtain ⟨rfl, hp2⟩ := hp
  obtain ⟨r3, og3, hR3, hk3, ho3, heq3, hJ3⟩ := hM4 f2 n2 hp2
  refine lv_istore (lv' := [(6, .int b9), (5, .int k9), (4, .int (nI i)), (3, .ref (a + 99)), (2, .ref (a + 55)), (1, .ref a), (0, .ref b)]) hx hb dL_law_2011 hl (by decide) rfl (fun ls hl => ?_)
  refine lv_aload_n hx hb dL_law_2013 rfl (lv_at hl 4 rfl) ?_
  refine q_ci (va_runV (As := []) (rest := []) ⟨hx, hb, hml, hown, hts⟩ (kX14_thrown l E f2 n2 (a + 55) r3 hR3) (cwV 0 hts gL_law_X14_thrown rfl rfl rfl (by decide +kernel) ⟨(Nat.le_of_ble_eq_true rfl), (Nat.le_of_ble_eq_true rfl)⟩) (q_pV hA hW hS (ci := 12) rfl (show f2 (a + 55) = some (cMod (a + 55) r3) from hR3 0 (by decide))) rfl rfl hl.1 rfl (lv_room (Nat.le_of_ble_eq_true rfl)) dL_law_2014 ⟨(by show cells + c1 + c2 + 0 ≤ 601024; omega), (by show slots + s1 + s2 + 0 ≤ 7293034; omega)⟩) hS (fun r4 f4 n4 H locs hp hW hS => ?_)
  obtain ⟨rfl, rfl, rfl⟩ := hp
  rw [hk3]
  refine lv_iload hx hb dL_law_2017 (lv_at hl 1 rfl) ?_
  refine lv_icmp_eq (tgt := 2024) hx hb dL_law_2019 (by decide) (fun c9 => ?_) (fun c9 => absurd rfl c9)
  refine lv_iload hx hb dL_law_2024 (lv_at hl 1 rfl) ?_
  refine lv_if_ne (tgt := 2041) hx hb dL_law_2026 (by decide) (fun c0 => ?_) (fun c0 => ?_)
  · refine lv_goto (tgt := 2099) hx hb dL_law_2041 (by decide) ?_
    refine W.widen (k := cells + 430) (n := slots + 3900) (by omega) (by omega) ?_
    exact kk _ _ _ _ _ hJ3 hW hS (lv_sub hl [2, 3, 4, 5, 6] rfl)
  · refine lv_aload_n hx hb dL_law_2029 rfl (lv_at hl 3 rfl) ?_
    refine lv_iconst (v := 0) hx hb dL_law_2030 (by decide) ?_
    refine q_lald hx hb hA hW ho3 (show vp_in (nI 0) 1 from vp_in_nI (by decide) (by decide)) dL_law_2031 ?_
    rw [show (0 : Int32).toNatClampNeg = 0 from rfl]
    refine lv_iload hx hb dL_law_2032 (lv_at hl 0 rfl) ?_
    refine lv_i2l hx hb dL_law_2034 rfl ?_
    refine q_lcmp0 hx hb (heq3 c0) dL_law_2035 ?_
    refine lv_if_eq (tgt := 2041) hx hb dL_law_2036 (by decide) (fun c5 => ?_) (fun c5 => absurd rfl c5)
    refine lv_goto (tgt := 2099) hx hb dL_law_2041 (by decide) ?_
    refine W.widen (k := cells + 430) (n := slots + 3900) (by omega) (by omega) ?_
    exact kk _ _ _ _ _ hJ3 hW hS (lv_sub hl [2, 3, 4, 5, 6] rfl)

set_option maxHeartbeats 4000000 in
set_option maxRecDepth 100000 in
theorem law_c40 {p : Program} {l : Launch} {e : Env} {s : State} {m : MethodId} {below : List Frame} {meth : Method} {c : Code} {E : q_E} {b L a : Nat} {xs : Nat → Int32} {Q : State → Prop} (X : LX p l s m c E b L a xs) {i : Nat} (hi : i + 6 ≤ L) {f : q_H} {n BB : Nat} {H : Heap} {locs : List Loc} {ls : Array Slot} {cells slots : Nat} (hB : BB ≤ 2 ^ 29) (hJ : JJ E a BB f n) (hW : q_W E f n H) (hS : va_S (q_ge E) s.heap H locs) (hl : lv_has ls 9 [(4, .int (nI i)), (3, .ref (a + 99)), (2, .ref (a + 55)), (1, .ref a), (0, .ref b)]) (hc : cells + 430 ≤ 601024) (hsl : slots + 3900 ≤ 7293034)
    (kk : ∀ (f1 : q_H) (n1 : Nat) (H1 : Heap) (locs1 : List Loc) (ls1 : Array Slot), JJ E a (BB + 100) f1 n1 → q_W E f1 n1 H1 → va_S (q_ge E) s.heap H1 locs1 → lv_has ls1 9 [(4, .int (nI i)), (3, .ref (a + 99)), (2, .ref (a + 55)), (1, .ref a), (0, .ref b)] → W p l e room_1 s m #[Value.ref b] below meth c H1 locs1 (cells + 430) (slots + 3900) Q (F0 m 2099 ls1 [])) :
    W p l e room_1 s m #[Value.ref b] below meth c H locs cells slots Q (F0 m 2044 ls []) := by
  obtain ⟨hx, hb, hml, hown, hts, hX, hbl, hbA, hA, hNc, hst, hL⟩ := X
  obtain ⟨R9, P1, fr, c1, s1, lo, b1, b2, b3, b4, hM1, hM2⟩ := P_meanHeat l E a BB f n hB hJ
  obtain ⟨z1, z2, z3, z4, z5, z6, ep9, hcl⟩ := hJ.cls
  refine lv_aload_n hx hb dL_law_2044 rfl (lv_at hl 3 rfl) ?_
  refine q_cd (va_runV (As := []) (rest := []) ⟨hx, hb, hml, hown, hts⟩ hM1 (cwV 0 hts gL_law_X12_meanHeat rfl rfl rfl (by decide +kernel) ⟨(by show fr + 1 ≤ 2048; omega), (by show 8 + (5 + 11) + lo ≤ 84000; omega)⟩) (q_pV hA hW hS (ci := 10) rfl hcl) rfl rfl hl.1 rfl (lv_room (Nat.le_of_ble_eq_true rfl)) dL_law_2045 ⟨(by show cells + c1 ≤ 601024; omega), (by show slots + s1 ≤ 7293034; omega)⟩) hS (fun r1 f1 n1 H locs hp hW hS => ?_)
  obtain ⟨rfl, hp1⟩ := hp
  obtain ⟨b9, P2, fr2, c2, s2, lo2, e1, e2, e3, e4, hM3, heq, ⟨r9, hR9⟩, hM4⟩ := hM2 f1 n1 hp1
  refine lv_dstore (lv' := [(5, .double R9), (4, .int (nI i)), (3, .ref (a + 99)), (2, .ref (a + 55)), (1, .ref a), (0, .ref b)]) hx hb dL_law_2048 hl (by decide) rfl (fun ls hl => ?_)
  refine lv_aload_n hx hb dL_law_2050 rfl (lv_at hl 3 rfl) ?_
  refine q_cd (va_runV (As := []) (rest := []) ⟨hx, hb, hml, hown, hts⟩ hM3 (cwV 0 hts gL_law_X14_meanHeat rfl rfl rfl (by decide +kernel) ⟨(by show fr2 + 1 ≤ 2048; omega), (by show 8 + (3 + 11) + lo2 ≤ 84000; omega)⟩) (q_pV hA hW hS (ci := 12) rfl (show f1 (a + 55) = some (cMod (a + 55) r9) from hR9 0 (by decide))) rfl rfl hl.1 rfl (lv_room (Nat.le_of_ble_eq_true rfl)) dL_law_2051 ⟨(by show cells + c1 + c2 ≤ 601024; omega), (by show slots + s1 + s2 ≤ 7293034; omega)⟩) hS (fun r2 f2 n2 H locs hp hW hS => ?_)
  obtain ⟨rfl, hp2⟩ := hp
  have hJ3 := hM4 f2 n2 hp2
  subst heq
  refine lv_dstore (lv' := [(7, .double R9), (5, .double R9), (4, .int (nI i)), (3, .ref (a + 99)), (2, .ref (a + 55)), (1, .ref a), (0, .ref b)]) hx hb dL_law_2054 hl (by decide) rfl (fun ls hl => ?_)
  refine lv_dload hx hb dL_law_2056 (lv_at hl 1 rfl) ?_
  refine lv_dload hx hb dL_law_2058 (lv_at hl 0 rfl) ?_
  refine lv_dcmp hx hb dL_law_2060 ?_
  refine lv_if_eq (tgt := 2082) hx hb dL_law_2061 (by decide) (fun c5 => ?_) (fun c5 => ?_)
  · refine lv_goto (tgt := 2099) hx hb dL_law_2082 (by decide) ?_
    refine W.widen (k := cells + 430) (n := slots + 3900) (by omega) (by omega) ?_
    exact kk _ _ _ _ _ hJ3 hW hS (lv_sub hl [2, 3, 4, 5, 6] rfl)
  · refine lv_dload hx hb dL_law_2064 (lv_at hl 1 rfl) ?_
    refine lv_dload hx hb dL_law_2066 (lv_at hl 1 rfl) ?_
    refine lv_dcmp hx hb dL_law_2068 ?_
    refine lv_if_eq (tgt := 2080) hx hb dL_law_2069 (by decide) (fun c6 => absurd c6 c5) (fun c6 => ?_)
    refine lv_dload hx hb dL_law_2072 (lv_at hl 0 rfl) ?_
    refine lv_dload hx hb dL_law_2074 (lv_at hl 0 rfl) ?_
    refine lv_dcmp hx hb dL_law_2076 ?_
    refine lv_if_ne (tgt := 2082) hx hb dL_law_2077 (by decide) (fun c7 => ?_) (fun c7 => absurd c7 c5)
    refine lv_goto (tgt := 2099) hx hb dL_law_2082 (by decide) ?_
    refine W.widen (k := cells + 430) (n := slots + 3900) (by omega) (by omega) ?_
    exact kk _ _ _ _ _ hJ3 hW hS (lv_sub hl [2, 3, 4, 5, 6] rfl)

set_option maxHeartbeats 4000000 in
set_option maxRecDepth 100000 in
theorem law_c41 {p : Program} {l : Launch} {e : Env} {s : State} {m : MethodId} {below : List Frame} {meth : Method} {c : Code} {E : q_E} {b L a : Nat} {xs : Nat → Int32} {Q : State → Prop} (X : LX p l s m c E b L a xs) {i : Nat} (hi : i + 6 ≤ L) {f : q_H} {n BB : Nat} {H : Heap} {locs : List Loc} {ls : Array Slot} {cells slots : Nat} (hB : BB ≤ 2 ^ 29) (hJ : JJ E a BB f n) (hW : q_W E f n H) (hS : va_S (q_ge E) s.heap H locs) (hl : lv_has ls 9 [(4, .int (nI i)), (3, .ref (a + 99)), (2, .ref (a + 55)), (1, .ref a), (0, .ref b)]) (hc : cells + 430 ≤ 601024) (hsl : slots + 3900 ≤ 7293034)
    (kk : ∀ (f1 : q_H) (n1 : Nat) (H1 : Heap) (locs1 : List Loc) (ls1 : Array Slot), JJ E a (BB + 100) f1 n1 → q_W E f1 n1 H1 → va_S (q_ge E) s.heap H1 locs1 → lv_has ls1 9 [(4, .int (nI i)), (3, .ref (a + 99)), (2, .ref (a + 55)), (1, .ref a), (0, .ref b)] → W p l e room_1 s m #[Value.ref b] below meth c H1 locs1 (cells + 430) (slots + 3900) Q (F0 m 2099 ls1 [])) :
    W p l e room_1 s m #[Value.ref b] below meth c H locs cells slots Q (F0 m 2085 ls []) := by
  obtain ⟨hx, hb, hml, hown, hts, hX, hbl, hbA, hA, hNc, hst, hL⟩ := X
  obtain ⟨R9, P1, fr, c1, s1, lo, b1, b2, b3, b4, hM1, hM2⟩ := P_digest l E a BB f n hB hJ
  obtain ⟨z1, z2, z3, z4, z5, z6, ep9, hcl⟩ := hJ.cls
  refine lv_aload_n hx hb dL_law_2085 rfl (lv_at hl 3 rfl) ?_
  refine q_cl (va_runV (As := []) (rest := []) ⟨hx, hb, hml, hown, hts⟩ hM1 (cwV 0 hts gL_law_X12_digest rfl rfl rfl (by decide +kernel) ⟨(by show fr + 1 ≤ 2048; omega), (by show 8 + (4 + 11) + lo ≤ 84000; omega)⟩) (q_pV hA hW hS (ci := 10) rfl hcl) rfl rfl hl.1 rfl (lv_room (Nat.le_of_ble_eq_true rfl)) dL_law_2086 ⟨(by show cells + c1 ≤ 601024; omega), (by show slots + s1 ≤ 7293034; omega)⟩) hS (fun r1 f1 n1 H locs hp hW hS => ?_)
  obtain ⟨rfl, hp1⟩ := hp
  obtain ⟨b9, P2, fr2, c2, s2, lo2, e1, e2, e3, e4, hM3, heq, ⟨r9, hR9⟩, hM4⟩ := hM2 f1 n1 hp1
  refine lv_aload_n hx hb dL_law_2089 rfl (lv_at hl 2 rfl) ?_
  refine q_cl (va_runV (As := []) (rest := [.long R9]) ⟨hx, hb, hml, hown, hts⟩ hM3 (cwV 0 hts gL_law_X14_digest rfl rfl rfl (by decide +kernel) ⟨(by show fr2 + 1 ≤ 2048; omega), (by show 8 + (8 + 11) + lo2 ≤ 84000; omega)⟩) (q_pV hA hW hS (ci := 12) rfl (show f1 (a + 55) = some (cMod (a + 55) r9) from hR9 0 (by decide))) rfl rfl hl.1 rfl (lv_room (Nat.le_of_ble_eq_true rfl)) dL_law_2090 ⟨(by show cells + c1 + c2 ≤ 601024; omega), (by show slots + s1 + s2 ≤ 7293034; omega)⟩) hS (fun r2 f2 n2 H locs hp hW hS => ?_)
  obtain ⟨rfl, hp2⟩ := hp
  have hJ3 := hM4 f2 n2 hp2
  refine q_lcmp0 hx hb heq dL_law_2093 ?_
  refine lv_if_eq (tgt := 2099) hx hb dL_law_2094 (by decide) (fun c5 => ?_) (fun c5 => absurd rfl c5)
  refine W.widen (k := cells + 430) (n := slots + 3900) (by omega) (by omega) ?_
  exact kk _ _ _ _ _ hJ3 hW hS (lv_sub hl [0, 1, 2, 3, 4] rfl)
