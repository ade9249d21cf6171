/-! methods that may throw -/
/-- where a method has thrown: of which class, what is known of the heap then, and its size -/
abbrev q_XC (E : q_E) (post : String → q_H → Nat → Prop) : String → State → State → Prop := vx_X (S := q_H × Nat) (fun _ => True) (fun C u t => post C u.1 u.2 ∧ q_W E u.1 u.2 t.heap) (q_ge E)
section QX
variable {p : Program} {l : Launch} {e : Env} {R : Room} {s : State} {m : MethodId} {args : Array Value} {below : List Frame} {meth : Method} {c : Code} {H : Heap} {locs : List Loc} {cells slots : Nat} {Q : State → Prop}
variable {own : String} {cc : ByteArray} {pc : Nat} {ls : Array Slot} {rest st0 : List Value} {E : q_E} {f : q_H} {n a mc ms : Nat} {Ts : List Cond} {ar : Array Value}
theorem q_same {H1 : Heap} {n1 : Nat} (h : q_W E f n H) (hz : H1.size = n1) (hn : n ≤ n1) (hq : ∀ q : Nat, q < H.size → H1[q]? = H[q]?) : q_W E f n1 H1 := ⟨hz, Nat.le_trans h.2.1 hn, fun b e' hb => ⟨(h.2.2 b e' hb).1, (h.2.2 b e' hb).2.kept (hq b (by rw [h.1]; exact h.lt hb))⟩⟩
theorem q_xi {post : Int32 → q_H → Nat → Prop} {px : String → q_H → Nat → Prop} (hr : vx_Run p l e R s m args below meth c H locs cells slots mc ms (F0 m pc ls st0) rest (q_Qi E post ar) (q_XC E px) (q_ge E)) (hS : va_S (q_ge E) s.heap H locs)
    (kx : ∀ (C : String) (ce : Cell) (q9 : Addr) (f1 : q_H) (n1 : Nat) (H1 : Heap) (locs1 : List Loc), px C f1 n1 → q_W E f1 n1 H1 → va_S (q_ge E) s.heap H1 locs1 → H1[q9]? = some ce → ce.vm = .none → s.vm.findClass C = some ce.cls → vx_W p l e R s m args below meth c H1 locs1 (cells + mc) (slots + ms) Q (F0 m pc ls rest) q9)
    (kk : ∀ (r : Int32) (f1 : q_H) (n1 : Nat) (H1 : Heap) (locs1 : List Loc), post r f1 n1 → q_W E f1 n1 H1 → va_S (q_ge E) s.heap H1 locs1 → W p l e R s m args below meth c H1 locs1 (cells + mc) (slots + ms) Q (F0 m (pc + 3) ls (.int r :: rest))) : W p l e R s m args below meth c H locs cells slots Q (F0 m pc ls st0) :=
  vx_calli hr hS (fun _ _ h => h) (fun _ h => h) (fun _ _ h => h) (fun C ce q9 u t H1 locs1 ht _ _ hb _ _ hS1 h1 h2 h3 => kx C ce q9 u.1 u.2 H1 locs1 hb.1 (by rw [← ht]; exact hb.2) hS1 h1 h2 h3) (fun r u t H1 locs1 ht _ hp hB _ _ hS1 => kk r u.1 u.2 H1 locs1 hp (by rw [← ht]; exact hB) hS1)
theorem q_xv {post : q_H → Nat → Prop} {px : String → q_H → Nat → Prop} (hr : vx_Run p l e R s m args below meth c H locs cells slots mc ms (F0 m pc ls st0) rest (q_Qv E post ar) (q_XC E px) (q_ge E)) (hS : va_S (q_ge E) s.heap H locs)
    (kx : ∀ (C : String) (ce : Cell) (q9 : Addr) (f1 : q_H) (n1 : Nat) (H1 : Heap) (locs1 : List Loc), px C f1 n1 → q_W E f1 n1 H1 → va_S (q_ge E) s.heap H1 locs1 → H1[q9]? = some ce → ce.vm = .none → s.vm.findClass C = some ce.cls → vx_W p l e R s m args below meth c H1 locs1 (cells + mc) (slots + ms) Q (F0 m pc ls rest) q9)
    (kk : ∀ (f1 : q_H) (n1 : Nat) (H1 : Heap) (locs1 : List Loc), post f1 n1 → q_W E f1 n1 H1 → va_S (q_ge E) s.heap H1 locs1 → W p l e R s m args below meth c H1 locs1 (cells + mc) (slots + ms) Q (F0 m (pc + 3) ls rest)) : W p l e R s m args below meth c H locs cells slots Q (F0 m pc ls st0) :=
  vx_callv hr hS (fun _ _ h => h) (fun _ h => h) (fun _ _ h => h) (fun C ce q9 u t H1 locs1 ht _ _ hb _ _ hS1 h1 h2 h3 => kx C ce q9 u.1 u.2 H1 locs1 hb.1 (by rw [← ht]; exact hb.2) hS1 h1 h2 h3) (fun u t H1 locs1 ht _ hp hB _ _ hS1 => kk u.1 u.2 H1 locs1 hp (by rw [← ht]; exact hB) hS1)
theorem q_xq {post : Option Nat → q_H → Nat → Prop} {px : String → q_H → Nat → Prop} (hr : vx_Run p l e R s m args below meth c H locs cells slots mc ms (F0 m pc ls st0) rest (q_Qq E post ar) (q_XC E px) (q_ge E)) (hS : va_S (q_ge E) s.heap H locs)
    (kx : ∀ (C : String) (ce : Cell) (q9 : Addr) (f1 : q_H) (n1 : Nat) (H1 : Heap) (locs1 : List Loc), px C f1 n1 → q_W E f1 n1 H1 → va_S (q_ge E) s.heap H1 locs1 → H1[q9]? = some ce → ce.vm = .none → s.vm.findClass C = some ce.cls → vx_W p l e R s m args below meth c H1 locs1 (cells + mc) (slots + ms) Q (F0 m pc ls rest) q9)
    (kk : ∀ (r : Option Nat) (f1 : q_H) (n1 : Nat) (H1 : Heap) (locs1 : List Loc), post r f1 n1 → q_W E f1 n1 H1 → va_S (q_ge E) s.heap H1 locs1 → W p l e R s m args below meth c H1 locs1 (cells + mc) (slots + ms) Q (F0 m (pc + 3) ls (va_rf r :: rest))) : W p l e R s m args below meth c H locs cells slots Q (F0 m pc ls st0) := by
  intro T hT X
  rcases hr T hT X with ⟨v, st₀, t, T', L, h0, X', hL, e1, e2, ⟨⟨r, u, hv, hp, hb⟩, hF⟩, st⟩ | ⟨q, st₀, t, T', L, C, ce, h0, X', hL, e1, e2, ⟨u, hp, hb, hF⟩, hce, hcv, hcl, st⟩
  · cases hv
    obtain ⟨k1, k2, k3⟩ := vx_keep h0 e1 hS (fun _ _ h => h) (fun _ h => h) hL hF
    obtain ⟨t2, a1, b1⟩ := kk r u.1 u.2 T'.heap (locs ++ L) hp (by rw [e1]; exact hb) k3 T' rfl X'
    exact ⟨t2, st t2 a1, b1⟩
  · obtain ⟨k1, k2, k3⟩ := vx_keep h0 e1 hS (fun _ _ h => h) (fun _ h => h) hL hF
    obtain ⟨t2, a1, b1⟩ := kx C ce q u.1 u.2 T'.heap (locs ++ L) hb.1 (by rw [e1]; exact hb.2) k3 (by rw [e1]; exact hce) hcv hcl T' rfl X'
    exact ⟨t2, st.trans a1, b1⟩
/-- thrown further -/
theorem q_out {Qc : Array Value → State → Outcome → State → Prop} {px : String → q_H → Nat → Prop} {C : String} {ce : Cell} {q9 : Addr} (hout : ∀ x ∈ c.exceptionTable.toList, False) (hlocks : meth.locks = false) (hp : px C f n) (hW : q_W E f n H) (hS : va_S (q_ge E) s.heap H locs) (h1 : H[q9]? = some ce) (h2 : ce.vm = .none) (h3 : s.vm.findClass C = some ce.cls) (hc : cells ≤ mc) (hs : slots ≤ ms) : vx_W p l e R s m args below meth c H locs cells slots (vx_MQ below Qc (q_XC E px) args s mc ms (q_ge E)) (F0 m pc ls rest) q9 :=
  vx_out (fun x hx => (hout x hx).elim) hlocks h1 h2 h3 (fun t ht _ => ⟨(f, n), trivial, ⟨hp, by rw [ht]; exact hW⟩, (hS.F ht).2 |> fun z => (hS.F ht)⟩) hS.2.2 hc hs
end QX
