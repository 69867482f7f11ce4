/-! Rules: the context's facts move; calls; loops; ints by their numbers. -/
def sx_ty (cA : Nat → ClassId) : List (ClassId × FieldType) := [(cA 0, .int), (cA 1, .boolean), (cA 2, .char), (cA 3, .long), (cA 4, .object "SandboxTree$Action")]
def sx_K (D : va_G) (cA : Nat → ClassId) (U : State) : Prop := va_K D vwCl (sx_ty cA) U ∧ sx_NW U ∧ va_AO "SandboxTree$Action" U
theorem sx_K.moved {D : va_G} {cA : Nat → ClassId} {s U : State} (hW : s.WarmedH U.vm) (h : sx_K D cA s) : sx_K D cA U := ⟨va_K.moved hW.alike h.1, sx_NW.warm hW h.2.1, va_AO.moved hW.alike h.2.2⟩
theorem sx_K.call {D : va_G} {cA : Nat → ClassId} {U : State} {g : JFrame} {mk : MethodId} {a : Array Value} (h : sx_K D cA U) : sx_K D cA (U.calling g mk a) := ⟨va_K.moved (u := U) (U := U.calling g mk a) (Vm.Alike.refl U.vm) h.1, sx_NW.same (u := U) (U := U.calling g mk a) rfl h.2.1, va_AO.moved (u := U) (U := U.calling g mk a) (Vm.Alike.refl U.vm) h.2.2⟩
abbrev sx_Pr (D : va_G) (cA : Nat → ClassId) (av : List Value) (wc : va_W) : Array Value → State → Prop := va_Pc av (fun U => va_P D vwCl wc U.heap ∧ sx_K D cA U)
abbrev sx_Pw (D : va_G) (cA : Nat → ClassId) (av : List Value) (wc : va_W) (sz : Nat) : Array Value → State → Prop := va_Pc av (fun U => U.heap.size = sz ∧ va_P D vwCl wc U.heap ∧ sx_K D cA U ∧ va_D (fun _ => True) wc)
abbrev sx_Bw {S : Type} (D : va_G) (wc : va_W) (sz : Nat) (w1 : S → va_W) : S → State → Prop := fun u t => va_P D vwCl (w1 u) t.heap ∧ va_D (va_A wc sz) (w1 u)
theorem sx_preV {D : va_G} {cA : Nat → ClassId} {s : State} {H : Heap} {C : String} {b : Addr} {As : List Value} {wc : va_W} (hK : sx_K D cA s) (hP : va_P D vwCl wc H) (hr : ∃ cell : Cell, H[b]? = some cell ∧ cell.vm.isStatics = false ∧ s.vm.findClass C = some cell.cls) : PreV s H C b (sx_Pr D cA (.ref b :: As) wc) As :=
  ⟨fun _ _ _ _ q => ⟨q.1, q.2.1, q.2.2.call⟩, hr, fun U hU hW => ⟨rfl, by rw [hU]; exact hP, hK.moved hW⟩⟩
theorem sx_preS {D : va_G} {cA : Nat → ClassId} {s : State} {H : Heap} {As : List Value} {wc : va_W} (hK : sx_K D cA s) (hP : va_P D vwCl wc H) : PreS s H (sx_Pr D cA As wc) As :=
  ⟨fun _ _ _ _ q => ⟨q.1, q.2.1, q.2.2.call⟩, fun U hU hW => ⟨rfl, by rw [hU]; exact hP, hK.moved hW⟩⟩
theorem sx_preVw {D : va_G} {cA : Nat → ClassId} {s : State} {H : Heap} {C : String} {b : Addr} {As : List Value} {wc : va_W} {A : Nat → Prop} (hK : sx_K D cA s) (hP : va_P D vwCl wc H) (hD : va_D A wc) (hr : ∃ cell : Cell, H[b]? = some cell ∧ cell.vm.isStatics = false ∧ s.vm.findClass C = some cell.cls) : PreV s H C b (sx_Pw D cA (.ref b :: As) wc H.size) As :=
  ⟨fun _ _ _ _ q => ⟨q.1, q.2.1, q.2.2.1, q.2.2.2.1.call, q.2.2.2.2⟩, hr, fun U hU hW => ⟨rfl, by rw [hU], by rw [hU]; exact hP, hK.moved hW, hD.weaken (fun _ _ _ _ => trivial)⟩⟩
theorem sx_preSw {D : va_G} {cA : Nat → ClassId} {s : State} {H : Heap} {As : List Value} {wc : va_W} {A : Nat → Prop} (hK : sx_K D cA s) (hP : va_P D vwCl wc H) (hD : va_D A wc) : PreS s H (sx_Pw D cA As wc H.size) As :=
  ⟨fun _ _ _ _ q => ⟨q.1, q.2.1, q.2.2.1, q.2.2.2.1.call, q.2.2.2.2⟩, fun U hU hW => ⟨rfl, by rw [hU], by rw [hU]; exact hP, hK.moved hW, hD.weaken (fun _ _ _ _ => trivial)⟩⟩
section SXC
variable {p : Program} {l : Launch} {e : Env} {R : Room} {s : State} {m : MethodId} {args : Array Value} {below : List Frame} {meth : Method} {c : Code} {H : Heap} {locs : List Loc} {cells slots : Nat} {Q : State → Prop}
variable {pc : Nat} {ls : Array Slot} {rest st0 : List Value} {a : Array Value} {A0 : Nat → Prop} {H0 : Heap} {mc ms : Nat} {D : va_G} {ws wc wr : va_W}
theorem sx_calli {S : Type} {post : Int32 → S → Prop} {w1 : S → va_W} (hr : va_Run p l e R s m args below meth c H locs cells slots mc ms (F0 m pc ls st0) rest (va_Qi post (sx_Bw D wc H.size w1) (va_A wc H.size) a) (va_A wc H.size)) (hP : va_P D vwCl ws H) (hD : va_D A0 ws) (hS : va_S A0 H0 H locs) (hA : ∀ q, H0.size ≤ q → A0 q)
    (isC isR : List Nat) (hC : isC.map (fun i => ws[i]?) = wc.map some) (hR : isR.map (fun i => ws[i]?) = wr.map some) (hn : va_nd isR = true) (hdis : ∀ i ∈ isR, i ∉ isC)
    (kk : ∀ (r : Int32) (u : S) (H1 : Heap) (locs1 : List Loc), post r u → va_P D vwCl (wr ++ w1 u) H1 → va_D A0 (wr ++ w1 u) → va_S A0 H0 H1 locs1 → W p l e R s m args below meth c H1 locs1 (cells + mc) (slots + ms) Q (F0 m (pc + 3) ls (.int r :: rest))) : W p l e R s m args below meth c H locs cells slots Q (F0 m pc ls st0) := by
  have hF := va_free hD hS hA isC hC
  refine va_calli hr hS (fun q _ h => hF q h) hF (fun r u t H1 locs1 ht _ hw hB _ hk hS1 => ?_)
  obtain ⟨hP1, hD1⟩ := hB
  rw [ht] at hP1
  obtain ⟨g1, g2⟩ := va_join hP hD isC isR hC hR hn hdis hk hF hP1 hD1
  exact kk r u H1 locs1 hw g1 g2 hS1
theorem sx_callv {S : Type} {post : S → Prop} {w1 : S → va_W} (hr : va_Run p l e R s m args below meth c H locs cells slots mc ms (F0 m pc ls st0) rest (va_Qv post (sx_Bw D wc H.size w1) (va_A wc H.size) a) (va_A wc H.size)) (hP : va_P D vwCl ws H) (hD : va_D A0 ws) (hS : va_S A0 H0 H locs) (hA : ∀ q, H0.size ≤ q → A0 q)
    (isC isR : List Nat) (hC : isC.map (fun i => ws[i]?) = wc.map some) (hR : isR.map (fun i => ws[i]?) = wr.map some) (hn : va_nd isR = true) (hdis : ∀ i ∈ isR, i ∉ isC)
    (kk : ∀ (u : S) (H1 : Heap) (locs1 : List Loc), post u → va_P D vwCl (wr ++ w1 u) H1 → va_D A0 (wr ++ w1 u) → va_S A0 H0 H1 locs1 → W p l e R s m args below meth c H1 locs1 (cells + mc) (slots + ms) Q (F0 m (pc + 3) ls rest)) : W p l e R s m args below meth c H locs cells slots Q (F0 m pc ls st0) := by
  have hF := va_free hD hS hA isC hC
  refine va_callv hr hS (fun q _ h => hF q h) hF (fun u t H1 locs1 ht _ hw hB _ hk hS1 => ?_)
  obtain ⟨hP1, hD1⟩ := hB
  rw [ht] at hP1
  obtain ⟨g1, g2⟩ := va_join hP hD isC isR hC hR hn hdis hk hF hP1 hD1
  exact kk u H1 locs1 hw g1 g2 hS1
theorem sx_asi {x y : Int32} (h : x = y) (k : W p l e R s m args below meth c H locs cells slots Q (F0 m pc ls (.int y :: rest))) : W p l e R s m args below meth c H locs cells slots Q (F0 m pc ls (.int x :: rest)) := h ▸ k
theorem sx_asl {x y : Int64} (h : x = y) (k : W p l e R s m args below meth c H locs cells slots Q (F0 m pc ls (.long y :: rest))) : W p l e R s m args below meth c H locs cells slots Q (F0 m pc ls (.long x :: rest)) := h ▸ k
theorem sx_asv {x y : Value} (h : x = y) (k : W p l e R s m args below meth c H locs cells slots Q (F0 m pc ls (y :: rest))) : W p l e R s m args below meth c H locs cells slots Q (F0 m pc ls (x :: rest)) := h ▸ k
/-- a loop that changes no cell: x the loop's variables, J what holds of them at its head, lv the locals, μ what falls -/
theorem sx_loop {σ : Type} {nL : Nat} (J : σ → Prop) (lv : σ → List (Nat × Value)) (μ : σ → Nat) (x0 : σ) (h0 : J x0) (hl : lv_has ls nL (lv x0))
    (step : ∀ x : σ, J x → (∀ y : σ, J y → μ y < μ x → ∀ ls : Array Slot, lv_has ls nL (lv y) → W p l e R s m args below meth c H locs cells slots Q (F0 m pc ls rest)) → ∀ ls : Array Slot, lv_has ls nL (lv x) → W p l e R s m args below meth c H locs cells slots Q (F0 m pc ls rest)) : W p l e R s m args below meth c H locs cells slots Q (F0 m pc ls rest) := by
  have key : ∀ (n : Nat) (x : σ), μ x < n → J x → ∀ ls : Array Slot, lv_has ls nL (lv x) → W p l e R s m args below meth c H locs cells slots Q (F0 m pc ls rest) := by
    intro n
    induction n with
    | zero => intro x h; exact absurd h (Nat.not_lt_zero _)
    | succ n ih => exact fun x h hJ => step x hJ (fun y hy hm => ih y (by omega) hy)
  exact key (μ x0 + 1) x0 (Nat.lt_succ_self _) h0 ls hl
/-- a loop that changes cells -/
theorem sx_loopW {σ : Type} {nL : Nat} {A : Nat → Prop} (J : σ → Prop) (lv : σ → List (Nat × Value)) (wf : σ → va_W) (μ : σ → Nat) (x0 : σ) (h0 : J x0) (hl : lv_has ls nL (lv x0)) (hP : va_P D vwCl (wf x0) H) (hD : va_D A (wf x0)) (hS : va_S A H0 H locs)
    (step : ∀ x : σ, J x → (∀ y : σ, J y → μ y < μ x → ∀ (ls : Array Slot) (H : Heap) (locs : List Loc), lv_has ls nL (lv y) → va_P D vwCl (wf y) H → va_D A (wf y) → va_S A H0 H locs → W p l e R s m args below meth c H locs cells slots Q (F0 m pc ls rest)) → ∀ (ls : Array Slot) (H : Heap) (locs : List Loc), lv_has ls nL (lv x) → va_P D vwCl (wf x) H → va_D A (wf x) → va_S A H0 H locs → W p l e R s m args below meth c H locs cells slots Q (F0 m pc ls rest)) : W p l e R s m args below meth c H locs cells slots Q (F0 m pc ls rest) := by
  have key : ∀ (n : Nat) (x : σ), μ x < n → J x → ∀ (ls : Array Slot) (H : Heap) (locs : List Loc), lv_has ls nL (lv x) → va_P D vwCl (wf x) H → va_D A (wf x) → va_S A H0 H locs → W p l e R s m args below meth c H locs cells slots Q (F0 m pc ls rest) := by
    intro n
    induction n with
    | zero => intro x h; exact absurd h (Nat.not_lt_zero _)
    | succ n ih => exact fun x h hJ => step x hJ (fun y hy hm => ih y (by omega) hy)
  exact key (μ x0 + 1) x0 (Nat.lt_succ_self _) h0 ls H locs hl hP hD hS
end SXC
