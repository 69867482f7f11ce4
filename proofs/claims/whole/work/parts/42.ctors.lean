set_option maxHeartbeats 4000000 in
set_option maxRecDepth 100000 in
theorem k_Sinit (l : Launch) (D : va_G) (cA : Nat → ClassId) (sz : Nat) (o : Nat) : Met l y_S_init w_S_init ({ frames := 1, cells := 1, slots := 60, locals := 12 }) (sx_Pw D cA [.ref o] ([(o, .inr (2, [.null, .long 0, .long 0]))]) sz) (va_Qv (fun (u : Nat) => True) (sx_Bw D ([(o, .inr (2, [.null, .long 0, .long 0]))]) sz (fun u => wS cA o u (fun _ => 0) 0 0)) (va_A ([(o, .inr (2, [.null, .long 0, .long 0]))]) sz)) 1 60 (va_A ([(o, .inr (2, [.null, .long 0, .long 0]))]) sz) := by
  refine Met.ofW (cc := b_S_init) (maxL := 1) (ret := none) (by decide) rfl ?_
  intro pG eG s m args below meth cG s₁ B hml hv
  obtain ⟨rfl, hsz, hP, hK, hD0⟩ := hv
  have hx := B.exec
  have hb := B.bytes
  have hr := B.returns
  have hts0 := atoms_spec (ws := w_S_init) B.pre
  have hts : ∀ w ∈ sx_gw, w.before _ s = true := fun w h => hts0 w (List.mem_cons_of_mem _ h)
  have hown : s.vm.findClass R_S = some m.cls := findClass_of_methodNamed B.named
  have hlocks := B.notSynchronized
  have hin : meth.name = "<init>" := (name_of_methodNamed B.named B.method).1
  subst hsz
  have hD := hD0.self (sz := s.heap.size)
  generalize hAe : va_A ([(o, .inr (2, [.null, .long 0, .long 0]))]) s.heap.size = A at hD ⊢
  have hA : ∀ q : Nat, s.heap.size ≤ q → A q := fun q h => by rw [← hAe]; exact Or.inr h
  have hS : va_S A s.heap s.heap [] := va_S.rf
  have hl := lv_entry ([.ref o]) (n := 1) (Nat.le_of_ble_eq_true rfl)
  rw [lg_entry_eq]
  generalize (lg_sl ([.ref o]) ++ List.replicate (1 - (lg_sl ([.ref o])).length) Slot.unset).toArray = ls at hl ⊢
  have hl : lv_has ls 1 [(0, .ref o)] := hl
  refine lv_aload_n hx hb d_S_init_0 rfl (lv_at hl 0 rfl) ?_
  refine W.objInit hx hb hown (hts _ wd_56) (hts _ wd_15) (hts _ wd_16) rfl (by rw [hml]; exact hl.1) rfl d_S_init_1 (Nat.le_of_ble_eq_true rfl) (Nat.le_of_ble_eq_true rfl) ?_
  refine W.eq (g2 := F0 m 4 ls []) rfl ?_
  refine lv_aload_n hx hb d_S_init_4 rfl (lv_at hl 0 rfl) ?_
  refine lv_bipush (v := nI 60) hx hb d_S_init_5 (by decide +kernel) ?_
  refine va_newa (atype := .int) (ty := .int) (a0 := (60, .inl (fun _ => 0))) (N' := 60) hx hb (hts (.arrayClass .int) wd_48) rfl hK.1 hP hD hS hA (fun _ => rfl) (by decide +kernel) (by decide +kernel) (by decide +kernel) (Nat.le_of_ble_eq_true rfl) (Nat.le_of_ble_eq_true rfl) d_S_init_7 (fun q_1 cB H hKB hP hD hS => ?_)
  obtain rfl := sx_nA0 hK hKB
  have hP : va_P D vwCl ([(o, .inr (2, [.null, .long 0, .long 0])), (q_1, .inl (cA 0, 60, .inl (fun _ => 0)))]) H := hP
  have hD : va_D A ([(o, .inr (2, [.null, .long 0, .long 0])), (q_1, .inl (cA 0, 60, .inl (fun _ => 0)))]) := hD
  refine W.widen (k := 1) (n := 60) (by decide) (by decide) ?_
  refine va_putF (D := D) (ci := 2) (v := .ref q_1) (ty := .array .int) (C := R_S) (T := T_S) (N := 3) hx hb hts iw_S t_S o_S n_S hown hK.1 hP hD hS 0 rfl rfl 0 (by decide) (hts _ wd_57) (fun _ h9 => h9) rfl hin rfl (by decide +kernel) rfl rfl (Nat.le_of_ble_eq_true rfl) d_S_init_9 (fun H locs hP hD hS => ?_)
  have hP : va_P D vwCl ([(o, .inr (2, [.ref q_1, .long 0, .long 0])), (q_1, .inl (cA 0, 60, .inl (fun _ => 0)))]) H := hP
  have hD : va_D A ([(o, .inr (2, [.ref q_1, .long 0, .long 0])), (q_1, .inl (cA 0, 60, .inl (fun _ => 0)))]) := hD
  have hP9 : va_P D vwCl (wS cA o q_1 (fun _ => 0) 0 0) H := hP
  have hD9 : va_D A (wS cA o q_1 (fun _ => 0) 0 0) := hD
  exact W.vret hx hb hr (fun t ht hW => ⟨⟨q_1, rfl, trivial, by rw [ht]; exact hP9, by rw [hAe]; exact hD9⟩, hS.F ht⟩) hS.2.2 d_S_init_12
