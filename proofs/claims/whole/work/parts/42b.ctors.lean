set_option maxHeartbeats 4000000 in
set_option maxRecDepth 100000 in
theorem k_Ainit (l : Launch) (D : va_G) (cA : Nat → ClassId) (sz : Nat) (o : Nat) : Met l y_A_init w_A_init ({ frames := 2, cells := 5, slots := 147, locals := 32 }) (sx_Pw D cA [.ref o] ([(o, .inr (0, [.null, .null, .int 0, .null, .int 0, .int 0, .int 0, .int 0, .int 0, .null, .int 0, .long 0]))]) sz) (va_Qv (fun (u : Nat × Nat × Nat × Nat × Nat) => True) (sx_Bw D ([(o, .inr (0, [.null, .null, .int 0, .null, .int 0, .int 0, .int 0, .int 0, .int 0, .null, .int 0, .long 0]))]) sz (fun u => wA cA o u.1 u.2.1 u.2.2.1 u.2.2.2.1 u.2.2.2.2 (fun _ => 0) (fun _ => 0) 0 0 0 0 0 0 (fun _ => 0) 0 0 (fun _ => 0) 0 0)) (va_A ([(o, .inr (0, [.null, .null, .int 0, .null, .int 0, .int 0, .int 0, .int 0, .int 0, .null, .int 0, .long 0]))]) sz)) 5 147 (va_A ([(o, .inr (0, [.null, .null, .int 0, .null, .int 0, .int 0, .int 0, .int 0, .int 0, .null, .int 0, .long 0]))]) sz) := by
  refine Met.ofW (cc := b_A_init) (maxL := 1) (ret := none) (by decide) rfl ?_
  intro pG eG s m args below meth cG s₁ B hml hv
  obtain ⟨rfl, hsz, hP, hK, hD0⟩ := hv
  have hx := B.exec
  have hb := B.bytes
  have hr := B.returns
  have hts0 := atoms_spec (ws := w_A_init) B.pre
  have hts : ∀ w ∈ sx_gw, w.before _ s = true := fun w h => hts0 w (List.mem_cons_of_mem _ h)
  have hown : s.vm.findClass R_A = some m.cls := findClass_of_methodNamed B.named
  have hlocks := B.notSynchronized
  have hin : meth.name = "<init>" := (name_of_methodNamed B.named B.method).1
  subst hsz
  have hD := hD0.self (sz := s.heap.size)
  generalize hAe : va_A ([(o, .inr (0, [.null, .null, .int 0, .null, .int 0, .int 0, .int 0, .int 0, .int 0, .null, .int 0, .long 0]))]) s.heap.size = A at hD ⊢
  have hA : ∀ q : Nat, s.heap.size ≤ q → A q := fun q h => by rw [← hAe]; exact Or.inr h
  have hS : va_S A s.heap s.heap [] := va_S.rf
  have hl := lv_entry ([.ref o]) (n := 1) (Nat.le_of_ble_eq_true rfl)
  rw [lg_entry_eq]
  generalize (lg_sl ([.ref o]) ++ List.replicate (1 - (lg_sl ([.ref o])).length) Slot.unset).toArray = ls at hl ⊢
  have hl : lv_has ls 1 [(0, .ref o)] := hl
  refine lv_aload_n hx hb d_A_init_0 rfl (lv_at hl 0 rfl) ?_
  refine W.objInit hx hb hown (hts _ wd_156) (hts _ wd_15) (hts _ wd_16) rfl (by rw [hml]; exact hl.1) rfl d_A_init_1 (Nat.le_of_ble_eq_true rfl) (Nat.le_of_ble_eq_true rfl) ?_
  refine W.eq (g2 := F0 m 4 ls []) rfl ?_
  refine lv_aload_n hx hb d_A_init_4 rfl (lv_at hl 0 rfl) ?_
  refine lv_bipush (v := nI 12) hx hb d_A_init_5 (by decide +kernel) ?_
  refine va_newa (atype := .int) (ty := .int) (a0 := (12, .inl (fun _ => 0))) (N' := 12) hx hb (hts (.arrayClass .int) wd_48) rfl hK.1 hP hD hS hA (fun _ => rfl) (by decide +kernel) (by decide +kernel) (by decide +kernel) (Nat.le_of_ble_eq_true rfl) (Nat.le_of_ble_eq_true rfl) d_A_init_7 (fun q_1 cB H hKB hP hD hS => ?_)
  obtain rfl := sx_nA0 hK hKB
  have hP : va_P D vwCl ([(o, .inr (0, [.null, .null, .int 0, .null, .int 0, .int 0, .int 0, .int 0, .int 0, .null, .int 0, .long 0])), (q_1, .inl (cA 0, 12, .inl (fun _ => 0)))]) H := hP
  have hD : va_D A ([(o, .inr (0, [.null, .null, .int 0, .null, .int 0, .int 0, .int 0, .int 0, .int 0, .null, .int 0, .long 0])), (q_1, .inl (cA 0, 12, .inl (fun _ => 0)))]) := hD
  refine W.widen (k := 1) (n := 12) (by decide) (by decide) ?_
  refine va_putF (D := D) (ci := 0) (v := .ref q_1) (ty := .array .int) (C := R_A) (T := T_A) (N := 12) hx hb hts iw_A t_A o_A n_A hown hK.1 hP hD hS 0 rfl rfl 0 (by decide) (hts _ wd_159) (fun _ h9 => h9) rfl hin rfl (by decide +kernel) rfl rfl (Nat.le_of_ble_eq_true rfl) d_A_init_9 (fun H locs hP hD hS => ?_)
  have hP : va_P D vwCl ([(o, .inr (0, [.ref q_1, .null, .int 0, .null, .int 0, .int 0, .int 0, .int 0, .int 0, .null, .int 0, .long 0])), (q_1, .inl (cA 0, 12, .inl (fun _ => 0)))]) H := hP
  have hD : va_D A ([(o, .inr (0, [.ref q_1, .null, .int 0, .null, .int 0, .int 0, .int 0, .int 0, .int 0, .null, .int 0, .long 0])), (q_1, .inl (cA 0, 12, .inl (fun _ => 0)))]) := hD
  refine lv_aload_n hx hb d_A_init_12 rfl (lv_at hl 0 rfl) ?_
  refine lv_bipush (v := nI 12) hx hb d_A_init_13 (by decide +kernel) ?_
  refine va_newa (atype := .boolean) (ty := .boolean) (a0 := (12, .inl (fun _ => 0))) (N' := 12) hx hb (hts (.arrayClass .boolean) wd_207) rfl hK.1 hP hD hS hA (fun _ => rfl) (by decide +kernel) (by decide +kernel) (by decide +kernel) (Nat.le_of_ble_eq_true rfl) (Nat.le_of_ble_eq_true rfl) d_A_init_15 (fun q_2 cB H hKB hP hD hS => ?_)
  obtain rfl := sx_nA1 hK hKB
  have hP : va_P D vwCl ([(o, .inr (0, [.ref q_1, .null, .int 0, .null, .int 0, .int 0, .int 0, .int 0, .int 0, .null, .int 0, .long 0])), (q_1, .inl (cA 0, 12, .inl (fun _ => 0))), (q_2, .inl (cA 1, 12, .inl (fun _ => 0)))]) H := hP
  have hD : va_D A ([(o, .inr (0, [.ref q_1, .null, .int 0, .null, .int 0, .int 0, .int 0, .int 0, .int 0, .null, .int 0, .long 0])), (q_1, .inl (cA 0, 12, .inl (fun _ => 0))), (q_2, .inl (cA 1, 12, .inl (fun _ => 0)))]) := hD
  refine W.widen (k := 2) (n := 24) (by decide) (by decide) ?_
  refine va_putF (D := D) (ci := 0) (v := .ref q_2) (ty := .array .boolean) (C := R_A) (T := T_A) (N := 12) hx hb hts iw_A t_A o_A n_A hown hK.1 hP hD hS 0 rfl rfl 1 (by decide) (hts _ wd_161) (fun _ h9 => h9) rfl hin rfl (by decide +kernel) rfl rfl (Nat.le_of_ble_eq_true rfl) d_A_init_17 (fun H locs hP hD hS => ?_)
  have hP : va_P D vwCl ([(o, .inr (0, [.ref q_1, .ref q_2, .int 0, .null, .int 0, .int 0, .int 0, .int 0, .int 0, .null, .int 0, .long 0])), (q_1, .inl (cA 0, 12, .inl (fun _ => 0))), (q_2, .inl (cA 1, 12, .inl (fun _ => 0)))]) H := hP
  have hD : va_D A ([(o, .inr (0, [.ref q_1, .ref q_2, .int 0, .null, .int 0, .int 0, .int 0, .int 0, .int 0, .null, .int 0, .long 0])), (q_1, .inl (cA 0, 12, .inl (fun _ => 0))), (q_2, .inl (cA 1, 12, .inl (fun _ => 0)))]) := hD
  refine lv_aload_n hx hb d_A_init_20 rfl (lv_at hl 0 rfl) ?_
  refine va_new (ci := 2) (fs := [.null, .long 0, .long 0]) (C := R_S) (T := T_S) (N := 3) hx hb hts iw_S t_S o_S hown (hts _ wd_157) (hts _ wd_52) (hts _ wd_4) hK.1 hP hD hS hA rfl sx_df_S (Nat.le_of_ble_eq_true rfl) (Nat.le_of_ble_eq_true rfl) d_A_init_21 (fun q_3 H hP hD hS => ?_)
  have hP : va_P D vwCl ([(o, .inr (0, [.ref q_1, .ref q_2, .int 0, .null, .int 0, .int 0, .int 0, .int 0, .int 0, .null, .int 0, .long 0])), (q_1, .inl (cA 0, 12, .inl (fun _ => 0))), (q_2, .inl (cA 1, 12, .inl (fun _ => 0))), (q_3, .inr (2, [.null, .long 0, .long 0]))]) H := hP
  have hD : va_D A ([(o, .inr (0, [.ref q_1, .ref q_2, .int 0, .null, .int 0, .int 0, .int 0, .int 0, .int 0, .null, .int 0, .long 0])), (q_1, .inl (cA 0, 12, .inl (fun _ => 0))), (q_2, .inl (cA 1, 12, .inl (fun _ => 0))), (q_3, .inr (2, [.null, .long 0, .long 0]))]) := hD
  refine W.widen (k := 3) (n := 27) (by decide) (by decide) ?_
  refine lv_dup hx hb d_A_init_24 rfl ?_
  have hPc : va_P D vwCl [(q_3, .inr (2, [.null, .long 0, .long 0]))] H := hP.sub [3] rfl
  have hDc := hD.sub (ws' := [(q_3, .inr (2, [.null, .long 0, .long 0]))]) [3] (by decide) rfl
  refine sx_callv (wr := [(o, .inr (0, [.ref q_1, .ref q_2, .int 0, .null, .int 0, .int 0, .int 0, .int 0, .int 0, .null, .int 0, .long 0])), (q_1, .inl (cA 0, 12, .inl (fun _ => 0))), (q_2, .inl (cA 1, 12, .inl (fun _ => 0)))]) (va_runIN (As := []) (rest := [.ref q_3, .ref o]) ⟨hx, hb, hml, hown, hts⟩ (k_Sinit l D cA H.size q_3) ⟨va_cnB 0 hts (sx_GI wd_55) rfl rfl rfl (hK.2.1 _ wd_158) (hts _ wd_4) (by decide +kernel) ⟨Nat.le_of_ble_eq_true rfl, Nat.le_of_ble_eq_true rfl⟩, rfl, hts _ wd_54⟩ (sx_preSw hK hPc hDc) rfl rfl hl.1 rfl (lv_room (Nat.le_of_ble_eq_true rfl)) d_A_init_25 ⟨Nat.le_of_ble_eq_true rfl, Nat.le_of_ble_eq_true rfl⟩) hP hD hS hA [3] [0, 1, 2] rfl rfl (by decide) (by decide) (fun u_4 H locs hr_5 hP hD hS => ?_)
  have hP : va_P D vwCl ([(o, .inr (0, [.ref q_1, .ref q_2, .int 0, .null, .int 0, .int 0, .int 0, .int 0, .int 0, .null, .int 0, .long 0])), (q_1, .inl (cA 0, 12, .inl (fun _ => 0))), (q_2, .inl (cA 1, 12, .inl (fun _ => 0))), (q_3, .inr (2, [.ref u_4, .long 0, .long 0])), (u_4, .inl (cA 0, 60, .inl (fun _ => 0)))]) H := hP
  have hD : va_D A ([(o, .inr (0, [.ref q_1, .ref q_2, .int 0, .null, .int 0, .int 0, .int 0, .int 0, .int 0, .null, .int 0, .long 0])), (q_1, .inl (cA 0, 12, .inl (fun _ => 0))), (q_2, .inl (cA 1, 12, .inl (fun _ => 0))), (q_3, .inr (2, [.ref u_4, .long 0, .long 0])), (u_4, .inl (cA 0, 60, .inl (fun _ => 0)))]) := hD
  refine W.widen (k := 4) (n := 87) (by decide) (by decide) ?_
  refine va_putF (D := D) (ci := 0) (v := .ref q_3) (ty := .object "SandboxTree$Store") (C := R_A) (T := T_A) (N := 12) hx hb hts iw_A t_A o_A n_A hown hK.1 hP hD hS 0 rfl rfl 3 (by decide) (hts _ wd_165) (fun _ h9 => h9) rfl hin rfl (by decide +kernel) rfl rfl (Nat.le_of_ble_eq_true rfl) d_A_init_28 (fun H locs hP hD hS => ?_)
  have hP : va_P D vwCl ([(o, .inr (0, [.ref q_1, .ref q_2, .int 0, .ref q_3, .int 0, .int 0, .int 0, .int 0, .int 0, .null, .int 0, .long 0])), (q_1, .inl (cA 0, 12, .inl (fun _ => 0))), (q_2, .inl (cA 1, 12, .inl (fun _ => 0))), (q_3, .inr (2, [.ref u_4, .long 0, .long 0])), (u_4, .inl (cA 0, 60, .inl (fun _ => 0)))]) H := hP
  have hD : va_D A ([(o, .inr (0, [.ref q_1, .ref q_2, .int 0, .ref q_3, .int 0, .int 0, .int 0, .int 0, .int 0, .null, .int 0, .long 0])), (q_1, .inl (cA 0, 12, .inl (fun _ => 0))), (q_2, .inl (cA 1, 12, .inl (fun _ => 0))), (q_3, .inr (2, [.ref u_4, .long 0, .long 0])), (u_4, .inl (cA 0, 60, .inl (fun _ => 0)))]) := hD
  refine lv_aload_n hx hb d_A_init_31 rfl (lv_at hl 0 rfl) ?_
  refine lv_bipush (v := nI 60) hx hb d_A_init_32 (by decide +kernel) ?_
  refine va_newa (atype := .int) (ty := .int) (a0 := (60, .inl (fun _ => 0))) (N' := 60) hx hb (hts (.arrayClass .int) wd_48) rfl hK.1 hP hD hS hA (fun _ => rfl) (by decide +kernel) (by decide +kernel) (by decide +kernel) (Nat.le_of_ble_eq_true rfl) (Nat.le_of_ble_eq_true rfl) d_A_init_34 (fun q_6 cB H hKB hP hD hS => ?_)
  obtain rfl := sx_nA0 hK hKB
  have hP : va_P D vwCl ([(o, .inr (0, [.ref q_1, .ref q_2, .int 0, .ref q_3, .int 0, .int 0, .int 0, .int 0, .int 0, .null, .int 0, .long 0])), (q_1, .inl (cA 0, 12, .inl (fun _ => 0))), (q_2, .inl (cA 1, 12, .inl (fun _ => 0))), (q_3, .inr (2, [.ref u_4, .long 0, .long 0])), (u_4, .inl (cA 0, 60, .inl (fun _ => 0))), (q_6, .inl (cA 0, 60, .inl (fun _ => 0)))]) H := hP
  have hD : va_D A ([(o, .inr (0, [.ref q_1, .ref q_2, .int 0, .ref q_3, .int 0, .int 0, .int 0, .int 0, .int 0, .null, .int 0, .long 0])), (q_1, .inl (cA 0, 12, .inl (fun _ => 0))), (q_2, .inl (cA 1, 12, .inl (fun _ => 0))), (q_3, .inr (2, [.ref u_4, .long 0, .long 0])), (u_4, .inl (cA 0, 60, .inl (fun _ => 0))), (q_6, .inl (cA 0, 60, .inl (fun _ => 0)))]) := hD
  refine W.widen (k := 5) (n := 147) (by decide) (by decide) ?_
  refine va_putF (D := D) (ci := 0) (v := .ref q_6) (ty := .array .int) (C := R_A) (T := T_A) (N := 12) hx hb hts iw_A t_A o_A n_A hown hK.1 hP hD hS 0 rfl rfl 9 (by decide) (hts _ wd_177) (fun _ h9 => h9) rfl hin rfl (by decide +kernel) rfl rfl (Nat.le_of_ble_eq_true rfl) d_A_init_36 (fun H locs hP hD hS => ?_)
  have hP : va_P D vwCl ([(o, .inr (0, [.ref q_1, .ref q_2, .int 0, .ref q_3, .int 0, .int 0, .int 0, .int 0, .int 0, .ref q_6, .int 0, .long 0])), (q_1, .inl (cA 0, 12, .inl (fun _ => 0))), (q_2, .inl (cA 1, 12, .inl (fun _ => 0))), (q_3, .inr (2, [.ref u_4, .long 0, .long 0])), (u_4, .inl (cA 0, 60, .inl (fun _ => 0))), (q_6, .inl (cA 0, 60, .inl (fun _ => 0)))]) H := hP
  have hD : va_D A ([(o, .inr (0, [.ref q_1, .ref q_2, .int 0, .ref q_3, .int 0, .int 0, .int 0, .int 0, .int 0, .ref q_6, .int 0, .long 0])), (q_1, .inl (cA 0, 12, .inl (fun _ => 0))), (q_2, .inl (cA 1, 12, .inl (fun _ => 0))), (q_3, .inr (2, [.ref u_4, .long 0, .long 0])), (u_4, .inl (cA 0, 60, .inl (fun _ => 0))), (q_6, .inl (cA 0, 60, .inl (fun _ => 0)))]) := hD
  have hP9 : va_P D vwCl (wA cA o q_1 q_2 q_3 u_4 q_6 (fun _ => 0) (fun _ => 0) 0 0 0 0 0 0 (fun _ => 0) 0 0 (fun _ => 0) 0 0) H := hP
  have hD9 : va_D A (wA cA o q_1 q_2 q_3 u_4 q_6 (fun _ => 0) (fun _ => 0) 0 0 0 0 0 0 (fun _ => 0) 0 0 (fun _ => 0) 0 0) := hD
  exact W.vret hx hb hr (fun t ht hW => ⟨⟨(q_1, q_2, q_3, u_4, q_6), rfl, trivial, by rw [ht]; exact hP9, by rw [hAe]; exact hD9⟩, hS.F ht⟩) hS.2.2 d_A_init_39
