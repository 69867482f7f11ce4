set_option maxHeartbeats 4000000 in
set_option maxRecDepth 100000 in
theorem k_Pinit (l : Launch) (D : va_G) (cA : Nat → ClassId) (sz : Nat) (o : Nat) : Met l y_P_init w_P_init ({ frames := 1, cells := 4, slots := 240, locals := 20 }) (sx_Pw D cA [.ref o] ([(o, .inr (1, [.null, .null, .null, .null, .int 0]))]) sz) (va_Qv (fun (u : Nat × Nat × Nat × Nat) => True) (sx_Bw D ([(o, .inr (1, [.null, .null, .null, .null, .int 0]))]) sz (fun u => wP cA o u.1 u.2.1 u.2.2.1 u.2.2.2 (nI 1) (upd (fun _ => 0) 0 (-1)) (fun _ => 0) (vp_updL (fun _ => 0) 0 (sx_on 0)) (vp_updL (fun _ => 0) 0 (sx_on 0)))) (va_A ([(o, .inr (1, [.null, .null, .null, .null, .int 0]))]) sz)) 4 240 (va_A ([(o, .inr (1, [.null, .null, .null, .null, .int 0]))]) sz) := by
  refine Met.ofW (cc := b_P_init) (maxL := 1) (ret := none) (by decide) rfl ?_
  intro pG eG s m args below meth cG s₁ B hml hv
  obtain ⟨rfl, hsz, hP, hK, hD0⟩ := hv
  have hx := B.exec
  have hb := B.bytes
  have hr := B.returns
  have hts0 := atoms_spec (ws := w_P_init) B.pre
  have hts : ∀ w ∈ sx_gw, w.before _ s = true := fun w h => hts0 w (List.mem_cons_of_mem _ h)
  have hown : s.vm.findClass R_P = some m.cls := findClass_of_methodNamed B.named
  have hlocks := B.notSynchronized
  have hin : meth.name = "<init>" := (name_of_methodNamed B.named B.method).1
  subst hsz
  have hD := hD0.self (sz := s.heap.size)
  generalize hAe : va_A ([(o, .inr (1, [.null, .null, .null, .null, .int 0]))]) s.heap.size = A at hD ⊢
  have hA : ∀ q : Nat, s.heap.size ≤ q → A q := fun q h => by rw [← hAe]; exact Or.inr h
  have hS : va_S A s.heap s.heap [] := va_S.rf
  have hl := lv_entry ([.ref o]) (n := 1) (Nat.le_of_ble_eq_true rfl)
  rw [lg_entry_eq]
  generalize (lg_sl ([.ref o]) ++ List.replicate (1 - (lg_sl ([.ref o])).length) Slot.unset).toArray = ls at hl ⊢
  have hl : lv_has ls 1 [(0, .ref o)] := hl
  refine lv_aload_n hx hb d_P_init_0 rfl (lv_at hl 0 rfl) ?_
  refine W.objInit hx hb hown (hts _ wd_28) (hts _ wd_15) (hts _ wd_16) rfl (by rw [hml]; exact hl.1) rfl d_P_init_1 (Nat.le_of_ble_eq_true rfl) (Nat.le_of_ble_eq_true rfl) ?_
  refine W.eq (g2 := F0 m 4 ls []) rfl ?_
  refine lv_aload_n hx hb d_P_init_4 rfl (lv_at hl 0 rfl) ?_
  refine lv_bipush (v := nI 60) hx hb d_P_init_5 (by decide +kernel) ?_
  refine va_newa (atype := .int) (ty := .int) (a0 := (60, .inl (fun _ => 0))) (N' := 60) hx hb (hts (.arrayClass .int) wd_48) rfl hK.1 hP hD hS hA (fun _ => rfl) (by decide +kernel) (by decide +kernel) (by decide +kernel) (Nat.le_of_ble_eq_true rfl) (Nat.le_of_ble_eq_true rfl) d_P_init_7 (fun q_1 cB H hKB hP hD hS => ?_)
  obtain rfl := sx_nA0 hK hKB
  have hP : va_P D vwCl ([(o, .inr (1, [.null, .null, .null, .null, .int 0])), (q_1, .inl (cA 0, 60, .inl (fun _ => 0)))]) H := hP
  have hD : va_D A ([(o, .inr (1, [.null, .null, .null, .null, .int 0])), (q_1, .inl (cA 0, 60, .inl (fun _ => 0)))]) := hD
  refine W.widen (k := 1) (n := 60) (by decide) (by decide) ?_
  refine va_putF (D := D) (ci := 1) (v := .ref q_1) (ty := .array .int) (C := R_P) (T := T_P) (N := 5) hx hb hts iw_P t_P o_P n_P hown hK.1 hP hD hS 0 rfl rfl 0 (by decide) (hts _ wd_32) (fun _ h9 => h9) rfl hin rfl (by decide +kernel) rfl rfl (Nat.le_of_ble_eq_true rfl) d_P_init_9 (fun H locs hP hD hS => ?_)
  have hP : va_P D vwCl ([(o, .inr (1, [.ref q_1, .null, .null, .null, .int 0])), (q_1, .inl (cA 0, 60, .inl (fun _ => 0)))]) H := hP
  have hD : va_D A ([(o, .inr (1, [.ref q_1, .null, .null, .null, .int 0])), (q_1, .inl (cA 0, 60, .inl (fun _ => 0)))]) := hD
  refine lv_aload_n hx hb d_P_init_12 rfl (lv_at hl 0 rfl) ?_
  refine lv_bipush (v := nI 60) hx hb d_P_init_13 (by decide +kernel) ?_
  refine va_newa (atype := .char) (ty := .char) (a0 := (60, .inl (fun _ => 0))) (N' := 60) hx hb (hts (.arrayClass .char) wd_49) rfl hK.1 hP hD hS hA (fun _ => rfl) (by decide +kernel) (by decide +kernel) (by decide +kernel) (Nat.le_of_ble_eq_true rfl) (Nat.le_of_ble_eq_true rfl) d_P_init_15 (fun q_2 cB H hKB hP hD hS => ?_)
  obtain rfl := sx_nA2 hK hKB
  have hP : va_P D vwCl ([(o, .inr (1, [.ref q_1, .null, .null, .null, .int 0])), (q_1, .inl (cA 0, 60, .inl (fun _ => 0))), (q_2, .inl (cA 2, 60, .inl (fun _ => 0)))]) H := hP
  have hD : va_D A ([(o, .inr (1, [.ref q_1, .null, .null, .null, .int 0])), (q_1, .inl (cA 0, 60, .inl (fun _ => 0))), (q_2, .inl (cA 2, 60, .inl (fun _ => 0)))]) := hD
  refine W.widen (k := 2) (n := 120) (by decide) (by decide) ?_
  refine va_putF (D := D) (ci := 1) (v := .ref q_2) (ty := .array .char) (C := R_P) (T := T_P) (N := 5) hx hb hts iw_P t_P o_P n_P hown hK.1 hP hD hS 0 rfl rfl 1 (by decide) (hts _ wd_33) (fun _ h9 => h9) rfl hin rfl (by decide +kernel) rfl rfl (Nat.le_of_ble_eq_true rfl) d_P_init_17 (fun H locs hP hD hS => ?_)
  have hP : va_P D vwCl ([(o, .inr (1, [.ref q_1, .ref q_2, .null, .null, .int 0])), (q_1, .inl (cA 0, 60, .inl (fun _ => 0))), (q_2, .inl (cA 2, 60, .inl (fun _ => 0)))]) H := hP
  have hD : va_D A ([(o, .inr (1, [.ref q_1, .ref q_2, .null, .null, .int 0])), (q_1, .inl (cA 0, 60, .inl (fun _ => 0))), (q_2, .inl (cA 2, 60, .inl (fun _ => 0)))]) := hD
  refine lv_aload_n hx hb d_P_init_20 rfl (lv_at hl 0 rfl) ?_
  refine lv_bipush (v := nI 60) hx hb d_P_init_21 (by decide +kernel) ?_
  refine va_newa (atype := .long) (ty := .long) (a0 := (60, .inr (.inl (fun _ => 0)))) (N' := 60) hx hb (hts (.arrayClass .long) wd_50) rfl hK.1 hP hD hS hA (fun _ => rfl) (by decide +kernel) (by decide +kernel) (by decide +kernel) (Nat.le_of_ble_eq_true rfl) (Nat.le_of_ble_eq_true rfl) d_P_init_23 (fun q_3 cB H hKB hP hD hS => ?_)
  obtain rfl := sx_nA3 hK hKB
  have hP : va_P D vwCl ([(o, .inr (1, [.ref q_1, .ref q_2, .null, .null, .int 0])), (q_1, .inl (cA 0, 60, .inl (fun _ => 0))), (q_2, .inl (cA 2, 60, .inl (fun _ => 0))), (q_3, .inl (cA 3, 60, .inr (.inl (fun _ => 0))))]) H := hP
  have hD : va_D A ([(o, .inr (1, [.ref q_1, .ref q_2, .null, .null, .int 0])), (q_1, .inl (cA 0, 60, .inl (fun _ => 0))), (q_2, .inl (cA 2, 60, .inl (fun _ => 0))), (q_3, .inl (cA 3, 60, .inr (.inl (fun _ => 0))))]) := hD
  refine W.widen (k := 3) (n := 180) (by decide) (by decide) ?_
  refine va_putF (D := D) (ci := 1) (v := .ref q_3) (ty := .array .long) (C := R_P) (T := T_P) (N := 5) hx hb hts iw_P t_P o_P n_P hown hK.1 hP hD hS 0 rfl rfl 2 (by decide) (hts _ wd_34) (fun _ h9 => h9) rfl hin rfl (by decide +kernel) rfl rfl (Nat.le_of_ble_eq_true rfl) d_P_init_25 (fun H locs hP hD hS => ?_)
  have hP : va_P D vwCl ([(o, .inr (1, [.ref q_1, .ref q_2, .ref q_3, .null, .int 0])), (q_1, .inl (cA 0, 60, .inl (fun _ => 0))), (q_2, .inl (cA 2, 60, .inl (fun _ => 0))), (q_3, .inl (cA 3, 60, .inr (.inl (fun _ => 0))))]) H := hP
  have hD : va_D A ([(o, .inr (1, [.ref q_1, .ref q_2, .ref q_3, .null, .int 0])), (q_1, .inl (cA 0, 60, .inl (fun _ => 0))), (q_2, .inl (cA 2, 60, .inl (fun _ => 0))), (q_3, .inl (cA 3, 60, .inr (.inl (fun _ => 0))))]) := hD
  refine lv_aload_n hx hb d_P_init_28 rfl (lv_at hl 0 rfl) ?_
  refine lv_bipush (v := nI 60) hx hb d_P_init_29 (by decide +kernel) ?_
  refine va_newa (atype := .long) (ty := .long) (a0 := (60, .inr (.inl (fun _ => 0)))) (N' := 60) hx hb (hts (.arrayClass .long) wd_50) rfl hK.1 hP hD hS hA (fun _ => rfl) (by decide +kernel) (by decide +kernel) (by decide +kernel) (Nat.le_of_ble_eq_true rfl) (Nat.le_of_ble_eq_true rfl) d_P_init_31 (fun q_4 cB H hKB hP hD hS => ?_)
  obtain rfl := sx_nA3 hK hKB
  have hP : va_P D vwCl ([(o, .inr (1, [.ref q_1, .ref q_2, .ref q_3, .null, .int 0])), (q_1, .inl (cA 0, 60, .inl (fun _ => 0))), (q_2, .inl (cA 2, 60, .inl (fun _ => 0))), (q_3, .inl (cA 3, 60, .inr (.inl (fun _ => 0)))), (q_4, .inl (cA 3, 60, .inr (.inl (fun _ => 0))))]) H := hP
  have hD : va_D A ([(o, .inr (1, [.ref q_1, .ref q_2, .ref q_3, .null, .int 0])), (q_1, .inl (cA 0, 60, .inl (fun _ => 0))), (q_2, .inl (cA 2, 60, .inl (fun _ => 0))), (q_3, .inl (cA 3, 60, .inr (.inl (fun _ => 0)))), (q_4, .inl (cA 3, 60, .inr (.inl (fun _ => 0))))]) := hD
  refine W.widen (k := 4) (n := 240) (by decide) (by decide) ?_
  refine va_putF (D := D) (ci := 1) (v := .ref q_4) (ty := .array .long) (C := R_P) (T := T_P) (N := 5) hx hb hts iw_P t_P o_P n_P hown hK.1 hP hD hS 0 rfl rfl 3 (by decide) (hts _ wd_35) (fun _ h9 => h9) rfl hin rfl (by decide +kernel) rfl rfl (Nat.le_of_ble_eq_true rfl) d_P_init_33 (fun H locs hP hD hS => ?_)
  have hP : va_P D vwCl ([(o, .inr (1, [.ref q_1, .ref q_2, .ref q_3, .ref q_4, .int 0])), (q_1, .inl (cA 0, 60, .inl (fun _ => 0))), (q_2, .inl (cA 2, 60, .inl (fun _ => 0))), (q_3, .inl (cA 3, 60, .inr (.inl (fun _ => 0)))), (q_4, .inl (cA 3, 60, .inr (.inl (fun _ => 0))))]) H := hP
  have hD : va_D A ([(o, .inr (1, [.ref q_1, .ref q_2, .ref q_3, .ref q_4, .int 0])), (q_1, .inl (cA 0, 60, .inl (fun _ => 0))), (q_2, .inl (cA 2, 60, .inl (fun _ => 0))), (q_3, .inl (cA 3, 60, .inr (.inl (fun _ => 0)))), (q_4, .inl (cA 3, 60, .inr (.inl (fun _ => 0))))]) := hD
  refine lv_aload_n hx hb d_P_init_36 rfl (lv_at hl 0 rfl) ?_
  refine lv_iconst (v := nI 1) hx hb d_P_init_37 (by decide +kernel) ?_
  refine va_put (D := D) (ci := 1) (v := .int (nI 1)) (ty := .int) (C := R_P) (T := T_P) (N := 5) hx hb hts iw_P t_P o_P n_P hown hK.1 hP hD hS 0 rfl rfl 4 (by decide) (hts _ wd_36) (fun _ h9 => h9) rfl (by decide +kernel) rfl rfl (Nat.le_of_ble_eq_true rfl) d_P_init_38 (fun H locs hP hD hS => ?_)
  have hP : va_P D vwCl ([(o, .inr (1, [.ref q_1, .ref q_2, .ref q_3, .ref q_4, .int (nI 1)])), (q_1, .inl (cA 0, 60, .inl (fun _ => 0))), (q_2, .inl (cA 2, 60, .inl (fun _ => 0))), (q_3, .inl (cA 3, 60, .inr (.inl (fun _ => 0)))), (q_4, .inl (cA 3, 60, .inr (.inl (fun _ => 0))))]) H := hP
  have hD : va_D A ([(o, .inr (1, [.ref q_1, .ref q_2, .ref q_3, .ref q_4, .int (nI 1)])), (q_1, .inl (cA 0, 60, .inl (fun _ => 0))), (q_2, .inl (cA 2, 60, .inl (fun _ => 0))), (q_3, .inl (cA 3, 60, .inr (.inl (fun _ => 0)))), (q_4, .inl (cA 3, 60, .inr (.inl (fun _ => 0))))]) := hD
  refine lv_aload_n hx hb d_P_init_41 rfl (lv_at hl 0 rfl) ?_
  refine va_get (D := D) (ci := 1) (v := .ref q_1) (C := R_P) (T := T_P) (N := 5) hx hb hts iw_P hown hK.1 hP 0 rfl rfl 0 (by decide) (hts _ wd_32) (fun _ h9 => h9) rfl d_P_init_42 ?_
  refine lv_iconst (v := nI 0) hx hb d_P_init_45 (by decide +kernel) ?_
  refine lv_iconst (v := (-1)) hx hb d_P_init_46 (by decide +kernel) ?_
  refine va_iast hx hb hK.1 hP hD hS 1 0 rfl rfl (vp_in_nI (by decide) (by decide)) d_P_init_47 (fun H locs hP hD hS => ?_)
  rw [nI_clamp (by decide)] at hP hD
  have hP : va_P D vwCl ([(o, .inr (1, [.ref q_1, .ref q_2, .ref q_3, .ref q_4, .int (nI 1)])), (q_1, .inl (cA 0, 60, .inl (upd (fun _ => 0) 0 (-1)))), (q_2, .inl (cA 2, 60, .inl (fun _ => 0))), (q_3, .inl (cA 3, 60, .inr (.inl (fun _ => 0)))), (q_4, .inl (cA 3, 60, .inr (.inl (fun _ => 0))))]) H := hP
  have hD : va_D A ([(o, .inr (1, [.ref q_1, .ref q_2, .ref q_3, .ref q_4, .int (nI 1)])), (q_1, .inl (cA 0, 60, .inl (upd (fun _ => 0) 0 (-1)))), (q_2, .inl (cA 2, 60, .inl (fun _ => 0))), (q_3, .inl (cA 3, 60, .inr (.inl (fun _ => 0)))), (q_4, .inl (cA 3, 60, .inr (.inl (fun _ => 0))))]) := hD
  refine lv_aload_n hx hb d_P_init_48 rfl (lv_at hl 0 rfl) ?_
  refine va_get (D := D) (ci := 1) (v := .ref q_3) (C := R_P) (T := T_P) (N := 5) hx hb hts iw_P hown hK.1 hP 0 rfl rfl 2 (by decide) (hts _ wd_34) (fun _ h9 => h9) rfl d_P_init_49 ?_
  refine lv_iconst (v := nI 0) hx hb d_P_init_52 (by decide +kernel) ?_
  refine lv_iconst (v := nI 0) hx hb d_P_init_53 (by decide +kernel) ?_
  refine vp_callSl (va_runSN (As := [.int (nI 0)]) (rest := [.int (nI 0), .ref q_3]) ⟨hx, hb, hml, hown, hts⟩ (k_only l D cA 0) ⟨va_cnB 1 hts (sx_GI wd_31) rfl rfl rfl (hK.2.1 _ wd_29) (hts _ wd_1) (by decide +kernel) ⟨Nat.le_of_ble_eq_true rfl, Nat.le_of_ble_eq_true rfl⟩, hts _ wd_30, trivial⟩ (sx_preS hK (sx_P0 : va_P D vwCl [] H)) rfl rfl hl.1 rfl (lv_room (Nat.le_of_ble_eq_true rfl)) d_P_init_54 ⟨Nat.le_of_ble_eq_true rfl, Nat.le_of_ble_eq_true rfl⟩).run (fun r_6 hr_5 => ?_)
  subst hr_5
  refine va_last hx hb hK.1 hP hD hS 3 3 rfl rfl (vp_in_nI (by decide) (by decide)) d_P_init_57 (fun H locs hP hD hS => ?_)
  rw [nI_clamp (by decide)] at hP hD
  have hP : va_P D vwCl ([(o, .inr (1, [.ref q_1, .ref q_2, .ref q_3, .ref q_4, .int (nI 1)])), (q_1, .inl (cA 0, 60, .inl (upd (fun _ => 0) 0 (-1)))), (q_2, .inl (cA 2, 60, .inl (fun _ => 0))), (q_3, .inl (cA 3, 60, .inr (.inl (vp_updL (fun _ => 0) 0 (sx_on 0))))), (q_4, .inl (cA 3, 60, .inr (.inl (fun _ => 0))))]) H := hP
  have hD : va_D A ([(o, .inr (1, [.ref q_1, .ref q_2, .ref q_3, .ref q_4, .int (nI 1)])), (q_1, .inl (cA 0, 60, .inl (upd (fun _ => 0) 0 (-1)))), (q_2, .inl (cA 2, 60, .inl (fun _ => 0))), (q_3, .inl (cA 3, 60, .inr (.inl (vp_updL (fun _ => 0) 0 (sx_on 0))))), (q_4, .inl (cA 3, 60, .inr (.inl (fun _ => 0))))]) := hD
  refine lv_aload_n hx hb d_P_init_58 rfl (lv_at hl 0 rfl) ?_
  refine va_get (D := D) (ci := 1) (v := .ref q_4) (C := R_P) (T := T_P) (N := 5) hx hb hts iw_P hown hK.1 hP 0 rfl rfl 3 (by decide) (hts _ wd_35) (fun _ h9 => h9) rfl d_P_init_59 ?_
  refine lv_iconst (v := nI 0) hx hb d_P_init_62 (by decide +kernel) ?_
  refine lv_iconst (v := nI 0) hx hb d_P_init_63 (by decide +kernel) ?_
  refine vp_callSl (va_runSN (As := [.int (nI 0)]) (rest := [.int (nI 0), .ref q_4]) ⟨hx, hb, hml, hown, hts⟩ (k_only l D cA 0) ⟨va_cnB 1 hts (sx_GI wd_31) rfl rfl rfl (hK.2.1 _ wd_29) (hts _ wd_1) (by decide +kernel) ⟨Nat.le_of_ble_eq_true rfl, Nat.le_of_ble_eq_true rfl⟩, hts _ wd_30, trivial⟩ (sx_preS hK (sx_P0 : va_P D vwCl [] H)) rfl rfl hl.1 rfl (lv_room (Nat.le_of_ble_eq_true rfl)) d_P_init_64 ⟨Nat.le_of_ble_eq_true rfl, Nat.le_of_ble_eq_true rfl⟩).run (fun r_8 hr_7 => ?_)
  subst hr_7
  refine va_last hx hb hK.1 hP hD hS 4 3 rfl rfl (vp_in_nI (by decide) (by decide)) d_P_init_67 (fun H locs hP hD hS => ?_)
  rw [nI_clamp (by decide)] at hP hD
  have hP : va_P D vwCl ([(o, .inr (1, [.ref q_1, .ref q_2, .ref q_3, .ref q_4, .int (nI 1)])), (q_1, .inl (cA 0, 60, .inl (upd (fun _ => 0) 0 (-1)))), (q_2, .inl (cA 2, 60, .inl (fun _ => 0))), (q_3, .inl (cA 3, 60, .inr (.inl (vp_updL (fun _ => 0) 0 (sx_on 0))))), (q_4, .inl (cA 3, 60, .inr (.inl (vp_updL (fun _ => 0) 0 (sx_on 0)))))]) H := hP
  have hD : va_D A ([(o, .inr (1, [.ref q_1, .ref q_2, .ref q_3, .ref q_4, .int (nI 1)])), (q_1, .inl (cA 0, 60, .inl (upd (fun _ => 0) 0 (-1)))), (q_2, .inl (cA 2, 60, .inl (fun _ => 0))), (q_3, .inl (cA 3, 60, .inr (.inl (vp_updL (fun _ => 0) 0 (sx_on 0))))), (q_4, .inl (cA 3, 60, .inr (.inl (vp_updL (fun _ => 0) 0 (sx_on 0)))))]) := hD
  have hP9 : va_P D vwCl (wP cA o q_1 q_2 q_3 q_4 (nI 1) (upd (fun _ => 0) 0 (-1)) (fun _ => 0) (vp_updL (fun _ => 0) 0 (sx_on 0)) (vp_updL (fun _ => 0) 0 (sx_on 0))) H := hP
  have hD9 : va_D A (wP cA o q_1 q_2 q_3 q_4 (nI 1) (upd (fun _ => 0) 0 (-1)) (fun _ => 0) (vp_updL (fun _ => 0) 0 (sx_on 0)) (vp_updL (fun _ => 0) 0 (sx_on 0))) := hD
  exact W.vret hx hb hr (fun t ht hW => ⟨⟨(q_1, q_2, q_3, q_4), rfl, trivial, by rw [ht]; exact hP9, by rw [hAe]; exact hD9⟩, hS.F ht⟩) hS.2.2 d_P_init_68
