set_option maxHeartbeats 4000000 in
set_option maxRecDepth 100000 in
theorem k_actionF (l : Launch) (D : va_G) (cA : Nat → ClassId) (h : Nat → Nat) (lim : Int32) (na : Nat) (sn cnt : Int32) (par ltr : Nat → Int32) (ab un : Nat → Int64) (sv : Nat → Int32) (sf sl : Int64) (acts : Nat → Option Nat) (hna : na = 10) : Met l y_X_action w_X_action ({ frames := 0, cells := 0, slots := 0, locals := 0 }) (sx_Pr D cA [.ref (h 0)] (wX cA h lim (nI na) sn cnt par ltr ab un sv sf sl acts)) (vp_Si (fun r => r = -1)) 0 0 (fun _ => False) := by
  refine Met.ofW (cc := b_X_action) (maxL := 2) (ret := (some .int)) (by decide) rfl ?_
  intro pG eG s m args below meth cG s₁ B hml hv
  obtain ⟨rfl, hP, hK⟩ := hv
  have hx := B.exec
  have hb := B.bytes
  have hr := B.returns
  have hts0 := atoms_spec (ws := w_X_action) B.pre
  have hts : ∀ w ∈ sx_gw, w.before _ s = true := fun w h => hts0 w (List.mem_cons_of_mem _ h)
  have hown : s.vm.findClass R_X = some m.cls := findClass_of_methodNamed B.named
  have hlocks := B.notSynchronized
  have hl := lv_entry ([.ref (h 0)]) (n := 2) (Nat.le_of_ble_eq_true rfl)
  rw [lg_entry_eq]
  generalize (lg_sl ([.ref (h 0)]) ++ List.replicate (2 - (lg_sl ([.ref (h 0)])).length) Slot.unset).toArray = ls at hl ⊢
  have hl : lv_has ls 2 [(0, .ref (h 0))] := hl
  refine lv_aload_n hx hb d_X_action_0 rfl (lv_at hl 0 rfl) ?_
  refine va_get (D := D) (ci := 3) (v := .int (nI na)) (C := R_X) (T := T_X) (N := 6) hx hb hts iw_X hown hK.1 hP 0 rfl rfl 4 (by decide) (hts _ wd_73) (fun _ h9 => h9) rfl d_X_action_1 ?_
  refine lv_bipush (v := nI 10) hx hb d_X_action_4 (by decide +kernel) ?_
  refine lv_icmp_lt (tgt := 11) hx hb d_X_action_6 (by decide) (fun c_1 => ?_) (fun c_1 => ?_)
  · have c_1 : na < 10 := (nI_ltI (by omega) (by decide)).mp c_1
    omega
  · have c_1 : 10 ≤ na := Nat.not_lt.mp (fun z => c_1 ((nI_ltI (by omega) (by decide)).mpr z))
    refine lv_iconst (v := (-1)) hx hb d_X_action_9 (by decide +kernel) ?_
    exact W.iret (v := (-1)) hx hb hr (fun t ht hW => ⟨(-1), rfl, rfl, ht⟩) (fun _ h => by cases h) d_X_action_10

set_option maxHeartbeats 4000000 in
set_option maxRecDepth 100000 in
theorem k_action (l : Launch) (D : va_G) (cA : Nat → ClassId) (sz : Nat) (h : Nat → Nat) (lim : Int32) (na : Nat) (sn cnt : Int32) (par ltr : Nat → Int32) (ab un : Nat → Int64) (sv : Nat → Int32) (sf sl : Int64) (acts : Nat → Option Nat) (hna : na < 10) : Met l y_X_action w_X_action ({ frames := 3, cells := 6, slots := 159, locals := 52 }) (sx_Pw D cA [.ref (h 0)] (wX cA h lim (nI na) sn cnt par ltr ab un sv sf sl acts) sz) (va_Qi (fun r (_ : Nat → Nat) => r = nI na) (sx_Bw D (wX cA h lim (nI na) sn cnt par ltr ab un sv sf sl acts) sz (fun u => wXA cA h u lim (nI (na + 1)) sn cnt par ltr ab un sv sf sl (va_up acts na (some (u 0))) (fun _ => 0) (fun _ => 0) 0 0 0 0 0 0 (fun _ => 0) 0 0 (fun _ => 0) 0 0)) (va_A (wX cA h lim (nI na) sn cnt par ltr ab un sv sf sl acts) sz)) 6 159 (va_A (wX cA h lim (nI na) sn cnt par ltr ab un sv sf sl acts) sz) := by
  refine Met.ofW (cc := b_X_action) (maxL := 2) (ret := (some .int)) (by decide) rfl ?_
  intro pG eG s m args below meth cG s₁ B hml hv
  obtain ⟨rfl, hsz, hP, hK, hD0⟩ := hv
  have hx := B.exec
  have hb := B.bytes
  have hr := B.returns
  have hts0 := atoms_spec (ws := w_X_action) B.pre
  have hts : ∀ w ∈ sx_gw, w.before _ s = true := fun w h => hts0 w (List.mem_cons_of_mem _ h)
  have hown : s.vm.findClass R_X = some m.cls := findClass_of_methodNamed B.named
  have hlocks := B.notSynchronized
  subst hsz
  have hD := hD0.self (sz := s.heap.size)
  generalize hAe : va_A (wX cA h lim (nI na) sn cnt par ltr ab un sv sf sl acts) s.heap.size = A at hD ⊢
  have hA : ∀ q : Nat, s.heap.size ≤ q → A q := fun q h => by rw [← hAe]; exact Or.inr h
  have hS : va_S A s.heap s.heap [] := va_S.rf
  have hl := lv_entry ([.ref (h 0)]) (n := 2) (Nat.le_of_ble_eq_true rfl)
  rw [lg_entry_eq]
  generalize (lg_sl ([.ref (h 0)]) ++ List.replicate (2 - (lg_sl ([.ref (h 0)])).length) Slot.unset).toArray = ls at hl ⊢
  have hl : lv_has ls 2 [(0, .ref (h 0))] := hl
  have hP : va_P D vwCl [(h 0, .inr (3, [.int lim, .ref (h 1), .ref (h 6), .ref (h 8), .int (nI na), .int sn])), (h 1, .inr (1, [.ref (h 2), .ref (h 3), .ref (h 4), .ref (h 5), .int cnt])), (h 2, .inl (cA 0, 60, .inl par)), (h 3, .inl (cA 2, 60, .inl ltr)), (h 4, .inl (cA 3, 60, .inr (.inl ab))), (h 5, .inl (cA 3, 60, .inr (.inl un))), (h 6, .inr (2, [.ref (h 7), .long sf, .long sl])), (h 7, .inl (cA 0, 60, .inl sv)), (h 8, .inl (cA 4, 10, .inr (.inr (.inr (.inr acts)))))] s.heap := hP
  have hD : va_D A [(h 0, .inr (3, [.int lim, .ref (h 1), .ref (h 6), .ref (h 8), .int (nI na), .int sn])), (h 1, .inr (1, [.ref (h 2), .ref (h 3), .ref (h 4), .ref (h 5), .int cnt])), (h 2, .inl (cA 0, 60, .inl par)), (h 3, .inl (cA 2, 60, .inl ltr)), (h 4, .inl (cA 3, 60, .inr (.inl ab))), (h 5, .inl (cA 3, 60, .inr (.inl un))), (h 6, .inr (2, [.ref (h 7), .long sf, .long sl])), (h 7, .inl (cA 0, 60, .inl sv)), (h 8, .inl (cA 4, 10, .inr (.inr (.inr (.inr acts)))))] := hD
  refine lv_aload_n hx hb d_X_action_0 rfl (lv_at hl 0 rfl) ?_
  refine va_get (D := D) (ci := 3) (v := .int (nI na)) (C := R_X) (T := T_X) (N := 6) hx hb hts iw_X hown hK.1 hP 0 rfl rfl 4 (by decide) (hts _ wd_73) (fun _ h9 => h9) rfl d_X_action_1 ?_
  refine lv_bipush (v := nI 10) hx hb d_X_action_4 (by decide +kernel) ?_
  refine lv_icmp_lt (tgt := 11) hx hb d_X_action_6 (by decide) (fun c_1 => ?_) (fun c_1 => ?_)
  · have c_1 : na < 10 := (nI_ltI (by omega) (by decide)).mp c_1
    refine lv_aload_n hx hb d_X_action_11 rfl (lv_at hl 0 rfl) ?_
    refine va_get (D := D) (ci := 3) (v := .int (nI na)) (C := R_X) (T := T_X) (N := 6) hx hb hts iw_X hown hK.1 hP 0 rfl rfl 4 (by decide) (hts _ wd_73) (fun _ h9 => h9) rfl d_X_action_12 ?_
    refine lv_istore_n (lv' := [(1, .int (nI na)), (0, .ref (h 0))]) hx hb d_X_action_15 rfl hl (by decide) rfl (fun ls hl => ?_)
    refine lv_aload_n hx hb d_X_action_16 rfl (lv_at hl 1 rfl) ?_
    refine va_get (D := D) (ci := 3) (v := .ref (h 8)) (C := R_X) (T := T_X) (N := 6) hx hb hts iw_X hown hK.1 hP 0 rfl rfl 3 (by decide) (hts _ wd_72) (fun _ h9 => h9) rfl d_X_action_17 ?_
    refine lv_iload_n hx hb d_X_action_20 rfl (lv_at hl 0 rfl) ?_
    refine va_new (ci := 0) (fs := [.null, .null, .int 0, .null, .int 0, .int 0, .int 0, .int 0, .int 0, .null, .int 0, .long 0]) (C := R_A) (T := T_A) (N := 12) hx hb hts iw_A t_A o_A hown (hts _ wd_67) (hts _ wd_152) (hts _ wd_6) hK.1 hP hD hS hA rfl sx_df_A (Nat.le_of_ble_eq_true rfl) (Nat.le_of_ble_eq_true rfl) d_X_action_21 (fun q_2 H hP hD hS => ?_)
    have hP : va_P D vwCl ([(h 0, .inr (3, [.int lim, .ref (h 1), .ref (h 6), .ref (h 8), .int (nI na), .int sn])), (h 1, .inr (1, [.ref (h 2), .ref (h 3), .ref (h 4), .ref (h 5), .int cnt])), (h 2, .inl (cA 0, 60, .inl par)), (h 3, .inl (cA 2, 60, .inl ltr)), (h 4, .inl (cA 3, 60, .inr (.inl ab))), (h 5, .inl (cA 3, 60, .inr (.inl un))), (h 6, .inr (2, [.ref (h 7), .long sf, .long sl])), (h 7, .inl (cA 0, 60, .inl sv)), (h 8, .inl (cA 4, 10, .inr (.inr (.inr (.inr acts))))), (q_2, .inr (0, [.null, .null, .int 0, .null, .int 0, .int 0, .int 0, .int 0, .int 0, .null, .int 0, .long 0]))]) H := hP
    have hD : va_D A ([(h 0, .inr (3, [.int lim, .ref (h 1), .ref (h 6), .ref (h 8), .int (nI na), .int sn])), (h 1, .inr (1, [.ref (h 2), .ref (h 3), .ref (h 4), .ref (h 5), .int cnt])), (h 2, .inl (cA 0, 60, .inl par)), (h 3, .inl (cA 2, 60, .inl ltr)), (h 4, .inl (cA 3, 60, .inr (.inl ab))), (h 5, .inl (cA 3, 60, .inr (.inl un))), (h 6, .inr (2, [.ref (h 7), .long sf, .long sl])), (h 7, .inl (cA 0, 60, .inl sv)), (h 8, .inl (cA 4, 10, .inr (.inr (.inr (.inr acts))))), (q_2, .inr (0, [.null, .null, .int 0, .null, .int 0, .int 0, .int 0, .int 0, .int 0, .null, .int 0, .long 0]))]) := hD
    refine W.widen (k := 1) (n := 12) (by decide) (by decide) ?_
    refine lv_dup hx hb d_X_action_24 rfl ?_
    have hPc : va_P D vwCl [(q_2, .inr (0, [.null, .null, .int 0, .null, .int 0, .int 0, .int 0, .int 0, .int 0, .null, .int 0, .long 0]))] H := hP.sub [9] rfl
    have hDc := hD.sub (ws' := [(q_2, .inr (0, [.null, .null, .int 0, .null, .int 0, .int 0, .int 0, .int 0, .int 0, .null, .int 0, .long 0]))]) [9] (by decide) rfl
    refine sx_callv (wr := [(h 0, .inr (3, [.int lim, .ref (h 1), .ref (h 6), .ref (h 8), .int (nI na), .int sn])), (h 1, .inr (1, [.ref (h 2), .ref (h 3), .ref (h 4), .ref (h 5), .int cnt])), (h 2, .inl (cA 0, 60, .inl par)), (h 3, .inl (cA 2, 60, .inl ltr)), (h 4, .inl (cA 3, 60, .inr (.inl ab))), (h 5, .inl (cA 3, 60, .inr (.inl un))), (h 6, .inr (2, [.ref (h 7), .long sf, .long sl])), (h 7, .inl (cA 0, 60, .inl sv)), (h 8, .inl (cA 4, 10, .inr (.inr (.inr (.inr acts)))))]) (va_runIN (As := []) (rest := [.ref q_2, .int (nI na), .ref (h 8)]) ⟨hx, hb, hml, hown, hts⟩ (k_Ainit l D cA H.size q_2) ⟨va_cnB 0 hts (sx_GI wd_155) rfl rfl rfl (hK.2.1 _ wd_153) (hts _ wd_6) (by decide +kernel) ⟨Nat.le_of_ble_eq_true rfl, Nat.le_of_ble_eq_true rfl⟩, rfl, hts _ wd_154⟩ (sx_preSw hK hPc hDc) rfl rfl hl.1 rfl (lv_room (Nat.le_of_ble_eq_true rfl)) d_X_action_25 ⟨Nat.le_of_ble_eq_true rfl, Nat.le_of_ble_eq_true rfl⟩) hP hD hS hA [9] [0, 1, 2, 3, 4, 5, 6, 7, 8] rfl rfl (by decide) (by decide) (fun u_3 H locs hr_4 hP hD hS => ?_)
    have hP : va_P D vwCl ([(h 0, .inr (3, [.int lim, .ref (h 1), .ref (h 6), .ref (h 8), .int (nI na), .int sn])), (h 1, .inr (1, [.ref (h 2), .ref (h 3), .ref (h 4), .ref (h 5), .int cnt])), (h 2, .inl (cA 0, 60, .inl par)), (h 3, .inl (cA 2, 60, .inl ltr)), (h 4, .inl (cA 3, 60, .inr (.inl ab))), (h 5, .inl (cA 3, 60, .inr (.inl un))), (h 6, .inr (2, [.ref (h 7), .long sf, .long sl])), (h 7, .inl (cA 0, 60, .inl sv)), (h 8, .inl (cA 4, 10, .inr (.inr (.inr (.inr acts))))), (q_2, .inr (0, [.ref u_3.1, .ref u_3.2.1, .int 0, .ref u_3.2.2.1, .int 0, .int 0, .int 0, .int 0, .int 0, .ref u_3.2.2.2.2, .int 0, .long 0])), (u_3.1, .inl (cA 0, 12, .inl (fun _ => 0))), (u_3.2.1, .inl (cA 1, 12, .inl (fun _ => 0))), (u_3.2.2.1, .inr (2, [.ref u_3.2.2.2.1, .long 0, .long 0])), (u_3.2.2.2.1, .inl (cA 0, 60, .inl (fun _ => 0))), (u_3.2.2.2.2, .inl (cA 0, 60, .inl (fun _ => 0)))]) H := hP
    have hD : va_D A ([(h 0, .inr (3, [.int lim, .ref (h 1), .ref (h 6), .ref (h 8), .int (nI na), .int sn])), (h 1, .inr (1, [.ref (h 2), .ref (h 3), .ref (h 4), .ref (h 5), .int cnt])), (h 2, .inl (cA 0, 60, .inl par)), (h 3, .inl (cA 2, 60, .inl ltr)), (h 4, .inl (cA 3, 60, .inr (.inl ab))), (h 5, .inl (cA 3, 60, .inr (.inl un))), (h 6, .inr (2, [.ref (h 7), .long sf, .long sl])), (h 7, .inl (cA 0, 60, .inl sv)), (h 8, .inl (cA 4, 10, .inr (.inr (.inr (.inr acts))))), (q_2, .inr (0, [.ref u_3.1, .ref u_3.2.1, .int 0, .ref u_3.2.2.1, .int 0, .int 0, .int 0, .int 0, .int 0, .ref u_3.2.2.2.2, .int 0, .long 0])), (u_3.1, .inl (cA 0, 12, .inl (fun _ => 0))), (u_3.2.1, .inl (cA 1, 12, .inl (fun _ => 0))), (u_3.2.2.1, .inr (2, [.ref u_3.2.2.2.1, .long 0, .long 0])), (u_3.2.2.2.1, .inl (cA 0, 60, .inl (fun _ => 0))), (u_3.2.2.2.2, .inl (cA 0, 60, .inl (fun _ => 0)))]) := hD
    refine W.widen (k := 6) (n := 159) (by decide) (by decide) ?_
    refine va_astq (r := (R_A, T_A, 12)) hx hb hK.1 hP hD hS 8 4 9 0 rfl rfl rfl rfl (vp_in_nI (by omega) (by decide)) d_X_action_28 (fun H locs hP hD hS => ?_)
    rw [nI_clamp (by omega)] at hP hD
    have hP : va_P D vwCl ([(h 0, .inr (3, [.int lim, .ref (h 1), .ref (h 6), .ref (h 8), .int (nI na), .int sn])), (h 1, .inr (1, [.ref (h 2), .ref (h 3), .ref (h 4), .ref (h 5), .int cnt])), (h 2, .inl (cA 0, 60, .inl par)), (h 3, .inl (cA 2, 60, .inl ltr)), (h 4, .inl (cA 3, 60, .inr (.inl ab))), (h 5, .inl (cA 3, 60, .inr (.inl un))), (h 6, .inr (2, [.ref (h 7), .long sf, .long sl])), (h 7, .inl (cA 0, 60, .inl sv)), (h 8, .inl (cA 4, 10, .inr (.inr (.inr (.inr (va_up acts na (some q_2))))))), (q_2, .inr (0, [.ref u_3.1, .ref u_3.2.1, .int 0, .ref u_3.2.2.1, .int 0, .int 0, .int 0, .int 0, .int 0, .ref u_3.2.2.2.2, .int 0, .long 0])), (u_3.1, .inl (cA 0, 12, .inl (fun _ => 0))), (u_3.2.1, .inl (cA 1, 12, .inl (fun _ => 0))), (u_3.2.2.1, .inr (2, [.ref u_3.2.2.2.1, .long 0, .long 0])), (u_3.2.2.2.1, .inl (cA 0, 60, .inl (fun _ => 0))), (u_3.2.2.2.2, .inl (cA 0, 60, .inl (fun _ => 0)))]) H := hP
    have hD : va_D A ([(h 0, .inr (3, [.int lim, .ref (h 1), .ref (h 6), .ref (h 8), .int (nI na), .int sn])), (h 1, .inr (1, [.ref (h 2), .ref (h 3), .ref (h 4), .ref (h 5), .int cnt])), (h 2, .inl (cA 0, 60, .inl par)), (h 3, .inl (cA 2, 60, .inl ltr)), (h 4, .inl (cA 3, 60, .inr (.inl ab))), (h 5, .inl (cA 3, 60, .inr (.inl un))), (h 6, .inr (2, [.ref (h 7), .long sf, .long sl])), (h 7, .inl (cA 0, 60, .inl sv)), (h 8, .inl (cA 4, 10, .inr (.inr (.inr (.inr (va_up acts na (some q_2))))))), (q_2, .inr (0, [.ref u_3.1, .ref u_3.2.1, .int 0, .ref u_3.2.2.1, .int 0, .int 0, .int 0, .int 0, .int 0, .ref u_3.2.2.2.2, .int 0, .long 0])), (u_3.1, .inl (cA 0, 12, .inl (fun _ => 0))), (u_3.2.1, .inl (cA 1, 12, .inl (fun _ => 0))), (u_3.2.2.1, .inr (2, [.ref u_3.2.2.2.1, .long 0, .long 0])), (u_3.2.2.2.1, .inl (cA 0, 60, .inl (fun _ => 0))), (u_3.2.2.2.2, .inl (cA 0, 60, .inl (fun _ => 0)))]) := hD
    refine lv_aload_n hx hb d_X_action_29 rfl (lv_at hl 1 rfl) ?_
    refine lv_dup hx hb d_X_action_30 rfl ?_
    refine va_get (D := D) (ci := 3) (v := .int (nI na)) (C := R_X) (T := T_X) (N := 6) hx hb hts iw_X hown hK.1 hP 0 rfl rfl 4 (by decide) (hts _ wd_73) (fun _ h9 => h9) rfl d_X_action_31 ?_
    refine lv_iconst (v := nI 1) hx hb d_X_action_34 (by decide +kernel) ?_
    refine lv_iadd hx hb d_X_action_35 ?_
    refine sx_asi (y := nI (na + 1)) (nI_add na 1) ?_
    refine va_put (D := D) (ci := 3) (v := .int (nI (na + 1))) (ty := .int) (C := R_X) (T := T_X) (N := 6) hx hb hts iw_X t_X o_X n_X hown hK.1 hP hD hS 0 rfl rfl 4 (by decide) (hts _ wd_73) (fun _ h9 => h9) rfl (by decide +kernel) rfl rfl (Nat.le_of_ble_eq_true rfl) d_X_action_36 (fun H locs hP hD hS => ?_)
    have hP : va_P D vwCl ([(h 0, .inr (3, [.int lim, .ref (h 1), .ref (h 6), .ref (h 8), .int (nI (na + 1)), .int sn])), (h 1, .inr (1, [.ref (h 2), .ref (h 3), .ref (h 4), .ref (h 5), .int cnt])), (h 2, .inl (cA 0, 60, .inl par)), (h 3, .inl (cA 2, 60, .inl ltr)), (h 4, .inl (cA 3, 60, .inr (.inl ab))), (h 5, .inl (cA 3, 60, .inr (.inl un))), (h 6, .inr (2, [.ref (h 7), .long sf, .long sl])), (h 7, .inl (cA 0, 60, .inl sv)), (h 8, .inl (cA 4, 10, .inr (.inr (.inr (.inr (va_up acts na (some q_2))))))), (q_2, .inr (0, [.ref u_3.1, .ref u_3.2.1, .int 0, .ref u_3.2.2.1, .int 0, .int 0, .int 0, .int 0, .int 0, .ref u_3.2.2.2.2, .int 0, .long 0])), (u_3.1, .inl (cA 0, 12, .inl (fun _ => 0))), (u_3.2.1, .inl (cA 1, 12, .inl (fun _ => 0))), (u_3.2.2.1, .inr (2, [.ref u_3.2.2.2.1, .long 0, .long 0])), (u_3.2.2.2.1, .inl (cA 0, 60, .inl (fun _ => 0))), (u_3.2.2.2.2, .inl (cA 0, 60, .inl (fun _ => 0)))]) H := hP
    have hD : va_D A ([(h 0, .inr (3, [.int lim, .ref (h 1), .ref (h 6), .ref (h 8), .int (nI (na + 1)), .int sn])), (h 1, .inr (1, [.ref (h 2), .ref (h 3), .ref (h 4), .ref (h 5), .int cnt])), (h 2, .inl (cA 0, 60, .inl par)), (h 3, .inl (cA 2, 60, .inl ltr)), (h 4, .inl (cA 3, 60, .inr (.inl ab))), (h 5, .inl (cA 3, 60, .inr (.inl un))), (h 6, .inr (2, [.ref (h 7), .long sf, .long sl])), (h 7, .inl (cA 0, 60, .inl sv)), (h 8, .inl (cA 4, 10, .inr (.inr (.inr (.inr (va_up acts na (some q_2))))))), (q_2, .inr (0, [.ref u_3.1, .ref u_3.2.1, .int 0, .ref u_3.2.2.1, .int 0, .int 0, .int 0, .int 0, .int 0, .ref u_3.2.2.2.2, .int 0, .long 0])), (u_3.1, .inl (cA 0, 12, .inl (fun _ => 0))), (u_3.2.1, .inl (cA 1, 12, .inl (fun _ => 0))), (u_3.2.2.1, .inr (2, [.ref u_3.2.2.2.1, .long 0, .long 0])), (u_3.2.2.2.1, .inl (cA 0, 60, .inl (fun _ => 0))), (u_3.2.2.2.2, .inl (cA 0, 60, .inl (fun _ => 0)))]) := hD
    refine lv_iload_n hx hb d_X_action_39 rfl (lv_at hl 0 rfl) ?_
    have hP9 : va_P D vwCl (wXA cA h (fun i => match i with | 0 => q_2 | 1 => u_3.1 | 2 => u_3.2.1 | 3 => u_3.2.2.1 | 4 => u_3.2.2.2.1 | _ => u_3.2.2.2.2) lim (nI (na + 1)) sn cnt par ltr ab un sv sf sl (va_up acts na (some ((fun i => match i with | 0 => q_2 | 1 => u_3.1 | 2 => u_3.2.1 | 3 => u_3.2.2.1 | 4 => u_3.2.2.2.1 | _ => u_3.2.2.2.2) 0))) (fun _ => 0) (fun _ => 0) 0 0 0 0 0 0 (fun _ => 0) 0 0 (fun _ => 0) 0 0) H := hP
    have hD9 : va_D A (wXA cA h (fun i => match i with | 0 => q_2 | 1 => u_3.1 | 2 => u_3.2.1 | 3 => u_3.2.2.1 | 4 => u_3.2.2.2.1 | _ => u_3.2.2.2.2) lim (nI (na + 1)) sn cnt par ltr ab un sv sf sl (va_up acts na (some ((fun i => match i with | 0 => q_2 | 1 => u_3.1 | 2 => u_3.2.1 | 3 => u_3.2.2.1 | 4 => u_3.2.2.2.1 | _ => u_3.2.2.2.2) 0))) (fun _ => 0) (fun _ => 0) 0 0 0 0 0 0 (fun _ => 0) 0 0 (fun _ => 0) 0 0) := hD
    exact W.iret (v := nI na) hx hb hr (fun t ht hW => ⟨⟨nI na, (fun i => match i with | 0 => q_2 | 1 => u_3.1 | 2 => u_3.2.1 | 3 => u_3.2.2.1 | 4 => u_3.2.2.2.1 | _ => u_3.2.2.2.2), rfl, rfl, by rw [ht]; exact hP9, by rw [hAe]; exact hD9⟩, hS.F ht⟩) hS.2.2 d_X_action_40
  · have c_1 : 10 ≤ na := Nat.not_lt.mp (fun z => c_1 ((nI_ltI (by omega) (by decide)).mpr z))
    omega
