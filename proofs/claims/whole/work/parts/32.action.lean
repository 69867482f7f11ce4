set_option maxHeartbeats 4000000 in
set_option maxRecDepth 100000 in
theorem k_addD (l : Launch) (D : va_G) (cA : Nat → ClassId) (sz : Nat) (g0 g1 g2 g3 g4 g5 : Nat) (dp out : Nat → Int32) (d : Nat) (th hw br ops rf : Int32) (tp : Nat → Int32) (tc : Int32) (ts : Int64) (wv : Nat → Int32) (wf wl : Int64) (hd : d < 12) (pa : Int32) (ob : Bool) : Met l y_A_addDeclared w_A_addDeclared ({ frames := 0, cells := 0, slots := 0, locals := 0 }) (sx_Pw D cA [.ref g0, .int pa, .int (sx_bI ob)] (wA cA g0 g1 g2 g3 g4 g5 dp out (nI d) th hw br ops rf tp tc ts wv wf wl) sz) (va_Qv (fun (_ : Unit) => True) (sx_Bw D (wA cA g0 g1 g2 g3 g4 g5 dp out (nI d) th hw br ops rf tp tc ts wv wf wl) sz (fun _ => wA cA g0 g1 g2 g3 g4 g5 (upd dp d pa) (upd out d (sx_bI ob)) (nI (d + 1)) th hw br ops rf tp tc ts wv wf wl)) (va_A (wA cA g0 g1 g2 g3 g4 g5 dp out (nI d) th hw br ops rf tp tc ts wv wf wl) sz)) 0 0 (va_A (wA cA g0 g1 g2 g3 g4 g5 dp out (nI d) th hw br ops rf tp tc ts wv wf wl) sz) := by
  refine Met.ofW (cc := b_A_addDeclared) (maxL := 3) (ret := none) (by decide) rfl ?_
  intro pG eG s m args below meth cG s₁ B hml hv
  obtain ⟨rfl, hsz, hP, hK, hD0⟩ := hv
  have hx := B.exec
  have hb := B.bytes
  have hr := B.returns
  have hts0 := atoms_spec (ws := w_A_addDeclared) B.pre
  have hts : ∀ w ∈ sx_gw, w.before _ s = true := fun w h => hts0 w (List.mem_cons_of_mem _ h)
  have hown : s.vm.findClass R_A = some m.cls := findClass_of_methodNamed B.named
  have hlocks := B.notSynchronized
  subst hsz
  have hD := hD0.self (sz := s.heap.size)
  generalize hAe : va_A (wA cA g0 g1 g2 g3 g4 g5 dp out (nI d) th hw br ops rf tp tc ts wv wf wl) s.heap.size = A at hD ⊢
  have hA : ∀ q : Nat, s.heap.size ≤ q → A q := fun q h => by rw [← hAe]; exact Or.inr h
  have hS : va_S A s.heap s.heap [] := va_S.rf
  have hl := lv_entry ([.ref g0, .int pa, .int (sx_bI ob)]) (n := 3) (Nat.le_of_ble_eq_true rfl)
  rw [lg_entry_eq]
  generalize (lg_sl ([.ref g0, .int pa, .int (sx_bI ob)]) ++ List.replicate (3 - (lg_sl ([.ref g0, .int pa, .int (sx_bI ob)])).length) Slot.unset).toArray = ls at hl ⊢
  have hl : lv_has ls 3 [(0, .ref g0), (1, .int pa), (2, .int (sx_bI ob))] := hl
  refine lv_aload_n hx hb d_A_addDeclared_0 rfl (lv_at hl 0 rfl) ?_
  refine va_get (D := D) (ci := 0) (v := .int (nI d)) (C := R_A) (T := T_A) (N := 12) hx hb hts iw_A hown hK.1 hP 0 rfl rfl 2 (by decide) (hts _ wd_163) (fun _ h9 => h9) rfl d_A_addDeclared_1 ?_
  refine lv_bipush (v := nI 12) hx hb d_A_addDeclared_4 (by decide +kernel) ?_
  refine lv_icmp_ge (tgt := 39) hx hb d_A_addDeclared_6 (by decide) (fun c_1 => ?_) (fun c_1 => ?_)
  · have c_1 : 12 ≤ d := (nI_leI (by decide) (by omega)).mp c_1
    omega
  · have c_1 : d < 12 := Nat.not_le.mp (fun z => c_1 ((nI_leI (by decide) (by omega)).mpr z))
    refine lv_aload_n hx hb d_A_addDeclared_9 rfl (lv_at hl 0 rfl) ?_
    refine va_get (D := D) (ci := 0) (v := .ref g1) (C := R_A) (T := T_A) (N := 12) hx hb hts iw_A hown hK.1 hP 0 rfl rfl 0 (by decide) (hts _ wd_159) (fun _ h9 => h9) rfl d_A_addDeclared_10 ?_
    refine lv_aload_n hx hb d_A_addDeclared_13 rfl (lv_at hl 0 rfl) ?_
    refine va_get (D := D) (ci := 0) (v := .int (nI d)) (C := R_A) (T := T_A) (N := 12) hx hb hts iw_A hown hK.1 hP 0 rfl rfl 2 (by decide) (hts _ wd_163) (fun _ h9 => h9) rfl d_A_addDeclared_14 ?_
    refine lv_iload_n hx hb d_A_addDeclared_17 rfl (lv_at hl 1 rfl) ?_
    refine va_iast hx hb hK.1 hP hD hS 1 0 rfl rfl (vp_in_nI (by omega) (by decide)) d_A_addDeclared_18 (fun H locs hP hD hS => ?_)
    rw [nI_clamp (by omega)] at hP hD
    have hP : va_P D vwCl (wA cA g0 g1 g2 g3 g4 g5 (upd dp d pa) out (nI d) th hw br ops rf tp tc ts wv wf wl) H := hP
    have hD : va_D A (wA cA g0 g1 g2 g3 g4 g5 (upd dp d pa) out (nI d) th hw br ops rf tp tc ts wv wf wl) := hD
    refine lv_aload_n hx hb d_A_addDeclared_19 rfl (lv_at hl 0 rfl) ?_
    refine va_get (D := D) (ci := 0) (v := .ref g2) (C := R_A) (T := T_A) (N := 12) hx hb hts iw_A hown hK.1 hP 0 rfl rfl 1 (by decide) (hts _ wd_161) (fun _ h9 => h9) rfl d_A_addDeclared_20 ?_
    refine lv_aload_n hx hb d_A_addDeclared_23 rfl (lv_at hl 0 rfl) ?_
    refine va_get (D := D) (ci := 0) (v := .int (nI d)) (C := R_A) (T := T_A) (N := 12) hx hb hts iw_A hown hK.1 hP 0 rfl rfl 2 (by decide) (hts _ wd_163) (fun _ h9 => h9) rfl d_A_addDeclared_24 ?_
    refine lv_iload_n hx hb d_A_addDeclared_27 rfl (lv_at hl 2 rfl) ?_
    refine va_zast hx hb hK.1 hP hD hS 2 1 rfl rfl (vp_in_nI (by omega) (by decide)) d_A_addDeclared_28 (fun H locs hP hD hS => ?_)
    rw [nI_clamp (by omega)] at hP hD
    rw [sx_bI_vnar] at hP hD
    have hP : va_P D vwCl (wA cA g0 g1 g2 g3 g4 g5 (upd dp d pa) (upd out d (sx_bI ob)) (nI d) th hw br ops rf tp tc ts wv wf wl) H := hP
    have hD : va_D A (wA cA g0 g1 g2 g3 g4 g5 (upd dp d pa) (upd out d (sx_bI ob)) (nI d) th hw br ops rf tp tc ts wv wf wl) := hD
    refine lv_aload_n hx hb d_A_addDeclared_29 rfl (lv_at hl 0 rfl) ?_
    refine lv_dup hx hb d_A_addDeclared_30 rfl ?_
    refine va_get (D := D) (ci := 0) (v := .int (nI d)) (C := R_A) (T := T_A) (N := 12) hx hb hts iw_A hown hK.1 hP 0 rfl rfl 2 (by decide) (hts _ wd_163) (fun _ h9 => h9) rfl d_A_addDeclared_31 ?_
    refine lv_iconst (v := nI 1) hx hb d_A_addDeclared_34 (by decide +kernel) ?_
    refine lv_iadd hx hb d_A_addDeclared_35 ?_
    refine sx_asi (y := nI (d + 1)) (nI_add d 1) ?_
    refine va_put (D := D) (ci := 0) (v := .int (nI (d + 1))) (ty := .int) (C := R_A) (T := T_A) (N := 12) hx hb hts iw_A t_A o_A n_A hown hK.1 hP hD hS 0 rfl rfl 2 (by decide) (hts _ wd_163) (fun _ h9 => h9) rfl (by decide +kernel) rfl rfl (Nat.le_of_ble_eq_true rfl) d_A_addDeclared_36 (fun H locs hP hD hS => ?_)
    have hP : va_P D vwCl (wA cA g0 g1 g2 g3 g4 g5 (upd dp d pa) (upd out d (sx_bI ob)) (nI (d + 1)) th hw br ops rf tp tc ts wv wf wl) H := hP
    have hD : va_D A (wA cA g0 g1 g2 g3 g4 g5 (upd dp d pa) (upd out d (sx_bI ob)) (nI (d + 1)) th hw br ops rf tp tc ts wv wf wl) := hD
    have hP9 : va_P D vwCl (wA cA g0 g1 g2 g3 g4 g5 (upd dp d pa) (upd out d (sx_bI ob)) (nI (d + 1)) th hw br ops rf tp tc ts wv wf wl) H := hP
    have hD9 : va_D A (wA cA g0 g1 g2 g3 g4 g5 (upd dp d pa) (upd out d (sx_bI ob)) (nI (d + 1)) th hw br ops rf tp tc ts wv wf wl) := hD
    exact W.vret hx hb hr (fun t ht hW => ⟨⟨(), rfl, trivial, by rw [ht]; exact hP9, by rw [hAe]; exact hD9⟩, hS.F ht⟩) hS.2.2 d_A_addDeclared_39

set_option maxHeartbeats 4000000 in
set_option maxRecDepth 100000 in
theorem k_startW (l : Launch) (D : va_G) (cA : Nat → ClassId) (sz : Nat) (g0 g1 g2 g3 g4 g5 : Nat) (dp out : Nat → Int32) (dc th hw br ops rf : Int32) (tp : Nat → Int32) (tc : Int32) (ts : Int64) (wv : Nat → Int32) (wf wl : Int64) : Met l y_A_startWorld w_A_startWorld ({ frames := 0, cells := 0, slots := 0, locals := 0 }) (sx_Pw D cA [.ref g0] (wA cA g0 g1 g2 g3 g4 g5 dp out dc th hw br ops rf tp tc ts wv wf wl) sz) (va_Qv (fun (_ : Unit) => True) (sx_Bw D (wA cA g0 g1 g2 g3 g4 g5 dp out dc th hw br ops rf tp tc ts wv wf wl) sz (fun _ => wA cA g0 g1 g2 g3 g4 g5 dp out dc (nI 1) (nI 1) (nI 0) (nI 0) (nI 0) tp (nI 0) 0 wv wf wl)) (va_A (wA cA g0 g1 g2 g3 g4 g5 dp out dc th hw br ops rf tp tc ts wv wf wl) sz)) 0 0 (va_A (wA cA g0 g1 g2 g3 g4 g5 dp out dc th hw br ops rf tp tc ts wv wf wl) sz) := by
  refine Met.ofW (cc := b_A_startWorld) (maxL := 1) (ret := none) (by decide) rfl ?_
  intro pG eG s m args below meth cG s₁ B hml hv
  obtain ⟨rfl, hsz, hP, hK, hD0⟩ := hv
  have hx := B.exec
  have hb := B.bytes
  have hr := B.returns
  have hts0 := atoms_spec (ws := w_A_startWorld) B.pre
  have hts : ∀ w ∈ sx_gw, w.before _ s = true := fun w h => hts0 w (List.mem_cons_of_mem _ h)
  have hown : s.vm.findClass R_A = some m.cls := findClass_of_methodNamed B.named
  have hlocks := B.notSynchronized
  subst hsz
  have hD := hD0.self (sz := s.heap.size)
  generalize hAe : va_A (wA cA g0 g1 g2 g3 g4 g5 dp out dc th hw br ops rf tp tc ts wv wf wl) s.heap.size = A at hD ⊢
  have hA : ∀ q : Nat, s.heap.size ≤ q → A q := fun q h => by rw [← hAe]; exact Or.inr h
  have hS : va_S A s.heap s.heap [] := va_S.rf
  have hl := lv_entry ([.ref g0]) (n := 1) (Nat.le_of_ble_eq_true rfl)
  rw [lg_entry_eq]
  generalize (lg_sl ([.ref g0]) ++ List.replicate (1 - (lg_sl ([.ref g0])).length) Slot.unset).toArray = ls at hl ⊢
  have hl : lv_has ls 1 [(0, .ref g0)] := hl
  refine lv_aload_n hx hb d_A_startWorld_0 rfl (lv_at hl 0 rfl) ?_
  refine lv_iconst (v := nI 1) hx hb d_A_startWorld_1 (by decide +kernel) ?_
  refine va_put (D := D) (ci := 0) (v := .int (nI 1)) (ty := .boolean) (C := R_A) (T := T_A) (N := 12) hx hb hts iw_A t_A o_A n_A hown hK.1 hP hD hS 0 rfl rfl 4 (by decide) (hts _ wd_167) (fun _ h9 => h9) rfl (by decide +kernel) (by decide +kernel) (by decide +kernel) (Nat.le_of_ble_eq_true rfl) d_A_startWorld_2 (fun H locs hP hD hS => ?_)
  have hP : va_P D vwCl (wA cA g0 g1 g2 g3 g4 g5 dp out dc (nI 1) hw br ops rf tp tc ts wv wf wl) H := hP
  have hD : va_D A (wA cA g0 g1 g2 g3 g4 g5 dp out dc (nI 1) hw br ops rf tp tc ts wv wf wl) := hD
  refine lv_aload_n hx hb d_A_startWorld_5 rfl (lv_at hl 0 rfl) ?_
  refine lv_iconst (v := nI 1) hx hb d_A_startWorld_6 (by decide +kernel) ?_
  refine va_put (D := D) (ci := 0) (v := .int (nI 1)) (ty := .boolean) (C := R_A) (T := T_A) (N := 12) hx hb hts iw_A t_A o_A n_A hown hK.1 hP hD hS 0 rfl rfl 5 (by decide) (hts _ wd_169) (fun _ h9 => h9) rfl (by decide +kernel) (by decide +kernel) (by decide +kernel) (Nat.le_of_ble_eq_true rfl) d_A_startWorld_7 (fun H locs hP hD hS => ?_)
  have hP : va_P D vwCl (wA cA g0 g1 g2 g3 g4 g5 dp out dc (nI 1) (nI 1) br ops rf tp tc ts wv wf wl) H := hP
  have hD : va_D A (wA cA g0 g1 g2 g3 g4 g5 dp out dc (nI 1) (nI 1) br ops rf tp tc ts wv wf wl) := hD
  refine lv_aload_n hx hb d_A_startWorld_10 rfl (lv_at hl 0 rfl) ?_
  refine lv_iconst (v := nI 0) hx hb d_A_startWorld_11 (by decide +kernel) ?_
  refine va_put (D := D) (ci := 0) (v := .int (nI 0)) (ty := .boolean) (C := R_A) (T := T_A) (N := 12) hx hb hts iw_A t_A o_A n_A hown hK.1 hP hD hS 0 rfl rfl 6 (by decide) (hts _ wd_171) (fun _ h9 => h9) rfl (by decide +kernel) (by decide +kernel) (by decide +kernel) (Nat.le_of_ble_eq_true rfl) d_A_startWorld_12 (fun H locs hP hD hS => ?_)
  have hP : va_P D vwCl (wA cA g0 g1 g2 g3 g4 g5 dp out dc (nI 1) (nI 1) (nI 0) ops rf tp tc ts wv wf wl) H := hP
  have hD : va_D A (wA cA g0 g1 g2 g3 g4 g5 dp out dc (nI 1) (nI 1) (nI 0) ops rf tp tc ts wv wf wl) := hD
  refine lv_aload_n hx hb d_A_startWorld_15 rfl (lv_at hl 0 rfl) ?_
  refine lv_iconst (v := nI 0) hx hb d_A_startWorld_16 (by decide +kernel) ?_
  refine va_put (D := D) (ci := 0) (v := .int (nI 0)) (ty := .int) (C := R_A) (T := T_A) (N := 12) hx hb hts iw_A t_A o_A n_A hown hK.1 hP hD hS 0 rfl rfl 7 (by decide) (hts _ wd_173) (fun _ h9 => h9) rfl (by decide +kernel) rfl rfl (Nat.le_of_ble_eq_true rfl) d_A_startWorld_17 (fun H locs hP hD hS => ?_)
  have hP : va_P D vwCl (wA cA g0 g1 g2 g3 g4 g5 dp out dc (nI 1) (nI 1) (nI 0) (nI 0) rf tp tc ts wv wf wl) H := hP
  have hD : va_D A (wA cA g0 g1 g2 g3 g4 g5 dp out dc (nI 1) (nI 1) (nI 0) (nI 0) rf tp tc ts wv wf wl) := hD
  refine lv_aload_n hx hb d_A_startWorld_20 rfl (lv_at hl 0 rfl) ?_
  refine lv_iconst (v := nI 0) hx hb d_A_startWorld_21 (by decide +kernel) ?_
  refine va_put (D := D) (ci := 0) (v := .int (nI 0)) (ty := .int) (C := R_A) (T := T_A) (N := 12) hx hb hts iw_A t_A o_A n_A hown hK.1 hP hD hS 0 rfl rfl 8 (by decide) (hts _ wd_175) (fun _ h9 => h9) rfl (by decide +kernel) rfl rfl (Nat.le_of_ble_eq_true rfl) d_A_startWorld_22 (fun H locs hP hD hS => ?_)
  have hP : va_P D vwCl (wA cA g0 g1 g2 g3 g4 g5 dp out dc (nI 1) (nI 1) (nI 0) (nI 0) (nI 0) tp tc ts wv wf wl) H := hP
  have hD : va_D A (wA cA g0 g1 g2 g3 g4 g5 dp out dc (nI 1) (nI 1) (nI 0) (nI 0) (nI 0) tp tc ts wv wf wl) := hD
  refine lv_aload_n hx hb d_A_startWorld_25 rfl (lv_at hl 0 rfl) ?_
  refine lv_iconst (v := nI 0) hx hb d_A_startWorld_26 (by decide +kernel) ?_
  refine va_put (D := D) (ci := 0) (v := .int (nI 0)) (ty := .int) (C := R_A) (T := T_A) (N := 12) hx hb hts iw_A t_A o_A n_A hown hK.1 hP hD hS 0 rfl rfl 10 (by decide) (hts _ wd_179) (fun _ h9 => h9) rfl (by decide +kernel) rfl rfl (Nat.le_of_ble_eq_true rfl) d_A_startWorld_27 (fun H locs hP hD hS => ?_)
  have hP : va_P D vwCl (wA cA g0 g1 g2 g3 g4 g5 dp out dc (nI 1) (nI 1) (nI 0) (nI 0) (nI 0) tp (nI 0) ts wv wf wl) H := hP
  have hD : va_D A (wA cA g0 g1 g2 g3 g4 g5 dp out dc (nI 1) (nI 1) (nI 0) (nI 0) (nI 0) tp (nI 0) ts wv wf wl) := hD
  refine lv_aload_n hx hb d_A_startWorld_30 rfl (lv_at hl 0 rfl) ?_
  refine lv_lconst (v := 0) hx hb d_A_startWorld_31 (by decide +kernel) ?_
  refine va_put (D := D) (ci := 0) (v := .long 0) (ty := .long) (C := R_A) (T := T_A) (N := 12) hx hb hts iw_A t_A o_A n_A hown hK.1 hP hD hS 0 rfl rfl 11 (by decide) (hts _ wd_181) (fun _ h9 => h9) rfl (by decide +kernel) rfl rfl (Nat.le_of_ble_eq_true rfl) d_A_startWorld_32 (fun H locs hP hD hS => ?_)
  have hP : va_P D vwCl (wA cA g0 g1 g2 g3 g4 g5 dp out dc (nI 1) (nI 1) (nI 0) (nI 0) (nI 0) tp (nI 0) 0 wv wf wl) H := hP
  have hD : va_D A (wA cA g0 g1 g2 g3 g4 g5 dp out dc (nI 1) (nI 1) (nI 0) (nI 0) (nI 0) tp (nI 0) 0 wv wf wl) := hD
  have hP9 : va_P D vwCl (wA cA g0 g1 g2 g3 g4 g5 dp out dc (nI 1) (nI 1) (nI 0) (nI 0) (nI 0) tp (nI 0) 0 wv wf wl) H := hP
  have hD9 : va_D A (wA cA g0 g1 g2 g3 g4 g5 dp out dc (nI 1) (nI 1) (nI 0) (nI 0) (nI 0) tp (nI 0) 0 wv wf wl) := hD
  exact W.vret hx hb hr (fun t ht hW => ⟨⟨(), rfl, trivial, by rw [ht]; exact hP9, by rw [hAe]; exact hD9⟩, hS.F ht⟩) hS.2.2 d_A_startWorld_35

set_option maxHeartbeats 4000000 in
set_option maxRecDepth 100000 in
theorem k_op (l : Launch) (D : va_G) (cA : Nat → ClassId) (sz : Nat) (g0 g1 g2 g3 g4 g5 : Nat) (dp out : Nat → Int32) (dc th hw br : Int32) (op : Nat) (rf : Int32) (tp : Nat → Int32) (tc : Int32) (ts : Int64) (wv : Nat → Int32) (wf wl : Int64) (L : Nat) (ho : op < L) (hL : L ≤ 500) : Met l y_A_startOperation w_A_startOperation ({ frames := 0, cells := 0, slots := 0, locals := 0 }) (sx_Pw D cA [.ref g0, .int (nI L)] (wA cA g0 g1 g2 g3 g4 g5 dp out dc th hw br (nI op) rf tp tc ts wv wf wl) sz) (va_Qi (fun r (_ : Unit) => r = sx_bI true) (sx_Bw D (wA cA g0 g1 g2 g3 g4 g5 dp out dc th hw br (nI op) rf tp tc ts wv wf wl) sz (fun _ => wA cA g0 g1 g2 g3 g4 g5 dp out dc th hw br (nI (op + 1)) rf tp tc ts wv wf wl)) (va_A (wA cA g0 g1 g2 g3 g4 g5 dp out dc th hw br (nI op) rf tp tc ts wv wf wl) sz)) 0 0 (va_A (wA cA g0 g1 g2 g3 g4 g5 dp out dc th hw br (nI op) rf tp tc ts wv wf wl) sz) := by
  refine Met.ofW (cc := b_A_startOperation) (maxL := 2) (ret := (some .boolean)) (by decide) rfl ?_
  intro pG eG s m args below meth cG s₁ B hml hv
  obtain ⟨rfl, hsz, hP, hK, hD0⟩ := hv
  have hx := B.exec
  have hb := B.bytes
  have hr := B.returns
  have hts0 := atoms_spec (ws := w_A_startOperation) B.pre
  have hts : ∀ w ∈ sx_gw, w.before _ s = true := fun w h => hts0 w (List.mem_cons_of_mem _ h)
  have hown : s.vm.findClass R_A = some m.cls := findClass_of_methodNamed B.named
  have hlocks := B.notSynchronized
  subst hsz
  have hD := hD0.self (sz := s.heap.size)
  generalize hAe : va_A (wA cA g0 g1 g2 g3 g4 g5 dp out dc th hw br (nI op) rf tp tc ts wv wf wl) s.heap.size = A at hD ⊢
  have hA : ∀ q : Nat, s.heap.size ≤ q → A q := fun q h => by rw [← hAe]; exact Or.inr h
  have hS : va_S A s.heap s.heap [] := va_S.rf
  have hl := lv_entry ([.ref g0, .int (nI L)]) (n := 2) (Nat.le_of_ble_eq_true rfl)
  rw [lg_entry_eq]
  generalize (lg_sl ([.ref g0, .int (nI L)]) ++ List.replicate (2 - (lg_sl ([.ref g0, .int (nI L)])).length) Slot.unset).toArray = ls at hl ⊢
  have hl : lv_has ls 2 [(0, .ref g0), (1, .int (nI L))] := hl
  refine lv_aload_n hx hb d_A_startOperation_0 rfl (lv_at hl 0 rfl) ?_
  refine va_get (D := D) (ci := 0) (v := .int (nI op)) (C := R_A) (T := T_A) (N := 12) hx hb hts iw_A hown hK.1 hP 0 rfl rfl 7 (by decide) (hts _ wd_173) (fun _ h9 => h9) rfl d_A_startOperation_1 ?_
  refine lv_iload_n hx hb d_A_startOperation_4 rfl (lv_at hl 1 rfl) ?_
  refine lv_icmp_lt (tgt := 15) hx hb d_A_startOperation_5 (by decide) (fun c_1 => ?_) (fun c_1 => ?_)
  · have c_1 : op < L := (nI_ltI (by omega) (by omega)).mp c_1
    refine lv_aload_n hx hb d_A_startOperation_15 rfl (lv_at hl 0 rfl) ?_
    refine lv_dup hx hb d_A_startOperation_16 rfl ?_
    refine va_get (D := D) (ci := 0) (v := .int (nI op)) (C := R_A) (T := T_A) (N := 12) hx hb hts iw_A hown hK.1 hP 0 rfl rfl 7 (by decide) (hts _ wd_173) (fun _ h9 => h9) rfl d_A_startOperation_17 ?_
    refine lv_iconst (v := nI 1) hx hb d_A_startOperation_20 (by decide +kernel) ?_
    refine lv_iadd hx hb d_A_startOperation_21 ?_
    refine sx_asi (y := nI (op + 1)) (nI_add op 1) ?_
    refine va_put (D := D) (ci := 0) (v := .int (nI (op + 1))) (ty := .int) (C := R_A) (T := T_A) (N := 12) hx hb hts iw_A t_A o_A n_A hown hK.1 hP hD hS 0 rfl rfl 7 (by decide) (hts _ wd_173) (fun _ h9 => h9) rfl (by decide +kernel) rfl rfl (Nat.le_of_ble_eq_true rfl) d_A_startOperation_22 (fun H locs hP hD hS => ?_)
    have hP : va_P D vwCl (wA cA g0 g1 g2 g3 g4 g5 dp out dc th hw br (nI (op + 1)) rf tp tc ts wv wf wl) H := hP
    have hD : va_D A (wA cA g0 g1 g2 g3 g4 g5 dp out dc th hw br (nI (op + 1)) rf tp tc ts wv wf wl) := hD
    refine lv_iconst (v := nI 1) hx hb d_A_startOperation_25 (by decide +kernel) ?_
    have hP9 : va_P D vwCl (wA cA g0 g1 g2 g3 g4 g5 dp out dc th hw br (nI (op + 1)) rf tp tc ts wv wf wl) H := hP
    have hD9 : va_D A (wA cA g0 g1 g2 g3 g4 g5 dp out dc th hw br (nI (op + 1)) rf tp tc ts wv wf wl) := hD
    exact W.zret (v := nI 1) (ty := .boolean) hx hb hr (by decide +kernel) (fun t ht hW => ⟨⟨nI 1, (), rfl, rfl, by rw [ht]; exact hP9, by rw [hAe]; exact hD9⟩, hS.F ht⟩) hS.2.2 d_A_startOperation_26
  · have c_1 : L ≤ op := Nat.not_lt.mp (fun z => c_1 ((nI_ltI (by omega) (by omega)).mpr z))
    omega

set_option maxHeartbeats 4000000 in
set_option maxRecDepth 100000 in
theorem k_opF (l : Launch) (D : va_G) (cA : Nat → ClassId) (sz : Nat) (g0 g1 g2 g3 g4 g5 : Nat) (dp out : Nat → Int32) (dc th hw br : Int32) (op : Nat) (rf : Int32) (tp : Nat → Int32) (tc : Int32) (ts : Int64) (wv : Nat → Int32) (wf wl : Int64) (L : Nat) (ho : op = L) (hL : L ≤ 500) : Met l y_A_startOperation w_A_startOperation ({ frames := 0, cells := 0, slots := 0, locals := 0 }) (sx_Pw D cA [.ref g0, .int (nI L)] (wA cA g0 g1 g2 g3 g4 g5 dp out dc th hw br (nI op) rf tp tc ts wv wf wl) sz) (va_Qi (fun r (_ : Unit) => r = sx_bI false) (sx_Bw D (wA cA g0 g1 g2 g3 g4 g5 dp out dc th hw br (nI op) rf tp tc ts wv wf wl) sz (fun _ => wA cA g0 g1 g2 g3 g4 g5 dp out dc th hw (nI 1) (nI op) rf tp tc ts wv wf wl)) (va_A (wA cA g0 g1 g2 g3 g4 g5 dp out dc th hw br (nI op) rf tp tc ts wv wf wl) sz)) 0 0 (va_A (wA cA g0 g1 g2 g3 g4 g5 dp out dc th hw br (nI op) rf tp tc ts wv wf wl) sz) := by
  refine Met.ofW (cc := b_A_startOperation) (maxL := 2) (ret := (some .boolean)) (by decide) rfl ?_
  intro pG eG s m args below meth cG s₁ B hml hv
  obtain ⟨rfl, hsz, hP, hK, hD0⟩ := hv
  have hx := B.exec
  have hb := B.bytes
  have hr := B.returns
  have hts0 := atoms_spec (ws := w_A_startOperation) B.pre
  have hts : ∀ w ∈ sx_gw, w.before _ s = true := fun w h => hts0 w (List.mem_cons_of_mem _ h)
  have hown : s.vm.findClass R_A = some m.cls := findClass_of_methodNamed B.named
  have hlocks := B.notSynchronized
  subst hsz
  have hD := hD0.self (sz := s.heap.size)
  generalize hAe : va_A (wA cA g0 g1 g2 g3 g4 g5 dp out dc th hw br (nI op) rf tp tc ts wv wf wl) s.heap.size = A at hD ⊢
  have hA : ∀ q : Nat, s.heap.size ≤ q → A q := fun q h => by rw [← hAe]; exact Or.inr h
  have hS : va_S A s.heap s.heap [] := va_S.rf
  have hl := lv_entry ([.ref g0, .int (nI L)]) (n := 2) (Nat.le_of_ble_eq_true rfl)
  rw [lg_entry_eq]
  generalize (lg_sl ([.ref g0, .int (nI L)]) ++ List.replicate (2 - (lg_sl ([.ref g0, .int (nI L)])).length) Slot.unset).toArray = ls at hl ⊢
  have hl : lv_has ls 2 [(0, .ref g0), (1, .int (nI L))] := hl
  refine lv_aload_n hx hb d_A_startOperation_0 rfl (lv_at hl 0 rfl) ?_
  refine va_get (D := D) (ci := 0) (v := .int (nI op)) (C := R_A) (T := T_A) (N := 12) hx hb hts iw_A hown hK.1 hP 0 rfl rfl 7 (by decide) (hts _ wd_173) (fun _ h9 => h9) rfl d_A_startOperation_1 ?_
  refine lv_iload_n hx hb d_A_startOperation_4 rfl (lv_at hl 1 rfl) ?_
  refine lv_icmp_lt (tgt := 15) hx hb d_A_startOperation_5 (by decide) (fun c_1 => ?_) (fun c_1 => ?_)
  · have c_1 : op < L := (nI_ltI (by omega) (by omega)).mp c_1
    omega
  · have c_1 : L ≤ op := Nat.not_lt.mp (fun z => c_1 ((nI_ltI (by omega) (by omega)).mpr z))
    refine lv_aload_n hx hb d_A_startOperation_8 rfl (lv_at hl 0 rfl) ?_
    refine lv_iconst (v := nI 1) hx hb d_A_startOperation_9 (by decide +kernel) ?_
    refine va_put (D := D) (ci := 0) (v := .int (nI 1)) (ty := .boolean) (C := R_A) (T := T_A) (N := 12) hx hb hts iw_A t_A o_A n_A hown hK.1 hP hD hS 0 rfl rfl 6 (by decide) (hts _ wd_171) (fun _ h9 => h9) rfl (by decide +kernel) (by decide +kernel) (by decide +kernel) (Nat.le_of_ble_eq_true rfl) d_A_startOperation_10 (fun H locs hP hD hS => ?_)
    have hP : va_P D vwCl (wA cA g0 g1 g2 g3 g4 g5 dp out dc th hw (nI 1) (nI op) rf tp tc ts wv wf wl) H := hP
    have hD : va_D A (wA cA g0 g1 g2 g3 g4 g5 dp out dc th hw (nI 1) (nI op) rf tp tc ts wv wf wl) := hD
    refine lv_iconst (v := nI 0) hx hb d_A_startOperation_13 (by decide +kernel) ?_
    have hP9 : va_P D vwCl (wA cA g0 g1 g2 g3 g4 g5 dp out dc th hw (nI 1) (nI op) rf tp tc ts wv wf wl) H := hP
    have hD9 : va_D A (wA cA g0 g1 g2 g3 g4 g5 dp out dc th hw (nI 1) (nI op) rf tp tc ts wv wf wl) := hD
    exact W.zret (v := nI 0) (ty := .boolean) hx hb hr (by decide +kernel) (fun t ht hW => ⟨⟨nI 0, (), rfl, rfl, by rw [ht]; exact hP9, by rw [hAe]; exact hD9⟩, hS.F ht⟩) hS.2.2 d_A_startOperation_14

set_option maxHeartbeats 4000000 in
set_option maxRecDepth 100000 in
theorem k_note (l : Launch) (D : va_G) (cA : Nat → ClassId) (sz : Nat) (g0 g1 g2 g3 g4 g5 : Nat) (dp out : Nat → Int32) (dc th hw br ops rf : Int32) (tp : Nat → Int32) (t : Nat) (ts : Int64) (wv : Nat → Int32) (wf wl : Int64) (ht60 : t < 60) (j : Nat) (hj : j < 64) (hb0 : sx_bt ts j = false) : Met l y_A_noteTried w_A_noteTried ({ frames := 2, cells := 0, slots := 0, locals := 42 }) (sx_Pw D cA [.ref g0, .int (nI j)] (wA cA g0 g1 g2 g3 g4 g5 dp out dc th hw br ops rf tp (nI t) ts wv wf wl) sz) (va_Qv (fun (_ : Unit) => True) (sx_Bw D (wA cA g0 g1 g2 g3 g4 g5 dp out dc th hw br ops rf tp (nI t) ts wv wf wl) sz (fun _ => wA cA g0 g1 g2 g3 g4 g5 dp out dc th hw br ops rf (upd tp t (nI j)) (nI (t + 1)) (ts ||| sx_on j) wv wf wl)) (va_A (wA cA g0 g1 g2 g3 g4 g5 dp out dc th hw br ops rf tp (nI t) ts wv wf wl) sz)) 0 0 (va_A (wA cA g0 g1 g2 g3 g4 g5 dp out dc th hw br ops rf tp (nI t) ts wv wf wl) sz) := by
  refine Met.ofW (cc := b_A_noteTried) (maxL := 2) (ret := none) (by decide) rfl ?_
  intro pG eG s m args below meth cG s₁ B hml hv
  obtain ⟨rfl, hsz, hP, hK, hD0⟩ := hv
  have hx := B.exec
  have hb := B.bytes
  have hr := B.returns
  have hts0 := atoms_spec (ws := w_A_noteTried) B.pre
  have hts : ∀ w ∈ sx_gw, w.before _ s = true := fun w h => hts0 w (List.mem_cons_of_mem _ h)
  have hown : s.vm.findClass R_A = some m.cls := findClass_of_methodNamed B.named
  have hlocks := B.notSynchronized
  subst hsz
  have hD := hD0.self (sz := s.heap.size)
  generalize hAe : va_A (wA cA g0 g1 g2 g3 g4 g5 dp out dc th hw br ops rf tp (nI t) ts wv wf wl) s.heap.size = A at hD ⊢
  have hA : ∀ q : Nat, s.heap.size ≤ q → A q := fun q h => by rw [← hAe]; exact Or.inr h
  have hS : va_S A s.heap s.heap [] := va_S.rf
  have hl := lv_entry ([.ref g0, .int (nI j)]) (n := 2) (Nat.le_of_ble_eq_true rfl)
  rw [lg_entry_eq]
  generalize (lg_sl ([.ref g0, .int (nI j)]) ++ List.replicate (2 - (lg_sl ([.ref g0, .int (nI j)])).length) Slot.unset).toArray = ls at hl ⊢
  have hl : lv_has ls 2 [(0, .ref g0), (1, .int (nI j))] := hl
  refine lv_aload_n hx hb d_A_noteTried_0 rfl (lv_at hl 0 rfl) ?_
  refine va_get (D := D) (ci := 0) (v := .int (nI t)) (C := R_A) (T := T_A) (N := 12) hx hb hts iw_A hown hK.1 hP 0 rfl rfl 10 (by decide) (hts _ wd_179) (fun _ h9 => h9) rfl d_A_noteTried_1 ?_
  refine lv_bipush (v := nI 60) hx hb d_A_noteTried_4 (by decide +kernel) ?_
  refine lv_icmp_ge (tgt := 53) hx hb d_A_noteTried_6 (by decide) (fun c_1 => ?_) (fun c_1 => ?_)
  · have c_1 : 60 ≤ t := (nI_leI (by decide) (by omega)).mp c_1
    omega
  · have c_1 : t < 60 := Nat.not_le.mp (fun z => c_1 ((nI_leI (by decide) (by omega)).mpr z))
    refine lv_aload_n hx hb d_A_noteTried_9 rfl (lv_at hl 0 rfl) ?_
    refine va_get (D := D) (ci := 0) (v := .long ts) (C := R_A) (T := T_A) (N := 12) hx hb hts iw_A hown hK.1 hP 0 rfl rfl 11 (by decide) (hts _ wd_181) (fun _ h9 => h9) rfl d_A_noteTried_10 ?_
    refine lv_iload_n hx hb d_A_noteTried_13 rfl (lv_at hl 1 rfl) ?_
    refine vp_callSi (va_runSN (As := [.long ts, .int (nI j)]) (rest := []) ⟨hx, hb, hml, hown, hts⟩ (k_holds l D cA ts j (by omega)) ⟨va_cnB 2 hts (sx_GI wd_110) rfl rfl rfl (hK.2.1 _ wd_278) (hts _ wd_1) (by decide +kernel) ⟨Nat.le_of_ble_eq_true rfl, Nat.le_of_ble_eq_true rfl⟩, hts _ wd_109, trivial⟩ (sx_preS hK (sx_P0 : va_P D vwCl [] s.heap)) rfl rfl hl.1 rfl (lv_room (Nat.le_of_ble_eq_true rfl)) d_A_noteTried_14 ⟨Nat.le_of_ble_eq_true rfl, Nat.le_of_ble_eq_true rfl⟩).run (fun r_3 hr_2 => ?_)
    subst hr_2
    refine lv_if_ne (tgt := 53) hx hb d_A_noteTried_17 (by decide) (fun c_4 => ?_) (fun c_4 => ?_)
    · exact absurd (sx_bIn c_4) (by rw [hb0]; decide)
    · have c_4 : (sx_bt ts j) = false := sx_bI0 c_4
      refine lv_aload_n hx hb d_A_noteTried_20 rfl (lv_at hl 0 rfl) ?_
      refine lv_dup hx hb d_A_noteTried_21 rfl ?_
      refine va_get (D := D) (ci := 0) (v := .long ts) (C := R_A) (T := T_A) (N := 12) hx hb hts iw_A hown hK.1 hP 0 rfl rfl 11 (by decide) (hts _ wd_181) (fun _ h9 => h9) rfl d_A_noteTried_22 ?_
      refine lv_iload_n hx hb d_A_noteTried_25 rfl (lv_at hl 1 rfl) ?_
      refine vp_callSl (va_runSN (As := [.int (nI j)]) (rest := [.long ts, .ref g0]) ⟨hx, hb, hml, hown, hts⟩ (k_only l D cA j) ⟨va_cnB 1 hts (sx_GI wd_31) rfl rfl rfl (hK.2.1 _ wd_279) (hts _ wd_1) (by decide +kernel) ⟨Nat.le_of_ble_eq_true rfl, Nat.le_of_ble_eq_true rfl⟩, hts _ wd_30, trivial⟩ (sx_preS hK (sx_P0 : va_P D vwCl [] s.heap)) rfl rfl hl.1 rfl (lv_room (Nat.le_of_ble_eq_true rfl)) d_A_noteTried_26 ⟨Nat.le_of_ble_eq_true rfl, Nat.le_of_ble_eq_true rfl⟩).run (fun r_6 hr_5 => ?_)
      subst hr_5
      refine lv_lor hx hb d_A_noteTried_29 ?_
      refine va_put (D := D) (ci := 0) (v := .long (ts ||| (sx_on j))) (ty := .long) (C := R_A) (T := T_A) (N := 12) hx hb hts iw_A t_A o_A n_A hown hK.1 hP hD hS 0 rfl rfl 11 (by decide) (hts _ wd_181) (fun _ h9 => h9) rfl (by decide +kernel) rfl rfl (Nat.le_of_ble_eq_true rfl) d_A_noteTried_30 (fun H locs hP hD hS => ?_)
      have hP : va_P D vwCl (wA cA g0 g1 g2 g3 g4 g5 dp out dc th hw br ops rf tp (nI t) (ts ||| (sx_on j)) wv wf wl) H := hP
      have hD : va_D A (wA cA g0 g1 g2 g3 g4 g5 dp out dc th hw br ops rf tp (nI t) (ts ||| (sx_on j)) wv wf wl) := hD
      refine lv_aload_n hx hb d_A_noteTried_33 rfl (lv_at hl 0 rfl) ?_
      refine va_get (D := D) (ci := 0) (v := .ref g5) (C := R_A) (T := T_A) (N := 12) hx hb hts iw_A hown hK.1 hP 0 rfl rfl 9 (by decide) (hts _ wd_177) (fun _ h9 => h9) rfl d_A_noteTried_34 ?_
      refine lv_aload_n hx hb d_A_noteTried_37 rfl (lv_at hl 0 rfl) ?_
      refine va_get (D := D) (ci := 0) (v := .int (nI t)) (C := R_A) (T := T_A) (N := 12) hx hb hts iw_A hown hK.1 hP 0 rfl rfl 10 (by decide) (hts _ wd_179) (fun _ h9 => h9) rfl d_A_noteTried_38 ?_
      refine lv_iload_n hx hb d_A_noteTried_41 rfl (lv_at hl 1 rfl) ?_
      refine va_iast hx hb hK.1 hP hD hS 5 0 rfl rfl (vp_in_nI (by omega) (by decide)) d_A_noteTried_42 (fun H locs hP hD hS => ?_)
      rw [nI_clamp (by omega)] at hP hD
      have hP : va_P D vwCl (wA cA g0 g1 g2 g3 g4 g5 dp out dc th hw br ops rf (upd tp t (nI j)) (nI t) (ts ||| (sx_on j)) wv wf wl) H := hP
      have hD : va_D A (wA cA g0 g1 g2 g3 g4 g5 dp out dc th hw br ops rf (upd tp t (nI j)) (nI t) (ts ||| (sx_on j)) wv wf wl) := hD
      refine lv_aload_n hx hb d_A_noteTried_43 rfl (lv_at hl 0 rfl) ?_
      refine lv_dup hx hb d_A_noteTried_44 rfl ?_
      refine va_get (D := D) (ci := 0) (v := .int (nI t)) (C := R_A) (T := T_A) (N := 12) hx hb hts iw_A hown hK.1 hP 0 rfl rfl 10 (by decide) (hts _ wd_179) (fun _ h9 => h9) rfl d_A_noteTried_45 ?_
      refine lv_iconst (v := nI 1) hx hb d_A_noteTried_48 (by decide +kernel) ?_
      refine lv_iadd hx hb d_A_noteTried_49 ?_
      refine sx_asi (y := nI (t + 1)) (nI_add t 1) ?_
      refine va_put (D := D) (ci := 0) (v := .int (nI (t + 1))) (ty := .int) (C := R_A) (T := T_A) (N := 12) hx hb hts iw_A t_A o_A n_A hown hK.1 hP hD hS 0 rfl rfl 10 (by decide) (hts _ wd_179) (fun _ h9 => h9) rfl (by decide +kernel) rfl rfl (Nat.le_of_ble_eq_true rfl) d_A_noteTried_50 (fun H locs hP hD hS => ?_)
      have hP : va_P D vwCl (wA cA g0 g1 g2 g3 g4 g5 dp out dc th hw br ops rf (upd tp t (nI j)) (nI (t + 1)) (ts ||| (sx_on j)) wv wf wl) H := hP
      have hD : va_D A (wA cA g0 g1 g2 g3 g4 g5 dp out dc th hw br ops rf (upd tp t (nI j)) (nI (t + 1)) (ts ||| (sx_on j)) wv wf wl) := hD
      have hP9 : va_P D vwCl (wA cA g0 g1 g2 g3 g4 g5 dp out dc th hw br ops rf (upd tp t (nI j)) (nI (t + 1)) (ts ||| sx_on j) wv wf wl) H := hP
      have hD9 : va_D A (wA cA g0 g1 g2 g3 g4 g5 dp out dc th hw br ops rf (upd tp t (nI j)) (nI (t + 1)) (ts ||| sx_on j) wv wf wl) := hD
      exact W.vret hx hb hr (fun t ht hW => ⟨⟨(), rfl, trivial, by rw [ht]; exact hP9, by rw [hAe]; exact hD9⟩, hS.F ht⟩) hS.2.2 d_A_noteTried_53

set_option maxHeartbeats 4000000 in
set_option maxRecDepth 100000 in
theorem k_noteN (l : Launch) (D : va_G) (cA : Nat → ClassId) (sz : Nat) (g0 g1 g2 g3 g4 g5 : Nat) (dp out : Nat → Int32) (dc th hw br ops rf : Int32) (tp : Nat → Int32) (t : Nat) (ts : Int64) (wv : Nat → Int32) (wf wl : Int64) (ht60 : t ≤ 60) (j : Nat) (hj : j < 64) (hb0 : sx_bt ts j = true) : Met l y_A_noteTried w_A_noteTried ({ frames := 2, cells := 0, slots := 0, locals := 42 }) (sx_Pw D cA [.ref g0, .int (nI j)] (wA cA g0 g1 g2 g3 g4 g5 dp out dc th hw br ops rf tp (nI t) ts wv wf wl) sz) (va_Qv (fun (_ : Unit) => True) (sx_Bw D (wA cA g0 g1 g2 g3 g4 g5 dp out dc th hw br ops rf tp (nI t) ts wv wf wl) sz (fun _ => wA cA g0 g1 g2 g3 g4 g5 dp out dc th hw br ops rf tp (nI t) ts wv wf wl)) (va_A (wA cA g0 g1 g2 g3 g4 g5 dp out dc th hw br ops rf tp (nI t) ts wv wf wl) sz)) 0 0 (va_A (wA cA g0 g1 g2 g3 g4 g5 dp out dc th hw br ops rf tp (nI t) ts wv wf wl) sz) := by
  refine Met.ofW (cc := b_A_noteTried) (maxL := 2) (ret := none) (by decide) rfl ?_
  intro pG eG s m args below meth cG s₁ B hml hv
  obtain ⟨rfl, hsz, hP, hK, hD0⟩ := hv
  have hx := B.exec
  have hb := B.bytes
  have hr := B.returns
  have hts0 := atoms_spec (ws := w_A_noteTried) B.pre
  have hts : ∀ w ∈ sx_gw, w.before _ s = true := fun w h => hts0 w (List.mem_cons_of_mem _ h)
  have hown : s.vm.findClass R_A = some m.cls := findClass_of_methodNamed B.named
  have hlocks := B.notSynchronized
  subst hsz
  have hD := hD0.self (sz := s.heap.size)
  generalize hAe : va_A (wA cA g0 g1 g2 g3 g4 g5 dp out dc th hw br ops rf tp (nI t) ts wv wf wl) s.heap.size = A at hD ⊢
  have hA : ∀ q : Nat, s.heap.size ≤ q → A q := fun q h => by rw [← hAe]; exact Or.inr h
  have hS : va_S A s.heap s.heap [] := va_S.rf
  have hl := lv_entry ([.ref g0, .int (nI j)]) (n := 2) (Nat.le_of_ble_eq_true rfl)
  rw [lg_entry_eq]
  generalize (lg_sl ([.ref g0, .int (nI j)]) ++ List.replicate (2 - (lg_sl ([.ref g0, .int (nI j)])).length) Slot.unset).toArray = ls at hl ⊢
  have hl : lv_has ls 2 [(0, .ref g0), (1, .int (nI j))] := hl
  refine lv_aload_n hx hb d_A_noteTried_0 rfl (lv_at hl 0 rfl) ?_
  refine va_get (D := D) (ci := 0) (v := .int (nI t)) (C := R_A) (T := T_A) (N := 12) hx hb hts iw_A hown hK.1 hP 0 rfl rfl 10 (by decide) (hts _ wd_179) (fun _ h9 => h9) rfl d_A_noteTried_1 ?_
  refine lv_bipush (v := nI 60) hx hb d_A_noteTried_4 (by decide +kernel) ?_
  refine lv_icmp_ge (tgt := 53) hx hb d_A_noteTried_6 (by decide) (fun c_1 => ?_) (fun c_1 => ?_)
  · have c_1 : 60 ≤ t := (nI_leI (by decide) (by omega)).mp c_1
    have hP9 : va_P D vwCl (wA cA g0 g1 g2 g3 g4 g5 dp out dc th hw br ops rf tp (nI t) ts wv wf wl) s.heap := hP
    have hD9 : va_D A (wA cA g0 g1 g2 g3 g4 g5 dp out dc th hw br ops rf tp (nI t) ts wv wf wl) := hD
    exact W.vret hx hb hr (fun t ht hW => ⟨⟨(), rfl, trivial, by rw [ht]; exact hP9, by rw [hAe]; exact hD9⟩, hS.F ht⟩) hS.2.2 d_A_noteTried_53
  · have c_1 : t < 60 := Nat.not_le.mp (fun z => c_1 ((nI_leI (by decide) (by omega)).mpr z))
    refine lv_aload_n hx hb d_A_noteTried_9 rfl (lv_at hl 0 rfl) ?_
    refine va_get (D := D) (ci := 0) (v := .long ts) (C := R_A) (T := T_A) (N := 12) hx hb hts iw_A hown hK.1 hP 0 rfl rfl 11 (by decide) (hts _ wd_181) (fun _ h9 => h9) rfl d_A_noteTried_10 ?_
    refine lv_iload_n hx hb d_A_noteTried_13 rfl (lv_at hl 1 rfl) ?_
    refine vp_callSi (va_runSN (As := [.long ts, .int (nI j)]) (rest := []) ⟨hx, hb, hml, hown, hts⟩ (k_holds l D cA ts j (by omega)) ⟨va_cnB 2 hts (sx_GI wd_110) rfl rfl rfl (hK.2.1 _ wd_278) (hts _ wd_1) (by decide +kernel) ⟨Nat.le_of_ble_eq_true rfl, Nat.le_of_ble_eq_true rfl⟩, hts _ wd_109, trivial⟩ (sx_preS hK (sx_P0 : va_P D vwCl [] s.heap)) rfl rfl hl.1 rfl (lv_room (Nat.le_of_ble_eq_true rfl)) d_A_noteTried_14 ⟨Nat.le_of_ble_eq_true rfl, Nat.le_of_ble_eq_true rfl⟩).run (fun r_3 hr_2 => ?_)
    subst hr_2
    refine lv_if_ne (tgt := 53) hx hb d_A_noteTried_17 (by decide) (fun c_4 => ?_) (fun c_4 => ?_)
    · have c_4 : (sx_bt ts j) = true := sx_bIn c_4
      have hP9 : va_P D vwCl (wA cA g0 g1 g2 g3 g4 g5 dp out dc th hw br ops rf tp (nI t) ts wv wf wl) s.heap := hP
      have hD9 : va_D A (wA cA g0 g1 g2 g3 g4 g5 dp out dc th hw br ops rf tp (nI t) ts wv wf wl) := hD
      exact W.vret hx hb hr (fun t ht hW => ⟨⟨(), rfl, trivial, by rw [ht]; exact hP9, by rw [hAe]; exact hD9⟩, hS.F ht⟩) hS.2.2 d_A_noteTried_53
    · exact absurd (sx_bI0 c_4) (by rw [hb0]; decide)
