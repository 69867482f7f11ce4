set_option maxHeartbeats 4000000 in
set_option maxRecDepth 100000 in
theorem k_isDecl (l : Launch) (D : va_G) (cA : Nat → ClassId) (h : Nat → Nat) (most : Int32) (code : Int32) (actions : Int32) (isStrict : Int32) (letter : Nat → Int32) (source : Nat → Int32) (come : Nat → Int32) (operations : Nat → Int32) (refusals : Nat → Int32) (triedMany : Nat → Int32) (tried : Nat → Int32) (world : Nat → Int32) (isThere : Nat → Int32) (isBroken : Nat → Int32) (wasThere : Nat → Int32) (marked : Nat → Int32) (n : Nat) (α : sx_A) (na L : Nat) (hI : sx_INV n na L α) (a : Nat) (ha : a < na) (p : Nat) (hp : p < n) (ob : Bool) : Met l y_M_isDeclared w_M_isDeclared ({ frames := 1, cells := 0, slots := 0, locals := 23 }) (sx_Pr D cA [.ref (h 0), .int (nI a), .int (nI p), .int (sx_bI ob)] (wM cA h most code (nI n) actions isStrict (α 1) letter source come (α 4) (α 5) operations refusals triedMany tried world (α 11) isThere isBroken wasThere marked)) (vp_Si (fun r => r = sx_bI (sx_isD α a ob p))) 0 0 (fun _ => False) := by
  refine Met.ofW (cc := b_M_isDeclared) (maxL := 6) (ret := (some .boolean)) (by decide) rfl ?_
  intro pG eG s m args below meth cG s₁ B hml hv
  obtain ⟨rfl, hP, hK⟩ := hv
  have hx := B.exec
  have hb := B.bytes
  have hr := B.returns
  have hts0 := atoms_spec (ws := w_M_isDeclared) B.pre
  have hts : ∀ w ∈ sx_gw, w.before _ s = true := fun w h => hts0 w (List.mem_cons_of_mem _ h)
  have hown : s.vm.findClass R_M = some m.cls := findClass_of_methodNamed B.named
  have hlocks := B.notSynchronized
  have hl := lv_entry ([.ref (h 0), .int (nI a), .int (nI p), .int (sx_bI ob)]) (n := 6) (Nat.le_of_ble_eq_true rfl)
  rw [lg_entry_eq]
  generalize (lg_sl ([.ref (h 0), .int (nI a), .int (nI p), .int (sx_bI ob)]) ++ List.replicate (6 - (lg_sl ([.ref (h 0), .int (nI a), .int (nI p), .int (sx_bI ob)])).length) Slot.unset).toArray = ls at hl ⊢
  have hl : lv_has ls 6 [(0, .ref (h 0)), (1, .int (nI a)), (2, .int (nI p)), (3, .int (sx_bI ob))] := hl
  have hn31 := sx_INV_n hI
  have hn60 := hI.1.1.2
  have h1n := hI.1.1.1
  have hna := hI.1.2.1
  have hAc := sx_INV_A hI ha
  have hd12 := (sx_dN_ok hAc).1
  refine lv_iconst (v := nI 0) hx hb d_M_isDeclared_0 (by decide +kernel) ?_
  refine sx_asi (y := sx_bI false) rfl ?_
  refine lv_istore (lv' := [(4, .int (sx_bI false)), (0, .ref (h 0)), (1, .int (nI a)), (2, .int (nI p)), (3, .int (sx_bI ob))]) hx hb d_M_isDeclared_1 hl (by decide) rfl (fun ls hl => ?_)
  refine lv_iconst (v := nI 0) hx hb d_M_isDeclared_3 (by decide +kernel) ?_
  refine lv_istore (lv' := [(5, .int (nI 0)), (4, .int (sx_bI false)), (0, .ref (h 0)), (1, .int (nI a)), (2, .int (nI p)), (3, .int (sx_bI ob))]) hx hb d_M_isDeclared_4 hl (by decide) rfl (fun ls hl => ?_)
  refine sx_loop (σ := Nat × Bool) (fun x => x.1 ≤ sx_dN α a ∧ x.2 = sx_any (fun z => decide (α 11 (12 * a + z) = sx_bI ob) && sx_U (α 1) p (sx_dp α a z)) x.1) (fun x => [(5, .int (nI x.1)), (4, .int (sx_bI x.2)), (0, .ref (h 0)), (1, .int (nI a)), (2, .int (nI p)), (3, .int (sx_bI ob))]) (fun x => sx_dN α a - x.1) (0, false) (⟨Nat.zero_le _, rfl⟩) (lv_sub hl [0, 1, 2, 3, 4, 5] rfl) (fun x hJ ih ls hl => ?_)
  obtain ⟨k, b⟩ := x
  obtain ⟨hk, hJ⟩ := hJ
  have hl : lv_has ls 6 [(5, .int (nI k)), (4, .int (sx_bI b)), (0, .ref (h 0)), (1, .int (nI a)), (2, .int (nI p)), (3, .int (sx_bI ob))] := hl
  have ih_6 := ih
  refine lv_iload hx hb d_M_isDeclared_6 (lv_at hl 0 rfl) ?_
  refine lv_aload_n hx hb d_M_isDeclared_8 rfl (lv_at hl 2 rfl) ?_
  refine va_get (D := D) (ci := 4) (v := .ref (h 5)) (C := R_M) (T := T_M) (N := 21) hx hb hts iw_M hown hK.1 hP 0 rfl rfl 9 (by decide) (hts _ wd_373) (fun _ h9 => h9) rfl d_M_isDeclared_9 ?_
  refine lv_iload_n hx hb d_M_isDeclared_12 rfl (lv_at hl 3 rfl) ?_
  refine va_iald hx hb hK.1 hP 5 0 rfl rfl (vp_in_nI (by omega) (by decide)) d_M_isDeclared_13 ?_
  refine sx_asi (congrArg (α 4) (nI_clamp (by omega))) ?_
  refine sx_asi (sx_dN_ok hAc).2 ?_
  refine lv_icmp_ge (tgt := 71) hx hb d_M_isDeclared_14 (by decide) (fun c_1 => ?_) (fun c_1 => ?_)
  · have c_1 : sx_dN α a ≤ k := (nI_leI (by omega) (by omega)).mp c_1
    refine lv_iload hx hb d_M_isDeclared_71 (lv_at hl 1 rfl) ?_
    exact W.zret (v := sx_bI b) (ty := .boolean) hx hb hr (sx_bI_nar _) (fun t ht hW => ⟨sx_bI b, rfl, sx_anyR hJ (show k = sx_dN α a by omega), ht⟩) (fun _ h => by cases h) d_M_isDeclared_73
  · have c_1 : k < sx_dN α a := Nat.not_le.mp (fun z => c_1 ((nI_leI (by omega) (by omega)).mpr z))
    refine lv_iload hx hb d_M_isDeclared_17 (lv_at hl 1 rfl) ?_
    refine lv_if_ne (tgt := 58) hx hb d_M_isDeclared_19 (by decide) (fun c_2 => ?_) (fun c_2 => ?_)
    · have c_2 : b = true := sx_bIn c_2
      refine lv_iconst (v := nI 1) hx hb d_M_isDeclared_58 (by decide +kernel) ?_
      refine lv_goto (tgt := 63) hx hb d_M_isDeclared_59 (by decide) ?_
      refine sx_asi (y := sx_bI true) rfl ?_
      refine lv_istore (lv' := [(4, .int (sx_bI true)), (5, .int (nI k)), (0, .ref (h 0)), (1, .int (nI a)), (2, .int (nI p)), (3, .int (sx_bI ob))]) hx hb d_M_isDeclared_63 hl (by decide) rfl (fun ls hl => ?_)
      refine lv_iinc (v := nI (k + 1)) (lv' := [(5, .int (nI (k + 1))), (4, .int (sx_bI true)), (0, .ref (h 0)), (1, .int (nI a)), (2, .int (nI p)), (3, .int (sx_bI ob))]) hx hb d_M_isDeclared_65 hl (k := 1) rfl (nI_1 k) (by decide) rfl (fun ls hl => ?_)
      refine lv_goto (tgt := 6) hx hb d_M_isDeclared_68 (by decide) ?_
      exact ih_6 (k + 1, true) (⟨by omega, sx_anyS_1 hJ c_2⟩) (by omega) ls (lv_sub hl [0, 1, 2, 3, 4, 5] rfl)
    · have c_2 : b = false := sx_bI0 c_2
      refine lv_aload_n hx hb d_M_isDeclared_22 rfl (lv_at hl 2 rfl) ?_
      refine va_get (D := D) (ci := 4) (v := .ref (h 12)) (C := R_M) (T := T_M) (N := 21) hx hb hts iw_M hown hK.1 hP 0 rfl rfl 16 (by decide) (hts _ wd_380) (fun _ h9 => h9) rfl d_M_isDeclared_23 ?_
      refine lv_bipush (v := nI 12) hx hb d_M_isDeclared_26 (by decide +kernel) ?_
      refine lv_iload_n hx hb d_M_isDeclared_28 rfl (lv_at hl 3 rfl) ?_
      refine lv_imul hx hb d_M_isDeclared_29 ?_
      refine sx_asi (y := nI (12 * a)) (pk_mul 12 a) ?_
      refine lv_iload hx hb d_M_isDeclared_30 (lv_at hl 0 rfl) ?_
      refine lv_iadd hx hb d_M_isDeclared_32 ?_
      refine sx_asi (y := nI (12 * a + k)) (nI_add (12 * a) k) ?_
      refine va_zald hx hb hK.1 hP 12 1 rfl rfl (vp_in_nI (by omega) (by decide)) d_M_isDeclared_33 ?_
      refine sx_asi (congrArg (α 11) (nI_clamp (by omega))) ?_
      refine lv_iload_n hx hb d_M_isDeclared_34 rfl (lv_at hl 5 rfl) ?_
      refine lv_icmp_ne (tgt := 62) hx hb d_M_isDeclared_35 (by decide) (fun c_3 => ?_) (fun c_3 => ?_)
      · refine lv_iconst (v := nI 0) hx hb d_M_isDeclared_62 (by decide +kernel) ?_
        refine sx_asi (y := sx_bI false) rfl ?_
        refine lv_istore (lv' := [(4, .int (sx_bI false)), (5, .int (nI k)), (0, .ref (h 0)), (1, .int (nI a)), (2, .int (nI p)), (3, .int (sx_bI ob))]) hx hb d_M_isDeclared_63 hl (by decide) rfl (fun ls hl => ?_)
        refine lv_iinc (v := nI (k + 1)) (lv' := [(5, .int (nI (k + 1))), (4, .int (sx_bI false)), (0, .ref (h 0)), (1, .int (nI a)), (2, .int (nI p)), (3, .int (sx_bI ob))]) hx hb d_M_isDeclared_65 hl (k := 1) rfl (nI_1 k) (by decide) rfl (fun ls hl => ?_)
        refine lv_goto (tgt := 6) hx hb d_M_isDeclared_68 (by decide) ?_
        exact ih_6 (k + 1, false) (⟨by omega, sx_anyS_0 hJ c_2 (by rw [decide_eq_false c_3]; rfl)⟩) (by omega) ls (lv_sub hl [0, 1, 2, 3, 4, 5] rfl)
      · refine lv_aload_n hx hb d_M_isDeclared_38 rfl (lv_at hl 2 rfl) ?_
        refine lv_iload_n hx hb d_M_isDeclared_39 rfl (lv_at hl 4 rfl) ?_
        refine lv_aload_n hx hb d_M_isDeclared_40 rfl (lv_at hl 2 rfl) ?_
        refine va_get (D := D) (ci := 4) (v := .ref (h 6)) (C := R_M) (T := T_M) (N := 21) hx hb hts iw_M hown hK.1 hP 0 rfl rfl 10 (by decide) (hts _ wd_374) (fun _ h9 => h9) rfl d_M_isDeclared_41 ?_
        refine lv_bipush (v := nI 12) hx hb d_M_isDeclared_44 (by decide +kernel) ?_
        refine lv_iload_n hx hb d_M_isDeclared_46 rfl (lv_at hl 3 rfl) ?_
        refine lv_imul hx hb d_M_isDeclared_47 ?_
        refine sx_asi (y := nI (12 * a)) (pk_mul 12 a) ?_
        refine lv_iload hx hb d_M_isDeclared_48 (lv_at hl 0 rfl) ?_
        refine lv_iadd hx hb d_M_isDeclared_50 ?_
        refine sx_asi (y := nI (12 * a + k)) (nI_add (12 * a) k) ?_
        refine va_iald hx hb hK.1 hP 6 0 rfl rfl (vp_in_nI (by omega) (by decide)) d_M_isDeclared_51 ?_
        refine sx_asi (congrArg (α 5) (nI_clamp (by omega))) ?_
        obtain ⟨dp1, dp2, dp3⟩ := sx_dp_ok hn31 hAc (show k < sx_dN α a by omega)
        refine sx_asi dp3 ?_
        refine vp_callSi (va_runV (As := [.int (nI p), .int (nI (sx_dp α a k))]) (rest := []) ⟨hx, hb, hml, hown, hts⟩ (k_isUnder l D cA h most code actions isStrict letter source come (α 4) (α 5) operations refusals triedMany tried world (α 11) isThere isBroken wasThere marked n α hI.2.1 (by omega) p (sx_dp α a k) (by omega) (by omega)) (cwV 2 hts (sx_GV wd_447 wd_449 ws_13 wd_5 wd_450) rfl rfl rfl (by decide +kernel) ⟨Nat.le_of_ble_eq_true rfl, Nat.le_of_ble_eq_true rfl⟩) (sx_preV hK hP (va_recv hK.1 hP (ci := 4) (q0 := 0) rfl rfl)) rfl rfl hl.1 rfl (lv_room (Nat.le_of_ble_eq_true rfl)) d_M_isDeclared_52 ⟨Nat.le_of_ble_eq_true rfl, Nat.le_of_ble_eq_true rfl⟩).run (fun r_5 hr_4 => ?_)
        subst hr_4
        refine lv_if_eq (tgt := 62) hx hb d_M_isDeclared_55 (by decide) (fun c_6 => ?_) (fun c_6 => ?_)
        · have c_6 : (sx_U (α 1) p (sx_dp α a k)) = false := sx_bI0 c_6
          refine lv_iconst (v := nI 0) hx hb d_M_isDeclared_62 (by decide +kernel) ?_
          refine sx_asi (y := sx_bI false) rfl ?_
          refine lv_istore (lv' := [(4, .int (sx_bI false)), (5, .int (nI k)), (0, .ref (h 0)), (1, .int (nI a)), (2, .int (nI p)), (3, .int (sx_bI ob))]) hx hb d_M_isDeclared_63 hl (by decide) rfl (fun ls hl => ?_)
          refine lv_iinc (v := nI (k + 1)) (lv' := [(5, .int (nI (k + 1))), (4, .int (sx_bI false)), (0, .ref (h 0)), (1, .int (nI a)), (2, .int (nI p)), (3, .int (sx_bI ob))]) hx hb d_M_isDeclared_65 hl (k := 1) rfl (nI_1 k) (by decide) rfl (fun ls hl => ?_)
          refine lv_goto (tgt := 6) hx hb d_M_isDeclared_68 (by decide) ?_
          exact ih_6 (k + 1, false) (⟨by omega, sx_anyS_0 hJ c_2 (by rw [c_6]; exact Bool.and_false _)⟩) (by omega) ls (lv_sub hl [0, 1, 2, 3, 4, 5] rfl)
        · have c_6 : (sx_U (α 1) p (sx_dp α a k)) = true := sx_bIn c_6
          refine lv_iconst (v := nI 1) hx hb d_M_isDeclared_58 (by decide +kernel) ?_
          refine lv_goto (tgt := 63) hx hb d_M_isDeclared_59 (by decide) ?_
          refine sx_asi (y := sx_bI true) rfl ?_
          refine lv_istore (lv' := [(4, .int (sx_bI true)), (5, .int (nI k)), (0, .ref (h 0)), (1, .int (nI a)), (2, .int (nI p)), (3, .int (sx_bI ob))]) hx hb d_M_isDeclared_63 hl (by decide) rfl (fun ls hl => ?_)
          refine lv_iinc (v := nI (k + 1)) (lv' := [(5, .int (nI (k + 1))), (4, .int (sx_bI true)), (0, .ref (h 0)), (1, .int (nI a)), (2, .int (nI p)), (3, .int (sx_bI ob))]) hx hb d_M_isDeclared_65 hl (k := 1) rfl (nI_1 k) (by decide) rfl (fun ls hl => ?_)
          refine lv_goto (tgt := 6) hx hb d_M_isDeclared_68 (by decide) ?_
          exact ih_6 (k + 1, true) (⟨by omega, sx_anyS_2 (by rw [decide_eq_true c_3, c_6]; rfl)⟩) (by omega) ls (lv_sub hl [0, 1, 2, 3, 4, 5] rfl)

set_option maxHeartbeats 4000000 in
set_option maxRecDepth 100000 in
theorem k_isWr (l : Launch) (D : va_G) (cA : Nat → ClassId) (h : Nat → Nat) (most : Int32) (code : Int32) (actions : Int32) (isStrict : Int32) (source : Nat → Int32) (come : Nat → Int32) (operations : Nat → Int32) (refusals : Nat → Int32) (triedMany : Nat → Int32) (tried : Nat → Int32) (world : Nat → Int32) (isThere : Nat → Int32) (isBroken : Nat → Int32) (wasThere : Nat → Int32) (marked : Nat → Int32) (n : Nat) (α : sx_A) (na L : Nat) (hI : sx_INV n na L α) (a : Nat) (ha : a < na) (p : Nat) (hp : p < n) : Met l y_M_isWritable w_M_isWritable ({ frames := 2, cells := 0, slots := 0, locals := 48 }) (sx_Pr D cA [.ref (h 0), .int (nI a), .int (nI p)] (wM cA h most code (nI n) actions isStrict (α 1) (α 2) source come (α 4) (α 5) operations refusals triedMany tried world (α 11) isThere isBroken wasThere marked)) (vp_Si (fun r => r = sx_bI (sx_isW n α a p))) 0 0 (fun _ => False) := by
  refine Met.ofW (cc := b_M_isWritable) (maxL := 4) (ret := (some .boolean)) (by decide) rfl ?_
  intro pG eG s m args below meth cG s₁ B hml hv
  obtain ⟨rfl, hP, hK⟩ := hv
  have hx := B.exec
  have hb := B.bytes
  have hr := B.returns
  have hts0 := atoms_spec (ws := w_M_isWritable) B.pre
  have hts : ∀ w ∈ sx_gw, w.before _ s = true := fun w h => hts0 w (List.mem_cons_of_mem _ h)
  have hown : s.vm.findClass R_M = some m.cls := findClass_of_methodNamed B.named
  have hlocks := B.notSynchronized
  have hl := lv_entry ([.ref (h 0), .int (nI a), .int (nI p)]) (n := 4) (Nat.le_of_ble_eq_true rfl)
  rw [lg_entry_eq]
  generalize (lg_sl ([.ref (h 0), .int (nI a), .int (nI p)]) ++ List.replicate (4 - (lg_sl ([.ref (h 0), .int (nI a), .int (nI p)])).length) Slot.unset).toArray = ls at hl ⊢
  have hl : lv_has ls 4 [(0, .ref (h 0)), (1, .int (nI a)), (2, .int (nI p))] := hl
  have hn31 := sx_INV_n hI
  have hn60 := hI.1.1.2
  have h1n := hI.1.1.1
  have hna := hI.1.2.1
  refine lv_aload_n hx hb d_M_isWritable_0 rfl (lv_at hl 0 rfl) ?_
  refine lv_iload_n hx hb d_M_isWritable_1 rfl (lv_at hl 1 rfl) ?_
  refine lv_iload_n hx hb d_M_isWritable_2 rfl (lv_at hl 2 rfl) ?_
  refine lv_iconst (v := nI 1) hx hb d_M_isWritable_3 (by decide +kernel) ?_
  refine sx_asi (y := sx_bI true) rfl ?_
  refine vp_callSi (va_runV (As := [.int (nI a), .int (nI p), .int (sx_bI true)]) (rest := []) ⟨hx, hb, hml, hown, hts⟩ (k_isDecl l D cA h most code actions isStrict (α 2) source come operations refusals triedMany tried world isThere isBroken wasThere marked n α na L hI a (by omega) p (by omega) true) (cwV 3 hts (sx_GV wd_475 wd_477 ws_15 wd_5 wd_478) rfl rfl rfl (by decide +kernel) ⟨Nat.le_of_ble_eq_true rfl, Nat.le_of_ble_eq_true rfl⟩) (sx_preV hK hP (va_recv hK.1 hP (ci := 4) (q0 := 0) rfl rfl)) rfl rfl hl.1 rfl (lv_room (Nat.le_of_ble_eq_true rfl)) d_M_isWritable_4 ⟨Nat.le_of_ble_eq_true rfl, Nat.le_of_ble_eq_true rfl⟩).run (fun r_2 hr_1 => ?_)
  subst hr_1
  refine lv_if_eq (tgt := 12) hx hb d_M_isWritable_7 (by decide) (fun c_3 => ?_) (fun c_3 => ?_)
  · have c_3 : (sx_isD α a true p) = false := sx_bI0 c_3
    refine lv_aload_n hx hb d_M_isWritable_12 rfl (lv_at hl 0 rfl) ?_
    refine lv_iconst (v := nI 0) hx hb d_M_isWritable_13 (by decide +kernel) ?_
    refine lv_bipush (v := nI 122) hx hb d_M_isWritable_14 (by decide +kernel) ?_
    refine vp_callSi (va_runV (As := [.int (nI 0), .int (nI 122)]) (rest := []) ⟨hx, hb, hml, hown, hts⟩ (k_child l D cA h most code actions isStrict source come (α 4) (α 5) operations refusals triedMany tried world (α 11) isThere isBroken wasThere marked n α (by omega) (by omega) (nI 0) (nI 122)) (cwV 2 hts (sx_GV wd_439 wd_441 ws_12 wd_5 wd_442) rfl rfl rfl (by decide +kernel) ⟨Nat.le_of_ble_eq_true rfl, Nat.le_of_ble_eq_true rfl⟩) (sx_preV hK hP (va_recv hK.1 hP (ci := 4) (q0 := 0) rfl rfl)) rfl rfl hl.1 rfl (lv_room (Nat.le_of_ble_eq_true rfl)) d_M_isWritable_16 ⟨Nat.le_of_ble_eq_true rfl, Nat.le_of_ble_eq_true rfl⟩).run (fun r_5 hr_4 => ?_)
    subst hr_4
    refine lv_istore_n (lv' := [(3, .int (sx_ch α (nI 0) (nI 122) n)), (0, .ref (h 0)), (1, .int (nI a)), (2, .int (nI p))]) hx hb d_M_isWritable_19 rfl hl (by decide) rfl (fun ls hl => ?_)
    refine lv_iload_n hx hb d_M_isWritable_20 rfl (lv_at hl 0 rfl) ?_
    refine lv_iconst (v := (-1)) hx hb d_M_isWritable_21 (by decide +kernel) ?_
    refine lv_icmp_eq (tgt := 53) hx hb d_M_isWritable_22 (by decide) (fun c_6 => ?_) (fun c_6 => ?_)
    · refine lv_iconst (v := nI 0) hx hb d_M_isWritable_53 (by decide +kernel) ?_
      exact W.zret (v := nI 0) (ty := .boolean) hx hb hr (by decide +kernel) (fun t ht hW => ⟨nI 0, rfl, sx_b0 (sx_isW_0 c_3 c_6), ht⟩) (fun _ h => by cases h) d_M_isWritable_54
    · obtain ⟨k, k0, k1, ek⟩ := sx_ch_pos (by omega) c_6
      rw [ek] at hl
      have hl : lv_has ls 4 [(3, .int (nI k)), (0, .ref (h 0)), (1, .int (nI a)), (2, .int (nI p))] := hl
      refine lv_iload_n hx hb d_M_isWritable_25 rfl (lv_at hl 3 rfl) ?_
      refine lv_iload_n hx hb d_M_isWritable_26 rfl (lv_at hl 0 rfl) ?_
      refine lv_icmp_eq (tgt := 53) hx hb d_M_isWritable_27 (by decide) (fun c_7 => ?_) (fun c_7 => ?_)
      · have c_7 : p = k := (nI_eq (by omega) (by omega)).mp c_7
        refine lv_iconst (v := nI 0) hx hb d_M_isWritable_53 (by decide +kernel) ?_
        exact W.zret (v := nI 0) (ty := .boolean) hx hb hr (by decide +kernel) (fun t ht hW => ⟨nI 0, rfl, sx_b0 (by rw [sx_isW_k c_3 (show k < 2 ^ 31 by omega) ek, sx_beq_t c_7]; rfl), ht⟩) (fun _ h => by cases h) d_M_isWritable_54
      · have c_7 : ¬ p = k := fun z => c_7 ((nI_eq (by omega) (by omega)).mpr z)
        refine lv_aload_n hx hb d_M_isWritable_30 rfl (lv_at hl 1 rfl) ?_
        refine lv_iload_n hx hb d_M_isWritable_31 rfl (lv_at hl 3 rfl) ?_
        refine lv_iload_n hx hb d_M_isWritable_32 rfl (lv_at hl 0 rfl) ?_
        refine vp_callSi (va_runV (As := [.int (nI p), .int (nI k)]) (rest := []) ⟨hx, hb, hml, hown, hts⟩ (k_isUnder l D cA h most code actions isStrict (α 2) source come (α 4) (α 5) operations refusals triedMany tried world (α 11) isThere isBroken wasThere marked n α hI.2.1 (by omega) p k (by omega) (by omega)) (cwV 2 hts (sx_GV wd_447 wd_449 ws_13 wd_5 wd_450) rfl rfl rfl (by decide +kernel) ⟨Nat.le_of_ble_eq_true rfl, Nat.le_of_ble_eq_true rfl⟩) (sx_preV hK hP (va_recv hK.1 hP (ci := 4) (q0 := 0) rfl rfl)) rfl rfl hl.1 rfl (lv_room (Nat.le_of_ble_eq_true rfl)) d_M_isWritable_33 ⟨Nat.le_of_ble_eq_true rfl, Nat.le_of_ble_eq_true rfl⟩).run (fun r_9 hr_8 => ?_)
        subst hr_8
        refine lv_if_eq (tgt := 53) hx hb d_M_isWritable_36 (by decide) (fun c_10 => ?_) (fun c_10 => ?_)
        · have c_10 : (sx_U (α 1) p k) = false := sx_bI0 c_10
          refine lv_iconst (v := nI 0) hx hb d_M_isWritable_53 (by decide +kernel) ?_
          exact W.zret (v := nI 0) (ty := .boolean) hx hb hr (by decide +kernel) (fun t ht hW => ⟨nI 0, rfl, sx_b0 (by rw [sx_isW_k c_3 (show k < 2 ^ 31 by omega) ek, c_10]; simp), ht⟩) (fun _ h => by cases h) d_M_isWritable_54
        · have c_10 : (sx_U (α 1) p k) = true := sx_bIn c_10
          refine lv_aload_n hx hb d_M_isWritable_39 rfl (lv_at hl 1 rfl) ?_
          refine lv_iload_n hx hb d_M_isWritable_40 rfl (lv_at hl 2 rfl) ?_
          refine lv_iload_n hx hb d_M_isWritable_41 rfl (lv_at hl 3 rfl) ?_
          refine lv_iconst (v := nI 0) hx hb d_M_isWritable_42 (by decide +kernel) ?_
          refine sx_asi (y := sx_bI false) rfl ?_
          refine vp_callSi (va_runV (As := [.int (nI a), .int (nI p), .int (sx_bI false)]) (rest := []) ⟨hx, hb, hml, hown, hts⟩ (k_isDecl l D cA h most code actions isStrict (α 2) source come operations refusals triedMany tried world isThere isBroken wasThere marked n α na L hI a (by omega) p (by omega) false) (cwV 3 hts (sx_GV wd_475 wd_477 ws_15 wd_5 wd_478) rfl rfl rfl (by decide +kernel) ⟨Nat.le_of_ble_eq_true rfl, Nat.le_of_ble_eq_true rfl⟩) (sx_preV hK hP (va_recv hK.1 hP (ci := 4) (q0 := 0) rfl rfl)) rfl rfl hl.1 rfl (lv_room (Nat.le_of_ble_eq_true rfl)) d_M_isWritable_43 ⟨Nat.le_of_ble_eq_true rfl, Nat.le_of_ble_eq_true rfl⟩).run (fun r_12 hr_11 => ?_)
          subst hr_11
          refine lv_if_ne (tgt := 53) hx hb d_M_isWritable_46 (by decide) (fun c_13 => ?_) (fun c_13 => ?_)
          · have c_13 : (sx_isD α a false p) = true := sx_bIn c_13
            refine lv_iconst (v := nI 0) hx hb d_M_isWritable_53 (by decide +kernel) ?_
            exact W.zret (v := nI 0) (ty := .boolean) hx hb hr (by decide +kernel) (fun t ht hW => ⟨nI 0, rfl, sx_b0 (by rw [sx_isW_k c_3 (show k < 2 ^ 31 by omega) ek, c_13]; simp), ht⟩) (fun _ h => by cases h) d_M_isWritable_54
          · have c_13 : (sx_isD α a false p) = false := sx_bI0 c_13
            refine lv_iconst (v := nI 1) hx hb d_M_isWritable_49 (by decide +kernel) ?_
            refine lv_goto (tgt := 54) hx hb d_M_isWritable_50 (by decide) ?_
            exact W.zret (v := nI 1) (ty := .boolean) hx hb hr (by decide +kernel) (fun t ht hW => ⟨nI 1, rfl, sx_b1 (by rw [sx_isW_k c_3 (show k < 2 ^ 31 by omega) ek, sx_beq_f c_7, c_10, c_13]; rfl), ht⟩) (fun _ h => by cases h) d_M_isWritable_54
  · have c_3 : (sx_isD α a true p) = true := sx_bIn c_3
    refine lv_iconst (v := nI 1) hx hb d_M_isWritable_10 (by decide +kernel) ?_
    exact W.zret (v := nI 1) (ty := .boolean) hx hb hr (by decide +kernel) (fun t ht hW => ⟨nI 1, rfl, sx_b1 (sx_isW_1 c_3), ht⟩) (fun _ h => by cases h) d_M_isWritable_11

set_option maxHeartbeats 4000000 in
set_option maxRecDepth 100000 in
theorem k_inW (l : Launch) (D : va_G) (cA : Nat → ClassId) (h : Nat → Nat) (most : Int32) (code : Int32) (actions : Int32) (isStrict : Int32) (letter : Nat → Int32) (source : Nat → Int32) (come : Nat → Int32) (declared : Nat → Int32) (declaredPath : Nat → Int32) (operations : Nat → Int32) (refusals : Nat → Int32) (triedMany : Nat → Int32) (tried : Nat → Int32) (isOutput : Nat → Int32) (isThere : Nat → Int32) (isBroken : Nat → Int32) (wasThere : Nat → Int32) (marked : Nat → Int32) (n : Nat) (α : sx_A) (na L : Nat) (hI : sx_INV n na L α) (a : Nat) (ha : a < na) (p : Nat) (hp : p < n) : Met l y_M_isInWay w_M_isInWay ({ frames := 1, cells := 0, slots := 0, locals := 23 }) (sx_Pr D cA [.ref (h 0), .int (nI a), .int (nI p)] (wM cA h most code (nI n) actions isStrict (α 1) letter source come declared declaredPath operations refusals triedMany tried (α 10) isOutput isThere isBroken wasThere marked)) (vp_Si (fun r => r = sx_bI (sx_inW n α a p))) 0 0 (fun _ => False) := by
  refine Met.ofW (cc := b_M_isInWay) (maxL := 5) (ret := (some .boolean)) (by decide) rfl ?_
  intro pG eG s m args below meth cG s₁ B hml hv
  obtain ⟨rfl, hP, hK⟩ := hv
  have hx := B.exec
  have hb := B.bytes
  have hr := B.returns
  have hts0 := atoms_spec (ws := w_M_isInWay) B.pre
  have hts : ∀ w ∈ sx_gw, w.before _ s = true := fun w h => hts0 w (List.mem_cons_of_mem _ h)
  have hown : s.vm.findClass R_M = some m.cls := findClass_of_methodNamed B.named
  have hlocks := B.notSynchronized
  have hl := lv_entry ([.ref (h 0), .int (nI a), .int (nI p)]) (n := 5) (Nat.le_of_ble_eq_true rfl)
  rw [lg_entry_eq]
  generalize (lg_sl ([.ref (h 0), .int (nI a), .int (nI p)]) ++ List.replicate (5 - (lg_sl ([.ref (h 0), .int (nI a), .int (nI p)])).length) Slot.unset).toArray = ls at hl ⊢
  have hl : lv_has ls 5 [(0, .ref (h 0)), (1, .int (nI a)), (2, .int (nI p))] := hl
  have hn31 := sx_INV_n hI
  have hn60 := hI.1.1.2
  have h1n := hI.1.1.1
  have hna := hI.1.2.1
  refine lv_iconst (v := nI 0) hx hb d_M_isInWay_0 (by decide +kernel) ?_
  refine sx_asi (y := sx_bI false) rfl ?_
  refine lv_istore_n (lv' := [(3, .int (sx_bI false)), (0, .ref (h 0)), (1, .int (nI a)), (2, .int (nI p))]) hx hb d_M_isInWay_1 rfl hl (by decide) rfl (fun ls hl => ?_)
  refine lv_iconst (v := nI 1) hx hb d_M_isInWay_2 (by decide +kernel) ?_
  refine lv_istore (lv' := [(4, .int (nI 1)), (3, .int (sx_bI false)), (0, .ref (h 0)), (1, .int (nI a)), (2, .int (nI p))]) hx hb d_M_isInWay_3 hl (by decide) rfl (fun ls hl => ?_)
  refine sx_loop (σ := Nat × Bool) (fun x => 1 ≤ x.1 ∧ x.1 ≤ n ∧ x.2 = sx_any (fun k => (Nat.blt 0 k && !Nat.beq k p) && (!decide (α 10 (60 * a + k) = 0) && (sx_U (α 1) k p || sx_U (α 1) p k))) x.1) (fun x => [(4, .int (nI x.1)), (3, .int (sx_bI x.2)), (0, .ref (h 0)), (1, .int (nI a)), (2, .int (nI p))]) (fun x => n - x.1) (1, false) (⟨by omega, by omega, rfl⟩) (lv_sub hl [0, 1, 2, 3, 4] rfl) (fun x hJ ih ls hl => ?_)
  obtain ⟨i, b⟩ := x
  obtain ⟨hi1, hin, hJ⟩ := hJ
  have hl : lv_has ls 5 [(4, .int (nI i)), (3, .int (sx_bI b)), (0, .ref (h 0)), (1, .int (nI a)), (2, .int (nI p))] := hl
  have ih_5 := ih
  refine lv_iload hx hb d_M_isInWay_5 (lv_at hl 0 rfl) ?_
  refine lv_aload_n hx hb d_M_isInWay_7 rfl (lv_at hl 2 rfl) ?_
  refine va_get (D := D) (ci := 4) (v := .int (nI n)) (C := R_M) (T := T_M) (N := 21) hx hb hts iw_M hown hK.1 hP 0 rfl rfl 2 (by decide) (hts _ wd_366) (fun _ h9 => h9) rfl d_M_isInWay_8 ?_
  refine lv_icmp_ge (tgt := 66) hx hb d_M_isInWay_11 (by decide) (fun c_1 => ?_) (fun c_1 => ?_)
  · have c_1 : n ≤ i := (nI_leI (by omega) (by omega)).mp c_1
    refine lv_iload_n hx hb d_M_isInWay_66 rfl (lv_at hl 1 rfl) ?_
    exact W.zret (v := sx_bI b) (ty := .boolean) hx hb hr (sx_bI_nar _) (fun t ht hW => ⟨sx_bI b, rfl, sx_anyR hJ (show i = n by omega), ht⟩) (fun _ h => by cases h) d_M_isInWay_67
  · have c_1 : i < n := Nat.not_le.mp (fun z => c_1 ((nI_leI (by omega) (by omega)).mpr z))
    refine lv_iload_n hx hb d_M_isInWay_14 rfl (lv_at hl 1 rfl) ?_
    refine lv_if_ne (tgt := 54) hx hb d_M_isInWay_15 (by decide) (fun c_2 => ?_) (fun c_2 => ?_)
    · have c_2 : b = true := sx_bIn c_2
      refine lv_iconst (v := nI 1) hx hb d_M_isInWay_54 (by decide +kernel) ?_
      refine lv_goto (tgt := 59) hx hb d_M_isInWay_55 (by decide) ?_
      refine sx_asi (y := sx_bI true) rfl ?_
      refine lv_istore_n (lv' := [(3, .int (sx_bI true)), (4, .int (nI i)), (0, .ref (h 0)), (1, .int (nI a)), (2, .int (nI p))]) hx hb d_M_isInWay_59 rfl hl (by decide) rfl (fun ls hl => ?_)
      refine lv_iinc (v := nI (i + 1)) (lv' := [(4, .int (nI (i + 1))), (3, .int (sx_bI true)), (0, .ref (h 0)), (1, .int (nI a)), (2, .int (nI p))]) hx hb d_M_isInWay_60 hl (k := 1) rfl (nI_1 i) (by decide) rfl (fun ls hl => ?_)
      refine lv_goto (tgt := 5) hx hb d_M_isInWay_63 (by decide) ?_
      exact ih_5 (i + 1, true) (⟨by omega, by omega, sx_anyS_1 hJ c_2⟩) (by omega) ls (lv_sub hl [0, 1, 2, 3, 4] rfl)
    · have c_2 : b = false := sx_bI0 c_2
      refine lv_iload hx hb d_M_isInWay_18 (lv_at hl 0 rfl) ?_
      refine lv_iload_n hx hb d_M_isInWay_20 rfl (lv_at hl 4 rfl) ?_
      refine lv_icmp_eq (tgt := 58) hx hb d_M_isInWay_21 (by decide) (fun c_3 => ?_) (fun c_3 => ?_)
      · have c_3 : i = p := (nI_eq (by omega) (by omega)).mp c_3
        refine lv_iconst (v := nI 0) hx hb d_M_isInWay_58 (by decide +kernel) ?_
        refine sx_asi (y := sx_bI false) rfl ?_
        refine lv_istore_n (lv' := [(3, .int (sx_bI false)), (4, .int (nI i)), (0, .ref (h 0)), (1, .int (nI a)), (2, .int (nI p))]) hx hb d_M_isInWay_59 rfl hl (by decide) rfl (fun ls hl => ?_)
        refine lv_iinc (v := nI (i + 1)) (lv' := [(4, .int (nI (i + 1))), (3, .int (sx_bI false)), (0, .ref (h 0)), (1, .int (nI a)), (2, .int (nI p))]) hx hb d_M_isInWay_60 hl (k := 1) rfl (nI_1 i) (by decide) rfl (fun ls hl => ?_)
        refine lv_goto (tgt := 5) hx hb d_M_isInWay_63 (by decide) ?_
        exact ih_5 (i + 1, false) (⟨by omega, by omega, sx_anyS_0 hJ c_2 (by rw [sx_beq_t c_3]; simp)⟩) (by omega) ls (lv_sub hl [0, 1, 2, 3, 4] rfl)
      · have c_3 : ¬ i = p := fun z => c_3 ((nI_eq (by omega) (by omega)).mpr z)
        refine lv_aload_n hx hb d_M_isInWay_24 rfl (lv_at hl 2 rfl) ?_
        refine lv_iload_n hx hb d_M_isInWay_25 rfl (lv_at hl 3 rfl) ?_
        refine lv_iload hx hb d_M_isInWay_26 (lv_at hl 0 rfl) ?_
        refine vp_callSi (va_runV (As := [.int (nI a), .int (nI i)]) (rest := []) ⟨hx, hb, hml, hown, hts⟩ (k_at l D cA h most code actions isStrict (α 1) letter source come declared declaredPath operations refusals triedMany tried (α 10) isOutput isThere isBroken wasThere marked n α a i (by omega) (by omega)) (cwV 2 hts (sx_GV wd_491 wd_493 ws_18 wd_5 wd_494) rfl rfl rfl (by decide +kernel) ⟨Nat.le_of_ble_eq_true rfl, Nat.le_of_ble_eq_true rfl⟩) (sx_preV hK hP (va_recv hK.1 hP (ci := 4) (q0 := 0) rfl rfl)) rfl rfl hl.1 rfl (lv_room (Nat.le_of_ble_eq_true rfl)) d_M_isInWay_28 ⟨Nat.le_of_ble_eq_true rfl, Nat.le_of_ble_eq_true rfl⟩).run (fun r_5 hr_4 => ?_)
        subst hr_4
        refine lv_if_eq (tgt := 58) hx hb d_M_isInWay_31 (by decide) (fun c_6 => ?_) (fun c_6 => ?_)
        · refine lv_iconst (v := nI 0) hx hb d_M_isInWay_58 (by decide +kernel) ?_
          refine sx_asi (y := sx_bI false) rfl ?_
          refine lv_istore_n (lv' := [(3, .int (sx_bI false)), (4, .int (nI i)), (0, .ref (h 0)), (1, .int (nI a)), (2, .int (nI p))]) hx hb d_M_isInWay_59 rfl hl (by decide) rfl (fun ls hl => ?_)
          refine lv_iinc (v := nI (i + 1)) (lv' := [(4, .int (nI (i + 1))), (3, .int (sx_bI false)), (0, .ref (h 0)), (1, .int (nI a)), (2, .int (nI p))]) hx hb d_M_isInWay_60 hl (k := 1) rfl (nI_1 i) (by decide) rfl (fun ls hl => ?_)
          refine lv_goto (tgt := 5) hx hb d_M_isInWay_63 (by decide) ?_
          exact ih_5 (i + 1, false) (⟨by omega, by omega, sx_anyS_0 hJ c_2 (by rw [decide_eq_true c_6]; simp)⟩) (by omega) ls (lv_sub hl [0, 1, 2, 3, 4] rfl)
        · refine lv_aload_n hx hb d_M_isInWay_34 rfl (lv_at hl 2 rfl) ?_
          refine lv_iload hx hb d_M_isInWay_35 (lv_at hl 0 rfl) ?_
          refine lv_iload_n hx hb d_M_isInWay_37 rfl (lv_at hl 4 rfl) ?_
          refine vp_callSi (va_runV (As := [.int (nI i), .int (nI p)]) (rest := []) ⟨hx, hb, hml, hown, hts⟩ (k_isUnder l D cA h most code actions isStrict letter source come declared declaredPath operations refusals triedMany tried (α 10) isOutput isThere isBroken wasThere marked n α hI.2.1 (by omega) i p (by omega) (by omega)) (cwV 2 hts (sx_GV wd_447 wd_449 ws_13 wd_5 wd_450) rfl rfl rfl (by decide +kernel) ⟨Nat.le_of_ble_eq_true rfl, Nat.le_of_ble_eq_true rfl⟩) (sx_preV hK hP (va_recv hK.1 hP (ci := 4) (q0 := 0) rfl rfl)) rfl rfl hl.1 rfl (lv_room (Nat.le_of_ble_eq_true rfl)) d_M_isInWay_38 ⟨Nat.le_of_ble_eq_true rfl, Nat.le_of_ble_eq_true rfl⟩).run (fun r_8 hr_7 => ?_)
          subst hr_7
          refine lv_if_ne (tgt := 54) hx hb d_M_isInWay_41 (by decide) (fun c_9 => ?_) (fun c_9 => ?_)
          · have c_9 : (sx_U (α 1) i p) = true := sx_bIn c_9
            refine lv_iconst (v := nI 1) hx hb d_M_isInWay_54 (by decide +kernel) ?_
            refine lv_goto (tgt := 59) hx hb d_M_isInWay_55 (by decide) ?_
            refine sx_asi (y := sx_bI true) rfl ?_
            refine lv_istore_n (lv' := [(3, .int (sx_bI true)), (4, .int (nI i)), (0, .ref (h 0)), (1, .int (nI a)), (2, .int (nI p))]) hx hb d_M_isInWay_59 rfl hl (by decide) rfl (fun ls hl => ?_)
            refine lv_iinc (v := nI (i + 1)) (lv' := [(4, .int (nI (i + 1))), (3, .int (sx_bI true)), (0, .ref (h 0)), (1, .int (nI a)), (2, .int (nI p))]) hx hb d_M_isInWay_60 hl (k := 1) rfl (nI_1 i) (by decide) rfl (fun ls hl => ?_)
            refine lv_goto (tgt := 5) hx hb d_M_isInWay_63 (by decide) ?_
            exact ih_5 (i + 1, true) (⟨by omega, by omega, sx_anyS_2 (by rw [sx_blt0 (show 0 < i by omega), sx_beq_f c_3, decide_eq_false c_6, c_9]; rfl)⟩) (by omega) ls (lv_sub hl [0, 1, 2, 3, 4] rfl)
          · have c_9 : (sx_U (α 1) i p) = false := sx_bI0 c_9
            refine lv_aload_n hx hb d_M_isInWay_44 rfl (lv_at hl 2 rfl) ?_
            refine lv_iload_n hx hb d_M_isInWay_45 rfl (lv_at hl 4 rfl) ?_
            refine lv_iload hx hb d_M_isInWay_46 (lv_at hl 0 rfl) ?_
            refine vp_callSi (va_runV (As := [.int (nI p), .int (nI i)]) (rest := []) ⟨hx, hb, hml, hown, hts⟩ (k_isUnder l D cA h most code actions isStrict letter source come declared declaredPath operations refusals triedMany tried (α 10) isOutput isThere isBroken wasThere marked n α hI.2.1 (by omega) p i (by omega) (by omega)) (cwV 2 hts (sx_GV wd_447 wd_449 ws_13 wd_5 wd_450) rfl rfl rfl (by decide +kernel) ⟨Nat.le_of_ble_eq_true rfl, Nat.le_of_ble_eq_true rfl⟩) (sx_preV hK hP (va_recv hK.1 hP (ci := 4) (q0 := 0) rfl rfl)) rfl rfl hl.1 rfl (lv_room (Nat.le_of_ble_eq_true rfl)) d_M_isInWay_48 ⟨Nat.le_of_ble_eq_true rfl, Nat.le_of_ble_eq_true rfl⟩).run (fun r_11 hr_10 => ?_)
            subst hr_10
            refine lv_if_eq (tgt := 58) hx hb d_M_isInWay_51 (by decide) (fun c_12 => ?_) (fun c_12 => ?_)
            · have c_12 : (sx_U (α 1) p i) = false := sx_bI0 c_12
              refine lv_iconst (v := nI 0) hx hb d_M_isInWay_58 (by decide +kernel) ?_
              refine sx_asi (y := sx_bI false) rfl ?_
              refine lv_istore_n (lv' := [(3, .int (sx_bI false)), (4, .int (nI i)), (0, .ref (h 0)), (1, .int (nI a)), (2, .int (nI p))]) hx hb d_M_isInWay_59 rfl hl (by decide) rfl (fun ls hl => ?_)
              refine lv_iinc (v := nI (i + 1)) (lv' := [(4, .int (nI (i + 1))), (3, .int (sx_bI false)), (0, .ref (h 0)), (1, .int (nI a)), (2, .int (nI p))]) hx hb d_M_isInWay_60 hl (k := 1) rfl (nI_1 i) (by decide) rfl (fun ls hl => ?_)
              refine lv_goto (tgt := 5) hx hb d_M_isInWay_63 (by decide) ?_
              exact ih_5 (i + 1, false) (⟨by omega, by omega, sx_anyS_0 hJ c_2 (by rw [c_9, c_12]; simp)⟩) (by omega) ls (lv_sub hl [0, 1, 2, 3, 4] rfl)
            · have c_12 : (sx_U (α 1) p i) = true := sx_bIn c_12
              refine lv_iconst (v := nI 1) hx hb d_M_isInWay_54 (by decide +kernel) ?_
              refine lv_goto (tgt := 59) hx hb d_M_isInWay_55 (by decide) ?_
              refine sx_asi (y := sx_bI true) rfl ?_
              refine lv_istore_n (lv' := [(3, .int (sx_bI true)), (4, .int (nI i)), (0, .ref (h 0)), (1, .int (nI a)), (2, .int (nI p))]) hx hb d_M_isInWay_59 rfl hl (by decide) rfl (fun ls hl => ?_)
              refine lv_iinc (v := nI (i + 1)) (lv' := [(4, .int (nI (i + 1))), (3, .int (sx_bI true)), (0, .ref (h 0)), (1, .int (nI a)), (2, .int (nI p))]) hx hb d_M_isInWay_60 hl (k := 1) rfl (nI_1 i) (by decide) rfl (fun ls hl => ?_)
              refine lv_goto (tgt := 5) hx hb d_M_isInWay_63 (by decide) ?_
              exact ih_5 (i + 1, true) (⟨by omega, by omega, sx_anyS_2 (by rw [sx_blt0 (show 0 < i by omega), sx_beq_f c_3, decide_eq_false c_6, c_9, c_12]; rfl)⟩) (by omega) ls (lv_sub hl [0, 1, 2, 3, 4] rfl)

set_option maxHeartbeats 4000000 in
set_option maxRecDepth 100000 in
theorem k_hasU (l : Launch) (D : va_G) (cA : Nat → ClassId) (h : Nat → Nat) (most : Int32) (code : Int32) (actions : Int32) (isStrict : Int32) (letter : Nat → Int32) (source : Nat → Int32) (come : Nat → Int32) (declared : Nat → Int32) (declaredPath : Nat → Int32) (operations : Nat → Int32) (refusals : Nat → Int32) (triedMany : Nat → Int32) (tried : Nat → Int32) (isOutput : Nat → Int32) (isThere : Nat → Int32) (isBroken : Nat → Int32) (wasThere : Nat → Int32) (marked : Nat → Int32) (n : Nat) (α : sx_A) (na L : Nat) (hI : sx_INV n na L α) (a : Nat) (ha : a < na) (p : Nat) (hp : p < n) : Met l y_M_hasUnder w_M_hasUnder ({ frames := 1, cells := 0, slots := 0, locals := 23 }) (sx_Pr D cA [.ref (h 0), .int (nI a), .int (nI p)] (wM cA h most code (nI n) actions isStrict (α 1) letter source come declared declaredPath operations refusals triedMany tried (α 10) isOutput isThere isBroken wasThere marked)) (vp_Si (fun r => r = sx_bI (sx_hu n α a p))) 0 0 (fun _ => False) := by
  refine Met.ofW (cc := b_M_hasUnder) (maxL := 5) (ret := (some .boolean)) (by decide) rfl ?_
  intro pG eG s m args below meth cG s₁ B hml hv
  obtain ⟨rfl, hP, hK⟩ := hv
  have hx := B.exec
  have hb := B.bytes
  have hr := B.returns
  have hts0 := atoms_spec (ws := w_M_hasUnder) B.pre
  have hts : ∀ w ∈ sx_gw, w.before _ s = true := fun w h => hts0 w (List.mem_cons_of_mem _ h)
  have hown : s.vm.findClass R_M = some m.cls := findClass_of_methodNamed B.named
  have hlocks := B.notSynchronized
  have hl := lv_entry ([.ref (h 0), .int (nI a), .int (nI p)]) (n := 5) (Nat.le_of_ble_eq_true rfl)
  rw [lg_entry_eq]
  generalize (lg_sl ([.ref (h 0), .int (nI a), .int (nI p)]) ++ List.replicate (5 - (lg_sl ([.ref (h 0), .int (nI a), .int (nI p)])).length) Slot.unset).toArray = ls at hl ⊢
  have hl : lv_has ls 5 [(0, .ref (h 0)), (1, .int (nI a)), (2, .int (nI p))] := hl
  have hn31 := sx_INV_n hI
  have hn60 := hI.1.1.2
  have h1n := hI.1.1.1
  have hna := hI.1.2.1
  refine lv_iconst (v := nI 0) hx hb d_M_hasUnder_0 (by decide +kernel) ?_
  refine sx_asi (y := sx_bI false) rfl ?_
  refine lv_istore_n (lv' := [(3, .int (sx_bI false)), (0, .ref (h 0)), (1, .int (nI a)), (2, .int (nI p))]) hx hb d_M_hasUnder_1 rfl hl (by decide) rfl (fun ls hl => ?_)
  refine lv_iconst (v := nI 1) hx hb d_M_hasUnder_2 (by decide +kernel) ?_
  refine lv_istore (lv' := [(4, .int (nI 1)), (3, .int (sx_bI false)), (0, .ref (h 0)), (1, .int (nI a)), (2, .int (nI p))]) hx hb d_M_hasUnder_3 hl (by decide) rfl (fun ls hl => ?_)
  refine sx_loop (σ := Nat × Bool) (fun x => 1 ≤ x.1 ∧ x.1 ≤ n ∧ x.2 = sx_any (fun k => Nat.blt 0 k && (!decide (α 10 (60 * a + k) = 0) && sx_U (α 1) k p)) x.1) (fun x => [(4, .int (nI x.1)), (3, .int (sx_bI x.2)), (0, .ref (h 0)), (1, .int (nI a)), (2, .int (nI p))]) (fun x => n - x.1) (1, false) (⟨by omega, by omega, rfl⟩) (lv_sub hl [0, 1, 2, 3, 4] rfl) (fun x hJ ih ls hl => ?_)
  obtain ⟨i, b⟩ := x
  obtain ⟨hi1, hin, hJ⟩ := hJ
  have hl : lv_has ls 5 [(4, .int (nI i)), (3, .int (sx_bI b)), (0, .ref (h 0)), (1, .int (nI a)), (2, .int (nI p))] := hl
  have ih_5 := ih
  refine lv_iload hx hb d_M_hasUnder_5 (lv_at hl 0 rfl) ?_
  refine lv_aload_n hx hb d_M_hasUnder_7 rfl (lv_at hl 2 rfl) ?_
  refine va_get (D := D) (ci := 4) (v := .int (nI n)) (C := R_M) (T := T_M) (N := 21) hx hb hts iw_M hown hK.1 hP 0 rfl rfl 2 (by decide) (hts _ wd_366) (fun _ h9 => h9) rfl d_M_hasUnder_8 ?_
  refine lv_icmp_ge (tgt := 50) hx hb d_M_hasUnder_11 (by decide) (fun c_1 => ?_) (fun c_1 => ?_)
  · have c_1 : n ≤ i := (nI_leI (by omega) (by omega)).mp c_1
    refine lv_iload_n hx hb d_M_hasUnder_50 rfl (lv_at hl 1 rfl) ?_
    exact W.zret (v := sx_bI b) (ty := .boolean) hx hb hr (sx_bI_nar _) (fun t ht hW => ⟨sx_bI b, rfl, sx_anyR hJ (show i = n by omega), ht⟩) (fun _ h => by cases h) d_M_hasUnder_51
  · have c_1 : i < n := Nat.not_le.mp (fun z => c_1 ((nI_leI (by omega) (by omega)).mpr z))
    refine lv_iload_n hx hb d_M_hasUnder_14 rfl (lv_at hl 1 rfl) ?_
    refine lv_if_ne (tgt := 38) hx hb d_M_hasUnder_15 (by decide) (fun c_2 => ?_) (fun c_2 => ?_)
    · have c_2 : b = true := sx_bIn c_2
      refine lv_iconst (v := nI 1) hx hb d_M_hasUnder_38 (by decide +kernel) ?_
      refine lv_goto (tgt := 43) hx hb d_M_hasUnder_39 (by decide) ?_
      refine sx_asi (y := sx_bI true) rfl ?_
      refine lv_istore_n (lv' := [(3, .int (sx_bI true)), (4, .int (nI i)), (0, .ref (h 0)), (1, .int (nI a)), (2, .int (nI p))]) hx hb d_M_hasUnder_43 rfl hl (by decide) rfl (fun ls hl => ?_)
      refine lv_iinc (v := nI (i + 1)) (lv' := [(4, .int (nI (i + 1))), (3, .int (sx_bI true)), (0, .ref (h 0)), (1, .int (nI a)), (2, .int (nI p))]) hx hb d_M_hasUnder_44 hl (k := 1) rfl (nI_1 i) (by decide) rfl (fun ls hl => ?_)
      refine lv_goto (tgt := 5) hx hb d_M_hasUnder_47 (by decide) ?_
      exact ih_5 (i + 1, true) (⟨by omega, by omega, sx_anyS_1 hJ c_2⟩) (by omega) ls (lv_sub hl [0, 1, 2, 3, 4] rfl)
    · have c_2 : b = false := sx_bI0 c_2
      refine lv_aload_n hx hb d_M_hasUnder_18 rfl (lv_at hl 2 rfl) ?_
      refine lv_iload_n hx hb d_M_hasUnder_19 rfl (lv_at hl 3 rfl) ?_
      refine lv_iload hx hb d_M_hasUnder_20 (lv_at hl 0 rfl) ?_
      refine vp_callSi (va_runV (As := [.int (nI a), .int (nI i)]) (rest := []) ⟨hx, hb, hml, hown, hts⟩ (k_at l D cA h most code actions isStrict (α 1) letter source come declared declaredPath operations refusals triedMany tried (α 10) isOutput isThere isBroken wasThere marked n α a i (by omega) (by omega)) (cwV 2 hts (sx_GV wd_491 wd_493 ws_18 wd_5 wd_494) rfl rfl rfl (by decide +kernel) ⟨Nat.le_of_ble_eq_true rfl, Nat.le_of_ble_eq_true rfl⟩) (sx_preV hK hP (va_recv hK.1 hP (ci := 4) (q0 := 0) rfl rfl)) rfl rfl hl.1 rfl (lv_room (Nat.le_of_ble_eq_true rfl)) d_M_hasUnder_22 ⟨Nat.le_of_ble_eq_true rfl, Nat.le_of_ble_eq_true rfl⟩).run (fun r_4 hr_3 => ?_)
      subst hr_3
      refine lv_if_eq (tgt := 42) hx hb d_M_hasUnder_25 (by decide) (fun c_5 => ?_) (fun c_5 => ?_)
      · refine lv_iconst (v := nI 0) hx hb d_M_hasUnder_42 (by decide +kernel) ?_
        refine sx_asi (y := sx_bI false) rfl ?_
        refine lv_istore_n (lv' := [(3, .int (sx_bI false)), (4, .int (nI i)), (0, .ref (h 0)), (1, .int (nI a)), (2, .int (nI p))]) hx hb d_M_hasUnder_43 rfl hl (by decide) rfl (fun ls hl => ?_)
        refine lv_iinc (v := nI (i + 1)) (lv' := [(4, .int (nI (i + 1))), (3, .int (sx_bI false)), (0, .ref (h 0)), (1, .int (nI a)), (2, .int (nI p))]) hx hb d_M_hasUnder_44 hl (k := 1) rfl (nI_1 i) (by decide) rfl (fun ls hl => ?_)
        refine lv_goto (tgt := 5) hx hb d_M_hasUnder_47 (by decide) ?_
        exact ih_5 (i + 1, false) (⟨by omega, by omega, sx_anyS_0 hJ c_2 (by rw [decide_eq_true c_5]; simp)⟩) (by omega) ls (lv_sub hl [0, 1, 2, 3, 4] rfl)
      · refine lv_aload_n hx hb d_M_hasUnder_28 rfl (lv_at hl 2 rfl) ?_
        refine lv_iload hx hb d_M_hasUnder_29 (lv_at hl 0 rfl) ?_
        refine lv_iload_n hx hb d_M_hasUnder_31 rfl (lv_at hl 4 rfl) ?_
        refine vp_callSi (va_runV (As := [.int (nI i), .int (nI p)]) (rest := []) ⟨hx, hb, hml, hown, hts⟩ (k_isUnder l D cA h most code actions isStrict letter source come declared declaredPath operations refusals triedMany tried (α 10) isOutput isThere isBroken wasThere marked n α hI.2.1 (by omega) i p (by omega) (by omega)) (cwV 2 hts (sx_GV wd_447 wd_449 ws_13 wd_5 wd_450) rfl rfl rfl (by decide +kernel) ⟨Nat.le_of_ble_eq_true rfl, Nat.le_of_ble_eq_true rfl⟩) (sx_preV hK hP (va_recv hK.1 hP (ci := 4) (q0 := 0) rfl rfl)) rfl rfl hl.1 rfl (lv_room (Nat.le_of_ble_eq_true rfl)) d_M_hasUnder_32 ⟨Nat.le_of_ble_eq_true rfl, Nat.le_of_ble_eq_true rfl⟩).run (fun r_7 hr_6 => ?_)
        subst hr_6
        refine lv_if_eq (tgt := 42) hx hb d_M_hasUnder_35 (by decide) (fun c_8 => ?_) (fun c_8 => ?_)
        · have c_8 : (sx_U (α 1) i p) = false := sx_bI0 c_8
          refine lv_iconst (v := nI 0) hx hb d_M_hasUnder_42 (by decide +kernel) ?_
          refine sx_asi (y := sx_bI false) rfl ?_
          refine lv_istore_n (lv' := [(3, .int (sx_bI false)), (4, .int (nI i)), (0, .ref (h 0)), (1, .int (nI a)), (2, .int (nI p))]) hx hb d_M_hasUnder_43 rfl hl (by decide) rfl (fun ls hl => ?_)
          refine lv_iinc (v := nI (i + 1)) (lv' := [(4, .int (nI (i + 1))), (3, .int (sx_bI false)), (0, .ref (h 0)), (1, .int (nI a)), (2, .int (nI p))]) hx hb d_M_hasUnder_44 hl (k := 1) rfl (nI_1 i) (by decide) rfl (fun ls hl => ?_)
          refine lv_goto (tgt := 5) hx hb d_M_hasUnder_47 (by decide) ?_
          exact ih_5 (i + 1, false) (⟨by omega, by omega, sx_anyS_0 hJ c_2 (by rw [c_8]; simp)⟩) (by omega) ls (lv_sub hl [0, 1, 2, 3, 4] rfl)
        · have c_8 : (sx_U (α 1) i p) = true := sx_bIn c_8
          refine lv_iconst (v := nI 1) hx hb d_M_hasUnder_38 (by decide +kernel) ?_
          refine lv_goto (tgt := 43) hx hb d_M_hasUnder_39 (by decide) ?_
          refine sx_asi (y := sx_bI true) rfl ?_
          refine lv_istore_n (lv' := [(3, .int (sx_bI true)), (4, .int (nI i)), (0, .ref (h 0)), (1, .int (nI a)), (2, .int (nI p))]) hx hb d_M_hasUnder_43 rfl hl (by decide) rfl (fun ls hl => ?_)
          refine lv_iinc (v := nI (i + 1)) (lv' := [(4, .int (nI (i + 1))), (3, .int (sx_bI true)), (0, .ref (h 0)), (1, .int (nI a)), (2, .int (nI p))]) hx hb d_M_hasUnder_44 hl (k := 1) rfl (nI_1 i) (by decide) rfl (fun ls hl => ?_)
          refine lv_goto (tgt := 5) hx hb d_M_hasUnder_47 (by decide) ?_
          exact ih_5 (i + 1, true) (⟨by omega, by omega, sx_anyS_2 (by rw [sx_blt0 (show 0 < i by omega), decide_eq_false c_5, c_8]; rfl)⟩) (by omega) ls (lv_sub hl [0, 1, 2, 3, 4] rfl)

set_option maxHeartbeats 4000000 in
set_option maxRecDepth 100000 in
theorem k_looseM (l : Launch) (D : va_G) (cA : Nat → ClassId) (h : Nat → Nat) (most : Int32) (code : Int32) (actions : Int32) (isStrict : Int32) (letter : Nat → Int32) (source : Nat → Int32) (come : Nat → Int32) (declared : Nat → Int32) (declaredPath : Nat → Int32) (operations : Nat → Int32) (refusals : Nat → Int32) (triedMany : Nat → Int32) (tried : Nat → Int32) (isOutput : Nat → Int32) (isThere : Nat → Int32) (isBroken : Nat → Int32) (wasThere : Nat → Int32) (marked : Nat → Int32) (n : Nat) (α : sx_A) (na L : Nat) (hI : sx_INV n na L α) (a : Nat) (ha : a < na) (p : Nat) (hp : p < n) : Met l y_M_isLoose w_M_isLoose ({ frames := 2, cells := 0, slots := 0, locals := 46 }) (sx_Pr D cA [.ref (h 0), .int (nI a), .int (nI p)] (wM cA h most code (nI n) actions isStrict (α 1) letter source come declared declaredPath operations refusals triedMany tried (α 10) isOutput isThere isBroken wasThere marked)) (vp_Si (fun r => r = sx_bI (sx_loose n α a p))) 0 0 (fun _ => False) := by
  refine Met.ofW (cc := b_M_isLoose) (maxL := 5) (ret := (some .boolean)) (by decide) rfl ?_
  intro pG eG s m args below meth cG s₁ B hml hv
  obtain ⟨rfl, hP, hK⟩ := hv
  have hx := B.exec
  have hb := B.bytes
  have hr := B.returns
  have hts0 := atoms_spec (ws := w_M_isLoose) B.pre
  have hts : ∀ w ∈ sx_gw, w.before _ s = true := fun w h => hts0 w (List.mem_cons_of_mem _ h)
  have hown : s.vm.findClass R_M = some m.cls := findClass_of_methodNamed B.named
  have hlocks := B.notSynchronized
  have hl := lv_entry ([.ref (h 0), .int (nI a), .int (nI p)]) (n := 5) (Nat.le_of_ble_eq_true rfl)
  rw [lg_entry_eq]
  generalize (lg_sl ([.ref (h 0), .int (nI a), .int (nI p)]) ++ List.replicate (5 - (lg_sl ([.ref (h 0), .int (nI a), .int (nI p)])).length) Slot.unset).toArray = ls at hl ⊢
  have hl : lv_has ls 5 [(0, .ref (h 0)), (1, .int (nI a)), (2, .int (nI p))] := hl
  have hn31 := sx_INV_n hI
  have hn60 := hI.1.1.2
  have h1n := hI.1.1.1
  have hna := hI.1.2.1
  refine lv_iconst (v := nI 0) hx hb d_M_isLoose_0 (by decide +kernel) ?_
  refine sx_asi (y := sx_bI false) rfl ?_
  refine lv_istore_n (lv' := [(3, .int (sx_bI false)), (0, .ref (h 0)), (1, .int (nI a)), (2, .int (nI p))]) hx hb d_M_isLoose_1 rfl hl (by decide) rfl (fun ls hl => ?_)
  refine lv_iconst (v := nI 1) hx hb d_M_isLoose_2 (by decide +kernel) ?_
  refine lv_istore (lv' := [(4, .int (nI 1)), (3, .int (sx_bI false)), (0, .ref (h 0)), (1, .int (nI a)), (2, .int (nI p))]) hx hb d_M_isLoose_3 hl (by decide) rfl (fun ls hl => ?_)
  refine sx_loop (σ := Nat × Bool) (fun x => 1 ≤ x.1 ∧ x.1 ≤ n ∧ x.2 = sx_any (fun k => Nat.blt 0 k && (decide (α 10 (60 * a + k) < 0) && (sx_U (α 1) k p && decide (sx_lead α a k = 0)))) x.1) (fun x => [(4, .int (nI x.1)), (3, .int (sx_bI x.2)), (0, .ref (h 0)), (1, .int (nI a)), (2, .int (nI p))]) (fun x => n - x.1) (1, false) (⟨by omega, by omega, rfl⟩) (lv_sub hl [0, 1, 2, 3, 4] rfl) (fun x hJ ih ls hl => ?_)
  obtain ⟨i, b⟩ := x
  obtain ⟨hi1, hin, hJ⟩ := hJ
  have hl : lv_has ls 5 [(4, .int (nI i)), (3, .int (sx_bI b)), (0, .ref (h 0)), (1, .int (nI a)), (2, .int (nI p))] := hl
  have ih_5 := ih
  refine lv_iload hx hb d_M_isLoose_5 (lv_at hl 0 rfl) ?_
  refine lv_aload_n hx hb d_M_isLoose_7 rfl (lv_at hl 2 rfl) ?_
  refine va_get (D := D) (ci := 4) (v := .int (nI n)) (C := R_M) (T := T_M) (N := 21) hx hb hts iw_M hown hK.1 hP 0 rfl rfl 2 (by decide) (hts _ wd_366) (fun _ h9 => h9) rfl d_M_isLoose_8 ?_
  refine lv_icmp_ge (tgt := 60) hx hb d_M_isLoose_11 (by decide) (fun c_1 => ?_) (fun c_1 => ?_)
  · have c_1 : n ≤ i := (nI_leI (by omega) (by omega)).mp c_1
    refine lv_iload_n hx hb d_M_isLoose_60 rfl (lv_at hl 1 rfl) ?_
    exact W.zret (v := sx_bI b) (ty := .boolean) hx hb hr (sx_bI_nar _) (fun t ht hW => ⟨sx_bI b, rfl, sx_anyR hJ (show i = n by omega), ht⟩) (fun _ h => by cases h) d_M_isLoose_61
  · have c_1 : i < n := Nat.not_le.mp (fun z => c_1 ((nI_leI (by omega) (by omega)).mpr z))
    refine lv_iload_n hx hb d_M_isLoose_14 rfl (lv_at hl 1 rfl) ?_
    refine lv_if_ne (tgt := 48) hx hb d_M_isLoose_15 (by decide) (fun c_2 => ?_) (fun c_2 => ?_)
    · have c_2 : b = true := sx_bIn c_2
      refine lv_iconst (v := nI 1) hx hb d_M_isLoose_48 (by decide +kernel) ?_
      refine lv_goto (tgt := 53) hx hb d_M_isLoose_49 (by decide) ?_
      refine sx_asi (y := sx_bI true) rfl ?_
      refine lv_istore_n (lv' := [(3, .int (sx_bI true)), (4, .int (nI i)), (0, .ref (h 0)), (1, .int (nI a)), (2, .int (nI p))]) hx hb d_M_isLoose_53 rfl hl (by decide) rfl (fun ls hl => ?_)
      refine lv_iinc (v := nI (i + 1)) (lv' := [(4, .int (nI (i + 1))), (3, .int (sx_bI true)), (0, .ref (h 0)), (1, .int (nI a)), (2, .int (nI p))]) hx hb d_M_isLoose_54 hl (k := 1) rfl (nI_1 i) (by decide) rfl (fun ls hl => ?_)
      refine lv_goto (tgt := 5) hx hb d_M_isLoose_57 (by decide) ?_
      exact ih_5 (i + 1, true) (⟨by omega, by omega, sx_anyS_1 hJ c_2⟩) (by omega) ls (lv_sub hl [0, 1, 2, 3, 4] rfl)
    · have c_2 : b = false := sx_bI0 c_2
      refine lv_aload_n hx hb d_M_isLoose_18 rfl (lv_at hl 2 rfl) ?_
      refine lv_iload_n hx hb d_M_isLoose_19 rfl (lv_at hl 3 rfl) ?_
      refine lv_iload hx hb d_M_isLoose_20 (lv_at hl 0 rfl) ?_
      refine vp_callSi (va_runV (As := [.int (nI a), .int (nI i)]) (rest := []) ⟨hx, hb, hml, hown, hts⟩ (k_at l D cA h most code actions isStrict (α 1) letter source come declared declaredPath operations refusals triedMany tried (α 10) isOutput isThere isBroken wasThere marked n α a i (by omega) (by omega)) (cwV 2 hts (sx_GV wd_491 wd_493 ws_18 wd_5 wd_494) rfl rfl rfl (by decide +kernel) ⟨Nat.le_of_ble_eq_true rfl, Nat.le_of_ble_eq_true rfl⟩) (sx_preV hK hP (va_recv hK.1 hP (ci := 4) (q0 := 0) rfl rfl)) rfl rfl hl.1 rfl (lv_room (Nat.le_of_ble_eq_true rfl)) d_M_isLoose_22 ⟨Nat.le_of_ble_eq_true rfl, Nat.le_of_ble_eq_true rfl⟩).run (fun r_4 hr_3 => ?_)
      subst hr_3
      refine lv_if_ge (tgt := 52) hx hb d_M_isLoose_25 (by decide) (fun c_5 => ?_) (fun c_5 => ?_)
      · refine lv_iconst (v := nI 0) hx hb d_M_isLoose_52 (by decide +kernel) ?_
        refine sx_asi (y := sx_bI false) rfl ?_
        refine lv_istore_n (lv' := [(3, .int (sx_bI false)), (4, .int (nI i)), (0, .ref (h 0)), (1, .int (nI a)), (2, .int (nI p))]) hx hb d_M_isLoose_53 rfl hl (by decide) rfl (fun ls hl => ?_)
        refine lv_iinc (v := nI (i + 1)) (lv' := [(4, .int (nI (i + 1))), (3, .int (sx_bI false)), (0, .ref (h 0)), (1, .int (nI a)), (2, .int (nI p))]) hx hb d_M_isLoose_54 hl (k := 1) rfl (nI_1 i) (by decide) rfl (fun ls hl => ?_)
        refine lv_goto (tgt := 5) hx hb d_M_isLoose_57 (by decide) ?_
        exact ih_5 (i + 1, false) (⟨by omega, by omega, sx_anyS_0 hJ c_2 (by rw [decide_eq_false (Int32.not_lt.mpr c_5)]; simp)⟩) (by omega) ls (lv_sub hl [0, 1, 2, 3, 4] rfl)
      · refine lv_aload_n hx hb d_M_isLoose_28 rfl (lv_at hl 2 rfl) ?_
        refine lv_iload hx hb d_M_isLoose_29 (lv_at hl 0 rfl) ?_
        refine lv_iload_n hx hb d_M_isLoose_31 rfl (lv_at hl 4 rfl) ?_
        refine vp_callSi (va_runV (As := [.int (nI i), .int (nI p)]) (rest := []) ⟨hx, hb, hml, hown, hts⟩ (k_isUnder l D cA h most code actions isStrict letter source come declared declaredPath operations refusals triedMany tried (α 10) isOutput isThere isBroken wasThere marked n α hI.2.1 (by omega) i p (by omega) (by omega)) (cwV 2 hts (sx_GV wd_447 wd_449 ws_13 wd_5 wd_450) rfl rfl rfl (by decide +kernel) ⟨Nat.le_of_ble_eq_true rfl, Nat.le_of_ble_eq_true rfl⟩) (sx_preV hK hP (va_recv hK.1 hP (ci := 4) (q0 := 0) rfl rfl)) rfl rfl hl.1 rfl (lv_room (Nat.le_of_ble_eq_true rfl)) d_M_isLoose_32 ⟨Nat.le_of_ble_eq_true rfl, Nat.le_of_ble_eq_true rfl⟩).run (fun r_7 hr_6 => ?_)
        subst hr_6
        refine lv_if_eq (tgt := 52) hx hb d_M_isLoose_35 (by decide) (fun c_8 => ?_) (fun c_8 => ?_)
        · have c_8 : (sx_U (α 1) i p) = false := sx_bI0 c_8
          refine lv_iconst (v := nI 0) hx hb d_M_isLoose_52 (by decide +kernel) ?_
          refine sx_asi (y := sx_bI false) rfl ?_
          refine lv_istore_n (lv' := [(3, .int (sx_bI false)), (4, .int (nI i)), (0, .ref (h 0)), (1, .int (nI a)), (2, .int (nI p))]) hx hb d_M_isLoose_53 rfl hl (by decide) rfl (fun ls hl => ?_)
          refine lv_iinc (v := nI (i + 1)) (lv' := [(4, .int (nI (i + 1))), (3, .int (sx_bI false)), (0, .ref (h 0)), (1, .int (nI a)), (2, .int (nI p))]) hx hb d_M_isLoose_54 hl (k := 1) rfl (nI_1 i) (by decide) rfl (fun ls hl => ?_)
          refine lv_goto (tgt := 5) hx hb d_M_isLoose_57 (by decide) ?_
          exact ih_5 (i + 1, false) (⟨by omega, by omega, sx_anyS_0 hJ c_2 (by rw [c_8]; simp)⟩) (by omega) ls (lv_sub hl [0, 1, 2, 3, 4] rfl)
        · have c_8 : (sx_U (α 1) i p) = true := sx_bIn c_8
          refine lv_aload_n hx hb d_M_isLoose_38 rfl (lv_at hl 2 rfl) ?_
          refine lv_iload_n hx hb d_M_isLoose_39 rfl (lv_at hl 3 rfl) ?_
          refine lv_iload hx hb d_M_isLoose_40 (lv_at hl 0 rfl) ?_
          refine vp_callSi (va_runV (As := [.int (nI a), .int (nI i)]) (rest := []) ⟨hx, hb, hml, hown, hts⟩ (k_leadsM l D cA h most code actions isStrict (α 1) letter source come declared declaredPath operations refusals triedMany tried isOutput isThere isBroken wasThere marked n α na L hI a (by omega) i (by omega)) (cwV 2 hts (sx_GV wd_487 wd_489 ws_17 wd_5 wd_490) rfl rfl rfl (by decide +kernel) ⟨Nat.le_of_ble_eq_true rfl, Nat.le_of_ble_eq_true rfl⟩) (sx_preV hK hP (va_recv hK.1 hP (ci := 4) (q0 := 0) rfl rfl)) rfl rfl hl.1 rfl (lv_room (Nat.le_of_ble_eq_true rfl)) d_M_isLoose_42 ⟨Nat.le_of_ble_eq_true rfl, Nat.le_of_ble_eq_true rfl⟩).run (fun r_10 hr_9 => ?_)
          subst hr_9
          refine lv_if_ne (tgt := 52) hx hb d_M_isLoose_45 (by decide) (fun c_11 => ?_) (fun c_11 => ?_)
          · refine lv_iconst (v := nI 0) hx hb d_M_isLoose_52 (by decide +kernel) ?_
            refine sx_asi (y := sx_bI false) rfl ?_
            refine lv_istore_n (lv' := [(3, .int (sx_bI false)), (4, .int (nI i)), (0, .ref (h 0)), (1, .int (nI a)), (2, .int (nI p))]) hx hb d_M_isLoose_53 rfl hl (by decide) rfl (fun ls hl => ?_)
            refine lv_iinc (v := nI (i + 1)) (lv' := [(4, .int (nI (i + 1))), (3, .int (sx_bI false)), (0, .ref (h 0)), (1, .int (nI a)), (2, .int (nI p))]) hx hb d_M_isLoose_54 hl (k := 1) rfl (nI_1 i) (by decide) rfl (fun ls hl => ?_)
            refine lv_goto (tgt := 5) hx hb d_M_isLoose_57 (by decide) ?_
            exact ih_5 (i + 1, false) (⟨by omega, by omega, sx_anyS_0 hJ c_2 (by rw [decide_eq_false c_11]; simp)⟩) (by omega) ls (lv_sub hl [0, 1, 2, 3, 4] rfl)
          · refine lv_iconst (v := nI 1) hx hb d_M_isLoose_48 (by decide +kernel) ?_
            refine lv_goto (tgt := 53) hx hb d_M_isLoose_49 (by decide) ?_
            refine sx_asi (y := sx_bI true) rfl ?_
            refine lv_istore_n (lv' := [(3, .int (sx_bI true)), (4, .int (nI i)), (0, .ref (h 0)), (1, .int (nI a)), (2, .int (nI p))]) hx hb d_M_isLoose_53 rfl hl (by decide) rfl (fun ls hl => ?_)
            refine lv_iinc (v := nI (i + 1)) (lv' := [(4, .int (nI (i + 1))), (3, .int (sx_bI true)), (0, .ref (h 0)), (1, .int (nI a)), (2, .int (nI p))]) hx hb d_M_isLoose_54 hl (k := 1) rfl (nI_1 i) (by decide) rfl (fun ls hl => ?_)
            refine lv_goto (tgt := 5) hx hb d_M_isLoose_57 (by decide) ?_
            exact ih_5 (i + 1, true) (⟨by omega, by omega, sx_anyS_2 (by rw [sx_blt0 (show 0 < i by omega), decide_eq_true (Int32.not_le.mp c_5), c_8, decide_eq_true c_11]; rfl)⟩) (by omega) ls (lv_sub hl [0, 1, 2, 3, 4] rfl)
