set_option maxHeartbeats 4000000 in
set_option maxRecDepth 100000 in
theorem k_clM (l : Launch) (D : va_G) (cA : Nat → ClassId) (h : Nat → Nat) (most : Int32) (code : Int32) (actions : Int32) (isStrict : Int32) (source : Nat → Int32) (come : Nat → Int32) (declared : Nat → Int32) (declaredPath : Nat → Int32) (operations : Nat → Int32) (refusals : Nat → Int32) (triedMany : Nat → Int32) (tried : Nat → Int32) (world : Nat → Int32) (isOutput : Nat → Int32) (isThere : Nat → Int32) (isBroken : Nat → Int32) (wasThere : Nat → Int32) (marked : Nat → Int32) (n : Nat) (α : sx_A) (a : Nat) (hn : n ≤ 60) (h1n : 1 ≤ n) (hmk : ∀ q, q < 60 → marked q = sx_bI (sx_mk n α a q)) : Met l y_M_clashes w_M_clashes ({ frames := 1, cells := 0, slots := 0, locals := 20 }) (sx_Pr D cA [.ref (h 0)] (wM cA h most code (nI n) actions isStrict (α 1) (α 2) source come declared declaredPath operations refusals triedMany tried world isOutput isThere isBroken wasThere marked)) (vp_Si (fun r => r = sx_bI (sx_cl n α a))) 0 0 (fun _ => False) := by
  refine Met.ofW (cc := b_M_clashes) (maxL := 4) (ret := (some .boolean)) (by decide) rfl ?_
  intro pG eG s m args below meth cG s₁ B hml hv
  obtain ⟨rfl, hP, hK⟩ := hv
  have hx := B.exec
  have hb := B.bytes
  have hr := B.returns
  have hts0 := atoms_spec (ws := w_M_clashes) B.pre
  have hts : ∀ w ∈ sx_gw, w.before _ s = true := fun w h => hts0 w (List.mem_cons_of_mem _ h)
  have hown : s.vm.findClass R_M = some m.cls := findClass_of_methodNamed B.named
  have hlocks := B.notSynchronized
  have hl := lv_entry ([.ref (h 0)]) (n := 4) (Nat.le_of_ble_eq_true rfl)
  rw [lg_entry_eq]
  generalize (lg_sl ([.ref (h 0)]) ++ List.replicate (4 - (lg_sl ([.ref (h 0)])).length) Slot.unset).toArray = ls at hl ⊢
  have hl : lv_has ls 4 [(0, .ref (h 0))] := hl
  refine lv_iconst (v := nI 0) hx hb d_M_clashes_0 (by decide +kernel) ?_
  refine sx_asi (y := sx_bI false) rfl ?_
  refine lv_istore_n (lv' := [(1, .int (sx_bI false)), (0, .ref (h 0))]) hx hb d_M_clashes_1 rfl hl (by decide) rfl (fun ls hl => ?_)
  refine lv_iconst (v := nI 1) hx hb d_M_clashes_2 (by decide +kernel) ?_
  refine lv_istore_n (lv' := [(2, .int (nI 1)), (1, .int (sx_bI false)), (0, .ref (h 0))]) hx hb d_M_clashes_3 rfl hl (by decide) rfl (fun ls hl => ?_)
  refine sx_loop (σ := Nat × Bool) (fun x => 1 ≤ x.1 ∧ x.1 ≤ n ∧ x.2 = sx_any (sx_clP n α a) x.1) (fun x => [(2, .int (nI x.1)), (1, .int (sx_bI x.2)), (0, .ref (h 0))]) (fun x => n - x.1) (1, false) (⟨by omega, by omega, rfl⟩) (lv_sub hl [0, 1, 2] rfl) (fun x hJ ih ls hl => ?_)
  obtain ⟨p, b⟩ := x
  obtain ⟨hp1, hpn, hb1⟩ := hJ
  have hl : lv_has ls 4 [(2, .int (nI p)), (1, .int (sx_bI b)), (0, .ref (h 0))] := hl
  have ih_4 := ih
  refine lv_iload_n hx hb d_M_clashes_4 rfl (lv_at hl 0 rfl) ?_
  refine lv_aload_n hx hb d_M_clashes_5 rfl (lv_at hl 2 rfl) ?_
  refine va_get (D := D) (ci := 4) (v := .int (nI n)) (C := R_M) (T := T_M) (N := 21) hx hb hts iw_M hown hK.1 hP 0 rfl rfl 2 (by decide) (hts _ wd_366) (fun _ h9 => h9) rfl d_M_clashes_6 ?_
  refine lv_icmp_ge (tgt := 95) hx hb d_M_clashes_9 (by decide) (fun c_1 => ?_) (fun c_1 => ?_)
  · have c_1 : n ≤ p := (nI_leI (by omega) (by omega)).mp c_1
    refine lv_iload_n hx hb d_M_clashes_95 rfl (lv_at hl 1 rfl) ?_
    exact W.zret (v := sx_bI b) (ty := .boolean) hx hb hr (sx_bI_nar _) (fun t ht hW => ⟨sx_bI b, rfl, sx_anyR hb1 (show p = n by omega), ht⟩) (fun _ h => by cases h) d_M_clashes_96
  · have c_1 : p < n := Nat.not_le.mp (fun z => c_1 ((nI_leI (by omega) (by omega)).mpr z))
    refine lv_iconst (v := nI 1) hx hb d_M_clashes_12 (by decide +kernel) ?_
    refine lv_istore_n (lv' := [(3, .int (nI 1)), (2, .int (nI p)), (1, .int (sx_bI b)), (0, .ref (h 0))]) hx hb d_M_clashes_13 rfl hl (by decide) rfl (fun ls hl => ?_)
    refine sx_loop (σ := Nat × Bool) (fun x => 1 ≤ x.1 ∧ x.1 ≤ p ∧ x.2 = (sx_any (sx_clP n α a) p || sx_any (sx_clG n α a p) x.1)) (fun x => [(3, .int (nI x.1)), (2, .int (nI p)), (1, .int (sx_bI x.2)), (0, .ref (h 0))]) (fun x => p - x.1) (1, b) (⟨by omega, by omega, sx_cl_i hb1⟩) (lv_sub hl [0, 1, 2, 3] rfl) (fun x hJ ih ls hl => ?_)
    obtain ⟨k, c⟩ := x
    obtain ⟨hk1, hkp, hc⟩ := hJ
    have hl : lv_has ls 4 [(3, .int (nI k)), (2, .int (nI p)), (1, .int (sx_bI c)), (0, .ref (h 0))] := hl
    have ih_14 := ih
    refine lv_iload_n hx hb d_M_clashes_14 rfl (lv_at hl 0 rfl) ?_
    refine lv_iload_n hx hb d_M_clashes_15 rfl (lv_at hl 1 rfl) ?_
    refine lv_icmp_ge (tgt := 89) hx hb d_M_clashes_16 (by decide) (fun c_2 => ?_) (fun c_2 => ?_)
    · have c_2 : p ≤ k := (nI_leI (by omega) (by omega)).mp c_2
      refine lv_iinc (v := nI (p + 1)) (lv' := [(2, .int (nI (p + 1))), (3, .int (nI k)), (1, .int (sx_bI c)), (0, .ref (h 0))]) hx hb d_M_clashes_89 hl (k := 1) rfl (nI_1 p) (by decide) rfl (fun ls hl => ?_)
      refine lv_goto (tgt := 4) hx hb d_M_clashes_92 (by decide) ?_
      exact ih_4 (p + 1, c) (⟨by omega, by omega, sx_cl_o (by omega) (show k = p by omega) hc⟩) (by omega) ls (lv_sub hl [0, 2, 3] rfl)
    · have c_2 : k < p := Nat.not_le.mp (fun z => c_2 ((nI_leI (by omega) (by omega)).mpr z))
      refine lv_iload_n hx hb d_M_clashes_19 rfl (lv_at hl 2 rfl) ?_
      refine lv_if_ne (tgt := 77) hx hb d_M_clashes_20 (by decide) (fun c_3 => ?_) (fun c_3 => ?_)
      · have c_3 : c = true := sx_bIn c_3
        refine lv_iconst (v := nI 1) hx hb d_M_clashes_77 (by decide +kernel) ?_
        refine lv_goto (tgt := 82) hx hb d_M_clashes_78 (by decide) ?_
        refine sx_asi (y := sx_bI true) rfl ?_
        refine lv_istore_n (lv' := [(1, .int (sx_bI true)), (3, .int (nI k)), (2, .int (nI p)), (0, .ref (h 0))]) hx hb d_M_clashes_82 rfl hl (by decide) rfl (fun ls hl => ?_)
        refine lv_iinc (v := nI (k + 1)) (lv' := [(3, .int (nI (k + 1))), (1, .int (sx_bI true)), (2, .int (nI p)), (0, .ref (h 0))]) hx hb d_M_clashes_83 hl (k := 1) rfl (nI_1 k) (by decide) rfl (fun ls hl => ?_)
        refine lv_goto (tgt := 14) hx hb d_M_clashes_86 (by decide) ?_
        exact ih_14 (k + 1, true) (⟨by omega, by omega, sx_or1 hc c_3⟩) (by omega) ls (lv_sub hl [0, 2, 1, 3] rfl)
      · have c_3 : c = false := sx_bI0 c_3
        refine lv_aload_n hx hb d_M_clashes_23 rfl (lv_at hl 3 rfl) ?_
        refine va_get (D := D) (ci := 4) (v := .ref (h 16)) (C := R_M) (T := T_M) (N := 21) hx hb hts iw_M hown hK.1 hP 0 rfl rfl 20 (by decide) (hts _ wd_384) (fun _ h9 => h9) rfl d_M_clashes_24 ?_
        refine lv_iload_n hx hb d_M_clashes_27 rfl (lv_at hl 1 rfl) ?_
        refine va_zald hx hb hK.1 hP 16 1 rfl rfl (vp_in_nI (by omega) (by decide)) d_M_clashes_28 ?_
        refine sx_asi (congrArg marked (nI_clamp (by omega))) ?_
        refine sx_asi (hmk p (by omega)) ?_
        refine lv_if_eq (tgt := 81) hx hb d_M_clashes_29 (by decide) (fun c_4 => ?_) (fun c_4 => ?_)
        · have c_4 : (sx_mk n α a p) = false := sx_bI0 c_4
          refine lv_iconst (v := nI 0) hx hb d_M_clashes_81 (by decide +kernel) ?_
          refine sx_asi (y := sx_bI false) rfl ?_
          refine lv_istore_n (lv' := [(1, .int (sx_bI false)), (3, .int (nI k)), (2, .int (nI p)), (0, .ref (h 0))]) hx hb d_M_clashes_82 rfl hl (by decide) rfl (fun ls hl => ?_)
          refine lv_iinc (v := nI (k + 1)) (lv' := [(3, .int (nI (k + 1))), (1, .int (sx_bI false)), (2, .int (nI p)), (0, .ref (h 0))]) hx hb d_M_clashes_83 hl (k := 1) rfl (nI_1 k) (by decide) rfl (fun ls hl => ?_)
          refine lv_goto (tgt := 14) hx hb d_M_clashes_86 (by decide) ?_
          exact ih_14 (k + 1, false) (⟨by omega, by omega, sx_or0 hc c_3 (sx_clG_1 c_4)⟩) (by omega) ls (lv_sub hl [0, 2, 1, 3] rfl)
        · have c_4 : (sx_mk n α a p) = true := sx_bIn c_4
          refine lv_aload_n hx hb d_M_clashes_32 rfl (lv_at hl 3 rfl) ?_
          refine va_get (D := D) (ci := 4) (v := .ref (h 16)) (C := R_M) (T := T_M) (N := 21) hx hb hts iw_M hown hK.1 hP 0 rfl rfl 20 (by decide) (hts _ wd_384) (fun _ h9 => h9) rfl d_M_clashes_33 ?_
          refine lv_iload_n hx hb d_M_clashes_36 rfl (lv_at hl 0 rfl) ?_
          refine va_zald hx hb hK.1 hP 16 1 rfl rfl (vp_in_nI (by omega) (by decide)) d_M_clashes_37 ?_
          refine sx_asi (congrArg marked (nI_clamp (by omega))) ?_
          refine sx_asi (hmk k (by omega)) ?_
          refine lv_if_eq (tgt := 81) hx hb d_M_clashes_38 (by decide) (fun c_5 => ?_) (fun c_5 => ?_)
          · have c_5 : (sx_mk n α a k) = false := sx_bI0 c_5
            refine lv_iconst (v := nI 0) hx hb d_M_clashes_81 (by decide +kernel) ?_
            refine sx_asi (y := sx_bI false) rfl ?_
            refine lv_istore_n (lv' := [(1, .int (sx_bI false)), (3, .int (nI k)), (2, .int (nI p)), (0, .ref (h 0))]) hx hb d_M_clashes_82 rfl hl (by decide) rfl (fun ls hl => ?_)
            refine lv_iinc (v := nI (k + 1)) (lv' := [(3, .int (nI (k + 1))), (1, .int (sx_bI false)), (2, .int (nI p)), (0, .ref (h 0))]) hx hb d_M_clashes_83 hl (k := 1) rfl (nI_1 k) (by decide) rfl (fun ls hl => ?_)
            refine lv_goto (tgt := 14) hx hb d_M_clashes_86 (by decide) ?_
            exact ih_14 (k + 1, false) (⟨by omega, by omega, sx_or0 hc c_3 (sx_clG_2 c_5)⟩) (by omega) ls (lv_sub hl [0, 2, 1, 3] rfl)
          · have c_5 : (sx_mk n α a k) = true := sx_bIn c_5
            refine lv_aload_n hx hb d_M_clashes_41 rfl (lv_at hl 3 rfl) ?_
            refine va_get (D := D) (ci := 4) (v := .ref (h 1)) (C := R_M) (T := T_M) (N := 21) hx hb hts iw_M hown hK.1 hP 0 rfl rfl 5 (by decide) (hts _ wd_369) (fun _ h9 => h9) rfl d_M_clashes_42 ?_
            refine lv_iload_n hx hb d_M_clashes_45 rfl (lv_at hl 1 rfl) ?_
            refine va_iald hx hb hK.1 hP 1 0 rfl rfl (vp_in_nI (by omega) (by decide)) d_M_clashes_46 ?_
            refine sx_asi (congrArg (α 1) (nI_clamp (by omega))) ?_
            refine lv_aload_n hx hb d_M_clashes_47 rfl (lv_at hl 3 rfl) ?_
            refine va_get (D := D) (ci := 4) (v := .ref (h 1)) (C := R_M) (T := T_M) (N := 21) hx hb hts iw_M hown hK.1 hP 0 rfl rfl 5 (by decide) (hts _ wd_369) (fun _ h9 => h9) rfl d_M_clashes_48 ?_
            refine lv_iload_n hx hb d_M_clashes_51 rfl (lv_at hl 0 rfl) ?_
            refine va_iald hx hb hK.1 hP 1 0 rfl rfl (vp_in_nI (by omega) (by decide)) d_M_clashes_52 ?_
            refine sx_asi (congrArg (α 1) (nI_clamp (by omega))) ?_
            refine lv_icmp_ne (tgt := 81) hx hb d_M_clashes_53 (by decide) (fun c_6 => ?_) (fun c_6 => ?_)
            · refine lv_iconst (v := nI 0) hx hb d_M_clashes_81 (by decide +kernel) ?_
              refine sx_asi (y := sx_bI false) rfl ?_
              refine lv_istore_n (lv' := [(1, .int (sx_bI false)), (3, .int (nI k)), (2, .int (nI p)), (0, .ref (h 0))]) hx hb d_M_clashes_82 rfl hl (by decide) rfl (fun ls hl => ?_)
              refine lv_iinc (v := nI (k + 1)) (lv' := [(3, .int (nI (k + 1))), (1, .int (sx_bI false)), (2, .int (nI p)), (0, .ref (h 0))]) hx hb d_M_clashes_83 hl (k := 1) rfl (nI_1 k) (by decide) rfl (fun ls hl => ?_)
              refine lv_goto (tgt := 14) hx hb d_M_clashes_86 (by decide) ?_
              exact ih_14 (k + 1, false) (⟨by omega, by omega, sx_or0 hc c_3 (sx_clG_3 c_6)⟩) (by omega) ls (lv_sub hl [0, 2, 1, 3] rfl)
            · refine lv_aload_n hx hb d_M_clashes_56 rfl (lv_at hl 3 rfl) ?_
              refine va_get (D := D) (ci := 4) (v := .ref (h 2)) (C := R_M) (T := T_M) (N := 21) hx hb hts iw_M hown hK.1 hP 0 rfl rfl 6 (by decide) (hts _ wd_370) (fun _ h9 => h9) rfl d_M_clashes_57 ?_
              refine lv_iload_n hx hb d_M_clashes_60 rfl (lv_at hl 1 rfl) ?_
              refine va_iald hx hb hK.1 hP 2 0 rfl rfl (vp_in_nI (by omega) (by decide)) d_M_clashes_61 ?_
              refine sx_asi (congrArg (α 2) (nI_clamp (by omega))) ?_
              refine vp_callSi (va_runS (As := [.int ((α 2) p)]) (rest := []) ⟨hx, hb, hml, hown, hts⟩ (k_low l D cA ((α 2) p)) (va_cwS 1 hts (sx_GS wd_436 wd_437 wd_5 wd_438) rfl rfl rfl (by decide +kernel) ⟨Nat.le_of_ble_eq_true rfl, Nat.le_of_ble_eq_true rfl⟩) (sx_preS hK (sx_P0 : va_P D vwCl [] s.heap)) rfl rfl hl.1 rfl (lv_room (Nat.le_of_ble_eq_true rfl)) d_M_clashes_62 ⟨Nat.le_of_ble_eq_true rfl, Nat.le_of_ble_eq_true rfl⟩).run (fun r_8 hr_7 => ?_)
              subst hr_7
              refine lv_aload_n hx hb d_M_clashes_65 rfl (lv_at hl 3 rfl) ?_
              refine va_get (D := D) (ci := 4) (v := .ref (h 2)) (C := R_M) (T := T_M) (N := 21) hx hb hts iw_M hown hK.1 hP 0 rfl rfl 6 (by decide) (hts _ wd_370) (fun _ h9 => h9) rfl d_M_clashes_66 ?_
              refine lv_iload_n hx hb d_M_clashes_69 rfl (lv_at hl 0 rfl) ?_
              refine va_iald hx hb hK.1 hP 2 0 rfl rfl (vp_in_nI (by omega) (by decide)) d_M_clashes_70 ?_
              refine sx_asi (congrArg (α 2) (nI_clamp (by omega))) ?_
              refine vp_callSi (va_runS (As := [.int ((α 2) k)]) (rest := [.int (sx_low ((α 2) p))]) ⟨hx, hb, hml, hown, hts⟩ (k_low l D cA ((α 2) k)) (va_cwS 1 hts (sx_GS wd_436 wd_437 wd_5 wd_438) rfl rfl rfl (by decide +kernel) ⟨Nat.le_of_ble_eq_true rfl, Nat.le_of_ble_eq_true rfl⟩) (sx_preS hK (sx_P0 : va_P D vwCl [] s.heap)) rfl rfl hl.1 rfl (lv_room (Nat.le_of_ble_eq_true rfl)) d_M_clashes_71 ⟨Nat.le_of_ble_eq_true rfl, Nat.le_of_ble_eq_true rfl⟩).run (fun r_10 hr_9 => ?_)
              subst hr_9
              refine lv_icmp_ne (tgt := 81) hx hb d_M_clashes_74 (by decide) (fun c_11 => ?_) (fun c_11 => ?_)
              · refine lv_iconst (v := nI 0) hx hb d_M_clashes_81 (by decide +kernel) ?_
                refine sx_asi (y := sx_bI false) rfl ?_
                refine lv_istore_n (lv' := [(1, .int (sx_bI false)), (3, .int (nI k)), (2, .int (nI p)), (0, .ref (h 0))]) hx hb d_M_clashes_82 rfl hl (by decide) rfl (fun ls hl => ?_)
                refine lv_iinc (v := nI (k + 1)) (lv' := [(3, .int (nI (k + 1))), (1, .int (sx_bI false)), (2, .int (nI p)), (0, .ref (h 0))]) hx hb d_M_clashes_83 hl (k := 1) rfl (nI_1 k) (by decide) rfl (fun ls hl => ?_)
                refine lv_goto (tgt := 14) hx hb d_M_clashes_86 (by decide) ?_
                exact ih_14 (k + 1, false) (⟨by omega, by omega, sx_or0 hc c_3 (sx_clG_4 c_11)⟩) (by omega) ls (lv_sub hl [0, 2, 1, 3] rfl)
              · refine lv_iconst (v := nI 1) hx hb d_M_clashes_77 (by decide +kernel) ?_
                refine lv_goto (tgt := 82) hx hb d_M_clashes_78 (by decide) ?_
                refine sx_asi (y := sx_bI true) rfl ?_
                refine lv_istore_n (lv' := [(1, .int (sx_bI true)), (3, .int (nI k)), (2, .int (nI p)), (0, .ref (h 0))]) hx hb d_M_clashes_82 rfl hl (by decide) rfl (fun ls hl => ?_)
                refine lv_iinc (v := nI (k + 1)) (lv' := [(3, .int (nI (k + 1))), (1, .int (sx_bI true)), (2, .int (nI p)), (0, .ref (h 0))]) hx hb d_M_clashes_83 hl (k := 1) rfl (nI_1 k) (by decide) rfl (fun ls hl => ?_)
                refine lv_goto (tgt := 14) hx hb d_M_clashes_86 (by decide) ?_
                exact ih_14 (k + 1, true) (⟨by omega, by omega, sx_or2 (sx_clG_t (by omega) c_4 c_5 c_6 c_11)⟩) (by omega) ls (lv_sub hl [0, 2, 1, 3] rfl)

set_option maxHeartbeats 4000000 in
set_option maxRecDepth 100000 in
theorem k_mayN (l : Launch) (D : va_G) (cA : Nat → ClassId) (h : Nat → Nat) (code : Int32) (isStrict : Int32) (parent : Nat → Int32) (letter : Nat → Int32) (source : Nat → Int32) (come : Nat → Int32) (declared : Nat → Int32) (declaredPath : Nat → Int32) (refusals : Nat → Int32) (triedMany : Nat → Int32) (tried : Nat → Int32) (world : Nat → Int32) (isOutput : Nat → Int32) (wasThere : Nat → Int32) (marked : Nat → Int32) (n : Nat) (na : Nat) (L : Nat) (α : sx_A) (a : Nat) (ha : a < na) (hna : na ≤ 10) (p q : Int32) (hok : sx_ok n α a p q = false) : Met l y_M_may w_M_may ({ frames := 1, cells := 0, slots := 0, locals := 21 }) (sx_Pr D cA [.ref (h 0), .int (nI a), .int p, .int q] (wM cA h (nI L) code (nI n) (nI na) isStrict parent letter source come declared declaredPath (α 6) refusals triedMany tried world isOutput (α 12) (α 13) wasThere marked)) (vp_Si (fun r => r = -1)) 0 0 (fun _ => False) := by
  refine Met.ofW (cc := b_M_may) (maxL := 4) (ret := (some .int)) (by decide) rfl ?_
  intro pG eG s m args below meth cG s₁ B hml hv
  obtain ⟨rfl, hP, hK⟩ := hv
  have hx := B.exec
  have hb := B.bytes
  have hr := B.returns
  have hts0 := atoms_spec (ws := w_M_may) B.pre
  have hts : ∀ w ∈ sx_gw, w.before _ s = true := fun w h => hts0 w (List.mem_cons_of_mem _ h)
  have hown : s.vm.findClass R_M = some m.cls := findClass_of_methodNamed B.named
  have hlocks := B.notSynchronized
  have hl := lv_entry ([.ref (h 0), .int (nI a), .int p, .int q]) (n := 4) (Nat.le_of_ble_eq_true rfl)
  rw [lg_entry_eq]
  generalize (lg_sl ([.ref (h 0), .int (nI a), .int p, .int q]) ++ List.replicate (4 - (lg_sl ([.ref (h 0), .int (nI a), .int p, .int q])).length) Slot.unset).toArray = ls at hl ⊢
  have hl : lv_has ls 4 [(0, .ref (h 0)), (1, .int (nI a)), (2, .int p), (3, .int q)] := hl
  refine lv_aload_n hx hb d_M_may_0 rfl (lv_at hl 0 rfl) ?_
  refine lv_iload_n hx hb d_M_may_1 rfl (lv_at hl 1 rfl) ?_
  refine vp_callSi (va_runV (As := [.int (nI a)]) (rest := []) ⟨hx, hb, hml, hown, hts⟩ (k_isActM l D cA h (nI L) code isStrict parent letter source come declared declaredPath (α 6) refusals triedMany tried world isOutput (α 12) (α 13) wasThere marked n na α (nI a)) (cwV 1 hts (sx_GV wd_463 wd_465 ws_14 wd_5 wd_466) rfl rfl rfl (by decide +kernel) ⟨Nat.le_of_ble_eq_true rfl, Nat.le_of_ble_eq_true rfl⟩) (sx_preV hK hP (va_recv hK.1 hP (ci := 4) (q0 := 0) rfl rfl)) rfl rfl hl.1 rfl (lv_room (Nat.le_of_ble_eq_true rfl)) d_M_may_2 ⟨Nat.le_of_ble_eq_true rfl, Nat.le_of_ble_eq_true rfl⟩).run (fun r_2 hr_1 => ?_)
  rw [sx_has_nI (by omega) (by omega)] at hr_1
  subst hr_1
  refine lv_if_eq (tgt := 33) hx hb d_M_may_5 (by decide) (fun c_3 => ?_) (fun c_3 => ?_)
  · exact absurd c_3 (by decide)
  · refine lv_aload_n hx hb d_M_may_8 rfl (lv_at hl 0 rfl) ?_
    refine va_get (D := D) (ci := 4) (v := .ref (h 13)) (C := R_M) (T := T_M) (N := 21) hx hb hts iw_M hown hK.1 hP 0 rfl rfl 17 (by decide) (hts _ wd_381) (fun _ h9 => h9) rfl d_M_may_9 ?_
    refine lv_iload_n hx hb d_M_may_12 rfl (lv_at hl 1 rfl) ?_
    refine va_zald hx hb hK.1 hP 13 1 rfl rfl (vp_in_nI (by omega) (by decide)) d_M_may_13 ?_
    refine sx_asi (congrArg (α 12) (nI_clamp (by omega))) ?_
    refine lv_if_eq (tgt := 33) hx hb d_M_may_14 (by decide) (fun c_4 => ?_) (fun c_4 => ?_)
    · refine lv_iconst (v := (-1)) hx hb d_M_may_33 (by decide +kernel) ?_
      exact W.iret (v := (-1)) hx hb hr (fun t ht hW => ⟨(-1), rfl, rfl, ht⟩) (fun _ h => by cases h) d_M_may_34
    · refine lv_aload_n hx hb d_M_may_17 rfl (lv_at hl 0 rfl) ?_
      refine lv_iload_n hx hb d_M_may_18 rfl (lv_at hl 2 rfl) ?_
      refine vp_callSi (va_runV (As := [.int p]) (rest := []) ⟨hx, hb, hml, hown, hts⟩ (k_isPathM l D cA h (nI L) code (nI na) isStrict parent letter source come declared declaredPath (α 6) refusals triedMany tried world isOutput (α 12) (α 13) wasThere marked n α p) (cwV 1 hts (sx_GV wd_432 wd_434 ws_11 wd_5 wd_435) rfl rfl rfl (by decide +kernel) ⟨Nat.le_of_ble_eq_true rfl, Nat.le_of_ble_eq_true rfl⟩) (sx_preV hK hP (va_recv hK.1 hP (ci := 4) (q0 := 0) rfl rfl)) rfl rfl hl.1 rfl (lv_room (Nat.le_of_ble_eq_true rfl)) d_M_may_19 ⟨Nat.le_of_ble_eq_true rfl, Nat.le_of_ble_eq_true rfl⟩).run (fun r_6 hr_5 => ?_)
      subst hr_5
      refine lv_if_eq (tgt := 33) hx hb d_M_may_22 (by decide) (fun c_7 => ?_) (fun c_7 => ?_)
      · have c_7 : (sx_has n p) = false := sx_bI0 c_7
        refine lv_iconst (v := (-1)) hx hb d_M_may_33 (by decide +kernel) ?_
        exact W.iret (v := (-1)) hx hb hr (fun t ht hW => ⟨(-1), rfl, rfl, ht⟩) (fun _ h => by cases h) d_M_may_34
      · have c_7 : (sx_has n p) = true := sx_bIn c_7
        refine lv_aload_n hx hb d_M_may_25 rfl (lv_at hl 0 rfl) ?_
        refine lv_iload_n hx hb d_M_may_26 rfl (lv_at hl 3 rfl) ?_
        refine vp_callSi (va_runV (As := [.int q]) (rest := []) ⟨hx, hb, hml, hown, hts⟩ (k_isPathM l D cA h (nI L) code (nI na) isStrict parent letter source come declared declaredPath (α 6) refusals triedMany tried world isOutput (α 12) (α 13) wasThere marked n α q) (cwV 1 hts (sx_GV wd_432 wd_434 ws_11 wd_5 wd_435) rfl rfl rfl (by decide +kernel) ⟨Nat.le_of_ble_eq_true rfl, Nat.le_of_ble_eq_true rfl⟩) (sx_preV hK hP (va_recv hK.1 hP (ci := 4) (q0 := 0) rfl rfl)) rfl rfl hl.1 rfl (lv_room (Nat.le_of_ble_eq_true rfl)) d_M_may_27 ⟨Nat.le_of_ble_eq_true rfl, Nat.le_of_ble_eq_true rfl⟩).run (fun r_9 hr_8 => ?_)
        subst hr_8
        refine lv_if_ne (tgt := 35) hx hb d_M_may_30 (by decide) (fun c_10 => ?_) (fun c_10 => ?_)
        · have c_10 : (sx_has n q) = true := sx_bIn c_10
          exact absurd (sx_ok_tt c_4 c_7 c_10) (by rw [hok]; decide)
        · have c_10 : (sx_has n q) = false := sx_bI0 c_10
          refine lv_iconst (v := (-1)) hx hb d_M_may_33 (by decide +kernel) ?_
          exact W.iret (v := (-1)) hx hb hr (fun t ht hW => ⟨(-1), rfl, rfl, ht⟩) (fun _ h => by cases h) d_M_may_34

set_option maxHeartbeats 4000000 in
set_option maxRecDepth 100000 in
theorem k_mayL (l : Launch) (D : va_G) (cA : Nat → ClassId) (sz : Nat) (h : Nat → Nat) (code : Int32) (isStrict : Int32) (parent : Nat → Int32) (letter : Nat → Int32) (source : Nat → Int32) (come : Nat → Int32) (declared : Nat → Int32) (declaredPath : Nat → Int32) (refusals : Nat → Int32) (triedMany : Nat → Int32) (tried : Nat → Int32) (world : Nat → Int32) (isOutput : Nat → Int32) (wasThere : Nat → Int32) (marked : Nat → Int32) (n : Nat) (na : Nat) (L : Nat) (α : sx_A) (a : Nat) (ha : a < na) (hna : na ≤ 10) (p q : Int32) (hok : sx_ok n α a p q = true) (heq : α 6 a = nI L) : Met l y_M_may w_M_may ({ frames := 1, cells := 0, slots := 0, locals := 21 }) (sx_Pw D cA [.ref (h 0), .int (nI a), .int p, .int q] (wM cA h (nI L) code (nI n) (nI na) isStrict parent letter source come declared declaredPath (α 6) refusals triedMany tried world isOutput (α 12) (α 13) wasThere marked) sz) (va_Qi (fun r (_ : Unit) => r = -9) (sx_Bw D (wM cA h (nI L) code (nI n) (nI na) isStrict parent letter source come declared declaredPath (α 6) refusals triedMany tried world isOutput (α 12) (α 13) wasThere marked) sz (fun _ => wM cA h (nI L) code (nI n) (nI na) isStrict parent letter source come declared declaredPath (α 6) refusals triedMany tried world isOutput (α 12) (upd (α 13) a (nI 1)) wasThere marked)) (va_A (wM cA h (nI L) code (nI n) (nI na) isStrict parent letter source come declared declaredPath (α 6) refusals triedMany tried world isOutput (α 12) (α 13) wasThere marked) sz)) 0 0 (va_A (wM cA h (nI L) code (nI n) (nI na) isStrict parent letter source come declared declaredPath (α 6) refusals triedMany tried world isOutput (α 12) (α 13) wasThere marked) sz) := by
  refine Met.ofW (cc := b_M_may) (maxL := 4) (ret := (some .int)) (by decide) rfl ?_
  intro pG eG s m args below meth cG s₁ B hml hv
  obtain ⟨rfl, hsz, hP, hK, hD0⟩ := hv
  have hx := B.exec
  have hb := B.bytes
  have hr := B.returns
  have hts0 := atoms_spec (ws := w_M_may) B.pre
  have hts : ∀ w ∈ sx_gw, w.before _ s = true := fun w h => hts0 w (List.mem_cons_of_mem _ h)
  have hown : s.vm.findClass R_M = some m.cls := findClass_of_methodNamed B.named
  have hlocks := B.notSynchronized
  subst hsz
  have hD := hD0.self (sz := s.heap.size)
  generalize hAe : va_A (wM cA h (nI L) code (nI n) (nI na) isStrict parent letter source come declared declaredPath (α 6) refusals triedMany tried world isOutput (α 12) (α 13) wasThere marked) s.heap.size = A at hD ⊢
  have hA : ∀ q : Nat, s.heap.size ≤ q → A q := fun q h => by rw [← hAe]; exact Or.inr h
  have hS : va_S A s.heap s.heap [] := va_S.rf
  have hl := lv_entry ([.ref (h 0), .int (nI a), .int p, .int q]) (n := 4) (Nat.le_of_ble_eq_true rfl)
  rw [lg_entry_eq]
  generalize (lg_sl ([.ref (h 0), .int (nI a), .int p, .int q]) ++ List.replicate (4 - (lg_sl ([.ref (h 0), .int (nI a), .int p, .int q])).length) Slot.unset).toArray = ls at hl ⊢
  have hl : lv_has ls 4 [(0, .ref (h 0)), (1, .int (nI a)), (2, .int p), (3, .int q)] := hl
  refine lv_aload_n hx hb d_M_may_0 rfl (lv_at hl 0 rfl) ?_
  refine lv_iload_n hx hb d_M_may_1 rfl (lv_at hl 1 rfl) ?_
  refine vp_callSi (va_runV (As := [.int (nI a)]) (rest := []) ⟨hx, hb, hml, hown, hts⟩ (k_isActM l D cA h (nI L) code isStrict parent letter source come declared declaredPath (α 6) refusals triedMany tried world isOutput (α 12) (α 13) wasThere marked n na α (nI a)) (cwV 1 hts (sx_GV wd_463 wd_465 ws_14 wd_5 wd_466) rfl rfl rfl (by decide +kernel) ⟨Nat.le_of_ble_eq_true rfl, Nat.le_of_ble_eq_true rfl⟩) (sx_preV hK hP (va_recv hK.1 hP (ci := 4) (q0 := 0) rfl rfl)) rfl rfl hl.1 rfl (lv_room (Nat.le_of_ble_eq_true rfl)) d_M_may_2 ⟨Nat.le_of_ble_eq_true rfl, Nat.le_of_ble_eq_true rfl⟩).run (fun r_2 hr_1 => ?_)
  rw [sx_has_nI (by omega) (by omega)] at hr_1
  subst hr_1
  refine lv_if_eq (tgt := 33) hx hb d_M_may_5 (by decide) (fun c_3 => ?_) (fun c_3 => ?_)
  · exact absurd c_3 (by decide)
  · refine lv_aload_n hx hb d_M_may_8 rfl (lv_at hl 0 rfl) ?_
    refine va_get (D := D) (ci := 4) (v := .ref (h 13)) (C := R_M) (T := T_M) (N := 21) hx hb hts iw_M hown hK.1 hP 0 rfl rfl 17 (by decide) (hts _ wd_381) (fun _ h9 => h9) rfl d_M_may_9 ?_
    refine lv_iload_n hx hb d_M_may_12 rfl (lv_at hl 1 rfl) ?_
    refine va_zald hx hb hK.1 hP 13 1 rfl rfl (vp_in_nI (by omega) (by decide)) d_M_may_13 ?_
    refine sx_asi (congrArg (α 12) (nI_clamp (by omega))) ?_
    refine lv_if_eq (tgt := 33) hx hb d_M_may_14 (by decide) (fun c_4 => ?_) (fun c_4 => ?_)
    · exact absurd c_4 (sx_ok_12 hok)
    · refine lv_aload_n hx hb d_M_may_17 rfl (lv_at hl 0 rfl) ?_
      refine lv_iload_n hx hb d_M_may_18 rfl (lv_at hl 2 rfl) ?_
      refine vp_callSi (va_runV (As := [.int p]) (rest := []) ⟨hx, hb, hml, hown, hts⟩ (k_isPathM l D cA h (nI L) code (nI na) isStrict parent letter source come declared declaredPath (α 6) refusals triedMany tried world isOutput (α 12) (α 13) wasThere marked n α p) (cwV 1 hts (sx_GV wd_432 wd_434 ws_11 wd_5 wd_435) rfl rfl rfl (by decide +kernel) ⟨Nat.le_of_ble_eq_true rfl, Nat.le_of_ble_eq_true rfl⟩) (sx_preV hK hP (va_recv hK.1 hP (ci := 4) (q0 := 0) rfl rfl)) rfl rfl hl.1 rfl (lv_room (Nat.le_of_ble_eq_true rfl)) d_M_may_19 ⟨Nat.le_of_ble_eq_true rfl, Nat.le_of_ble_eq_true rfl⟩).run (fun r_6 hr_5 => ?_)
      rw [sx_ok_hp hok] at hr_5
      subst hr_5
      refine lv_if_eq (tgt := 33) hx hb d_M_may_22 (by decide) (fun c_7 => ?_) (fun c_7 => ?_)
      · exact absurd c_7 (by decide)
      · refine lv_aload_n hx hb d_M_may_25 rfl (lv_at hl 0 rfl) ?_
        refine lv_iload_n hx hb d_M_may_26 rfl (lv_at hl 3 rfl) ?_
        refine vp_callSi (va_runV (As := [.int q]) (rest := []) ⟨hx, hb, hml, hown, hts⟩ (k_isPathM l D cA h (nI L) code (nI na) isStrict parent letter source come declared declaredPath (α 6) refusals triedMany tried world isOutput (α 12) (α 13) wasThere marked n α q) (cwV 1 hts (sx_GV wd_432 wd_434 ws_11 wd_5 wd_435) rfl rfl rfl (by decide +kernel) ⟨Nat.le_of_ble_eq_true rfl, Nat.le_of_ble_eq_true rfl⟩) (sx_preV hK hP (va_recv hK.1 hP (ci := 4) (q0 := 0) rfl rfl)) rfl rfl hl.1 rfl (lv_room (Nat.le_of_ble_eq_true rfl)) d_M_may_27 ⟨Nat.le_of_ble_eq_true rfl, Nat.le_of_ble_eq_true rfl⟩).run (fun r_9 hr_8 => ?_)
        rw [sx_ok_hq hok] at hr_8
        subst hr_8
        refine lv_if_ne (tgt := 35) hx hb d_M_may_30 (by decide) (fun c_10 => ?_) (fun c_10 => ?_)
        · refine lv_aload_n hx hb d_M_may_35 rfl (lv_at hl 0 rfl) ?_
          refine va_get (D := D) (ci := 4) (v := .ref (h 7)) (C := R_M) (T := T_M) (N := 21) hx hb hts iw_M hown hK.1 hP 0 rfl rfl 11 (by decide) (hts _ wd_375) (fun _ h9 => h9) rfl d_M_may_36 ?_
          refine lv_iload_n hx hb d_M_may_39 rfl (lv_at hl 1 rfl) ?_
          refine va_iald hx hb hK.1 hP 7 0 rfl rfl (vp_in_nI (by omega) (by decide)) d_M_may_40 ?_
          refine sx_asi (congrArg (α 6) (nI_clamp (by omega))) ?_
          refine lv_aload_n hx hb d_M_may_41 rfl (lv_at hl 0 rfl) ?_
          refine va_get (D := D) (ci := 4) (v := .int (nI L)) (C := R_M) (T := T_M) (N := 21) hx hb hts iw_M hown hK.1 hP 0 rfl rfl 0 (by decide) (hts _ wd_364) (fun _ h9 => h9) rfl d_M_may_42 ?_
          refine lv_icmp_ne (tgt := 58) hx hb d_M_may_45 (by decide) (fun c_11 => ?_) (fun c_11 => ?_)
          · exact absurd heq c_11
          · refine lv_aload_n hx hb d_M_may_48 rfl (lv_at hl 0 rfl) ?_
            refine va_get (D := D) (ci := 4) (v := .ref (h 14)) (C := R_M) (T := T_M) (N := 21) hx hb hts iw_M hown hK.1 hP 0 rfl rfl 18 (by decide) (hts _ wd_382) (fun _ h9 => h9) rfl d_M_may_49 ?_
            refine lv_iload_n hx hb d_M_may_52 rfl (lv_at hl 1 rfl) ?_
            refine lv_iconst (v := nI 1) hx hb d_M_may_53 (by decide +kernel) ?_
            refine va_zast hx hb hK.1 hP hD hS 14 1 rfl rfl (vp_in_nI (by omega) (by decide)) d_M_may_54 (fun H locs hP hD hS => ?_)
            rw [nI_clamp (by omega)] at hP hD
            rw [show vp_nar .boolean (nI 1) = nI 1 from by decide +kernel] at hP hD
            have hP : va_P D vwCl (wM cA h (nI L) code (nI n) (nI na) isStrict parent letter source come declared declaredPath (α 6) refusals triedMany tried world isOutput (α 12) (upd (α 13) a (nI 1)) wasThere marked) H := hP
            have hD : va_D A (wM cA h (nI L) code (nI n) (nI na) isStrict parent letter source come declared declaredPath (α 6) refusals triedMany tried world isOutput (α 12) (upd (α 13) a (nI 1)) wasThere marked) := hD
            refine lv_bipush (v := (-9)) hx hb d_M_may_55 (by decide +kernel) ?_
            have hP9 : va_P D vwCl (wM cA h (nI L) code (nI n) (nI na) isStrict parent letter source come declared declaredPath (α 6) refusals triedMany tried world isOutput (α 12) (upd (α 13) a (nI 1)) wasThere marked) H := hP
            have hD9 : va_D A (wM cA h (nI L) code (nI n) (nI na) isStrict parent letter source come declared declaredPath (α 6) refusals triedMany tried world isOutput (α 12) (upd (α 13) a (nI 1)) wasThere marked) := hD
            exact W.iret (v := (-9)) hx hb hr (fun t ht hW => ⟨⟨(-9), (), rfl, rfl, by rw [ht]; exact hP9, by rw [hAe]; exact hD9⟩, hS.F ht⟩) hS.2.2 d_M_may_57
        · exact absurd c_10 (by decide)

set_option maxHeartbeats 4000000 in
set_option maxRecDepth 100000 in
theorem k_mayY (l : Launch) (D : va_G) (cA : Nat → ClassId) (sz : Nat) (h : Nat → Nat) (code : Int32) (isStrict : Int32) (parent : Nat → Int32) (letter : Nat → Int32) (source : Nat → Int32) (come : Nat → Int32) (declared : Nat → Int32) (declaredPath : Nat → Int32) (refusals : Nat → Int32) (triedMany : Nat → Int32) (tried : Nat → Int32) (world : Nat → Int32) (isOutput : Nat → Int32) (wasThere : Nat → Int32) (marked : Nat → Int32) (n : Nat) (na : Nat) (L : Nat) (α : sx_A) (a : Nat) (ha : a < na) (hna : na ≤ 10) (p q : Int32) (hok : sx_ok n α a p q = true) (hne : ¬ α 6 a = nI L) : Met l y_M_may w_M_may ({ frames := 1, cells := 0, slots := 0, locals := 21 }) (sx_Pw D cA [.ref (h 0), .int (nI a), .int p, .int q] (wM cA h (nI L) code (nI n) (nI na) isStrict parent letter source come declared declaredPath (α 6) refusals triedMany tried world isOutput (α 12) (α 13) wasThere marked) sz) (va_Qi (fun r (_ : Unit) => r = nI 0) (sx_Bw D (wM cA h (nI L) code (nI n) (nI na) isStrict parent letter source come declared declaredPath (α 6) refusals triedMany tried world isOutput (α 12) (α 13) wasThere marked) sz (fun _ => wM cA h (nI L) code (nI n) (nI na) isStrict parent letter source come declared declaredPath (upd (α 6) a (α 6 a + 1)) refusals triedMany tried world isOutput (α 12) (α 13) wasThere marked)) (va_A (wM cA h (nI L) code (nI n) (nI na) isStrict parent letter source come declared declaredPath (α 6) refusals triedMany tried world isOutput (α 12) (α 13) wasThere marked) sz)) 0 0 (va_A (wM cA h (nI L) code (nI n) (nI na) isStrict parent letter source come declared declaredPath (α 6) refusals triedMany tried world isOutput (α 12) (α 13) wasThere marked) sz) := by
  refine Met.ofW (cc := b_M_may) (maxL := 4) (ret := (some .int)) (by decide) rfl ?_
  intro pG eG s m args below meth cG s₁ B hml hv
  obtain ⟨rfl, hsz, hP, hK, hD0⟩ := hv
  have hx := B.exec
  have hb := B.bytes
  have hr := B.returns
  have hts0 := atoms_spec (ws := w_M_may) B.pre
  have hts : ∀ w ∈ sx_gw, w.before _ s = true := fun w h => hts0 w (List.mem_cons_of_mem _ h)
  have hown : s.vm.findClass R_M = some m.cls := findClass_of_methodNamed B.named
  have hlocks := B.notSynchronized
  subst hsz
  have hD := hD0.self (sz := s.heap.size)
  generalize hAe : va_A (wM cA h (nI L) code (nI n) (nI na) isStrict parent letter source come declared declaredPath (α 6) refusals triedMany tried world isOutput (α 12) (α 13) wasThere marked) s.heap.size = A at hD ⊢
  have hA : ∀ q : Nat, s.heap.size ≤ q → A q := fun q h => by rw [← hAe]; exact Or.inr h
  have hS : va_S A s.heap s.heap [] := va_S.rf
  have hl := lv_entry ([.ref (h 0), .int (nI a), .int p, .int q]) (n := 4) (Nat.le_of_ble_eq_true rfl)
  rw [lg_entry_eq]
  generalize (lg_sl ([.ref (h 0), .int (nI a), .int p, .int q]) ++ List.replicate (4 - (lg_sl ([.ref (h 0), .int (nI a), .int p, .int q])).length) Slot.unset).toArray = ls at hl ⊢
  have hl : lv_has ls 4 [(0, .ref (h 0)), (1, .int (nI a)), (2, .int p), (3, .int q)] := hl
  refine lv_aload_n hx hb d_M_may_0 rfl (lv_at hl 0 rfl) ?_
  refine lv_iload_n hx hb d_M_may_1 rfl (lv_at hl 1 rfl) ?_
  refine vp_callSi (va_runV (As := [.int (nI a)]) (rest := []) ⟨hx, hb, hml, hown, hts⟩ (k_isActM l D cA h (nI L) code isStrict parent letter source come declared declaredPath (α 6) refusals triedMany tried world isOutput (α 12) (α 13) wasThere marked n na α (nI a)) (cwV 1 hts (sx_GV wd_463 wd_465 ws_14 wd_5 wd_466) rfl rfl rfl (by decide +kernel) ⟨Nat.le_of_ble_eq_true rfl, Nat.le_of_ble_eq_true rfl⟩) (sx_preV hK hP (va_recv hK.1 hP (ci := 4) (q0 := 0) rfl rfl)) rfl rfl hl.1 rfl (lv_room (Nat.le_of_ble_eq_true rfl)) d_M_may_2 ⟨Nat.le_of_ble_eq_true rfl, Nat.le_of_ble_eq_true rfl⟩).run (fun r_2 hr_1 => ?_)
  rw [sx_has_nI (by omega) (by omega)] at hr_1
  subst hr_1
  refine lv_if_eq (tgt := 33) hx hb d_M_may_5 (by decide) (fun c_3 => ?_) (fun c_3 => ?_)
  · exact absurd c_3 (by decide)
  · refine lv_aload_n hx hb d_M_may_8 rfl (lv_at hl 0 rfl) ?_
    refine va_get (D := D) (ci := 4) (v := .ref (h 13)) (C := R_M) (T := T_M) (N := 21) hx hb hts iw_M hown hK.1 hP 0 rfl rfl 17 (by decide) (hts _ wd_381) (fun _ h9 => h9) rfl d_M_may_9 ?_
    refine lv_iload_n hx hb d_M_may_12 rfl (lv_at hl 1 rfl) ?_
    refine va_zald hx hb hK.1 hP 13 1 rfl rfl (vp_in_nI (by omega) (by decide)) d_M_may_13 ?_
    refine sx_asi (congrArg (α 12) (nI_clamp (by omega))) ?_
    refine lv_if_eq (tgt := 33) hx hb d_M_may_14 (by decide) (fun c_4 => ?_) (fun c_4 => ?_)
    · exact absurd c_4 (sx_ok_12 hok)
    · refine lv_aload_n hx hb d_M_may_17 rfl (lv_at hl 0 rfl) ?_
      refine lv_iload_n hx hb d_M_may_18 rfl (lv_at hl 2 rfl) ?_
      refine vp_callSi (va_runV (As := [.int p]) (rest := []) ⟨hx, hb, hml, hown, hts⟩ (k_isPathM l D cA h (nI L) code (nI na) isStrict parent letter source come declared declaredPath (α 6) refusals triedMany tried world isOutput (α 12) (α 13) wasThere marked n α p) (cwV 1 hts (sx_GV wd_432 wd_434 ws_11 wd_5 wd_435) rfl rfl rfl (by decide +kernel) ⟨Nat.le_of_ble_eq_true rfl, Nat.le_of_ble_eq_true rfl⟩) (sx_preV hK hP (va_recv hK.1 hP (ci := 4) (q0 := 0) rfl rfl)) rfl rfl hl.1 rfl (lv_room (Nat.le_of_ble_eq_true rfl)) d_M_may_19 ⟨Nat.le_of_ble_eq_true rfl, Nat.le_of_ble_eq_true rfl⟩).run (fun r_6 hr_5 => ?_)
      rw [sx_ok_hp hok] at hr_5
      subst hr_5
      refine lv_if_eq (tgt := 33) hx hb d_M_may_22 (by decide) (fun c_7 => ?_) (fun c_7 => ?_)
      · exact absurd c_7 (by decide)
      · refine lv_aload_n hx hb d_M_may_25 rfl (lv_at hl 0 rfl) ?_
        refine lv_iload_n hx hb d_M_may_26 rfl (lv_at hl 3 rfl) ?_
        refine vp_callSi (va_runV (As := [.int q]) (rest := []) ⟨hx, hb, hml, hown, hts⟩ (k_isPathM l D cA h (nI L) code (nI na) isStrict parent letter source come declared declaredPath (α 6) refusals triedMany tried world isOutput (α 12) (α 13) wasThere marked n α q) (cwV 1 hts (sx_GV wd_432 wd_434 ws_11 wd_5 wd_435) rfl rfl rfl (by decide +kernel) ⟨Nat.le_of_ble_eq_true rfl, Nat.le_of_ble_eq_true rfl⟩) (sx_preV hK hP (va_recv hK.1 hP (ci := 4) (q0 := 0) rfl rfl)) rfl rfl hl.1 rfl (lv_room (Nat.le_of_ble_eq_true rfl)) d_M_may_27 ⟨Nat.le_of_ble_eq_true rfl, Nat.le_of_ble_eq_true rfl⟩).run (fun r_9 hr_8 => ?_)
        rw [sx_ok_hq hok] at hr_8
        subst hr_8
        refine lv_if_ne (tgt := 35) hx hb d_M_may_30 (by decide) (fun c_10 => ?_) (fun c_10 => ?_)
        · refine lv_aload_n hx hb d_M_may_35 rfl (lv_at hl 0 rfl) ?_
          refine va_get (D := D) (ci := 4) (v := .ref (h 7)) (C := R_M) (T := T_M) (N := 21) hx hb hts iw_M hown hK.1 hP 0 rfl rfl 11 (by decide) (hts _ wd_375) (fun _ h9 => h9) rfl d_M_may_36 ?_
          refine lv_iload_n hx hb d_M_may_39 rfl (lv_at hl 1 rfl) ?_
          refine va_iald hx hb hK.1 hP 7 0 rfl rfl (vp_in_nI (by omega) (by decide)) d_M_may_40 ?_
          refine sx_asi (congrArg (α 6) (nI_clamp (by omega))) ?_
          refine lv_aload_n hx hb d_M_may_41 rfl (lv_at hl 0 rfl) ?_
          refine va_get (D := D) (ci := 4) (v := .int (nI L)) (C := R_M) (T := T_M) (N := 21) hx hb hts iw_M hown hK.1 hP 0 rfl rfl 0 (by decide) (hts _ wd_364) (fun _ h9 => h9) rfl d_M_may_42 ?_
          refine lv_icmp_ne (tgt := 58) hx hb d_M_may_45 (by decide) (fun c_11 => ?_) (fun c_11 => ?_)
          · refine lv_aload_n hx hb d_M_may_58 rfl (lv_at hl 0 rfl) ?_
            refine va_get (D := D) (ci := 4) (v := .ref (h 7)) (C := R_M) (T := T_M) (N := 21) hx hb hts iw_M hown hK.1 hP 0 rfl rfl 11 (by decide) (hts _ wd_375) (fun _ h9 => h9) rfl d_M_may_59 ?_
            refine lv_iload_n hx hb d_M_may_62 rfl (lv_at hl 1 rfl) ?_
            refine lv_dup2_11 hx hb d_M_may_63 rfl rfl ?_
            refine va_iald hx hb hK.1 hP 7 0 rfl rfl (vp_in_nI (by omega) (by decide)) d_M_may_64 ?_
            refine sx_asi (congrArg (α 6) (nI_clamp (by omega))) ?_
            refine lv_iconst (v := nI 1) hx hb d_M_may_65 (by decide +kernel) ?_
            refine lv_iadd hx hb d_M_may_66 ?_
            refine sx_asi (y := α 6 a + 1) rfl ?_
            refine va_iast hx hb hK.1 hP hD hS 7 0 rfl rfl (vp_in_nI (by omega) (by decide)) d_M_may_67 (fun H locs hP hD hS => ?_)
            rw [nI_clamp (by omega)] at hP hD
            have hP : va_P D vwCl (wM cA h (nI L) code (nI n) (nI na) isStrict parent letter source come declared declaredPath (upd (α 6) a (α 6 a + 1)) refusals triedMany tried world isOutput (α 12) (α 13) wasThere marked) H := hP
            have hD : va_D A (wM cA h (nI L) code (nI n) (nI na) isStrict parent letter source come declared declaredPath (upd (α 6) a (α 6 a + 1)) refusals triedMany tried world isOutput (α 12) (α 13) wasThere marked) := hD
            refine lv_iconst (v := nI 0) hx hb d_M_may_68 (by decide +kernel) ?_
            have hP9 : va_P D vwCl (wM cA h (nI L) code (nI n) (nI na) isStrict parent letter source come declared declaredPath (upd (α 6) a (α 6 a + 1)) refusals triedMany tried world isOutput (α 12) (α 13) wasThere marked) H := hP
            have hD9 : va_D A (wM cA h (nI L) code (nI n) (nI na) isStrict parent letter source come declared declaredPath (upd (α 6) a (α 6 a + 1)) refusals triedMany tried world isOutput (α 12) (α 13) wasThere marked) := hD
            exact W.iret (v := nI 0) hx hb hr (fun t ht hW => ⟨⟨nI 0, (), rfl, rfl, by rw [ht]; exact hP9, by rw [hAe]; exact hD9⟩, hS.F ht⟩) hS.2.2 d_M_may_69
          · exact absurd c_11 hne
        · exact absurd c_10 (by decide)

set_option maxHeartbeats 4000000 in
set_option maxRecDepth 100000 in
theorem k_mayO (l : Launch) (D : va_G) (cA : Nat → ClassId) (h : Nat → Nat) (most : Int32) (code : Int32) (isStrict : Int32) (parent : Nat → Int32) (letter : Nat → Int32) (source : Nat → Int32) (come : Nat → Int32) (declared : Nat → Int32) (declaredPath : Nat → Int32) (operations : Nat → Int32) (refusals : Nat → Int32) (triedMany : Nat → Int32) (tried : Nat → Int32) (world : Nat → Int32) (isOutput : Nat → Int32) (isThere : Nat → Int32) (isBroken : Nat → Int32) (wasThere : Nat → Int32) (marked : Nat → Int32) (n : Nat) (na : Nat) (α : sx_A) (x p q : Int32) (hx0 : sx_has na x = false) : Met l y_M_may w_M_may ({ frames := 1, cells := 0, slots := 0, locals := 21 }) (sx_Pr D cA [.ref (h 0), .int x, .int p, .int q] (wM cA h most code (nI n) (nI na) isStrict parent letter source come declared declaredPath operations refusals triedMany tried world isOutput isThere isBroken wasThere marked)) (vp_Si (fun r => r = -1)) 0 0 (fun _ => False) := by
  refine Met.ofW (cc := b_M_may) (maxL := 4) (ret := (some .int)) (by decide) rfl ?_
  intro pG eG s m args below meth cG s₁ B hml hv
  obtain ⟨rfl, hP, hK⟩ := hv
  have hx := B.exec
  have hb := B.bytes
  have hr := B.returns
  have hts0 := atoms_spec (ws := w_M_may) B.pre
  have hts : ∀ w ∈ sx_gw, w.before _ s = true := fun w h => hts0 w (List.mem_cons_of_mem _ h)
  have hown : s.vm.findClass R_M = some m.cls := findClass_of_methodNamed B.named
  have hlocks := B.notSynchronized
  have hl := lv_entry ([.ref (h 0), .int x, .int p, .int q]) (n := 4) (Nat.le_of_ble_eq_true rfl)
  rw [lg_entry_eq]
  generalize (lg_sl ([.ref (h 0), .int x, .int p, .int q]) ++ List.replicate (4 - (lg_sl ([.ref (h 0), .int x, .int p, .int q])).length) Slot.unset).toArray = ls at hl ⊢
  have hl : lv_has ls 4 [(0, .ref (h 0)), (1, .int x), (2, .int p), (3, .int q)] := hl
  refine lv_aload_n hx hb d_M_may_0 rfl (lv_at hl 0 rfl) ?_
  refine lv_iload_n hx hb d_M_may_1 rfl (lv_at hl 1 rfl) ?_
  refine vp_callSi (va_runV (As := [.int x]) (rest := []) ⟨hx, hb, hml, hown, hts⟩ (k_isActM l D cA h most code isStrict parent letter source come declared declaredPath operations refusals triedMany tried world isOutput isThere isBroken wasThere marked n na α x) (cwV 1 hts (sx_GV wd_463 wd_465 ws_14 wd_5 wd_466) rfl rfl rfl (by decide +kernel) ⟨Nat.le_of_ble_eq_true rfl, Nat.le_of_ble_eq_true rfl⟩) (sx_preV hK hP (va_recv hK.1 hP (ci := 4) (q0 := 0) rfl rfl)) rfl rfl hl.1 rfl (lv_room (Nat.le_of_ble_eq_true rfl)) d_M_may_2 ⟨Nat.le_of_ble_eq_true rfl, Nat.le_of_ble_eq_true rfl⟩).run (fun r_2 hr_1 => ?_)
  rw [hx0] at hr_1
  subst hr_1
  refine lv_if_eq (tgt := 33) hx hb d_M_may_5 (by decide) (fun c_3 => ?_) (fun c_3 => ?_)
  · refine lv_iconst (v := (-1)) hx hb d_M_may_33 (by decide +kernel) ?_
    exact W.iret (v := (-1)) hx hb hr (fun t ht hW => ⟨(-1), rfl, rfl, ht⟩) (fun _ h => by cases h) d_M_may_34
  · exact absurd c_3 (by decide)

set_option maxHeartbeats 4000000 in
set_option maxRecDepth 100000 in
theorem k_refM (l : Launch) (D : va_G) (cA : Nat → ClassId) (sz : Nat) (h : Nat → Nat) (most : Int32) (code : Int32) (actions : Int32) (parent : Nat → Int32) (letter : Nat → Int32) (source : Nat → Int32) (come : Nat → Int32) (declared : Nat → Int32) (declaredPath : Nat → Int32) (operations : Nat → Int32) (refusals : Nat → Int32) (triedMany : Nat → Int32) (tried : Nat → Int32) (world : Nat → Int32) (isOutput : Nat → Int32) (isThere : Nat → Int32) (isBroken : Nat → Int32) (wasThere : Nat → Int32) (marked : Nat → Int32) (n : Nat) (sb : Bool) (α : sx_A) (a : Nat) (ha : a < 10) : Met l y_M_refuse w_M_refuse ({ frames := 0, cells := 0, slots := 0, locals := 0 }) (sx_Pw D cA [.ref (h 0), .int (nI a)] (wM cA h most code (nI n) actions (sx_bI sb) parent letter source come declared declaredPath operations refusals triedMany tried world isOutput isThere isBroken wasThere marked) sz) (va_Qi (fun r (_ : Unit) => r = nI 0) (sx_Bw D (wM cA h most code (nI n) actions (sx_bI sb) parent letter source come declared declaredPath operations refusals triedMany tried world isOutput isThere isBroken wasThere marked) sz (fun _ => wM cA h most code (nI n) actions (sx_bI sb) parent letter source come declared declaredPath operations (upd refusals a (refusals a + 1)) triedMany tried world isOutput isThere (upd isBroken a (sx_bI (!decide (isBroken a = 0) || sb))) wasThere marked)) (va_A (wM cA h most code (nI n) actions (sx_bI sb) parent letter source come declared declaredPath operations refusals triedMany tried world isOutput isThere isBroken wasThere marked) sz)) 0 0 (va_A (wM cA h most code (nI n) actions (sx_bI sb) parent letter source come declared declaredPath operations refusals triedMany tried world isOutput isThere isBroken wasThere marked) sz) := by
  refine Met.ofW (cc := b_M_refuse) (maxL := 2) (ret := (some .int)) (by decide) rfl ?_
  intro pG eG s m args below meth cG s₁ B hml hv
  obtain ⟨rfl, hsz, hP, hK, hD0⟩ := hv
  have hx := B.exec
  have hb := B.bytes
  have hr := B.returns
  have hts0 := atoms_spec (ws := w_M_refuse) B.pre
  have hts : ∀ w ∈ sx_gw, w.before _ s = true := fun w h => hts0 w (List.mem_cons_of_mem _ h)
  have hown : s.vm.findClass R_M = some m.cls := findClass_of_methodNamed B.named
  have hlocks := B.notSynchronized
  subst hsz
  have hD := hD0.self (sz := s.heap.size)
  generalize hAe : va_A (wM cA h most code (nI n) actions (sx_bI sb) parent letter source come declared declaredPath operations refusals triedMany tried world isOutput isThere isBroken wasThere marked) s.heap.size = A at hD ⊢
  have hA : ∀ q : Nat, s.heap.size ≤ q → A q := fun q h => by rw [← hAe]; exact Or.inr h
  have hS : va_S A s.heap s.heap [] := va_S.rf
  have hl := lv_entry ([.ref (h 0), .int (nI a)]) (n := 2) (Nat.le_of_ble_eq_true rfl)
  rw [lg_entry_eq]
  generalize (lg_sl ([.ref (h 0), .int (nI a)]) ++ List.replicate (2 - (lg_sl ([.ref (h 0), .int (nI a)])).length) Slot.unset).toArray = ls at hl ⊢
  have hl : lv_has ls 2 [(0, .ref (h 0)), (1, .int (nI a))] := hl
  refine lv_aload_n hx hb d_M_refuse_0 rfl (lv_at hl 0 rfl) ?_
  refine va_get (D := D) (ci := 4) (v := .ref (h 8)) (C := R_M) (T := T_M) (N := 21) hx hb hts iw_M hown hK.1 hP 0 rfl rfl 12 (by decide) (hts _ wd_376) (fun _ h9 => h9) rfl d_M_refuse_1 ?_
  refine lv_iload_n hx hb d_M_refuse_4 rfl (lv_at hl 1 rfl) ?_
  refine lv_dup2_11 hx hb d_M_refuse_5 rfl rfl ?_
  refine va_iald hx hb hK.1 hP 8 0 rfl rfl (vp_in_nI (by omega) (by decide)) d_M_refuse_6 ?_
  refine sx_asi (congrArg refusals (nI_clamp (by omega))) ?_
  refine lv_iconst (v := nI 1) hx hb d_M_refuse_7 (by decide +kernel) ?_
  refine lv_iadd hx hb d_M_refuse_8 ?_
  refine sx_asi (y := refusals a + 1) rfl ?_
  refine va_iast hx hb hK.1 hP hD hS 8 0 rfl rfl (vp_in_nI (by omega) (by decide)) d_M_refuse_9 (fun H locs hP hD hS => ?_)
  rw [nI_clamp (by omega)] at hP hD
  have hP : va_P D vwCl (wM cA h most code (nI n) actions (sx_bI sb) parent letter source come declared declaredPath operations (upd refusals a (refusals a + 1)) triedMany tried world isOutput isThere isBroken wasThere marked) H := hP
  have hD : va_D A (wM cA h most code (nI n) actions (sx_bI sb) parent letter source come declared declaredPath operations (upd refusals a (refusals a + 1)) triedMany tried world isOutput isThere isBroken wasThere marked) := hD
  refine lv_aload_n hx hb d_M_refuse_10 rfl (lv_at hl 0 rfl) ?_
  refine va_get (D := D) (ci := 4) (v := .ref (h 14)) (C := R_M) (T := T_M) (N := 21) hx hb hts iw_M hown hK.1 hP 0 rfl rfl 18 (by decide) (hts _ wd_382) (fun _ h9 => h9) rfl d_M_refuse_11 ?_
  refine lv_iload_n hx hb d_M_refuse_14 rfl (lv_at hl 1 rfl) ?_
  refine lv_aload_n hx hb d_M_refuse_15 rfl (lv_at hl 0 rfl) ?_
  refine va_get (D := D) (ci := 4) (v := .ref (h 14)) (C := R_M) (T := T_M) (N := 21) hx hb hts iw_M hown hK.1 hP 0 rfl rfl 18 (by decide) (hts _ wd_382) (fun _ h9 => h9) rfl d_M_refuse_16 ?_
  refine lv_iload_n hx hb d_M_refuse_19 rfl (lv_at hl 1 rfl) ?_
  refine va_zald hx hb hK.1 hP 14 1 rfl rfl (vp_in_nI (by omega) (by decide)) d_M_refuse_20 ?_
  refine sx_asi (congrArg isBroken (nI_clamp (by omega))) ?_
  refine lv_if_ne (tgt := 31) hx hb d_M_refuse_21 (by decide) (fun c_1 => ?_) (fun c_1 => ?_)
  · refine lv_iconst (v := nI 1) hx hb d_M_refuse_31 (by decide +kernel) ?_
    refine lv_goto (tgt := 36) hx hb d_M_refuse_32 (by decide) ?_
    refine sx_asi (y := sx_bI (!decide (isBroken a = 0) || sb)) (sx_rf1 c_1) ?_
    refine va_zast hx hb hK.1 hP hD hS 14 1 rfl rfl (vp_in_nI (by omega) (by decide)) d_M_refuse_36 (fun H locs hP hD hS => ?_)
    rw [nI_clamp (by omega)] at hP hD
    rw [sx_bI_vnar] at hP hD
    have hP : va_P D vwCl (wM cA h most code (nI n) actions (sx_bI sb) parent letter source come declared declaredPath operations (upd refusals a (refusals a + 1)) triedMany tried world isOutput isThere (upd isBroken a (sx_bI (!decide (isBroken a = 0) || sb))) wasThere marked) H := hP
    have hD : va_D A (wM cA h most code (nI n) actions (sx_bI sb) parent letter source come declared declaredPath operations (upd refusals a (refusals a + 1)) triedMany tried world isOutput isThere (upd isBroken a (sx_bI (!decide (isBroken a = 0) || sb))) wasThere marked) := hD
    refine lv_iconst (v := nI 0) hx hb d_M_refuse_37 (by decide +kernel) ?_
    have hP9 : va_P D vwCl (wM cA h most code (nI n) actions (sx_bI sb) parent letter source come declared declaredPath operations (upd refusals a (refusals a + 1)) triedMany tried world isOutput isThere (upd isBroken a (sx_bI (!decide (isBroken a = 0) || sb))) wasThere marked) H := hP
    have hD9 : va_D A (wM cA h most code (nI n) actions (sx_bI sb) parent letter source come declared declaredPath operations (upd refusals a (refusals a + 1)) triedMany tried world isOutput isThere (upd isBroken a (sx_bI (!decide (isBroken a = 0) || sb))) wasThere marked) := hD
    exact W.iret (v := nI 0) hx hb hr (fun t ht hW => ⟨⟨nI 0, (), rfl, rfl, by rw [ht]; exact hP9, by rw [hAe]; exact hD9⟩, hS.F ht⟩) hS.2.2 d_M_refuse_38
  · refine lv_aload_n hx hb d_M_refuse_24 rfl (lv_at hl 0 rfl) ?_
    refine va_get (D := D) (ci := 4) (v := .int (sx_bI sb)) (C := R_M) (T := T_M) (N := 21) hx hb hts iw_M hown hK.1 hP 0 rfl rfl 4 (by decide) (hts _ wd_368) (fun _ h9 => h9) rfl d_M_refuse_25 ?_
    refine lv_if_eq (tgt := 35) hx hb d_M_refuse_28 (by decide) (fun c_2 => ?_) (fun c_2 => ?_)
    · have c_2 : sb = false := sx_bI0 c_2
      refine lv_iconst (v := nI 0) hx hb d_M_refuse_35 (by decide +kernel) ?_
      refine sx_asi (y := sx_bI (!decide (isBroken a = 0) || sb)) (sx_rf0 c_1 c_2) ?_
      refine va_zast hx hb hK.1 hP hD hS 14 1 rfl rfl (vp_in_nI (by omega) (by decide)) d_M_refuse_36 (fun H locs hP hD hS => ?_)
      rw [nI_clamp (by omega)] at hP hD
      rw [sx_bI_vnar] at hP hD
      have hP : va_P D vwCl (wM cA h most code (nI n) actions (sx_bI sb) parent letter source come declared declaredPath operations (upd refusals a (refusals a + 1)) triedMany tried world isOutput isThere (upd isBroken a (sx_bI (!decide (isBroken a = 0) || sb))) wasThere marked) H := hP
      have hD : va_D A (wM cA h most code (nI n) actions (sx_bI sb) parent letter source come declared declaredPath operations (upd refusals a (refusals a + 1)) triedMany tried world isOutput isThere (upd isBroken a (sx_bI (!decide (isBroken a = 0) || sb))) wasThere marked) := hD
      refine lv_iconst (v := nI 0) hx hb d_M_refuse_37 (by decide +kernel) ?_
      have hP9 : va_P D vwCl (wM cA h most code (nI n) actions (sx_bI sb) parent letter source come declared declaredPath operations (upd refusals a (refusals a + 1)) triedMany tried world isOutput isThere (upd isBroken a (sx_bI (!decide (isBroken a = 0) || sb))) wasThere marked) H := hP
      have hD9 : va_D A (wM cA h most code (nI n) actions (sx_bI sb) parent letter source come declared declaredPath operations (upd refusals a (refusals a + 1)) triedMany tried world isOutput isThere (upd isBroken a (sx_bI (!decide (isBroken a = 0) || sb))) wasThere marked) := hD
      exact W.iret (v := nI 0) hx hb hr (fun t ht hW => ⟨⟨nI 0, (), rfl, rfl, by rw [ht]; exact hP9, by rw [hAe]; exact hD9⟩, hS.F ht⟩) hS.2.2 d_M_refuse_38
    · have c_2 : sb = true := sx_bIn c_2
      refine lv_iconst (v := nI 1) hx hb d_M_refuse_31 (by decide +kernel) ?_
      refine lv_goto (tgt := 36) hx hb d_M_refuse_32 (by decide) ?_
      refine sx_asi (y := sx_bI (!decide (isBroken a = 0) || sb)) (sx_rf2 c_1 c_2) ?_
      refine va_zast hx hb hK.1 hP hD hS 14 1 rfl rfl (vp_in_nI (by omega) (by decide)) d_M_refuse_36 (fun H locs hP hD hS => ?_)
      rw [nI_clamp (by omega)] at hP hD
      rw [sx_bI_vnar] at hP hD
      have hP : va_P D vwCl (wM cA h most code (nI n) actions (sx_bI sb) parent letter source come declared declaredPath operations (upd refusals a (refusals a + 1)) triedMany tried world isOutput isThere (upd isBroken a (sx_bI (!decide (isBroken a = 0) || sb))) wasThere marked) H := hP
      have hD : va_D A (wM cA h most code (nI n) actions (sx_bI sb) parent letter source come declared declaredPath operations (upd refusals a (refusals a + 1)) triedMany tried world isOutput isThere (upd isBroken a (sx_bI (!decide (isBroken a = 0) || sb))) wasThere marked) := hD
      refine lv_iconst (v := nI 0) hx hb d_M_refuse_37 (by decide +kernel) ?_
      have hP9 : va_P D vwCl (wM cA h most code (nI n) actions (sx_bI sb) parent letter source come declared declaredPath operations (upd refusals a (refusals a + 1)) triedMany tried world isOutput isThere (upd isBroken a (sx_bI (!decide (isBroken a = 0) || sb))) wasThere marked) H := hP
      have hD9 : va_D A (wM cA h most code (nI n) actions (sx_bI sb) parent letter source come declared declaredPath operations (upd refusals a (refusals a + 1)) triedMany tried world isOutput isThere (upd isBroken a (sx_bI (!decide (isBroken a = 0) || sb))) wasThere marked) := hD
      exact W.iret (v := nI 0) hx hb hr (fun t ht hW => ⟨⟨nI 0, (), rfl, rfl, by rw [ht]; exact hP9, by rw [hAe]; exact hD9⟩, hS.F ht⟩) hS.2.2 d_M_refuse_38
