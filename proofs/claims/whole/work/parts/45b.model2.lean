set_option maxHeartbeats 4000000 in
set_option maxRecDepth 100000 in
theorem k_mark (l : Launch) (D : va_G) (cA : Nat → ClassId) (sz : Nat) (h : Nat → Nat) (most : Int32) (code : Int32) (actions : Int32) (isStrict : Int32) (letter : Nat → Int32) (source : Nat → Int32) (come : Nat → Int32) (operations : Nat → Int32) (refusals : Nat → Int32) (triedMany : Nat → Int32) (tried : Nat → Int32) (isThere : Nat → Int32) (isBroken : Nat → Int32) (wasThere : Nat → Int32) (marked : Nat → Int32) (n : Nat) (α : sx_A) (na L : Nat) (hI : sx_INV n na L α) (a : Nat) (ha : a < na) : Met l y_M_mark w_M_mark ({ frames := 2, cells := 0, slots := 0, locals := 48 }) (sx_Pw D cA [.ref (h 0), .int (nI a)] (wM cA h most code (nI n) actions isStrict (α 1) letter source come (α 4) (α 5) operations refusals triedMany tried (α 10) (α 11) isThere isBroken wasThere marked) sz) (va_Qv (fun (u : Nat → Int32) => ∀ q, q < 60 → u q = sx_bI (sx_mk n α a q)) (sx_Bw D (wM cA h most code (nI n) actions isStrict (α 1) letter source come (α 4) (α 5) operations refusals triedMany tried (α 10) (α 11) isThere isBroken wasThere marked) sz (fun u => wM cA h most code (nI n) actions isStrict (α 1) letter source come (α 4) (α 5) operations refusals triedMany tried (α 10) (α 11) isThere isBroken wasThere u)) (va_A (wM cA h most code (nI n) actions isStrict (α 1) letter source come (α 4) (α 5) operations refusals triedMany tried (α 10) (α 11) isThere isBroken wasThere marked) sz)) 0 0 (va_A (wM cA h most code (nI n) actions isStrict (α 1) letter source come (α 4) (α 5) operations refusals triedMany tried (α 10) (α 11) isThere isBroken wasThere marked) sz) := by
  refine Met.ofW (cc := b_M_mark) (maxL := 4) (ret := none) (by decide) rfl ?_
  intro pG eG s m args below meth cG s₁ B hml hv
  obtain ⟨rfl, hsz, hP, hK, hD0⟩ := hv
  have hx := B.exec
  have hb := B.bytes
  have hr := B.returns
  have hts0 := atoms_spec (ws := w_M_mark) B.pre
  have hts : ∀ w ∈ sx_gw, w.before _ s = true := fun w h => hts0 w (List.mem_cons_of_mem _ h)
  have hown : s.vm.findClass R_M = some m.cls := findClass_of_methodNamed B.named
  have hlocks := B.notSynchronized
  subst hsz
  have hD := hD0.self (sz := s.heap.size)
  generalize hAe : va_A (wM cA h most code (nI n) actions isStrict (α 1) letter source come (α 4) (α 5) operations refusals triedMany tried (α 10) (α 11) isThere isBroken wasThere marked) s.heap.size = A at hD ⊢
  have hA : ∀ q : Nat, s.heap.size ≤ q → A q := fun q h => by rw [← hAe]; exact Or.inr h
  have hS : va_S A s.heap s.heap [] := va_S.rf
  have hl := lv_entry ([.ref (h 0), .int (nI a)]) (n := 4) (Nat.le_of_ble_eq_true rfl)
  rw [lg_entry_eq]
  generalize (lg_sl ([.ref (h 0), .int (nI a)]) ++ List.replicate (4 - (lg_sl ([.ref (h 0), .int (nI a)])).length) Slot.unset).toArray = ls at hl ⊢
  have hl : lv_has ls 4 [(0, .ref (h 0)), (1, .int (nI a))] := hl
  have hn31 := sx_INV_n hI
  have hn60 := hI.1.1.2
  have h1n := hI.1.1.1
  have hna := hI.1.2.1
  have hAc := sx_INV_A hI ha
  have hd12 := (sx_dN_ok hAc).1
  refine lv_iconst (v := nI 0) hx hb d_M_mark_0 (by decide +kernel) ?_
  refine lv_istore_n (lv' := [(2, .int (nI 0)), (0, .ref (h 0)), (1, .int (nI a))]) hx hb d_M_mark_1 rfl hl (by decide) rfl (fun ls hl => ?_)
  refine sx_loopW (σ := Nat × (Nat → Int32)) (fun x => x.1 ≤ 60 ∧ ∀ q, q < x.1 → x.2 q = sx_bI false) (fun x => [(2, .int (nI x.1)), (0, .ref (h 0)), (1, .int (nI a))]) (fun x => wM cA h most code (nI n) actions isStrict (α 1) letter source come (α 4) (α 5) operations refusals triedMany tried (α 10) (α 11) isThere isBroken wasThere x.2) (fun x => 60 - x.1) (0, marked) (⟨by omega, fun q hq => absurd hq (Nat.not_lt_zero q)⟩) (lv_sub hl [0, 1, 2] rfl) hP hD hS (fun x hJ ih ls H locs hl hP hD hS => ?_)
  obtain ⟨p, m⟩ := x
  obtain ⟨hp1, hm1⟩ := hJ
  have hl : lv_has ls 4 [(2, .int (nI p)), (0, .ref (h 0)), (1, .int (nI a))] := hl
  have hP : va_P D vwCl (wM cA h most code (nI n) actions isStrict (α 1) letter source come (α 4) (α 5) operations refusals triedMany tried (α 10) (α 11) isThere isBroken wasThere m) H := hP
  have hD : va_D A (wM cA h most code (nI n) actions isStrict (α 1) letter source come (α 4) (α 5) operations refusals triedMany tried (α 10) (α 11) isThere isBroken wasThere m) := hD
  have ih_2 := ih
  refine lv_iload_n hx hb d_M_mark_2 rfl (lv_at hl 0 rfl) ?_
  refine lv_bipush (v := nI 60) hx hb d_M_mark_3 (by decide +kernel) ?_
  refine lv_icmp_ge (tgt := 21) hx hb d_M_mark_5 (by decide) (fun c_1 => ?_) (fun c_1 => ?_)
  · have c_1 : 60 ≤ p := (nI_leI (by decide) (by omega)).mp c_1
    refine lv_iconst (v := nI 1) hx hb d_M_mark_21 (by decide +kernel) ?_
    refine lv_istore_n (lv' := [(2, .int (nI 1)), (0, .ref (h 0)), (1, .int (nI a))]) hx hb d_M_mark_22 rfl hl (by decide) rfl (fun ls hl => ?_)
    refine sx_loopW (σ := Nat × (Nat → Int32)) (fun x => 1 ≤ x.1 ∧ x.1 ≤ n ∧ ∀ q, q < 60 → x.2 q = sx_bI (sx_any (sx_mkF α a q) x.1)) (fun x => [(2, .int (nI x.1)), (0, .ref (h 0)), (1, .int (nI a))]) (fun x => wM cA h most code (nI n) actions isStrict (α 1) letter source come (α 4) (α 5) operations refusals triedMany tried (α 10) (α 11) isThere isBroken wasThere x.2) (fun x => n - x.1) (1, m) (⟨by omega, by omega, sx_mk1 (show 60 ≤ p by omega) hm1⟩) (lv_sub hl [0, 1, 2] rfl) hP hD hS (fun x hJ ih ls H locs hl hP hD hS => ?_)
    obtain ⟨p2, m2⟩ := x
    obtain ⟨hp2, hp3, hm2⟩ := hJ
    have hl : lv_has ls 4 [(2, .int (nI p2)), (0, .ref (h 0)), (1, .int (nI a))] := hl
    have hP : va_P D vwCl (wM cA h most code (nI n) actions isStrict (α 1) letter source come (α 4) (α 5) operations refusals triedMany tried (α 10) (α 11) isThere isBroken wasThere m2) H := hP
    have hD : va_D A (wM cA h most code (nI n) actions isStrict (α 1) letter source come (α 4) (α 5) operations refusals triedMany tried (α 10) (α 11) isThere isBroken wasThere m2) := hD
    have ih_23 := ih
    refine lv_iload_n hx hb d_M_mark_23 rfl (lv_at hl 0 rfl) ?_
    refine lv_aload_n hx hb d_M_mark_24 rfl (lv_at hl 1 rfl) ?_
    refine va_get (D := D) (ci := 4) (v := .int (nI n)) (C := R_M) (T := T_M) (N := 21) hx hb hts iw_M hown hK.1 hP 0 rfl rfl 2 (by decide) (hts _ wd_366) (fun _ h9 => h9) rfl d_M_mark_25 ?_
    refine lv_icmp_ge (tgt := 80) hx hb d_M_mark_28 (by decide) (fun c_2 => ?_) (fun c_2 => ?_)
    · have c_2 : n ≤ p2 := (nI_leI (by omega) (by omega)).mp c_2
      have hP9 : va_P D vwCl (wM cA h most code (nI n) actions isStrict (α 1) letter source come (α 4) (α 5) operations refusals triedMany tried (α 10) (α 11) isThere isBroken wasThere m2) H := hP
      have hD9 : va_D A (wM cA h most code (nI n) actions isStrict (α 1) letter source come (α 4) (α 5) operations refusals triedMany tried (α 10) (α 11) isThere isBroken wasThere m2) := hD
      exact W.vret hx hb hr (fun t ht hW => ⟨⟨m2, rfl, (sx_mk_r hm2 (show p2 = n by omega)), by rw [ht]; exact hP9, by rw [hAe]; exact hD9⟩, hS.F ht⟩) hS.2.2 d_M_mark_80
    · have c_2 : p2 < n := Nat.not_le.mp (fun z => c_2 ((nI_leI (by omega) (by omega)).mpr z))
      refine lv_aload_n hx hb d_M_mark_31 rfl (lv_at hl 1 rfl) ?_
      refine lv_iload_n hx hb d_M_mark_32 rfl (lv_at hl 2 rfl) ?_
      refine lv_iload_n hx hb d_M_mark_33 rfl (lv_at hl 0 rfl) ?_
      refine vp_callSi (va_runV (As := [.int (nI a), .int (nI p2)]) (rest := []) ⟨hx, hb, hml, hown, hts⟩ (k_at l D cA h most code actions isStrict (α 1) letter source come (α 4) (α 5) operations refusals triedMany tried (α 10) (α 11) isThere isBroken wasThere m2 n α a p2 (by omega) (by omega)) (cwV 2 hts (sx_GV wd_491 wd_493 ws_18 wd_5 wd_494) rfl rfl rfl (by decide +kernel) ⟨Nat.le_of_ble_eq_true rfl, Nat.le_of_ble_eq_true rfl⟩) (sx_preV hK hP (va_recv hK.1 hP (ci := 4) (q0 := 0) rfl rfl)) rfl rfl hl.1 rfl (lv_room (Nat.le_of_ble_eq_true rfl)) d_M_mark_34 ⟨Nat.le_of_ble_eq_true rfl, Nat.le_of_ble_eq_true rfl⟩).run (fun r_4 hr_3 => ?_)
      subst hr_3
      refine lv_if_eq (tgt := 74) hx hb d_M_mark_37 (by decide) (fun c_5 => ?_) (fun c_5 => ?_)
      · refine lv_iinc (v := nI (p2 + 1)) (lv' := [(2, .int (nI (p2 + 1))), (0, .ref (h 0)), (1, .int (nI a))]) hx hb d_M_mark_74 hl (k := 0) rfl (nI_1 p2) (by decide) rfl (fun ls hl => ?_)
        refine lv_goto (tgt := 23) hx hb d_M_mark_77 (by decide) ?_
        exact ih_23 (p2 + 1, m2) (⟨by omega, by omega, sx_mk_f (Or.inl c_5) hm2⟩) (by omega) ls _ _ (lv_sub hl [0, 1, 2] rfl) hP hD hS
      · refine lv_aload_n hx hb d_M_mark_40 rfl (lv_at hl 1 rfl) ?_
        refine lv_iload_n hx hb d_M_mark_41 rfl (lv_at hl 2 rfl) ?_
        refine lv_iload_n hx hb d_M_mark_42 rfl (lv_at hl 0 rfl) ?_
        refine lv_iconst (v := nI 1) hx hb d_M_mark_43 (by decide +kernel) ?_
        refine sx_asi (y := sx_bI true) rfl ?_
        refine vp_callSi (va_runV (As := [.int (nI a), .int (nI p2), .int (sx_bI true)]) (rest := []) ⟨hx, hb, hml, hown, hts⟩ (k_isDecl l D cA h most code actions isStrict letter source come operations refusals triedMany tried (α 10) isThere isBroken wasThere m2 n α na L hI a (by omega) p2 (by omega) true) (cwV 3 hts (sx_GV wd_475 wd_477 ws_15 wd_5 wd_478) rfl rfl rfl (by decide +kernel) ⟨Nat.le_of_ble_eq_true rfl, Nat.le_of_ble_eq_true rfl⟩) (sx_preV hK hP (va_recv hK.1 hP (ci := 4) (q0 := 0) rfl rfl)) rfl rfl hl.1 rfl (lv_room (Nat.le_of_ble_eq_true rfl)) d_M_mark_44 ⟨Nat.le_of_ble_eq_true rfl, Nat.le_of_ble_eq_true rfl⟩).run (fun r_7 hr_6 => ?_)
        subst hr_6
        refine lv_if_eq (tgt := 74) hx hb d_M_mark_47 (by decide) (fun c_8 => ?_) (fun c_8 => ?_)
        · have c_8 : (sx_isD α a true p2) = false := sx_bI0 c_8
          refine lv_iinc (v := nI (p2 + 1)) (lv' := [(2, .int (nI (p2 + 1))), (0, .ref (h 0)), (1, .int (nI a))]) hx hb d_M_mark_74 hl (k := 0) rfl (nI_1 p2) (by decide) rfl (fun ls hl => ?_)
          refine lv_goto (tgt := 23) hx hb d_M_mark_77 (by decide) ?_
          exact ih_23 (p2 + 1, m2) (⟨by omega, by omega, sx_mk_f (Or.inr c_8) hm2⟩) (by omega) ls _ _ (lv_sub hl [0, 1, 2] rfl) hP hD hS
        · have c_8 : (sx_isD α a true p2) = true := sx_bIn c_8
          refine lv_iload_n hx hb d_M_mark_50 rfl (lv_at hl 0 rfl) ?_
          refine lv_istore_n (lv' := [(3, .int (nI p2)), (2, .int (nI p2)), (0, .ref (h 0)), (1, .int (nI a))]) hx hb d_M_mark_51 rfl hl (by decide) rfl (fun ls hl => ?_)
          refine sx_loopW (σ := Nat × (Nat → Int32)) (fun x => x.1 ≤ n ∧ (∀ q, q < 60 → x.2 q = sx_bI (sx_any (sx_mkF α a q) p2 || (sx_U (α 1) p2 q && !sx_Ux (α 1) q x.1))) ∧ ∀ q, sx_Ux (α 1) q x.1 = true → sx_U (α 1) p2 q = true) (fun x => [(3, .int (sx_pd x.1)), (2, .int (nI p2)), (0, .ref (h 0)), (1, .int (nI a))]) (fun x => wM cA h most code (nI n) actions isStrict (α 1) letter source come (α 4) (α 5) operations refusals triedMany tried (α 10) (α 11) isThere isBroken wasThere x.2) (fun x => x.1) (p2 + 1, m2) (⟨by omega, sx_mk_i hm2, fun q hq => hq⟩) (lv_sub hl [0, 1, 2, 3] rfl) hP hD hS (fun x hJ ih ls H locs hl hP hD hS => ?_)
          obtain ⟨w, m3⟩ := x
          obtain ⟨hw1, hm3, hs3⟩ := hJ
          have hl : lv_has ls 4 [(3, .int (sx_pd w)), (2, .int (nI p2)), (0, .ref (h 0)), (1, .int (nI a))] := hl
          have hP : va_P D vwCl (wM cA h most code (nI n) actions isStrict (α 1) letter source come (α 4) (α 5) operations refusals triedMany tried (α 10) (α 11) isThere isBroken wasThere m3) H := hP
          have hD : va_D A (wM cA h most code (nI n) actions isStrict (α 1) letter source come (α 4) (α 5) operations refusals triedMany tried (α 10) (α 11) isThere isBroken wasThere m3) := hD
          have ih_52 := ih
          refine lv_iload_n hx hb d_M_mark_52 rfl (lv_at hl 0 rfl) ?_
          refine lv_iconst (v := (-1)) hx hb d_M_mark_53 (by decide +kernel) ?_
          refine lv_icmp_eq (tgt := 74) hx hb d_M_mark_54 (by decide) (fun c_9 => ?_) (fun c_9 => ?_)
          · refine lv_iinc (v := nI (p2 + 1)) (lv' := [(2, .int (nI (p2 + 1))), (3, .int (sx_pd w)), (0, .ref (h 0)), (1, .int (nI a))]) hx hb d_M_mark_74 hl (k := 1) rfl (nI_1 p2) (by decide) rfl (fun ls hl => ?_)
            refine lv_goto (tgt := 23) hx hb d_M_mark_77 (by decide) ?_
            have hw0 := sx_pd_0 (by omega) c_9
            subst hw0
            exact ih_23 (p2 + 1, m3) (⟨by omega, by omega, sx_mk_t (by omega) c_5 c_8 hm3⟩) (by omega) ls _ _ (lv_sub hl [0, 2, 3] rfl) hP hD hS
          · obtain ⟨j, rfl⟩ := sx_pd_s c_9
            have hl : lv_has ls 4 [(3, .int (nI j)), (2, .int (nI p2)), (0, .ref (h 0)), (1, .int (nI a))] := hl
            refine lv_aload_n hx hb d_M_mark_57 rfl (lv_at hl 2 rfl) ?_
            refine va_get (D := D) (ci := 4) (v := .ref (h 16)) (C := R_M) (T := T_M) (N := 21) hx hb hts iw_M hown hK.1 hP 0 rfl rfl 20 (by decide) (hts _ wd_384) (fun _ h9 => h9) rfl d_M_mark_58 ?_
            refine lv_iload_n hx hb d_M_mark_61 rfl (lv_at hl 0 rfl) ?_
            refine lv_iconst (v := nI 1) hx hb d_M_mark_62 (by decide +kernel) ?_
            refine va_zast hx hb hK.1 hP hD hS 16 1 rfl rfl (vp_in_nI (by omega) (by decide)) d_M_mark_63 (fun H locs hP hD hS => ?_)
            rw [nI_clamp (by omega)] at hP hD
            rw [show vp_nar .boolean (nI 1) = nI 1 from by decide +kernel] at hP hD
            have hP : va_P D vwCl (wM cA h most code (nI n) actions isStrict (α 1) letter source come (α 4) (α 5) operations refusals triedMany tried (α 10) (α 11) isThere isBroken wasThere (upd m3 j (nI 1))) H := hP
            have hD : va_D A (wM cA h most code (nI n) actions isStrict (α 1) letter source come (α 4) (α 5) operations refusals triedMany tried (α 10) (α 11) isThere isBroken wasThere (upd m3 j (nI 1))) := hD
            refine lv_aload_n hx hb d_M_mark_64 rfl (lv_at hl 2 rfl) ?_
            refine va_get (D := D) (ci := 4) (v := .ref (h 1)) (C := R_M) (T := T_M) (N := 21) hx hb hts iw_M hown hK.1 hP 0 rfl rfl 5 (by decide) (hts _ wd_369) (fun _ h9 => h9) rfl d_M_mark_65 ?_
            refine lv_iload_n hx hb d_M_mark_68 rfl (lv_at hl 0 rfl) ?_
            refine va_iald hx hb hK.1 hP 1 0 rfl rfl (vp_in_nI (by omega) (by decide)) d_M_mark_69 ?_
            refine sx_asi (congrArg (α 1) (nI_clamp (by omega))) ?_
            obtain ⟨y, hy, ey, hU⟩ := sx_PO_pd hI.2.1 hn60 (show j < n by omega)
            refine sx_asi ey ?_
            refine lv_istore_n (lv' := [(3, .int (sx_pd y)), (2, .int (nI p2)), (0, .ref (h 0)), (1, .int (nI a))]) hx hb d_M_mark_70 rfl hl (by decide) rfl (fun ls hl => ?_)
            refine lv_goto (tgt := 52) hx hb d_M_mark_71 (by decide) ?_
            exact ih_52 (y, upd m3 j (nI 1)) (⟨by omega, sx_mk_s hI.2.1 hn60 (by omega) hy hU hs3 hm3⟩) (by omega) ls _ _ (lv_sub hl [0, 1, 2, 3] rfl) hP hD hS
  · have c_1 : p < 60 := Nat.not_le.mp (fun z => c_1 ((nI_leI (by decide) (by omega)).mpr z))
    refine lv_aload_n hx hb d_M_mark_8 rfl (lv_at hl 1 rfl) ?_
    refine va_get (D := D) (ci := 4) (v := .ref (h 16)) (C := R_M) (T := T_M) (N := 21) hx hb hts iw_M hown hK.1 hP 0 rfl rfl 20 (by decide) (hts _ wd_384) (fun _ h9 => h9) rfl d_M_mark_9 ?_
    refine lv_iload_n hx hb d_M_mark_12 rfl (lv_at hl 0 rfl) ?_
    refine lv_iconst (v := nI 0) hx hb d_M_mark_13 (by decide +kernel) ?_
    refine va_zast hx hb hK.1 hP hD hS 16 1 rfl rfl (vp_in_nI (by omega) (by decide)) d_M_mark_14 (fun H locs hP hD hS => ?_)
    rw [nI_clamp (by omega)] at hP hD
    rw [show vp_nar .boolean (nI 0) = nI 0 from by decide +kernel] at hP hD
    have hP : va_P D vwCl (wM cA h most code (nI n) actions isStrict (α 1) letter source come (α 4) (α 5) operations refusals triedMany tried (α 10) (α 11) isThere isBroken wasThere (upd m p (nI 0))) H := hP
    have hD : va_D A (wM cA h most code (nI n) actions isStrict (α 1) letter source come (α 4) (α 5) operations refusals triedMany tried (α 10) (α 11) isThere isBroken wasThere (upd m p (nI 0))) := hD
    refine lv_iinc (v := nI (p + 1)) (lv' := [(2, .int (nI (p + 1))), (0, .ref (h 0)), (1, .int (nI a))]) hx hb d_M_mark_15 hl (k := 0) rfl (nI_1 p) (by decide) rfl (fun ls hl => ?_)
    refine lv_goto (tgt := 2) hx hb d_M_mark_18 (by decide) ?_
    exact ih_2 (p + 1, upd m p (nI 0)) (⟨by omega, sx_mk0 hm1⟩) (by omega) ls _ _ (lv_sub hl [0, 1, 2] rfl) hP hD hS
