set_option maxHeartbeats 4000000 in
set_option maxRecDepth 100000 in
theorem m_declare (l : Launch) (D : va_G) (cA : Nat → ClassId) (sz : Nat) (h : Nat → Nat) (L : Nat) (cd : Int32) (n na : Nat) (sb : Bool) (α : sx_A) (cm mk : Nat → Int32) (hI : sx_INV n na L α) (a : Nat) (ha : a < na) (p : Int32) (ob : Bool) : Met l y_M_declare w_M_declare ({ frames := 1, cells := 0, slots := 0, locals := 23 }) (sx_Pw D cA [.ref (h 0), .int (nI a), .int p, .int (sx_bI ob)] (wMa cA h L cd n na sb α cm mk) sz) (va_Qi (fun r (_ : Unit) => r = sx_decA n α a p) (sx_Bw D (wMa cA h L cd n na sb α cm mk) sz (fun _ => wMa cA h L (nI 0) n na sb (sx_decS n α a p ob) cm mk)) (va_A (wMa cA h L cd n na sb α cm mk) sz)) 0 0 (va_A (wMa cA h L cd n na sb α cm mk) sz) := by
  refine Met.ofW (cc := b_M_declare) (maxL := 5) (ret := (some .int)) (by decide) rfl ?_
  intro pG eG s m args below meth cG s₁ B hml hv
  obtain ⟨rfl, hsz, hP, hK, hD0⟩ := hv
  have hx := B.exec
  have hb := B.bytes
  have hr := B.returns
  have hts0 := atoms_spec (ws := w_M_declare) B.pre
  have hts : ∀ w ∈ sx_gw, w.before _ s = true := fun w h => hts0 w (List.mem_cons_of_mem _ h)
  have hown : s.vm.findClass R_M = some m.cls := findClass_of_methodNamed B.named
  have hlocks := B.notSynchronized
  subst hsz
  have hD := hD0.self (sz := s.heap.size)
  generalize hAe : va_A (wMa cA h L cd n na sb α cm mk) s.heap.size = A at hD ⊢
  have hA : ∀ q : Nat, s.heap.size ≤ q → A q := fun q h => by rw [← hAe]; exact Or.inr h
  have hS : va_S A s.heap s.heap [] := va_S.rf
  have hl := lv_entry ([.ref (h 0), .int (nI a), .int p, .int (sx_bI ob)]) (n := 5) (Nat.le_of_ble_eq_true rfl)
  rw [lg_entry_eq]
  generalize (lg_sl ([.ref (h 0), .int (nI a), .int p, .int (sx_bI ob)]) ++ List.replicate (5 - (lg_sl ([.ref (h 0), .int (nI a), .int p, .int (sx_bI ob)])).length) Slot.unset).toArray = ls at hl ⊢
  have hl : lv_has ls 5 [(0, .ref (h 0)), (1, .int (nI a)), (2, .int p), (3, .int (sx_bI ob))] := hl
  have hn31 := sx_INV_n hI
  have hn60 := hI.1.1.2
  have h1n := hI.1.1.1
  have hna := hI.1.2.1
  have hAc := sx_INV_A hI ha
  have hd12 := (sx_dN_ok hAc).1
  have hP : va_P D vwCl (wM cA h (nI L) cd (nI n) (nI na) (sx_bI sb) (α 1) (α 2) (α 3) cm (α 4) (α 5) (α 6) (α 7) (α 8) (α 9) (α 10) (α 11) (α 12) (α 13) (α 14) mk) s.heap := hP
  have hD : va_D A (wM cA h (nI L) cd (nI n) (nI na) (sx_bI sb) (α 1) (α 2) (α 3) cm (α 4) (α 5) (α 6) (α 7) (α 8) (α 9) (α 10) (α 11) (α 12) (α 13) (α 14) mk) := hD
  refine lv_aload_n hx hb d_M_declare_0 rfl (lv_at hl 0 rfl) ?_
  refine lv_iconst (v := nI 0) hx hb d_M_declare_1 (by decide +kernel) ?_
  refine va_put (D := D) (ci := 4) (v := .int (nI 0)) (ty := .int) (C := R_M) (T := T_M) (N := 21) hx hb hts iw_M t_M o_M n_M hown hK.1 hP hD hS 0 rfl rfl 1 (by decide) (hts _ wd_365) (fun _ h9 => h9) rfl (by decide +kernel) rfl rfl (Nat.le_of_ble_eq_true rfl) d_M_declare_2 (fun H locs hP hD hS => ?_)
  have hP : va_P D vwCl (wM cA h (nI L) (nI 0) (nI n) (nI na) (sx_bI sb) (α 1) (α 2) (α 3) cm (α 4) (α 5) (α 6) (α 7) (α 8) (α 9) (α 10) (α 11) (α 12) (α 13) (α 14) mk) H := hP
  have hD : va_D A (wM cA h (nI L) (nI 0) (nI n) (nI na) (sx_bI sb) (α 1) (α 2) (α 3) cm (α 4) (α 5) (α 6) (α 7) (α 8) (α 9) (α 10) (α 11) (α 12) (α 13) (α 14) mk) := hD
  refine lv_aload_n hx hb d_M_declare_5 rfl (lv_at hl 0 rfl) ?_
  refine lv_iload_n hx hb d_M_declare_6 rfl (lv_at hl 1 rfl) ?_
  refine vp_callSi (va_runV (As := [.int (nI a)]) (rest := []) ⟨hx, hb, hml, hown, hts⟩ (k_isActM l D cA h (nI L) (nI 0) (sx_bI sb) (α 1) (α 2) (α 3) cm (α 4) (α 5) (α 6) (α 7) (α 8) (α 9) (α 10) (α 11) (α 12) (α 13) (α 14) mk n na α (nI a)) (cwV 1 hts (sx_GV wd_463 wd_465 ws_14 wd_5 wd_466) rfl rfl rfl (by decide +kernel) ⟨Nat.le_of_ble_eq_true rfl, Nat.le_of_ble_eq_true rfl⟩) (sx_preV hK hP (va_recv hK.1 hP (ci := 4) (q0 := 0) rfl rfl)) rfl rfl hl.1 rfl (lv_room (Nat.le_of_ble_eq_true rfl)) d_M_declare_7 ⟨Nat.le_of_ble_eq_true rfl, Nat.le_of_ble_eq_true rfl⟩).run (fun r_2 hr_1 => ?_)
  rw [sx_has_nI (by omega) (by omega)] at hr_1
  subst hr_1
  refine lv_if_eq (tgt := 45) hx hb d_M_declare_10 (by decide) (fun c_3 => ?_) (fun c_3 => ?_)
  · exact absurd c_3 (by decide)
  · refine lv_aload_n hx hb d_M_declare_13 rfl (lv_at hl 0 rfl) ?_
    refine lv_iload_n hx hb d_M_declare_14 rfl (lv_at hl 2 rfl) ?_
    refine vp_callSi (va_runV (As := [.int p]) (rest := []) ⟨hx, hb, hml, hown, hts⟩ (k_isPathM l D cA h (nI L) (nI 0) (nI na) (sx_bI sb) (α 1) (α 2) (α 3) cm (α 4) (α 5) (α 6) (α 7) (α 8) (α 9) (α 10) (α 11) (α 12) (α 13) (α 14) mk n α p) (cwV 1 hts (sx_GV wd_432 wd_434 ws_11 wd_5 wd_435) rfl rfl rfl (by decide +kernel) ⟨Nat.le_of_ble_eq_true rfl, Nat.le_of_ble_eq_true rfl⟩) (sx_preV hK hP (va_recv hK.1 hP (ci := 4) (q0 := 0) rfl rfl)) rfl rfl hl.1 rfl (lv_room (Nat.le_of_ble_eq_true rfl)) d_M_declare_15 ⟨Nat.le_of_ble_eq_true rfl, Nat.le_of_ble_eq_true rfl⟩).run (fun r_5 hr_4 => ?_)
    subst hr_4
    refine lv_if_eq (tgt := 45) hx hb d_M_declare_18 (by decide) (fun c_6 => ?_) (fun c_6 => ?_)
    · have c_6 : (sx_has n p) = false := sx_bI0 c_6
      refine lv_iconst (v := (-1)) hx hb d_M_declare_45 (by decide +kernel) ?_
      have z := sx_dec_no (n := n) (α := α) (a := a) (p := p) (o := ob) (sx_decO_p c_6)
      have hP9 : va_P D vwCl (wMa cA h L (nI 0) n na sb (sx_decS n α a p ob) cm mk) H := by rw [z.2]; exact hP
      have hD9 : va_D A (wMa cA h L (nI 0) n na sb (sx_decS n α a p ob) cm mk) := by rw [z.2]; exact hD
      exact W.iret (v := (-1)) hx hb hr (fun t ht hW => ⟨⟨(-1), (), rfl, by rw [z.1], by rw [ht]; exact hP9, by rw [hAe]; exact hD9⟩, hS.F ht⟩) hS.2.2 d_M_declare_46
    · have c_6 : (sx_has n p) = true := sx_bIn c_6
      obtain ⟨j, hj, rfl⟩ := sx_has_t (by omega) c_6
      refine lv_iload_n hx hb d_M_declare_21 rfl (lv_at hl 2 rfl) ?_
      refine lv_if_eq (tgt := 45) hx hb d_M_declare_22 (by decide) (fun c_7 => ?_) (fun c_7 => ?_)
      · have c_7 : j = 0 := sx_n0 (by omega) c_7
        refine lv_iconst (v := (-1)) hx hb d_M_declare_45 (by decide +kernel) ?_
        have z := sx_dec_no (n := n) (α := α) (a := a) (p := nI j) (o := ob) (sx_decO_0 (show nI j = 0 by rw [c_7]; rfl))
        have hP9 : va_P D vwCl (wMa cA h L (nI 0) n na sb (sx_decS n α a (nI j) ob) cm mk) H := by rw [z.2]; exact hP
        have hD9 : va_D A (wMa cA h L (nI 0) n na sb (sx_decS n α a (nI j) ob) cm mk) := by rw [z.2]; exact hD
        exact W.iret (v := (-1)) hx hb hr (fun t ht hW => ⟨⟨(-1), (), rfl, by rw [z.1], by rw [ht]; exact hP9, by rw [hAe]; exact hD9⟩, hS.F ht⟩) hS.2.2 d_M_declare_46
      · have c_7 : 0 < j := sx_nne (by omega) c_7
        refine lv_aload_n hx hb d_M_declare_25 rfl (lv_at hl 0 rfl) ?_
        refine va_get (D := D) (ci := 4) (v := .ref (h 5)) (C := R_M) (T := T_M) (N := 21) hx hb hts iw_M hown hK.1 hP 0 rfl rfl 9 (by decide) (hts _ wd_373) (fun _ h9 => h9) rfl d_M_declare_26 ?_
        refine lv_iload_n hx hb d_M_declare_29 rfl (lv_at hl 1 rfl) ?_
        refine va_iald hx hb hK.1 hP 5 0 rfl rfl (vp_in_nI (by omega) (by decide)) d_M_declare_30 ?_
        refine sx_asi (congrArg (α 4) (nI_clamp (by omega))) ?_
        refine sx_asi (sx_dN_ok hAc).2 ?_
        refine lv_bipush (v := nI 12) hx hb d_M_declare_31 (by decide +kernel) ?_
        refine lv_icmp_eq (tgt := 45) hx hb d_M_declare_33 (by decide) (fun c_8 => ?_) (fun c_8 => ?_)
        · have c_8 : sx_dN α a = 12 := (nI_eq (by omega) (by decide)).mp c_8
          refine lv_iconst (v := (-1)) hx hb d_M_declare_45 (by decide +kernel) ?_
          have z := sx_dec_no (n := n) (α := α) (a := a) (p := nI j) (o := ob) (sx_decO_f (by rw [(sx_dN_ok hAc).2, c_8]; rfl))
          have hP9 : va_P D vwCl (wMa cA h L (nI 0) n na sb (sx_decS n α a (nI j) ob) cm mk) H := by rw [z.2]; exact hP
          have hD9 : va_D A (wMa cA h L (nI 0) n na sb (sx_decS n α a (nI j) ob) cm mk) := by rw [z.2]; exact hD
          exact W.iret (v := (-1)) hx hb hr (fun t ht hW => ⟨⟨(-1), (), rfl, by rw [z.1], by rw [ht]; exact hP9, by rw [hAe]; exact hD9⟩, hS.F ht⟩) hS.2.2 d_M_declare_46
        · have c_8 : ¬ sx_dN α a = 12 := fun z => c_8 ((nI_eq (by omega) (by decide)).mpr z)
          refine lv_aload_n hx hb d_M_declare_36 rfl (lv_at hl 0 rfl) ?_
          refine va_get (D := D) (ci := 4) (v := .ref (h 13)) (C := R_M) (T := T_M) (N := 21) hx hb hts iw_M hown hK.1 hP 0 rfl rfl 17 (by decide) (hts _ wd_381) (fun _ h9 => h9) rfl d_M_declare_37 ?_
          refine lv_iload_n hx hb d_M_declare_40 rfl (lv_at hl 1 rfl) ?_
          refine va_zald hx hb hK.1 hP 13 1 rfl rfl (vp_in_nI (by omega) (by decide)) d_M_declare_41 ?_
          refine sx_asi (congrArg (α 12) (nI_clamp (by omega))) ?_
          refine sx_asi (y := sx_bI (sx_fb α 12 a)) (sx_fb_ok hAc.2.2.2.2.2.1).symm ?_
          refine lv_if_eq (tgt := 47) hx hb d_M_declare_42 (by decide) (fun c_9 => ?_) (fun c_9 => ?_)
          · have c_9 : (sx_fb α 12 a) = false := sx_bI0 c_9
            refine lv_iconst (v := nI 0) hx hb d_M_declare_47 (by decide +kernel) ?_
            refine lv_istore (lv' := [(4, .int (nI 0)), (0, .ref (h 0)), (1, .int (nI a)), (2, .int (nI j)), (3, .int (sx_bI ob))]) hx hb d_M_declare_48 hl (by decide) rfl (fun ls hl => ?_)
            refine sx_loop (σ := Nat) (fun x => x ≤ sx_dN α a ∧ sx_any (fun z => sx_U (α 1) j (sx_dp α a z) || sx_U (α 1) (sx_dp α a z) j) x = false) (fun x => [(4, .int (nI x)), (0, .ref (h 0)), (1, .int (nI a)), (2, .int (nI j)), (3, .int (sx_bI ob))]) (fun x => sx_dN α a - x) 0 (⟨Nat.zero_le _, rfl⟩) (lv_sub hl [0, 1, 2, 3, 4] rfl) (fun x hJ ih ls hl => ?_)
            obtain ⟨k, rfl⟩ : ∃ y, y = x := ⟨_, rfl⟩
            obtain ⟨hk, hdj⟩ := hJ
            have hl : lv_has ls 5 [(4, .int (nI k)), (0, .ref (h 0)), (1, .int (nI a)), (2, .int (nI j)), (3, .int (sx_bI ob))] := hl
            have ih_50 := ih
            refine lv_iload hx hb d_M_declare_50 (lv_at hl 0 rfl) ?_
            refine lv_aload_n hx hb d_M_declare_52 rfl (lv_at hl 1 rfl) ?_
            refine va_get (D := D) (ci := 4) (v := .ref (h 5)) (C := R_M) (T := T_M) (N := 21) hx hb hts iw_M hown hK.1 hP 0 rfl rfl 9 (by decide) (hts _ wd_373) (fun _ h9 => h9) rfl d_M_declare_53 ?_
            refine lv_iload_n hx hb d_M_declare_56 rfl (lv_at hl 2 rfl) ?_
            refine va_iald hx hb hK.1 hP 5 0 rfl rfl (vp_in_nI (by omega) (by decide)) d_M_declare_57 ?_
            refine sx_asi (congrArg (α 4) (nI_clamp (by omega))) ?_
            refine sx_asi (sx_dN_ok hAc).2 ?_
            refine lv_icmp_ge (tgt := 110) hx hb d_M_declare_58 (by decide) (fun c_10 => ?_) (fun c_10 => ?_)
            · have c_10 : sx_dN α a ≤ k := (nI_leI (by omega) (by omega)).mp c_10
              refine lv_aload_n hx hb d_M_declare_110 rfl (lv_at hl 1 rfl) ?_
              refine va_get (D := D) (ci := 4) (v := .ref (h 6)) (C := R_M) (T := T_M) (N := 21) hx hb hts iw_M hown hK.1 hP 0 rfl rfl 10 (by decide) (hts _ wd_374) (fun _ h9 => h9) rfl d_M_declare_111 ?_
              refine lv_bipush (v := nI 12) hx hb d_M_declare_114 (by decide +kernel) ?_
              refine lv_iload_n hx hb d_M_declare_116 rfl (lv_at hl 2 rfl) ?_
              refine lv_imul hx hb d_M_declare_117 ?_
              refine sx_asi (y := nI (12 * a)) (pk_mul 12 a) ?_
              refine lv_aload_n hx hb d_M_declare_118 rfl (lv_at hl 1 rfl) ?_
              refine va_get (D := D) (ci := 4) (v := .ref (h 5)) (C := R_M) (T := T_M) (N := 21) hx hb hts iw_M hown hK.1 hP 0 rfl rfl 9 (by decide) (hts _ wd_373) (fun _ h9 => h9) rfl d_M_declare_119 ?_
              refine lv_iload_n hx hb d_M_declare_122 rfl (lv_at hl 2 rfl) ?_
              refine va_iald hx hb hK.1 hP 5 0 rfl rfl (vp_in_nI (by omega) (by decide)) d_M_declare_123 ?_
              refine sx_asi (congrArg (α 4) (nI_clamp (by omega))) ?_
              refine sx_asi (sx_dN_ok hAc).2 ?_
              refine lv_iadd hx hb d_M_declare_124 ?_
              refine sx_asi (y := nI (12 * a + sx_dN α a)) (nI_add (12 * a) (sx_dN α a)) ?_
              refine lv_iload_n hx hb d_M_declare_125 rfl (lv_at hl 3 rfl) ?_
              refine va_iast hx hb hK.1 hP hD hS 6 0 rfl rfl (vp_in_nI (by omega) (by decide)) d_M_declare_126 (fun H locs hP hD hS => ?_)
              rw [nI_clamp (by omega)] at hP hD
              have hP : va_P D vwCl (wM cA h (nI L) (nI 0) (nI n) (nI na) (sx_bI sb) (α 1) (α 2) (α 3) cm (α 4) (upd (α 5) (12 * a + sx_dN α a) (nI j)) (α 6) (α 7) (α 8) (α 9) (α 10) (α 11) (α 12) (α 13) (α 14) mk) H := hP
              have hD : va_D A (wM cA h (nI L) (nI 0) (nI n) (nI na) (sx_bI sb) (α 1) (α 2) (α 3) cm (α 4) (upd (α 5) (12 * a + sx_dN α a) (nI j)) (α 6) (α 7) (α 8) (α 9) (α 10) (α 11) (α 12) (α 13) (α 14) mk) := hD
              refine lv_aload_n hx hb d_M_declare_127 rfl (lv_at hl 1 rfl) ?_
              refine va_get (D := D) (ci := 4) (v := .ref (h 12)) (C := R_M) (T := T_M) (N := 21) hx hb hts iw_M hown hK.1 hP 0 rfl rfl 16 (by decide) (hts _ wd_380) (fun _ h9 => h9) rfl d_M_declare_128 ?_
              refine lv_bipush (v := nI 12) hx hb d_M_declare_131 (by decide +kernel) ?_
              refine lv_iload_n hx hb d_M_declare_133 rfl (lv_at hl 2 rfl) ?_
              refine lv_imul hx hb d_M_declare_134 ?_
              refine sx_asi (y := nI (12 * a)) (pk_mul 12 a) ?_
              refine lv_aload_n hx hb d_M_declare_135 rfl (lv_at hl 1 rfl) ?_
              refine va_get (D := D) (ci := 4) (v := .ref (h 5)) (C := R_M) (T := T_M) (N := 21) hx hb hts iw_M hown hK.1 hP 0 rfl rfl 9 (by decide) (hts _ wd_373) (fun _ h9 => h9) rfl d_M_declare_136 ?_
              refine lv_iload_n hx hb d_M_declare_139 rfl (lv_at hl 2 rfl) ?_
              refine va_iald hx hb hK.1 hP 5 0 rfl rfl (vp_in_nI (by omega) (by decide)) d_M_declare_140 ?_
              refine sx_asi (congrArg (α 4) (nI_clamp (by omega))) ?_
              refine sx_asi (sx_dN_ok hAc).2 ?_
              refine lv_iadd hx hb d_M_declare_141 ?_
              refine sx_asi (y := nI (12 * a + sx_dN α a)) (nI_add (12 * a) (sx_dN α a)) ?_
              refine lv_iload_n hx hb d_M_declare_142 rfl (lv_at hl 4 rfl) ?_
              refine va_zast hx hb hK.1 hP hD hS 12 1 rfl rfl (vp_in_nI (by omega) (by decide)) d_M_declare_143 (fun H locs hP hD hS => ?_)
              rw [nI_clamp (by omega)] at hP hD
              rw [sx_bI_vnar] at hP hD
              have hP : va_P D vwCl (wM cA h (nI L) (nI 0) (nI n) (nI na) (sx_bI sb) (α 1) (α 2) (α 3) cm (α 4) (upd (α 5) (12 * a + sx_dN α a) (nI j)) (α 6) (α 7) (α 8) (α 9) (α 10) (upd (α 11) (12 * a + sx_dN α a) (sx_bI ob)) (α 12) (α 13) (α 14) mk) H := hP
              have hD : va_D A (wM cA h (nI L) (nI 0) (nI n) (nI na) (sx_bI sb) (α 1) (α 2) (α 3) cm (α 4) (upd (α 5) (12 * a + sx_dN α a) (nI j)) (α 6) (α 7) (α 8) (α 9) (α 10) (upd (α 11) (12 * a + sx_dN α a) (sx_bI ob)) (α 12) (α 13) (α 14) mk) := hD
              refine lv_aload_n hx hb d_M_declare_144 rfl (lv_at hl 1 rfl) ?_
              refine va_get (D := D) (ci := 4) (v := .ref (h 5)) (C := R_M) (T := T_M) (N := 21) hx hb hts iw_M hown hK.1 hP 0 rfl rfl 9 (by decide) (hts _ wd_373) (fun _ h9 => h9) rfl d_M_declare_145 ?_
              refine lv_iload_n hx hb d_M_declare_148 rfl (lv_at hl 2 rfl) ?_
              refine lv_dup2_11 hx hb d_M_declare_149 rfl rfl ?_
              refine va_iald hx hb hK.1 hP 5 0 rfl rfl (vp_in_nI (by omega) (by decide)) d_M_declare_150 ?_
              refine sx_asi (congrArg (α 4) (nI_clamp (by omega))) ?_
              refine lv_iconst (v := nI 1) hx hb d_M_declare_151 (by decide +kernel) ?_
              refine lv_iadd hx hb d_M_declare_152 ?_
              refine sx_asi (y := α 4 a + 1) rfl ?_
              refine va_iast hx hb hK.1 hP hD hS 5 0 rfl rfl (vp_in_nI (by omega) (by decide)) d_M_declare_153 (fun H locs hP hD hS => ?_)
              rw [nI_clamp (by omega)] at hP hD
              have hP : va_P D vwCl (wM cA h (nI L) (nI 0) (nI n) (nI na) (sx_bI sb) (α 1) (α 2) (α 3) cm (upd (α 4) a (α 4 a + 1)) (upd (α 5) (12 * a + sx_dN α a) (nI j)) (α 6) (α 7) (α 8) (α 9) (α 10) (upd (α 11) (12 * a + sx_dN α a) (sx_bI ob)) (α 12) (α 13) (α 14) mk) H := hP
              have hD : va_D A (wM cA h (nI L) (nI 0) (nI n) (nI na) (sx_bI sb) (α 1) (α 2) (α 3) cm (upd (α 4) a (α 4 a + 1)) (upd (α 5) (12 * a + sx_dN α a) (nI j)) (α 6) (α 7) (α 8) (α 9) (α 10) (upd (α 11) (12 * a + sx_dN α a) (sx_bI ob)) (α 12) (α 13) (α 14) mk) := hD
              refine lv_iconst (v := nI 1) hx hb d_M_declare_154 (by decide +kernel) ?_
              have hdT : sx_decT α a j = false := by rw [show k = sx_dN α a by omega] at hdj; exact hdj
              have z := sx_dec_y (n := n) (o := ob) (by omega) (sx_decO_t (sx_has_nI (by omega) hj) (fun z => by have := (nI_eq (a := j) (b := 0) (by omega) (by decide)).mp z; omega) (fun z => c_8 ((nI_eq (by omega) (by decide)).mp ((sx_dN_ok hAc).2.symm.trans z))) c_9) hdT
              have hP9 : va_P D vwCl (wMa cA h L (nI 0) n na sb (sx_decS n α a (nI j) ob) cm mk) H := by rw [z.2, sx_M_dec]; exact hP
              have hD9 : va_D A (wMa cA h L (nI 0) n na sb (sx_decS n α a (nI j) ob) cm mk) := by rw [z.2, sx_M_dec]; exact hD
              exact W.iret (v := nI 1) hx hb hr (fun t ht hW => ⟨⟨nI 1, (), rfl, by rw [z.1], by rw [ht]; exact hP9, by rw [hAe]; exact hD9⟩, hS.F ht⟩) hS.2.2 d_M_declare_155
            · have c_10 : k < sx_dN α a := Nat.not_le.mp (fun z => c_10 ((nI_leI (by omega) (by omega)).mpr z))
              refine lv_aload_n hx hb d_M_declare_61 rfl (lv_at hl 1 rfl) ?_
              refine lv_iload_n hx hb d_M_declare_62 rfl (lv_at hl 3 rfl) ?_
              refine lv_aload_n hx hb d_M_declare_63 rfl (lv_at hl 1 rfl) ?_
              refine va_get (D := D) (ci := 4) (v := .ref (h 6)) (C := R_M) (T := T_M) (N := 21) hx hb hts iw_M hown hK.1 hP 0 rfl rfl 10 (by decide) (hts _ wd_374) (fun _ h9 => h9) rfl d_M_declare_64 ?_
              refine lv_bipush (v := nI 12) hx hb d_M_declare_67 (by decide +kernel) ?_
              refine lv_iload_n hx hb d_M_declare_69 rfl (lv_at hl 2 rfl) ?_
              refine lv_imul hx hb d_M_declare_70 ?_
              refine sx_asi (y := nI (12 * a)) (pk_mul 12 a) ?_
              refine lv_iload hx hb d_M_declare_71 (lv_at hl 0 rfl) ?_
              refine lv_iadd hx hb d_M_declare_73 ?_
              refine sx_asi (y := nI (12 * a + k)) (nI_add (12 * a) k) ?_
              refine va_iald hx hb hK.1 hP 6 0 rfl rfl (vp_in_nI (by omega) (by decide)) d_M_declare_74 ?_
              refine sx_asi (congrArg (α 5) (nI_clamp (by omega))) ?_
              obtain ⟨dp1, dp2, dp3⟩ := sx_dp_ok hn31 hAc (show k < sx_dN α a by omega)
              refine sx_asi dp3 ?_
              refine vp_callSi (va_runV (As := [.int (nI j), .int (nI (sx_dp α a k))]) (rest := []) ⟨hx, hb, hml, hown, hts⟩ (k_isUnder l D cA h (nI L) (nI 0) (nI na) (sx_bI sb) (α 2) (α 3) cm (α 4) (α 5) (α 6) (α 7) (α 8) (α 9) (α 10) (α 11) (α 12) (α 13) (α 14) mk n α hI.2.1 (by omega) j (sx_dp α a k) (by omega) (by omega)) (cwV 2 hts (sx_GV wd_447 wd_449 ws_13 wd_5 wd_450) rfl rfl rfl (by decide +kernel) ⟨Nat.le_of_ble_eq_true rfl, Nat.le_of_ble_eq_true rfl⟩) (sx_preV hK hP (va_recv hK.1 hP (ci := 4) (q0 := 0) rfl rfl)) rfl rfl hl.1 rfl (lv_room (Nat.le_of_ble_eq_true rfl)) d_M_declare_75 ⟨Nat.le_of_ble_eq_true rfl, Nat.le_of_ble_eq_true rfl⟩).run (fun r_12 hr_11 => ?_)
              subst hr_11
              refine lv_if_ne (tgt := 101) hx hb d_M_declare_78 (by decide) (fun c_13 => ?_) (fun c_13 => ?_)
              · have c_13 : (sx_U (α 1) j (sx_dp α a k)) = true := sx_bIn c_13
                refine lv_bipush (v := (-2)) hx hb d_M_declare_101 (by decide +kernel) ?_
                have hdT : sx_decT α a j = true := sx_any_t.mpr ⟨k, by omega, by rw [c_13]; rfl⟩
                have z := sx_dec_t (n := n) (o := ob) (by omega) (sx_decO_t (sx_has_nI (by omega) hj) (fun z => by have := (nI_eq (a := j) (b := 0) (by omega) (by decide)).mp z; omega) (fun z => c_8 ((nI_eq (by omega) (by decide)).mp ((sx_dN_ok hAc).2.symm.trans z))) c_9) hdT
                have hP9 : va_P D vwCl (wMa cA h L (nI 0) n na sb (sx_decS n α a (nI j) ob) cm mk) H := by rw [z.2]; exact hP
                have hD9 : va_D A (wMa cA h L (nI 0) n na sb (sx_decS n α a (nI j) ob) cm mk) := by rw [z.2]; exact hD
                exact W.iret (v := (-2)) hx hb hr (fun t ht hW => ⟨⟨(-2), (), rfl, by rw [z.1], by rw [ht]; exact hP9, by rw [hAe]; exact hD9⟩, hS.F ht⟩) hS.2.2 d_M_declare_103
              · have c_13 : (sx_U (α 1) j (sx_dp α a k)) = false := sx_bI0 c_13
                refine lv_aload_n hx hb d_M_declare_81 rfl (lv_at hl 1 rfl) ?_
                refine lv_aload_n hx hb d_M_declare_82 rfl (lv_at hl 1 rfl) ?_
                refine va_get (D := D) (ci := 4) (v := .ref (h 6)) (C := R_M) (T := T_M) (N := 21) hx hb hts iw_M hown hK.1 hP 0 rfl rfl 10 (by decide) (hts _ wd_374) (fun _ h9 => h9) rfl d_M_declare_83 ?_
                refine lv_bipush (v := nI 12) hx hb d_M_declare_86 (by decide +kernel) ?_
                refine lv_iload_n hx hb d_M_declare_88 rfl (lv_at hl 2 rfl) ?_
                refine lv_imul hx hb d_M_declare_89 ?_
                refine sx_asi (y := nI (12 * a)) (pk_mul 12 a) ?_
                refine lv_iload hx hb d_M_declare_90 (lv_at hl 0 rfl) ?_
                refine lv_iadd hx hb d_M_declare_92 ?_
                refine sx_asi (y := nI (12 * a + k)) (nI_add (12 * a) k) ?_
                refine va_iald hx hb hK.1 hP 6 0 rfl rfl (vp_in_nI (by omega) (by decide)) d_M_declare_93 ?_
                refine sx_asi (congrArg (α 5) (nI_clamp (by omega))) ?_
                obtain ⟨dp1, dp2, dp3⟩ := sx_dp_ok hn31 hAc (show k < sx_dN α a by omega)
                refine sx_asi dp3 ?_
                refine lv_iload_n hx hb d_M_declare_94 rfl (lv_at hl 3 rfl) ?_
                refine vp_callSi (va_runV (As := [.int (nI (sx_dp α a k)), .int (nI j)]) (rest := []) ⟨hx, hb, hml, hown, hts⟩ (k_isUnder l D cA h (nI L) (nI 0) (nI na) (sx_bI sb) (α 2) (α 3) cm (α 4) (α 5) (α 6) (α 7) (α 8) (α 9) (α 10) (α 11) (α 12) (α 13) (α 14) mk n α hI.2.1 (by omega) (sx_dp α a k) j (by omega) (by omega)) (cwV 2 hts (sx_GV wd_447 wd_449 ws_13 wd_5 wd_450) rfl rfl rfl (by decide +kernel) ⟨Nat.le_of_ble_eq_true rfl, Nat.le_of_ble_eq_true rfl⟩) (sx_preV hK hP (va_recv hK.1 hP (ci := 4) (q0 := 0) rfl rfl)) rfl rfl hl.1 rfl (lv_room (Nat.le_of_ble_eq_true rfl)) d_M_declare_95 ⟨Nat.le_of_ble_eq_true rfl, Nat.le_of_ble_eq_true rfl⟩).run (fun r_15 hr_14 => ?_)
                subst hr_14
                refine lv_if_eq (tgt := 104) hx hb d_M_declare_98 (by decide) (fun c_16 => ?_) (fun c_16 => ?_)
                · have c_16 : (sx_U (α 1) (sx_dp α a k) j) = false := sx_bI0 c_16
                  refine lv_iinc (v := nI (k + 1)) (lv' := [(4, .int (nI (k + 1))), (0, .ref (h 0)), (1, .int (nI a)), (2, .int (nI j)), (3, .int (sx_bI ob))]) hx hb d_M_declare_104 hl (k := 0) rfl (nI_1 k) (by decide) rfl (fun ls hl => ?_)
                  refine lv_goto (tgt := 50) hx hb d_M_declare_107 (by decide) ?_
                  exact ih_50 (k + 1) (⟨by omega, sx_any_s hdj (by rw [c_13, c_16]; rfl)⟩) (by omega) ls (lv_sub hl [0, 1, 2, 3, 4] rfl)
                · have c_16 : (sx_U (α 1) (sx_dp α a k) j) = true := sx_bIn c_16
                  refine lv_bipush (v := (-2)) hx hb d_M_declare_101 (by decide +kernel) ?_
                  have hdT : sx_decT α a j = true := sx_any_t.mpr ⟨k, by omega, by rw [c_13, c_16]; rfl⟩
                  have z := sx_dec_t (n := n) (o := ob) (by omega) (sx_decO_t (sx_has_nI (by omega) hj) (fun z => by have := (nI_eq (a := j) (b := 0) (by omega) (by decide)).mp z; omega) (fun z => c_8 ((nI_eq (by omega) (by decide)).mp ((sx_dN_ok hAc).2.symm.trans z))) c_9) hdT
                  have hP9 : va_P D vwCl (wMa cA h L (nI 0) n na sb (sx_decS n α a (nI j) ob) cm mk) H := by rw [z.2]; exact hP
                  have hD9 : va_D A (wMa cA h L (nI 0) n na sb (sx_decS n α a (nI j) ob) cm mk) := by rw [z.2]; exact hD
                  exact W.iret (v := (-2)) hx hb hr (fun t ht hW => ⟨⟨(-2), (), rfl, by rw [z.1], by rw [ht]; exact hP9, by rw [hAe]; exact hD9⟩, hS.F ht⟩) hS.2.2 d_M_declare_103
          · have c_9 : (sx_fb α 12 a) = true := sx_bIn c_9
            refine lv_iconst (v := (-1)) hx hb d_M_declare_45 (by decide +kernel) ?_
            have z := sx_dec_no (n := n) (α := α) (a := a) (p := nI j) (o := ob) (sx_decO_w c_9)
            have hP9 : va_P D vwCl (wMa cA h L (nI 0) n na sb (sx_decS n α a (nI j) ob) cm mk) H := by rw [z.2]; exact hP
            have hD9 : va_D A (wMa cA h L (nI 0) n na sb (sx_decS n α a (nI j) ob) cm mk) := by rw [z.2]; exact hD
            exact W.iret (v := (-1)) hx hb hr (fun t ht hW => ⟨⟨(-1), (), rfl, by rw [z.1], by rw [ht]; exact hP9, by rw [hAe]; exact hD9⟩, hS.F ht⟩) hS.2.2 d_M_declare_46

set_option maxHeartbeats 4000000 in
set_option maxRecDepth 100000 in
theorem m_begin (l : Launch) (D : va_G) (cA : Nat → ClassId) (sz : Nat) (h : Nat → Nat) (L : Nat) (cd : Int32) (n na : Nat) (sb : Bool) (α : sx_A) (cm mk : Nat → Int32) (hI : sx_INV n na L α) (a : Nat) (ha : a < na) : Met l y_M_begin w_M_begin ({ frames := 2, cells := 0, slots := 0, locals := 48 }) (sx_Pw D cA [.ref (h 0), .int (nI a)] (wMa cA h L cd n na sb α cm mk) sz) (va_Qi (fun r (_ : Unit) => r = sx_begA n α a) (sx_Bw D (wMa cA h L cd n na sb α cm mk) sz (fun _ => wMa cA h L (nI 0) n na sb (sx_begS n α a) cm mk)) (va_A (wMa cA h L cd n na sb α cm mk) sz)) 0 0 (va_A (wMa cA h L cd n na sb α cm mk) sz) := by
  refine Met.ofW (cc := b_M_begin) (maxL := 5) (ret := (some .int)) (by decide) rfl ?_
  intro pG eG s m args below meth cG s₁ B hml hv
  obtain ⟨rfl, hsz, hP, hK, hD0⟩ := hv
  have hx := B.exec
  have hb := B.bytes
  have hr := B.returns
  have hts0 := atoms_spec (ws := w_M_begin) B.pre
  have hts : ∀ w ∈ sx_gw, w.before _ s = true := fun w h => hts0 w (List.mem_cons_of_mem _ h)
  have hown : s.vm.findClass R_M = some m.cls := findClass_of_methodNamed B.named
  have hlocks := B.notSynchronized
  subst hsz
  have hD := hD0.self (sz := s.heap.size)
  generalize hAe : va_A (wMa cA h L cd n na sb α cm mk) s.heap.size = A at hD ⊢
  have hA : ∀ q : Nat, s.heap.size ≤ q → A q := fun q h => by rw [← hAe]; exact Or.inr h
  have hS : va_S A s.heap s.heap [] := va_S.rf
  have hl := lv_entry ([.ref (h 0), .int (nI a)]) (n := 5) (Nat.le_of_ble_eq_true rfl)
  rw [lg_entry_eq]
  generalize (lg_sl ([.ref (h 0), .int (nI a)]) ++ List.replicate (5 - (lg_sl ([.ref (h 0), .int (nI a)])).length) Slot.unset).toArray = ls at hl ⊢
  have hl : lv_has ls 5 [(0, .ref (h 0)), (1, .int (nI a))] := hl
  have hn31 := sx_INV_n hI
  have hn60 := hI.1.1.2
  have h1n := hI.1.1.1
  have hna := hI.1.2.1
  have hAc := sx_INV_A hI ha
  have hd12 := (sx_dN_ok hAc).1
  have hP : va_P D vwCl (wM cA h (nI L) cd (nI n) (nI na) (sx_bI sb) (α 1) (α 2) (α 3) cm (α 4) (α 5) (α 6) (α 7) (α 8) (α 9) (α 10) (α 11) (α 12) (α 13) (α 14) mk) s.heap := hP
  have hD : va_D A (wM cA h (nI L) cd (nI n) (nI na) (sx_bI sb) (α 1) (α 2) (α 3) cm (α 4) (α 5) (α 6) (α 7) (α 8) (α 9) (α 10) (α 11) (α 12) (α 13) (α 14) mk) := hD
  refine lv_aload_n hx hb d_M_begin_0 rfl (lv_at hl 0 rfl) ?_
  refine lv_iconst (v := nI 0) hx hb d_M_begin_1 (by decide +kernel) ?_
  refine va_put (D := D) (ci := 4) (v := .int (nI 0)) (ty := .int) (C := R_M) (T := T_M) (N := 21) hx hb hts iw_M t_M o_M n_M hown hK.1 hP hD hS 0 rfl rfl 1 (by decide) (hts _ wd_365) (fun _ h9 => h9) rfl (by decide +kernel) rfl rfl (Nat.le_of_ble_eq_true rfl) d_M_begin_2 (fun H locs hP hD hS => ?_)
  have hP : va_P D vwCl (wM cA h (nI L) (nI 0) (nI n) (nI na) (sx_bI sb) (α 1) (α 2) (α 3) cm (α 4) (α 5) (α 6) (α 7) (α 8) (α 9) (α 10) (α 11) (α 12) (α 13) (α 14) mk) H := hP
  have hD : va_D A (wM cA h (nI L) (nI 0) (nI n) (nI na) (sx_bI sb) (α 1) (α 2) (α 3) cm (α 4) (α 5) (α 6) (α 7) (α 8) (α 9) (α 10) (α 11) (α 12) (α 13) (α 14) mk) := hD
  refine lv_aload_n hx hb d_M_begin_5 rfl (lv_at hl 0 rfl) ?_
  refine lv_iload_n hx hb d_M_begin_6 rfl (lv_at hl 1 rfl) ?_
  refine vp_callSi (va_runV (As := [.int (nI a)]) (rest := []) ⟨hx, hb, hml, hown, hts⟩ (k_isActM l D cA h (nI L) (nI 0) (sx_bI sb) (α 1) (α 2) (α 3) cm (α 4) (α 5) (α 6) (α 7) (α 8) (α 9) (α 10) (α 11) (α 12) (α 13) (α 14) mk n na α (nI a)) (cwV 1 hts (sx_GV wd_463 wd_465 ws_14 wd_5 wd_466) rfl rfl rfl (by decide +kernel) ⟨Nat.le_of_ble_eq_true rfl, Nat.le_of_ble_eq_true rfl⟩) (sx_preV hK hP (va_recv hK.1 hP (ci := 4) (q0 := 0) rfl rfl)) rfl rfl hl.1 rfl (lv_room (Nat.le_of_ble_eq_true rfl)) d_M_begin_7 ⟨Nat.le_of_ble_eq_true rfl, Nat.le_of_ble_eq_true rfl⟩).run (fun r_2 hr_1 => ?_)
  rw [sx_has_nI (by omega) (by omega)] at hr_1
  subst hr_1
  refine lv_if_eq (tgt := 22) hx hb d_M_begin_10 (by decide) (fun c_3 => ?_) (fun c_3 => ?_)
  · exact absurd c_3 (by decide)
  · refine lv_aload_n hx hb d_M_begin_13 rfl (lv_at hl 0 rfl) ?_
    refine va_get (D := D) (ci := 4) (v := .ref (h 13)) (C := R_M) (T := T_M) (N := 21) hx hb hts iw_M hown hK.1 hP 0 rfl rfl 17 (by decide) (hts _ wd_381) (fun _ h9 => h9) rfl d_M_begin_14 ?_
    refine lv_iload_n hx hb d_M_begin_17 rfl (lv_at hl 1 rfl) ?_
    refine va_zald hx hb hK.1 hP 13 1 rfl rfl (vp_in_nI (by omega) (by decide)) d_M_begin_18 ?_
    refine sx_asi (congrArg (α 12) (nI_clamp (by omega))) ?_
    refine sx_asi (y := sx_bI (sx_fb α 12 a)) (sx_fb_ok hAc.2.2.2.2.2.1).symm ?_
    refine lv_if_eq (tgt := 24) hx hb d_M_begin_19 (by decide) (fun c_4 => ?_) (fun c_4 => ?_)
    · have c_4 : (sx_fb α 12 a) = false := sx_bI0 c_4
      refine lv_iconst (v := nI 0) hx hb d_M_begin_24 (by decide +kernel) ?_
      refine lv_istore_n (lv' := [(2, .int (nI 0)), (0, .ref (h 0)), (1, .int (nI a))]) hx hb d_M_begin_25 rfl hl (by decide) rfl (fun ls hl => ?_)
      refine sx_loop (σ := Nat) (fun x => x ≤ sx_dN α a ∧ sx_any (fun z => decide (α 11 (12 * a + z) = 0) && !sx_hasS n α (sx_dp α a z)) x = false) (fun x => [(2, .int (nI x)), (0, .ref (h 0)), (1, .int (nI a))]) (fun x => sx_dN α a - x) 0 (⟨Nat.zero_le _, rfl⟩) (lv_sub hl [0, 1, 2] rfl) (fun x hJ ih ls hl => ?_)
      obtain ⟨k, rfl⟩ : ∃ y, y = x := ⟨_, rfl⟩
      obtain ⟨hk, hlk⟩ := hJ
      have hl : lv_has ls 5 [(2, .int (nI k)), (0, .ref (h 0)), (1, .int (nI a))] := hl
      have ih_26 := ih
      refine lv_iload_n hx hb d_M_begin_26 rfl (lv_at hl 0 rfl) ?_
      refine lv_aload_n hx hb d_M_begin_27 rfl (lv_at hl 1 rfl) ?_
      refine va_get (D := D) (ci := 4) (v := .ref (h 5)) (C := R_M) (T := T_M) (N := 21) hx hb hts iw_M hown hK.1 hP 0 rfl rfl 9 (by decide) (hts _ wd_373) (fun _ h9 => h9) rfl d_M_begin_28 ?_
      refine lv_iload_n hx hb d_M_begin_31 rfl (lv_at hl 2 rfl) ?_
      refine va_iald hx hb hK.1 hP 5 0 rfl rfl (vp_in_nI (by omega) (by decide)) d_M_begin_32 ?_
      refine sx_asi (congrArg (α 4) (nI_clamp (by omega))) ?_
      refine sx_asi (sx_dN_ok hAc).2 ?_
      refine lv_icmp_ge (tgt := 119) hx hb d_M_begin_33 (by decide) (fun c_5 => ?_) (fun c_5 => ?_)
      · have c_5 : sx_dN α a ≤ k := (nI_leI (by omega) (by omega)).mp c_5
        refine lv_iconst (v := nI 0) hx hb d_M_begin_119 (by decide +kernel) ?_
        refine lv_istore_n (lv' := [(2, .int (nI 0)), (0, .ref (h 0)), (1, .int (nI a))]) hx hb d_M_begin_120 rfl hl (by decide) rfl (fun ls hl => ?_)
        refine lv_iconst (v := nI 0) hx hb d_M_begin_121 (by decide +kernel) ?_
        refine lv_istore_n (lv' := [(3, .int (nI 0)), (2, .int (nI 0)), (0, .ref (h 0)), (1, .int (nI a))]) hx hb d_M_begin_122 rfl hl (by decide) rfl (fun ls hl => ?_)
        have hlack : sx_lack n α a = false := by rw [show k = sx_dN α a by omega] at hlk; exact hlk
        have hP : va_P D vwCl (wM cA h (nI L) (nI 0) (nI n) (nI na) (sx_bI sb) (α 1) (α 2) (α 3) cm (α 4) (α 5) (α 6) (α 7) (α 8) (α 9) (sx_wrow n α a 0) (α 11) (α 12) (α 13) (α 14) mk) H := by rw [sx_wrow_0]; exact hP
        have hD : va_D A (wM cA h (nI L) (nI 0) (nI n) (nI na) (sx_bI sb) (α 1) (α 2) (α 3) cm (α 4) (α 5) (α 6) (α 7) (α 8) (α 9) (sx_wrow n α a 0) (α 11) (α 12) (α 13) (α 14) mk) := by rw [sx_wrow_0]; exact hD
        refine sx_loopW (σ := Nat × Nat) (fun x => x.1 ≤ 60 ∧ x.2 = sx_cnt (fun p => decide (0 < sx_nw n α a p)) x.1) (fun x => [(3, .int (nI x.1)), (2, .int (nI x.2)), (0, .ref (h 0)), (1, .int (nI a))]) (fun x => wM cA h (nI L) (nI 0) (nI n) (nI na) (sx_bI sb) (α 1) (α 2) (α 3) cm (α 4) (α 5) (α 6) (α 7) (α 8) (α 9) (sx_wrow n α a x.1) (α 11) (α 12) (α 13) (α 14) mk) (fun x => 60 - x.1) (0, 0) (⟨by omega, rfl⟩) (lv_sub hl [0, 1, 2, 3] rfl) hP hD hS (fun x hJ ih ls H locs hl hP hD hS => ?_)
        obtain ⟨w, c2⟩ := x
        obtain ⟨hw, hc2⟩ := hJ
        have hl : lv_has ls 5 [(3, .int (nI w)), (2, .int (nI c2)), (0, .ref (h 0)), (1, .int (nI a))] := hl
        have hP : va_P D vwCl (wM cA h (nI L) (nI 0) (nI n) (nI na) (sx_bI sb) (α 1) (α 2) (α 3) cm (α 4) (α 5) (α 6) (α 7) (α 8) (α 9) (sx_wrow n α a w) (α 11) (α 12) (α 13) (α 14) mk) H := hP
        have hD : va_D A (wM cA h (nI L) (nI 0) (nI n) (nI na) (sx_bI sb) (α 1) (α 2) (α 3) cm (α 4) (α 5) (α 6) (α 7) (α 8) (α 9) (sx_wrow n α a w) (α 11) (α 12) (α 13) (α 14) mk) := hD
        have ih_123 := ih
        refine lv_iload_n hx hb d_M_begin_123 rfl (lv_at hl 0 rfl) ?_
        refine lv_bipush (v := nI 60) hx hb d_M_begin_124 (by decide +kernel) ?_
        refine lv_icmp_ge (tgt := 196) hx hb d_M_begin_126 (by decide) (fun c_6 => ?_) (fun c_6 => ?_)
        · have c_6 : 60 ≤ w := (nI_leI (by decide) (by omega)).mp c_6
          refine lv_aload_n hx hb d_M_begin_196 rfl (lv_at hl 2 rfl) ?_
          refine va_get (D := D) (ci := 4) (v := .ref (h 13)) (C := R_M) (T := T_M) (N := 21) hx hb hts iw_M hown hK.1 hP 0 rfl rfl 17 (by decide) (hts _ wd_381) (fun _ h9 => h9) rfl d_M_begin_197 ?_
          refine lv_iload_n hx hb d_M_begin_200 rfl (lv_at hl 3 rfl) ?_
          refine lv_iconst (v := nI 1) hx hb d_M_begin_201 (by decide +kernel) ?_
          refine va_zast hx hb hK.1 hP hD hS 13 1 rfl rfl (vp_in_nI (by omega) (by decide)) d_M_begin_202 (fun H locs hP hD hS => ?_)
          rw [nI_clamp (by omega)] at hP hD
          rw [show vp_nar .boolean (nI 1) = nI 1 from by decide +kernel] at hP hD
          have hP : va_P D vwCl (wM cA h (nI L) (nI 0) (nI n) (nI na) (sx_bI sb) (α 1) (α 2) (α 3) cm (α 4) (α 5) (α 6) (α 7) (α 8) (α 9) (sx_wrow n α a w) (α 11) (upd (α 12) a (nI 1)) (α 13) (α 14) mk) H := hP
          have hD : va_D A (wM cA h (nI L) (nI 0) (nI n) (nI na) (sx_bI sb) (α 1) (α 2) (α 3) cm (α 4) (α 5) (α 6) (α 7) (α 8) (α 9) (sx_wrow n α a w) (α 11) (upd (α 12) a (nI 1)) (α 13) (α 14) mk) := hD
          refine lv_aload_n hx hb d_M_begin_203 rfl (lv_at hl 2 rfl) ?_
          refine va_get (D := D) (ci := 4) (v := .ref (h 15)) (C := R_M) (T := T_M) (N := 21) hx hb hts iw_M hown hK.1 hP 0 rfl rfl 19 (by decide) (hts _ wd_383) (fun _ h9 => h9) rfl d_M_begin_204 ?_
          refine lv_iload_n hx hb d_M_begin_207 rfl (lv_at hl 3 rfl) ?_
          refine lv_iconst (v := nI 1) hx hb d_M_begin_208 (by decide +kernel) ?_
          refine va_zast hx hb hK.1 hP hD hS 15 1 rfl rfl (vp_in_nI (by omega) (by decide)) d_M_begin_209 (fun H locs hP hD hS => ?_)
          rw [nI_clamp (by omega)] at hP hD
          rw [show vp_nar .boolean (nI 1) = nI 1 from by decide +kernel] at hP hD
          have hP : va_P D vwCl (wM cA h (nI L) (nI 0) (nI n) (nI na) (sx_bI sb) (α 1) (α 2) (α 3) cm (α 4) (α 5) (α 6) (α 7) (α 8) (α 9) (sx_wrow n α a w) (α 11) (upd (α 12) a (nI 1)) (α 13) (upd (α 14) a (nI 1)) mk) H := hP
          have hD : va_D A (wM cA h (nI L) (nI 0) (nI n) (nI na) (sx_bI sb) (α 1) (α 2) (α 3) cm (α 4) (α 5) (α 6) (α 7) (α 8) (α 9) (sx_wrow n α a w) (α 11) (upd (α 12) a (nI 1)) (α 13) (upd (α 14) a (nI 1)) mk) := hD
          refine lv_aload_n hx hb d_M_begin_210 rfl (lv_at hl 2 rfl) ?_
          refine va_get (D := D) (ci := 4) (v := .ref (h 14)) (C := R_M) (T := T_M) (N := 21) hx hb hts iw_M hown hK.1 hP 0 rfl rfl 18 (by decide) (hts _ wd_382) (fun _ h9 => h9) rfl d_M_begin_211 ?_
          refine lv_iload_n hx hb d_M_begin_214 rfl (lv_at hl 3 rfl) ?_
          refine lv_iconst (v := nI 0) hx hb d_M_begin_215 (by decide +kernel) ?_
          refine va_zast hx hb hK.1 hP hD hS 14 1 rfl rfl (vp_in_nI (by omega) (by decide)) d_M_begin_216 (fun H locs hP hD hS => ?_)
          rw [nI_clamp (by omega)] at hP hD
          rw [show vp_nar .boolean (nI 0) = nI 0 from by decide +kernel] at hP hD
          have hP : va_P D vwCl (wM cA h (nI L) (nI 0) (nI n) (nI na) (sx_bI sb) (α 1) (α 2) (α 3) cm (α 4) (α 5) (α 6) (α 7) (α 8) (α 9) (sx_wrow n α a w) (α 11) (upd (α 12) a (nI 1)) (upd (α 13) a (nI 0)) (upd (α 14) a (nI 1)) mk) H := hP
          have hD : va_D A (wM cA h (nI L) (nI 0) (nI n) (nI na) (sx_bI sb) (α 1) (α 2) (α 3) cm (α 4) (α 5) (α 6) (α 7) (α 8) (α 9) (sx_wrow n α a w) (α 11) (upd (α 12) a (nI 1)) (upd (α 13) a (nI 0)) (upd (α 14) a (nI 1)) mk) := hD
          refine lv_aload_n hx hb d_M_begin_217 rfl (lv_at hl 2 rfl) ?_
          refine va_get (D := D) (ci := 4) (v := .ref (h 7)) (C := R_M) (T := T_M) (N := 21) hx hb hts iw_M hown hK.1 hP 0 rfl rfl 11 (by decide) (hts _ wd_375) (fun _ h9 => h9) rfl d_M_begin_218 ?_
          refine lv_iload_n hx hb d_M_begin_221 rfl (lv_at hl 3 rfl) ?_
          refine lv_iconst (v := nI 0) hx hb d_M_begin_222 (by decide +kernel) ?_
          refine va_iast hx hb hK.1 hP hD hS 7 0 rfl rfl (vp_in_nI (by omega) (by decide)) d_M_begin_223 (fun H locs hP hD hS => ?_)
          rw [nI_clamp (by omega)] at hP hD
          have hP : va_P D vwCl (wM cA h (nI L) (nI 0) (nI n) (nI na) (sx_bI sb) (α 1) (α 2) (α 3) cm (α 4) (α 5) (upd (α 6) a (nI 0)) (α 7) (α 8) (α 9) (sx_wrow n α a w) (α 11) (upd (α 12) a (nI 1)) (upd (α 13) a (nI 0)) (upd (α 14) a (nI 1)) mk) H := hP
          have hD : va_D A (wM cA h (nI L) (nI 0) (nI n) (nI na) (sx_bI sb) (α 1) (α 2) (α 3) cm (α 4) (α 5) (upd (α 6) a (nI 0)) (α 7) (α 8) (α 9) (sx_wrow n α a w) (α 11) (upd (α 12) a (nI 1)) (upd (α 13) a (nI 0)) (upd (α 14) a (nI 1)) mk) := hD
          refine lv_aload_n hx hb d_M_begin_224 rfl (lv_at hl 2 rfl) ?_
          refine va_get (D := D) (ci := 4) (v := .ref (h 8)) (C := R_M) (T := T_M) (N := 21) hx hb hts iw_M hown hK.1 hP 0 rfl rfl 12 (by decide) (hts _ wd_376) (fun _ h9 => h9) rfl d_M_begin_225 ?_
          refine lv_iload_n hx hb d_M_begin_228 rfl (lv_at hl 3 rfl) ?_
          refine lv_iconst (v := nI 0) hx hb d_M_begin_229 (by decide +kernel) ?_
          refine va_iast hx hb hK.1 hP hD hS 8 0 rfl rfl (vp_in_nI (by omega) (by decide)) d_M_begin_230 (fun H locs hP hD hS => ?_)
          rw [nI_clamp (by omega)] at hP hD
          have hP : va_P D vwCl (wM cA h (nI L) (nI 0) (nI n) (nI na) (sx_bI sb) (α 1) (α 2) (α 3) cm (α 4) (α 5) (upd (α 6) a (nI 0)) (upd (α 7) a (nI 0)) (α 8) (α 9) (sx_wrow n α a w) (α 11) (upd (α 12) a (nI 1)) (upd (α 13) a (nI 0)) (upd (α 14) a (nI 1)) mk) H := hP
          have hD : va_D A (wM cA h (nI L) (nI 0) (nI n) (nI na) (sx_bI sb) (α 1) (α 2) (α 3) cm (α 4) (α 5) (upd (α 6) a (nI 0)) (upd (α 7) a (nI 0)) (α 8) (α 9) (sx_wrow n α a w) (α 11) (upd (α 12) a (nI 1)) (upd (α 13) a (nI 0)) (upd (α 14) a (nI 1)) mk) := hD
          refine lv_aload_n hx hb d_M_begin_231 rfl (lv_at hl 2 rfl) ?_
          refine va_get (D := D) (ci := 4) (v := .ref (h 9)) (C := R_M) (T := T_M) (N := 21) hx hb hts iw_M hown hK.1 hP 0 rfl rfl 13 (by decide) (hts _ wd_377) (fun _ h9 => h9) rfl d_M_begin_232 ?_
          refine lv_iload_n hx hb d_M_begin_235 rfl (lv_at hl 3 rfl) ?_
          refine lv_iconst (v := nI 0) hx hb d_M_begin_236 (by decide +kernel) ?_
          refine va_iast hx hb hK.1 hP hD hS 9 0 rfl rfl (vp_in_nI (by omega) (by decide)) d_M_begin_237 (fun H locs hP hD hS => ?_)
          rw [nI_clamp (by omega)] at hP hD
          have hP : va_P D vwCl (wM cA h (nI L) (nI 0) (nI n) (nI na) (sx_bI sb) (α 1) (α 2) (α 3) cm (α 4) (α 5) (upd (α 6) a (nI 0)) (upd (α 7) a (nI 0)) (upd (α 8) a (nI 0)) (α 9) (sx_wrow n α a w) (α 11) (upd (α 12) a (nI 1)) (upd (α 13) a (nI 0)) (upd (α 14) a (nI 1)) mk) H := hP
          have hD : va_D A (wM cA h (nI L) (nI 0) (nI n) (nI na) (sx_bI sb) (α 1) (α 2) (α 3) cm (α 4) (α 5) (upd (α 6) a (nI 0)) (upd (α 7) a (nI 0)) (upd (α 8) a (nI 0)) (α 9) (sx_wrow n α a w) (α 11) (upd (α 12) a (nI 1)) (upd (α 13) a (nI 0)) (upd (α 14) a (nI 1)) mk) := hD
          refine lv_iload_n hx hb d_M_begin_238 rfl (lv_at hl 1 rfl) ?_
          have hw9 : w = 60 := by omega
          subst hw9
          have z := sx_beg_y (n := n) c_4 hlack
          have hP9 : va_P D vwCl (wMa cA h L (nI 0) n na sb (sx_begS n α a) cm mk) H := by rw [z.2, sx_M_beg]; exact hP
          have hD9 : va_D A (wMa cA h L (nI 0) n na sb (sx_begS n α a) cm mk) := by rw [z.2, sx_M_beg]; exact hD
          exact W.iret (v := nI c2) hx hb hr (fun t ht hW => ⟨⟨nI c2, (), rfl, ((congrArg nI hc2).trans z.1.symm), by rw [ht]; exact hP9, by rw [hAe]; exact hD9⟩, hS.F ht⟩) hS.2.2 d_M_begin_239
        · have c_6 : w < 60 := Nat.not_le.mp (fun z => c_6 ((nI_leI (by decide) (by omega)).mpr z))
          refine lv_aload_n hx hb d_M_begin_129 rfl (lv_at hl 2 rfl) ?_
          refine va_get (D := D) (ci := 4) (v := .ref (h 11)) (C := R_M) (T := T_M) (N := 21) hx hb hts iw_M hown hK.1 hP 0 rfl rfl 15 (by decide) (hts _ wd_379) (fun _ h9 => h9) rfl d_M_begin_130 ?_
          refine lv_bipush (v := nI 60) hx hb d_M_begin_133 (by decide +kernel) ?_
          refine lv_iload_n hx hb d_M_begin_135 rfl (lv_at hl 3 rfl) ?_
          refine lv_imul hx hb d_M_begin_136 ?_
          refine sx_asi (y := nI (60 * a)) (pk_mul 60 a) ?_
          refine lv_iload_n hx hb d_M_begin_137 rfl (lv_at hl 0 rfl) ?_
          refine lv_iadd hx hb d_M_begin_138 ?_
          refine sx_asi (y := nI (60 * a + w)) (nI_add (60 * a) w) ?_
          refine lv_iload_n hx hb d_M_begin_139 rfl (lv_at hl 0 rfl) ?_
          refine lv_aload_n hx hb d_M_begin_140 rfl (lv_at hl 2 rfl) ?_
          refine va_get (D := D) (ci := 4) (v := .int (nI n)) (C := R_M) (T := T_M) (N := 21) hx hb hts iw_M hown hK.1 hP 0 rfl rfl 2 (by decide) (hts _ wd_366) (fun _ h9 => h9) rfl d_M_begin_141 ?_
          refine lv_icmp_ge (tgt := 166) hx hb d_M_begin_144 (by decide) (fun c_7 => ?_) (fun c_7 => ?_)
          · have c_7 : n ≤ w := (nI_leI (by omega) (by omega)).mp c_7
            refine lv_iconst (v := nI 0) hx hb d_M_begin_166 (by decide +kernel) ?_
            refine sx_asi (y := sx_nw n α a w) (sx_nw_0 (Or.inl c_7)) ?_
            refine va_iast hx hb hK.1 hP hD hS 11 0 rfl rfl (vp_in_nI (by omega) (by decide)) d_M_begin_167 (fun H locs hP hD hS => ?_)
            rw [nI_clamp (by omega)] at hP hD
            have hP : va_P D vwCl (wM cA h (nI L) (nI 0) (nI n) (nI na) (sx_bI sb) (α 1) (α 2) (α 3) cm (α 4) (α 5) (α 6) (α 7) (α 8) (α 9) (upd (sx_wrow n α a w) (60 * a + w) (sx_nw n α a w)) (α 11) (α 12) (α 13) (α 14) mk) H := hP
            have hD : va_D A (wM cA h (nI L) (nI 0) (nI n) (nI na) (sx_bI sb) (α 1) (α 2) (α 3) cm (α 4) (α 5) (α 6) (α 7) (α 8) (α 9) (upd (sx_wrow n α a w) (60 * a + w) (sx_nw n α a w)) (α 11) (α 12) (α 13) (α 14) mk) := hD
            rw [sx_wrow_s] at hP hD
            refine lv_iload_n hx hb d_M_begin_168 rfl (lv_at hl 1 rfl) ?_
            refine lv_aload_n hx hb d_M_begin_169 rfl (lv_at hl 2 rfl) ?_
            refine va_get (D := D) (ci := 4) (v := .ref (h 11)) (C := R_M) (T := T_M) (N := 21) hx hb hts iw_M hown hK.1 hP 0 rfl rfl 15 (by decide) (hts _ wd_379) (fun _ h9 => h9) rfl d_M_begin_170 ?_
            refine lv_bipush (v := nI 60) hx hb d_M_begin_173 (by decide +kernel) ?_
            refine lv_iload_n hx hb d_M_begin_175 rfl (lv_at hl 3 rfl) ?_
            refine lv_imul hx hb d_M_begin_176 ?_
            refine sx_asi (y := nI (60 * a)) (pk_mul 60 a) ?_
            refine lv_iload_n hx hb d_M_begin_177 rfl (lv_at hl 0 rfl) ?_
            refine lv_iadd hx hb d_M_begin_178 ?_
            refine sx_asi (y := nI (60 * a + w)) (nI_add (60 * a) w) ?_
            refine va_iald hx hb hK.1 hP 11 0 rfl rfl (vp_in_nI (by omega) (by decide)) d_M_begin_179 ?_
            refine sx_asi (congrArg (sx_wrow n α a (w + 1)) (nI_clamp (by omega))) ?_
            refine sx_asi sx_wrow_l ?_
            refine lv_if_le (tgt := 187) hx hb d_M_begin_180 (by decide) (fun c_8 => ?_) (fun c_8 => ?_)
            · refine lv_iconst (v := nI 0) hx hb d_M_begin_187 (by decide +kernel) ?_
              refine lv_iadd hx hb d_M_begin_188 ?_
              refine sx_asi (y := nI c2) (nI_add c2 0) ?_
              refine lv_istore_n (lv' := [(2, .int (nI c2)), (3, .int (nI w)), (0, .ref (h 0)), (1, .int (nI a))]) hx hb d_M_begin_189 rfl hl (by decide) rfl (fun ls hl => ?_)
              refine lv_iinc (v := nI (w + 1)) (lv' := [(3, .int (nI (w + 1))), (2, .int (nI c2)), (0, .ref (h 0)), (1, .int (nI a))]) hx hb d_M_begin_190 hl (k := 1) rfl (nI_1 w) (by decide) rfl (fun ls hl => ?_)
              refine lv_goto (tgt := 123) hx hb d_M_begin_193 (by decide) ?_
              exact ih_123 (w + 1, c2) (⟨by omega, sx_cnt_z hc2 (decide_eq_false (Int32.not_lt.mpr c_8))⟩) (by omega) ls _ _ (lv_sub hl [0, 1, 2, 3] rfl) hP hD hS
            · refine lv_iconst (v := nI 1) hx hb d_M_begin_183 (by decide +kernel) ?_
              refine lv_goto (tgt := 188) hx hb d_M_begin_184 (by decide) ?_
              refine lv_iadd hx hb d_M_begin_188 ?_
              refine sx_asi (y := nI (c2 + 1)) (nI_add c2 1) ?_
              refine lv_istore_n (lv' := [(2, .int (nI (c2 + 1))), (3, .int (nI w)), (0, .ref (h 0)), (1, .int (nI a))]) hx hb d_M_begin_189 rfl hl (by decide) rfl (fun ls hl => ?_)
              refine lv_iinc (v := nI (w + 1)) (lv' := [(3, .int (nI (w + 1))), (2, .int (nI (c2 + 1))), (0, .ref (h 0)), (1, .int (nI a))]) hx hb d_M_begin_190 hl (k := 1) rfl (nI_1 w) (by decide) rfl (fun ls hl => ?_)
              refine lv_goto (tgt := 123) hx hb d_M_begin_193 (by decide) ?_
              exact ih_123 (w + 1, c2 + 1) (⟨by omega, sx_cnt_1 hc2 (decide_eq_true (Int32.not_le.mp c_8))⟩) (by omega) ls _ _ (lv_sub hl [0, 1, 2, 3] rfl) hP hD hS
          · have c_7 : w < n := Nat.not_le.mp (fun z => c_7 ((nI_leI (by omega) (by omega)).mpr z))
            refine lv_aload_n hx hb d_M_begin_147 rfl (lv_at hl 2 rfl) ?_
            refine lv_iload_n hx hb d_M_begin_148 rfl (lv_at hl 3 rfl) ?_
            refine lv_iload_n hx hb d_M_begin_149 rfl (lv_at hl 0 rfl) ?_
            refine lv_iconst (v := nI 0) hx hb d_M_begin_150 (by decide +kernel) ?_
            refine sx_asi (y := sx_bI false) rfl ?_
            refine vp_callSi (va_runV (As := [.int (nI a), .int (nI w), .int (sx_bI false)]) (rest := [.int (nI (60 * a + w)), .ref (h 11)]) ⟨hx, hb, hml, hown, hts⟩ (k_isDecl l D cA h (nI L) (nI 0) (nI na) (sx_bI sb) (α 2) (α 3) cm (α 6) (α 7) (α 8) (α 9) (sx_wrow n α a w) (α 12) (α 13) (α 14) mk n α na L hI a (by omega) w (by omega) false) (cwV 3 hts (sx_GV wd_475 wd_477 ws_15 wd_5 wd_478) rfl rfl rfl (by decide +kernel) ⟨Nat.le_of_ble_eq_true rfl, Nat.le_of_ble_eq_true rfl⟩) (sx_preV hK hP (va_recv hK.1 hP (ci := 4) (q0 := 0) rfl rfl)) rfl rfl hl.1 rfl (lv_room (Nat.le_of_ble_eq_true rfl)) d_M_begin_151 ⟨Nat.le_of_ble_eq_true rfl, Nat.le_of_ble_eq_true rfl⟩).run (fun r_10 hr_9 => ?_)
            subst hr_9
            refine lv_if_eq (tgt := 166) hx hb d_M_begin_154 (by decide) (fun c_11 => ?_) (fun c_11 => ?_)
            · have c_11 : (sx_isD α a false w) = false := sx_bI0 c_11
              refine lv_iconst (v := nI 0) hx hb d_M_begin_166 (by decide +kernel) ?_
              refine sx_asi (y := sx_nw n α a w) (sx_nw_0 (Or.inr c_11)) ?_
              refine va_iast hx hb hK.1 hP hD hS 11 0 rfl rfl (vp_in_nI (by omega) (by decide)) d_M_begin_167 (fun H locs hP hD hS => ?_)
              rw [nI_clamp (by omega)] at hP hD
              have hP : va_P D vwCl (wM cA h (nI L) (nI 0) (nI n) (nI na) (sx_bI sb) (α 1) (α 2) (α 3) cm (α 4) (α 5) (α 6) (α 7) (α 8) (α 9) (upd (sx_wrow n α a w) (60 * a + w) (sx_nw n α a w)) (α 11) (α 12) (α 13) (α 14) mk) H := hP
              have hD : va_D A (wM cA h (nI L) (nI 0) (nI n) (nI na) (sx_bI sb) (α 1) (α 2) (α 3) cm (α 4) (α 5) (α 6) (α 7) (α 8) (α 9) (upd (sx_wrow n α a w) (60 * a + w) (sx_nw n α a w)) (α 11) (α 12) (α 13) (α 14) mk) := hD
              rw [sx_wrow_s] at hP hD
              refine lv_iload_n hx hb d_M_begin_168 rfl (lv_at hl 1 rfl) ?_
              refine lv_aload_n hx hb d_M_begin_169 rfl (lv_at hl 2 rfl) ?_
              refine va_get (D := D) (ci := 4) (v := .ref (h 11)) (C := R_M) (T := T_M) (N := 21) hx hb hts iw_M hown hK.1 hP 0 rfl rfl 15 (by decide) (hts _ wd_379) (fun _ h9 => h9) rfl d_M_begin_170 ?_
              refine lv_bipush (v := nI 60) hx hb d_M_begin_173 (by decide +kernel) ?_
              refine lv_iload_n hx hb d_M_begin_175 rfl (lv_at hl 3 rfl) ?_
              refine lv_imul hx hb d_M_begin_176 ?_
              refine sx_asi (y := nI (60 * a)) (pk_mul 60 a) ?_
              refine lv_iload_n hx hb d_M_begin_177 rfl (lv_at hl 0 rfl) ?_
              refine lv_iadd hx hb d_M_begin_178 ?_
              refine sx_asi (y := nI (60 * a + w)) (nI_add (60 * a) w) ?_
              refine va_iald hx hb hK.1 hP 11 0 rfl rfl (vp_in_nI (by omega) (by decide)) d_M_begin_179 ?_
              refine sx_asi (congrArg (sx_wrow n α a (w + 1)) (nI_clamp (by omega))) ?_
              refine sx_asi sx_wrow_l ?_
              refine lv_if_le (tgt := 187) hx hb d_M_begin_180 (by decide) (fun c_12 => ?_) (fun c_12 => ?_)
              · refine lv_iconst (v := nI 0) hx hb d_M_begin_187 (by decide +kernel) ?_
                refine lv_iadd hx hb d_M_begin_188 ?_
                refine sx_asi (y := nI c2) (nI_add c2 0) ?_
                refine lv_istore_n (lv' := [(2, .int (nI c2)), (3, .int (nI w)), (0, .ref (h 0)), (1, .int (nI a))]) hx hb d_M_begin_189 rfl hl (by decide) rfl (fun ls hl => ?_)
                refine lv_iinc (v := nI (w + 1)) (lv' := [(3, .int (nI (w + 1))), (2, .int (nI c2)), (0, .ref (h 0)), (1, .int (nI a))]) hx hb d_M_begin_190 hl (k := 1) rfl (nI_1 w) (by decide) rfl (fun ls hl => ?_)
                refine lv_goto (tgt := 123) hx hb d_M_begin_193 (by decide) ?_
                exact ih_123 (w + 1, c2) (⟨by omega, sx_cnt_z hc2 (decide_eq_false (Int32.not_lt.mpr c_12))⟩) (by omega) ls _ _ (lv_sub hl [0, 1, 2, 3] rfl) hP hD hS
              · refine lv_iconst (v := nI 1) hx hb d_M_begin_183 (by decide +kernel) ?_
                refine lv_goto (tgt := 188) hx hb d_M_begin_184 (by decide) ?_
                refine lv_iadd hx hb d_M_begin_188 ?_
                refine sx_asi (y := nI (c2 + 1)) (nI_add c2 1) ?_
                refine lv_istore_n (lv' := [(2, .int (nI (c2 + 1))), (3, .int (nI w)), (0, .ref (h 0)), (1, .int (nI a))]) hx hb d_M_begin_189 rfl hl (by decide) rfl (fun ls hl => ?_)
                refine lv_iinc (v := nI (w + 1)) (lv' := [(3, .int (nI (w + 1))), (2, .int (nI (c2 + 1))), (0, .ref (h 0)), (1, .int (nI a))]) hx hb d_M_begin_190 hl (k := 1) rfl (nI_1 w) (by decide) rfl (fun ls hl => ?_)
                refine lv_goto (tgt := 123) hx hb d_M_begin_193 (by decide) ?_
                exact ih_123 (w + 1, c2 + 1) (⟨by omega, sx_cnt_1 hc2 (decide_eq_true (Int32.not_le.mp c_12))⟩) (by omega) ls _ _ (lv_sub hl [0, 1, 2, 3] rfl) hP hD hS
            · have c_11 : (sx_isD α a false w) = true := sx_bIn c_11
              refine lv_aload_n hx hb d_M_begin_157 rfl (lv_at hl 2 rfl) ?_
              refine va_get (D := D) (ci := 4) (v := .ref (h 3)) (C := R_M) (T := T_M) (N := 21) hx hb hts iw_M hown hK.1 hP 0 rfl rfl 7 (by decide) (hts _ wd_371) (fun _ h9 => h9) rfl d_M_begin_158 ?_
              refine lv_iload_n hx hb d_M_begin_161 rfl (lv_at hl 0 rfl) ?_
              refine va_iald hx hb hK.1 hP 3 0 rfl rfl (vp_in_nI (by omega) (by decide)) d_M_begin_162 ?_
              refine sx_asi (congrArg (α 3) (nI_clamp (by omega))) ?_
              refine lv_goto (tgt := 167) hx hb d_M_begin_163 (by decide) ?_
              refine sx_asi (y := sx_nw n α a w) (sx_nw_1 c_7 c_11) ?_
              refine va_iast hx hb hK.1 hP hD hS 11 0 rfl rfl (vp_in_nI (by omega) (by decide)) d_M_begin_167 (fun H locs hP hD hS => ?_)
              rw [nI_clamp (by omega)] at hP hD
              have hP : va_P D vwCl (wM cA h (nI L) (nI 0) (nI n) (nI na) (sx_bI sb) (α 1) (α 2) (α 3) cm (α 4) (α 5) (α 6) (α 7) (α 8) (α 9) (upd (sx_wrow n α a w) (60 * a + w) (sx_nw n α a w)) (α 11) (α 12) (α 13) (α 14) mk) H := hP
              have hD : va_D A (wM cA h (nI L) (nI 0) (nI n) (nI na) (sx_bI sb) (α 1) (α 2) (α 3) cm (α 4) (α 5) (α 6) (α 7) (α 8) (α 9) (upd (sx_wrow n α a w) (60 * a + w) (sx_nw n α a w)) (α 11) (α 12) (α 13) (α 14) mk) := hD
              rw [sx_wrow_s] at hP hD
              refine lv_iload_n hx hb d_M_begin_168 rfl (lv_at hl 1 rfl) ?_
              refine lv_aload_n hx hb d_M_begin_169 rfl (lv_at hl 2 rfl) ?_
              refine va_get (D := D) (ci := 4) (v := .ref (h 11)) (C := R_M) (T := T_M) (N := 21) hx hb hts iw_M hown hK.1 hP 0 rfl rfl 15 (by decide) (hts _ wd_379) (fun _ h9 => h9) rfl d_M_begin_170 ?_
              refine lv_bipush (v := nI 60) hx hb d_M_begin_173 (by decide +kernel) ?_
              refine lv_iload_n hx hb d_M_begin_175 rfl (lv_at hl 3 rfl) ?_
              refine lv_imul hx hb d_M_begin_176 ?_
              refine sx_asi (y := nI (60 * a)) (pk_mul 60 a) ?_
              refine lv_iload_n hx hb d_M_begin_177 rfl (lv_at hl 0 rfl) ?_
              refine lv_iadd hx hb d_M_begin_178 ?_
              refine sx_asi (y := nI (60 * a + w)) (nI_add (60 * a) w) ?_
              refine va_iald hx hb hK.1 hP 11 0 rfl rfl (vp_in_nI (by omega) (by decide)) d_M_begin_179 ?_
              refine sx_asi (congrArg (sx_wrow n α a (w + 1)) (nI_clamp (by omega))) ?_
              refine sx_asi sx_wrow_l ?_
              refine lv_if_le (tgt := 187) hx hb d_M_begin_180 (by decide) (fun c_13 => ?_) (fun c_13 => ?_)
              · refine lv_iconst (v := nI 0) hx hb d_M_begin_187 (by decide +kernel) ?_
                refine lv_iadd hx hb d_M_begin_188 ?_
                refine sx_asi (y := nI c2) (nI_add c2 0) ?_
                refine lv_istore_n (lv' := [(2, .int (nI c2)), (3, .int (nI w)), (0, .ref (h 0)), (1, .int (nI a))]) hx hb d_M_begin_189 rfl hl (by decide) rfl (fun ls hl => ?_)
                refine lv_iinc (v := nI (w + 1)) (lv' := [(3, .int (nI (w + 1))), (2, .int (nI c2)), (0, .ref (h 0)), (1, .int (nI a))]) hx hb d_M_begin_190 hl (k := 1) rfl (nI_1 w) (by decide) rfl (fun ls hl => ?_)
                refine lv_goto (tgt := 123) hx hb d_M_begin_193 (by decide) ?_
                exact ih_123 (w + 1, c2) (⟨by omega, sx_cnt_z hc2 (decide_eq_false (Int32.not_lt.mpr c_13))⟩) (by omega) ls _ _ (lv_sub hl [0, 1, 2, 3] rfl) hP hD hS
              · refine lv_iconst (v := nI 1) hx hb d_M_begin_183 (by decide +kernel) ?_
                refine lv_goto (tgt := 188) hx hb d_M_begin_184 (by decide) ?_
                refine lv_iadd hx hb d_M_begin_188 ?_
                refine sx_asi (y := nI (c2 + 1)) (nI_add c2 1) ?_
                refine lv_istore_n (lv' := [(2, .int (nI (c2 + 1))), (3, .int (nI w)), (0, .ref (h 0)), (1, .int (nI a))]) hx hb d_M_begin_189 rfl hl (by decide) rfl (fun ls hl => ?_)
                refine lv_iinc (v := nI (w + 1)) (lv' := [(3, .int (nI (w + 1))), (2, .int (nI (c2 + 1))), (0, .ref (h 0)), (1, .int (nI a))]) hx hb d_M_begin_190 hl (k := 1) rfl (nI_1 w) (by decide) rfl (fun ls hl => ?_)
                refine lv_goto (tgt := 123) hx hb d_M_begin_193 (by decide) ?_
                exact ih_123 (w + 1, c2 + 1) (⟨by omega, sx_cnt_1 hc2 (decide_eq_true (Int32.not_le.mp c_13))⟩) (by omega) ls _ _ (lv_sub hl [0, 1, 2, 3] rfl) hP hD hS
      · have c_5 : k < sx_dN α a := Nat.not_le.mp (fun z => c_5 ((nI_leI (by omega) (by omega)).mpr z))
        refine lv_aload_n hx hb d_M_begin_36 rfl (lv_at hl 1 rfl) ?_
        refine va_get (D := D) (ci := 4) (v := .ref (h 12)) (C := R_M) (T := T_M) (N := 21) hx hb hts iw_M hown hK.1 hP 0 rfl rfl 16 (by decide) (hts _ wd_380) (fun _ h9 => h9) rfl d_M_begin_37 ?_
        refine lv_bipush (v := nI 12) hx hb d_M_begin_40 (by decide +kernel) ?_
        refine lv_iload_n hx hb d_M_begin_42 rfl (lv_at hl 2 rfl) ?_
        refine lv_imul hx hb d_M_begin_43 ?_
        refine sx_asi (y := nI (12 * a)) (pk_mul 12 a) ?_
        refine lv_iload_n hx hb d_M_begin_44 rfl (lv_at hl 0 rfl) ?_
        refine lv_iadd hx hb d_M_begin_45 ?_
        refine sx_asi (y := nI (12 * a + k)) (nI_add (12 * a) k) ?_
        refine va_zald hx hb hK.1 hP 12 1 rfl rfl (vp_in_nI (by omega) (by decide)) d_M_begin_46 ?_
        refine sx_asi (congrArg (α 11) (nI_clamp (by omega))) ?_
        obtain ⟨ob, eob⟩ := hAc.2.1 k (by omega)
        refine sx_asi eob ?_
        refine lv_istore_n (lv' := [(3, .int (sx_bI ob)), (2, .int (nI k)), (0, .ref (h 0)), (1, .int (nI a))]) hx hb d_M_begin_47 rfl hl (by decide) rfl (fun ls hl => ?_)
        refine lv_iconst (v := nI 1) hx hb d_M_begin_48 (by decide +kernel) ?_
        refine lv_istore (lv' := [(4, .int (nI 1)), (3, .int (sx_bI ob)), (2, .int (nI k)), (0, .ref (h 0)), (1, .int (nI a))]) hx hb d_M_begin_49 hl (by decide) rfl (fun ls hl => ?_)
        refine sx_loop (σ := Nat × Bool) (fun x => 1 ≤ x.1 ∧ x.1 ≤ n ∧ x.2 = (ob || sx_any (sx_hsF α (sx_dp α a k)) x.1)) (fun x => [(4, .int (nI x.1)), (3, .int (sx_bI x.2)), (2, .int (nI k)), (0, .ref (h 0)), (1, .int (nI a))]) (fun x => n - x.1) (1, ob) (⟨by omega, by omega, (Bool.or_false ob).symm⟩) (lv_sub hl [0, 1, 2, 3, 4] rfl) (fun x hJ ih ls hl => ?_)
        obtain ⟨i, c⟩ := x
        obtain ⟨hi1, hin, hc⟩ := hJ
        have hl : lv_has ls 5 [(4, .int (nI i)), (3, .int (sx_bI c)), (2, .int (nI k)), (0, .ref (h 0)), (1, .int (nI a))] := hl
        have ih_51 := ih
        refine lv_iload hx hb d_M_begin_51 (lv_at hl 0 rfl) ?_
        refine lv_aload_n hx hb d_M_begin_53 rfl (lv_at hl 3 rfl) ?_
        refine va_get (D := D) (ci := 4) (v := .int (nI n)) (C := R_M) (T := T_M) (N := 21) hx hb hts iw_M hown hK.1 hP 0 rfl rfl 2 (by decide) (hts _ wd_366) (fun _ h9 => h9) rfl d_M_begin_54 ?_
        refine lv_icmp_ge (tgt := 106) hx hb d_M_begin_57 (by decide) (fun c_14 => ?_) (fun c_14 => ?_)
        · have c_14 : n ≤ i := (nI_leI (by omega) (by omega)).mp c_14
          refine lv_iload_n hx hb d_M_begin_106 rfl (lv_at hl 1 rfl) ?_
          refine lv_if_ne (tgt := 113) hx hb d_M_begin_107 (by decide) (fun c_15 => ?_) (fun c_15 => ?_)
          · have c_15 : c = true := sx_bIn c_15
            refine lv_iinc (v := nI (k + 1)) (lv' := [(2, .int (nI (k + 1))), (4, .int (nI i)), (3, .int (sx_bI c)), (0, .ref (h 0)), (1, .int (nI a))]) hx hb d_M_begin_113 hl (k := 2) rfl (nI_1 k) (by decide) rfl (fun ls hl => ?_)
            refine lv_goto (tgt := 26) hx hb d_M_begin_116 (by decide) ?_
            exact ih_26 (k + 1) (⟨by omega, sx_any_s hlk (sx_lk_f eob (show i = n by omega) hc c_15)⟩) (by omega) ls (lv_sub hl [0, 3, 4] rfl)
          · have c_15 : c = false := sx_bI0 c_15
            refine lv_bipush (v := (-2)) hx hb d_M_begin_110 (by decide +kernel) ?_
            have hlack : sx_lack n α a = true := sx_any_t.mpr ⟨k, by omega, sx_lk_t eob (show i = n by omega) hc c_15⟩
            have z := sx_beg_l (n := n) c_4 hlack
            have hP9 : va_P D vwCl (wMa cA h L (nI 0) n na sb (sx_begS n α a) cm mk) H := by rw [z.2]; exact hP
            have hD9 : va_D A (wMa cA h L (nI 0) n na sb (sx_begS n α a) cm mk) := by rw [z.2]; exact hD
            exact W.iret (v := (-2)) hx hb hr (fun t ht hW => ⟨⟨(-2), (), rfl, by rw [z.1], by rw [ht]; exact hP9, by rw [hAe]; exact hD9⟩, hS.F ht⟩) hS.2.2 d_M_begin_112
        · have c_14 : i < n := Nat.not_le.mp (fun z => c_14 ((nI_leI (by omega) (by omega)).mpr z))
          refine lv_iload_n hx hb d_M_begin_60 rfl (lv_at hl 1 rfl) ?_
          refine lv_if_ne (tgt := 94) hx hb d_M_begin_61 (by decide) (fun c_16 => ?_) (fun c_16 => ?_)
          · have c_16 : c = true := sx_bIn c_16
            refine lv_iconst (v := nI 1) hx hb d_M_begin_94 (by decide +kernel) ?_
            refine lv_goto (tgt := 99) hx hb d_M_begin_95 (by decide) ?_
            refine sx_asi (y := sx_bI true) rfl ?_
            refine lv_istore_n (lv' := [(3, .int (sx_bI true)), (4, .int (nI i)), (2, .int (nI k)), (0, .ref (h 0)), (1, .int (nI a))]) hx hb d_M_begin_99 rfl hl (by decide) rfl (fun ls hl => ?_)
            refine lv_iinc (v := nI (i + 1)) (lv' := [(4, .int (nI (i + 1))), (3, .int (sx_bI true)), (2, .int (nI k)), (0, .ref (h 0)), (1, .int (nI a))]) hx hb d_M_begin_100 hl (k := 1) rfl (nI_1 i) (by decide) rfl (fun ls hl => ?_)
            refine lv_goto (tgt := 51) hx hb d_M_begin_103 (by decide) ?_
            exact ih_51 (i + 1, true) (⟨by omega, by omega, sx_or1 hc c_16⟩) (by omega) ls (lv_sub hl [0, 1, 2, 3, 4] rfl)
          · have c_16 : c = false := sx_bI0 c_16
            refine lv_aload_n hx hb d_M_begin_64 rfl (lv_at hl 3 rfl) ?_
            refine va_get (D := D) (ci := 4) (v := .ref (h 3)) (C := R_M) (T := T_M) (N := 21) hx hb hts iw_M hown hK.1 hP 0 rfl rfl 7 (by decide) (hts _ wd_371) (fun _ h9 => h9) rfl d_M_begin_65 ?_
            refine lv_iload hx hb d_M_begin_68 (lv_at hl 0 rfl) ?_
            refine va_iald hx hb hK.1 hP 3 0 rfl rfl (vp_in_nI (by omega) (by decide)) d_M_begin_70 ?_
            refine sx_asi (congrArg (α 3) (nI_clamp (by omega))) ?_
            refine lv_if_le (tgt := 98) hx hb d_M_begin_71 (by decide) (fun c_17 => ?_) (fun c_17 => ?_)
            · refine lv_iconst (v := nI 0) hx hb d_M_begin_98 (by decide +kernel) ?_
              refine sx_asi (y := sx_bI false) rfl ?_
              refine lv_istore_n (lv' := [(3, .int (sx_bI false)), (4, .int (nI i)), (2, .int (nI k)), (0, .ref (h 0)), (1, .int (nI a))]) hx hb d_M_begin_99 rfl hl (by decide) rfl (fun ls hl => ?_)
              refine lv_iinc (v := nI (i + 1)) (lv' := [(4, .int (nI (i + 1))), (3, .int (sx_bI false)), (2, .int (nI k)), (0, .ref (h 0)), (1, .int (nI a))]) hx hb d_M_begin_100 hl (k := 1) rfl (nI_1 i) (by decide) rfl (fun ls hl => ?_)
              refine lv_goto (tgt := 51) hx hb d_M_begin_103 (by decide) ?_
              exact ih_51 (i + 1, false) (⟨by omega, by omega, sx_or0 hc c_16 (by unfold sx_hsF; rw [decide_eq_false (Int32.not_lt.mpr c_17)]; simp)⟩) (by omega) ls (lv_sub hl [0, 1, 2, 3, 4] rfl)
            · refine lv_aload_n hx hb d_M_begin_74 rfl (lv_at hl 3 rfl) ?_
              refine lv_iload hx hb d_M_begin_75 (lv_at hl 0 rfl) ?_
              refine lv_aload_n hx hb d_M_begin_77 rfl (lv_at hl 3 rfl) ?_
              refine va_get (D := D) (ci := 4) (v := .ref (h 6)) (C := R_M) (T := T_M) (N := 21) hx hb hts iw_M hown hK.1 hP 0 rfl rfl 10 (by decide) (hts _ wd_374) (fun _ h9 => h9) rfl d_M_begin_78 ?_
              refine lv_bipush (v := nI 12) hx hb d_M_begin_81 (by decide +kernel) ?_
              refine lv_iload_n hx hb d_M_begin_83 rfl (lv_at hl 4 rfl) ?_
              refine lv_imul hx hb d_M_begin_84 ?_
              refine sx_asi (y := nI (12 * a)) (pk_mul 12 a) ?_
              refine lv_iload_n hx hb d_M_begin_85 rfl (lv_at hl 2 rfl) ?_
              refine lv_iadd hx hb d_M_begin_86 ?_
              refine sx_asi (y := nI (12 * a + k)) (nI_add (12 * a) k) ?_
              refine va_iald hx hb hK.1 hP 6 0 rfl rfl (vp_in_nI (by omega) (by decide)) d_M_begin_87 ?_
              refine sx_asi (congrArg (α 5) (nI_clamp (by omega))) ?_
              obtain ⟨dp1, dp2, dp3⟩ := sx_dp_ok hn31 hAc (show k < sx_dN α a by omega)
              refine sx_asi dp3 ?_
              refine vp_callSi (va_runV (As := [.int (nI i), .int (nI (sx_dp α a k))]) (rest := []) ⟨hx, hb, hml, hown, hts⟩ (k_isUnder l D cA h (nI L) (nI 0) (nI na) (sx_bI sb) (α 2) (α 3) cm (α 4) (α 5) (α 6) (α 7) (α 8) (α 9) (α 10) (α 11) (α 12) (α 13) (α 14) mk n α hI.2.1 (by omega) i (sx_dp α a k) (by omega) (by omega)) (cwV 2 hts (sx_GV wd_447 wd_449 ws_13 wd_5 wd_450) rfl rfl rfl (by decide +kernel) ⟨Nat.le_of_ble_eq_true rfl, Nat.le_of_ble_eq_true rfl⟩) (sx_preV hK hP (va_recv hK.1 hP (ci := 4) (q0 := 0) rfl rfl)) rfl rfl hl.1 rfl (lv_room (Nat.le_of_ble_eq_true rfl)) d_M_begin_88 ⟨Nat.le_of_ble_eq_true rfl, Nat.le_of_ble_eq_true rfl⟩).run (fun r_19 hr_18 => ?_)
              subst hr_18
              refine lv_if_eq (tgt := 98) hx hb d_M_begin_91 (by decide) (fun c_20 => ?_) (fun c_20 => ?_)
              · have c_20 : (sx_U (α 1) i (sx_dp α a k)) = false := sx_bI0 c_20
                refine lv_iconst (v := nI 0) hx hb d_M_begin_98 (by decide +kernel) ?_
                refine sx_asi (y := sx_bI false) rfl ?_
                refine lv_istore_n (lv' := [(3, .int (sx_bI false)), (4, .int (nI i)), (2, .int (nI k)), (0, .ref (h 0)), (1, .int (nI a))]) hx hb d_M_begin_99 rfl hl (by decide) rfl (fun ls hl => ?_)
                refine lv_iinc (v := nI (i + 1)) (lv' := [(4, .int (nI (i + 1))), (3, .int (sx_bI false)), (2, .int (nI k)), (0, .ref (h 0)), (1, .int (nI a))]) hx hb d_M_begin_100 hl (k := 1) rfl (nI_1 i) (by decide) rfl (fun ls hl => ?_)
                refine lv_goto (tgt := 51) hx hb d_M_begin_103 (by decide) ?_
                exact ih_51 (i + 1, false) (⟨by omega, by omega, sx_or0 hc c_16 (by unfold sx_hsF; rw [c_20]; simp)⟩) (by omega) ls (lv_sub hl [0, 1, 2, 3, 4] rfl)
              · have c_20 : (sx_U (α 1) i (sx_dp α a k)) = true := sx_bIn c_20
                refine lv_iconst (v := nI 1) hx hb d_M_begin_94 (by decide +kernel) ?_
                refine lv_goto (tgt := 99) hx hb d_M_begin_95 (by decide) ?_
                refine sx_asi (y := sx_bI true) rfl ?_
                refine lv_istore_n (lv' := [(3, .int (sx_bI true)), (4, .int (nI i)), (2, .int (nI k)), (0, .ref (h 0)), (1, .int (nI a))]) hx hb d_M_begin_99 rfl hl (by decide) rfl (fun ls hl => ?_)
                refine lv_iinc (v := nI (i + 1)) (lv' := [(4, .int (nI (i + 1))), (3, .int (sx_bI true)), (2, .int (nI k)), (0, .ref (h 0)), (1, .int (nI a))]) hx hb d_M_begin_100 hl (k := 1) rfl (nI_1 i) (by decide) rfl (fun ls hl => ?_)
                refine lv_goto (tgt := 51) hx hb d_M_begin_103 (by decide) ?_
                exact ih_51 (i + 1, true) (⟨by omega, by omega, sx_or2 (by unfold sx_hsF; rw [sx_blt0 (by omega), decide_eq_true (Int32.not_le.mp c_17), c_20]; rfl)⟩) (by omega) ls (lv_sub hl [0, 1, 2, 3, 4] rfl)
    · have c_4 : (sx_fb α 12 a) = true := sx_bIn c_4
      refine lv_iconst (v := (-1)) hx hb d_M_begin_22 (by decide +kernel) ?_
      have z := sx_beg_no (n := n) c_4
      have hP9 : va_P D vwCl (wMa cA h L (nI 0) n na sb (sx_begS n α a) cm mk) H := by rw [z.2]; exact hP
      have hD9 : va_D A (wMa cA h L (nI 0) n na sb (sx_begS n α a) cm mk) := by rw [z.2]; exact hD
      exact W.iret (v := (-1)) hx hb hr (fun t ht hW => ⟨⟨(-1), (), rfl, by rw [z.1], by rw [ht]; exact hP9, by rw [hAe]; exact hD9⟩, hS.F ht⟩) hS.2.2 d_M_begin_23
