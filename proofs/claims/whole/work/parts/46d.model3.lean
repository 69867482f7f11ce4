set_option maxHeartbeats 4000000 in
set_option maxRecDepth 100000 in
theorem m_finish (l : Launch) (D : va_G) (cA : Nat → ClassId) (sz : Nat) (h : Nat → Nat) (L : Nat) (cd : Int32) (n na : Nat) (sb : Bool) (α : sx_A) (cm mk : Nat → Int32) (hI : sx_INV n na L α) (a : Nat) (ha : a < na) (fl : Bool) : Met l y_M_finish w_M_finish ({ frames := 4, cells := 0, slots := 0, locals := 96 }) (sx_Pw D cA [.ref (h 0), .int (nI a), .int (sx_bI fl)] (wMa cA h L cd n na sb α cm mk) sz) (va_Qi (fun r (u : (Nat → Int32) × (Nat → Int32)) => r = sx_finA n α a fl) (sx_Bw D (wMa cA h L cd n na sb α cm mk) sz (fun u => wMa cA h L (nI 0) n na sb (sx_finS n α a fl) u.1 u.2)) (va_A (wMa cA h L cd n na sb α cm mk) sz)) 0 0 (va_A (wMa cA h L cd n na sb α cm mk) sz) := by
  refine Met.ofW (cc := b_M_finish) (maxL := 4) (ret := (some .int)) (by decide) rfl ?_
  intro pG eG s m args below meth cG s₁ B hml hv
  obtain ⟨rfl, hsz, hP, hK, hD0⟩ := hv
  have hx := B.exec
  have hb := B.bytes
  have hr := B.returns
  have hts0 := atoms_spec (ws := w_M_finish) B.pre
  have hts : ∀ w ∈ sx_gw, w.before _ s = true := fun w h => hts0 w (List.mem_cons_of_mem _ h)
  have hown : s.vm.findClass R_M = some m.cls := findClass_of_methodNamed B.named
  have hlocks := B.notSynchronized
  subst hsz
  have hD := hD0.self (sz := s.heap.size)
  generalize hAe : va_A (wMa cA h L cd n na sb α cm mk) s.heap.size = A at hD ⊢
  have hA : ∀ q : Nat, s.heap.size ≤ q → A q := fun q h => by rw [← hAe]; exact Or.inr h
  have hS : va_S A s.heap s.heap [] := va_S.rf
  have hl := lv_entry ([.ref (h 0), .int (nI a), .int (sx_bI fl)]) (n := 4) (Nat.le_of_ble_eq_true rfl)
  rw [lg_entry_eq]
  generalize (lg_sl ([.ref (h 0), .int (nI a), .int (sx_bI fl)]) ++ List.replicate (4 - (lg_sl ([.ref (h 0), .int (nI a), .int (sx_bI fl)])).length) Slot.unset).toArray = ls at hl ⊢
  have hl : lv_has ls 4 [(0, .ref (h 0)), (1, .int (nI a)), (2, .int (sx_bI fl))] := hl
  have hn31 := sx_INV_n hI
  have hn60 := hI.1.1.2
  have h1n := hI.1.1.1
  have hna := hI.1.2.1
  have hAc := sx_INV_A hI ha
  have hd12 := (sx_dN_ok hAc).1
  have hP : va_P D vwCl (wM cA h (nI L) cd (nI n) (nI na) (sx_bI sb) (α 1) (α 2) (α 3) cm (α 4) (α 5) (α 6) (α 7) (α 8) (α 9) (α 10) (α 11) (α 12) (α 13) (α 14) mk) s.heap := hP
  have hD : va_D A (wM cA h (nI L) cd (nI n) (nI na) (sx_bI sb) (α 1) (α 2) (α 3) cm (α 4) (α 5) (α 6) (α 7) (α 8) (α 9) (α 10) (α 11) (α 12) (α 13) (α 14) mk) := hD
  refine lv_aload_n hx hb d_M_finish_0 rfl (lv_at hl 0 rfl) ?_
  refine lv_iconst (v := nI 0) hx hb d_M_finish_1 (by decide +kernel) ?_
  refine va_put (D := D) (ci := 4) (v := .int (nI 0)) (ty := .int) (C := R_M) (T := T_M) (N := 21) hx hb hts iw_M t_M o_M n_M hown hK.1 hP hD hS 0 rfl rfl 1 (by decide) (hts _ wd_365) (fun _ h9 => h9) rfl (by decide +kernel) rfl rfl (Nat.le_of_ble_eq_true rfl) d_M_finish_2 (fun H locs hP hD hS => ?_)
  have hP : va_P D vwCl (wM cA h (nI L) (nI 0) (nI n) (nI na) (sx_bI sb) (α 1) (α 2) (α 3) cm (α 4) (α 5) (α 6) (α 7) (α 8) (α 9) (α 10) (α 11) (α 12) (α 13) (α 14) mk) H := hP
  have hD : va_D A (wM cA h (nI L) (nI 0) (nI n) (nI na) (sx_bI sb) (α 1) (α 2) (α 3) cm (α 4) (α 5) (α 6) (α 7) (α 8) (α 9) (α 10) (α 11) (α 12) (α 13) (α 14) mk) := hD
  refine lv_aload_n hx hb d_M_finish_5 rfl (lv_at hl 0 rfl) ?_
  refine lv_iload_n hx hb d_M_finish_6 rfl (lv_at hl 1 rfl) ?_
  refine vp_callSi (va_runV (As := [.int (nI a)]) (rest := []) ⟨hx, hb, hml, hown, hts⟩ (k_isActM l D cA h (nI L) (nI 0) (sx_bI sb) (α 1) (α 2) (α 3) cm (α 4) (α 5) (α 6) (α 7) (α 8) (α 9) (α 10) (α 11) (α 12) (α 13) (α 14) mk n na α (nI a)) (cwV 1 hts (sx_GV wd_463 wd_465 ws_14 wd_5 wd_466) rfl rfl rfl (by decide +kernel) ⟨Nat.le_of_ble_eq_true rfl, Nat.le_of_ble_eq_true rfl⟩) (sx_preV hK hP (va_recv hK.1 hP (ci := 4) (q0 := 0) rfl rfl)) rfl rfl hl.1 rfl (lv_room (Nat.le_of_ble_eq_true rfl)) d_M_finish_7 ⟨Nat.le_of_ble_eq_true rfl, Nat.le_of_ble_eq_true rfl⟩).run (fun r_2 hr_1 => ?_)
  rw [sx_has_nI (by omega) (by omega)] at hr_1
  subst hr_1
  refine lv_if_eq (tgt := 22) hx hb d_M_finish_10 (by decide) (fun c_3 => ?_) (fun c_3 => ?_)
  · exact absurd c_3 (by decide)
  · refine lv_aload_n hx hb d_M_finish_13 rfl (lv_at hl 0 rfl) ?_
    refine va_get (D := D) (ci := 4) (v := .ref (h 13)) (C := R_M) (T := T_M) (N := 21) hx hb hts iw_M hown hK.1 hP 0 rfl rfl 17 (by decide) (hts _ wd_381) (fun _ h9 => h9) rfl d_M_finish_14 ?_
    refine lv_iload_n hx hb d_M_finish_17 rfl (lv_at hl 1 rfl) ?_
    refine va_zald hx hb hK.1 hP 13 1 rfl rfl (vp_in_nI (by omega) (by decide)) d_M_finish_18 ?_
    refine sx_asi (congrArg (α 12) (nI_clamp (by omega))) ?_
    refine sx_asi (y := sx_bI (sx_fb α 12 a)) (sx_fb_ok hAc.2.2.2.2.2.1).symm ?_
    refine lv_if_ne (tgt := 24) hx hb d_M_finish_19 (by decide) (fun c_4 => ?_) (fun c_4 => ?_)
    · have c_4 : (sx_fb α 12 a) = true := sx_bIn c_4
      have hth := c_4
      refine lv_aload_n hx hb d_M_finish_24 rfl (lv_at hl 0 rfl) ?_
      refine lv_iload_n hx hb d_M_finish_25 rfl (lv_at hl 1 rfl) ?_
      refine lv_iload_n hx hb d_M_finish_26 rfl (lv_at hl 2 rfl) ?_
      refine sx_calli (wr := []) (va_runV (As := [.int (nI a), .int (sx_bI fl)]) (rest := []) ⟨hx, hb, hml, hown, hts⟩ (k_ended l D cA H.size h (nI L) (nI 0) (nI na) (sx_bI sb) cm (α 6) (α 7) (α 8) (α 9) (α 12) (α 14) mk n α na L hI a ha fl hth) (cwV 2 hts (sx_GV wd_534 wd_536 ws_23 wd_5 wd_537) rfl rfl rfl (by decide +kernel) ⟨Nat.le_of_ble_eq_true rfl, Nat.le_of_ble_eq_true rfl⟩) (sx_preVw hK hP hD (va_recv hK.1 hP (ci := 4) (q0 := 0) rfl rfl)) rfl rfl hl.1 rfl (lv_room (Nat.le_of_ble_eq_true rfl)) d_M_finish_27 ⟨Nat.le_of_ble_eq_true rfl, Nat.le_of_ble_eq_true rfl⟩) hP hD hS hA [0, 1, 2, 3, 4, 5, 6, 7, 8, 9, 10, 11, 12, 13, 14, 15, 16] [] rfl rfl (by decide) (by decide) (fun r_6 u_7 H locs hr_5 hP hD hS => ?_)
      have hP : va_P D vwCl (wM cA h (nI L) (nI 0) (nI n) (nI na) (sx_bI sb) (α 1) (α 2) (sx_finS n α a fl 3) u_7.1 (α 4) (α 5) (α 6) (α 7) (α 8) (α 9) (α 10) (α 11) (α 12) (α 13) (α 14) u_7.2) H := hP.sub [0, 1, 2, 3, 4, 5, 6, 7, 8, 9, 10, 11, 12, 13, 14, 15, 16] rfl
      have hD : va_D A (wM cA h (nI L) (nI 0) (nI n) (nI na) (sx_bI sb) (α 1) (α 2) (sx_finS n α a fl 3) u_7.1 (α 4) (α 5) (α 6) (α 7) (α 8) (α 9) (α 10) (α 11) (α 12) (α 13) (α 14) u_7.2) := hD.sub [0, 1, 2, 3, 4, 5, 6, 7, 8, 9, 10, 11, 12, 13, 14, 15, 16] (by decide) rfl
      subst hr_5
      refine lv_istore_n (lv' := [(3, .int (sx_finA n α a fl)), (0, .ref (h 0)), (1, .int (nI a)), (2, .int (sx_bI fl))]) hx hb d_M_finish_30 rfl hl (by decide) rfl (fun ls hl => ?_)
      refine lv_aload_n hx hb d_M_finish_31 rfl (lv_at hl 1 rfl) ?_
      refine va_get (D := D) (ci := 4) (v := .ref (h 13)) (C := R_M) (T := T_M) (N := 21) hx hb hts iw_M hown hK.1 hP 0 rfl rfl 17 (by decide) (hts _ wd_381) (fun _ h9 => h9) rfl d_M_finish_32 ?_
      refine lv_iload_n hx hb d_M_finish_35 rfl (lv_at hl 2 rfl) ?_
      refine lv_iconst (v := nI 0) hx hb d_M_finish_36 (by decide +kernel) ?_
      refine va_zast hx hb hK.1 hP hD hS 13 1 rfl rfl (vp_in_nI (by omega) (by decide)) d_M_finish_37 (fun H locs hP hD hS => ?_)
      rw [nI_clamp (by omega)] at hP hD
      rw [show vp_nar .boolean (nI 0) = nI 0 from by decide +kernel] at hP hD
      have hP : va_P D vwCl (wM cA h (nI L) (nI 0) (nI n) (nI na) (sx_bI sb) (α 1) (α 2) (sx_finS n α a fl 3) u_7.1 (α 4) (α 5) (α 6) (α 7) (α 8) (α 9) (α 10) (α 11) (upd (α 12) a (nI 0)) (α 13) (α 14) u_7.2) H := hP
      have hD : va_D A (wM cA h (nI L) (nI 0) (nI n) (nI na) (sx_bI sb) (α 1) (α 2) (sx_finS n α a fl 3) u_7.1 (α 4) (α 5) (α 6) (α 7) (α 8) (α 9) (α 10) (α 11) (upd (α 12) a (nI 0)) (α 13) (α 14) u_7.2) := hD
      refine lv_iload_n hx hb d_M_finish_38 rfl (lv_at hl 0 rfl) ?_
      have hP9 : va_P D vwCl (wMa cA h L (nI 0) n na sb (sx_finS n α a fl) u_7.1 u_7.2) H := by rw [sx_M_fin hth]; exact hP
      have hD9 : va_D A (wMa cA h L (nI 0) n na sb (sx_finS n α a fl) u_7.1 u_7.2) := by rw [sx_M_fin hth]; exact hD
      exact W.iret (v := sx_finA n α a fl) hx hb hr (fun t ht hW => ⟨⟨sx_finA n α a fl, (u_7.1, u_7.2), rfl, rfl, by rw [ht]; exact hP9, by rw [hAe]; exact hD9⟩, hS.F ht⟩) hS.2.2 d_M_finish_39
    · have c_4 : (sx_fb α 12 a) = false := sx_bI0 c_4
      refine lv_iconst (v := (-1)) hx hb d_M_finish_22 (by decide +kernel) ?_
      have z := sx_fin_no (n := n) (f := fl) c_4
      have hP9 : va_P D vwCl (wMa cA h L (nI 0) n na sb (sx_finS n α a fl) cm mk) H := by rw [z.2]; exact hP
      have hD9 : va_D A (wMa cA h L (nI 0) n na sb (sx_finS n α a fl) cm mk) := by rw [z.2]; exact hD
      exact W.iret (v := (-1)) hx hb hr (fun t ht hW => ⟨⟨(-1), (cm, mk), rfl, by rw [z.1], by rw [ht]; exact hP9, by rw [hAe]; exact hD9⟩, hS.F ht⟩) hS.2.2 d_M_finish_23

set_option maxHeartbeats 4000000 in
set_option maxRecDepth 100000 in
theorem m_tried (l : Launch) (D : va_G) (cA : Nat → ClassId) (sz : Nat) (h : Nat → Nat) (L : Nat) (cd : Int32) (n na : Nat) (sb : Bool) (α : sx_A) (cm mk : Nat → Int32) (hI : sx_INV n na L α) (a : Nat) (ha : a < na) (ii : Int32) : Met l y_M_tried w_M_tried ({ frames := 1, cells := 0, slots := 0, locals := 21 }) (sx_Pw D cA [.ref (h 0), .int (nI a), .int ii] (wMa cA h L cd n na sb α cm mk) sz) (va_Qi (fun r (_ : Unit) => r = sx_triA α a ii) (sx_Bw D (wMa cA h L cd n na sb α cm mk) sz (fun _ => wMa cA h L (nI 0) n na sb α cm mk)) (va_A (wMa cA h L cd n na sb α cm mk) sz)) 0 0 (va_A (wMa cA h L cd n na sb α cm mk) sz) := by
  refine Met.ofW (cc := b_M_tried) (maxL := 3) (ret := (some .int)) (by decide) rfl ?_
  intro pG eG s m args below meth cG s₁ B hml hv
  obtain ⟨rfl, hsz, hP, hK, hD0⟩ := hv
  have hx := B.exec
  have hb := B.bytes
  have hr := B.returns
  have hts0 := atoms_spec (ws := w_M_tried) B.pre
  have hts : ∀ w ∈ sx_gw, w.before _ s = true := fun w h => hts0 w (List.mem_cons_of_mem _ h)
  have hown : s.vm.findClass R_M = some m.cls := findClass_of_methodNamed B.named
  have hlocks := B.notSynchronized
  subst hsz
  have hD := hD0.self (sz := s.heap.size)
  generalize hAe : va_A (wMa cA h L cd n na sb α cm mk) s.heap.size = A at hD ⊢
  have hA : ∀ q : Nat, s.heap.size ≤ q → A q := fun q h => by rw [← hAe]; exact Or.inr h
  have hS : va_S A s.heap s.heap [] := va_S.rf
  have hl := lv_entry ([.ref (h 0), .int (nI a), .int ii]) (n := 3) (Nat.le_of_ble_eq_true rfl)
  rw [lg_entry_eq]
  generalize (lg_sl ([.ref (h 0), .int (nI a), .int ii]) ++ List.replicate (3 - (lg_sl ([.ref (h 0), .int (nI a), .int ii])).length) Slot.unset).toArray = ls at hl ⊢
  have hl : lv_has ls 3 [(0, .ref (h 0)), (1, .int (nI a)), (2, .int ii)] := hl
  have hn31 := sx_INV_n hI
  have hn60 := hI.1.1.2
  have h1n := hI.1.1.1
  have hna := hI.1.2.1
  have hAc := sx_INV_A hI ha
  have hd12 := (sx_dN_ok hAc).1
  have t60 := (sx_tN_ok hAc).1
  have hP : va_P D vwCl (wM cA h (nI L) cd (nI n) (nI na) (sx_bI sb) (α 1) (α 2) (α 3) cm (α 4) (α 5) (α 6) (α 7) (α 8) (α 9) (α 10) (α 11) (α 12) (α 13) (α 14) mk) s.heap := hP
  have hD : va_D A (wM cA h (nI L) cd (nI n) (nI na) (sx_bI sb) (α 1) (α 2) (α 3) cm (α 4) (α 5) (α 6) (α 7) (α 8) (α 9) (α 10) (α 11) (α 12) (α 13) (α 14) mk) := hD
  refine lv_aload_n hx hb d_M_tried_0 rfl (lv_at hl 0 rfl) ?_
  refine lv_iconst (v := nI 0) hx hb d_M_tried_1 (by decide +kernel) ?_
  refine va_put (D := D) (ci := 4) (v := .int (nI 0)) (ty := .int) (C := R_M) (T := T_M) (N := 21) hx hb hts iw_M t_M o_M n_M hown hK.1 hP hD hS 0 rfl rfl 1 (by decide) (hts _ wd_365) (fun _ h9 => h9) rfl (by decide +kernel) rfl rfl (Nat.le_of_ble_eq_true rfl) d_M_tried_2 (fun H locs hP hD hS => ?_)
  have hP : va_P D vwCl (wM cA h (nI L) (nI 0) (nI n) (nI na) (sx_bI sb) (α 1) (α 2) (α 3) cm (α 4) (α 5) (α 6) (α 7) (α 8) (α 9) (α 10) (α 11) (α 12) (α 13) (α 14) mk) H := hP
  have hD : va_D A (wM cA h (nI L) (nI 0) (nI n) (nI na) (sx_bI sb) (α 1) (α 2) (α 3) cm (α 4) (α 5) (α 6) (α 7) (α 8) (α 9) (α 10) (α 11) (α 12) (α 13) (α 14) mk) := hD
  refine lv_aload_n hx hb d_M_tried_5 rfl (lv_at hl 0 rfl) ?_
  refine lv_iload_n hx hb d_M_tried_6 rfl (lv_at hl 1 rfl) ?_
  refine vp_callSi (va_runV (As := [.int (nI a)]) (rest := []) ⟨hx, hb, hml, hown, hts⟩ (k_isActM l D cA h (nI L) (nI 0) (sx_bI sb) (α 1) (α 2) (α 3) cm (α 4) (α 5) (α 6) (α 7) (α 8) (α 9) (α 10) (α 11) (α 12) (α 13) (α 14) mk n na α (nI a)) (cwV 1 hts (sx_GV wd_463 wd_465 ws_14 wd_5 wd_466) rfl rfl rfl (by decide +kernel) ⟨Nat.le_of_ble_eq_true rfl, Nat.le_of_ble_eq_true rfl⟩) (sx_preV hK hP (va_recv hK.1 hP (ci := 4) (q0 := 0) rfl rfl)) rfl rfl hl.1 rfl (lv_room (Nat.le_of_ble_eq_true rfl)) d_M_tried_7 ⟨Nat.le_of_ble_eq_true rfl, Nat.le_of_ble_eq_true rfl⟩).run (fun r_2 hr_1 => ?_)
  rw [sx_has_nI (by omega) (by omega)] at hr_1
  subst hr_1
  refine lv_if_eq (tgt := 41) hx hb d_M_tried_10 (by decide) (fun c_3 => ?_) (fun c_3 => ?_)
  · exact absurd c_3 (by decide)
  · refine lv_iload_n hx hb d_M_tried_13 rfl (lv_at hl 2 rfl) ?_
    refine lv_if_lt (tgt := 41) hx hb d_M_tried_14 (by decide) (fun c_4 => ?_) (fun c_4 => ?_)
    · refine lv_iconst (v := (-1)) hx hb d_M_tried_41 (by decide +kernel) ?_
      have hP9 : va_P D vwCl (wMa cA h L (nI 0) n na sb α cm mk) H := hP
      have hD9 : va_D A (wMa cA h L (nI 0) n na sb α cm mk) := hD
      exact W.iret (v := (-1)) hx hb hr (fun t ht hW => ⟨⟨(-1), (), rfl, (sx_tri_n (Or.inl c_4)).symm, by rw [ht]; exact hP9, by rw [hAe]; exact hD9⟩, hS.F ht⟩) hS.2.2 d_M_tried_42
    · refine lv_iload_n hx hb d_M_tried_17 rfl (lv_at hl 2 rfl) ?_
      refine lv_aload_n hx hb d_M_tried_18 rfl (lv_at hl 0 rfl) ?_
      refine va_get (D := D) (ci := 4) (v := .ref (h 9)) (C := R_M) (T := T_M) (N := 21) hx hb hts iw_M hown hK.1 hP 0 rfl rfl 13 (by decide) (hts _ wd_377) (fun _ h9 => h9) rfl d_M_tried_19 ?_
      refine lv_iload_n hx hb d_M_tried_22 rfl (lv_at hl 1 rfl) ?_
      refine va_iald hx hb hK.1 hP 9 0 rfl rfl (vp_in_nI (by omega) (by decide)) d_M_tried_23 ?_
      refine sx_asi (congrArg (α 8) (nI_clamp (by omega))) ?_
      refine sx_asi (sx_tN_ok hAc).2 ?_
      refine lv_icmp_ge (tgt := 41) hx hb d_M_tried_24 (by decide) (fun c_5 => ?_) (fun c_5 => ?_)
      · refine lv_iconst (v := (-1)) hx hb d_M_tried_41 (by decide +kernel) ?_
        have hP9 : va_P D vwCl (wMa cA h L (nI 0) n na sb α cm mk) H := hP
        have hD9 : va_D A (wMa cA h L (nI 0) n na sb α cm mk) := hD
        exact W.iret (v := (-1)) hx hb hr (fun t ht hW => ⟨⟨(-1), (), rfl, (sx_tri_n (Or.inr (Int32.not_lt.mpr c_5))).symm, by rw [ht]; exact hP9, by rw [hAe]; exact hD9⟩, hS.F ht⟩) hS.2.2 d_M_tried_42
      · obtain ⟨j, hj, rfl⟩ := sx_tri_y t60 c_4 (Int32.not_le.mp c_5)
        refine lv_aload_n hx hb d_M_tried_27 rfl (lv_at hl 0 rfl) ?_
        refine va_get (D := D) (ci := 4) (v := .ref (h 10)) (C := R_M) (T := T_M) (N := 21) hx hb hts iw_M hown hK.1 hP 0 rfl rfl 14 (by decide) (hts _ wd_378) (fun _ h9 => h9) rfl d_M_tried_28 ?_
        refine lv_bipush (v := nI 60) hx hb d_M_tried_31 (by decide +kernel) ?_
        refine lv_iload_n hx hb d_M_tried_33 rfl (lv_at hl 1 rfl) ?_
        refine lv_imul hx hb d_M_tried_34 ?_
        refine sx_asi (y := nI (60 * a)) (pk_mul 60 a) ?_
        refine lv_iload_n hx hb d_M_tried_35 rfl (lv_at hl 2 rfl) ?_
        refine lv_iadd hx hb d_M_tried_36 ?_
        refine sx_asi (y := nI (60 * a + j)) (nI_add (60 * a) j) ?_
        refine va_iald hx hb hK.1 hP 10 0 rfl rfl (vp_in_nI (by omega) (by decide)) d_M_tried_37 ?_
        refine sx_asi (congrArg (α 9) (nI_clamp (by omega))) ?_
        refine lv_goto (tgt := 42) hx hb d_M_tried_38 (by decide) ?_
        have hP9 : va_P D vwCl (wMa cA h L (nI 0) n na sb α cm mk) H := hP
        have hD9 : va_D A (wMa cA h L (nI 0) n na sb α cm mk) := hD
        exact W.iret (v := (α 9) (60 * a + j)) hx hb hr (fun t ht hW => ⟨⟨(α 9) (60 * a + j), (), rfl, (sx_tri_j t60 hj).symm, by rw [ht]; exact hP9, by rw [hAe]; exact hD9⟩, hS.F ht⟩) hS.2.2 d_M_tried_42

set_option maxHeartbeats 4000000 in
set_option maxRecDepth 100000 in
theorem m_about (l : Launch) (D : va_G) (cA : Nat → ClassId) (sz : Nat) (h : Nat → Nat) (L : Nat) (cd : Int32) (n na : Nat) (sb : Bool) (α : sx_A) (cm mk : Nat → Int32) (hI : sx_INV n na L α) (a : Nat) (ha : a < na) (ww : Int32) : Met l y_M_about w_M_about ({ frames := 1, cells := 0, slots := 0, locals := 21 }) (sx_Pw D cA [.ref (h 0), .int (nI a), .int ww] (wMa cA h L cd n na sb α cm mk) sz) (va_Qi (fun r (_ : Unit) => r = sx_aboA α a ww) (sx_Bw D (wMa cA h L cd n na sb α cm mk) sz (fun _ => wMa cA h L (nI 0) n na sb α cm mk)) (va_A (wMa cA h L cd n na sb α cm mk) sz)) 0 0 (va_A (wMa cA h L cd n na sb α cm mk) sz) := by
  refine Met.ofW (cc := b_M_about) (maxL := 3) (ret := (some .int)) (by decide) rfl ?_
  intro pG eG s m args below meth cG s₁ B hml hv
  obtain ⟨rfl, hsz, hP, hK, hD0⟩ := hv
  have hx := B.exec
  have hb := B.bytes
  have hr := B.returns
  have hts0 := atoms_spec (ws := w_M_about) B.pre
  have hts : ∀ w ∈ sx_gw, w.before _ s = true := fun w h => hts0 w (List.mem_cons_of_mem _ h)
  have hown : s.vm.findClass R_M = some m.cls := findClass_of_methodNamed B.named
  have hlocks := B.notSynchronized
  subst hsz
  have hD := hD0.self (sz := s.heap.size)
  generalize hAe : va_A (wMa cA h L cd n na sb α cm mk) s.heap.size = A at hD ⊢
  have hA : ∀ q : Nat, s.heap.size ≤ q → A q := fun q h => by rw [← hAe]; exact Or.inr h
  have hS : va_S A s.heap s.heap [] := va_S.rf
  have hl := lv_entry ([.ref (h 0), .int (nI a), .int ww]) (n := 3) (Nat.le_of_ble_eq_true rfl)
  rw [lg_entry_eq]
  generalize (lg_sl ([.ref (h 0), .int (nI a), .int ww]) ++ List.replicate (3 - (lg_sl ([.ref (h 0), .int (nI a), .int ww])).length) Slot.unset).toArray = ls at hl ⊢
  have hl : lv_has ls 3 [(0, .ref (h 0)), (1, .int (nI a)), (2, .int ww)] := hl
  have hn31 := sx_INV_n hI
  have hn60 := hI.1.1.2
  have h1n := hI.1.1.1
  have hna := hI.1.2.1
  have hAc := sx_INV_A hI ha
  have hd12 := (sx_dN_ok hAc).1
  have hP : va_P D vwCl (wM cA h (nI L) cd (nI n) (nI na) (sx_bI sb) (α 1) (α 2) (α 3) cm (α 4) (α 5) (α 6) (α 7) (α 8) (α 9) (α 10) (α 11) (α 12) (α 13) (α 14) mk) s.heap := hP
  have hD : va_D A (wM cA h (nI L) cd (nI n) (nI na) (sx_bI sb) (α 1) (α 2) (α 3) cm (α 4) (α 5) (α 6) (α 7) (α 8) (α 9) (α 10) (α 11) (α 12) (α 13) (α 14) mk) := hD
  refine lv_aload_n hx hb d_M_about_0 rfl (lv_at hl 0 rfl) ?_
  refine lv_iconst (v := nI 0) hx hb d_M_about_1 (by decide +kernel) ?_
  refine va_put (D := D) (ci := 4) (v := .int (nI 0)) (ty := .int) (C := R_M) (T := T_M) (N := 21) hx hb hts iw_M t_M o_M n_M hown hK.1 hP hD hS 0 rfl rfl 1 (by decide) (hts _ wd_365) (fun _ h9 => h9) rfl (by decide +kernel) rfl rfl (Nat.le_of_ble_eq_true rfl) d_M_about_2 (fun H locs hP hD hS => ?_)
  have hP : va_P D vwCl (wM cA h (nI L) (nI 0) (nI n) (nI na) (sx_bI sb) (α 1) (α 2) (α 3) cm (α 4) (α 5) (α 6) (α 7) (α 8) (α 9) (α 10) (α 11) (α 12) (α 13) (α 14) mk) H := hP
  have hD : va_D A (wM cA h (nI L) (nI 0) (nI n) (nI na) (sx_bI sb) (α 1) (α 2) (α 3) cm (α 4) (α 5) (α 6) (α 7) (α 8) (α 9) (α 10) (α 11) (α 12) (α 13) (α 14) mk) := hD
  refine lv_aload_n hx hb d_M_about_5 rfl (lv_at hl 0 rfl) ?_
  refine lv_iload_n hx hb d_M_about_6 rfl (lv_at hl 1 rfl) ?_
  refine vp_callSi (va_runV (As := [.int (nI a)]) (rest := []) ⟨hx, hb, hml, hown, hts⟩ (k_isActM l D cA h (nI L) (nI 0) (sx_bI sb) (α 1) (α 2) (α 3) cm (α 4) (α 5) (α 6) (α 7) (α 8) (α 9) (α 10) (α 11) (α 12) (α 13) (α 14) mk n na α (nI a)) (cwV 1 hts (sx_GV wd_463 wd_465 ws_14 wd_5 wd_466) rfl rfl rfl (by decide +kernel) ⟨Nat.le_of_ble_eq_true rfl, Nat.le_of_ble_eq_true rfl⟩) (sx_preV hK hP (va_recv hK.1 hP (ci := 4) (q0 := 0) rfl rfl)) rfl rfl hl.1 rfl (lv_room (Nat.le_of_ble_eq_true rfl)) d_M_about_7 ⟨Nat.le_of_ble_eq_true rfl, Nat.le_of_ble_eq_true rfl⟩).run (fun r_2 hr_1 => ?_)
  rw [sx_has_nI (by omega) (by omega)] at hr_1
  subst hr_1
  refine lv_if_ne (tgt := 15) hx hb d_M_about_10 (by decide) (fun c_3 => ?_) (fun c_3 => ?_)
  · refine lv_iload_n hx hb d_M_about_15 rfl (lv_at hl 2 rfl) ?_
    refine lv_if_ne (tgt := 34) hx hb d_M_about_16 (by decide) (fun c_4 => ?_) (fun c_4 => ?_)
    · refine lv_aload_n hx hb d_M_about_34 rfl (lv_at hl 0 rfl) ?_
      refine va_get (D := D) (ci := 4) (v := .ref (h 15)) (C := R_M) (T := T_M) (N := 21) hx hb hts iw_M hown hK.1 hP 0 rfl rfl 19 (by decide) (hts _ wd_383) (fun _ h9 => h9) rfl d_M_about_35 ?_
      refine lv_iload_n hx hb d_M_about_38 rfl (lv_at hl 1 rfl) ?_
      refine va_zald hx hb hK.1 hP 15 1 rfl rfl (vp_in_nI (by omega) (by decide)) d_M_about_39 ?_
      refine sx_asi (congrArg (α 14) (nI_clamp (by omega))) ?_
      refine sx_asi (y := sx_bI (sx_fb α 14 a)) (sx_fb_ok hAc.2.2.2.2.2.2.2).symm ?_
      refine lv_if_ne (tgt := 45) hx hb d_M_about_40 (by decide) (fun c_5 => ?_) (fun c_5 => ?_)
      · have c_5 : (sx_fb α 14 a) = true := sx_bIn c_5
        refine lv_iload_n hx hb d_M_about_45 rfl (lv_at hl 2 rfl) ?_
        refine lv_iconst (v := nI 1) hx hb d_M_about_46 (by decide +kernel) ?_
        refine lv_icmp_ne (tgt := 59) hx hb d_M_about_47 (by decide) (fun c_6 => ?_) (fun c_6 => ?_)
        · refine lv_iload_n hx hb d_M_about_59 rfl (lv_at hl 2 rfl) ?_
          refine lv_iconst (v := nI 2) hx hb d_M_about_60 (by decide +kernel) ?_
          refine lv_icmp_ne (tgt := 73) hx hb d_M_about_61 (by decide) (fun c_7 => ?_) (fun c_7 => ?_)
          · refine lv_iload_n hx hb d_M_about_73 rfl (lv_at hl 2 rfl) ?_
            refine lv_iconst (v := nI 3) hx hb d_M_about_74 (by decide +kernel) ?_
            refine lv_icmp_ne (tgt := 95) hx hb d_M_about_75 (by decide) (fun c_8 => ?_) (fun c_8 => ?_)
            · refine lv_iconst (v := (-1)) hx hb d_M_about_95 (by decide +kernel) ?_
              have hP9 : va_P D vwCl (wMa cA h L (nI 0) n na sb α cm mk) H := hP
              have hD9 : va_D A (wMa cA h L (nI 0) n na sb α cm mk) := hD
              exact W.iret (v := (-1)) hx hb hr (fun t ht hW => ⟨⟨(-1), (), rfl, (by unfold sx_aboA; rw [if_neg c_4]; have z := c_5; unfold sx_fb at z; rw [show decide (α 14 a = 0) = false from by simpa using z]; rw [cond_false, if_neg (show ¬ ww = 1 from c_6), if_neg (show ¬ ww = 2 from c_7), if_neg (show ¬ ww = 3 from c_8)]), by rw [ht]; exact hP9, by rw [hAe]; exact hD9⟩, hS.F ht⟩) hS.2.2 d_M_about_96
            · refine lv_aload_n hx hb d_M_about_78 rfl (lv_at hl 0 rfl) ?_
              refine va_get (D := D) (ci := 4) (v := .ref (h 14)) (C := R_M) (T := T_M) (N := 21) hx hb hts iw_M hown hK.1 hP 0 rfl rfl 18 (by decide) (hts _ wd_382) (fun _ h9 => h9) rfl d_M_about_79 ?_
              refine lv_iload_n hx hb d_M_about_82 rfl (lv_at hl 1 rfl) ?_
              refine va_zald hx hb hK.1 hP 14 1 rfl rfl (vp_in_nI (by omega) (by decide)) d_M_about_83 ?_
              refine sx_asi (congrArg (α 13) (nI_clamp (by omega))) ?_
              refine sx_asi (y := sx_bI (sx_fb α 13 a)) (sx_fb_ok hAc.2.2.2.2.2.2.1).symm ?_
              refine lv_if_eq (tgt := 91) hx hb d_M_about_84 (by decide) (fun c_9 => ?_) (fun c_9 => ?_)
              · have c_9 : (sx_fb α 13 a) = false := sx_bI0 c_9
                refine lv_iconst (v := nI 0) hx hb d_M_about_91 (by decide +kernel) ?_
                refine lv_goto (tgt := 96) hx hb d_M_about_92 (by decide) ?_
                have hP9 : va_P D vwCl (wMa cA h L (nI 0) n na sb α cm mk) H := hP
                have hD9 : va_D A (wMa cA h L (nI 0) n na sb α cm mk) := hD
                exact W.iret (v := nI 0) hx hb hr (fun t ht hW => ⟨⟨nI 0, (), rfl, (by unfold sx_aboA; rw [if_neg c_4]; have z := c_5; unfold sx_fb at z; rw [show decide (α 14 a = 0) = false from by simpa using z]; rw [cond_false, if_neg (show ¬ ww = 1 from c_6), if_neg (show ¬ ww = 2 from c_7), if_pos (show ww = 3 from c_8)]; have y := c_9; unfold sx_fb at y; rw [show decide (α 13 a = 0) = true from by simpa using y]; rfl), by rw [ht]; exact hP9, by rw [hAe]; exact hD9⟩, hS.F ht⟩) hS.2.2 d_M_about_96
              · have c_9 : (sx_fb α 13 a) = true := sx_bIn c_9
                refine lv_iconst (v := nI 1) hx hb d_M_about_87 (by decide +kernel) ?_
                refine lv_goto (tgt := 96) hx hb d_M_about_88 (by decide) ?_
                have hP9 : va_P D vwCl (wMa cA h L (nI 0) n na sb α cm mk) H := hP
                have hD9 : va_D A (wMa cA h L (nI 0) n na sb α cm mk) := hD
                exact W.iret (v := nI 1) hx hb hr (fun t ht hW => ⟨⟨nI 1, (), rfl, (by unfold sx_aboA; rw [if_neg c_4]; have z := c_5; unfold sx_fb at z; rw [show decide (α 14 a = 0) = false from by simpa using z]; rw [cond_false, if_neg (show ¬ ww = 1 from c_6), if_neg (show ¬ ww = 2 from c_7), if_pos (show ww = 3 from c_8)]; have y := c_9; unfold sx_fb at y; rw [show decide (α 13 a = 0) = false from by simpa using y]; rfl), by rw [ht]; exact hP9, by rw [hAe]; exact hD9⟩, hS.F ht⟩) hS.2.2 d_M_about_96
          · refine lv_aload_n hx hb d_M_about_64 rfl (lv_at hl 0 rfl) ?_
            refine va_get (D := D) (ci := 4) (v := .ref (h 8)) (C := R_M) (T := T_M) (N := 21) hx hb hts iw_M hown hK.1 hP 0 rfl rfl 12 (by decide) (hts _ wd_376) (fun _ h9 => h9) rfl d_M_about_65 ?_
            refine lv_iload_n hx hb d_M_about_68 rfl (lv_at hl 1 rfl) ?_
            refine va_iald hx hb hK.1 hP 8 0 rfl rfl (vp_in_nI (by omega) (by decide)) d_M_about_69 ?_
            refine sx_asi (congrArg (α 7) (nI_clamp (by omega))) ?_
            refine lv_goto (tgt := 96) hx hb d_M_about_70 (by decide) ?_
            have hP9 : va_P D vwCl (wMa cA h L (nI 0) n na sb α cm mk) H := hP
            have hD9 : va_D A (wMa cA h L (nI 0) n na sb α cm mk) := hD
            exact W.iret (v := (α 7) a) hx hb hr (fun t ht hW => ⟨⟨(α 7) a, (), rfl, (by unfold sx_aboA; rw [if_neg c_4]; have z := c_5; unfold sx_fb at z; rw [show decide (α 14 a = 0) = false from by simpa using z]; rw [cond_false, if_neg (show ¬ ww = 1 from c_6), if_pos (show ww = 2 from c_7)]), by rw [ht]; exact hP9, by rw [hAe]; exact hD9⟩, hS.F ht⟩) hS.2.2 d_M_about_96
        · refine lv_aload_n hx hb d_M_about_50 rfl (lv_at hl 0 rfl) ?_
          refine va_get (D := D) (ci := 4) (v := .ref (h 7)) (C := R_M) (T := T_M) (N := 21) hx hb hts iw_M hown hK.1 hP 0 rfl rfl 11 (by decide) (hts _ wd_375) (fun _ h9 => h9) rfl d_M_about_51 ?_
          refine lv_iload_n hx hb d_M_about_54 rfl (lv_at hl 1 rfl) ?_
          refine va_iald hx hb hK.1 hP 7 0 rfl rfl (vp_in_nI (by omega) (by decide)) d_M_about_55 ?_
          refine sx_asi (congrArg (α 6) (nI_clamp (by omega))) ?_
          refine lv_goto (tgt := 96) hx hb d_M_about_56 (by decide) ?_
          have hP9 : va_P D vwCl (wMa cA h L (nI 0) n na sb α cm mk) H := hP
          have hD9 : va_D A (wMa cA h L (nI 0) n na sb α cm mk) := hD
          exact W.iret (v := (α 6) a) hx hb hr (fun t ht hW => ⟨⟨(α 6) a, (), rfl, (by unfold sx_aboA; rw [if_neg c_4]; have z := c_5; unfold sx_fb at z; rw [show decide (α 14 a = 0) = false from by simpa using z]; rw [cond_false, if_pos (show ww = 1 from c_6)]), by rw [ht]; exact hP9, by rw [hAe]; exact hD9⟩, hS.F ht⟩) hS.2.2 d_M_about_96
      · have c_5 : (sx_fb α 14 a) = false := sx_bI0 c_5
        refine lv_iconst (v := (-1)) hx hb d_M_about_43 (by decide +kernel) ?_
        have hP9 : va_P D vwCl (wMa cA h L (nI 0) n na sb α cm mk) H := hP
        have hD9 : va_D A (wMa cA h L (nI 0) n na sb α cm mk) := hD
        exact W.iret (v := (-1)) hx hb hr (fun t ht hW => ⟨⟨(-1), (), rfl, (by unfold sx_aboA; rw [if_neg c_4]; have z := c_5; unfold sx_fb at z; rw [show decide (α 14 a = 0) = true from by simpa using z]; rfl), by rw [ht]; exact hP9, by rw [hAe]; exact hD9⟩, hS.F ht⟩) hS.2.2 d_M_about_44
    · refine lv_aload_n hx hb d_M_about_19 rfl (lv_at hl 0 rfl) ?_
      refine va_get (D := D) (ci := 4) (v := .ref (h 13)) (C := R_M) (T := T_M) (N := 21) hx hb hts iw_M hown hK.1 hP 0 rfl rfl 17 (by decide) (hts _ wd_381) (fun _ h9 => h9) rfl d_M_about_20 ?_
      refine lv_iload_n hx hb d_M_about_23 rfl (lv_at hl 1 rfl) ?_
      refine va_zald hx hb hK.1 hP 13 1 rfl rfl (vp_in_nI (by omega) (by decide)) d_M_about_24 ?_
      refine sx_asi (congrArg (α 12) (nI_clamp (by omega))) ?_
      refine sx_asi (y := sx_bI (sx_fb α 12 a)) (sx_fb_ok hAc.2.2.2.2.2.1).symm ?_
      refine lv_if_eq (tgt := 32) hx hb d_M_about_25 (by decide) (fun c_10 => ?_) (fun c_10 => ?_)
      · have c_10 : (sx_fb α 12 a) = false := sx_bI0 c_10
        refine lv_iconst (v := nI 0) hx hb d_M_about_32 (by decide +kernel) ?_
        have hP9 : va_P D vwCl (wMa cA h L (nI 0) n na sb α cm mk) H := hP
        have hD9 : va_D A (wMa cA h L (nI 0) n na sb α cm mk) := hD
        exact W.iret (v := nI 0) hx hb hr (fun t ht hW => ⟨⟨nI 0, (), rfl, (by unfold sx_aboA; rw [if_pos c_4]; have z := c_10; unfold sx_fb at z; rw [show decide (α 12 a = 0) = true from by simpa using z]; rfl), by rw [ht]; exact hP9, by rw [hAe]; exact hD9⟩, hS.F ht⟩) hS.2.2 d_M_about_33
      · have c_10 : (sx_fb α 12 a) = true := sx_bIn c_10
        refine lv_iconst (v := nI 1) hx hb d_M_about_28 (by decide +kernel) ?_
        refine lv_goto (tgt := 33) hx hb d_M_about_29 (by decide) ?_
        have hP9 : va_P D vwCl (wMa cA h L (nI 0) n na sb α cm mk) H := hP
        have hD9 : va_D A (wMa cA h L (nI 0) n na sb α cm mk) := hD
        exact W.iret (v := nI 1) hx hb hr (fun t ht hW => ⟨⟨nI 1, (), rfl, (by unfold sx_aboA; rw [if_pos c_4]; have z := c_10; unfold sx_fb at z; rw [show decide (α 12 a = 0) = false from by simpa using z]; rfl), by rw [ht]; exact hP9, by rw [hAe]; exact hD9⟩, hS.F ht⟩) hS.2.2 d_M_about_33
  · exact absurd c_3 (by decide)

set_option maxHeartbeats 4000000 in
set_option maxRecDepth 100000 in
theorem m_declareO (l : Launch) (D : va_G) (cA : Nat → ClassId) (sz : Nat) (h : Nat → Nat) (L : Nat) (cd : Int32) (n na : Nat) (sb : Bool) (α : sx_A) (cm mk : Nat → Int32) (x : Int32) (hx0 : sx_has na x = false) (p : Int32) (ob : Bool) : Met l y_M_declare w_M_declare ({ frames := 1, cells := 0, slots := 0, locals := 21 }) (sx_Pw D cA [.ref (h 0), .int x, .int p, .int (sx_bI ob)] (wMa cA h L cd n na sb α cm mk) sz) (va_Qi (fun r (_ : Unit) => r = -1) (sx_Bw D (wMa cA h L cd n na sb α cm mk) sz (fun _ => wMa cA h L (nI 0) n na sb α cm mk)) (va_A (wMa cA h L cd n na sb α cm mk) sz)) 0 0 (va_A (wMa cA h L cd n na sb α cm mk) sz) := by
  refine Met.ofW (cc := b_M_declare) (maxL := 5) (ret := (some .int)) (by decide) rfl ?_
  intro pG eG s m args below meth cG s₁ B hml hv
  obtain ⟨rfl, hsz, hP, hK, hD0⟩ := hv
  have hx := B.exec
  have hb := B.bytes
  have hr := B.returns
  have hts0 := atoms_spec (ws := w_M_declare) B.pre
  have hts : ∀ w ∈ sx_gw, w.before _ s = true := fun w h => hts0 w (List.mem_cons_of_mem _ h)
  have hown : s.vm.findClass R_M = some m.cls := findClass_of_methodNamed B.named
  have hlocks := B.notSynchronized
  subst hsz
  have hD := hD0.self (sz := s.heap.size)
  generalize hAe : va_A (wMa cA h L cd n na sb α cm mk) s.heap.size = A at hD ⊢
  have hA : ∀ q : Nat, s.heap.size ≤ q → A q := fun q h => by rw [← hAe]; exact Or.inr h
  have hS : va_S A s.heap s.heap [] := va_S.rf
  have hl := lv_entry ([.ref (h 0), .int x, .int p, .int (sx_bI ob)]) (n := 5) (Nat.le_of_ble_eq_true rfl)
  rw [lg_entry_eq]
  generalize (lg_sl ([.ref (h 0), .int x, .int p, .int (sx_bI ob)]) ++ List.replicate (5 - (lg_sl ([.ref (h 0), .int x, .int p, .int (sx_bI ob)])).length) Slot.unset).toArray = ls at hl ⊢
  have hl : lv_has ls 5 [(0, .ref (h 0)), (1, .int x), (2, .int p), (3, .int (sx_bI ob))] := hl
  have hP : va_P D vwCl (wM cA h (nI L) cd (nI n) (nI na) (sx_bI sb) (α 1) (α 2) (α 3) cm (α 4) (α 5) (α 6) (α 7) (α 8) (α 9) (α 10) (α 11) (α 12) (α 13) (α 14) mk) s.heap := hP
  have hD : va_D A (wM cA h (nI L) cd (nI n) (nI na) (sx_bI sb) (α 1) (α 2) (α 3) cm (α 4) (α 5) (α 6) (α 7) (α 8) (α 9) (α 10) (α 11) (α 12) (α 13) (α 14) mk) := hD
  refine lv_aload_n hx hb d_M_declare_0 rfl (lv_at hl 0 rfl) ?_
  refine lv_iconst (v := nI 0) hx hb d_M_declare_1 (by decide +kernel) ?_
  refine va_put (D := D) (ci := 4) (v := .int (nI 0)) (ty := .int) (C := R_M) (T := T_M) (N := 21) hx hb hts iw_M t_M o_M n_M hown hK.1 hP hD hS 0 rfl rfl 1 (by decide) (hts _ wd_365) (fun _ h9 => h9) rfl (by decide +kernel) rfl rfl (Nat.le_of_ble_eq_true rfl) d_M_declare_2 (fun H locs hP hD hS => ?_)
  have hP : va_P D vwCl (wM cA h (nI L) (nI 0) (nI n) (nI na) (sx_bI sb) (α 1) (α 2) (α 3) cm (α 4) (α 5) (α 6) (α 7) (α 8) (α 9) (α 10) (α 11) (α 12) (α 13) (α 14) mk) H := hP
  have hD : va_D A (wM cA h (nI L) (nI 0) (nI n) (nI na) (sx_bI sb) (α 1) (α 2) (α 3) cm (α 4) (α 5) (α 6) (α 7) (α 8) (α 9) (α 10) (α 11) (α 12) (α 13) (α 14) mk) := hD
  refine lv_aload_n hx hb d_M_declare_5 rfl (lv_at hl 0 rfl) ?_
  refine lv_iload_n hx hb d_M_declare_6 rfl (lv_at hl 1 rfl) ?_
  refine vp_callSi (va_runV (As := [.int x]) (rest := []) ⟨hx, hb, hml, hown, hts⟩ (k_isActM l D cA h (nI L) (nI 0) (sx_bI sb) (α 1) (α 2) (α 3) cm (α 4) (α 5) (α 6) (α 7) (α 8) (α 9) (α 10) (α 11) (α 12) (α 13) (α 14) mk n na α x) (cwV 1 hts (sx_GV wd_463 wd_465 ws_14 wd_5 wd_466) rfl rfl rfl (by decide +kernel) ⟨Nat.le_of_ble_eq_true rfl, Nat.le_of_ble_eq_true rfl⟩) (sx_preV hK hP (va_recv hK.1 hP (ci := 4) (q0 := 0) rfl rfl)) rfl rfl hl.1 rfl (lv_room (Nat.le_of_ble_eq_true rfl)) d_M_declare_7 ⟨Nat.le_of_ble_eq_true rfl, Nat.le_of_ble_eq_true rfl⟩).run (fun r_2 hr_1 => ?_)
  rw [hx0] at hr_1
  subst hr_1
  refine lv_if_eq (tgt := 45) hx hb d_M_declare_10 (by decide) (fun c_3 => ?_) (fun c_3 => ?_)
  · refine lv_iconst (v := (-1)) hx hb d_M_declare_45 (by decide +kernel) ?_
    have hP9 : va_P D vwCl (wMa cA h L (nI 0) n na sb α cm mk) H := hP
    have hD9 : va_D A (wMa cA h L (nI 0) n na sb α cm mk) := hD
    exact W.iret (v := (-1)) hx hb hr (fun t ht hW => ⟨⟨(-1), (), rfl, rfl, by rw [ht]; exact hP9, by rw [hAe]; exact hD9⟩, hS.F ht⟩) hS.2.2 d_M_declare_46
  · exact absurd c_3 (by decide)

set_option maxHeartbeats 4000000 in
set_option maxRecDepth 100000 in
theorem m_beginO (l : Launch) (D : va_G) (cA : Nat → ClassId) (sz : Nat) (h : Nat → Nat) (L : Nat) (cd : Int32) (n na : Nat) (sb : Bool) (α : sx_A) (cm mk : Nat → Int32) (x : Int32) (hx0 : sx_has na x = false)  : Met l y_M_begin w_M_begin ({ frames := 1, cells := 0, slots := 0, locals := 21 }) (sx_Pw D cA [.ref (h 0), .int x] (wMa cA h L cd n na sb α cm mk) sz) (va_Qi (fun r (_ : Unit) => r = -1) (sx_Bw D (wMa cA h L cd n na sb α cm mk) sz (fun _ => wMa cA h L (nI 0) n na sb α cm mk)) (va_A (wMa cA h L cd n na sb α cm mk) sz)) 0 0 (va_A (wMa cA h L cd n na sb α cm mk) sz) := by
  refine Met.ofW (cc := b_M_begin) (maxL := 5) (ret := (some .int)) (by decide) rfl ?_
  intro pG eG s m args below meth cG s₁ B hml hv
  obtain ⟨rfl, hsz, hP, hK, hD0⟩ := hv
  have hx := B.exec
  have hb := B.bytes
  have hr := B.returns
  have hts0 := atoms_spec (ws := w_M_begin) B.pre
  have hts : ∀ w ∈ sx_gw, w.before _ s = true := fun w h => hts0 w (List.mem_cons_of_mem _ h)
  have hown : s.vm.findClass R_M = some m.cls := findClass_of_methodNamed B.named
  have hlocks := B.notSynchronized
  subst hsz
  have hD := hD0.self (sz := s.heap.size)
  generalize hAe : va_A (wMa cA h L cd n na sb α cm mk) s.heap.size = A at hD ⊢
  have hA : ∀ q : Nat, s.heap.size ≤ q → A q := fun q h => by rw [← hAe]; exact Or.inr h
  have hS : va_S A s.heap s.heap [] := va_S.rf
  have hl := lv_entry ([.ref (h 0), .int x]) (n := 5) (Nat.le_of_ble_eq_true rfl)
  rw [lg_entry_eq]
  generalize (lg_sl ([.ref (h 0), .int x]) ++ List.replicate (5 - (lg_sl ([.ref (h 0), .int x])).length) Slot.unset).toArray = ls at hl ⊢
  have hl : lv_has ls 5 [(0, .ref (h 0)), (1, .int x)] := hl
  have hP : va_P D vwCl (wM cA h (nI L) cd (nI n) (nI na) (sx_bI sb) (α 1) (α 2) (α 3) cm (α 4) (α 5) (α 6) (α 7) (α 8) (α 9) (α 10) (α 11) (α 12) (α 13) (α 14) mk) s.heap := hP
  have hD : va_D A (wM cA h (nI L) cd (nI n) (nI na) (sx_bI sb) (α 1) (α 2) (α 3) cm (α 4) (α 5) (α 6) (α 7) (α 8) (α 9) (α 10) (α 11) (α 12) (α 13) (α 14) mk) := hD
  refine lv_aload_n hx hb d_M_begin_0 rfl (lv_at hl 0 rfl) ?_
  refine lv_iconst (v := nI 0) hx hb d_M_begin_1 (by decide +kernel) ?_
  refine va_put (D := D) (ci := 4) (v := .int (nI 0)) (ty := .int) (C := R_M) (T := T_M) (N := 21) hx hb hts iw_M t_M o_M n_M hown hK.1 hP hD hS 0 rfl rfl 1 (by decide) (hts _ wd_365) (fun _ h9 => h9) rfl (by decide +kernel) rfl rfl (Nat.le_of_ble_eq_true rfl) d_M_begin_2 (fun H locs hP hD hS => ?_)
  have hP : va_P D vwCl (wM cA h (nI L) (nI 0) (nI n) (nI na) (sx_bI sb) (α 1) (α 2) (α 3) cm (α 4) (α 5) (α 6) (α 7) (α 8) (α 9) (α 10) (α 11) (α 12) (α 13) (α 14) mk) H := hP
  have hD : va_D A (wM cA h (nI L) (nI 0) (nI n) (nI na) (sx_bI sb) (α 1) (α 2) (α 3) cm (α 4) (α 5) (α 6) (α 7) (α 8) (α 9) (α 10) (α 11) (α 12) (α 13) (α 14) mk) := hD
  refine lv_aload_n hx hb d_M_begin_5 rfl (lv_at hl 0 rfl) ?_
  refine lv_iload_n hx hb d_M_begin_6 rfl (lv_at hl 1 rfl) ?_
  refine vp_callSi (va_runV (As := [.int x]) (rest := []) ⟨hx, hb, hml, hown, hts⟩ (k_isActM l D cA h (nI L) (nI 0) (sx_bI sb) (α 1) (α 2) (α 3) cm (α 4) (α 5) (α 6) (α 7) (α 8) (α 9) (α 10) (α 11) (α 12) (α 13) (α 14) mk n na α x) (cwV 1 hts (sx_GV wd_463 wd_465 ws_14 wd_5 wd_466) rfl rfl rfl (by decide +kernel) ⟨Nat.le_of_ble_eq_true rfl, Nat.le_of_ble_eq_true rfl⟩) (sx_preV hK hP (va_recv hK.1 hP (ci := 4) (q0 := 0) rfl rfl)) rfl rfl hl.1 rfl (lv_room (Nat.le_of_ble_eq_true rfl)) d_M_begin_7 ⟨Nat.le_of_ble_eq_true rfl, Nat.le_of_ble_eq_true rfl⟩).run (fun r_2 hr_1 => ?_)
  rw [hx0] at hr_1
  subst hr_1
  refine lv_if_eq (tgt := 22) hx hb d_M_begin_10 (by decide) (fun c_3 => ?_) (fun c_3 => ?_)
  · refine lv_iconst (v := (-1)) hx hb d_M_begin_22 (by decide +kernel) ?_
    have hP9 : va_P D vwCl (wMa cA h L (nI 0) n na sb α cm mk) H := hP
    have hD9 : va_D A (wMa cA h L (nI 0) n na sb α cm mk) := hD
    exact W.iret (v := (-1)) hx hb hr (fun t ht hW => ⟨⟨(-1), (), rfl, rfl, by rw [ht]; exact hP9, by rw [hAe]; exact hD9⟩, hS.F ht⟩) hS.2.2 d_M_begin_23
  · exact absurd c_3 (by decide)

set_option maxHeartbeats 4000000 in
set_option maxRecDepth 100000 in
theorem m_finishO (l : Launch) (D : va_G) (cA : Nat → ClassId) (sz : Nat) (h : Nat → Nat) (L : Nat) (cd : Int32) (n na : Nat) (sb : Bool) (α : sx_A) (cm mk : Nat → Int32) (x : Int32) (hx0 : sx_has na x = false) (fl : Bool) : Met l y_M_finish w_M_finish ({ frames := 1, cells := 0, slots := 0, locals := 21 }) (sx_Pw D cA [.ref (h 0), .int x, .int (sx_bI fl)] (wMa cA h L cd n na sb α cm mk) sz) (va_Qi (fun r (_ : Unit) => r = -1) (sx_Bw D (wMa cA h L cd n na sb α cm mk) sz (fun _ => wMa cA h L (nI 0) n na sb α cm mk)) (va_A (wMa cA h L cd n na sb α cm mk) sz)) 0 0 (va_A (wMa cA h L cd n na sb α cm mk) sz) := by
  refine Met.ofW (cc := b_M_finish) (maxL := 4) (ret := (some .int)) (by decide) rfl ?_
  intro pG eG s m args below meth cG s₁ B hml hv
  obtain ⟨rfl, hsz, hP, hK, hD0⟩ := hv
  have hx := B.exec
  have hb := B.bytes
  have hr := B.returns
  have hts0 := atoms_spec (ws := w_M_finish) B.pre
  have hts : ∀ w ∈ sx_gw, w.before _ s = true := fun w h => hts0 w (List.mem_cons_of_mem _ h)
  have hown : s.vm.findClass R_M = some m.cls := findClass_of_methodNamed B.named
  have hlocks := B.notSynchronized
  subst hsz
  have hD := hD0.self (sz := s.heap.size)
  generalize hAe : va_A (wMa cA h L cd n na sb α cm mk) s.heap.size = A at hD ⊢
  have hA : ∀ q : Nat, s.heap.size ≤ q → A q := fun q h => by rw [← hAe]; exact Or.inr h
  have hS : va_S A s.heap s.heap [] := va_S.rf
  have hl := lv_entry ([.ref (h 0), .int x, .int (sx_bI fl)]) (n := 4) (Nat.le_of_ble_eq_true rfl)
  rw [lg_entry_eq]
  generalize (lg_sl ([.ref (h 0), .int x, .int (sx_bI fl)]) ++ List.replicate (4 - (lg_sl ([.ref (h 0), .int x, .int (sx_bI fl)])).length) Slot.unset).toArray = ls at hl ⊢
  have hl : lv_has ls 4 [(0, .ref (h 0)), (1, .int x), (2, .int (sx_bI fl))] := hl
  have hP : va_P D vwCl (wM cA h (nI L) cd (nI n) (nI na) (sx_bI sb) (α 1) (α 2) (α 3) cm (α 4) (α 5) (α 6) (α 7) (α 8) (α 9) (α 10) (α 11) (α 12) (α 13) (α 14) mk) s.heap := hP
  have hD : va_D A (wM cA h (nI L) cd (nI n) (nI na) (sx_bI sb) (α 1) (α 2) (α 3) cm (α 4) (α 5) (α 6) (α 7) (α 8) (α 9) (α 10) (α 11) (α 12) (α 13) (α 14) mk) := hD
  refine lv_aload_n hx hb d_M_finish_0 rfl (lv_at hl 0 rfl) ?_
  refine lv_iconst (v := nI 0) hx hb d_M_finish_1 (by decide +kernel) ?_
  refine va_put (D := D) (ci := 4) (v := .int (nI 0)) (ty := .int) (C := R_M) (T := T_M) (N := 21) hx hb hts iw_M t_M o_M n_M hown hK.1 hP hD hS 0 rfl rfl 1 (by decide) (hts _ wd_365) (fun _ h9 => h9) rfl (by decide +kernel) rfl rfl (Nat.le_of_ble_eq_true rfl) d_M_finish_2 (fun H locs hP hD hS => ?_)
  have hP : va_P D vwCl (wM cA h (nI L) (nI 0) (nI n) (nI na) (sx_bI sb) (α 1) (α 2) (α 3) cm (α 4) (α 5) (α 6) (α 7) (α 8) (α 9) (α 10) (α 11) (α 12) (α 13) (α 14) mk) H := hP
  have hD : va_D A (wM cA h (nI L) (nI 0) (nI n) (nI na) (sx_bI sb) (α 1) (α 2) (α 3) cm (α 4) (α 5) (α 6) (α 7) (α 8) (α 9) (α 10) (α 11) (α 12) (α 13) (α 14) mk) := hD
  refine lv_aload_n hx hb d_M_finish_5 rfl (lv_at hl 0 rfl) ?_
  refine lv_iload_n hx hb d_M_finish_6 rfl (lv_at hl 1 rfl) ?_
  refine vp_callSi (va_runV (As := [.int x]) (rest := []) ⟨hx, hb, hml, hown, hts⟩ (k_isActM l D cA h (nI L) (nI 0) (sx_bI sb) (α 1) (α 2) (α 3) cm (α 4) (α 5) (α 6) (α 7) (α 8) (α 9) (α 10) (α 11) (α 12) (α 13) (α 14) mk n na α x) (cwV 1 hts (sx_GV wd_463 wd_465 ws_14 wd_5 wd_466) rfl rfl rfl (by decide +kernel) ⟨Nat.le_of_ble_eq_true rfl, Nat.le_of_ble_eq_true rfl⟩) (sx_preV hK hP (va_recv hK.1 hP (ci := 4) (q0 := 0) rfl rfl)) rfl rfl hl.1 rfl (lv_room (Nat.le_of_ble_eq_true rfl)) d_M_finish_7 ⟨Nat.le_of_ble_eq_true rfl, Nat.le_of_ble_eq_true rfl⟩).run (fun r_2 hr_1 => ?_)
  rw [hx0] at hr_1
  subst hr_1
  refine lv_if_eq (tgt := 22) hx hb d_M_finish_10 (by decide) (fun c_3 => ?_) (fun c_3 => ?_)
  · refine lv_iconst (v := (-1)) hx hb d_M_finish_22 (by decide +kernel) ?_
    have hP9 : va_P D vwCl (wMa cA h L (nI 0) n na sb α cm mk) H := hP
    have hD9 : va_D A (wMa cA h L (nI 0) n na sb α cm mk) := hD
    exact W.iret (v := (-1)) hx hb hr (fun t ht hW => ⟨⟨(-1), (), rfl, rfl, by rw [ht]; exact hP9, by rw [hAe]; exact hD9⟩, hS.F ht⟩) hS.2.2 d_M_finish_23
  · exact absurd c_3 (by decide)

set_option maxHeartbeats 4000000 in
set_option maxRecDepth 100000 in
theorem m_triedO (l : Launch) (D : va_G) (cA : Nat → ClassId) (sz : Nat) (h : Nat → Nat) (L : Nat) (cd : Int32) (n na : Nat) (sb : Bool) (α : sx_A) (cm mk : Nat → Int32) (x : Int32) (hx0 : sx_has na x = false) (ii : Int32) : Met l y_M_tried w_M_tried ({ frames := 1, cells := 0, slots := 0, locals := 21 }) (sx_Pw D cA [.ref (h 0), .int x, .int ii] (wMa cA h L cd n na sb α cm mk) sz) (va_Qi (fun r (_ : Unit) => r = -1) (sx_Bw D (wMa cA h L cd n na sb α cm mk) sz (fun _ => wMa cA h L (nI 0) n na sb α cm mk)) (va_A (wMa cA h L cd n na sb α cm mk) sz)) 0 0 (va_A (wMa cA h L cd n na sb α cm mk) sz) := by
  refine Met.ofW (cc := b_M_tried) (maxL := 3) (ret := (some .int)) (by decide) rfl ?_
  intro pG eG s m args below meth cG s₁ B hml hv
  obtain ⟨rfl, hsz, hP, hK, hD0⟩ := hv
  have hx := B.exec
  have hb := B.bytes
  have hr := B.returns
  have hts0 := atoms_spec (ws := w_M_tried) B.pre
  have hts : ∀ w ∈ sx_gw, w.before _ s = true := fun w h => hts0 w (List.mem_cons_of_mem _ h)
  have hown : s.vm.findClass R_M = some m.cls := findClass_of_methodNamed B.named
  have hlocks := B.notSynchronized
  subst hsz
  have hD := hD0.self (sz := s.heap.size)
  generalize hAe : va_A (wMa cA h L cd n na sb α cm mk) s.heap.size = A at hD ⊢
  have hA : ∀ q : Nat, s.heap.size ≤ q → A q := fun q h => by rw [← hAe]; exact Or.inr h
  have hS : va_S A s.heap s.heap [] := va_S.rf
  have hl := lv_entry ([.ref (h 0), .int x, .int ii]) (n := 3) (Nat.le_of_ble_eq_true rfl)
  rw [lg_entry_eq]
  generalize (lg_sl ([.ref (h 0), .int x, .int ii]) ++ List.replicate (3 - (lg_sl ([.ref (h 0), .int x, .int ii])).length) Slot.unset).toArray = ls at hl ⊢
  have hl : lv_has ls 3 [(0, .ref (h 0)), (1, .int x), (2, .int ii)] := hl
  have hP : va_P D vwCl (wM cA h (nI L) cd (nI n) (nI na) (sx_bI sb) (α 1) (α 2) (α 3) cm (α 4) (α 5) (α 6) (α 7) (α 8) (α 9) (α 10) (α 11) (α 12) (α 13) (α 14) mk) s.heap := hP
  have hD : va_D A (wM cA h (nI L) cd (nI n) (nI na) (sx_bI sb) (α 1) (α 2) (α 3) cm (α 4) (α 5) (α 6) (α 7) (α 8) (α 9) (α 10) (α 11) (α 12) (α 13) (α 14) mk) := hD
  refine lv_aload_n hx hb d_M_tried_0 rfl (lv_at hl 0 rfl) ?_
  refine lv_iconst (v := nI 0) hx hb d_M_tried_1 (by decide +kernel) ?_
  refine va_put (D := D) (ci := 4) (v := .int (nI 0)) (ty := .int) (C := R_M) (T := T_M) (N := 21) hx hb hts iw_M t_M o_M n_M hown hK.1 hP hD hS 0 rfl rfl 1 (by decide) (hts _ wd_365) (fun _ h9 => h9) rfl (by decide +kernel) rfl rfl (Nat.le_of_ble_eq_true rfl) d_M_tried_2 (fun H locs hP hD hS => ?_)
  have hP : va_P D vwCl (wM cA h (nI L) (nI 0) (nI n) (nI na) (sx_bI sb) (α 1) (α 2) (α 3) cm (α 4) (α 5) (α 6) (α 7) (α 8) (α 9) (α 10) (α 11) (α 12) (α 13) (α 14) mk) H := hP
  have hD : va_D A (wM cA h (nI L) (nI 0) (nI n) (nI na) (sx_bI sb) (α 1) (α 2) (α 3) cm (α 4) (α 5) (α 6) (α 7) (α 8) (α 9) (α 10) (α 11) (α 12) (α 13) (α 14) mk) := hD
  refine lv_aload_n hx hb d_M_tried_5 rfl (lv_at hl 0 rfl) ?_
  refine lv_iload_n hx hb d_M_tried_6 rfl (lv_at hl 1 rfl) ?_
  refine vp_callSi (va_runV (As := [.int x]) (rest := []) ⟨hx, hb, hml, hown, hts⟩ (k_isActM l D cA h (nI L) (nI 0) (sx_bI sb) (α 1) (α 2) (α 3) cm (α 4) (α 5) (α 6) (α 7) (α 8) (α 9) (α 10) (α 11) (α 12) (α 13) (α 14) mk n na α x) (cwV 1 hts (sx_GV wd_463 wd_465 ws_14 wd_5 wd_466) rfl rfl rfl (by decide +kernel) ⟨Nat.le_of_ble_eq_true rfl, Nat.le_of_ble_eq_true rfl⟩) (sx_preV hK hP (va_recv hK.1 hP (ci := 4) (q0 := 0) rfl rfl)) rfl rfl hl.1 rfl (lv_room (Nat.le_of_ble_eq_true rfl)) d_M_tried_7 ⟨Nat.le_of_ble_eq_true rfl, Nat.le_of_ble_eq_true rfl⟩).run (fun r_2 hr_1 => ?_)
  rw [hx0] at hr_1
  subst hr_1
  refine lv_if_eq (tgt := 41) hx hb d_M_tried_10 (by decide) (fun c_3 => ?_) (fun c_3 => ?_)
  · refine lv_iconst (v := (-1)) hx hb d_M_tried_41 (by decide +kernel) ?_
    have hP9 : va_P D vwCl (wMa cA h L (nI 0) n na sb α cm mk) H := hP
    have hD9 : va_D A (wMa cA h L (nI 0) n na sb α cm mk) := hD
    exact W.iret (v := (-1)) hx hb hr (fun t ht hW => ⟨⟨(-1), (), rfl, rfl, by rw [ht]; exact hP9, by rw [hAe]; exact hD9⟩, hS.F ht⟩) hS.2.2 d_M_tried_42
  · exact absurd c_3 (by decide)

set_option maxHeartbeats 4000000 in
set_option maxRecDepth 100000 in
theorem m_aboutO (l : Launch) (D : va_G) (cA : Nat → ClassId) (sz : Nat) (h : Nat → Nat) (L : Nat) (cd : Int32) (n na : Nat) (sb : Bool) (α : sx_A) (cm mk : Nat → Int32) (x : Int32) (hx0 : sx_has na x = false) (ww : Int32) : Met l y_M_about w_M_about ({ frames := 1, cells := 0, slots := 0, locals := 21 }) (sx_Pw D cA [.ref (h 0), .int x, .int ww] (wMa cA h L cd n na sb α cm mk) sz) (va_Qi (fun r (_ : Unit) => r = -1) (sx_Bw D (wMa cA h L cd n na sb α cm mk) sz (fun _ => wMa cA h L (nI 0) n na sb α cm mk)) (va_A (wMa cA h L cd n na sb α cm mk) sz)) 0 0 (va_A (wMa cA h L cd n na sb α cm mk) sz) := by
  refine Met.ofW (cc := b_M_about) (maxL := 3) (ret := (some .int)) (by decide) rfl ?_
  intro pG eG s m args below meth cG s₁ B hml hv
  obtain ⟨rfl, hsz, hP, hK, hD0⟩ := hv
  have hx := B.exec
  have hb := B.bytes
  have hr := B.returns
  have hts0 := atoms_spec (ws := w_M_about) B.pre
  have hts : ∀ w ∈ sx_gw, w.before _ s = true := fun w h => hts0 w (List.mem_cons_of_mem _ h)
  have hown : s.vm.findClass R_M = some m.cls := findClass_of_methodNamed B.named
  have hlocks := B.notSynchronized
  subst hsz
  have hD := hD0.self (sz := s.heap.size)
  generalize hAe : va_A (wMa cA h L cd n na sb α cm mk) s.heap.size = A at hD ⊢
  have hA : ∀ q : Nat, s.heap.size ≤ q → A q := fun q h => by rw [← hAe]; exact Or.inr h
  have hS : va_S A s.heap s.heap [] := va_S.rf
  have hl := lv_entry ([.ref (h 0), .int x, .int ww]) (n := 3) (Nat.le_of_ble_eq_true rfl)
  rw [lg_entry_eq]
  generalize (lg_sl ([.ref (h 0), .int x, .int ww]) ++ List.replicate (3 - (lg_sl ([.ref (h 0), .int x, .int ww])).length) Slot.unset).toArray = ls at hl ⊢
  have hl : lv_has ls 3 [(0, .ref (h 0)), (1, .int x), (2, .int ww)] := hl
  have hP : va_P D vwCl (wM cA h (nI L) cd (nI n) (nI na) (sx_bI sb) (α 1) (α 2) (α 3) cm (α 4) (α 5) (α 6) (α 7) (α 8) (α 9) (α 10) (α 11) (α 12) (α 13) (α 14) mk) s.heap := hP
  have hD : va_D A (wM cA h (nI L) cd (nI n) (nI na) (sx_bI sb) (α 1) (α 2) (α 3) cm (α 4) (α 5) (α 6) (α 7) (α 8) (α 9) (α 10) (α 11) (α 12) (α 13) (α 14) mk) := hD
  refine lv_aload_n hx hb d_M_about_0 rfl (lv_at hl 0 rfl) ?_
  refine lv_iconst (v := nI 0) hx hb d_M_about_1 (by decide +kernel) ?_
  refine va_put (D := D) (ci := 4) (v := .int (nI 0)) (ty := .int) (C := R_M) (T := T_M) (N := 21) hx hb hts iw_M t_M o_M n_M hown hK.1 hP hD hS 0 rfl rfl 1 (by decide) (hts _ wd_365) (fun _ h9 => h9) rfl (by decide +kernel) rfl rfl (Nat.le_of_ble_eq_true rfl) d_M_about_2 (fun H locs hP hD hS => ?_)
  have hP : va_P D vwCl (wM cA h (nI L) (nI 0) (nI n) (nI na) (sx_bI sb) (α 1) (α 2) (α 3) cm (α 4) (α 5) (α 6) (α 7) (α 8) (α 9) (α 10) (α 11) (α 12) (α 13) (α 14) mk) H := hP
  have hD : va_D A (wM cA h (nI L) (nI 0) (nI n) (nI na) (sx_bI sb) (α 1) (α 2) (α 3) cm (α 4) (α 5) (α 6) (α 7) (α 8) (α 9) (α 10) (α 11) (α 12) (α 13) (α 14) mk) := hD
  refine lv_aload_n hx hb d_M_about_5 rfl (lv_at hl 0 rfl) ?_
  refine lv_iload_n hx hb d_M_about_6 rfl (lv_at hl 1 rfl) ?_
  refine vp_callSi (va_runV (As := [.int x]) (rest := []) ⟨hx, hb, hml, hown, hts⟩ (k_isActM l D cA h (nI L) (nI 0) (sx_bI sb) (α 1) (α 2) (α 3) cm (α 4) (α 5) (α 6) (α 7) (α 8) (α 9) (α 10) (α 11) (α 12) (α 13) (α 14) mk n na α x) (cwV 1 hts (sx_GV wd_463 wd_465 ws_14 wd_5 wd_466) rfl rfl rfl (by decide +kernel) ⟨Nat.le_of_ble_eq_true rfl, Nat.le_of_ble_eq_true rfl⟩) (sx_preV hK hP (va_recv hK.1 hP (ci := 4) (q0 := 0) rfl rfl)) rfl rfl hl.1 rfl (lv_room (Nat.le_of_ble_eq_true rfl)) d_M_about_7 ⟨Nat.le_of_ble_eq_true rfl, Nat.le_of_ble_eq_true rfl⟩).run (fun r_2 hr_1 => ?_)
  rw [hx0] at hr_1
  subst hr_1
  refine lv_if_ne (tgt := 15) hx hb d_M_about_10 (by decide) (fun c_3 => ?_) (fun c_3 => ?_)
  · exact absurd c_3 (by decide)
  · refine lv_iconst (v := (-1)) hx hb d_M_about_13 (by decide +kernel) ?_
    have hP9 : va_P D vwCl (wMa cA h L (nI 0) n na sb α cm mk) H := hP
    have hD9 : va_D A (wMa cA h L (nI 0) n na sb α cm mk) := hD
    exact W.iret (v := (-1)) hx hb hr (fun t ht hW => ⟨⟨(-1), (), rfl, rfl, by rw [ht]; exact hP9, by rw [hAe]; exact hD9⟩, hS.F ht⟩) hS.2.2 d_M_about_14

set_option maxHeartbeats 4000000 in
set_option maxRecDepth 100000 in
theorem m_openO (l : Launch) (D : va_G) (cA : Nat → ClassId) (sz : Nat) (h : Nat → Nat) (L : Nat) (cd : Int32) (n na : Nat) (sb : Bool) (α : sx_A) (cm mk : Nat → Int32) (x : Int32) (hx0 : sx_has na x = false) (p : Int32) : Met l y_M_open w_M_open ({ frames := 2, cells := 0, slots := 0, locals := 44 }) (sx_Pw D cA [.ref (h 0), .int x, .int p] (wMa cA h L cd n na sb α cm mk) sz) (va_Qi (fun r (_ : Unit) => r = -1) (sx_Bw D (wMa cA h L cd n na sb α cm mk) sz (fun _ => wMa cA h L (nI 0) n na sb α cm mk)) (va_A (wMa cA h L cd n na sb α cm mk) sz)) 0 0 (va_A (wMa cA h L cd n na sb α cm mk) sz) := by
  refine Met.ofW (cc := b_M_open) (maxL := 7) (ret := (some .int)) (by decide) rfl ?_
  intro pG eG s m args below meth cG s₁ B hml hv
  obtain ⟨rfl, hsz, hP, hK, hD0⟩ := hv
  have hx := B.exec
  have hb := B.bytes
  have hr := B.returns
  have hts0 := atoms_spec (ws := w_M_open) B.pre
  have hts : ∀ w ∈ sx_gw, w.before _ s = true := fun w h => hts0 w (List.mem_cons_of_mem _ h)
  have hown : s.vm.findClass R_M = some m.cls := findClass_of_methodNamed B.named
  have hlocks := B.notSynchronized
  subst hsz
  have hD := hD0.self (sz := s.heap.size)
  generalize hAe : va_A (wMa cA h L cd n na sb α cm mk) s.heap.size = A at hD ⊢
  have hA : ∀ q : Nat, s.heap.size ≤ q → A q := fun q h => by rw [← hAe]; exact Or.inr h
  have hS : va_S A s.heap s.heap [] := va_S.rf
  have hl := lv_entry ([.ref (h 0), .int x, .int p]) (n := 7) (Nat.le_of_ble_eq_true rfl)
  rw [lg_entry_eq]
  generalize (lg_sl ([.ref (h 0), .int x, .int p]) ++ List.replicate (7 - (lg_sl ([.ref (h 0), .int x, .int p])).length) Slot.unset).toArray = ls at hl ⊢
  have hl : lv_has ls 7 [(0, .ref (h 0)), (1, .int x), (2, .int p)] := hl
  have hP : va_P D vwCl (wM cA h (nI L) cd (nI n) (nI na) (sx_bI sb) (α 1) (α 2) (α 3) cm (α 4) (α 5) (α 6) (α 7) (α 8) (α 9) (α 10) (α 11) (α 12) (α 13) (α 14) mk) s.heap := hP
  have hD : va_D A (wM cA h (nI L) cd (nI n) (nI na) (sx_bI sb) (α 1) (α 2) (α 3) cm (α 4) (α 5) (α 6) (α 7) (α 8) (α 9) (α 10) (α 11) (α 12) (α 13) (α 14) mk) := hD
  refine lv_aload_n hx hb d_M_open_0 rfl (lv_at hl 0 rfl) ?_
  refine lv_iconst (v := nI 0) hx hb d_M_open_1 (by decide +kernel) ?_
  refine va_put (D := D) (ci := 4) (v := .int (nI 0)) (ty := .int) (C := R_M) (T := T_M) (N := 21) hx hb hts iw_M t_M o_M n_M hown hK.1 hP hD hS 0 rfl rfl 1 (by decide) (hts _ wd_365) (fun _ h9 => h9) rfl (by decide +kernel) rfl rfl (Nat.le_of_ble_eq_true rfl) d_M_open_2 (fun H locs hP hD hS => ?_)
  have hP : va_P D vwCl (wM cA h (nI L) (nI 0) (nI n) (nI na) (sx_bI sb) (α 1) (α 2) (α 3) cm (α 4) (α 5) (α 6) (α 7) (α 8) (α 9) (α 10) (α 11) (α 12) (α 13) (α 14) mk) H := hP
  have hD : va_D A (wM cA h (nI L) (nI 0) (nI n) (nI na) (sx_bI sb) (α 1) (α 2) (α 3) cm (α 4) (α 5) (α 6) (α 7) (α 8) (α 9) (α 10) (α 11) (α 12) (α 13) (α 14) mk) := hD
  refine lv_aload_n hx hb d_M_open_5 rfl (lv_at hl 0 rfl) ?_
  refine lv_iload_n hx hb d_M_open_6 rfl (lv_at hl 1 rfl) ?_
  refine lv_iload_n hx hb d_M_open_7 rfl (lv_at hl 2 rfl) ?_
  refine lv_iconst (v := nI 0) hx hb d_M_open_8 (by decide +kernel) ?_
  refine vp_callSi (va_runV (As := [.int x, .int p, .int (nI 0)]) (rest := []) ⟨hx, hb, hml, hown, hts⟩ (k_mayO l D cA h (nI L) (nI 0) (sx_bI sb) (α 1) (α 2) (α 3) cm (α 4) (α 5) (α 6) (α 7) (α 8) (α 9) (α 10) (α 11) (α 12) (α 13) (α 14) mk n na α x p (nI 0) hx0) (cwV 3 hts (sx_GV wd_483 wd_485 ws_16 wd_5 wd_486) rfl rfl rfl (by decide +kernel) ⟨Nat.le_of_ble_eq_true rfl, Nat.le_of_ble_eq_true rfl⟩) (sx_preV hK hP (va_recv hK.1 hP (ci := 4) (q0 := 0) rfl rfl)) rfl rfl hl.1 rfl (lv_room (Nat.le_of_ble_eq_true rfl)) d_M_open_9 ⟨Nat.le_of_ble_eq_true rfl, Nat.le_of_ble_eq_true rfl⟩).run (fun r_2 hr_1 => ?_)
  subst hr_1
  refine lv_istore_n (lv' := [(3, .int (-1)), (0, .ref (h 0)), (1, .int x), (2, .int p)]) hx hb d_M_open_12 rfl hl (by decide) rfl (fun ls hl => ?_)
  refine lv_iload_n hx hb d_M_open_13 rfl (lv_at hl 0 rfl) ?_
  refine lv_if_eq (tgt := 19) hx hb d_M_open_14 (by decide) (fun c_3 => ?_) (fun c_3 => ?_)
  · exact absurd c_3 (by decide)
  · refine lv_iload_n hx hb d_M_open_17 rfl (lv_at hl 0 rfl) ?_
    have hP9 : va_P D vwCl (wMa cA h L (nI 0) n na sb α cm mk) H := hP
    have hD9 : va_D A (wMa cA h L (nI 0) n na sb α cm mk) := hD
    exact W.iret (v := (-1)) hx hb hr (fun t ht hW => ⟨⟨(-1), (), rfl, rfl, by rw [ht]; exact hP9, by rw [hAe]; exact hD9⟩, hS.F ht⟩) hS.2.2 d_M_open_18

set_option maxHeartbeats 4000000 in
set_option maxRecDepth 100000 in
theorem m_writeO (l : Launch) (D : va_G) (cA : Nat → ClassId) (sz : Nat) (h : Nat → Nat) (L : Nat) (cd : Int32) (n na : Nat) (sb : Bool) (α : sx_A) (cm mk : Nat → Int32) (x : Int32) (hx0 : sx_has na x = false) (p ct : Int32) : Met l y_M_write w_M_write ({ frames := 2, cells := 0, slots := 0, locals := 44 }) (sx_Pw D cA [.ref (h 0), .int x, .int p, .int ct] (wMa cA h L cd n na sb α cm mk) sz) (va_Qi (fun r (_ : Unit) => r = -1) (sx_Bw D (wMa cA h L cd n na sb α cm mk) sz (fun _ => wMa cA h L (nI 0) n na sb α cm mk)) (va_A (wMa cA h L cd n na sb α cm mk) sz)) 0 0 (va_A (wMa cA h L cd n na sb α cm mk) sz) := by
  refine Met.ofW (cc := b_M_write) (maxL := 5) (ret := (some .int)) (by decide) rfl ?_
  intro pG eG s m args below meth cG s₁ B hml hv
  obtain ⟨rfl, hsz, hP, hK, hD0⟩ := hv
  have hx := B.exec
  have hb := B.bytes
  have hr := B.returns
  have hts0 := atoms_spec (ws := w_M_write) B.pre
  have hts : ∀ w ∈ sx_gw, w.before _ s = true := fun w h => hts0 w (List.mem_cons_of_mem _ h)
  have hown : s.vm.findClass R_M = some m.cls := findClass_of_methodNamed B.named
  have hlocks := B.notSynchronized
  subst hsz
  have hD := hD0.self (sz := s.heap.size)
  generalize hAe : va_A (wMa cA h L cd n na sb α cm mk) s.heap.size = A at hD ⊢
  have hA : ∀ q : Nat, s.heap.size ≤ q → A q := fun q h => by rw [← hAe]; exact Or.inr h
  have hS : va_S A s.heap s.heap [] := va_S.rf
  have hl := lv_entry ([.ref (h 0), .int x, .int p, .int ct]) (n := 5) (Nat.le_of_ble_eq_true rfl)
  rw [lg_entry_eq]
  generalize (lg_sl ([.ref (h 0), .int x, .int p, .int ct]) ++ List.replicate (5 - (lg_sl ([.ref (h 0), .int x, .int p, .int ct])).length) Slot.unset).toArray = ls at hl ⊢
  have hl : lv_has ls 5 [(0, .ref (h 0)), (1, .int x), (2, .int p), (3, .int ct)] := hl
  have hP : va_P D vwCl (wM cA h (nI L) cd (nI n) (nI na) (sx_bI sb) (α 1) (α 2) (α 3) cm (α 4) (α 5) (α 6) (α 7) (α 8) (α 9) (α 10) (α 11) (α 12) (α 13) (α 14) mk) s.heap := hP
  have hD : va_D A (wM cA h (nI L) cd (nI n) (nI na) (sx_bI sb) (α 1) (α 2) (α 3) cm (α 4) (α 5) (α 6) (α 7) (α 8) (α 9) (α 10) (α 11) (α 12) (α 13) (α 14) mk) := hD
  refine lv_aload_n hx hb d_M_write_0 rfl (lv_at hl 0 rfl) ?_
  refine lv_iconst (v := nI 0) hx hb d_M_write_1 (by decide +kernel) ?_
  refine va_put (D := D) (ci := 4) (v := .int (nI 0)) (ty := .int) (C := R_M) (T := T_M) (N := 21) hx hb hts iw_M t_M o_M n_M hown hK.1 hP hD hS 0 rfl rfl 1 (by decide) (hts _ wd_365) (fun _ h9 => h9) rfl (by decide +kernel) rfl rfl (Nat.le_of_ble_eq_true rfl) d_M_write_2 (fun H locs hP hD hS => ?_)
  have hP : va_P D vwCl (wM cA h (nI L) (nI 0) (nI n) (nI na) (sx_bI sb) (α 1) (α 2) (α 3) cm (α 4) (α 5) (α 6) (α 7) (α 8) (α 9) (α 10) (α 11) (α 12) (α 13) (α 14) mk) H := hP
  have hD : va_D A (wM cA h (nI L) (nI 0) (nI n) (nI na) (sx_bI sb) (α 1) (α 2) (α 3) cm (α 4) (α 5) (α 6) (α 7) (α 8) (α 9) (α 10) (α 11) (α 12) (α 13) (α 14) mk) := hD
  refine lv_aload_n hx hb d_M_write_5 rfl (lv_at hl 0 rfl) ?_
  refine lv_iload_n hx hb d_M_write_6 rfl (lv_at hl 1 rfl) ?_
  refine lv_iload_n hx hb d_M_write_7 rfl (lv_at hl 2 rfl) ?_
  refine lv_iconst (v := nI 0) hx hb d_M_write_8 (by decide +kernel) ?_
  refine vp_callSi (va_runV (As := [.int x, .int p, .int (nI 0)]) (rest := []) ⟨hx, hb, hml, hown, hts⟩ (k_mayO l D cA h (nI L) (nI 0) (sx_bI sb) (α 1) (α 2) (α 3) cm (α 4) (α 5) (α 6) (α 7) (α 8) (α 9) (α 10) (α 11) (α 12) (α 13) (α 14) mk n na α x p (nI 0) hx0) (cwV 3 hts (sx_GV wd_483 wd_485 ws_16 wd_5 wd_486) rfl rfl rfl (by decide +kernel) ⟨Nat.le_of_ble_eq_true rfl, Nat.le_of_ble_eq_true rfl⟩) (sx_preV hK hP (va_recv hK.1 hP (ci := 4) (q0 := 0) rfl rfl)) rfl rfl hl.1 rfl (lv_room (Nat.le_of_ble_eq_true rfl)) d_M_write_9 ⟨Nat.le_of_ble_eq_true rfl, Nat.le_of_ble_eq_true rfl⟩).run (fun r_2 hr_1 => ?_)
  subst hr_1
  refine lv_istore (lv' := [(4, .int (-1)), (0, .ref (h 0)), (1, .int x), (2, .int p), (3, .int ct)]) hx hb d_M_write_12 hl (by decide) rfl (fun ls hl => ?_)
  refine lv_iload hx hb d_M_write_14 (lv_at hl 0 rfl) ?_
  refine lv_if_eq (tgt := 22) hx hb d_M_write_16 (by decide) (fun c_3 => ?_) (fun c_3 => ?_)
  · exact absurd c_3 (by decide)
  · refine lv_iload hx hb d_M_write_19 (lv_at hl 0 rfl) ?_
    have hP9 : va_P D vwCl (wMa cA h L (nI 0) n na sb α cm mk) H := hP
    have hD9 : va_D A (wMa cA h L (nI 0) n na sb α cm mk) := hD
    exact W.iret (v := (-1)) hx hb hr (fun t ht hW => ⟨⟨(-1), (), rfl, rfl, by rw [ht]; exact hP9, by rw [hAe]; exact hD9⟩, hS.F ht⟩) hS.2.2 d_M_write_21

set_option maxHeartbeats 4000000 in
set_option maxRecDepth 100000 in
theorem m_linkO (l : Launch) (D : va_G) (cA : Nat → ClassId) (sz : Nat) (h : Nat → Nat) (L : Nat) (cd : Int32) (n na : Nat) (sb : Bool) (α : sx_A) (cm mk : Nat → Int32) (x : Int32) (hx0 : sx_has na x = false) (p to : Int32) : Met l y_M_link w_M_link ({ frames := 2, cells := 0, slots := 0, locals := 44 }) (sx_Pw D cA [.ref (h 0), .int x, .int p, .int to] (wMa cA h L cd n na sb α cm mk) sz) (va_Qi (fun r (_ : Unit) => r = -1) (sx_Bw D (wMa cA h L cd n na sb α cm mk) sz (fun _ => wMa cA h L (nI 0) n na sb α cm mk)) (va_A (wMa cA h L cd n na sb α cm mk) sz)) 0 0 (va_A (wMa cA h L cd n na sb α cm mk) sz) := by
  refine Met.ofW (cc := b_M_link) (maxL := 5) (ret := (some .int)) (by decide) rfl ?_
  intro pG eG s m args below meth cG s₁ B hml hv
  obtain ⟨rfl, hsz, hP, hK, hD0⟩ := hv
  have hx := B.exec
  have hb := B.bytes
  have hr := B.returns
  have hts0 := atoms_spec (ws := w_M_link) B.pre
  have hts : ∀ w ∈ sx_gw, w.before _ s = true := fun w h => hts0 w (List.mem_cons_of_mem _ h)
  have hown : s.vm.findClass R_M = some m.cls := findClass_of_methodNamed B.named
  have hlocks := B.notSynchronized
  subst hsz
  have hD := hD0.self (sz := s.heap.size)
  generalize hAe : va_A (wMa cA h L cd n na sb α cm mk) s.heap.size = A at hD ⊢
  have hA : ∀ q : Nat, s.heap.size ≤ q → A q := fun q h => by rw [← hAe]; exact Or.inr h
  have hS : va_S A s.heap s.heap [] := va_S.rf
  have hl := lv_entry ([.ref (h 0), .int x, .int p, .int to]) (n := 5) (Nat.le_of_ble_eq_true rfl)
  rw [lg_entry_eq]
  generalize (lg_sl ([.ref (h 0), .int x, .int p, .int to]) ++ List.replicate (5 - (lg_sl ([.ref (h 0), .int x, .int p, .int to])).length) Slot.unset).toArray = ls at hl ⊢
  have hl : lv_has ls 5 [(0, .ref (h 0)), (1, .int x), (2, .int p), (3, .int to)] := hl
  have hP : va_P D vwCl (wM cA h (nI L) cd (nI n) (nI na) (sx_bI sb) (α 1) (α 2) (α 3) cm (α 4) (α 5) (α 6) (α 7) (α 8) (α 9) (α 10) (α 11) (α 12) (α 13) (α 14) mk) s.heap := hP
  have hD : va_D A (wM cA h (nI L) cd (nI n) (nI na) (sx_bI sb) (α 1) (α 2) (α 3) cm (α 4) (α 5) (α 6) (α 7) (α 8) (α 9) (α 10) (α 11) (α 12) (α 13) (α 14) mk) := hD
  refine lv_aload_n hx hb d_M_link_0 rfl (lv_at hl 0 rfl) ?_
  refine lv_iconst (v := nI 0) hx hb d_M_link_1 (by decide +kernel) ?_
  refine va_put (D := D) (ci := 4) (v := .int (nI 0)) (ty := .int) (C := R_M) (T := T_M) (N := 21) hx hb hts iw_M t_M o_M n_M hown hK.1 hP hD hS 0 rfl rfl 1 (by decide) (hts _ wd_365) (fun _ h9 => h9) rfl (by decide +kernel) rfl rfl (Nat.le_of_ble_eq_true rfl) d_M_link_2 (fun H locs hP hD hS => ?_)
  have hP : va_P D vwCl (wM cA h (nI L) (nI 0) (nI n) (nI na) (sx_bI sb) (α 1) (α 2) (α 3) cm (α 4) (α 5) (α 6) (α 7) (α 8) (α 9) (α 10) (α 11) (α 12) (α 13) (α 14) mk) H := hP
  have hD : va_D A (wM cA h (nI L) (nI 0) (nI n) (nI na) (sx_bI sb) (α 1) (α 2) (α 3) cm (α 4) (α 5) (α 6) (α 7) (α 8) (α 9) (α 10) (α 11) (α 12) (α 13) (α 14) mk) := hD
  refine lv_aload_n hx hb d_M_link_5 rfl (lv_at hl 0 rfl) ?_
  refine lv_iload_n hx hb d_M_link_6 rfl (lv_at hl 1 rfl) ?_
  refine lv_iload_n hx hb d_M_link_7 rfl (lv_at hl 2 rfl) ?_
  refine lv_iload_n hx hb d_M_link_8 rfl (lv_at hl 3 rfl) ?_
  refine vp_callSi (va_runV (As := [.int x, .int p, .int to]) (rest := []) ⟨hx, hb, hml, hown, hts⟩ (k_mayO l D cA h (nI L) (nI 0) (sx_bI sb) (α 1) (α 2) (α 3) cm (α 4) (α 5) (α 6) (α 7) (α 8) (α 9) (α 10) (α 11) (α 12) (α 13) (α 14) mk n na α x p to hx0) (cwV 3 hts (sx_GV wd_483 wd_485 ws_16 wd_5 wd_486) rfl rfl rfl (by decide +kernel) ⟨Nat.le_of_ble_eq_true rfl, Nat.le_of_ble_eq_true rfl⟩) (sx_preV hK hP (va_recv hK.1 hP (ci := 4) (q0 := 0) rfl rfl)) rfl rfl hl.1 rfl (lv_room (Nat.le_of_ble_eq_true rfl)) d_M_link_9 ⟨Nat.le_of_ble_eq_true rfl, Nat.le_of_ble_eq_true rfl⟩).run (fun r_2 hr_1 => ?_)
  subst hr_1
  refine lv_istore (lv' := [(4, .int (-1)), (0, .ref (h 0)), (1, .int x), (2, .int p), (3, .int to)]) hx hb d_M_link_12 hl (by decide) rfl (fun ls hl => ?_)
  refine lv_iload hx hb d_M_link_14 (lv_at hl 0 rfl) ?_
  refine lv_if_eq (tgt := 22) hx hb d_M_link_16 (by decide) (fun c_3 => ?_) (fun c_3 => ?_)
  · exact absurd c_3 (by decide)
  · refine lv_iload hx hb d_M_link_19 (lv_at hl 0 rfl) ?_
    have hP9 : va_P D vwCl (wMa cA h L (nI 0) n na sb α cm mk) H := hP
    have hD9 : va_D A (wMa cA h L (nI 0) n na sb α cm mk) := hD
    exact W.iret (v := (-1)) hx hb hr (fun t ht hW => ⟨⟨(-1), (), rfl, rfl, by rw [ht]; exact hP9, by rw [hAe]; exact hD9⟩, hS.F ht⟩) hS.2.2 d_M_link_21

set_option maxHeartbeats 4000000 in
set_option maxRecDepth 100000 in
theorem m_removeO (l : Launch) (D : va_G) (cA : Nat → ClassId) (sz : Nat) (h : Nat → Nat) (L : Nat) (cd : Int32) (n na : Nat) (sb : Bool) (α : sx_A) (cm mk : Nat → Int32) (x : Int32) (hx0 : sx_has na x = false) (p : Int32) : Met l y_M_remove w_M_remove ({ frames := 2, cells := 0, slots := 0, locals := 44 }) (sx_Pw D cA [.ref (h 0), .int x, .int p] (wMa cA h L cd n na sb α cm mk) sz) (va_Qi (fun r (_ : Unit) => r = -1) (sx_Bw D (wMa cA h L cd n na sb α cm mk) sz (fun _ => wMa cA h L (nI 0) n na sb α cm mk)) (va_A (wMa cA h L cd n na sb α cm mk) sz)) 0 0 (va_A (wMa cA h L cd n na sb α cm mk) sz) := by
  refine Met.ofW (cc := b_M_remove) (maxL := 4) (ret := (some .int)) (by decide) rfl ?_
  intro pG eG s m args below meth cG s₁ B hml hv
  obtain ⟨rfl, hsz, hP, hK, hD0⟩ := hv
  have hx := B.exec
  have hb := B.bytes
  have hr := B.returns
  have hts0 := atoms_spec (ws := w_M_remove) B.pre
  have hts : ∀ w ∈ sx_gw, w.before _ s = true := fun w h => hts0 w (List.mem_cons_of_mem _ h)
  have hown : s.vm.findClass R_M = some m.cls := findClass_of_methodNamed B.named
  have hlocks := B.notSynchronized
  subst hsz
  have hD := hD0.self (sz := s.heap.size)
  generalize hAe : va_A (wMa cA h L cd n na sb α cm mk) s.heap.size = A at hD ⊢
  have hA : ∀ q : Nat, s.heap.size ≤ q → A q := fun q h => by rw [← hAe]; exact Or.inr h
  have hS : va_S A s.heap s.heap [] := va_S.rf
  have hl := lv_entry ([.ref (h 0), .int x, .int p]) (n := 4) (Nat.le_of_ble_eq_true rfl)
  rw [lg_entry_eq]
  generalize (lg_sl ([.ref (h 0), .int x, .int p]) ++ List.replicate (4 - (lg_sl ([.ref (h 0), .int x, .int p])).length) Slot.unset).toArray = ls at hl ⊢
  have hl : lv_has ls 4 [(0, .ref (h 0)), (1, .int x), (2, .int p)] := hl
  have hP : va_P D vwCl (wM cA h (nI L) cd (nI n) (nI na) (sx_bI sb) (α 1) (α 2) (α 3) cm (α 4) (α 5) (α 6) (α 7) (α 8) (α 9) (α 10) (α 11) (α 12) (α 13) (α 14) mk) s.heap := hP
  have hD : va_D A (wM cA h (nI L) cd (nI n) (nI na) (sx_bI sb) (α 1) (α 2) (α 3) cm (α 4) (α 5) (α 6) (α 7) (α 8) (α 9) (α 10) (α 11) (α 12) (α 13) (α 14) mk) := hD
  refine lv_aload_n hx hb d_M_remove_0 rfl (lv_at hl 0 rfl) ?_
  refine lv_iconst (v := nI 0) hx hb d_M_remove_1 (by decide +kernel) ?_
  refine va_put (D := D) (ci := 4) (v := .int (nI 0)) (ty := .int) (C := R_M) (T := T_M) (N := 21) hx hb hts iw_M t_M o_M n_M hown hK.1 hP hD hS 0 rfl rfl 1 (by decide) (hts _ wd_365) (fun _ h9 => h9) rfl (by decide +kernel) rfl rfl (Nat.le_of_ble_eq_true rfl) d_M_remove_2 (fun H locs hP hD hS => ?_)
  have hP : va_P D vwCl (wM cA h (nI L) (nI 0) (nI n) (nI na) (sx_bI sb) (α 1) (α 2) (α 3) cm (α 4) (α 5) (α 6) (α 7) (α 8) (α 9) (α 10) (α 11) (α 12) (α 13) (α 14) mk) H := hP
  have hD : va_D A (wM cA h (nI L) (nI 0) (nI n) (nI na) (sx_bI sb) (α 1) (α 2) (α 3) cm (α 4) (α 5) (α 6) (α 7) (α 8) (α 9) (α 10) (α 11) (α 12) (α 13) (α 14) mk) := hD
  refine lv_aload_n hx hb d_M_remove_5 rfl (lv_at hl 0 rfl) ?_
  refine lv_iload_n hx hb d_M_remove_6 rfl (lv_at hl 1 rfl) ?_
  refine lv_iload_n hx hb d_M_remove_7 rfl (lv_at hl 2 rfl) ?_
  refine lv_iconst (v := nI 0) hx hb d_M_remove_8 (by decide +kernel) ?_
  refine vp_callSi (va_runV (As := [.int x, .int p, .int (nI 0)]) (rest := []) ⟨hx, hb, hml, hown, hts⟩ (k_mayO l D cA h (nI L) (nI 0) (sx_bI sb) (α 1) (α 2) (α 3) cm (α 4) (α 5) (α 6) (α 7) (α 8) (α 9) (α 10) (α 11) (α 12) (α 13) (α 14) mk n na α x p (nI 0) hx0) (cwV 3 hts (sx_GV wd_483 wd_485 ws_16 wd_5 wd_486) rfl rfl rfl (by decide +kernel) ⟨Nat.le_of_ble_eq_true rfl, Nat.le_of_ble_eq_true rfl⟩) (sx_preV hK hP (va_recv hK.1 hP (ci := 4) (q0 := 0) rfl rfl)) rfl rfl hl.1 rfl (lv_room (Nat.le_of_ble_eq_true rfl)) d_M_remove_9 ⟨Nat.le_of_ble_eq_true rfl, Nat.le_of_ble_eq_true rfl⟩).run (fun r_2 hr_1 => ?_)
  subst hr_1
  refine lv_istore_n (lv' := [(3, .int (-1)), (0, .ref (h 0)), (1, .int x), (2, .int p)]) hx hb d_M_remove_12 rfl hl (by decide) rfl (fun ls hl => ?_)
  refine lv_iload_n hx hb d_M_remove_13 rfl (lv_at hl 0 rfl) ?_
  refine lv_if_eq (tgt := 19) hx hb d_M_remove_14 (by decide) (fun c_3 => ?_) (fun c_3 => ?_)
  · exact absurd c_3 (by decide)
  · refine lv_iload_n hx hb d_M_remove_17 rfl (lv_at hl 0 rfl) ?_
    have hP9 : va_P D vwCl (wMa cA h L (nI 0) n na sb α cm mk) H := hP
    have hD9 : va_D A (wMa cA h L (nI 0) n na sb α cm mk) := hD
    exact W.iret (v := (-1)) hx hb hr (fun t ht hW => ⟨⟨(-1), (), rfl, rfl, by rw [ht]; exact hP9, by rw [hAe]; exact hD9⟩, hS.F ht⟩) hS.2.2 d_M_remove_18

set_option maxHeartbeats 4000000 in
set_option maxRecDepth 100000 in
theorem m_listO (l : Launch) (D : va_G) (cA : Nat → ClassId) (sz : Nat) (h : Nat → Nat) (L : Nat) (cd : Int32) (n na : Nat) (sb : Bool) (α : sx_A) (cm mk : Nat → Int32) (x : Int32) (hx0 : sx_has na x = false) (p ii : Int32) : Met l y_M_list w_M_list ({ frames := 2, cells := 0, slots := 0, locals := 44 }) (sx_Pw D cA [.ref (h 0), .int x, .int p, .int ii] (wMa cA h L cd n na sb α cm mk) sz) (va_Qi (fun r (_ : Unit) => r = -1) (sx_Bw D (wMa cA h L cd n na sb α cm mk) sz (fun _ => wMa cA h L (nI 0) n na sb α cm mk)) (va_A (wMa cA h L cd n na sb α cm mk) sz)) 0 0 (va_A (wMa cA h L cd n na sb α cm mk) sz) := by
  refine Met.ofW (cc := b_M_list) (maxL := 8) (ret := (some .int)) (by decide) rfl ?_
  intro pG eG s m args below meth cG s₁ B hml hv
  obtain ⟨rfl, hsz, hP, hK, hD0⟩ := hv
  have hx := B.exec
  have hb := B.bytes
  have hr := B.returns
  have hts0 := atoms_spec (ws := w_M_list) B.pre
  have hts : ∀ w ∈ sx_gw, w.before _ s = true := fun w h => hts0 w (List.mem_cons_of_mem _ h)
  have hown : s.vm.findClass R_M = some m.cls := findClass_of_methodNamed B.named
  have hlocks := B.notSynchronized
  subst hsz
  have hD := hD0.self (sz := s.heap.size)
  generalize hAe : va_A (wMa cA h L cd n na sb α cm mk) s.heap.size = A at hD ⊢
  have hA : ∀ q : Nat, s.heap.size ≤ q → A q := fun q h => by rw [← hAe]; exact Or.inr h
  have hS : va_S A s.heap s.heap [] := va_S.rf
  have hl := lv_entry ([.ref (h 0), .int x, .int p, .int ii]) (n := 8) (Nat.le_of_ble_eq_true rfl)
  rw [lg_entry_eq]
  generalize (lg_sl ([.ref (h 0), .int x, .int p, .int ii]) ++ List.replicate (8 - (lg_sl ([.ref (h 0), .int x, .int p, .int ii])).length) Slot.unset).toArray = ls at hl ⊢
  have hl : lv_has ls 8 [(0, .ref (h 0)), (1, .int x), (2, .int p), (3, .int ii)] := hl
  have hP : va_P D vwCl (wM cA h (nI L) cd (nI n) (nI na) (sx_bI sb) (α 1) (α 2) (α 3) cm (α 4) (α 5) (α 6) (α 7) (α 8) (α 9) (α 10) (α 11) (α 12) (α 13) (α 14) mk) s.heap := hP
  have hD : va_D A (wM cA h (nI L) cd (nI n) (nI na) (sx_bI sb) (α 1) (α 2) (α 3) cm (α 4) (α 5) (α 6) (α 7) (α 8) (α 9) (α 10) (α 11) (α 12) (α 13) (α 14) mk) := hD
  refine lv_aload_n hx hb d_M_list_0 rfl (lv_at hl 0 rfl) ?_
  refine lv_iconst (v := nI 0) hx hb d_M_list_1 (by decide +kernel) ?_
  refine va_put (D := D) (ci := 4) (v := .int (nI 0)) (ty := .int) (C := R_M) (T := T_M) (N := 21) hx hb hts iw_M t_M o_M n_M hown hK.1 hP hD hS 0 rfl rfl 1 (by decide) (hts _ wd_365) (fun _ h9 => h9) rfl (by decide +kernel) rfl rfl (Nat.le_of_ble_eq_true rfl) d_M_list_2 (fun H locs hP hD hS => ?_)
  have hP : va_P D vwCl (wM cA h (nI L) (nI 0) (nI n) (nI na) (sx_bI sb) (α 1) (α 2) (α 3) cm (α 4) (α 5) (α 6) (α 7) (α 8) (α 9) (α 10) (α 11) (α 12) (α 13) (α 14) mk) H := hP
  have hD : va_D A (wM cA h (nI L) (nI 0) (nI n) (nI na) (sx_bI sb) (α 1) (α 2) (α 3) cm (α 4) (α 5) (α 6) (α 7) (α 8) (α 9) (α 10) (α 11) (α 12) (α 13) (α 14) mk) := hD
  refine lv_aload_n hx hb d_M_list_5 rfl (lv_at hl 0 rfl) ?_
  refine lv_iload_n hx hb d_M_list_6 rfl (lv_at hl 1 rfl) ?_
  refine lv_iload_n hx hb d_M_list_7 rfl (lv_at hl 2 rfl) ?_
  refine lv_iconst (v := nI 0) hx hb d_M_list_8 (by decide +kernel) ?_
  refine vp_callSi (va_runV (As := [.int x, .int p, .int (nI 0)]) (rest := []) ⟨hx, hb, hml, hown, hts⟩ (k_mayO l D cA h (nI L) (nI 0) (sx_bI sb) (α 1) (α 2) (α 3) cm (α 4) (α 5) (α 6) (α 7) (α 8) (α 9) (α 10) (α 11) (α 12) (α 13) (α 14) mk n na α x p (nI 0) hx0) (cwV 3 hts (sx_GV wd_483 wd_485 ws_16 wd_5 wd_486) rfl rfl rfl (by decide +kernel) ⟨Nat.le_of_ble_eq_true rfl, Nat.le_of_ble_eq_true rfl⟩) (sx_preV hK hP (va_recv hK.1 hP (ci := 4) (q0 := 0) rfl rfl)) rfl rfl hl.1 rfl (lv_room (Nat.le_of_ble_eq_true rfl)) d_M_list_9 ⟨Nat.le_of_ble_eq_true rfl, Nat.le_of_ble_eq_true rfl⟩).run (fun r_2 hr_1 => ?_)
  subst hr_1
  refine lv_istore (lv' := [(4, .int (-1)), (0, .ref (h 0)), (1, .int x), (2, .int p), (3, .int ii)]) hx hb d_M_list_12 hl (by decide) rfl (fun ls hl => ?_)
  refine lv_iload hx hb d_M_list_14 (lv_at hl 0 rfl) ?_
  refine lv_if_eq (tgt := 22) hx hb d_M_list_16 (by decide) (fun c_3 => ?_) (fun c_3 => ?_)
  · exact absurd c_3 (by decide)
  · refine lv_iload hx hb d_M_list_19 (lv_at hl 0 rfl) ?_
    have hP9 : va_P D vwCl (wMa cA h L (nI 0) n na sb α cm mk) H := hP
    have hD9 : va_D A (wMa cA h L (nI 0) n na sb α cm mk) := hD
    exact W.iret (v := (-1)) hx hb hr (fun t ht hW => ⟨⟨(-1), (), rfl, rfl, by rw [ht]; exact hP9, by rw [hAe]; exact hD9⟩, hS.F ht⟩) hS.2.2 d_M_list_21
