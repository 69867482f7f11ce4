set_option maxHeartbeats 4000000 in
set_option maxRecDepth 100000 in
theorem m_open (l : Launch) (D : va_G) (cA : Nat → ClassId) (sz : Nat) (h : Nat → Nat) (L : Nat) (cd : Int32) (n na : Nat) (sb : Bool) (α : sx_A) (cm mk : Nat → Int32) (hI : sx_INV n na L α) (a : Nat) (ha : a < na) (p : Int32) : Met l y_M_open w_M_open ({ frames := 2, cells := 0, slots := 0, locals := 46 }) (sx_Pw D cA [.ref (h 0), .int (nI a), .int p] (wMa cA h L cd n na sb α cm mk) sz) (va_Qi (fun r (_ : Unit) => r = sx_openA n L α a p) (sx_Bw D (wMa cA h L cd n na sb α cm mk) sz (fun _ => wMa cA h L (nI 0) n na sb (sx_openS n L α a p) cm mk)) (va_A (wMa cA h L cd n na sb α cm mk) sz)) 0 0 (va_A (wMa cA h L cd n na sb α cm mk) sz) := by
  refine Met.ofW (cc := b_M_open) (maxL := 7) (ret := (some .int)) (by decide) rfl ?_
  intro pG eG s m args below meth cG s₁ B hml hv
  obtain ⟨rfl, hsz, hP, hK, hD0⟩ := hv
  have hx := B.exec
  have hb := B.bytes
  have hr := B.returns
  have hts0 := atoms_spec (ws := w_M_open) B.pre
  have hts : ∀ w ∈ sx_gw, w.before _ s = true := fun w h => hts0 w (List.mem_cons_of_mem _ h)
  have hown : s.vm.findClass R_M = some m.cls := findClass_of_methodNamed B.named
  have hlocks := B.notSynchronized
  subst hsz
  have hD := hD0.self (sz := s.heap.size)
  generalize hAe : va_A (wMa cA h L cd n na sb α cm mk) s.heap.size = A at hD ⊢
  have hA : ∀ q : Nat, s.heap.size ≤ q → A q := fun q h => by rw [← hAe]; exact Or.inr h
  have hS : va_S A s.heap s.heap [] := va_S.rf
  have hl := lv_entry ([.ref (h 0), .int (nI a), .int p]) (n := 7) (Nat.le_of_ble_eq_true rfl)
  rw [lg_entry_eq]
  generalize (lg_sl ([.ref (h 0), .int (nI a), .int p]) ++ List.replicate (7 - (lg_sl ([.ref (h 0), .int (nI a), .int p])).length) Slot.unset).toArray = ls at hl ⊢
  have hl : lv_has ls 7 [(0, .ref (h 0)), (1, .int (nI a)), (2, .int p)] := hl
  have hn31 := sx_INV_n hI
  have hn60 := hI.1.1.2
  have h1n := hI.1.1.1
  have hna := hI.1.2.1
  have hAc := sx_INV_A hI ha
  have hd12 := (sx_dN_ok hAc).1
  have t60 := (sx_tN_ok hAc).1
  have hP : va_P D vwCl (wM cA h (nI L) cd (nI n) (nI na) (sx_bI sb) (α 1) (α 2) (α 3) cm (α 4) (α 5) (α 6) (α 7) (α 8) (α 9) (α 10) (α 11) (α 12) (α 13) (α 14) mk) s.heap := hP
  have hD : va_D A (wM cA h (nI L) cd (nI n) (nI na) (sx_bI sb) (α 1) (α 2) (α 3) cm (α 4) (α 5) (α 6) (α 7) (α 8) (α 9) (α 10) (α 11) (α 12) (α 13) (α 14) mk) := hD
  refine lv_aload_n hx hb d_M_open_0 rfl (lv_at hl 0 rfl) ?_
  refine lv_iconst (v := nI 0) hx hb d_M_open_1 (by decide +kernel) ?_
  refine va_put (D := D) (ci := 4) (v := .int (nI 0)) (ty := .int) (C := R_M) (T := T_M) (N := 21) hx hb hts iw_M t_M o_M n_M hown hK.1 hP hD hS 0 rfl rfl 1 (by decide) (hts _ wd_365) (fun _ h9 => h9) rfl (by decide +kernel) rfl rfl (Nat.le_of_ble_eq_true rfl) d_M_open_2 (fun H locs hP hD hS => ?_)
  have hP : va_P D vwCl (wM cA h (nI L) (nI 0) (nI n) (nI na) (sx_bI sb) (α 1) (α 2) (α 3) cm (α 4) (α 5) (α 6) (α 7) (α 8) (α 9) (α 10) (α 11) (α 12) (α 13) (α 14) mk) H := hP
  have hD : va_D A (wM cA h (nI L) (nI 0) (nI n) (nI na) (sx_bI sb) (α 1) (α 2) (α 3) cm (α 4) (α 5) (α 6) (α 7) (α 8) (α 9) (α 10) (α 11) (α 12) (α 13) (α 14) mk) := hD
  refine lv_aload_n hx hb d_M_open_5 rfl (lv_at hl 0 rfl) ?_
  refine lv_iload_n hx hb d_M_open_6 rfl (lv_at hl 1 rfl) ?_
  refine lv_iload_n hx hb d_M_open_7 rfl (lv_at hl 2 rfl) ?_
  refine lv_iconst (v := nI 0) hx hb d_M_open_8 (by decide +kernel) ?_
  refine sx_asi (y := 0) rfl ?_
  rcases sx_may3 n L α a p 0 with hok | ⟨hok, heq⟩ | ⟨hok, hne⟩
  · refine vp_callSi (va_runV (As := [.int (nI a), .int p, .int 0]) (rest := []) ⟨hx, hb, hml, hown, hts⟩ (k_mayN l D cA h (nI 0) (sx_bI sb) (α 1) (α 2) (α 3) cm (α 4) (α 5) (α 7) (α 8) (α 9) (α 10) (α 11) (α 14) mk n na L α a (by omega) (by omega) p 0 hok) (cwV 3 hts (sx_GV wd_483 wd_485 ws_16 wd_5 wd_486) rfl rfl rfl (by decide +kernel) ⟨Nat.le_of_ble_eq_true rfl, Nat.le_of_ble_eq_true rfl⟩) (sx_preV hK hP (va_recv hK.1 hP (ci := 4) (q0 := 0) rfl rfl)) rfl rfl hl.1 rfl (lv_room (Nat.le_of_ble_eq_true rfl)) d_M_open_9 ⟨Nat.le_of_ble_eq_true rfl, Nat.le_of_ble_eq_true rfl⟩).run (fun r_2 hr_1 => ?_)
    subst hr_1
    refine lv_istore_n (lv' := [(3, .int (-1)), (0, .ref (h 0)), (1, .int (nI a)), (2, .int p)]) hx hb d_M_open_12 rfl hl (by decide) rfl (fun ls hl => ?_)
    refine lv_iload_n hx hb d_M_open_13 rfl (lv_at hl 0 rfl) ?_
    refine lv_if_eq (tgt := 19) hx hb d_M_open_14 (by decide) (fun c_3 => ?_) (fun c_3 => ?_)
    · exact absurd c_3 (by decide)
    · refine lv_iload_n hx hb d_M_open_17 rfl (lv_at hl 0 rfl) ?_
      have z := sx_open_no (L := L) hok
      have hP9 : va_P D vwCl (wMa cA h L (nI 0) n na sb (sx_openS n L α a p) cm mk) H := by rw [z.2]; exact hP
      have hD9 : va_D A (wMa cA h L (nI 0) n na sb (sx_openS n L α a p) cm mk) := by rw [z.2]; exact hD
      exact W.iret (v := (-1)) hx hb hr (fun t ht hW => ⟨⟨(-1), (), rfl, by rw [z.1], by rw [ht]; exact hP9, by rw [hAe]; exact hD9⟩, hS.F ht⟩) hS.2.2 d_M_open_18
  · refine sx_calli (wr := []) (va_runV (As := [.int (nI a), .int p, .int 0]) (rest := []) ⟨hx, hb, hml, hown, hts⟩ (k_mayL l D cA H.size h (nI 0) (sx_bI sb) (α 1) (α 2) (α 3) cm (α 4) (α 5) (α 7) (α 8) (α 9) (α 10) (α 11) (α 14) mk n na L α a (by omega) (by omega) p 0 hok heq) (cwV 3 hts (sx_GV wd_483 wd_485 ws_16 wd_5 wd_486) rfl rfl rfl (by decide +kernel) ⟨Nat.le_of_ble_eq_true rfl, Nat.le_of_ble_eq_true rfl⟩) (sx_preVw hK hP hD (va_recv hK.1 hP (ci := 4) (q0 := 0) rfl rfl)) rfl rfl hl.1 rfl (lv_room (Nat.le_of_ble_eq_true rfl)) d_M_open_9 ⟨Nat.le_of_ble_eq_true rfl, Nat.le_of_ble_eq_true rfl⟩) hP hD hS hA [0, 1, 2, 3, 4, 5, 6, 7, 8, 9, 10, 11, 12, 13, 14, 15, 16] [] rfl rfl (by decide) (by decide) (fun r_5 u_6 H locs hr_4 hP hD hS => ?_)
    have hP : va_P D vwCl (wM cA h (nI L) (nI 0) (nI n) (nI na) (sx_bI sb) (α 1) (α 2) (α 3) cm (α 4) (α 5) (α 6) (α 7) (α 8) (α 9) (α 10) (α 11) (α 12) (upd (α 13) a (nI 1)) (α 14) mk) H := hP.sub [0, 1, 2, 3, 4, 5, 6, 7, 8, 9, 10, 11, 12, 13, 14, 15, 16] rfl
    have hD : va_D A (wM cA h (nI L) (nI 0) (nI n) (nI na) (sx_bI sb) (α 1) (α 2) (α 3) cm (α 4) (α 5) (α 6) (α 7) (α 8) (α 9) (α 10) (α 11) (α 12) (upd (α 13) a (nI 1)) (α 14) mk) := hD.sub [0, 1, 2, 3, 4, 5, 6, 7, 8, 9, 10, 11, 12, 13, 14, 15, 16] (by decide) rfl
    subst hr_4
    refine lv_istore_n (lv' := [(3, .int (-9)), (0, .ref (h 0)), (1, .int (nI a)), (2, .int p)]) hx hb d_M_open_12 rfl hl (by decide) rfl (fun ls hl => ?_)
    refine lv_iload_n hx hb d_M_open_13 rfl (lv_at hl 0 rfl) ?_
    refine lv_if_eq (tgt := 19) hx hb d_M_open_14 (by decide) (fun c_7 => ?_) (fun c_7 => ?_)
    · exact absurd c_7 (by decide)
    · refine lv_iload_n hx hb d_M_open_17 rfl (lv_at hl 0 rfl) ?_
      have z := sx_open_lim hok heq
      have hP9 : va_P D vwCl (wMa cA h L (nI 0) n na sb (sx_openS n L α a p) cm mk) H := by rw [z.2, sx_M_lim]; exact hP
      have hD9 : va_D A (wMa cA h L (nI 0) n na sb (sx_openS n L α a p) cm mk) := by rw [z.2, sx_M_lim]; exact hD
      exact W.iret (v := (-9)) hx hb hr (fun t ht hW => ⟨⟨(-9), (), rfl, by rw [z.1], by rw [ht]; exact hP9, by rw [hAe]; exact hD9⟩, hS.F ht⟩) hS.2.2 d_M_open_18
  · obtain ⟨j, hj, rfl⟩ := sx_has_t (by omega) (sx_ok_hp hok)
    refine sx_calli (wr := []) (va_runV (As := [.int (nI a), .int (nI j), .int 0]) (rest := []) ⟨hx, hb, hml, hown, hts⟩ (k_mayY l D cA H.size h (nI 0) (sx_bI sb) (α 1) (α 2) (α 3) cm (α 4) (α 5) (α 7) (α 8) (α 9) (α 10) (α 11) (α 14) mk n na L α a (by omega) (by omega) (nI j) 0 hok hne) (cwV 3 hts (sx_GV wd_483 wd_485 ws_16 wd_5 wd_486) rfl rfl rfl (by decide +kernel) ⟨Nat.le_of_ble_eq_true rfl, Nat.le_of_ble_eq_true rfl⟩) (sx_preVw hK hP hD (va_recv hK.1 hP (ci := 4) (q0 := 0) rfl rfl)) rfl rfl hl.1 rfl (lv_room (Nat.le_of_ble_eq_true rfl)) d_M_open_9 ⟨Nat.le_of_ble_eq_true rfl, Nat.le_of_ble_eq_true rfl⟩) hP hD hS hA [0, 1, 2, 3, 4, 5, 6, 7, 8, 9, 10, 11, 12, 13, 14, 15, 16] [] rfl rfl (by decide) (by decide) (fun r_9 u_10 H locs hr_8 hP hD hS => ?_)
    have hP : va_P D vwCl (wM cA h (nI L) (nI 0) (nI n) (nI na) (sx_bI sb) (α 1) (α 2) (α 3) cm (α 4) (α 5) (upd (α 6) a ((α 6) a + 1)) (α 7) (α 8) (α 9) (α 10) (α 11) (α 12) (α 13) (α 14) mk) H := hP.sub [0, 1, 2, 3, 4, 5, 6, 7, 8, 9, 10, 11, 12, 13, 14, 15, 16] rfl
    have hD : va_D A (wM cA h (nI L) (nI 0) (nI n) (nI na) (sx_bI sb) (α 1) (α 2) (α 3) cm (α 4) (α 5) (upd (α 6) a ((α 6) a + 1)) (α 7) (α 8) (α 9) (α 10) (α 11) (α 12) (α 13) (α 14) mk) := hD.sub [0, 1, 2, 3, 4, 5, 6, 7, 8, 9, 10, 11, 12, 13, 14, 15, 16] (by decide) rfl
    subst hr_8
    refine lv_istore_n (lv' := [(3, .int (nI 0)), (0, .ref (h 0)), (1, .int (nI a)), (2, .int (nI j))]) hx hb d_M_open_12 rfl hl (by decide) rfl (fun ls hl => ?_)
    refine lv_iload_n hx hb d_M_open_13 rfl (lv_at hl 0 rfl) ?_
    refine lv_if_eq (tgt := 19) hx hb d_M_open_14 (by decide) (fun c_11 => ?_) (fun c_11 => ?_)
    · refine lv_aload_n hx hb d_M_open_19 rfl (lv_at hl 1 rfl) ?_
      refine lv_iload_n hx hb d_M_open_20 rfl (lv_at hl 2 rfl) ?_
      refine lv_iload_n hx hb d_M_open_21 rfl (lv_at hl 3 rfl) ?_
      refine vp_callSi (va_runV (As := [.int (nI a), .int (nI j)]) (rest := []) ⟨hx, hb, hml, hown, hts⟩ (k_leadsM l D cA h (nI L) (nI 0) (nI na) (sx_bI sb) (α 1) (α 2) (α 3) cm (α 4) (α 5) (upd (α 6) a ((α 6) a + 1)) (α 7) (α 8) (α 9) (α 11) (α 12) (α 13) (α 14) mk n α na L hI a (by omega) j (by omega)) (cwV 2 hts (sx_GV wd_487 wd_489 ws_17 wd_5 wd_490) rfl rfl rfl (by decide +kernel) ⟨Nat.le_of_ble_eq_true rfl, Nat.le_of_ble_eq_true rfl⟩) (sx_preV hK hP (va_recv hK.1 hP (ci := 4) (q0 := 0) rfl rfl)) rfl rfl hl.1 rfl (lv_room (Nat.le_of_ble_eq_true rfl)) d_M_open_22 ⟨Nat.le_of_ble_eq_true rfl, Nat.le_of_ble_eq_true rfl⟩).run (fun r_13 hr_12 => ?_)
      subst hr_12
      refine lv_istore (lv' := [(4, .int (sx_lead α a j)), (3, .int (nI 0)), (0, .ref (h 0)), (1, .int (nI a)), (2, .int (nI j))]) hx hb d_M_open_25 hl (by decide) rfl (fun ls hl => ?_)
      refine lv_iload hx hb d_M_open_27 (lv_at hl 0 rfl) ?_
      refine lv_if_le (tgt := 36) hx hb d_M_open_29 (by decide) (fun c_14 => ?_) (fun c_14 => ?_)
      · refine lv_iconst (v := nI 0) hx hb d_M_open_36 (by decide +kernel) ?_
        refine sx_asi (y := sx_bI false) rfl ?_
        refine lv_istore (lv' := [(5, .int (sx_bI false)), (4, .int (sx_lead α a j)), (3, .int (nI 0)), (0, .ref (h 0)), (1, .int (nI a)), (2, .int (nI j))]) hx hb d_M_open_37 hl (by decide) rfl (fun ls hl => ?_)
        refine lv_iconst (v := nI 0) hx hb d_M_open_39 (by decide +kernel) ?_
        refine lv_istore (lv' := [(6, .int (nI 0)), (5, .int (sx_bI false)), (4, .int (sx_lead α a j)), (3, .int (nI 0)), (0, .ref (h 0)), (1, .int (nI a)), (2, .int (nI j))]) hx hb d_M_open_40 hl (by decide) rfl (fun ls hl => ?_)
        refine sx_loop (σ := Nat × Bool) (fun x => x.1 ≤ sx_tN α a ∧ x.2 = (decide (0 < sx_lead α a j) || sx_any (fun z => decide (α 9 (60 * a + z) = nI j)) x.1)) (fun x => [(6, .int (nI x.1)), (5, .int (sx_bI x.2)), (4, .int (sx_lead α a j)), (3, .int (nI 0)), (0, .ref (h 0)), (1, .int (nI a)), (2, .int (nI j))]) (fun x => sx_tN α a - x.1) (0, false) (⟨Nat.zero_le _, by rw [decide_eq_false (Int32.not_lt.mpr c_14)]; rfl⟩) (lv_sub hl [0, 1, 2, 3, 4, 5, 6] rfl) (fun x hJ ih ls hl => ?_)
        obtain ⟨k, b⟩ := x
        obtain ⟨hk, hbq⟩ := hJ
        have hl : lv_has ls 7 [(6, .int (nI k)), (5, .int (sx_bI b)), (4, .int (sx_lead α a j)), (3, .int (nI 0)), (0, .ref (h 0)), (1, .int (nI a)), (2, .int (nI j))] := hl
        have ih_42 := ih
        refine lv_iload hx hb d_M_open_42 (lv_at hl 0 rfl) ?_
        refine lv_aload_n hx hb d_M_open_44 rfl (lv_at hl 4 rfl) ?_
        refine va_get (D := D) (ci := 4) (v := .ref (h 9)) (C := R_M) (T := T_M) (N := 21) hx hb hts iw_M hown hK.1 hP 0 rfl rfl 13 (by decide) (hts _ wd_377) (fun _ h9 => h9) rfl d_M_open_45 ?_
        refine lv_iload_n hx hb d_M_open_48 rfl (lv_at hl 5 rfl) ?_
        refine va_iald hx hb hK.1 hP 9 0 rfl rfl (vp_in_nI (by omega) (by decide)) d_M_open_49 ?_
        refine sx_asi (congrArg (α 8) (nI_clamp (by omega))) ?_
        refine sx_asi (sx_tN_ok hAc).2 ?_
        refine lv_icmp_ge (tgt := 87) hx hb d_M_open_50 (by decide) (fun c_15 => ?_) (fun c_15 => ?_)
        · have c_15 : sx_tN α a ≤ k := (nI_leI (by omega) (by omega)).mp c_15
          refine lv_iload hx hb d_M_open_87 (lv_at hl 1 rfl) ?_
          refine lv_if_ne (tgt := 119) hx hb d_M_open_89 (by decide) (fun c_16 => ?_) (fun c_16 => ?_)
          · have c_16 : b = true := sx_bIn c_16
            refine lv_iload hx hb d_M_open_119 (lv_at hl 2 rfl) ?_
            have z := sx_open_old (by omega) hok hne (sx_nt_t (show k = sx_tN α a by omega) hbq c_16)
            have hP9 : va_P D vwCl (wMa cA h L (nI 0) n na sb (sx_openS n L α a (nI j)) cm mk) H := by rw [z.2, sx_M_op]; exact hP
            have hD9 : va_D A (wMa cA h L (nI 0) n na sb (sx_openS n L α a (nI j)) cm mk) := by rw [z.2, sx_M_op]; exact hD
            exact W.iret (v := sx_lead α a j) hx hb hr (fun t ht hW => ⟨⟨sx_lead α a j, (), rfl, by rw [z.1], by rw [ht]; exact hP9, by rw [hAe]; exact hD9⟩, hS.F ht⟩) hS.2.2 d_M_open_121
          · have c_16 : b = false := sx_bI0 c_16
            obtain ⟨hl0, hnt⟩ := sx_nt_f (show k = sx_tN α a by omega) hbq c_16
            have ht9 := sx_room hn60 hAc hj hnt
            refine lv_aload_n hx hb d_M_open_92 rfl (lv_at hl 4 rfl) ?_
            refine va_get (D := D) (ci := 4) (v := .ref (h 10)) (C := R_M) (T := T_M) (N := 21) hx hb hts iw_M hown hK.1 hP 0 rfl rfl 14 (by decide) (hts _ wd_378) (fun _ h9 => h9) rfl d_M_open_93 ?_
            refine lv_bipush (v := nI 60) hx hb d_M_open_96 (by decide +kernel) ?_
            refine lv_iload_n hx hb d_M_open_98 rfl (lv_at hl 5 rfl) ?_
            refine lv_imul hx hb d_M_open_99 ?_
            refine sx_asi (y := nI (60 * a)) (pk_mul 60 a) ?_
            refine lv_aload_n hx hb d_M_open_100 rfl (lv_at hl 4 rfl) ?_
            refine va_get (D := D) (ci := 4) (v := .ref (h 9)) (C := R_M) (T := T_M) (N := 21) hx hb hts iw_M hown hK.1 hP 0 rfl rfl 13 (by decide) (hts _ wd_377) (fun _ h9 => h9) rfl d_M_open_101 ?_
            refine lv_iload_n hx hb d_M_open_104 rfl (lv_at hl 5 rfl) ?_
            refine va_iald hx hb hK.1 hP 9 0 rfl rfl (vp_in_nI (by omega) (by decide)) d_M_open_105 ?_
            refine sx_asi (congrArg (α 8) (nI_clamp (by omega))) ?_
            refine sx_asi (sx_tN_ok hAc).2 ?_
            refine lv_iadd hx hb d_M_open_106 ?_
            refine sx_asi (y := nI (60 * a + sx_tN α a)) (nI_add (60 * a) (sx_tN α a)) ?_
            refine lv_iload_n hx hb d_M_open_107 rfl (lv_at hl 6 rfl) ?_
            refine va_iast hx hb hK.1 hP hD hS 10 0 rfl rfl (vp_in_nI (by omega) (by decide)) d_M_open_108 (fun H locs hP hD hS => ?_)
            rw [nI_clamp (by omega)] at hP hD
            have hP : va_P D vwCl (wM cA h (nI L) (nI 0) (nI n) (nI na) (sx_bI sb) (α 1) (α 2) (α 3) cm (α 4) (α 5) (upd (α 6) a ((α 6) a + 1)) (α 7) (α 8) (upd (α 9) (60 * a + sx_tN α a) (nI j)) (α 10) (α 11) (α 12) (α 13) (α 14) mk) H := hP
            have hD : va_D A (wM cA h (nI L) (nI 0) (nI n) (nI na) (sx_bI sb) (α 1) (α 2) (α 3) cm (α 4) (α 5) (upd (α 6) a ((α 6) a + 1)) (α 7) (α 8) (upd (α 9) (60 * a + sx_tN α a) (nI j)) (α 10) (α 11) (α 12) (α 13) (α 14) mk) := hD
            refine lv_aload_n hx hb d_M_open_109 rfl (lv_at hl 4 rfl) ?_
            refine va_get (D := D) (ci := 4) (v := .ref (h 9)) (C := R_M) (T := T_M) (N := 21) hx hb hts iw_M hown hK.1 hP 0 rfl rfl 13 (by decide) (hts _ wd_377) (fun _ h9 => h9) rfl d_M_open_110 ?_
            refine lv_iload_n hx hb d_M_open_113 rfl (lv_at hl 5 rfl) ?_
            refine lv_dup2_11 hx hb d_M_open_114 rfl rfl ?_
            refine va_iald hx hb hK.1 hP 9 0 rfl rfl (vp_in_nI (by omega) (by decide)) d_M_open_115 ?_
            refine sx_asi (congrArg (α 8) (nI_clamp (by omega))) ?_
            refine lv_iconst (v := nI 1) hx hb d_M_open_116 (by decide +kernel) ?_
            refine lv_iadd hx hb d_M_open_117 ?_
            refine sx_asi (y := α 8 a + 1) rfl ?_
            refine va_iast hx hb hK.1 hP hD hS 9 0 rfl rfl (vp_in_nI (by omega) (by decide)) d_M_open_118 (fun H locs hP hD hS => ?_)
            rw [nI_clamp (by omega)] at hP hD
            have hP : va_P D vwCl (wM cA h (nI L) (nI 0) (nI n) (nI na) (sx_bI sb) (α 1) (α 2) (α 3) cm (α 4) (α 5) (upd (α 6) a ((α 6) a + 1)) (α 7) (upd (α 8) a (α 8 a + 1)) (upd (α 9) (60 * a + sx_tN α a) (nI j)) (α 10) (α 11) (α 12) (α 13) (α 14) mk) H := hP
            have hD : va_D A (wM cA h (nI L) (nI 0) (nI n) (nI na) (sx_bI sb) (α 1) (α 2) (α 3) cm (α 4) (α 5) (upd (α 6) a ((α 6) a + 1)) (α 7) (upd (α 8) a (α 8 a + 1)) (upd (α 9) (60 * a + sx_tN α a) (nI j)) (α 10) (α 11) (α 12) (α 13) (α 14) mk) := hD
            refine lv_iload hx hb d_M_open_119 (lv_at hl 2 rfl) ?_
            have z := sx_open_new (by omega) hok hne hl0 hnt
            have hP9 : va_P D vwCl (wMa cA h L (nI 0) n na sb (sx_openS n L α a (nI j)) cm mk) H := by rw [z.2, sx_M_open]; exact hP
            have hD9 : va_D A (wMa cA h L (nI 0) n na sb (sx_openS n L α a (nI j)) cm mk) := by rw [z.2, sx_M_open]; exact hD
            exact W.iret (v := sx_lead α a j) hx hb hr (fun t ht hW => ⟨⟨sx_lead α a j, (), rfl, by rw [z.1], by rw [ht]; exact hP9, by rw [hAe]; exact hD9⟩, hS.F ht⟩) hS.2.2 d_M_open_121
        · have c_15 : k < sx_tN α a := Nat.not_le.mp (fun z => c_15 ((nI_leI (by omega) (by omega)).mpr z))
          refine lv_iload hx hb d_M_open_53 (lv_at hl 1 rfl) ?_
          refine lv_if_ne (tgt := 74) hx hb d_M_open_55 (by decide) (fun c_17 => ?_) (fun c_17 => ?_)
          · have c_17 : b = true := sx_bIn c_17
            refine lv_iconst (v := nI 1) hx hb d_M_open_74 (by decide +kernel) ?_
            refine lv_goto (tgt := 79) hx hb d_M_open_75 (by decide) ?_
            refine sx_asi (y := sx_bI true) rfl ?_
            refine lv_istore (lv' := [(5, .int (sx_bI true)), (6, .int (nI k)), (4, .int (sx_lead α a j)), (3, .int (nI 0)), (0, .ref (h 0)), (1, .int (nI a)), (2, .int (nI j))]) hx hb d_M_open_79 hl (by decide) rfl (fun ls hl => ?_)
            refine lv_iinc (v := nI (k + 1)) (lv' := [(6, .int (nI (k + 1))), (5, .int (sx_bI true)), (4, .int (sx_lead α a j)), (3, .int (nI 0)), (0, .ref (h 0)), (1, .int (nI a)), (2, .int (nI j))]) hx hb d_M_open_81 hl (k := 1) rfl (nI_1 k) (by decide) rfl (fun ls hl => ?_)
            refine lv_goto (tgt := 42) hx hb d_M_open_84 (by decide) ?_
            exact ih_42 (k + 1, true) (⟨by omega, sx_or1 hbq c_17⟩) (by omega) ls (lv_sub hl [0, 1, 2, 3, 4, 5, 6] rfl)
          · have c_17 : b = false := sx_bI0 c_17
            refine lv_aload_n hx hb d_M_open_58 rfl (lv_at hl 4 rfl) ?_
            refine va_get (D := D) (ci := 4) (v := .ref (h 10)) (C := R_M) (T := T_M) (N := 21) hx hb hts iw_M hown hK.1 hP 0 rfl rfl 14 (by decide) (hts _ wd_378) (fun _ h9 => h9) rfl d_M_open_59 ?_
            refine lv_bipush (v := nI 60) hx hb d_M_open_62 (by decide +kernel) ?_
            refine lv_iload_n hx hb d_M_open_64 rfl (lv_at hl 5 rfl) ?_
            refine lv_imul hx hb d_M_open_65 ?_
            refine sx_asi (y := nI (60 * a)) (pk_mul 60 a) ?_
            refine lv_iload hx hb d_M_open_66 (lv_at hl 0 rfl) ?_
            refine lv_iadd hx hb d_M_open_68 ?_
            refine sx_asi (y := nI (60 * a + k)) (nI_add (60 * a) k) ?_
            refine va_iald hx hb hK.1 hP 10 0 rfl rfl (vp_in_nI (by omega) (by decide)) d_M_open_69 ?_
            refine sx_asi (congrArg (α 9) (nI_clamp (by omega))) ?_
            refine lv_iload_n hx hb d_M_open_70 rfl (lv_at hl 6 rfl) ?_
            refine lv_icmp_ne (tgt := 78) hx hb d_M_open_71 (by decide) (fun c_18 => ?_) (fun c_18 => ?_)
            · refine lv_iconst (v := nI 0) hx hb d_M_open_78 (by decide +kernel) ?_
              refine sx_asi (y := sx_bI false) rfl ?_
              refine lv_istore (lv' := [(5, .int (sx_bI false)), (6, .int (nI k)), (4, .int (sx_lead α a j)), (3, .int (nI 0)), (0, .ref (h 0)), (1, .int (nI a)), (2, .int (nI j))]) hx hb d_M_open_79 hl (by decide) rfl (fun ls hl => ?_)
              refine lv_iinc (v := nI (k + 1)) (lv' := [(6, .int (nI (k + 1))), (5, .int (sx_bI false)), (4, .int (sx_lead α a j)), (3, .int (nI 0)), (0, .ref (h 0)), (1, .int (nI a)), (2, .int (nI j))]) hx hb d_M_open_81 hl (k := 1) rfl (nI_1 k) (by decide) rfl (fun ls hl => ?_)
              refine lv_goto (tgt := 42) hx hb d_M_open_84 (by decide) ?_
              exact ih_42 (k + 1, false) (⟨by omega, sx_or0 hbq c_17 (decide_eq_false c_18)⟩) (by omega) ls (lv_sub hl [0, 1, 2, 3, 4, 5, 6] rfl)
            · refine lv_iconst (v := nI 1) hx hb d_M_open_74 (by decide +kernel) ?_
              refine lv_goto (tgt := 79) hx hb d_M_open_75 (by decide) ?_
              refine sx_asi (y := sx_bI true) rfl ?_
              refine lv_istore (lv' := [(5, .int (sx_bI true)), (6, .int (nI k)), (4, .int (sx_lead α a j)), (3, .int (nI 0)), (0, .ref (h 0)), (1, .int (nI a)), (2, .int (nI j))]) hx hb d_M_open_79 hl (by decide) rfl (fun ls hl => ?_)
              refine lv_iinc (v := nI (k + 1)) (lv' := [(6, .int (nI (k + 1))), (5, .int (sx_bI true)), (4, .int (sx_lead α a j)), (3, .int (nI 0)), (0, .ref (h 0)), (1, .int (nI a)), (2, .int (nI j))]) hx hb d_M_open_81 hl (k := 1) rfl (nI_1 k) (by decide) rfl (fun ls hl => ?_)
              refine lv_goto (tgt := 42) hx hb d_M_open_84 (by decide) ?_
              exact ih_42 (k + 1, true) (⟨by omega, sx_or2 (decide_eq_true c_18)⟩) (by omega) ls (lv_sub hl [0, 1, 2, 3, 4, 5, 6] rfl)
      · refine lv_iconst (v := nI 1) hx hb d_M_open_32 (by decide +kernel) ?_
        refine lv_goto (tgt := 37) hx hb d_M_open_33 (by decide) ?_
        refine sx_asi (y := sx_bI true) rfl ?_
        refine lv_istore (lv' := [(5, .int (sx_bI true)), (4, .int (sx_lead α a j)), (3, .int (nI 0)), (0, .ref (h 0)), (1, .int (nI a)), (2, .int (nI j))]) hx hb d_M_open_37 hl (by decide) rfl (fun ls hl => ?_)
        refine lv_iconst (v := nI 0) hx hb d_M_open_39 (by decide +kernel) ?_
        refine lv_istore (lv' := [(6, .int (nI 0)), (5, .int (sx_bI true)), (4, .int (sx_lead α a j)), (3, .int (nI 0)), (0, .ref (h 0)), (1, .int (nI a)), (2, .int (nI j))]) hx hb d_M_open_40 hl (by decide) rfl (fun ls hl => ?_)
        refine sx_loop (σ := Nat × Bool) (fun x => x.1 ≤ sx_tN α a ∧ x.2 = (decide (0 < sx_lead α a j) || sx_any (fun z => decide (α 9 (60 * a + z) = nI j)) x.1)) (fun x => [(6, .int (nI x.1)), (5, .int (sx_bI x.2)), (4, .int (sx_lead α a j)), (3, .int (nI 0)), (0, .ref (h 0)), (1, .int (nI a)), (2, .int (nI j))]) (fun x => sx_tN α a - x.1) (0, true) (⟨Nat.zero_le _, by rw [decide_eq_true (Int32.not_le.mp c_14)]; rfl⟩) (lv_sub hl [0, 1, 2, 3, 4, 5, 6] rfl) (fun x hJ ih ls hl => ?_)
        obtain ⟨k, b⟩ := x
        obtain ⟨hk, hbq⟩ := hJ
        have hl : lv_has ls 7 [(6, .int (nI k)), (5, .int (sx_bI b)), (4, .int (sx_lead α a j)), (3, .int (nI 0)), (0, .ref (h 0)), (1, .int (nI a)), (2, .int (nI j))] := hl
        have ih_42 := ih
        refine lv_iload hx hb d_M_open_42 (lv_at hl 0 rfl) ?_
        refine lv_aload_n hx hb d_M_open_44 rfl (lv_at hl 4 rfl) ?_
        refine va_get (D := D) (ci := 4) (v := .ref (h 9)) (C := R_M) (T := T_M) (N := 21) hx hb hts iw_M hown hK.1 hP 0 rfl rfl 13 (by decide) (hts _ wd_377) (fun _ h9 => h9) rfl d_M_open_45 ?_
        refine lv_iload_n hx hb d_M_open_48 rfl (lv_at hl 5 rfl) ?_
        refine va_iald hx hb hK.1 hP 9 0 rfl rfl (vp_in_nI (by omega) (by decide)) d_M_open_49 ?_
        refine sx_asi (congrArg (α 8) (nI_clamp (by omega))) ?_
        refine sx_asi (sx_tN_ok hAc).2 ?_
        refine lv_icmp_ge (tgt := 87) hx hb d_M_open_50 (by decide) (fun c_19 => ?_) (fun c_19 => ?_)
        · have c_19 : sx_tN α a ≤ k := (nI_leI (by omega) (by omega)).mp c_19
          refine lv_iload hx hb d_M_open_87 (lv_at hl 1 rfl) ?_
          refine lv_if_ne (tgt := 119) hx hb d_M_open_89 (by decide) (fun c_20 => ?_) (fun c_20 => ?_)
          · have c_20 : b = true := sx_bIn c_20
            refine lv_iload hx hb d_M_open_119 (lv_at hl 2 rfl) ?_
            have z := sx_open_old (by omega) hok hne (sx_nt_t (show k = sx_tN α a by omega) hbq c_20)
            have hP9 : va_P D vwCl (wMa cA h L (nI 0) n na sb (sx_openS n L α a (nI j)) cm mk) H := by rw [z.2, sx_M_op]; exact hP
            have hD9 : va_D A (wMa cA h L (nI 0) n na sb (sx_openS n L α a (nI j)) cm mk) := by rw [z.2, sx_M_op]; exact hD
            exact W.iret (v := sx_lead α a j) hx hb hr (fun t ht hW => ⟨⟨sx_lead α a j, (), rfl, by rw [z.1], by rw [ht]; exact hP9, by rw [hAe]; exact hD9⟩, hS.F ht⟩) hS.2.2 d_M_open_121
          · have c_20 : b = false := sx_bI0 c_20
            obtain ⟨hl0, hnt⟩ := sx_nt_f (show k = sx_tN α a by omega) hbq c_20
            have ht9 := sx_room hn60 hAc hj hnt
            refine lv_aload_n hx hb d_M_open_92 rfl (lv_at hl 4 rfl) ?_
            refine va_get (D := D) (ci := 4) (v := .ref (h 10)) (C := R_M) (T := T_M) (N := 21) hx hb hts iw_M hown hK.1 hP 0 rfl rfl 14 (by decide) (hts _ wd_378) (fun _ h9 => h9) rfl d_M_open_93 ?_
            refine lv_bipush (v := nI 60) hx hb d_M_open_96 (by decide +kernel) ?_
            refine lv_iload_n hx hb d_M_open_98 rfl (lv_at hl 5 rfl) ?_
            refine lv_imul hx hb d_M_open_99 ?_
            refine sx_asi (y := nI (60 * a)) (pk_mul 60 a) ?_
            refine lv_aload_n hx hb d_M_open_100 rfl (lv_at hl 4 rfl) ?_
            refine va_get (D := D) (ci := 4) (v := .ref (h 9)) (C := R_M) (T := T_M) (N := 21) hx hb hts iw_M hown hK.1 hP 0 rfl rfl 13 (by decide) (hts _ wd_377) (fun _ h9 => h9) rfl d_M_open_101 ?_
            refine lv_iload_n hx hb d_M_open_104 rfl (lv_at hl 5 rfl) ?_
            refine va_iald hx hb hK.1 hP 9 0 rfl rfl (vp_in_nI (by omega) (by decide)) d_M_open_105 ?_
            refine sx_asi (congrArg (α 8) (nI_clamp (by omega))) ?_
            refine sx_asi (sx_tN_ok hAc).2 ?_
            refine lv_iadd hx hb d_M_open_106 ?_
            refine sx_asi (y := nI (60 * a + sx_tN α a)) (nI_add (60 * a) (sx_tN α a)) ?_
            refine lv_iload_n hx hb d_M_open_107 rfl (lv_at hl 6 rfl) ?_
            refine va_iast hx hb hK.1 hP hD hS 10 0 rfl rfl (vp_in_nI (by omega) (by decide)) d_M_open_108 (fun H locs hP hD hS => ?_)
            rw [nI_clamp (by omega)] at hP hD
            have hP : va_P D vwCl (wM cA h (nI L) (nI 0) (nI n) (nI na) (sx_bI sb) (α 1) (α 2) (α 3) cm (α 4) (α 5) (upd (α 6) a ((α 6) a + 1)) (α 7) (α 8) (upd (α 9) (60 * a + sx_tN α a) (nI j)) (α 10) (α 11) (α 12) (α 13) (α 14) mk) H := hP
            have hD : va_D A (wM cA h (nI L) (nI 0) (nI n) (nI na) (sx_bI sb) (α 1) (α 2) (α 3) cm (α 4) (α 5) (upd (α 6) a ((α 6) a + 1)) (α 7) (α 8) (upd (α 9) (60 * a + sx_tN α a) (nI j)) (α 10) (α 11) (α 12) (α 13) (α 14) mk) := hD
            refine lv_aload_n hx hb d_M_open_109 rfl (lv_at hl 4 rfl) ?_
            refine va_get (D := D) (ci := 4) (v := .ref (h 9)) (C := R_M) (T := T_M) (N := 21) hx hb hts iw_M hown hK.1 hP 0 rfl rfl 13 (by decide) (hts _ wd_377) (fun _ h9 => h9) rfl d_M_open_110 ?_
            refine lv_iload_n hx hb d_M_open_113 rfl (lv_at hl 5 rfl) ?_
            refine lv_dup2_11 hx hb d_M_open_114 rfl rfl ?_
            refine va_iald hx hb hK.1 hP 9 0 rfl rfl (vp_in_nI (by omega) (by decide)) d_M_open_115 ?_
            refine sx_asi (congrArg (α 8) (nI_clamp (by omega))) ?_
            refine lv_iconst (v := nI 1) hx hb d_M_open_116 (by decide +kernel) ?_
            refine lv_iadd hx hb d_M_open_117 ?_
            refine sx_asi (y := α 8 a + 1) rfl ?_
            refine va_iast hx hb hK.1 hP hD hS 9 0 rfl rfl (vp_in_nI (by omega) (by decide)) d_M_open_118 (fun H locs hP hD hS => ?_)
            rw [nI_clamp (by omega)] at hP hD
            have hP : va_P D vwCl (wM cA h (nI L) (nI 0) (nI n) (nI na) (sx_bI sb) (α 1) (α 2) (α 3) cm (α 4) (α 5) (upd (α 6) a ((α 6) a + 1)) (α 7) (upd (α 8) a (α 8 a + 1)) (upd (α 9) (60 * a + sx_tN α a) (nI j)) (α 10) (α 11) (α 12) (α 13) (α 14) mk) H := hP
            have hD : va_D A (wM cA h (nI L) (nI 0) (nI n) (nI na) (sx_bI sb) (α 1) (α 2) (α 3) cm (α 4) (α 5) (upd (α 6) a ((α 6) a + 1)) (α 7) (upd (α 8) a (α 8 a + 1)) (upd (α 9) (60 * a + sx_tN α a) (nI j)) (α 10) (α 11) (α 12) (α 13) (α 14) mk) := hD
            refine lv_iload hx hb d_M_open_119 (lv_at hl 2 rfl) ?_
            have z := sx_open_new (by omega) hok hne hl0 hnt
            have hP9 : va_P D vwCl (wMa cA h L (nI 0) n na sb (sx_openS n L α a (nI j)) cm mk) H := by rw [z.2, sx_M_open]; exact hP
            have hD9 : va_D A (wMa cA h L (nI 0) n na sb (sx_openS n L α a (nI j)) cm mk) := by rw [z.2, sx_M_open]; exact hD
            exact W.iret (v := sx_lead α a j) hx hb hr (fun t ht hW => ⟨⟨sx_lead α a j, (), rfl, by rw [z.1], by rw [ht]; exact hP9, by rw [hAe]; exact hD9⟩, hS.F ht⟩) hS.2.2 d_M_open_121
        · have c_19 : k < sx_tN α a := Nat.not_le.mp (fun z => c_19 ((nI_leI (by omega) (by omega)).mpr z))
          refine lv_iload hx hb d_M_open_53 (lv_at hl 1 rfl) ?_
          refine lv_if_ne (tgt := 74) hx hb d_M_open_55 (by decide) (fun c_21 => ?_) (fun c_21 => ?_)
          · have c_21 : b = true := sx_bIn c_21
            refine lv_iconst (v := nI 1) hx hb d_M_open_74 (by decide +kernel) ?_
            refine lv_goto (tgt := 79) hx hb d_M_open_75 (by decide) ?_
            refine sx_asi (y := sx_bI true) rfl ?_
            refine lv_istore (lv' := [(5, .int (sx_bI true)), (6, .int (nI k)), (4, .int (sx_lead α a j)), (3, .int (nI 0)), (0, .ref (h 0)), (1, .int (nI a)), (2, .int (nI j))]) hx hb d_M_open_79 hl (by decide) rfl (fun ls hl => ?_)
            refine lv_iinc (v := nI (k + 1)) (lv' := [(6, .int (nI (k + 1))), (5, .int (sx_bI true)), (4, .int (sx_lead α a j)), (3, .int (nI 0)), (0, .ref (h 0)), (1, .int (nI a)), (2, .int (nI j))]) hx hb d_M_open_81 hl (k := 1) rfl (nI_1 k) (by decide) rfl (fun ls hl => ?_)
            refine lv_goto (tgt := 42) hx hb d_M_open_84 (by decide) ?_
            exact ih_42 (k + 1, true) (⟨by omega, sx_or1 hbq c_21⟩) (by omega) ls (lv_sub hl [0, 1, 2, 3, 4, 5, 6] rfl)
          · have c_21 : b = false := sx_bI0 c_21
            refine lv_aload_n hx hb d_M_open_58 rfl (lv_at hl 4 rfl) ?_
            refine va_get (D := D) (ci := 4) (v := .ref (h 10)) (C := R_M) (T := T_M) (N := 21) hx hb hts iw_M hown hK.1 hP 0 rfl rfl 14 (by decide) (hts _ wd_378) (fun _ h9 => h9) rfl d_M_open_59 ?_
            refine lv_bipush (v := nI 60) hx hb d_M_open_62 (by decide +kernel) ?_
            refine lv_iload_n hx hb d_M_open_64 rfl (lv_at hl 5 rfl) ?_
            refine lv_imul hx hb d_M_open_65 ?_
            refine sx_asi (y := nI (60 * a)) (pk_mul 60 a) ?_
            refine lv_iload hx hb d_M_open_66 (lv_at hl 0 rfl) ?_
            refine lv_iadd hx hb d_M_open_68 ?_
            refine sx_asi (y := nI (60 * a + k)) (nI_add (60 * a) k) ?_
            refine va_iald hx hb hK.1 hP 10 0 rfl rfl (vp_in_nI (by omega) (by decide)) d_M_open_69 ?_
            refine sx_asi (congrArg (α 9) (nI_clamp (by omega))) ?_
            refine lv_iload_n hx hb d_M_open_70 rfl (lv_at hl 6 rfl) ?_
            refine lv_icmp_ne (tgt := 78) hx hb d_M_open_71 (by decide) (fun c_22 => ?_) (fun c_22 => ?_)
            · refine lv_iconst (v := nI 0) hx hb d_M_open_78 (by decide +kernel) ?_
              refine sx_asi (y := sx_bI false) rfl ?_
              refine lv_istore (lv' := [(5, .int (sx_bI false)), (6, .int (nI k)), (4, .int (sx_lead α a j)), (3, .int (nI 0)), (0, .ref (h 0)), (1, .int (nI a)), (2, .int (nI j))]) hx hb d_M_open_79 hl (by decide) rfl (fun ls hl => ?_)
              refine lv_iinc (v := nI (k + 1)) (lv' := [(6, .int (nI (k + 1))), (5, .int (sx_bI false)), (4, .int (sx_lead α a j)), (3, .int (nI 0)), (0, .ref (h 0)), (1, .int (nI a)), (2, .int (nI j))]) hx hb d_M_open_81 hl (k := 1) rfl (nI_1 k) (by decide) rfl (fun ls hl => ?_)
              refine lv_goto (tgt := 42) hx hb d_M_open_84 (by decide) ?_
              exact ih_42 (k + 1, false) (⟨by omega, sx_or0 hbq c_21 (decide_eq_false c_22)⟩) (by omega) ls (lv_sub hl [0, 1, 2, 3, 4, 5, 6] rfl)
            · refine lv_iconst (v := nI 1) hx hb d_M_open_74 (by decide +kernel) ?_
              refine lv_goto (tgt := 79) hx hb d_M_open_75 (by decide) ?_
              refine sx_asi (y := sx_bI true) rfl ?_
              refine lv_istore (lv' := [(5, .int (sx_bI true)), (6, .int (nI k)), (4, .int (sx_lead α a j)), (3, .int (nI 0)), (0, .ref (h 0)), (1, .int (nI a)), (2, .int (nI j))]) hx hb d_M_open_79 hl (by decide) rfl (fun ls hl => ?_)
              refine lv_iinc (v := nI (k + 1)) (lv' := [(6, .int (nI (k + 1))), (5, .int (sx_bI true)), (4, .int (sx_lead α a j)), (3, .int (nI 0)), (0, .ref (h 0)), (1, .int (nI a)), (2, .int (nI j))]) hx hb d_M_open_81 hl (k := 1) rfl (nI_1 k) (by decide) rfl (fun ls hl => ?_)
              refine lv_goto (tgt := 42) hx hb d_M_open_84 (by decide) ?_
              exact ih_42 (k + 1, true) (⟨by omega, sx_or2 (decide_eq_true c_22)⟩) (by omega) ls (lv_sub hl [0, 1, 2, 3, 4, 5, 6] rfl)
    · exact absurd rfl c_11

set_option maxHeartbeats 4000000 in
set_option maxRecDepth 100000 in
theorem m_write (l : Launch) (D : va_G) (cA : Nat → ClassId) (sz : Nat) (h : Nat → Nat) (L : Nat) (cd : Int32) (n na : Nat) (sb : Bool) (α : sx_A) (cm mk : Nat → Int32) (hI : sx_INV n na L α) (a : Nat) (ha : a < na) (p ct : Int32) : Met l y_M_write w_M_write ({ frames := 3, cells := 0, slots := 0, locals := 71 }) (sx_Pw D cA [.ref (h 0), .int (nI a), .int p, .int ct] (wMa cA h L cd n na sb α cm mk) sz) (va_Qi (fun r (_ : Unit) => r = sx_doA n L α a p 0 (sx_wrO n α a p ct)) (sx_Bw D (wMa cA h L cd n na sb α cm mk) sz (fun _ => wMa cA h L (nI 0) n na sb (sx_do n L sb α a p 0 (sx_wrO n α a p ct) (ct)) cm mk)) (va_A (wMa cA h L cd n na sb α cm mk) sz)) 0 0 (va_A (wMa cA h L cd n na sb α cm mk) sz) := by
  refine Met.ofW (cc := b_M_write) (maxL := 5) (ret := (some .int)) (by decide) rfl ?_
  intro pG eG s m args below meth cG s₁ B hml hv
  obtain ⟨rfl, hsz, hP, hK, hD0⟩ := hv
  have hx := B.exec
  have hb := B.bytes
  have hr := B.returns
  have hts0 := atoms_spec (ws := w_M_write) B.pre
  have hts : ∀ w ∈ sx_gw, w.before _ s = true := fun w h => hts0 w (List.mem_cons_of_mem _ h)
  have hown : s.vm.findClass R_M = some m.cls := findClass_of_methodNamed B.named
  have hlocks := B.notSynchronized
  subst hsz
  have hD := hD0.self (sz := s.heap.size)
  generalize hAe : va_A (wMa cA h L cd n na sb α cm mk) s.heap.size = A at hD ⊢
  have hA : ∀ q : Nat, s.heap.size ≤ q → A q := fun q h => by rw [← hAe]; exact Or.inr h
  have hS : va_S A s.heap s.heap [] := va_S.rf
  have hl := lv_entry ([.ref (h 0), .int (nI a), .int p, .int ct]) (n := 5) (Nat.le_of_ble_eq_true rfl)
  rw [lg_entry_eq]
  generalize (lg_sl ([.ref (h 0), .int (nI a), .int p, .int ct]) ++ List.replicate (5 - (lg_sl ([.ref (h 0), .int (nI a), .int p, .int ct])).length) Slot.unset).toArray = ls at hl ⊢
  have hl : lv_has ls 5 [(0, .ref (h 0)), (1, .int (nI a)), (2, .int p), (3, .int ct)] := hl
  have hn31 := sx_INV_n hI
  have hn60 := hI.1.1.2
  have h1n := hI.1.1.1
  have hna := hI.1.2.1
  have hAc := sx_INV_A hI ha
  have hd12 := (sx_dN_ok hAc).1
  have hP : va_P D vwCl (wM cA h (nI L) cd (nI n) (nI na) (sx_bI sb) (α 1) (α 2) (α 3) cm (α 4) (α 5) (α 6) (α 7) (α 8) (α 9) (α 10) (α 11) (α 12) (α 13) (α 14) mk) s.heap := hP
  have hD : va_D A (wM cA h (nI L) cd (nI n) (nI na) (sx_bI sb) (α 1) (α 2) (α 3) cm (α 4) (α 5) (α 6) (α 7) (α 8) (α 9) (α 10) (α 11) (α 12) (α 13) (α 14) mk) := hD
  refine lv_aload_n hx hb d_M_write_0 rfl (lv_at hl 0 rfl) ?_
  refine lv_iconst (v := nI 0) hx hb d_M_write_1 (by decide +kernel) ?_
  refine va_put (D := D) (ci := 4) (v := .int (nI 0)) (ty := .int) (C := R_M) (T := T_M) (N := 21) hx hb hts iw_M t_M o_M n_M hown hK.1 hP hD hS 0 rfl rfl 1 (by decide) (hts _ wd_365) (fun _ h9 => h9) rfl (by decide +kernel) rfl rfl (Nat.le_of_ble_eq_true rfl) d_M_write_2 (fun H locs hP hD hS => ?_)
  have hP : va_P D vwCl (wM cA h (nI L) (nI 0) (nI n) (nI na) (sx_bI sb) (α 1) (α 2) (α 3) cm (α 4) (α 5) (α 6) (α 7) (α 8) (α 9) (α 10) (α 11) (α 12) (α 13) (α 14) mk) H := hP
  have hD : va_D A (wM cA h (nI L) (nI 0) (nI n) (nI na) (sx_bI sb) (α 1) (α 2) (α 3) cm (α 4) (α 5) (α 6) (α 7) (α 8) (α 9) (α 10) (α 11) (α 12) (α 13) (α 14) mk) := hD
  refine lv_aload_n hx hb d_M_write_5 rfl (lv_at hl 0 rfl) ?_
  refine lv_iload_n hx hb d_M_write_6 rfl (lv_at hl 1 rfl) ?_
  refine lv_iload_n hx hb d_M_write_7 rfl (lv_at hl 2 rfl) ?_
  refine lv_iconst (v := nI 0) hx hb d_M_write_8 (by decide +kernel) ?_
  refine sx_asi (y := 0) rfl ?_
  rcases sx_may3 n L α a p 0 with hok | ⟨hok, heq⟩ | ⟨hok, hne⟩
  · refine vp_callSi (va_runV (As := [.int (nI a), .int p, .int 0]) (rest := []) ⟨hx, hb, hml, hown, hts⟩ (k_mayN l D cA h (nI 0) (sx_bI sb) (α 1) (α 2) (α 3) cm (α 4) (α 5) (α 7) (α 8) (α 9) (α 10) (α 11) (α 14) mk n na L α a (by omega) (by omega) p 0 hok) (cwV 3 hts (sx_GV wd_483 wd_485 ws_16 wd_5 wd_486) rfl rfl rfl (by decide +kernel) ⟨Nat.le_of_ble_eq_true rfl, Nat.le_of_ble_eq_true rfl⟩) (sx_preV hK hP (va_recv hK.1 hP (ci := 4) (q0 := 0) rfl rfl)) rfl rfl hl.1 rfl (lv_room (Nat.le_of_ble_eq_true rfl)) d_M_write_9 ⟨Nat.le_of_ble_eq_true rfl, Nat.le_of_ble_eq_true rfl⟩).run (fun r_2 hr_1 => ?_)
    subst hr_1
    refine lv_istore (lv' := [(4, .int (-1)), (0, .ref (h 0)), (1, .int (nI a)), (2, .int p), (3, .int ct)]) hx hb d_M_write_12 hl (by decide) rfl (fun ls hl => ?_)
    refine lv_iload hx hb d_M_write_14 (lv_at hl 0 rfl) ?_
    refine lv_if_eq (tgt := 22) hx hb d_M_write_16 (by decide) (fun c_3 => ?_) (fun c_3 => ?_)
    · exact absurd c_3 (by decide)
    · refine lv_iload hx hb d_M_write_19 (lv_at hl 0 rfl) ?_
      have z := sx_do_no (n := n) (L := L) (sb := sb) (ok := sx_wrO n α a p ct) (v := ct) hok
      have hP9 : va_P D vwCl (wMa cA h L (nI 0) n na sb (sx_do n L sb α a p 0 (sx_wrO n α a p ct) (ct)) cm mk) H := by rw [z.2]; exact hP
      have hD9 : va_D A (wMa cA h L (nI 0) n na sb (sx_do n L sb α a p 0 (sx_wrO n α a p ct) (ct)) cm mk) := by rw [z.2]; exact hD
      exact W.iret (v := (-1)) hx hb hr (fun t ht hW => ⟨⟨(-1), (), rfl, by rw [z.1], by rw [ht]; exact hP9, by rw [hAe]; exact hD9⟩, hS.F ht⟩) hS.2.2 d_M_write_21
  · refine sx_calli (wr := []) (va_runV (As := [.int (nI a), .int p, .int 0]) (rest := []) ⟨hx, hb, hml, hown, hts⟩ (k_mayL l D cA H.size h (nI 0) (sx_bI sb) (α 1) (α 2) (α 3) cm (α 4) (α 5) (α 7) (α 8) (α 9) (α 10) (α 11) (α 14) mk n na L α a (by omega) (by omega) p 0 hok heq) (cwV 3 hts (sx_GV wd_483 wd_485 ws_16 wd_5 wd_486) rfl rfl rfl (by decide +kernel) ⟨Nat.le_of_ble_eq_true rfl, Nat.le_of_ble_eq_true rfl⟩) (sx_preVw hK hP hD (va_recv hK.1 hP (ci := 4) (q0 := 0) rfl rfl)) rfl rfl hl.1 rfl (lv_room (Nat.le_of_ble_eq_true rfl)) d_M_write_9 ⟨Nat.le_of_ble_eq_true rfl, Nat.le_of_ble_eq_true rfl⟩) hP hD hS hA [0, 1, 2, 3, 4, 5, 6, 7, 8, 9, 10, 11, 12, 13, 14, 15, 16] [] rfl rfl (by decide) (by decide) (fun r_5 u_6 H locs hr_4 hP hD hS => ?_)
    have hP : va_P D vwCl (wM cA h (nI L) (nI 0) (nI n) (nI na) (sx_bI sb) (α 1) (α 2) (α 3) cm (α 4) (α 5) (α 6) (α 7) (α 8) (α 9) (α 10) (α 11) (α 12) (upd (α 13) a (nI 1)) (α 14) mk) H := hP.sub [0, 1, 2, 3, 4, 5, 6, 7, 8, 9, 10, 11, 12, 13, 14, 15, 16] rfl
    have hD : va_D A (wM cA h (nI L) (nI 0) (nI n) (nI na) (sx_bI sb) (α 1) (α 2) (α 3) cm (α 4) (α 5) (α 6) (α 7) (α 8) (α 9) (α 10) (α 11) (α 12) (upd (α 13) a (nI 1)) (α 14) mk) := hD.sub [0, 1, 2, 3, 4, 5, 6, 7, 8, 9, 10, 11, 12, 13, 14, 15, 16] (by decide) rfl
    subst hr_4
    refine lv_istore (lv' := [(4, .int (-9)), (0, .ref (h 0)), (1, .int (nI a)), (2, .int p), (3, .int ct)]) hx hb d_M_write_12 hl (by decide) rfl (fun ls hl => ?_)
    refine lv_iload hx hb d_M_write_14 (lv_at hl 0 rfl) ?_
    refine lv_if_eq (tgt := 22) hx hb d_M_write_16 (by decide) (fun c_7 => ?_) (fun c_7 => ?_)
    · exact absurd c_7 (by decide)
    · refine lv_iload hx hb d_M_write_19 (lv_at hl 0 rfl) ?_
      have z := sx_do_lim (n := n) (L := L) (sb := sb) (ok := sx_wrO n α a p ct) (v := ct) hok heq
      have hP9 : va_P D vwCl (wMa cA h L (nI 0) n na sb (sx_do n L sb α a p 0 (sx_wrO n α a p ct) (ct)) cm mk) H := by rw [z.2, sx_M_lim]; exact hP
      have hD9 : va_D A (wMa cA h L (nI 0) n na sb (sx_do n L sb α a p 0 (sx_wrO n α a p ct) (ct)) cm mk) := by rw [z.2, sx_M_lim]; exact hD
      exact W.iret (v := (-9)) hx hb hr (fun t ht hW => ⟨⟨(-9), (), rfl, by rw [z.1], by rw [ht]; exact hP9, by rw [hAe]; exact hD9⟩, hS.F ht⟩) hS.2.2 d_M_write_21
  · obtain ⟨j, hj, rfl⟩ := sx_has_t (by omega) (sx_ok_hp hok)
    refine sx_calli (wr := []) (va_runV (As := [.int (nI a), .int (nI j), .int 0]) (rest := []) ⟨hx, hb, hml, hown, hts⟩ (k_mayY l D cA H.size h (nI 0) (sx_bI sb) (α 1) (α 2) (α 3) cm (α 4) (α 5) (α 7) (α 8) (α 9) (α 10) (α 11) (α 14) mk n na L α a (by omega) (by omega) (nI j) 0 hok hne) (cwV 3 hts (sx_GV wd_483 wd_485 ws_16 wd_5 wd_486) rfl rfl rfl (by decide +kernel) ⟨Nat.le_of_ble_eq_true rfl, Nat.le_of_ble_eq_true rfl⟩) (sx_preVw hK hP hD (va_recv hK.1 hP (ci := 4) (q0 := 0) rfl rfl)) rfl rfl hl.1 rfl (lv_room (Nat.le_of_ble_eq_true rfl)) d_M_write_9 ⟨Nat.le_of_ble_eq_true rfl, Nat.le_of_ble_eq_true rfl⟩) hP hD hS hA [0, 1, 2, 3, 4, 5, 6, 7, 8, 9, 10, 11, 12, 13, 14, 15, 16] [] rfl rfl (by decide) (by decide) (fun r_9 u_10 H locs hr_8 hP hD hS => ?_)
    have hP : va_P D vwCl (wM cA h (nI L) (nI 0) (nI n) (nI na) (sx_bI sb) (α 1) (α 2) (α 3) cm (α 4) (α 5) (upd (α 6) a ((α 6) a + 1)) (α 7) (α 8) (α 9) (α 10) (α 11) (α 12) (α 13) (α 14) mk) H := hP.sub [0, 1, 2, 3, 4, 5, 6, 7, 8, 9, 10, 11, 12, 13, 14, 15, 16] rfl
    have hD : va_D A (wM cA h (nI L) (nI 0) (nI n) (nI na) (sx_bI sb) (α 1) (α 2) (α 3) cm (α 4) (α 5) (upd (α 6) a ((α 6) a + 1)) (α 7) (α 8) (α 9) (α 10) (α 11) (α 12) (α 13) (α 14) mk) := hD.sub [0, 1, 2, 3, 4, 5, 6, 7, 8, 9, 10, 11, 12, 13, 14, 15, 16] (by decide) rfl
    subst hr_8
    refine lv_istore (lv' := [(4, .int (nI 0)), (0, .ref (h 0)), (1, .int (nI a)), (2, .int (nI j)), (3, .int ct)]) hx hb d_M_write_12 hl (by decide) rfl (fun ls hl => ?_)
    refine lv_iload hx hb d_M_write_14 (lv_at hl 0 rfl) ?_
    refine lv_if_eq (tgt := 22) hx hb d_M_write_16 (by decide) (fun c_11 => ?_) (fun c_11 => ?_)
    · refine lv_aload_n hx hb d_M_write_22 rfl (lv_at hl 1 rfl) ?_
      refine lv_iload_n hx hb d_M_write_23 rfl (lv_at hl 2 rfl) ?_
      refine lv_iload_n hx hb d_M_write_24 rfl (lv_at hl 3 rfl) ?_
      refine vp_callSi (va_runV (As := [.int (nI a), .int (nI j)]) (rest := []) ⟨hx, hb, hml, hown, hts⟩ (k_isWr l D cA h (nI L) (nI 0) (nI na) (sx_bI sb) (α 3) cm (upd (α 6) a ((α 6) a + 1)) (α 7) (α 8) (α 9) (α 10) (α 12) (α 13) (α 14) mk n α na L hI a (by omega) j (by omega)) (cwV 2 hts (sx_GV wd_502 wd_504 ws_19 wd_5 wd_505) rfl rfl rfl (by decide +kernel) ⟨Nat.le_of_ble_eq_true rfl, Nat.le_of_ble_eq_true rfl⟩) (sx_preV hK hP (va_recv hK.1 hP (ci := 4) (q0 := 0) rfl rfl)) rfl rfl hl.1 rfl (lv_room (Nat.le_of_ble_eq_true rfl)) d_M_write_25 ⟨Nat.le_of_ble_eq_true rfl, Nat.le_of_ble_eq_true rfl⟩).run (fun r_13 hr_12 => ?_)
      subst hr_12
      refine lv_if_eq (tgt := 45) hx hb d_M_write_28 (by decide) (fun c_14 => ?_) (fun c_14 => ?_)
      · have c_14 : (sx_isW n α a j) = false := sx_bI0 c_14
        refine lv_aload_n hx hb d_M_write_45 rfl (lv_at hl 1 rfl) ?_
        refine lv_iload_n hx hb d_M_write_46 rfl (lv_at hl 2 rfl) ?_
        refine sx_calli (wr := []) (va_runV (As := [.int (nI a)]) (rest := []) ⟨hx, hb, hml, hown, hts⟩ (k_refM l D cA H.size h (nI L) (nI 0) (nI na) (α 1) (α 2) (α 3) cm (α 4) (α 5) (upd (α 6) a ((α 6) a + 1)) (α 7) (α 8) (α 9) (α 10) (α 11) (α 12) (α 13) (α 14) mk n sb α a (by omega)) (cwV 1 hts (sx_GV wd_510 wd_512 ws_21 wd_5 wd_513) rfl rfl rfl (by decide +kernel) ⟨Nat.le_of_ble_eq_true rfl, Nat.le_of_ble_eq_true rfl⟩) (sx_preVw hK hP hD (va_recv hK.1 hP (ci := 4) (q0 := 0) rfl rfl)) rfl rfl hl.1 rfl (lv_room (Nat.le_of_ble_eq_true rfl)) d_M_write_47 ⟨Nat.le_of_ble_eq_true rfl, Nat.le_of_ble_eq_true rfl⟩) hP hD hS hA [0, 1, 2, 3, 4, 5, 6, 7, 8, 9, 10, 11, 12, 13, 14, 15, 16] [] rfl rfl (by decide) (by decide) (fun r_16 u_17 H locs hr_15 hP hD hS => ?_)
        have hP : va_P D vwCl (wM cA h (nI L) (nI 0) (nI n) (nI na) (sx_bI sb) (α 1) (α 2) (α 3) cm (α 4) (α 5) (upd (α 6) a ((α 6) a + 1)) (upd (α 7) a ((α 7) a + 1)) (α 8) (α 9) (α 10) (α 11) (α 12) (upd (α 13) a (sx_bI (!decide ((α 13) a = 0) || sb))) (α 14) mk) H := hP.sub [0, 1, 2, 3, 4, 5, 6, 7, 8, 9, 10, 11, 12, 13, 14, 15, 16] rfl
        have hD : va_D A (wM cA h (nI L) (nI 0) (nI n) (nI na) (sx_bI sb) (α 1) (α 2) (α 3) cm (α 4) (α 5) (upd (α 6) a ((α 6) a + 1)) (upd (α 7) a ((α 7) a + 1)) (α 8) (α 9) (α 10) (α 11) (α 12) (upd (α 13) a (sx_bI (!decide ((α 13) a = 0) || sb))) (α 14) mk) := hD.sub [0, 1, 2, 3, 4, 5, 6, 7, 8, 9, 10, 11, 12, 13, 14, 15, 16] (by decide) rfl
        subst hr_15
        have z := sx_do_ref (n := n) (L := L) (sb := sb) (ok := sx_wrO n α a (nI j) ct) (v := ct) hok hne (by unfold sx_wrO; rw [nI_clamp (show j < 2 ^ 31 by omega), c_14]; rfl)
        have hP9 : va_P D vwCl (wMa cA h L (nI 0) n na sb (sx_do n L sb α a (nI j) 0 (sx_wrO n α a (nI j) ct) (ct)) cm mk) H := by rw [z.2, sx_M_ref]; exact hP
        have hD9 : va_D A (wMa cA h L (nI 0) n na sb (sx_do n L sb α a (nI j) 0 (sx_wrO n α a (nI j) ct) (ct)) cm mk) := by rw [z.2, sx_M_ref]; exact hD
        exact W.iret (v := nI 0) hx hb hr (fun t ht hW => ⟨⟨nI 0, (), rfl, by rw [z.1], by rw [ht]; exact hP9, by rw [hAe]; exact hD9⟩, hS.F ht⟩) hS.2.2 d_M_write_50
      · have c_14 : (sx_isW n α a j) = true := sx_bIn c_14
        refine lv_aload_n hx hb d_M_write_31 rfl (lv_at hl 1 rfl) ?_
        refine lv_iload_n hx hb d_M_write_32 rfl (lv_at hl 2 rfl) ?_
        refine lv_iload_n hx hb d_M_write_33 rfl (lv_at hl 3 rfl) ?_
        refine vp_callSi (va_runV (As := [.int (nI a), .int (nI j)]) (rest := []) ⟨hx, hb, hml, hown, hts⟩ (k_inW l D cA h (nI L) (nI 0) (nI na) (sx_bI sb) (α 2) (α 3) cm (α 4) (α 5) (upd (α 6) a ((α 6) a + 1)) (α 7) (α 8) (α 9) (α 11) (α 12) (α 13) (α 14) mk n α na L hI a (by omega) j (by omega)) (cwV 2 hts (sx_GV wd_506 wd_508 ws_20 wd_5 wd_509) rfl rfl rfl (by decide +kernel) ⟨Nat.le_of_ble_eq_true rfl, Nat.le_of_ble_eq_true rfl⟩) (sx_preV hK hP (va_recv hK.1 hP (ci := 4) (q0 := 0) rfl rfl)) rfl rfl hl.1 rfl (lv_room (Nat.le_of_ble_eq_true rfl)) d_M_write_34 ⟨Nat.le_of_ble_eq_true rfl, Nat.le_of_ble_eq_true rfl⟩).run (fun r_19 hr_18 => ?_)
        subst hr_18
        refine lv_if_ne (tgt := 45) hx hb d_M_write_37 (by decide) (fun c_20 => ?_) (fun c_20 => ?_)
        · have c_20 : (sx_inW n α a j) = true := sx_bIn c_20
          refine lv_aload_n hx hb d_M_write_45 rfl (lv_at hl 1 rfl) ?_
          refine lv_iload_n hx hb d_M_write_46 rfl (lv_at hl 2 rfl) ?_
          refine sx_calli (wr := []) (va_runV (As := [.int (nI a)]) (rest := []) ⟨hx, hb, hml, hown, hts⟩ (k_refM l D cA H.size h (nI L) (nI 0) (nI na) (α 1) (α 2) (α 3) cm (α 4) (α 5) (upd (α 6) a ((α 6) a + 1)) (α 7) (α 8) (α 9) (α 10) (α 11) (α 12) (α 13) (α 14) mk n sb α a (by omega)) (cwV 1 hts (sx_GV wd_510 wd_512 ws_21 wd_5 wd_513) rfl rfl rfl (by decide +kernel) ⟨Nat.le_of_ble_eq_true rfl, Nat.le_of_ble_eq_true rfl⟩) (sx_preVw hK hP hD (va_recv hK.1 hP (ci := 4) (q0 := 0) rfl rfl)) rfl rfl hl.1 rfl (lv_room (Nat.le_of_ble_eq_true rfl)) d_M_write_47 ⟨Nat.le_of_ble_eq_true rfl, Nat.le_of_ble_eq_true rfl⟩) hP hD hS hA [0, 1, 2, 3, 4, 5, 6, 7, 8, 9, 10, 11, 12, 13, 14, 15, 16] [] rfl rfl (by decide) (by decide) (fun r_22 u_23 H locs hr_21 hP hD hS => ?_)
          have hP : va_P D vwCl (wM cA h (nI L) (nI 0) (nI n) (nI na) (sx_bI sb) (α 1) (α 2) (α 3) cm (α 4) (α 5) (upd (α 6) a ((α 6) a + 1)) (upd (α 7) a ((α 7) a + 1)) (α 8) (α 9) (α 10) (α 11) (α 12) (upd (α 13) a (sx_bI (!decide ((α 13) a = 0) || sb))) (α 14) mk) H := hP.sub [0, 1, 2, 3, 4, 5, 6, 7, 8, 9, 10, 11, 12, 13, 14, 15, 16] rfl
          have hD : va_D A (wM cA h (nI L) (nI 0) (nI n) (nI na) (sx_bI sb) (α 1) (α 2) (α 3) cm (α 4) (α 5) (upd (α 6) a ((α 6) a + 1)) (upd (α 7) a ((α 7) a + 1)) (α 8) (α 9) (α 10) (α 11) (α 12) (upd (α 13) a (sx_bI (!decide ((α 13) a = 0) || sb))) (α 14) mk) := hD.sub [0, 1, 2, 3, 4, 5, 6, 7, 8, 9, 10, 11, 12, 13, 14, 15, 16] (by decide) rfl
          subst hr_21
          have z := sx_do_ref (n := n) (L := L) (sb := sb) (ok := sx_wrO n α a (nI j) ct) (v := ct) hok hne (by unfold sx_wrO; rw [nI_clamp (show j < 2 ^ 31 by omega), c_20]; simp)
          have hP9 : va_P D vwCl (wMa cA h L (nI 0) n na sb (sx_do n L sb α a (nI j) 0 (sx_wrO n α a (nI j) ct) (ct)) cm mk) H := by rw [z.2, sx_M_ref]; exact hP
          have hD9 : va_D A (wMa cA h L (nI 0) n na sb (sx_do n L sb α a (nI j) 0 (sx_wrO n α a (nI j) ct) (ct)) cm mk) := by rw [z.2, sx_M_ref]; exact hD
          exact W.iret (v := nI 0) hx hb hr (fun t ht hW => ⟨⟨nI 0, (), rfl, by rw [z.1], by rw [ht]; exact hP9, by rw [hAe]; exact hD9⟩, hS.F ht⟩) hS.2.2 d_M_write_50
        · have c_20 : (sx_inW n α a j) = false := sx_bI0 c_20
          refine lv_iload_n hx hb d_M_write_40 rfl (lv_at hl 4 rfl) ?_
          refine lv_iconst (v := nI 1) hx hb d_M_write_41 (by decide +kernel) ?_
          refine lv_icmp_ge (tgt := 51) hx hb d_M_write_42 (by decide) (fun c_24 => ?_) (fun c_24 => ?_)
          · refine lv_aload_n hx hb d_M_write_51 rfl (lv_at hl 1 rfl) ?_
            refine va_get (D := D) (ci := 4) (v := .ref (h 11)) (C := R_M) (T := T_M) (N := 21) hx hb hts iw_M hown hK.1 hP 0 rfl rfl 15 (by decide) (hts _ wd_379) (fun _ h9 => h9) rfl d_M_write_52 ?_
            refine lv_bipush (v := nI 60) hx hb d_M_write_55 (by decide +kernel) ?_
            refine lv_iload_n hx hb d_M_write_57 rfl (lv_at hl 2 rfl) ?_
            refine lv_imul hx hb d_M_write_58 ?_
            refine sx_asi (y := nI (60 * a)) (pk_mul 60 a) ?_
            refine lv_iload_n hx hb d_M_write_59 rfl (lv_at hl 3 rfl) ?_
            refine lv_iadd hx hb d_M_write_60 ?_
            refine sx_asi (y := nI (60 * a + j)) (nI_add (60 * a) j) ?_
            refine lv_iload_n hx hb d_M_write_61 rfl (lv_at hl 4 rfl) ?_
            refine va_iast hx hb hK.1 hP hD hS 11 0 rfl rfl (vp_in_nI (by omega) (by decide)) d_M_write_62 (fun H locs hP hD hS => ?_)
            rw [nI_clamp (by omega)] at hP hD
            have hP : va_P D vwCl (wM cA h (nI L) (nI 0) (nI n) (nI na) (sx_bI sb) (α 1) (α 2) (α 3) cm (α 4) (α 5) (upd (α 6) a ((α 6) a + 1)) (α 7) (α 8) (α 9) (upd (α 10) (60 * a + j) ct) (α 11) (α 12) (α 13) (α 14) mk) H := hP
            have hD : va_D A (wM cA h (nI L) (nI 0) (nI n) (nI na) (sx_bI sb) (α 1) (α 2) (α 3) cm (α 4) (α 5) (upd (α 6) a ((α 6) a + 1)) (α 7) (α 8) (α 9) (upd (α 10) (60 * a + j) ct) (α 11) (α 12) (α 13) (α 14) mk) := hD
            refine lv_iconst (v := nI 1) hx hb d_M_write_63 (by decide +kernel) ?_
            have z := sx_do_yes (n := n) (L := L) (sb := sb) (ok := sx_wrO n α a (nI j) ct) (v := ct) (by omega) hok hne (by unfold sx_wrO; rw [nI_clamp (show j < 2 ^ 31 by omega), c_14, c_20, decide_eq_false (show ¬ ct < 1 from Int32.not_lt.mpr c_24)]; rfl)
            have hP9 : va_P D vwCl (wMa cA h L (nI 0) n na sb (sx_do n L sb α a (nI j) 0 (sx_wrO n α a (nI j) ct) (ct)) cm mk) H := by rw [z.2, sx_M_put]; exact hP
            have hD9 : va_D A (wMa cA h L (nI 0) n na sb (sx_do n L sb α a (nI j) 0 (sx_wrO n α a (nI j) ct) (ct)) cm mk) := by rw [z.2, sx_M_put]; exact hD
            exact W.iret (v := nI 1) hx hb hr (fun t ht hW => ⟨⟨nI 1, (), rfl, by rw [z.1], by rw [ht]; exact hP9, by rw [hAe]; exact hD9⟩, hS.F ht⟩) hS.2.2 d_M_write_64
          · refine lv_aload_n hx hb d_M_write_45 rfl (lv_at hl 1 rfl) ?_
            refine lv_iload_n hx hb d_M_write_46 rfl (lv_at hl 2 rfl) ?_
            refine sx_calli (wr := []) (va_runV (As := [.int (nI a)]) (rest := []) ⟨hx, hb, hml, hown, hts⟩ (k_refM l D cA H.size h (nI L) (nI 0) (nI na) (α 1) (α 2) (α 3) cm (α 4) (α 5) (upd (α 6) a ((α 6) a + 1)) (α 7) (α 8) (α 9) (α 10) (α 11) (α 12) (α 13) (α 14) mk n sb α a (by omega)) (cwV 1 hts (sx_GV wd_510 wd_512 ws_21 wd_5 wd_513) rfl rfl rfl (by decide +kernel) ⟨Nat.le_of_ble_eq_true rfl, Nat.le_of_ble_eq_true rfl⟩) (sx_preVw hK hP hD (va_recv hK.1 hP (ci := 4) (q0 := 0) rfl rfl)) rfl rfl hl.1 rfl (lv_room (Nat.le_of_ble_eq_true rfl)) d_M_write_47 ⟨Nat.le_of_ble_eq_true rfl, Nat.le_of_ble_eq_true rfl⟩) hP hD hS hA [0, 1, 2, 3, 4, 5, 6, 7, 8, 9, 10, 11, 12, 13, 14, 15, 16] [] rfl rfl (by decide) (by decide) (fun r_26 u_27 H locs hr_25 hP hD hS => ?_)
            have hP : va_P D vwCl (wM cA h (nI L) (nI 0) (nI n) (nI na) (sx_bI sb) (α 1) (α 2) (α 3) cm (α 4) (α 5) (upd (α 6) a ((α 6) a + 1)) (upd (α 7) a ((α 7) a + 1)) (α 8) (α 9) (α 10) (α 11) (α 12) (upd (α 13) a (sx_bI (!decide ((α 13) a = 0) || sb))) (α 14) mk) H := hP.sub [0, 1, 2, 3, 4, 5, 6, 7, 8, 9, 10, 11, 12, 13, 14, 15, 16] rfl
            have hD : va_D A (wM cA h (nI L) (nI 0) (nI n) (nI na) (sx_bI sb) (α 1) (α 2) (α 3) cm (α 4) (α 5) (upd (α 6) a ((α 6) a + 1)) (upd (α 7) a ((α 7) a + 1)) (α 8) (α 9) (α 10) (α 11) (α 12) (upd (α 13) a (sx_bI (!decide ((α 13) a = 0) || sb))) (α 14) mk) := hD.sub [0, 1, 2, 3, 4, 5, 6, 7, 8, 9, 10, 11, 12, 13, 14, 15, 16] (by decide) rfl
            subst hr_25
            have z := sx_do_ref (n := n) (L := L) (sb := sb) (ok := sx_wrO n α a (nI j) ct) (v := ct) hok hne (by unfold sx_wrO; rw [decide_eq_true (show ct < 1 from Int32.not_le.mp c_24)]; simp)
            have hP9 : va_P D vwCl (wMa cA h L (nI 0) n na sb (sx_do n L sb α a (nI j) 0 (sx_wrO n α a (nI j) ct) (ct)) cm mk) H := by rw [z.2, sx_M_ref]; exact hP
            have hD9 : va_D A (wMa cA h L (nI 0) n na sb (sx_do n L sb α a (nI j) 0 (sx_wrO n α a (nI j) ct) (ct)) cm mk) := by rw [z.2, sx_M_ref]; exact hD
            exact W.iret (v := nI 0) hx hb hr (fun t ht hW => ⟨⟨nI 0, (), rfl, by rw [z.1], by rw [ht]; exact hP9, by rw [hAe]; exact hD9⟩, hS.F ht⟩) hS.2.2 d_M_write_50
    · exact absurd rfl c_11

set_option maxHeartbeats 4000000 in
set_option maxRecDepth 100000 in
theorem m_link (l : Launch) (D : va_G) (cA : Nat → ClassId) (sz : Nat) (h : Nat → Nat) (L : Nat) (cd : Int32) (n na : Nat) (sb : Bool) (α : sx_A) (cm mk : Nat → Int32) (hI : sx_INV n na L α) (a : Nat) (ha : a < na) (p to : Int32) : Met l y_M_link w_M_link ({ frames := 3, cells := 0, slots := 0, locals := 71 }) (sx_Pw D cA [.ref (h 0), .int (nI a), .int p, .int to] (wMa cA h L cd n na sb α cm mk) sz) (va_Qi (fun r (_ : Unit) => r = sx_doA n L α a p to (sx_lkO n α a p to)) (sx_Bw D (wMa cA h L cd n na sb α cm mk) sz (fun _ => wMa cA h L (nI 0) n na sb (sx_do n L sb α a p to (sx_lkO n α a p to) (-1 - to)) cm mk)) (va_A (wMa cA h L cd n na sb α cm mk) sz)) 0 0 (va_A (wMa cA h L cd n na sb α cm mk) sz) := by
  refine Met.ofW (cc := b_M_link) (maxL := 5) (ret := (some .int)) (by decide) rfl ?_
  intro pG eG s m args below meth cG s₁ B hml hv
  obtain ⟨rfl, hsz, hP, hK, hD0⟩ := hv
  have hx := B.exec
  have hb := B.bytes
  have hr := B.returns
  have hts0 := atoms_spec (ws := w_M_link) B.pre
  have hts : ∀ w ∈ sx_gw, w.before _ s = true := fun w h => hts0 w (List.mem_cons_of_mem _ h)
  have hown : s.vm.findClass R_M = some m.cls := findClass_of_methodNamed B.named
  have hlocks := B.notSynchronized
  subst hsz
  have hD := hD0.self (sz := s.heap.size)
  generalize hAe : va_A (wMa cA h L cd n na sb α cm mk) s.heap.size = A at hD ⊢
  have hA : ∀ q : Nat, s.heap.size ≤ q → A q := fun q h => by rw [← hAe]; exact Or.inr h
  have hS : va_S A s.heap s.heap [] := va_S.rf
  have hl := lv_entry ([.ref (h 0), .int (nI a), .int p, .int to]) (n := 5) (Nat.le_of_ble_eq_true rfl)
  rw [lg_entry_eq]
  generalize (lg_sl ([.ref (h 0), .int (nI a), .int p, .int to]) ++ List.replicate (5 - (lg_sl ([.ref (h 0), .int (nI a), .int p, .int to])).length) Slot.unset).toArray = ls at hl ⊢
  have hl : lv_has ls 5 [(0, .ref (h 0)), (1, .int (nI a)), (2, .int p), (3, .int to)] := hl
  have hn31 := sx_INV_n hI
  have hn60 := hI.1.1.2
  have h1n := hI.1.1.1
  have hna := hI.1.2.1
  have hAc := sx_INV_A hI ha
  have hd12 := (sx_dN_ok hAc).1
  have hP : va_P D vwCl (wM cA h (nI L) cd (nI n) (nI na) (sx_bI sb) (α 1) (α 2) (α 3) cm (α 4) (α 5) (α 6) (α 7) (α 8) (α 9) (α 10) (α 11) (α 12) (α 13) (α 14) mk) s.heap := hP
  have hD : va_D A (wM cA h (nI L) cd (nI n) (nI na) (sx_bI sb) (α 1) (α 2) (α 3) cm (α 4) (α 5) (α 6) (α 7) (α 8) (α 9) (α 10) (α 11) (α 12) (α 13) (α 14) mk) := hD
  refine lv_aload_n hx hb d_M_link_0 rfl (lv_at hl 0 rfl) ?_
  refine lv_iconst (v := nI 0) hx hb d_M_link_1 (by decide +kernel) ?_
  refine va_put (D := D) (ci := 4) (v := .int (nI 0)) (ty := .int) (C := R_M) (T := T_M) (N := 21) hx hb hts iw_M t_M o_M n_M hown hK.1 hP hD hS 0 rfl rfl 1 (by decide) (hts _ wd_365) (fun _ h9 => h9) rfl (by decide +kernel) rfl rfl (Nat.le_of_ble_eq_true rfl) d_M_link_2 (fun H locs hP hD hS => ?_)
  have hP : va_P D vwCl (wM cA h (nI L) (nI 0) (nI n) (nI na) (sx_bI sb) (α 1) (α 2) (α 3) cm (α 4) (α 5) (α 6) (α 7) (α 8) (α 9) (α 10) (α 11) (α 12) (α 13) (α 14) mk) H := hP
  have hD : va_D A (wM cA h (nI L) (nI 0) (nI n) (nI na) (sx_bI sb) (α 1) (α 2) (α 3) cm (α 4) (α 5) (α 6) (α 7) (α 8) (α 9) (α 10) (α 11) (α 12) (α 13) (α 14) mk) := hD
  refine lv_aload_n hx hb d_M_link_5 rfl (lv_at hl 0 rfl) ?_
  refine lv_iload_n hx hb d_M_link_6 rfl (lv_at hl 1 rfl) ?_
  refine lv_iload_n hx hb d_M_link_7 rfl (lv_at hl 2 rfl) ?_
  refine lv_iload_n hx hb d_M_link_8 rfl (lv_at hl 3 rfl) ?_
  rcases sx_may3 n L α a p to with hok | ⟨hok, heq⟩ | ⟨hok, hne⟩
  · refine vp_callSi (va_runV (As := [.int (nI a), .int p, .int to]) (rest := []) ⟨hx, hb, hml, hown, hts⟩ (k_mayN l D cA h (nI 0) (sx_bI sb) (α 1) (α 2) (α 3) cm (α 4) (α 5) (α 7) (α 8) (α 9) (α 10) (α 11) (α 14) mk n na L α a (by omega) (by omega) p to hok) (cwV 3 hts (sx_GV wd_483 wd_485 ws_16 wd_5 wd_486) rfl rfl rfl (by decide +kernel) ⟨Nat.le_of_ble_eq_true rfl, Nat.le_of_ble_eq_true rfl⟩) (sx_preV hK hP (va_recv hK.1 hP (ci := 4) (q0 := 0) rfl rfl)) rfl rfl hl.1 rfl (lv_room (Nat.le_of_ble_eq_true rfl)) d_M_link_9 ⟨Nat.le_of_ble_eq_true rfl, Nat.le_of_ble_eq_true rfl⟩).run (fun r_2 hr_1 => ?_)
    subst hr_1
    refine lv_istore (lv' := [(4, .int (-1)), (0, .ref (h 0)), (1, .int (nI a)), (2, .int p), (3, .int to)]) hx hb d_M_link_12 hl (by decide) rfl (fun ls hl => ?_)
    refine lv_iload hx hb d_M_link_14 (lv_at hl 0 rfl) ?_
    refine lv_if_eq (tgt := 22) hx hb d_M_link_16 (by decide) (fun c_3 => ?_) (fun c_3 => ?_)
    · exact absurd c_3 (by decide)
    · refine lv_iload hx hb d_M_link_19 (lv_at hl 0 rfl) ?_
      have z := sx_do_no (n := n) (L := L) (sb := sb) (ok := sx_lkO n α a p to) (v := -1 - to) hok
      have hP9 : va_P D vwCl (wMa cA h L (nI 0) n na sb (sx_do n L sb α a p to (sx_lkO n α a p to) (-1 - to)) cm mk) H := by rw [z.2]; exact hP
      have hD9 : va_D A (wMa cA h L (nI 0) n na sb (sx_do n L sb α a p to (sx_lkO n α a p to) (-1 - to)) cm mk) := by rw [z.2]; exact hD
      exact W.iret (v := (-1)) hx hb hr (fun t ht hW => ⟨⟨(-1), (), rfl, by rw [z.1], by rw [ht]; exact hP9, by rw [hAe]; exact hD9⟩, hS.F ht⟩) hS.2.2 d_M_link_21
  · refine sx_calli (wr := []) (va_runV (As := [.int (nI a), .int p, .int to]) (rest := []) ⟨hx, hb, hml, hown, hts⟩ (k_mayL l D cA H.size h (nI 0) (sx_bI sb) (α 1) (α 2) (α 3) cm (α 4) (α 5) (α 7) (α 8) (α 9) (α 10) (α 11) (α 14) mk n na L α a (by omega) (by omega) p to hok heq) (cwV 3 hts (sx_GV wd_483 wd_485 ws_16 wd_5 wd_486) rfl rfl rfl (by decide +kernel) ⟨Nat.le_of_ble_eq_true rfl, Nat.le_of_ble_eq_true rfl⟩) (sx_preVw hK hP hD (va_recv hK.1 hP (ci := 4) (q0 := 0) rfl rfl)) rfl rfl hl.1 rfl (lv_room (Nat.le_of_ble_eq_true rfl)) d_M_link_9 ⟨Nat.le_of_ble_eq_true rfl, Nat.le_of_ble_eq_true rfl⟩) hP hD hS hA [0, 1, 2, 3, 4, 5, 6, 7, 8, 9, 10, 11, 12, 13, 14, 15, 16] [] rfl rfl (by decide) (by decide) (fun r_5 u_6 H locs hr_4 hP hD hS => ?_)
    have hP : va_P D vwCl (wM cA h (nI L) (nI 0) (nI n) (nI na) (sx_bI sb) (α 1) (α 2) (α 3) cm (α 4) (α 5) (α 6) (α 7) (α 8) (α 9) (α 10) (α 11) (α 12) (upd (α 13) a (nI 1)) (α 14) mk) H := hP.sub [0, 1, 2, 3, 4, 5, 6, 7, 8, 9, 10, 11, 12, 13, 14, 15, 16] rfl
    have hD : va_D A (wM cA h (nI L) (nI 0) (nI n) (nI na) (sx_bI sb) (α 1) (α 2) (α 3) cm (α 4) (α 5) (α 6) (α 7) (α 8) (α 9) (α 10) (α 11) (α 12) (upd (α 13) a (nI 1)) (α 14) mk) := hD.sub [0, 1, 2, 3, 4, 5, 6, 7, 8, 9, 10, 11, 12, 13, 14, 15, 16] (by decide) rfl
    subst hr_4
    refine lv_istore (lv' := [(4, .int (-9)), (0, .ref (h 0)), (1, .int (nI a)), (2, .int p), (3, .int to)]) hx hb d_M_link_12 hl (by decide) rfl (fun ls hl => ?_)
    refine lv_iload hx hb d_M_link_14 (lv_at hl 0 rfl) ?_
    refine lv_if_eq (tgt := 22) hx hb d_M_link_16 (by decide) (fun c_7 => ?_) (fun c_7 => ?_)
    · exact absurd c_7 (by decide)
    · refine lv_iload hx hb d_M_link_19 (lv_at hl 0 rfl) ?_
      have z := sx_do_lim (n := n) (L := L) (sb := sb) (ok := sx_lkO n α a p to) (v := -1 - to) hok heq
      have hP9 : va_P D vwCl (wMa cA h L (nI 0) n na sb (sx_do n L sb α a p to (sx_lkO n α a p to) (-1 - to)) cm mk) H := by rw [z.2, sx_M_lim]; exact hP
      have hD9 : va_D A (wMa cA h L (nI 0) n na sb (sx_do n L sb α a p to (sx_lkO n α a p to) (-1 - to)) cm mk) := by rw [z.2, sx_M_lim]; exact hD
      exact W.iret (v := (-9)) hx hb hr (fun t ht hW => ⟨⟨(-9), (), rfl, by rw [z.1], by rw [ht]; exact hP9, by rw [hAe]; exact hD9⟩, hS.F ht⟩) hS.2.2 d_M_link_21
  · obtain ⟨j, hj, rfl⟩ := sx_has_t (by omega) (sx_ok_hp hok)
    obtain ⟨i, hi, rfl⟩ := sx_has_t (by omega) (sx_ok_hq hok)
    refine sx_calli (wr := []) (va_runV (As := [.int (nI a), .int (nI j), .int (nI i)]) (rest := []) ⟨hx, hb, hml, hown, hts⟩ (k_mayY l D cA H.size h (nI 0) (sx_bI sb) (α 1) (α 2) (α 3) cm (α 4) (α 5) (α 7) (α 8) (α 9) (α 10) (α 11) (α 14) mk n na L α a (by omega) (by omega) (nI j) (nI i) hok hne) (cwV 3 hts (sx_GV wd_483 wd_485 ws_16 wd_5 wd_486) rfl rfl rfl (by decide +kernel) ⟨Nat.le_of_ble_eq_true rfl, Nat.le_of_ble_eq_true rfl⟩) (sx_preVw hK hP hD (va_recv hK.1 hP (ci := 4) (q0 := 0) rfl rfl)) rfl rfl hl.1 rfl (lv_room (Nat.le_of_ble_eq_true rfl)) d_M_link_9 ⟨Nat.le_of_ble_eq_true rfl, Nat.le_of_ble_eq_true rfl⟩) hP hD hS hA [0, 1, 2, 3, 4, 5, 6, 7, 8, 9, 10, 11, 12, 13, 14, 15, 16] [] rfl rfl (by decide) (by decide) (fun r_9 u_10 H locs hr_8 hP hD hS => ?_)
    have hP : va_P D vwCl (wM cA h (nI L) (nI 0) (nI n) (nI na) (sx_bI sb) (α 1) (α 2) (α 3) cm (α 4) (α 5) (upd (α 6) a ((α 6) a + 1)) (α 7) (α 8) (α 9) (α 10) (α 11) (α 12) (α 13) (α 14) mk) H := hP.sub [0, 1, 2, 3, 4, 5, 6, 7, 8, 9, 10, 11, 12, 13, 14, 15, 16] rfl
    have hD : va_D A (wM cA h (nI L) (nI 0) (nI n) (nI na) (sx_bI sb) (α 1) (α 2) (α 3) cm (α 4) (α 5) (upd (α 6) a ((α 6) a + 1)) (α 7) (α 8) (α 9) (α 10) (α 11) (α 12) (α 13) (α 14) mk) := hD.sub [0, 1, 2, 3, 4, 5, 6, 7, 8, 9, 10, 11, 12, 13, 14, 15, 16] (by decide) rfl
    subst hr_8
    refine lv_istore (lv' := [(4, .int (nI 0)), (0, .ref (h 0)), (1, .int (nI a)), (2, .int (nI j)), (3, .int (nI i))]) hx hb d_M_link_12 hl (by decide) rfl (fun ls hl => ?_)
    refine lv_iload hx hb d_M_link_14 (lv_at hl 0 rfl) ?_
    refine lv_if_eq (tgt := 22) hx hb d_M_link_16 (by decide) (fun c_11 => ?_) (fun c_11 => ?_)
    · refine lv_aload_n hx hb d_M_link_22 rfl (lv_at hl 1 rfl) ?_
      refine lv_iload_n hx hb d_M_link_23 rfl (lv_at hl 2 rfl) ?_
      refine lv_iload_n hx hb d_M_link_24 rfl (lv_at hl 3 rfl) ?_
      refine vp_callSi (va_runV (As := [.int (nI a), .int (nI j)]) (rest := []) ⟨hx, hb, hml, hown, hts⟩ (k_isWr l D cA h (nI L) (nI 0) (nI na) (sx_bI sb) (α 3) cm (upd (α 6) a ((α 6) a + 1)) (α 7) (α 8) (α 9) (α 10) (α 12) (α 13) (α 14) mk n α na L hI a (by omega) j (by omega)) (cwV 2 hts (sx_GV wd_502 wd_504 ws_19 wd_5 wd_505) rfl rfl rfl (by decide +kernel) ⟨Nat.le_of_ble_eq_true rfl, Nat.le_of_ble_eq_true rfl⟩) (sx_preV hK hP (va_recv hK.1 hP (ci := 4) (q0 := 0) rfl rfl)) rfl rfl hl.1 rfl (lv_room (Nat.le_of_ble_eq_true rfl)) d_M_link_25 ⟨Nat.le_of_ble_eq_true rfl, Nat.le_of_ble_eq_true rfl⟩).run (fun r_13 hr_12 => ?_)
      subst hr_12
      refine lv_if_eq (tgt := 59) hx hb d_M_link_28 (by decide) (fun c_14 => ?_) (fun c_14 => ?_)
      · have c_14 : (sx_isW n α a j) = false := sx_bI0 c_14
        refine lv_aload_n hx hb d_M_link_59 rfl (lv_at hl 1 rfl) ?_
        refine lv_iload_n hx hb d_M_link_60 rfl (lv_at hl 2 rfl) ?_
        refine sx_calli (wr := []) (va_runV (As := [.int (nI a)]) (rest := []) ⟨hx, hb, hml, hown, hts⟩ (k_refM l D cA H.size h (nI L) (nI 0) (nI na) (α 1) (α 2) (α 3) cm (α 4) (α 5) (upd (α 6) a ((α 6) a + 1)) (α 7) (α 8) (α 9) (α 10) (α 11) (α 12) (α 13) (α 14) mk n sb α a (by omega)) (cwV 1 hts (sx_GV wd_510 wd_512 ws_21 wd_5 wd_513) rfl rfl rfl (by decide +kernel) ⟨Nat.le_of_ble_eq_true rfl, Nat.le_of_ble_eq_true rfl⟩) (sx_preVw hK hP hD (va_recv hK.1 hP (ci := 4) (q0 := 0) rfl rfl)) rfl rfl hl.1 rfl (lv_room (Nat.le_of_ble_eq_true rfl)) d_M_link_61 ⟨Nat.le_of_ble_eq_true rfl, Nat.le_of_ble_eq_true rfl⟩) hP hD hS hA [0, 1, 2, 3, 4, 5, 6, 7, 8, 9, 10, 11, 12, 13, 14, 15, 16] [] rfl rfl (by decide) (by decide) (fun r_16 u_17 H locs hr_15 hP hD hS => ?_)
        have hP : va_P D vwCl (wM cA h (nI L) (nI 0) (nI n) (nI na) (sx_bI sb) (α 1) (α 2) (α 3) cm (α 4) (α 5) (upd (α 6) a ((α 6) a + 1)) (upd (α 7) a ((α 7) a + 1)) (α 8) (α 9) (α 10) (α 11) (α 12) (upd (α 13) a (sx_bI (!decide ((α 13) a = 0) || sb))) (α 14) mk) H := hP.sub [0, 1, 2, 3, 4, 5, 6, 7, 8, 9, 10, 11, 12, 13, 14, 15, 16] rfl
        have hD : va_D A (wM cA h (nI L) (nI 0) (nI n) (nI na) (sx_bI sb) (α 1) (α 2) (α 3) cm (α 4) (α 5) (upd (α 6) a ((α 6) a + 1)) (upd (α 7) a ((α 7) a + 1)) (α 8) (α 9) (α 10) (α 11) (α 12) (upd (α 13) a (sx_bI (!decide ((α 13) a = 0) || sb))) (α 14) mk) := hD.sub [0, 1, 2, 3, 4, 5, 6, 7, 8, 9, 10, 11, 12, 13, 14, 15, 16] (by decide) rfl
        subst hr_15
        have z := sx_do_ref (n := n) (L := L) (sb := sb) (ok := sx_lkO n α a (nI j) (nI i)) (v := -1 - (nI i)) hok hne (by unfold sx_lkO; rw [nI_clamp (show j < 2 ^ 31 by omega), c_14]; rfl)
        have hP9 : va_P D vwCl (wMa cA h L (nI 0) n na sb (sx_do n L sb α a (nI j) (nI i) (sx_lkO n α a (nI j) (nI i)) (-1 - (nI i))) cm mk) H := by rw [z.2, sx_M_ref]; exact hP
        have hD9 : va_D A (wMa cA h L (nI 0) n na sb (sx_do n L sb α a (nI j) (nI i) (sx_lkO n α a (nI j) (nI i)) (-1 - (nI i))) cm mk) := by rw [z.2, sx_M_ref]; exact hD
        exact W.iret (v := nI 0) hx hb hr (fun t ht hW => ⟨⟨nI 0, (), rfl, by rw [z.1], by rw [ht]; exact hP9, by rw [hAe]; exact hD9⟩, hS.F ht⟩) hS.2.2 d_M_link_64
      · have c_14 : (sx_isW n α a j) = true := sx_bIn c_14
        refine lv_aload_n hx hb d_M_link_31 rfl (lv_at hl 1 rfl) ?_
        refine lv_iload_n hx hb d_M_link_32 rfl (lv_at hl 2 rfl) ?_
        refine lv_iload_n hx hb d_M_link_33 rfl (lv_at hl 3 rfl) ?_
        refine vp_callSi (va_runV (As := [.int (nI a), .int (nI j)]) (rest := []) ⟨hx, hb, hml, hown, hts⟩ (k_inW l D cA h (nI L) (nI 0) (nI na) (sx_bI sb) (α 2) (α 3) cm (α 4) (α 5) (upd (α 6) a ((α 6) a + 1)) (α 7) (α 8) (α 9) (α 11) (α 12) (α 13) (α 14) mk n α na L hI a (by omega) j (by omega)) (cwV 2 hts (sx_GV wd_506 wd_508 ws_20 wd_5 wd_509) rfl rfl rfl (by decide +kernel) ⟨Nat.le_of_ble_eq_true rfl, Nat.le_of_ble_eq_true rfl⟩) (sx_preV hK hP (va_recv hK.1 hP (ci := 4) (q0 := 0) rfl rfl)) rfl rfl hl.1 rfl (lv_room (Nat.le_of_ble_eq_true rfl)) d_M_link_34 ⟨Nat.le_of_ble_eq_true rfl, Nat.le_of_ble_eq_true rfl⟩).run (fun r_19 hr_18 => ?_)
        subst hr_18
        refine lv_if_ne (tgt := 59) hx hb d_M_link_37 (by decide) (fun c_20 => ?_) (fun c_20 => ?_)
        · have c_20 : (sx_inW n α a j) = true := sx_bIn c_20
          refine lv_aload_n hx hb d_M_link_59 rfl (lv_at hl 1 rfl) ?_
          refine lv_iload_n hx hb d_M_link_60 rfl (lv_at hl 2 rfl) ?_
          refine sx_calli (wr := []) (va_runV (As := [.int (nI a)]) (rest := []) ⟨hx, hb, hml, hown, hts⟩ (k_refM l D cA H.size h (nI L) (nI 0) (nI na) (α 1) (α 2) (α 3) cm (α 4) (α 5) (upd (α 6) a ((α 6) a + 1)) (α 7) (α 8) (α 9) (α 10) (α 11) (α 12) (α 13) (α 14) mk n sb α a (by omega)) (cwV 1 hts (sx_GV wd_510 wd_512 ws_21 wd_5 wd_513) rfl rfl rfl (by decide +kernel) ⟨Nat.le_of_ble_eq_true rfl, Nat.le_of_ble_eq_true rfl⟩) (sx_preVw hK hP hD (va_recv hK.1 hP (ci := 4) (q0 := 0) rfl rfl)) rfl rfl hl.1 rfl (lv_room (Nat.le_of_ble_eq_true rfl)) d_M_link_61 ⟨Nat.le_of_ble_eq_true rfl, Nat.le_of_ble_eq_true rfl⟩) hP hD hS hA [0, 1, 2, 3, 4, 5, 6, 7, 8, 9, 10, 11, 12, 13, 14, 15, 16] [] rfl rfl (by decide) (by decide) (fun r_22 u_23 H locs hr_21 hP hD hS => ?_)
          have hP : va_P D vwCl (wM cA h (nI L) (nI 0) (nI n) (nI na) (sx_bI sb) (α 1) (α 2) (α 3) cm (α 4) (α 5) (upd (α 6) a ((α 6) a + 1)) (upd (α 7) a ((α 7) a + 1)) (α 8) (α 9) (α 10) (α 11) (α 12) (upd (α 13) a (sx_bI (!decide ((α 13) a = 0) || sb))) (α 14) mk) H := hP.sub [0, 1, 2, 3, 4, 5, 6, 7, 8, 9, 10, 11, 12, 13, 14, 15, 16] rfl
          have hD : va_D A (wM cA h (nI L) (nI 0) (nI n) (nI na) (sx_bI sb) (α 1) (α 2) (α 3) cm (α 4) (α 5) (upd (α 6) a ((α 6) a + 1)) (upd (α 7) a ((α 7) a + 1)) (α 8) (α 9) (α 10) (α 11) (α 12) (upd (α 13) a (sx_bI (!decide ((α 13) a = 0) || sb))) (α 14) mk) := hD.sub [0, 1, 2, 3, 4, 5, 6, 7, 8, 9, 10, 11, 12, 13, 14, 15, 16] (by decide) rfl
          subst hr_21
          have z := sx_do_ref (n := n) (L := L) (sb := sb) (ok := sx_lkO n α a (nI j) (nI i)) (v := -1 - (nI i)) hok hne (by unfold sx_lkO; rw [nI_clamp (show j < 2 ^ 31 by omega), c_20]; simp)
          have hP9 : va_P D vwCl (wMa cA h L (nI 0) n na sb (sx_do n L sb α a (nI j) (nI i) (sx_lkO n α a (nI j) (nI i)) (-1 - (nI i))) cm mk) H := by rw [z.2, sx_M_ref]; exact hP
          have hD9 : va_D A (wMa cA h L (nI 0) n na sb (sx_do n L sb α a (nI j) (nI i) (sx_lkO n α a (nI j) (nI i)) (-1 - (nI i))) cm mk) := by rw [z.2, sx_M_ref]; exact hD
          exact W.iret (v := nI 0) hx hb hr (fun t ht hW => ⟨⟨nI 0, (), rfl, by rw [z.1], by rw [ht]; exact hP9, by rw [hAe]; exact hD9⟩, hS.F ht⟩) hS.2.2 d_M_link_64
        · have c_20 : (sx_inW n α a j) = false := sx_bI0 c_20
          refine lv_aload_n hx hb d_M_link_40 rfl (lv_at hl 1 rfl) ?_
          refine lv_iload_n hx hb d_M_link_41 rfl (lv_at hl 2 rfl) ?_
          refine lv_iload_n hx hb d_M_link_42 rfl (lv_at hl 4 rfl) ?_
          refine vp_callSi (va_runV (As := [.int (nI a), .int (nI i)]) (rest := []) ⟨hx, hb, hml, hown, hts⟩ (k_isWr l D cA h (nI L) (nI 0) (nI na) (sx_bI sb) (α 3) cm (upd (α 6) a ((α 6) a + 1)) (α 7) (α 8) (α 9) (α 10) (α 12) (α 13) (α 14) mk n α na L hI a (by omega) i (by omega)) (cwV 2 hts (sx_GV wd_502 wd_504 ws_19 wd_5 wd_505) rfl rfl rfl (by decide +kernel) ⟨Nat.le_of_ble_eq_true rfl, Nat.le_of_ble_eq_true rfl⟩) (sx_preV hK hP (va_recv hK.1 hP (ci := 4) (q0 := 0) rfl rfl)) rfl rfl hl.1 rfl (lv_room (Nat.le_of_ble_eq_true rfl)) d_M_link_43 ⟨Nat.le_of_ble_eq_true rfl, Nat.le_of_ble_eq_true rfl⟩).run (fun r_25 hr_24 => ?_)
          subst hr_24
          refine lv_if_ne (tgt := 65) hx hb d_M_link_46 (by decide) (fun c_26 => ?_) (fun c_26 => ?_)
          · have c_26 : (sx_isW n α a i) = true := sx_bIn c_26
            refine lv_aload_n hx hb d_M_link_65 rfl (lv_at hl 1 rfl) ?_
            refine va_get (D := D) (ci := 4) (v := .ref (h 11)) (C := R_M) (T := T_M) (N := 21) hx hb hts iw_M hown hK.1 hP 0 rfl rfl 15 (by decide) (hts _ wd_379) (fun _ h9 => h9) rfl d_M_link_66 ?_
            refine lv_bipush (v := nI 60) hx hb d_M_link_69 (by decide +kernel) ?_
            refine lv_iload_n hx hb d_M_link_71 rfl (lv_at hl 2 rfl) ?_
            refine lv_imul hx hb d_M_link_72 ?_
            refine sx_asi (y := nI (60 * a)) (pk_mul 60 a) ?_
            refine lv_iload_n hx hb d_M_link_73 rfl (lv_at hl 3 rfl) ?_
            refine lv_iadd hx hb d_M_link_74 ?_
            refine sx_asi (y := nI (60 * a + j)) (nI_add (60 * a) j) ?_
            refine lv_iconst (v := (-1)) hx hb d_M_link_75 (by decide +kernel) ?_
            refine lv_iload_n hx hb d_M_link_76 rfl (lv_at hl 4 rfl) ?_
            refine lv_isub hx hb d_M_link_77 ?_
            refine va_iast hx hb hK.1 hP hD hS 11 0 rfl rfl (vp_in_nI (by omega) (by decide)) d_M_link_78 (fun H locs hP hD hS => ?_)
            rw [nI_clamp (by omega)] at hP hD
            have hP : va_P D vwCl (wM cA h (nI L) (nI 0) (nI n) (nI na) (sx_bI sb) (α 1) (α 2) (α 3) cm (α 4) (α 5) (upd (α 6) a ((α 6) a + 1)) (α 7) (α 8) (α 9) (upd (α 10) (60 * a + j) ((-1) - (nI i))) (α 11) (α 12) (α 13) (α 14) mk) H := hP
            have hD : va_D A (wM cA h (nI L) (nI 0) (nI n) (nI na) (sx_bI sb) (α 1) (α 2) (α 3) cm (α 4) (α 5) (upd (α 6) a ((α 6) a + 1)) (α 7) (α 8) (α 9) (upd (α 10) (60 * a + j) ((-1) - (nI i))) (α 11) (α 12) (α 13) (α 14) mk) := hD
            refine lv_iconst (v := nI 1) hx hb d_M_link_79 (by decide +kernel) ?_
            have z := sx_do_yes (n := n) (L := L) (sb := sb) (ok := sx_lkO n α a (nI j) (nI i)) (v := -1 - (nI i)) (by omega) hok hne (by unfold sx_lkO; rw [nI_clamp (show j < 2 ^ 31 by omega), nI_clamp (show i < 2 ^ 31 by omega), c_14, c_20, c_26]; rfl)
            have hP9 : va_P D vwCl (wMa cA h L (nI 0) n na sb (sx_do n L sb α a (nI j) (nI i) (sx_lkO n α a (nI j) (nI i)) (-1 - (nI i))) cm mk) H := by rw [z.2, sx_M_put]; exact hP
            have hD9 : va_D A (wMa cA h L (nI 0) n na sb (sx_do n L sb α a (nI j) (nI i) (sx_lkO n α a (nI j) (nI i)) (-1 - (nI i))) cm mk) := by rw [z.2, sx_M_put]; exact hD
            exact W.iret (v := nI 1) hx hb hr (fun t ht hW => ⟨⟨nI 1, (), rfl, by rw [z.1], by rw [ht]; exact hP9, by rw [hAe]; exact hD9⟩, hS.F ht⟩) hS.2.2 d_M_link_80
          · have c_26 : (sx_isW n α a i) = false := sx_bI0 c_26
            refine lv_aload_n hx hb d_M_link_49 rfl (lv_at hl 1 rfl) ?_
            refine lv_iload_n hx hb d_M_link_50 rfl (lv_at hl 2 rfl) ?_
            refine lv_iload_n hx hb d_M_link_51 rfl (lv_at hl 4 rfl) ?_
            refine lv_iconst (v := nI 0) hx hb d_M_link_52 (by decide +kernel) ?_
            refine sx_asi (y := sx_bI false) rfl ?_
            refine vp_callSi (va_runV (As := [.int (nI a), .int (nI i), .int (sx_bI false)]) (rest := []) ⟨hx, hb, hml, hown, hts⟩ (k_isDecl l D cA h (nI L) (nI 0) (nI na) (sx_bI sb) (α 2) (α 3) cm (upd (α 6) a ((α 6) a + 1)) (α 7) (α 8) (α 9) (α 10) (α 12) (α 13) (α 14) mk n α na L hI a (by omega) i (by omega) false) (cwV 3 hts (sx_GV wd_475 wd_477 ws_15 wd_5 wd_478) rfl rfl rfl (by decide +kernel) ⟨Nat.le_of_ble_eq_true rfl, Nat.le_of_ble_eq_true rfl⟩) (sx_preV hK hP (va_recv hK.1 hP (ci := 4) (q0 := 0) rfl rfl)) rfl rfl hl.1 rfl (lv_room (Nat.le_of_ble_eq_true rfl)) d_M_link_53 ⟨Nat.le_of_ble_eq_true rfl, Nat.le_of_ble_eq_true rfl⟩).run (fun r_28 hr_27 => ?_)
            subst hr_27
            refine lv_if_ne (tgt := 65) hx hb d_M_link_56 (by decide) (fun c_29 => ?_) (fun c_29 => ?_)
            · have c_29 : (sx_isD α a false i) = true := sx_bIn c_29
              refine lv_aload_n hx hb d_M_link_65 rfl (lv_at hl 1 rfl) ?_
              refine va_get (D := D) (ci := 4) (v := .ref (h 11)) (C := R_M) (T := T_M) (N := 21) hx hb hts iw_M hown hK.1 hP 0 rfl rfl 15 (by decide) (hts _ wd_379) (fun _ h9 => h9) rfl d_M_link_66 ?_
              refine lv_bipush (v := nI 60) hx hb d_M_link_69 (by decide +kernel) ?_
              refine lv_iload_n hx hb d_M_link_71 rfl (lv_at hl 2 rfl) ?_
              refine lv_imul hx hb d_M_link_72 ?_
              refine sx_asi (y := nI (60 * a)) (pk_mul 60 a) ?_
              refine lv_iload_n hx hb d_M_link_73 rfl (lv_at hl 3 rfl) ?_
              refine lv_iadd hx hb d_M_link_74 ?_
              refine sx_asi (y := nI (60 * a + j)) (nI_add (60 * a) j) ?_
              refine lv_iconst (v := (-1)) hx hb d_M_link_75 (by decide +kernel) ?_
              refine lv_iload_n hx hb d_M_link_76 rfl (lv_at hl 4 rfl) ?_
              refine lv_isub hx hb d_M_link_77 ?_
              refine va_iast hx hb hK.1 hP hD hS 11 0 rfl rfl (vp_in_nI (by omega) (by decide)) d_M_link_78 (fun H locs hP hD hS => ?_)
              rw [nI_clamp (by omega)] at hP hD
              have hP : va_P D vwCl (wM cA h (nI L) (nI 0) (nI n) (nI na) (sx_bI sb) (α 1) (α 2) (α 3) cm (α 4) (α 5) (upd (α 6) a ((α 6) a + 1)) (α 7) (α 8) (α 9) (upd (α 10) (60 * a + j) ((-1) - (nI i))) (α 11) (α 12) (α 13) (α 14) mk) H := hP
              have hD : va_D A (wM cA h (nI L) (nI 0) (nI n) (nI na) (sx_bI sb) (α 1) (α 2) (α 3) cm (α 4) (α 5) (upd (α 6) a ((α 6) a + 1)) (α 7) (α 8) (α 9) (upd (α 10) (60 * a + j) ((-1) - (nI i))) (α 11) (α 12) (α 13) (α 14) mk) := hD
              refine lv_iconst (v := nI 1) hx hb d_M_link_79 (by decide +kernel) ?_
              have z := sx_do_yes (n := n) (L := L) (sb := sb) (ok := sx_lkO n α a (nI j) (nI i)) (v := -1 - (nI i)) (by omega) hok hne (by unfold sx_lkO; rw [nI_clamp (show j < 2 ^ 31 by omega), nI_clamp (show i < 2 ^ 31 by omega), c_14, c_20, c_26, c_29]; rfl)
              have hP9 : va_P D vwCl (wMa cA h L (nI 0) n na sb (sx_do n L sb α a (nI j) (nI i) (sx_lkO n α a (nI j) (nI i)) (-1 - (nI i))) cm mk) H := by rw [z.2, sx_M_put]; exact hP
              have hD9 : va_D A (wMa cA h L (nI 0) n na sb (sx_do n L sb α a (nI j) (nI i) (sx_lkO n α a (nI j) (nI i)) (-1 - (nI i))) cm mk) := by rw [z.2, sx_M_put]; exact hD
              exact W.iret (v := nI 1) hx hb hr (fun t ht hW => ⟨⟨nI 1, (), rfl, by rw [z.1], by rw [ht]; exact hP9, by rw [hAe]; exact hD9⟩, hS.F ht⟩) hS.2.2 d_M_link_80
            · have c_29 : (sx_isD α a false i) = false := sx_bI0 c_29
              refine lv_aload_n hx hb d_M_link_59 rfl (lv_at hl 1 rfl) ?_
              refine lv_iload_n hx hb d_M_link_60 rfl (lv_at hl 2 rfl) ?_
              refine sx_calli (wr := []) (va_runV (As := [.int (nI a)]) (rest := []) ⟨hx, hb, hml, hown, hts⟩ (k_refM l D cA H.size h (nI L) (nI 0) (nI na) (α 1) (α 2) (α 3) cm (α 4) (α 5) (upd (α 6) a ((α 6) a + 1)) (α 7) (α 8) (α 9) (α 10) (α 11) (α 12) (α 13) (α 14) mk n sb α a (by omega)) (cwV 1 hts (sx_GV wd_510 wd_512 ws_21 wd_5 wd_513) rfl rfl rfl (by decide +kernel) ⟨Nat.le_of_ble_eq_true rfl, Nat.le_of_ble_eq_true rfl⟩) (sx_preVw hK hP hD (va_recv hK.1 hP (ci := 4) (q0 := 0) rfl rfl)) rfl rfl hl.1 rfl (lv_room (Nat.le_of_ble_eq_true rfl)) d_M_link_61 ⟨Nat.le_of_ble_eq_true rfl, Nat.le_of_ble_eq_true rfl⟩) hP hD hS hA [0, 1, 2, 3, 4, 5, 6, 7, 8, 9, 10, 11, 12, 13, 14, 15, 16] [] rfl rfl (by decide) (by decide) (fun r_31 u_32 H locs hr_30 hP hD hS => ?_)
              have hP : va_P D vwCl (wM cA h (nI L) (nI 0) (nI n) (nI na) (sx_bI sb) (α 1) (α 2) (α 3) cm (α 4) (α 5) (upd (α 6) a ((α 6) a + 1)) (upd (α 7) a ((α 7) a + 1)) (α 8) (α 9) (α 10) (α 11) (α 12) (upd (α 13) a (sx_bI (!decide ((α 13) a = 0) || sb))) (α 14) mk) H := hP.sub [0, 1, 2, 3, 4, 5, 6, 7, 8, 9, 10, 11, 12, 13, 14, 15, 16] rfl
              have hD : va_D A (wM cA h (nI L) (nI 0) (nI n) (nI na) (sx_bI sb) (α 1) (α 2) (α 3) cm (α 4) (α 5) (upd (α 6) a ((α 6) a + 1)) (upd (α 7) a ((α 7) a + 1)) (α 8) (α 9) (α 10) (α 11) (α 12) (upd (α 13) a (sx_bI (!decide ((α 13) a = 0) || sb))) (α 14) mk) := hD.sub [0, 1, 2, 3, 4, 5, 6, 7, 8, 9, 10, 11, 12, 13, 14, 15, 16] (by decide) rfl
              subst hr_30
              have z := sx_do_ref (n := n) (L := L) (sb := sb) (ok := sx_lkO n α a (nI j) (nI i)) (v := -1 - (nI i)) hok hne (by unfold sx_lkO; rw [nI_clamp (show j < 2 ^ 31 by omega), nI_clamp (show i < 2 ^ 31 by omega), c_26, c_29]; simp)
              have hP9 : va_P D vwCl (wMa cA h L (nI 0) n na sb (sx_do n L sb α a (nI j) (nI i) (sx_lkO n α a (nI j) (nI i)) (-1 - (nI i))) cm mk) H := by rw [z.2, sx_M_ref]; exact hP
              have hD9 : va_D A (wMa cA h L (nI 0) n na sb (sx_do n L sb α a (nI j) (nI i) (sx_lkO n α a (nI j) (nI i)) (-1 - (nI i))) cm mk) := by rw [z.2, sx_M_ref]; exact hD
              exact W.iret (v := nI 0) hx hb hr (fun t ht hW => ⟨⟨nI 0, (), rfl, by rw [z.1], by rw [ht]; exact hP9, by rw [hAe]; exact hD9⟩, hS.F ht⟩) hS.2.2 d_M_link_64
    · exact absurd rfl c_11

set_option maxHeartbeats 4000000 in
set_option maxRecDepth 100000 in
theorem m_remove (l : Launch) (D : va_G) (cA : Nat → ClassId) (sz : Nat) (h : Nat → Nat) (L : Nat) (cd : Int32) (n na : Nat) (sb : Bool) (α : sx_A) (cm mk : Nat → Int32) (hI : sx_INV n na L α) (a : Nat) (ha : a < na) (p : Int32) : Met l y_M_remove w_M_remove ({ frames := 3, cells := 0, slots := 0, locals := 71 }) (sx_Pw D cA [.ref (h 0), .int (nI a), .int p] (wMa cA h L cd n na sb α cm mk) sz) (va_Qi (fun r (_ : Unit) => r = sx_doA n L α a p 0 (sx_rmO n α a p)) (sx_Bw D (wMa cA h L cd n na sb α cm mk) sz (fun _ => wMa cA h L (nI 0) n na sb (sx_do n L sb α a p 0 (sx_rmO n α a p) (0)) cm mk)) (va_A (wMa cA h L cd n na sb α cm mk) sz)) 0 0 (va_A (wMa cA h L cd n na sb α cm mk) sz) := by
  refine Met.ofW (cc := b_M_remove) (maxL := 4) (ret := (some .int)) (by decide) rfl ?_
  intro pG eG s m args below meth cG s₁ B hml hv
  obtain ⟨rfl, hsz, hP, hK, hD0⟩ := hv
  have hx := B.exec
  have hb := B.bytes
  have hr := B.returns
  have hts0 := atoms_spec (ws := w_M_remove) B.pre
  have hts : ∀ w ∈ sx_gw, w.before _ s = true := fun w h => hts0 w (List.mem_cons_of_mem _ h)
  have hown : s.vm.findClass R_M = some m.cls := findClass_of_methodNamed B.named
  have hlocks := B.notSynchronized
  subst hsz
  have hD := hD0.self (sz := s.heap.size)
  generalize hAe : va_A (wMa cA h L cd n na sb α cm mk) s.heap.size = A at hD ⊢
  have hA : ∀ q : Nat, s.heap.size ≤ q → A q := fun q h => by rw [← hAe]; exact Or.inr h
  have hS : va_S A s.heap s.heap [] := va_S.rf
  have hl := lv_entry ([.ref (h 0), .int (nI a), .int p]) (n := 4) (Nat.le_of_ble_eq_true rfl)
  rw [lg_entry_eq]
  generalize (lg_sl ([.ref (h 0), .int (nI a), .int p]) ++ List.replicate (4 - (lg_sl ([.ref (h 0), .int (nI a), .int p])).length) Slot.unset).toArray = ls at hl ⊢
  have hl : lv_has ls 4 [(0, .ref (h 0)), (1, .int (nI a)), (2, .int p)] := hl
  have hn31 := sx_INV_n hI
  have hn60 := hI.1.1.2
  have h1n := hI.1.1.1
  have hna := hI.1.2.1
  have hAc := sx_INV_A hI ha
  have hd12 := (sx_dN_ok hAc).1
  have hP : va_P D vwCl (wM cA h (nI L) cd (nI n) (nI na) (sx_bI sb) (α 1) (α 2) (α 3) cm (α 4) (α 5) (α 6) (α 7) (α 8) (α 9) (α 10) (α 11) (α 12) (α 13) (α 14) mk) s.heap := hP
  have hD : va_D A (wM cA h (nI L) cd (nI n) (nI na) (sx_bI sb) (α 1) (α 2) (α 3) cm (α 4) (α 5) (α 6) (α 7) (α 8) (α 9) (α 10) (α 11) (α 12) (α 13) (α 14) mk) := hD
  refine lv_aload_n hx hb d_M_remove_0 rfl (lv_at hl 0 rfl) ?_
  refine lv_iconst (v := nI 0) hx hb d_M_remove_1 (by decide +kernel) ?_
  refine va_put (D := D) (ci := 4) (v := .int (nI 0)) (ty := .int) (C := R_M) (T := T_M) (N := 21) hx hb hts iw_M t_M o_M n_M hown hK.1 hP hD hS 0 rfl rfl 1 (by decide) (hts _ wd_365) (fun _ h9 => h9) rfl (by decide +kernel) rfl rfl (Nat.le_of_ble_eq_true rfl) d_M_remove_2 (fun H locs hP hD hS => ?_)
  have hP : va_P D vwCl (wM cA h (nI L) (nI 0) (nI n) (nI na) (sx_bI sb) (α 1) (α 2) (α 3) cm (α 4) (α 5) (α 6) (α 7) (α 8) (α 9) (α 10) (α 11) (α 12) (α 13) (α 14) mk) H := hP
  have hD : va_D A (wM cA h (nI L) (nI 0) (nI n) (nI na) (sx_bI sb) (α 1) (α 2) (α 3) cm (α 4) (α 5) (α 6) (α 7) (α 8) (α 9) (α 10) (α 11) (α 12) (α 13) (α 14) mk) := hD
  refine lv_aload_n hx hb d_M_remove_5 rfl (lv_at hl 0 rfl) ?_
  refine lv_iload_n hx hb d_M_remove_6 rfl (lv_at hl 1 rfl) ?_
  refine lv_iload_n hx hb d_M_remove_7 rfl (lv_at hl 2 rfl) ?_
  refine lv_iconst (v := nI 0) hx hb d_M_remove_8 (by decide +kernel) ?_
  refine sx_asi (y := 0) rfl ?_
  rcases sx_may3 n L α a p 0 with hok | ⟨hok, heq⟩ | ⟨hok, hne⟩
  · refine vp_callSi (va_runV (As := [.int (nI a), .int p, .int 0]) (rest := []) ⟨hx, hb, hml, hown, hts⟩ (k_mayN l D cA h (nI 0) (sx_bI sb) (α 1) (α 2) (α 3) cm (α 4) (α 5) (α 7) (α 8) (α 9) (α 10) (α 11) (α 14) mk n na L α a (by omega) (by omega) p 0 hok) (cwV 3 hts (sx_GV wd_483 wd_485 ws_16 wd_5 wd_486) rfl rfl rfl (by decide +kernel) ⟨Nat.le_of_ble_eq_true rfl, Nat.le_of_ble_eq_true rfl⟩) (sx_preV hK hP (va_recv hK.1 hP (ci := 4) (q0 := 0) rfl rfl)) rfl rfl hl.1 rfl (lv_room (Nat.le_of_ble_eq_true rfl)) d_M_remove_9 ⟨Nat.le_of_ble_eq_true rfl, Nat.le_of_ble_eq_true rfl⟩).run (fun r_2 hr_1 => ?_)
    subst hr_1
    refine lv_istore_n (lv' := [(3, .int (-1)), (0, .ref (h 0)), (1, .int (nI a)), (2, .int p)]) hx hb d_M_remove_12 rfl hl (by decide) rfl (fun ls hl => ?_)
    refine lv_iload_n hx hb d_M_remove_13 rfl (lv_at hl 0 rfl) ?_
    refine lv_if_eq (tgt := 19) hx hb d_M_remove_14 (by decide) (fun c_3 => ?_) (fun c_3 => ?_)
    · exact absurd c_3 (by decide)
    · refine lv_iload_n hx hb d_M_remove_17 rfl (lv_at hl 0 rfl) ?_
      have z := sx_do_no (n := n) (L := L) (sb := sb) (ok := sx_rmO n α a p) (v := 0) hok
      have hP9 : va_P D vwCl (wMa cA h L (nI 0) n na sb (sx_do n L sb α a p 0 (sx_rmO n α a p) (0)) cm mk) H := by rw [z.2]; exact hP
      have hD9 : va_D A (wMa cA h L (nI 0) n na sb (sx_do n L sb α a p 0 (sx_rmO n α a p) (0)) cm mk) := by rw [z.2]; exact hD
      exact W.iret (v := (-1)) hx hb hr (fun t ht hW => ⟨⟨(-1), (), rfl, by rw [z.1], by rw [ht]; exact hP9, by rw [hAe]; exact hD9⟩, hS.F ht⟩) hS.2.2 d_M_remove_18
  · refine sx_calli (wr := []) (va_runV (As := [.int (nI a), .int p, .int 0]) (rest := []) ⟨hx, hb, hml, hown, hts⟩ (k_mayL l D cA H.size h (nI 0) (sx_bI sb) (α 1) (α 2) (α 3) cm (α 4) (α 5) (α 7) (α 8) (α 9) (α 10) (α 11) (α 14) mk n na L α a (by omega) (by omega) p 0 hok heq) (cwV 3 hts (sx_GV wd_483 wd_485 ws_16 wd_5 wd_486) rfl rfl rfl (by decide +kernel) ⟨Nat.le_of_ble_eq_true rfl, Nat.le_of_ble_eq_true rfl⟩) (sx_preVw hK hP hD (va_recv hK.1 hP (ci := 4) (q0 := 0) rfl rfl)) rfl rfl hl.1 rfl (lv_room (Nat.le_of_ble_eq_true rfl)) d_M_remove_9 ⟨Nat.le_of_ble_eq_true rfl, Nat.le_of_ble_eq_true rfl⟩) hP hD hS hA [0, 1, 2, 3, 4, 5, 6, 7, 8, 9, 10, 11, 12, 13, 14, 15, 16] [] rfl rfl (by decide) (by decide) (fun r_5 u_6 H locs hr_4 hP hD hS => ?_)
    have hP : va_P D vwCl (wM cA h (nI L) (nI 0) (nI n) (nI na) (sx_bI sb) (α 1) (α 2) (α 3) cm (α 4) (α 5) (α 6) (α 7) (α 8) (α 9) (α 10) (α 11) (α 12) (upd (α 13) a (nI 1)) (α 14) mk) H := hP.sub [0, 1, 2, 3, 4, 5, 6, 7, 8, 9, 10, 11, 12, 13, 14, 15, 16] rfl
    have hD : va_D A (wM cA h (nI L) (nI 0) (nI n) (nI na) (sx_bI sb) (α 1) (α 2) (α 3) cm (α 4) (α 5) (α 6) (α 7) (α 8) (α 9) (α 10) (α 11) (α 12) (upd (α 13) a (nI 1)) (α 14) mk) := hD.sub [0, 1, 2, 3, 4, 5, 6, 7, 8, 9, 10, 11, 12, 13, 14, 15, 16] (by decide) rfl
    subst hr_4
    refine lv_istore_n (lv' := [(3, .int (-9)), (0, .ref (h 0)), (1, .int (nI a)), (2, .int p)]) hx hb d_M_remove_12 rfl hl (by decide) rfl (fun ls hl => ?_)
    refine lv_iload_n hx hb d_M_remove_13 rfl (lv_at hl 0 rfl) ?_
    refine lv_if_eq (tgt := 19) hx hb d_M_remove_14 (by decide) (fun c_7 => ?_) (fun c_7 => ?_)
    · exact absurd c_7 (by decide)
    · refine lv_iload_n hx hb d_M_remove_17 rfl (lv_at hl 0 rfl) ?_
      have z := sx_do_lim (n := n) (L := L) (sb := sb) (ok := sx_rmO n α a p) (v := 0) hok heq
      have hP9 : va_P D vwCl (wMa cA h L (nI 0) n na sb (sx_do n L sb α a p 0 (sx_rmO n α a p) (0)) cm mk) H := by rw [z.2, sx_M_lim]; exact hP
      have hD9 : va_D A (wMa cA h L (nI 0) n na sb (sx_do n L sb α a p 0 (sx_rmO n α a p) (0)) cm mk) := by rw [z.2, sx_M_lim]; exact hD
      exact W.iret (v := (-9)) hx hb hr (fun t ht hW => ⟨⟨(-9), (), rfl, by rw [z.1], by rw [ht]; exact hP9, by rw [hAe]; exact hD9⟩, hS.F ht⟩) hS.2.2 d_M_remove_18
  · obtain ⟨j, hj, rfl⟩ := sx_has_t (by omega) (sx_ok_hp hok)
    refine sx_calli (wr := []) (va_runV (As := [.int (nI a), .int (nI j), .int 0]) (rest := []) ⟨hx, hb, hml, hown, hts⟩ (k_mayY l D cA H.size h (nI 0) (sx_bI sb) (α 1) (α 2) (α 3) cm (α 4) (α 5) (α 7) (α 8) (α 9) (α 10) (α 11) (α 14) mk n na L α a (by omega) (by omega) (nI j) 0 hok hne) (cwV 3 hts (sx_GV wd_483 wd_485 ws_16 wd_5 wd_486) rfl rfl rfl (by decide +kernel) ⟨Nat.le_of_ble_eq_true rfl, Nat.le_of_ble_eq_true rfl⟩) (sx_preVw hK hP hD (va_recv hK.1 hP (ci := 4) (q0 := 0) rfl rfl)) rfl rfl hl.1 rfl (lv_room (Nat.le_of_ble_eq_true rfl)) d_M_remove_9 ⟨Nat.le_of_ble_eq_true rfl, Nat.le_of_ble_eq_true rfl⟩) hP hD hS hA [0, 1, 2, 3, 4, 5, 6, 7, 8, 9, 10, 11, 12, 13, 14, 15, 16] [] rfl rfl (by decide) (by decide) (fun r_9 u_10 H locs hr_8 hP hD hS => ?_)
    have hP : va_P D vwCl (wM cA h (nI L) (nI 0) (nI n) (nI na) (sx_bI sb) (α 1) (α 2) (α 3) cm (α 4) (α 5) (upd (α 6) a ((α 6) a + 1)) (α 7) (α 8) (α 9) (α 10) (α 11) (α 12) (α 13) (α 14) mk) H := hP.sub [0, 1, 2, 3, 4, 5, 6, 7, 8, 9, 10, 11, 12, 13, 14, 15, 16] rfl
    have hD : va_D A (wM cA h (nI L) (nI 0) (nI n) (nI na) (sx_bI sb) (α 1) (α 2) (α 3) cm (α 4) (α 5) (upd (α 6) a ((α 6) a + 1)) (α 7) (α 8) (α 9) (α 10) (α 11) (α 12) (α 13) (α 14) mk) := hD.sub [0, 1, 2, 3, 4, 5, 6, 7, 8, 9, 10, 11, 12, 13, 14, 15, 16] (by decide) rfl
    subst hr_8
    refine lv_istore_n (lv' := [(3, .int (nI 0)), (0, .ref (h 0)), (1, .int (nI a)), (2, .int (nI j))]) hx hb d_M_remove_12 rfl hl (by decide) rfl (fun ls hl => ?_)
    refine lv_iload_n hx hb d_M_remove_13 rfl (lv_at hl 0 rfl) ?_
    refine lv_if_eq (tgt := 19) hx hb d_M_remove_14 (by decide) (fun c_11 => ?_) (fun c_11 => ?_)
    · refine lv_aload_n hx hb d_M_remove_19 rfl (lv_at hl 1 rfl) ?_
      refine lv_iload_n hx hb d_M_remove_20 rfl (lv_at hl 2 rfl) ?_
      refine lv_iload_n hx hb d_M_remove_21 rfl (lv_at hl 3 rfl) ?_
      refine vp_callSi (va_runV (As := [.int (nI a), .int (nI j)]) (rest := []) ⟨hx, hb, hml, hown, hts⟩ (k_isWr l D cA h (nI L) (nI 0) (nI na) (sx_bI sb) (α 3) cm (upd (α 6) a ((α 6) a + 1)) (α 7) (α 8) (α 9) (α 10) (α 12) (α 13) (α 14) mk n α na L hI a (by omega) j (by omega)) (cwV 2 hts (sx_GV wd_502 wd_504 ws_19 wd_5 wd_505) rfl rfl rfl (by decide +kernel) ⟨Nat.le_of_ble_eq_true rfl, Nat.le_of_ble_eq_true rfl⟩) (sx_preV hK hP (va_recv hK.1 hP (ci := 4) (q0 := 0) rfl rfl)) rfl rfl hl.1 rfl (lv_room (Nat.le_of_ble_eq_true rfl)) d_M_remove_22 ⟨Nat.le_of_ble_eq_true rfl, Nat.le_of_ble_eq_true rfl⟩).run (fun r_13 hr_12 => ?_)
      subst hr_12
      refine lv_if_eq (tgt := 37) hx hb d_M_remove_25 (by decide) (fun c_14 => ?_) (fun c_14 => ?_)
      · have c_14 : (sx_isW n α a j) = false := sx_bI0 c_14
        refine lv_aload_n hx hb d_M_remove_37 rfl (lv_at hl 1 rfl) ?_
        refine lv_iload_n hx hb d_M_remove_38 rfl (lv_at hl 2 rfl) ?_
        refine sx_calli (wr := []) (va_runV (As := [.int (nI a)]) (rest := []) ⟨hx, hb, hml, hown, hts⟩ (k_refM l D cA H.size h (nI L) (nI 0) (nI na) (α 1) (α 2) (α 3) cm (α 4) (α 5) (upd (α 6) a ((α 6) a + 1)) (α 7) (α 8) (α 9) (α 10) (α 11) (α 12) (α 13) (α 14) mk n sb α a (by omega)) (cwV 1 hts (sx_GV wd_510 wd_512 ws_21 wd_5 wd_513) rfl rfl rfl (by decide +kernel) ⟨Nat.le_of_ble_eq_true rfl, Nat.le_of_ble_eq_true rfl⟩) (sx_preVw hK hP hD (va_recv hK.1 hP (ci := 4) (q0 := 0) rfl rfl)) rfl rfl hl.1 rfl (lv_room (Nat.le_of_ble_eq_true rfl)) d_M_remove_39 ⟨Nat.le_of_ble_eq_true rfl, Nat.le_of_ble_eq_true rfl⟩) hP hD hS hA [0, 1, 2, 3, 4, 5, 6, 7, 8, 9, 10, 11, 12, 13, 14, 15, 16] [] rfl rfl (by decide) (by decide) (fun r_16 u_17 H locs hr_15 hP hD hS => ?_)
        have hP : va_P D vwCl (wM cA h (nI L) (nI 0) (nI n) (nI na) (sx_bI sb) (α 1) (α 2) (α 3) cm (α 4) (α 5) (upd (α 6) a ((α 6) a + 1)) (upd (α 7) a ((α 7) a + 1)) (α 8) (α 9) (α 10) (α 11) (α 12) (upd (α 13) a (sx_bI (!decide ((α 13) a = 0) || sb))) (α 14) mk) H := hP.sub [0, 1, 2, 3, 4, 5, 6, 7, 8, 9, 10, 11, 12, 13, 14, 15, 16] rfl
        have hD : va_D A (wM cA h (nI L) (nI 0) (nI n) (nI na) (sx_bI sb) (α 1) (α 2) (α 3) cm (α 4) (α 5) (upd (α 6) a ((α 6) a + 1)) (upd (α 7) a ((α 7) a + 1)) (α 8) (α 9) (α 10) (α 11) (α 12) (upd (α 13) a (sx_bI (!decide ((α 13) a = 0) || sb))) (α 14) mk) := hD.sub [0, 1, 2, 3, 4, 5, 6, 7, 8, 9, 10, 11, 12, 13, 14, 15, 16] (by decide) rfl
        subst hr_15
        have z := sx_do_ref (n := n) (L := L) (sb := sb) (ok := sx_rmO n α a (nI j)) (v := 0) hok hne (by unfold sx_rmO; rw [nI_clamp (show j < 2 ^ 31 by omega), c_14]; rfl)
        have hP9 : va_P D vwCl (wMa cA h L (nI 0) n na sb (sx_do n L sb α a (nI j) 0 (sx_rmO n α a (nI j)) (0)) cm mk) H := by rw [z.2, sx_M_ref]; exact hP
        have hD9 : va_D A (wMa cA h L (nI 0) n na sb (sx_do n L sb α a (nI j) 0 (sx_rmO n α a (nI j)) (0)) cm mk) := by rw [z.2, sx_M_ref]; exact hD
        exact W.iret (v := nI 0) hx hb hr (fun t ht hW => ⟨⟨nI 0, (), rfl, by rw [z.1], by rw [ht]; exact hP9, by rw [hAe]; exact hD9⟩, hS.F ht⟩) hS.2.2 d_M_remove_42
      · have c_14 : (sx_isW n α a j) = true := sx_bIn c_14
        refine lv_aload_n hx hb d_M_remove_28 rfl (lv_at hl 1 rfl) ?_
        refine lv_iload_n hx hb d_M_remove_29 rfl (lv_at hl 2 rfl) ?_
        refine lv_iload_n hx hb d_M_remove_30 rfl (lv_at hl 3 rfl) ?_
        refine vp_callSi (va_runV (As := [.int (nI a), .int (nI j)]) (rest := []) ⟨hx, hb, hml, hown, hts⟩ (k_at l D cA h (nI L) (nI 0) (nI na) (sx_bI sb) (α 1) (α 2) (α 3) cm (α 4) (α 5) (upd (α 6) a ((α 6) a + 1)) (α 7) (α 8) (α 9) (α 10) (α 11) (α 12) (α 13) (α 14) mk n α a j (by omega) (by omega)) (cwV 2 hts (sx_GV wd_491 wd_493 ws_18 wd_5 wd_494) rfl rfl rfl (by decide +kernel) ⟨Nat.le_of_ble_eq_true rfl, Nat.le_of_ble_eq_true rfl⟩) (sx_preV hK hP (va_recv hK.1 hP (ci := 4) (q0 := 0) rfl rfl)) rfl rfl hl.1 rfl (lv_room (Nat.le_of_ble_eq_true rfl)) d_M_remove_31 ⟨Nat.le_of_ble_eq_true rfl, Nat.le_of_ble_eq_true rfl⟩).run (fun r_19 hr_18 => ?_)
        subst hr_18
        refine lv_if_ne (tgt := 43) hx hb d_M_remove_34 (by decide) (fun c_20 => ?_) (fun c_20 => ?_)
        · refine lv_aload_n hx hb d_M_remove_43 rfl (lv_at hl 1 rfl) ?_
          refine va_get (D := D) (ci := 4) (v := .ref (h 11)) (C := R_M) (T := T_M) (N := 21) hx hb hts iw_M hown hK.1 hP 0 rfl rfl 15 (by decide) (hts _ wd_379) (fun _ h9 => h9) rfl d_M_remove_44 ?_
          refine lv_bipush (v := nI 60) hx hb d_M_remove_47 (by decide +kernel) ?_
          refine lv_iload_n hx hb d_M_remove_49 rfl (lv_at hl 2 rfl) ?_
          refine lv_imul hx hb d_M_remove_50 ?_
          refine sx_asi (y := nI (60 * a)) (pk_mul 60 a) ?_
          refine lv_iload_n hx hb d_M_remove_51 rfl (lv_at hl 3 rfl) ?_
          refine lv_iadd hx hb d_M_remove_52 ?_
          refine sx_asi (y := nI (60 * a + j)) (nI_add (60 * a) j) ?_
          refine lv_iconst (v := nI 0) hx hb d_M_remove_53 (by decide +kernel) ?_
          refine sx_asi (y := 0) rfl ?_
          refine va_iast hx hb hK.1 hP hD hS 11 0 rfl rfl (vp_in_nI (by omega) (by decide)) d_M_remove_54 (fun H locs hP hD hS => ?_)
          rw [nI_clamp (by omega)] at hP hD
          have hP : va_P D vwCl (wM cA h (nI L) (nI 0) (nI n) (nI na) (sx_bI sb) (α 1) (α 2) (α 3) cm (α 4) (α 5) (upd (α 6) a ((α 6) a + 1)) (α 7) (α 8) (α 9) (upd (α 10) (60 * a + j) 0) (α 11) (α 12) (α 13) (α 14) mk) H := hP
          have hD : va_D A (wM cA h (nI L) (nI 0) (nI n) (nI na) (sx_bI sb) (α 1) (α 2) (α 3) cm (α 4) (α 5) (upd (α 6) a ((α 6) a + 1)) (α 7) (α 8) (α 9) (upd (α 10) (60 * a + j) 0) (α 11) (α 12) (α 13) (α 14) mk) := hD
          refine lv_iconst (v := nI 1) hx hb d_M_remove_55 (by decide +kernel) ?_
          have z := sx_do_yes (n := n) (L := L) (sb := sb) (ok := sx_rmO n α a (nI j)) (v := 0) (by omega) hok hne (by unfold sx_rmO; rw [nI_clamp (show j < 2 ^ 31 by omega), c_14, decide_eq_false c_20]; rfl)
          have hP9 : va_P D vwCl (wMa cA h L (nI 0) n na sb (sx_do n L sb α a (nI j) 0 (sx_rmO n α a (nI j)) (0)) cm mk) H := by rw [z.2, sx_M_put]; exact hP
          have hD9 : va_D A (wMa cA h L (nI 0) n na sb (sx_do n L sb α a (nI j) 0 (sx_rmO n α a (nI j)) (0)) cm mk) := by rw [z.2, sx_M_put]; exact hD
          exact W.iret (v := nI 1) hx hb hr (fun t ht hW => ⟨⟨nI 1, (), rfl, by rw [z.1], by rw [ht]; exact hP9, by rw [hAe]; exact hD9⟩, hS.F ht⟩) hS.2.2 d_M_remove_56
        · refine lv_aload_n hx hb d_M_remove_37 rfl (lv_at hl 1 rfl) ?_
          refine lv_iload_n hx hb d_M_remove_38 rfl (lv_at hl 2 rfl) ?_
          refine sx_calli (wr := []) (va_runV (As := [.int (nI a)]) (rest := []) ⟨hx, hb, hml, hown, hts⟩ (k_refM l D cA H.size h (nI L) (nI 0) (nI na) (α 1) (α 2) (α 3) cm (α 4) (α 5) (upd (α 6) a ((α 6) a + 1)) (α 7) (α 8) (α 9) (α 10) (α 11) (α 12) (α 13) (α 14) mk n sb α a (by omega)) (cwV 1 hts (sx_GV wd_510 wd_512 ws_21 wd_5 wd_513) rfl rfl rfl (by decide +kernel) ⟨Nat.le_of_ble_eq_true rfl, Nat.le_of_ble_eq_true rfl⟩) (sx_preVw hK hP hD (va_recv hK.1 hP (ci := 4) (q0 := 0) rfl rfl)) rfl rfl hl.1 rfl (lv_room (Nat.le_of_ble_eq_true rfl)) d_M_remove_39 ⟨Nat.le_of_ble_eq_true rfl, Nat.le_of_ble_eq_true rfl⟩) hP hD hS hA [0, 1, 2, 3, 4, 5, 6, 7, 8, 9, 10, 11, 12, 13, 14, 15, 16] [] rfl rfl (by decide) (by decide) (fun r_22 u_23 H locs hr_21 hP hD hS => ?_)
          have hP : va_P D vwCl (wM cA h (nI L) (nI 0) (nI n) (nI na) (sx_bI sb) (α 1) (α 2) (α 3) cm (α 4) (α 5) (upd (α 6) a ((α 6) a + 1)) (upd (α 7) a ((α 7) a + 1)) (α 8) (α 9) (α 10) (α 11) (α 12) (upd (α 13) a (sx_bI (!decide ((α 13) a = 0) || sb))) (α 14) mk) H := hP.sub [0, 1, 2, 3, 4, 5, 6, 7, 8, 9, 10, 11, 12, 13, 14, 15, 16] rfl
          have hD : va_D A (wM cA h (nI L) (nI 0) (nI n) (nI na) (sx_bI sb) (α 1) (α 2) (α 3) cm (α 4) (α 5) (upd (α 6) a ((α 6) a + 1)) (upd (α 7) a ((α 7) a + 1)) (α 8) (α 9) (α 10) (α 11) (α 12) (upd (α 13) a (sx_bI (!decide ((α 13) a = 0) || sb))) (α 14) mk) := hD.sub [0, 1, 2, 3, 4, 5, 6, 7, 8, 9, 10, 11, 12, 13, 14, 15, 16] (by decide) rfl
          subst hr_21
          have z := sx_do_ref (n := n) (L := L) (sb := sb) (ok := sx_rmO n α a (nI j)) (v := 0) hok hne (by unfold sx_rmO; rw [nI_clamp (show j < 2 ^ 31 by omega), decide_eq_true c_20]; simp)
          have hP9 : va_P D vwCl (wMa cA h L (nI 0) n na sb (sx_do n L sb α a (nI j) 0 (sx_rmO n α a (nI j)) (0)) cm mk) H := by rw [z.2, sx_M_ref]; exact hP
          have hD9 : va_D A (wMa cA h L (nI 0) n na sb (sx_do n L sb α a (nI j) 0 (sx_rmO n α a (nI j)) (0)) cm mk) := by rw [z.2, sx_M_ref]; exact hD
          exact W.iret (v := nI 0) hx hb hr (fun t ht hW => ⟨⟨nI 0, (), rfl, by rw [z.1], by rw [ht]; exact hP9, by rw [hAe]; exact hD9⟩, hS.F ht⟩) hS.2.2 d_M_remove_42
    · exact absurd rfl c_11

set_option maxHeartbeats 4000000 in
set_option maxRecDepth 100000 in
theorem m_list (l : Launch) (D : va_G) (cA : Nat → ClassId) (sz : Nat) (h : Nat → Nat) (L : Nat) (cd : Int32) (n na : Nat) (sb : Bool) (α : sx_A) (cm mk : Nat → Int32) (hI : sx_INV n na L α) (a : Nat) (ha : a < na) (p ii : Int32) : Met l y_M_list w_M_list ({ frames := 2, cells := 0, slots := 0, locals := 47 }) (sx_Pw D cA [.ref (h 0), .int (nI a), .int p, .int ii] (wMa cA h L cd n na sb α cm mk) sz) (va_Qi (fun r (_ : Unit) => r = sx_listA n L α a p ii) (sx_Bw D (wMa cA h L cd n na sb α cm mk) sz (fun _ => wMa cA h L (nI 0) n na sb (sx_mayS n L α a p 0) cm mk)) (va_A (wMa cA h L cd n na sb α cm mk) sz)) 0 0 (va_A (wMa cA h L cd n na sb α cm mk) sz) := by
  refine Met.ofW (cc := b_M_list) (maxL := 8) (ret := (some .int)) (by decide) rfl ?_
  intro pG eG s m args below meth cG s₁ B hml hv
  obtain ⟨rfl, hsz, hP, hK, hD0⟩ := hv
  have hx := B.exec
  have hb := B.bytes
  have hr := B.returns
  have hts0 := atoms_spec (ws := w_M_list) B.pre
  have hts : ∀ w ∈ sx_gw, w.before _ s = true := fun w h => hts0 w (List.mem_cons_of_mem _ h)
  have hown : s.vm.findClass R_M = some m.cls := findClass_of_methodNamed B.named
  have hlocks := B.notSynchronized
  subst hsz
  have hD := hD0.self (sz := s.heap.size)
  generalize hAe : va_A (wMa cA h L cd n na sb α cm mk) s.heap.size = A at hD ⊢
  have hA : ∀ q : Nat, s.heap.size ≤ q → A q := fun q h => by rw [← hAe]; exact Or.inr h
  have hS : va_S A s.heap s.heap [] := va_S.rf
  have hl := lv_entry ([.ref (h 0), .int (nI a), .int p, .int ii]) (n := 8) (Nat.le_of_ble_eq_true rfl)
  rw [lg_entry_eq]
  generalize (lg_sl ([.ref (h 0), .int (nI a), .int p, .int ii]) ++ List.replicate (8 - (lg_sl ([.ref (h 0), .int (nI a), .int p, .int ii])).length) Slot.unset).toArray = ls at hl ⊢
  have hl : lv_has ls 8 [(0, .ref (h 0)), (1, .int (nI a)), (2, .int p), (3, .int ii)] := hl
  have hn31 := sx_INV_n hI
  have hn60 := hI.1.1.2
  have h1n := hI.1.1.1
  have hna := hI.1.2.1
  have hAc := sx_INV_A hI ha
  have hd12 := (sx_dN_ok hAc).1
  have hP : va_P D vwCl (wM cA h (nI L) cd (nI n) (nI na) (sx_bI sb) (α 1) (α 2) (α 3) cm (α 4) (α 5) (α 6) (α 7) (α 8) (α 9) (α 10) (α 11) (α 12) (α 13) (α 14) mk) s.heap := hP
  have hD : va_D A (wM cA h (nI L) cd (nI n) (nI na) (sx_bI sb) (α 1) (α 2) (α 3) cm (α 4) (α 5) (α 6) (α 7) (α 8) (α 9) (α 10) (α 11) (α 12) (α 13) (α 14) mk) := hD
  refine lv_aload_n hx hb d_M_list_0 rfl (lv_at hl 0 rfl) ?_
  refine lv_iconst (v := nI 0) hx hb d_M_list_1 (by decide +kernel) ?_
  refine va_put (D := D) (ci := 4) (v := .int (nI 0)) (ty := .int) (C := R_M) (T := T_M) (N := 21) hx hb hts iw_M t_M o_M n_M hown hK.1 hP hD hS 0 rfl rfl 1 (by decide) (hts _ wd_365) (fun _ h9 => h9) rfl (by decide +kernel) rfl rfl (Nat.le_of_ble_eq_true rfl) d_M_list_2 (fun H locs hP hD hS => ?_)
  have hP : va_P D vwCl (wM cA h (nI L) (nI 0) (nI n) (nI na) (sx_bI sb) (α 1) (α 2) (α 3) cm (α 4) (α 5) (α 6) (α 7) (α 8) (α 9) (α 10) (α 11) (α 12) (α 13) (α 14) mk) H := hP
  have hD : va_D A (wM cA h (nI L) (nI 0) (nI n) (nI na) (sx_bI sb) (α 1) (α 2) (α 3) cm (α 4) (α 5) (α 6) (α 7) (α 8) (α 9) (α 10) (α 11) (α 12) (α 13) (α 14) mk) := hD
  refine lv_aload_n hx hb d_M_list_5 rfl (lv_at hl 0 rfl) ?_
  refine lv_iload_n hx hb d_M_list_6 rfl (lv_at hl 1 rfl) ?_
  refine lv_iload_n hx hb d_M_list_7 rfl (lv_at hl 2 rfl) ?_
  refine lv_iconst (v := nI 0) hx hb d_M_list_8 (by decide +kernel) ?_
  refine sx_asi (y := 0) rfl ?_
  rcases sx_may3 n L α a p 0 with hok | ⟨hok, heq⟩ | ⟨hok, hne⟩
  · refine vp_callSi (va_runV (As := [.int (nI a), .int p, .int 0]) (rest := []) ⟨hx, hb, hml, hown, hts⟩ (k_mayN l D cA h (nI 0) (sx_bI sb) (α 1) (α 2) (α 3) cm (α 4) (α 5) (α 7) (α 8) (α 9) (α 10) (α 11) (α 14) mk n na L α a (by omega) (by omega) p 0 hok) (cwV 3 hts (sx_GV wd_483 wd_485 ws_16 wd_5 wd_486) rfl rfl rfl (by decide +kernel) ⟨Nat.le_of_ble_eq_true rfl, Nat.le_of_ble_eq_true rfl⟩) (sx_preV hK hP (va_recv hK.1 hP (ci := 4) (q0 := 0) rfl rfl)) rfl rfl hl.1 rfl (lv_room (Nat.le_of_ble_eq_true rfl)) d_M_list_9 ⟨Nat.le_of_ble_eq_true rfl, Nat.le_of_ble_eq_true rfl⟩).run (fun r_2 hr_1 => ?_)
    subst hr_1
    refine lv_istore (lv' := [(4, .int (-1)), (0, .ref (h 0)), (1, .int (nI a)), (2, .int p), (3, .int ii)]) hx hb d_M_list_12 hl (by decide) rfl (fun ls hl => ?_)
    refine lv_iload hx hb d_M_list_14 (lv_at hl 0 rfl) ?_
    refine lv_if_eq (tgt := 22) hx hb d_M_list_16 (by decide) (fun c_3 => ?_) (fun c_3 => ?_)
    · exact absurd c_3 (by decide)
    · refine lv_iload hx hb d_M_list_19 (lv_at hl 0 rfl) ?_
      have z := sx_list_no (n := n) (L := L) (i := ii) hok
      have hP9 : va_P D vwCl (wMa cA h L (nI 0) n na sb (sx_mayS n L α a p 0) cm mk) H := by rw [z.2]; exact hP
      have hD9 : va_D A (wMa cA h L (nI 0) n na sb (sx_mayS n L α a p 0) cm mk) := by rw [z.2]; exact hD
      exact W.iret (v := (-1)) hx hb hr (fun t ht hW => ⟨⟨(-1), (), rfl, by rw [z.1], by rw [ht]; exact hP9, by rw [hAe]; exact hD9⟩, hS.F ht⟩) hS.2.2 d_M_list_21
  · refine sx_calli (wr := []) (va_runV (As := [.int (nI a), .int p, .int 0]) (rest := []) ⟨hx, hb, hml, hown, hts⟩ (k_mayL l D cA H.size h (nI 0) (sx_bI sb) (α 1) (α 2) (α 3) cm (α 4) (α 5) (α 7) (α 8) (α 9) (α 10) (α 11) (α 14) mk n na L α a (by omega) (by omega) p 0 hok heq) (cwV 3 hts (sx_GV wd_483 wd_485 ws_16 wd_5 wd_486) rfl rfl rfl (by decide +kernel) ⟨Nat.le_of_ble_eq_true rfl, Nat.le_of_ble_eq_true rfl⟩) (sx_preVw hK hP hD (va_recv hK.1 hP (ci := 4) (q0 := 0) rfl rfl)) rfl rfl hl.1 rfl (lv_room (Nat.le_of_ble_eq_true rfl)) d_M_list_9 ⟨Nat.le_of_ble_eq_true rfl, Nat.le_of_ble_eq_true rfl⟩) hP hD hS hA [0, 1, 2, 3, 4, 5, 6, 7, 8, 9, 10, 11, 12, 13, 14, 15, 16] [] rfl rfl (by decide) (by decide) (fun r_5 u_6 H locs hr_4 hP hD hS => ?_)
    have hP : va_P D vwCl (wM cA h (nI L) (nI 0) (nI n) (nI na) (sx_bI sb) (α 1) (α 2) (α 3) cm (α 4) (α 5) (α 6) (α 7) (α 8) (α 9) (α 10) (α 11) (α 12) (upd (α 13) a (nI 1)) (α 14) mk) H := hP.sub [0, 1, 2, 3, 4, 5, 6, 7, 8, 9, 10, 11, 12, 13, 14, 15, 16] rfl
    have hD : va_D A (wM cA h (nI L) (nI 0) (nI n) (nI na) (sx_bI sb) (α 1) (α 2) (α 3) cm (α 4) (α 5) (α 6) (α 7) (α 8) (α 9) (α 10) (α 11) (α 12) (upd (α 13) a (nI 1)) (α 14) mk) := hD.sub [0, 1, 2, 3, 4, 5, 6, 7, 8, 9, 10, 11, 12, 13, 14, 15, 16] (by decide) rfl
    subst hr_4
    refine lv_istore (lv' := [(4, .int (-9)), (0, .ref (h 0)), (1, .int (nI a)), (2, .int p), (3, .int ii)]) hx hb d_M_list_12 hl (by decide) rfl (fun ls hl => ?_)
    refine lv_iload hx hb d_M_list_14 (lv_at hl 0 rfl) ?_
    refine lv_if_eq (tgt := 22) hx hb d_M_list_16 (by decide) (fun c_7 => ?_) (fun c_7 => ?_)
    · exact absurd c_7 (by decide)
    · refine lv_iload hx hb d_M_list_19 (lv_at hl 0 rfl) ?_
      have z := sx_list_lim (n := n) (L := L) (i := ii) hok heq
      have hP9 : va_P D vwCl (wMa cA h L (nI 0) n na sb (sx_mayS n L α a p 0) cm mk) H := by rw [z.2, sx_M_lim]; exact hP
      have hD9 : va_D A (wMa cA h L (nI 0) n na sb (sx_mayS n L α a p 0) cm mk) := by rw [z.2, sx_M_lim]; exact hD
      exact W.iret (v := (-9)) hx hb hr (fun t ht hW => ⟨⟨(-9), (), rfl, by rw [z.1], by rw [ht]; exact hP9, by rw [hAe]; exact hD9⟩, hS.F ht⟩) hS.2.2 d_M_list_21
  · obtain ⟨j, hj, rfl⟩ := sx_has_t (by omega) (sx_ok_hp hok)
    refine sx_calli (wr := []) (va_runV (As := [.int (nI a), .int (nI j), .int 0]) (rest := []) ⟨hx, hb, hml, hown, hts⟩ (k_mayY l D cA H.size h (nI 0) (sx_bI sb) (α 1) (α 2) (α 3) cm (α 4) (α 5) (α 7) (α 8) (α 9) (α 10) (α 11) (α 14) mk n na L α a (by omega) (by omega) (nI j) 0 hok hne) (cwV 3 hts (sx_GV wd_483 wd_485 ws_16 wd_5 wd_486) rfl rfl rfl (by decide +kernel) ⟨Nat.le_of_ble_eq_true rfl, Nat.le_of_ble_eq_true rfl⟩) (sx_preVw hK hP hD (va_recv hK.1 hP (ci := 4) (q0 := 0) rfl rfl)) rfl rfl hl.1 rfl (lv_room (Nat.le_of_ble_eq_true rfl)) d_M_list_9 ⟨Nat.le_of_ble_eq_true rfl, Nat.le_of_ble_eq_true rfl⟩) hP hD hS hA [0, 1, 2, 3, 4, 5, 6, 7, 8, 9, 10, 11, 12, 13, 14, 15, 16] [] rfl rfl (by decide) (by decide) (fun r_9 u_10 H locs hr_8 hP hD hS => ?_)
    have hP : va_P D vwCl (wM cA h (nI L) (nI 0) (nI n) (nI na) (sx_bI sb) (α 1) (α 2) (α 3) cm (α 4) (α 5) (upd (α 6) a ((α 6) a + 1)) (α 7) (α 8) (α 9) (α 10) (α 11) (α 12) (α 13) (α 14) mk) H := hP.sub [0, 1, 2, 3, 4, 5, 6, 7, 8, 9, 10, 11, 12, 13, 14, 15, 16] rfl
    have hD : va_D A (wM cA h (nI L) (nI 0) (nI n) (nI na) (sx_bI sb) (α 1) (α 2) (α 3) cm (α 4) (α 5) (upd (α 6) a ((α 6) a + 1)) (α 7) (α 8) (α 9) (α 10) (α 11) (α 12) (α 13) (α 14) mk) := hD.sub [0, 1, 2, 3, 4, 5, 6, 7, 8, 9, 10, 11, 12, 13, 14, 15, 16] (by decide) rfl
    subst hr_8
    refine lv_istore (lv' := [(4, .int (nI 0)), (0, .ref (h 0)), (1, .int (nI a)), (2, .int (nI j)), (3, .int ii)]) hx hb d_M_list_12 hl (by decide) rfl (fun ls hl => ?_)
    refine lv_iload hx hb d_M_list_14 (lv_at hl 0 rfl) ?_
    refine lv_if_eq (tgt := 22) hx hb d_M_list_16 (by decide) (fun c_11 => ?_) (fun c_11 => ?_)
    · refine lv_iload_n hx hb d_M_list_22 rfl (lv_at hl 4 rfl) ?_
      refine lv_istore (lv' := [(5, .int ii), (4, .int (nI 0)), (0, .ref (h 0)), (1, .int (nI a)), (2, .int (nI j)), (3, .int ii)]) hx hb d_M_list_23 hl (by decide) rfl (fun ls hl => ?_)
      refine lv_bipush (v := nI 65) hx hb d_M_list_25 (by decide +kernel) ?_
      refine lv_istore (lv' := [(6, .int (nI 65)), (5, .int ii), (4, .int (nI 0)), (0, .ref (h 0)), (1, .int (nI a)), (2, .int (nI j)), (3, .int ii)]) hx hb d_M_list_27 hl (by decide) rfl (fun ls hl => ?_)
      refine sx_loop (σ := Nat × Int32) (fun x => 65 ≤ x.1 ∧ x.1 ≤ 123 ∧ sx_pick (sx_lq n α a (nI j)) 58 65 ii = sx_pick (sx_lq n α a (nI j)) (123 - x.1) x.1 x.2) (fun x => [(6, .int (nI x.1)), (5, .int x.2), (0, .ref (h 0)), (1, .int (nI a)), (2, .int (nI j)), (3, .int ii)]) (fun x => 123 - x.1) (65, ii) (⟨by omega, by omega, rfl⟩) (lv_sub hl [0, 1, 3, 4, 5, 6] rfl) (fun x hJ ih ls hl => ?_)
      obtain ⟨c, left⟩ := x
      obtain ⟨hc1, hc2, hpk⟩ := hJ
      have hl : lv_has ls 8 [(6, .int (nI c)), (5, .int left), (0, .ref (h 0)), (1, .int (nI a)), (2, .int (nI j)), (3, .int ii)] := hl
      have ih_29 := ih
      refine lv_iload hx hb d_M_list_29 (lv_at hl 0 rfl) ?_
      refine lv_bipush (v := nI 122) hx hb d_M_list_31 (by decide +kernel) ?_
      refine lv_icmp_gt (tgt := 81) hx hb d_M_list_33 (by decide) (fun c_12 => ?_) (fun c_12 => ?_)
      · have c_12 : 122 < c := (nI_ltI (by decide) (by omega)).mp c_12
        refine lv_iconst (v := nI 0) hx hb d_M_list_81 (by decide +kernel) ?_
        have z := sx_list_go (n := n) (L := L) (i := ii) hok hne
        have hP9 : va_P D vwCl (wMa cA h L (nI 0) n na sb (sx_mayS n L α a (nI j) 0) cm mk) H := by rw [z.2, sx_M_op]; exact hP
        have hD9 : va_D A (wMa cA h L (nI 0) n na sb (sx_mayS n L α a (nI j) 0) cm mk) := by rw [z.2, sx_M_op]; exact hD
        exact W.iret (v := nI 0) hx hb hr (fun t ht hW => ⟨⟨nI 0, (), rfl, (by rw [z.1, hpk, show 123 - c = 0 by omega]; rfl), by rw [ht]; exact hP9, by rw [hAe]; exact hD9⟩, hS.F ht⟩) hS.2.2 d_M_list_82
      · have c_12 : c ≤ 122 := Nat.not_lt.mp (fun z => c_12 ((nI_ltI (by decide) (by omega)).mpr z))
        refine lv_aload_n hx hb d_M_list_36 rfl (lv_at hl 2 rfl) ?_
        refine lv_iload_n hx hb d_M_list_37 rfl (lv_at hl 4 rfl) ?_
        refine lv_iload hx hb d_M_list_38 (lv_at hl 0 rfl) ?_
        refine vp_callSi (va_runV (As := [.int (nI j), .int (nI c)]) (rest := []) ⟨hx, hb, hml, hown, hts⟩ (k_child l D cA h (nI L) (nI 0) (nI na) (sx_bI sb) (α 3) cm (α 4) (α 5) (upd (α 6) a ((α 6) a + 1)) (α 7) (α 8) (α 9) (α 10) (α 11) (α 12) (α 13) (α 14) mk n α (by omega) (by omega) (nI j) (nI c)) (cwV 2 hts (sx_GV wd_439 wd_441 ws_12 wd_5 wd_442) rfl rfl rfl (by decide +kernel) ⟨Nat.le_of_ble_eq_true rfl, Nat.le_of_ble_eq_true rfl⟩) (sx_preV hK hP (va_recv hK.1 hP (ci := 4) (q0 := 0) rfl rfl)) rfl rfl hl.1 rfl (lv_room (Nat.le_of_ble_eq_true rfl)) d_M_list_40 ⟨Nat.le_of_ble_eq_true rfl, Nat.le_of_ble_eq_true rfl⟩).run (fun r_14 hr_13 => ?_)
        subst hr_13
        refine lv_istore (lv' := [(7, .int (sx_ch α (nI j) (nI c) n)), (6, .int (nI c)), (5, .int left), (0, .ref (h 0)), (1, .int (nI a)), (2, .int (nI j)), (3, .int ii)]) hx hb d_M_list_43 hl (by decide) rfl (fun ls hl => ?_)
        refine lv_iload hx hb d_M_list_45 (lv_at hl 0 rfl) ?_
        refine lv_iconst (v := (-1)) hx hb d_M_list_47 (by decide +kernel) ?_
        refine lv_icmp_eq (tgt := 75) hx hb d_M_list_48 (by decide) (fun c_15 => ?_) (fun c_15 => ?_)
        · refine lv_iinc (v := nI (c + 1)) (lv' := [(6, .int (nI (c + 1))), (7, .int (sx_ch α (nI j) (nI c) n)), (5, .int left), (0, .ref (h 0)), (1, .int (nI a)), (2, .int (nI j)), (3, .int ii)]) hx hb d_M_list_75 hl (k := 1) rfl (nI_1 c) (by decide) rfl (fun ls hl => ?_)
          refine lv_goto (tgt := 29) hx hb d_M_list_78 (by decide) ?_
          exact ih_29 (c + 1, left) (⟨by omega, by omega, by rw [hpk, sx_pickS (by omega), sx_lq_0 c_15]; rfl⟩) (by omega) ls (lv_sub hl [0, 2, 3, 4, 5, 6] rfl)
        · obtain ⟨k, k0, k1, ek⟩ := sx_ch_pos (by omega) c_15
          rw [ek] at hl
          have hl : lv_has ls 8 [(7, .int (nI k)), (6, .int (nI c)), (5, .int left), (0, .ref (h 0)), (1, .int (nI a)), (2, .int (nI j)), (3, .int ii)] := hl
          refine lv_aload_n hx hb d_M_list_51 rfl (lv_at hl 3 rfl) ?_
          refine lv_iload_n hx hb d_M_list_52 rfl (lv_at hl 4 rfl) ?_
          refine lv_iload hx hb d_M_list_53 (lv_at hl 0 rfl) ?_
          refine vp_callSi (va_runV (As := [.int (nI a), .int (nI k)]) (rest := []) ⟨hx, hb, hml, hown, hts⟩ (k_hasU l D cA h (nI L) (nI 0) (nI na) (sx_bI sb) (α 2) (α 3) cm (α 4) (α 5) (upd (α 6) a ((α 6) a + 1)) (α 7) (α 8) (α 9) (α 11) (α 12) (α 13) (α 14) mk n α na L hI a (by omega) k (by omega)) (cwV 2 hts (sx_GV wd_526 wd_528 ws_22 wd_5 wd_529) rfl rfl rfl (by decide +kernel) ⟨Nat.le_of_ble_eq_true rfl, Nat.le_of_ble_eq_true rfl⟩) (sx_preV hK hP (va_recv hK.1 hP (ci := 4) (q0 := 0) rfl rfl)) rfl rfl hl.1 rfl (lv_room (Nat.le_of_ble_eq_true rfl)) d_M_list_55 ⟨Nat.le_of_ble_eq_true rfl, Nat.le_of_ble_eq_true rfl⟩).run (fun r_17 hr_16 => ?_)
          subst hr_16
          refine lv_if_ne (tgt := 64) hx hb d_M_list_58 (by decide) (fun c_18 => ?_) (fun c_18 => ?_)
          · have c_18 : (sx_hu n α a k) = true := sx_bIn c_18
            refine lv_iload hx hb d_M_list_64 (lv_at hl 2 rfl) ?_
            refine lv_if_ne (tgt := 72) hx hb d_M_list_66 (by decide) (fun c_19 => ?_) (fun c_19 => ?_)
            · refine lv_iinc (v := left + (-1)) (lv' := [(5, .int (left + (-1))), (7, .int (nI k)), (6, .int (nI c)), (0, .ref (h 0)), (1, .int (nI a)), (2, .int (nI j)), (3, .int ii)]) hx hb d_M_list_72 hl (k := 2) rfl rfl (by decide) rfl (fun ls hl => ?_)
              refine lv_iinc (v := nI (c + 1)) (lv' := [(6, .int (nI (c + 1))), (5, .int (left + (-1))), (7, .int (nI k)), (0, .ref (h 0)), (1, .int (nI a)), (2, .int (nI j)), (3, .int ii)]) hx hb d_M_list_75 hl (k := 2) rfl (nI_1 c) (by decide) rfl (fun ls hl => ?_)
              refine lv_goto (tgt := 29) hx hb d_M_list_78 (by decide) ?_
              exact ih_29 (c + 1, left + (-1)) (⟨by omega, by omega, by rw [hpk, sx_pickS (by omega), sx_lq_k (by omega) ek, c_18, cond_true, if_neg c_19, sx_m1]⟩) (by omega) ls (lv_sub hl [0, 1, 3, 4, 5, 6] rfl)
            · refine lv_iload hx hb d_M_list_69 (lv_at hl 1 rfl) ?_
              have z := sx_list_go (n := n) (L := L) (i := ii) hok hne
              have hP9 : va_P D vwCl (wMa cA h L (nI 0) n na sb (sx_mayS n L α a (nI j) 0) cm mk) H := by rw [z.2, sx_M_op]; exact hP
              have hD9 : va_D A (wMa cA h L (nI 0) n na sb (sx_mayS n L α a (nI j) 0) cm mk) := by rw [z.2, sx_M_op]; exact hD
              exact W.iret (v := nI c) hx hb hr (fun t ht hW => ⟨⟨nI c, (), rfl, (by rw [z.1, hpk, sx_pickS (by omega), sx_lq_k (by omega) ek, c_18, cond_true, if_pos c_19]), by rw [ht]; exact hP9, by rw [hAe]; exact hD9⟩, hS.F ht⟩) hS.2.2 d_M_list_71
          · have c_18 : (sx_hu n α a k) = false := sx_bI0 c_18
            refine lv_goto (tgt := 75) hx hb d_M_list_61 (by decide) ?_
            refine lv_iinc (v := nI (c + 1)) (lv' := [(6, .int (nI (c + 1))), (7, .int (nI k)), (5, .int left), (0, .ref (h 0)), (1, .int (nI a)), (2, .int (nI j)), (3, .int ii)]) hx hb d_M_list_75 hl (k := 1) rfl (nI_1 c) (by decide) rfl (fun ls hl => ?_)
            refine lv_goto (tgt := 29) hx hb d_M_list_78 (by decide) ?_
            exact ih_29 (c + 1, left) (⟨by omega, by omega, by rw [hpk, sx_pickS (by omega), sx_lq_k (by omega) ek, c_18]; rfl⟩) (by omega) ls (lv_sub hl [0, 2, 3, 4, 5, 6] rfl)
    · exact absurd rfl c_11
