set_option maxHeartbeats 4000000 in
set_option maxRecDepth 100000 in
theorem m_path (l : Launch) (D : va_G) (cA : Nat → ClassId) (sz : Nat) (h : Nat → Nat) (L : Nat) (cd : Int32) (n na : Nat) (sb : Bool) (α : sx_A) (cm mk : Nat → Int32) (hI : sx_INV n na L α) (pp ch : Int32) : Met l y_M_path w_M_path ({ frames := 1, cells := 0, slots := 0, locals := 24 }) (sx_Pw D cA [.ref (h 0), .int pp, .int ch] (wMa cA h L cd n na sb α cm mk) sz) (va_Qi (fun r (_ : Unit) => r = sx_pathA n α pp ch) (sx_Bw D (wMa cA h L cd n na sb α cm mk) sz (fun _ => wMa cA h L (nI 0) (sx_pathN n α pp ch) na sb (sx_pathS n α pp ch) cm mk)) (va_A (wMa cA h L cd n na sb α cm mk) sz)) 0 0 (va_A (wMa cA h L cd n na sb α cm mk) sz) := by
  refine Met.ofW (cc := b_M_path) (maxL := 4) (ret := (some .int)) (by decide) rfl ?_
  intro pG eG s m args below meth cG s₁ B hml hv
  obtain ⟨rfl, hsz, hP, hK, hD0⟩ := hv
  have hx := B.exec
  have hb := B.bytes
  have hr := B.returns
  have hts0 := atoms_spec (ws := w_M_path) B.pre
  have hts : ∀ w ∈ sx_gw, w.before _ s = true := fun w h => hts0 w (List.mem_cons_of_mem _ h)
  have hown : s.vm.findClass R_M = some m.cls := findClass_of_methodNamed B.named
  have hlocks := B.notSynchronized
  subst hsz
  have hD := hD0.self (sz := s.heap.size)
  generalize hAe : va_A (wMa cA h L cd n na sb α cm mk) s.heap.size = A at hD ⊢
  have hA : ∀ q : Nat, s.heap.size ≤ q → A q := fun q h => by rw [← hAe]; exact Or.inr h
  have hS : va_S A s.heap s.heap [] := va_S.rf
  have hl := lv_entry ([.ref (h 0), .int pp, .int ch]) (n := 4) (Nat.le_of_ble_eq_true rfl)
  rw [lg_entry_eq]
  generalize (lg_sl ([.ref (h 0), .int pp, .int ch]) ++ List.replicate (4 - (lg_sl ([.ref (h 0), .int pp, .int ch])).length) Slot.unset).toArray = ls at hl ⊢
  have hl : lv_has ls 4 [(0, .ref (h 0)), (1, .int pp), (2, .int ch)] := hl
  have hn31 := sx_INV_n hI
  have hn60 := hI.1.1.2
  have h1n := hI.1.1.1
  have hna := hI.1.2.1
  have hP : va_P D vwCl (wM cA h (nI L) cd (nI n) (nI na) (sx_bI sb) (α 1) (α 2) (α 3) cm (α 4) (α 5) (α 6) (α 7) (α 8) (α 9) (α 10) (α 11) (α 12) (α 13) (α 14) mk) s.heap := hP
  have hD : va_D A (wM cA h (nI L) cd (nI n) (nI na) (sx_bI sb) (α 1) (α 2) (α 3) cm (α 4) (α 5) (α 6) (α 7) (α 8) (α 9) (α 10) (α 11) (α 12) (α 13) (α 14) mk) := hD
  refine lv_aload_n hx hb d_M_path_0 rfl (lv_at hl 0 rfl) ?_
  refine lv_iconst (v := nI 0) hx hb d_M_path_1 (by decide +kernel) ?_
  refine va_put (D := D) (ci := 4) (v := .int (nI 0)) (ty := .int) (C := R_M) (T := T_M) (N := 21) hx hb hts iw_M t_M o_M n_M hown hK.1 hP hD hS 0 rfl rfl 1 (by decide) (hts _ wd_365) (fun _ h9 => h9) rfl (by decide +kernel) rfl rfl (Nat.le_of_ble_eq_true rfl) d_M_path_2 (fun H locs hP hD hS => ?_)
  have hP : va_P D vwCl (wM cA h (nI L) (nI 0) (nI n) (nI na) (sx_bI sb) (α 1) (α 2) (α 3) cm (α 4) (α 5) (α 6) (α 7) (α 8) (α 9) (α 10) (α 11) (α 12) (α 13) (α 14) mk) H := hP
  have hD : va_D A (wM cA h (nI L) (nI 0) (nI n) (nI na) (sx_bI sb) (α 1) (α 2) (α 3) cm (α 4) (α 5) (α 6) (α 7) (α 8) (α 9) (α 10) (α 11) (α 12) (α 13) (α 14) mk) := hD
  refine lv_aload_n hx hb d_M_path_5 rfl (lv_at hl 0 rfl) ?_
  refine lv_iload_n hx hb d_M_path_6 rfl (lv_at hl 1 rfl) ?_
  refine vp_callSi (va_runV (As := [.int pp]) (rest := []) ⟨hx, hb, hml, hown, hts⟩ (k_isPathM l D cA h (nI L) (nI 0) (nI na) (sx_bI sb) (α 1) (α 2) (α 3) cm (α 4) (α 5) (α 6) (α 7) (α 8) (α 9) (α 10) (α 11) (α 12) (α 13) (α 14) mk n α pp) (cwV 1 hts (sx_GV wd_432 wd_434 ws_11 wd_5 wd_435) rfl rfl rfl (by decide +kernel) ⟨Nat.le_of_ble_eq_true rfl, Nat.le_of_ble_eq_true rfl⟩) (sx_preV hK hP (va_recv hK.1 hP (ci := 4) (q0 := 0) rfl rfl)) rfl rfl hl.1 rfl (lv_room (Nat.le_of_ble_eq_true rfl)) d_M_path_7 ⟨Nat.le_of_ble_eq_true rfl, Nat.le_of_ble_eq_true rfl⟩).run (fun r_2 hr_1 => ?_)
  subst hr_1
  refine lv_if_eq (tgt := 31) hx hb d_M_path_10 (by decide) (fun c_3 => ?_) (fun c_3 => ?_)
  · have c_3 : (sx_has n pp) = false := sx_bI0 c_3
    refine lv_iconst (v := (-1)) hx hb d_M_path_31 (by decide +kernel) ?_
    have z := sx_path_no (n := n) (α := α) (p := pp) (c := ch) (Or.inl c_3)
    have hP9 : va_P D vwCl (wMa cA h L (nI 0) (sx_pathN n α pp ch) na sb (sx_pathS n α pp ch) cm mk) H := by rw [z.2.1, z.2.2]; exact hP
    have hD9 : va_D A (wMa cA h L (nI 0) (sx_pathN n α pp ch) na sb (sx_pathS n α pp ch) cm mk) := by rw [z.2.1, z.2.2]; exact hD
    exact W.iret (v := (-1)) hx hb hr (fun t ht hW => ⟨⟨(-1), (), rfl, by rw [z.1], by rw [ht]; exact hP9, by rw [hAe]; exact hD9⟩, hS.F ht⟩) hS.2.2 d_M_path_32
  · have c_3 : (sx_has n pp) = true := sx_bIn c_3
    refine lv_iload_n hx hb d_M_path_13 rfl (lv_at hl 2 rfl) ?_
    refine vp_callSi (va_runS (As := [.int ch]) (rest := []) ⟨hx, hb, hml, hown, hts⟩ (k_low l D cA ch) (va_cwS 1 hts (sx_GS wd_436 wd_437 wd_5 wd_438) rfl rfl rfl (by decide +kernel) ⟨Nat.le_of_ble_eq_true rfl, Nat.le_of_ble_eq_true rfl⟩) (sx_preS hK (sx_P0 : va_P D vwCl [] H)) rfl rfl hl.1 rfl (lv_room (Nat.le_of_ble_eq_true rfl)) d_M_path_14 ⟨Nat.le_of_ble_eq_true rfl, Nat.le_of_ble_eq_true rfl⟩).run (fun r_5 hr_4 => ?_)
    subst hr_4
    refine lv_bipush (v := nI 97) hx hb d_M_path_17 (by decide +kernel) ?_
    refine lv_icmp_lt (tgt := 31) hx hb d_M_path_19 (by decide) (fun c_6 => ?_) (fun c_6 => ?_)
    · refine lv_iconst (v := (-1)) hx hb d_M_path_31 (by decide +kernel) ?_
      have z := sx_path_no (n := n) (α := α) (p := pp) (c := ch) (Or.inr (sx_lowL_f1 c_6))
      have hP9 : va_P D vwCl (wMa cA h L (nI 0) (sx_pathN n α pp ch) na sb (sx_pathS n α pp ch) cm mk) H := by rw [z.2.1, z.2.2]; exact hP
      have hD9 : va_D A (wMa cA h L (nI 0) (sx_pathN n α pp ch) na sb (sx_pathS n α pp ch) cm mk) := by rw [z.2.1, z.2.2]; exact hD
      exact W.iret (v := (-1)) hx hb hr (fun t ht hW => ⟨⟨(-1), (), rfl, by rw [z.1], by rw [ht]; exact hP9, by rw [hAe]; exact hD9⟩, hS.F ht⟩) hS.2.2 d_M_path_32
    · refine lv_iload_n hx hb d_M_path_22 rfl (lv_at hl 2 rfl) ?_
      refine vp_callSi (va_runS (As := [.int ch]) (rest := []) ⟨hx, hb, hml, hown, hts⟩ (k_low l D cA ch) (va_cwS 1 hts (sx_GS wd_436 wd_437 wd_5 wd_438) rfl rfl rfl (by decide +kernel) ⟨Nat.le_of_ble_eq_true rfl, Nat.le_of_ble_eq_true rfl⟩) (sx_preS hK (sx_P0 : va_P D vwCl [] H)) rfl rfl hl.1 rfl (lv_room (Nat.le_of_ble_eq_true rfl)) d_M_path_23 ⟨Nat.le_of_ble_eq_true rfl, Nat.le_of_ble_eq_true rfl⟩).run (fun r_8 hr_7 => ?_)
      subst hr_7
      refine lv_bipush (v := nI 122) hx hb d_M_path_26 (by decide +kernel) ?_
      refine lv_icmp_le (tgt := 33) hx hb d_M_path_28 (by decide) (fun c_9 => ?_) (fun c_9 => ?_)
      · obtain ⟨j, hj, rfl⟩ := sx_has_t (by omega) c_3
        refine lv_aload_n hx hb d_M_path_33 rfl (lv_at hl 0 rfl) ?_
        refine lv_iload_n hx hb d_M_path_34 rfl (lv_at hl 1 rfl) ?_
        refine lv_iload_n hx hb d_M_path_35 rfl (lv_at hl 2 rfl) ?_
        refine vp_callSi (va_runV (As := [.int (nI j), .int ch]) (rest := []) ⟨hx, hb, hml, hown, hts⟩ (k_child l D cA h (nI L) (nI 0) (nI na) (sx_bI sb) (α 3) cm (α 4) (α 5) (α 6) (α 7) (α 8) (α 9) (α 10) (α 11) (α 12) (α 13) (α 14) mk n α (by omega) (by omega) (nI j) ch) (cwV 2 hts (sx_GV wd_439 wd_441 ws_12 wd_5 wd_442) rfl rfl rfl (by decide +kernel) ⟨Nat.le_of_ble_eq_true rfl, Nat.le_of_ble_eq_true rfl⟩) (sx_preV hK hP (va_recv hK.1 hP (ci := 4) (q0 := 0) rfl rfl)) rfl rfl hl.1 rfl (lv_room (Nat.le_of_ble_eq_true rfl)) d_M_path_36 ⟨Nat.le_of_ble_eq_true rfl, Nat.le_of_ble_eq_true rfl⟩).run (fun r_11 hr_10 => ?_)
        subst hr_10
        refine lv_istore_n (lv' := [(3, .int (sx_ch α (nI j) ch n)), (0, .ref (h 0)), (1, .int (nI j)), (2, .int ch)]) hx hb d_M_path_39 rfl hl (by decide) rfl (fun ls hl => ?_)
        refine lv_iload_n hx hb d_M_path_40 rfl (lv_at hl 0 rfl) ?_
        refine lv_iconst (v := (-1)) hx hb d_M_path_41 (by decide +kernel) ?_
        refine lv_icmp_ne (tgt := 54) hx hb d_M_path_42 (by decide) (fun c_12 => ?_) (fun c_12 => ?_)
        · refine lv_iload_n hx hb d_M_path_54 rfl (lv_at hl 0 rfl) ?_
          have z := sx_path_old (n := n) (α := α) (p := nI j) (c := ch) (sx_has_nI (by omega) hj) (sx_lowL_t c_6 c_9) c_12
          have hP9 : va_P D vwCl (wMa cA h L (nI 0) (sx_pathN n α (nI j) ch) na sb (sx_pathS n α (nI j) ch) cm mk) H := by rw [z.2.1, z.2.2]; exact hP
          have hD9 : va_D A (wMa cA h L (nI 0) (sx_pathN n α (nI j) ch) na sb (sx_pathS n α (nI j) ch) cm mk) := by rw [z.2.1, z.2.2]; exact hD
          exact W.iret (v := sx_ch α (nI j) ch n) hx hb hr (fun t ht hW => ⟨⟨sx_ch α (nI j) ch n, (), rfl, by rw [z.1], by rw [ht]; exact hP9, by rw [hAe]; exact hD9⟩, hS.F ht⟩) hS.2.2 d_M_path_55
        · refine lv_aload_n hx hb d_M_path_45 rfl (lv_at hl 1 rfl) ?_
          refine va_get (D := D) (ci := 4) (v := .int (nI n)) (C := R_M) (T := T_M) (N := 21) hx hb hts iw_M hown hK.1 hP 0 rfl rfl 2 (by decide) (hts _ wd_366) (fun _ h9 => h9) rfl d_M_path_46 ?_
          refine lv_bipush (v := nI 60) hx hb d_M_path_49 (by decide +kernel) ?_
          refine lv_icmp_ne (tgt := 56) hx hb d_M_path_51 (by decide) (fun c_13 => ?_) (fun c_13 => ?_)
          · have c_13 : ¬ n = 60 := fun z => c_13 ((nI_eq (by omega) (by decide)).mpr z)
            refine lv_aload_n hx hb d_M_path_56 rfl (lv_at hl 1 rfl) ?_
            refine va_get (D := D) (ci := 4) (v := .ref (h 1)) (C := R_M) (T := T_M) (N := 21) hx hb hts iw_M hown hK.1 hP 0 rfl rfl 5 (by decide) (hts _ wd_369) (fun _ h9 => h9) rfl d_M_path_57 ?_
            refine lv_aload_n hx hb d_M_path_60 rfl (lv_at hl 1 rfl) ?_
            refine va_get (D := D) (ci := 4) (v := .int (nI n)) (C := R_M) (T := T_M) (N := 21) hx hb hts iw_M hown hK.1 hP 0 rfl rfl 2 (by decide) (hts _ wd_366) (fun _ h9 => h9) rfl d_M_path_61 ?_
            refine lv_iload_n hx hb d_M_path_64 rfl (lv_at hl 2 rfl) ?_
            refine va_iast hx hb hK.1 hP hD hS 1 0 rfl rfl (vp_in_nI (by omega) (by decide)) d_M_path_65 (fun H locs hP hD hS => ?_)
            rw [nI_clamp (by omega)] at hP hD
            have hP : va_P D vwCl (wM cA h (nI L) (nI 0) (nI n) (nI na) (sx_bI sb) (upd (α 1) n (nI j)) (α 2) (α 3) cm (α 4) (α 5) (α 6) (α 7) (α 8) (α 9) (α 10) (α 11) (α 12) (α 13) (α 14) mk) H := hP
            have hD : va_D A (wM cA h (nI L) (nI 0) (nI n) (nI na) (sx_bI sb) (upd (α 1) n (nI j)) (α 2) (α 3) cm (α 4) (α 5) (α 6) (α 7) (α 8) (α 9) (α 10) (α 11) (α 12) (α 13) (α 14) mk) := hD
            refine lv_aload_n hx hb d_M_path_66 rfl (lv_at hl 1 rfl) ?_
            refine va_get (D := D) (ci := 4) (v := .ref (h 2)) (C := R_M) (T := T_M) (N := 21) hx hb hts iw_M hown hK.1 hP 0 rfl rfl 6 (by decide) (hts _ wd_370) (fun _ h9 => h9) rfl d_M_path_67 ?_
            refine lv_aload_n hx hb d_M_path_70 rfl (lv_at hl 1 rfl) ?_
            refine va_get (D := D) (ci := 4) (v := .int (nI n)) (C := R_M) (T := T_M) (N := 21) hx hb hts iw_M hown hK.1 hP 0 rfl rfl 2 (by decide) (hts _ wd_366) (fun _ h9 => h9) rfl d_M_path_71 ?_
            refine lv_iload_n hx hb d_M_path_74 rfl (lv_at hl 3 rfl) ?_
            refine va_iast hx hb hK.1 hP hD hS 2 0 rfl rfl (vp_in_nI (by omega) (by decide)) d_M_path_75 (fun H locs hP hD hS => ?_)
            rw [nI_clamp (by omega)] at hP hD
            have hP : va_P D vwCl (wM cA h (nI L) (nI 0) (nI n) (nI na) (sx_bI sb) (upd (α 1) n (nI j)) (upd (α 2) n ch) (α 3) cm (α 4) (α 5) (α 6) (α 7) (α 8) (α 9) (α 10) (α 11) (α 12) (α 13) (α 14) mk) H := hP
            have hD : va_D A (wM cA h (nI L) (nI 0) (nI n) (nI na) (sx_bI sb) (upd (α 1) n (nI j)) (upd (α 2) n ch) (α 3) cm (α 4) (α 5) (α 6) (α 7) (α 8) (α 9) (α 10) (α 11) (α 12) (α 13) (α 14) mk) := hD
            refine lv_aload_n hx hb d_M_path_76 rfl (lv_at hl 1 rfl) ?_
            refine lv_dup hx hb d_M_path_77 rfl ?_
            refine va_get (D := D) (ci := 4) (v := .int (nI n)) (C := R_M) (T := T_M) (N := 21) hx hb hts iw_M hown hK.1 hP 0 rfl rfl 2 (by decide) (hts _ wd_366) (fun _ h9 => h9) rfl d_M_path_78 ?_
            refine lv_iconst (v := nI 1) hx hb d_M_path_81 (by decide +kernel) ?_
            refine lv_iadd hx hb d_M_path_82 ?_
            refine sx_asi (y := nI (n + 1)) (nI_add n 1) ?_
            refine va_put (D := D) (ci := 4) (v := .int (nI (n + 1))) (ty := .int) (C := R_M) (T := T_M) (N := 21) hx hb hts iw_M t_M o_M n_M hown hK.1 hP hD hS 0 rfl rfl 2 (by decide) (hts _ wd_366) (fun _ h9 => h9) rfl (by decide +kernel) rfl rfl (Nat.le_of_ble_eq_true rfl) d_M_path_83 (fun H locs hP hD hS => ?_)
            have hP : va_P D vwCl (wM cA h (nI L) (nI 0) (nI (n + 1)) (nI na) (sx_bI sb) (upd (α 1) n (nI j)) (upd (α 2) n ch) (α 3) cm (α 4) (α 5) (α 6) (α 7) (α 8) (α 9) (α 10) (α 11) (α 12) (α 13) (α 14) mk) H := hP
            have hD : va_D A (wM cA h (nI L) (nI 0) (nI (n + 1)) (nI na) (sx_bI sb) (upd (α 1) n (nI j)) (upd (α 2) n ch) (α 3) cm (α 4) (α 5) (α 6) (α 7) (α 8) (α 9) (α 10) (α 11) (α 12) (α 13) (α 14) mk) := hD
            refine lv_aload_n hx hb d_M_path_86 rfl (lv_at hl 1 rfl) ?_
            refine va_get (D := D) (ci := 4) (v := .int (nI (n + 1))) (C := R_M) (T := T_M) (N := 21) hx hb hts iw_M hown hK.1 hP 0 rfl rfl 2 (by decide) (hts _ wd_366) (fun _ h9 => h9) rfl d_M_path_87 ?_
            refine lv_iconst (v := nI 1) hx hb d_M_path_90 (by decide +kernel) ?_
            refine lv_isub hx hb d_M_path_91 ?_
            refine sx_asi (y := nI n) (nI_pred n) ?_
            have z := sx_path_new (n := n) (α := α) (p := nI j) (c := ch) (sx_has_nI (by omega) hj) (sx_lowL_t c_6 c_9) c_12 (by omega)
            have hP9 : va_P D vwCl (wMa cA h L (nI 0) (sx_pathN n α (nI j) ch) na sb (sx_pathS n α (nI j) ch) cm mk) H := by rw [z.2.1, z.2.2, sx_M_path]; exact hP
            have hD9 : va_D A (wMa cA h L (nI 0) (sx_pathN n α (nI j) ch) na sb (sx_pathS n α (nI j) ch) cm mk) := by rw [z.2.1, z.2.2, sx_M_path]; exact hD
            exact W.iret (v := nI n) hx hb hr (fun t ht hW => ⟨⟨nI n, (), rfl, by rw [z.1], by rw [ht]; exact hP9, by rw [hAe]; exact hD9⟩, hS.F ht⟩) hS.2.2 d_M_path_92
          · have c_13 : n = 60 := (nI_eq (by omega) (by decide)).mp c_13
            refine lv_iload_n hx hb d_M_path_54 rfl (lv_at hl 0 rfl) ?_
            have z := sx_path_full (n := n) (α := α) (p := nI j) (c := ch) (sx_has_nI (by omega) hj) (sx_lowL_t c_6 c_9) c_12 c_13
            have hP9 : va_P D vwCl (wMa cA h L (nI 0) (sx_pathN n α (nI j) ch) na sb (sx_pathS n α (nI j) ch) cm mk) H := by rw [z.2.1, z.2.2]; exact hP
            have hD9 : va_D A (wMa cA h L (nI 0) (sx_pathN n α (nI j) ch) na sb (sx_pathS n α (nI j) ch) cm mk) := by rw [z.2.1, z.2.2]; exact hD
            exact W.iret (v := sx_ch α (nI j) ch n) hx hb hr (fun t ht hW => ⟨⟨sx_ch α (nI j) ch n, (), rfl, by rw [z.1]; exact c_12, by rw [ht]; exact hP9, by rw [hAe]; exact hD9⟩, hS.F ht⟩) hS.2.2 d_M_path_55
      · refine lv_iconst (v := (-1)) hx hb d_M_path_31 (by decide +kernel) ?_
        have z := sx_path_no (n := n) (α := α) (p := pp) (c := ch) (Or.inr (sx_lowL_f2 c_9))
        have hP9 : va_P D vwCl (wMa cA h L (nI 0) (sx_pathN n α pp ch) na sb (sx_pathS n α pp ch) cm mk) H := by rw [z.2.1, z.2.2]; exact hP
        have hD9 : va_D A (wMa cA h L (nI 0) (sx_pathN n α pp ch) na sb (sx_pathS n α pp ch) cm mk) := by rw [z.2.1, z.2.2]; exact hD
        exact W.iret (v := (-1)) hx hb hr (fun t ht hW => ⟨⟨(-1), (), rfl, by rw [z.1], by rw [ht]; exact hP9, by rw [hAe]; exact hD9⟩, hS.F ht⟩) hS.2.2 d_M_path_32

set_option maxHeartbeats 4000000 in
set_option maxRecDepth 100000 in
theorem m_file (l : Launch) (D : va_G) (cA : Nat → ClassId) (sz : Nat) (h : Nat → Nat) (L : Nat) (cd : Int32) (n na : Nat) (sb : Bool) (α : sx_A) (cm mk : Nat → Int32) (hI : sx_INV n na L α) (p ct : Int32) : Met l y_M_file w_M_file ({ frames := 1, cells := 0, slots := 0, locals := 23 }) (sx_Pw D cA [.ref (h 0), .int p, .int ct] (wMa cA h L cd n na sb α cm mk) sz) (va_Qi (fun r (_ : Unit) => r = sx_bI (sx_fileA n α p ct)) (sx_Bw D (wMa cA h L cd n na sb α cm mk) sz (fun _ => wMa cA h L (nI 0) n na sb (sx_fileS n α p ct) cm mk)) (va_A (wMa cA h L cd n na sb α cm mk) sz)) 0 0 (va_A (wMa cA h L cd n na sb α cm mk) sz) := by
  refine Met.ofW (cc := b_M_file) (maxL := 4) (ret := (some .boolean)) (by decide) rfl ?_
  intro pG eG s m args below meth cG s₁ B hml hv
  obtain ⟨rfl, hsz, hP, hK, hD0⟩ := hv
  have hx := B.exec
  have hb := B.bytes
  have hr := B.returns
  have hts0 := atoms_spec (ws := w_M_file) B.pre
  have hts : ∀ w ∈ sx_gw, w.before _ s = true := fun w h => hts0 w (List.mem_cons_of_mem _ h)
  have hown : s.vm.findClass R_M = some m.cls := findClass_of_methodNamed B.named
  have hlocks := B.notSynchronized
  subst hsz
  have hD := hD0.self (sz := s.heap.size)
  generalize hAe : va_A (wMa cA h L cd n na sb α cm mk) s.heap.size = A at hD ⊢
  have hA : ∀ q : Nat, s.heap.size ≤ q → A q := fun q h => by rw [← hAe]; exact Or.inr h
  have hS : va_S A s.heap s.heap [] := va_S.rf
  have hl := lv_entry ([.ref (h 0), .int p, .int ct]) (n := 4) (Nat.le_of_ble_eq_true rfl)
  rw [lg_entry_eq]
  generalize (lg_sl ([.ref (h 0), .int p, .int ct]) ++ List.replicate (4 - (lg_sl ([.ref (h 0), .int p, .int ct])).length) Slot.unset).toArray = ls at hl ⊢
  have hl : lv_has ls 4 [(0, .ref (h 0)), (1, .int p), (2, .int ct)] := hl
  have hn31 := sx_INV_n hI
  have hn60 := hI.1.1.2
  have h1n := hI.1.1.1
  have hna := hI.1.2.1
  have hP : va_P D vwCl (wM cA h (nI L) cd (nI n) (nI na) (sx_bI sb) (α 1) (α 2) (α 3) cm (α 4) (α 5) (α 6) (α 7) (α 8) (α 9) (α 10) (α 11) (α 12) (α 13) (α 14) mk) s.heap := hP
  have hD : va_D A (wM cA h (nI L) cd (nI n) (nI na) (sx_bI sb) (α 1) (α 2) (α 3) cm (α 4) (α 5) (α 6) (α 7) (α 8) (α 9) (α 10) (α 11) (α 12) (α 13) (α 14) mk) := hD
  refine lv_aload_n hx hb d_M_file_0 rfl (lv_at hl 0 rfl) ?_
  refine lv_iconst (v := nI 0) hx hb d_M_file_1 (by decide +kernel) ?_
  refine va_put (D := D) (ci := 4) (v := .int (nI 0)) (ty := .int) (C := R_M) (T := T_M) (N := 21) hx hb hts iw_M t_M o_M n_M hown hK.1 hP hD hS 0 rfl rfl 1 (by decide) (hts _ wd_365) (fun _ h9 => h9) rfl (by decide +kernel) rfl rfl (Nat.le_of_ble_eq_true rfl) d_M_file_2 (fun H locs hP hD hS => ?_)
  have hP : va_P D vwCl (wM cA h (nI L) (nI 0) (nI n) (nI na) (sx_bI sb) (α 1) (α 2) (α 3) cm (α 4) (α 5) (α 6) (α 7) (α 8) (α 9) (α 10) (α 11) (α 12) (α 13) (α 14) mk) H := hP
  have hD : va_D A (wM cA h (nI L) (nI 0) (nI n) (nI na) (sx_bI sb) (α 1) (α 2) (α 3) cm (α 4) (α 5) (α 6) (α 7) (α 8) (α 9) (α 10) (α 11) (α 12) (α 13) (α 14) mk) := hD
  refine lv_aload_n hx hb d_M_file_5 rfl (lv_at hl 0 rfl) ?_
  refine lv_iload_n hx hb d_M_file_6 rfl (lv_at hl 1 rfl) ?_
  refine vp_callSi (va_runV (As := [.int p]) (rest := []) ⟨hx, hb, hml, hown, hts⟩ (k_isPathM l D cA h (nI L) (nI 0) (nI na) (sx_bI sb) (α 1) (α 2) (α 3) cm (α 4) (α 5) (α 6) (α 7) (α 8) (α 9) (α 10) (α 11) (α 12) (α 13) (α 14) mk n α p) (cwV 1 hts (sx_GV wd_432 wd_434 ws_11 wd_5 wd_435) rfl rfl rfl (by decide +kernel) ⟨Nat.le_of_ble_eq_true rfl, Nat.le_of_ble_eq_true rfl⟩) (sx_preV hK hP (va_recv hK.1 hP (ci := 4) (q0 := 0) rfl rfl)) rfl rfl hl.1 rfl (lv_room (Nat.le_of_ble_eq_true rfl)) d_M_file_7 ⟨Nat.le_of_ble_eq_true rfl, Nat.le_of_ble_eq_true rfl⟩).run (fun r_2 hr_1 => ?_)
  subst hr_1
  refine lv_if_eq (tgt := 21) hx hb d_M_file_10 (by decide) (fun c_3 => ?_) (fun c_3 => ?_)
  · have c_3 : (sx_has n p) = false := sx_bI0 c_3
    refine lv_iconst (v := nI 0) hx hb d_M_file_21 (by decide +kernel) ?_
    have z := sx_file_no (sx_fileA_h (α := α) (c := ct) c_3)
    have hP9 : va_P D vwCl (wMa cA h L (nI 0) n na sb (sx_fileS n α p ct) cm mk) H := by rw [z.2]; exact hP
    have hD9 : va_D A (wMa cA h L (nI 0) n na sb (sx_fileS n α p ct) cm mk) := by rw [z.2]; exact hD
    exact W.zret (v := nI 0) (ty := .boolean) hx hb hr (by decide +kernel) (fun t ht hW => ⟨⟨nI 0, (), rfl, by rw [z.1], by rw [ht]; exact hP9, by rw [hAe]; exact hD9⟩, hS.F ht⟩) hS.2.2 d_M_file_22
  · have c_3 : (sx_has n p) = true := sx_bIn c_3
    obtain ⟨j, hj, rfl⟩ := sx_has_t (by omega) c_3
    refine lv_iload_n hx hb d_M_file_13 rfl (lv_at hl 1 rfl) ?_
    refine lv_if_eq (tgt := 21) hx hb d_M_file_14 (by decide) (fun c_4 => ?_) (fun c_4 => ?_)
    · have c_4 : j = 0 := sx_n0 (by omega) c_4
      refine lv_iconst (v := nI 0) hx hb d_M_file_21 (by decide +kernel) ?_
      have z := sx_file_no (sx_fileA_0 (n := n) (α := α) (c := ct) (show nI j = 0 by rw [c_4]; rfl))
      have hP9 : va_P D vwCl (wMa cA h L (nI 0) n na sb (sx_fileS n α (nI j) ct) cm mk) H := by rw [z.2]; exact hP
      have hD9 : va_D A (wMa cA h L (nI 0) n na sb (sx_fileS n α (nI j) ct) cm mk) := by rw [z.2]; exact hD
      exact W.zret (v := nI 0) (ty := .boolean) hx hb hr (by decide +kernel) (fun t ht hW => ⟨⟨nI 0, (), rfl, by rw [z.1], by rw [ht]; exact hP9, by rw [hAe]; exact hD9⟩, hS.F ht⟩) hS.2.2 d_M_file_22
    · have c_4 : 0 < j := sx_nne (by omega) c_4
      refine lv_iload_n hx hb d_M_file_17 rfl (lv_at hl 2 rfl) ?_
      refine lv_if_ge (tgt := 23) hx hb d_M_file_18 (by decide) (fun c_5 => ?_) (fun c_5 => ?_)
      · refine lv_iconst (v := nI 1) hx hb d_M_file_23 (by decide +kernel) ?_
        refine lv_istore_n (lv' := [(3, .int (nI 1)), (0, .ref (h 0)), (1, .int (nI j)), (2, .int ct)]) hx hb d_M_file_24 rfl hl (by decide) rfl (fun ls hl => ?_)
        refine sx_loop (σ := Nat) (fun x => 1 ≤ x ∧ x ≤ n ∧ sx_any (fun z => (Nat.blt 0 z && !Nat.beq z j) && (decide (0 < α 3 z) && (sx_U (α 1) z j || sx_U (α 1) j z))) x = false) (fun x => [(3, .int (nI x)), (0, .ref (h 0)), (1, .int (nI j)), (2, .int ct)]) (fun x => n - x) 1 (⟨by omega, by omega, rfl⟩) (lv_sub hl [0, 1, 2, 3] rfl) (fun x hJ ih ls hl => ?_)
        obtain ⟨k, rfl⟩ : ∃ y, y = x := ⟨_, rfl⟩
        obtain ⟨hk1, hkn, hw⟩ := hJ
        have hl : lv_has ls 4 [(3, .int (nI k)), (0, .ref (h 0)), (1, .int (nI j)), (2, .int ct)] := hl
        have ih_25 := ih
        refine lv_iload_n hx hb d_M_file_25 rfl (lv_at hl 0 rfl) ?_
        refine lv_aload_n hx hb d_M_file_26 rfl (lv_at hl 1 rfl) ?_
        refine va_get (D := D) (ci := 4) (v := .int (nI n)) (C := R_M) (T := T_M) (N := 21) hx hb hts iw_M hown hK.1 hP 0 rfl rfl 2 (by decide) (hts _ wd_366) (fun _ h9 => h9) rfl d_M_file_27 ?_
        refine lv_icmp_ge (tgt := 73) hx hb d_M_file_30 (by decide) (fun c_6 => ?_) (fun c_6 => ?_)
        · have c_6 : n ≤ k := (nI_leI (by omega) (by omega)).mp c_6
          refine lv_aload_n hx hb d_M_file_73 rfl (lv_at hl 1 rfl) ?_
          refine va_get (D := D) (ci := 4) (v := .ref (h 3)) (C := R_M) (T := T_M) (N := 21) hx hb hts iw_M hown hK.1 hP 0 rfl rfl 7 (by decide) (hts _ wd_371) (fun _ h9 => h9) rfl d_M_file_74 ?_
          refine lv_iload_n hx hb d_M_file_77 rfl (lv_at hl 2 rfl) ?_
          refine lv_iload_n hx hb d_M_file_78 rfl (lv_at hl 3 rfl) ?_
          refine va_iast hx hb hK.1 hP hD hS 3 0 rfl rfl (vp_in_nI (by omega) (by decide)) d_M_file_79 (fun H locs hP hD hS => ?_)
          rw [nI_clamp (by omega)] at hP hD
          have hP : va_P D vwCl (wM cA h (nI L) (nI 0) (nI n) (nI na) (sx_bI sb) (α 1) (α 2) (upd (α 3) j ct) cm (α 4) (α 5) (α 6) (α 7) (α 8) (α 9) (α 10) (α 11) (α 12) (α 13) (α 14) mk) H := hP
          have hD : va_D A (wM cA h (nI L) (nI 0) (nI n) (nI na) (sx_bI sb) (α 1) (α 2) (upd (α 3) j ct) cm (α 4) (α 5) (α 6) (α 7) (α 8) (α 9) (α 10) (α 11) (α 12) (α 13) (α 14) mk) := hD
          refine lv_iconst (v := nI 1) hx hb d_M_file_80 (by decide +kernel) ?_
          have hins : sx_inS n α j = false := by rw [show k = n by omega] at hw; exact hw
          have z := sx_file_y (by omega) (sx_fileA_t hn31 hj c_4 c_5 hins)
          have hP9 : va_P D vwCl (wMa cA h L (nI 0) n na sb (sx_fileS n α (nI j) ct) cm mk) H := by rw [z.2, sx_M_file]; exact hP
          have hD9 : va_D A (wMa cA h L (nI 0) n na sb (sx_fileS n α (nI j) ct) cm mk) := by rw [z.2, sx_M_file]; exact hD
          exact W.zret (v := nI 1) (ty := .boolean) hx hb hr (by decide +kernel) (fun t ht hW => ⟨⟨nI 1, (), rfl, by rw [z.1], by rw [ht]; exact hP9, by rw [hAe]; exact hD9⟩, hS.F ht⟩) hS.2.2 d_M_file_81
        · have c_6 : k < n := Nat.not_le.mp (fun z => c_6 ((nI_leI (by omega) (by omega)).mpr z))
          refine lv_iload_n hx hb d_M_file_33 rfl (lv_at hl 0 rfl) ?_
          refine lv_iload_n hx hb d_M_file_34 rfl (lv_at hl 2 rfl) ?_
          refine lv_icmp_eq (tgt := 67) hx hb d_M_file_35 (by decide) (fun c_7 => ?_) (fun c_7 => ?_)
          · have c_7 : k = j := (nI_eq (by omega) (by omega)).mp c_7
            refine lv_iinc (v := nI (k + 1)) (lv' := [(3, .int (nI (k + 1))), (0, .ref (h 0)), (1, .int (nI j)), (2, .int ct)]) hx hb d_M_file_67 hl (k := 0) rfl (nI_1 k) (by decide) rfl (fun ls hl => ?_)
            refine lv_goto (tgt := 25) hx hb d_M_file_70 (by decide) ?_
            exact ih_25 (k + 1) (⟨by omega, by omega, sx_any_s hw (by rw [sx_beq_t c_7]; simp)⟩) (by omega) ls (lv_sub hl [0, 1, 2, 3] rfl)
          · have c_7 : ¬ k = j := fun z => c_7 ((nI_eq (by omega) (by omega)).mpr z)
            refine lv_aload_n hx hb d_M_file_38 rfl (lv_at hl 1 rfl) ?_
            refine va_get (D := D) (ci := 4) (v := .ref (h 3)) (C := R_M) (T := T_M) (N := 21) hx hb hts iw_M hown hK.1 hP 0 rfl rfl 7 (by decide) (hts _ wd_371) (fun _ h9 => h9) rfl d_M_file_39 ?_
            refine lv_iload_n hx hb d_M_file_42 rfl (lv_at hl 0 rfl) ?_
            refine va_iald hx hb hK.1 hP 3 0 rfl rfl (vp_in_nI (by omega) (by decide)) d_M_file_43 ?_
            refine sx_asi (congrArg (α 3) (nI_clamp (by omega))) ?_
            refine lv_if_le (tgt := 67) hx hb d_M_file_44 (by decide) (fun c_8 => ?_) (fun c_8 => ?_)
            · refine lv_iinc (v := nI (k + 1)) (lv' := [(3, .int (nI (k + 1))), (0, .ref (h 0)), (1, .int (nI j)), (2, .int ct)]) hx hb d_M_file_67 hl (k := 0) rfl (nI_1 k) (by decide) rfl (fun ls hl => ?_)
              refine lv_goto (tgt := 25) hx hb d_M_file_70 (by decide) ?_
              exact ih_25 (k + 1) (⟨by omega, by omega, sx_any_s hw (by rw [decide_eq_false (Int32.not_lt.mpr c_8)]; simp)⟩) (by omega) ls (lv_sub hl [0, 1, 2, 3] rfl)
            · refine lv_aload_n hx hb d_M_file_47 rfl (lv_at hl 1 rfl) ?_
              refine lv_iload_n hx hb d_M_file_48 rfl (lv_at hl 0 rfl) ?_
              refine lv_iload_n hx hb d_M_file_49 rfl (lv_at hl 2 rfl) ?_
              refine vp_callSi (va_runV (As := [.int (nI k), .int (nI j)]) (rest := []) ⟨hx, hb, hml, hown, hts⟩ (k_isUnder l D cA h (nI L) (nI 0) (nI na) (sx_bI sb) (α 2) (α 3) cm (α 4) (α 5) (α 6) (α 7) (α 8) (α 9) (α 10) (α 11) (α 12) (α 13) (α 14) mk n α hI.2.1 (by omega) k j (by omega) (by omega)) (cwV 2 hts (sx_GV wd_447 wd_449 ws_13 wd_5 wd_450) rfl rfl rfl (by decide +kernel) ⟨Nat.le_of_ble_eq_true rfl, Nat.le_of_ble_eq_true rfl⟩) (sx_preV hK hP (va_recv hK.1 hP (ci := 4) (q0 := 0) rfl rfl)) rfl rfl hl.1 rfl (lv_room (Nat.le_of_ble_eq_true rfl)) d_M_file_50 ⟨Nat.le_of_ble_eq_true rfl, Nat.le_of_ble_eq_true rfl⟩).run (fun r_10 hr_9 => ?_)
              subst hr_9
              refine lv_if_ne (tgt := 65) hx hb d_M_file_53 (by decide) (fun c_11 => ?_) (fun c_11 => ?_)
              · have c_11 : (sx_U (α 1) k j) = true := sx_bIn c_11
                refine lv_iconst (v := nI 0) hx hb d_M_file_65 (by decide +kernel) ?_
                have hins : sx_inS n α j = true := sx_any_t.mpr ⟨k, by omega, by rw [sx_blt0 (by omega), sx_beq_f c_7, decide_eq_true (Int32.not_le.mp c_8), c_11]; rfl⟩
                have z := sx_file_no (sx_fileA_w (c := ct) (by omega) hins)
                have hP9 : va_P D vwCl (wMa cA h L (nI 0) n na sb (sx_fileS n α (nI j) ct) cm mk) H := by rw [z.2]; exact hP
                have hD9 : va_D A (wMa cA h L (nI 0) n na sb (sx_fileS n α (nI j) ct) cm mk) := by rw [z.2]; exact hD
                exact W.zret (v := nI 0) (ty := .boolean) hx hb hr (by decide +kernel) (fun t ht hW => ⟨⟨nI 0, (), rfl, by rw [z.1], by rw [ht]; exact hP9, by rw [hAe]; exact hD9⟩, hS.F ht⟩) hS.2.2 d_M_file_66
              · have c_11 : (sx_U (α 1) k j) = false := sx_bI0 c_11
                refine lv_aload_n hx hb d_M_file_56 rfl (lv_at hl 1 rfl) ?_
                refine lv_iload_n hx hb d_M_file_57 rfl (lv_at hl 2 rfl) ?_
                refine lv_iload_n hx hb d_M_file_58 rfl (lv_at hl 0 rfl) ?_
                refine vp_callSi (va_runV (As := [.int (nI j), .int (nI k)]) (rest := []) ⟨hx, hb, hml, hown, hts⟩ (k_isUnder l D cA h (nI L) (nI 0) (nI na) (sx_bI sb) (α 2) (α 3) cm (α 4) (α 5) (α 6) (α 7) (α 8) (α 9) (α 10) (α 11) (α 12) (α 13) (α 14) mk n α hI.2.1 (by omega) j k (by omega) (by omega)) (cwV 2 hts (sx_GV wd_447 wd_449 ws_13 wd_5 wd_450) rfl rfl rfl (by decide +kernel) ⟨Nat.le_of_ble_eq_true rfl, Nat.le_of_ble_eq_true rfl⟩) (sx_preV hK hP (va_recv hK.1 hP (ci := 4) (q0 := 0) rfl rfl)) rfl rfl hl.1 rfl (lv_room (Nat.le_of_ble_eq_true rfl)) d_M_file_59 ⟨Nat.le_of_ble_eq_true rfl, Nat.le_of_ble_eq_true rfl⟩).run (fun r_13 hr_12 => ?_)
                subst hr_12
                refine lv_if_eq (tgt := 67) hx hb d_M_file_62 (by decide) (fun c_14 => ?_) (fun c_14 => ?_)
                · have c_14 : (sx_U (α 1) j k) = false := sx_bI0 c_14
                  refine lv_iinc (v := nI (k + 1)) (lv' := [(3, .int (nI (k + 1))), (0, .ref (h 0)), (1, .int (nI j)), (2, .int ct)]) hx hb d_M_file_67 hl (k := 0) rfl (nI_1 k) (by decide) rfl (fun ls hl => ?_)
                  refine lv_goto (tgt := 25) hx hb d_M_file_70 (by decide) ?_
                  exact ih_25 (k + 1) (⟨by omega, by omega, sx_any_s hw (by rw [c_11, c_14]; simp)⟩) (by omega) ls (lv_sub hl [0, 1, 2, 3] rfl)
                · have c_14 : (sx_U (α 1) j k) = true := sx_bIn c_14
                  refine lv_iconst (v := nI 0) hx hb d_M_file_65 (by decide +kernel) ?_
                  have hins : sx_inS n α j = true := sx_any_t.mpr ⟨k, by omega, by rw [sx_blt0 (by omega), sx_beq_f c_7, decide_eq_true (Int32.not_le.mp c_8), c_11, c_14]; rfl⟩
                  have z := sx_file_no (sx_fileA_w (c := ct) (by omega) hins)
                  have hP9 : va_P D vwCl (wMa cA h L (nI 0) n na sb (sx_fileS n α (nI j) ct) cm mk) H := by rw [z.2]; exact hP
                  have hD9 : va_D A (wMa cA h L (nI 0) n na sb (sx_fileS n α (nI j) ct) cm mk) := by rw [z.2]; exact hD
                  exact W.zret (v := nI 0) (ty := .boolean) hx hb hr (by decide +kernel) (fun t ht hW => ⟨⟨nI 0, (), rfl, by rw [z.1], by rw [ht]; exact hP9, by rw [hAe]; exact hD9⟩, hS.F ht⟩) hS.2.2 d_M_file_66
      · refine lv_iconst (v := nI 0) hx hb d_M_file_21 (by decide +kernel) ?_
        have z := sx_file_no (sx_fileA_c (n := n) (α := α) (p := nI j) c_5)
        have hP9 : va_P D vwCl (wMa cA h L (nI 0) n na sb (sx_fileS n α (nI j) ct) cm mk) H := by rw [z.2]; exact hP
        have hD9 : va_D A (wMa cA h L (nI 0) n na sb (sx_fileS n α (nI j) ct) cm mk) := by rw [z.2]; exact hD
        exact W.zret (v := nI 0) (ty := .boolean) hx hb hr (by decide +kernel) (fun t ht hW => ⟨⟨nI 0, (), rfl, by rw [z.1], by rw [ht]; exact hP9, by rw [hAe]; exact hD9⟩, hS.F ht⟩) hS.2.2 d_M_file_22

set_option maxHeartbeats 4000000 in
set_option maxRecDepth 100000 in
theorem m_source (l : Launch) (D : va_G) (cA : Nat → ClassId) (sz : Nat) (h : Nat → Nat) (L : Nat) (cd : Int32) (n na : Nat) (sb : Bool) (α : sx_A) (cm mk : Nat → Int32) (hI : sx_INV n na L α) (p : Int32) : Met l y_M_source w_M_source ({ frames := 1, cells := 0, slots := 0, locals := 21 }) (sx_Pw D cA [.ref (h 0), .int p] (wMa cA h L cd n na sb α cm mk) sz) (va_Qi (fun r (_ : Unit) => r = sx_srcA n α p) (sx_Bw D (wMa cA h L cd n na sb α cm mk) sz (fun _ => wMa cA h L (nI 0) n na sb α cm mk)) (va_A (wMa cA h L cd n na sb α cm mk) sz)) 0 0 (va_A (wMa cA h L cd n na sb α cm mk) sz) := by
  refine Met.ofW (cc := b_M_source) (maxL := 2) (ret := (some .int)) (by decide) rfl ?_
  intro pG eG s m args below meth cG s₁ B hml hv
  obtain ⟨rfl, hsz, hP, hK, hD0⟩ := hv
  have hx := B.exec
  have hb := B.bytes
  have hr := B.returns
  have hts0 := atoms_spec (ws := w_M_source) B.pre
  have hts : ∀ w ∈ sx_gw, w.before _ s = true := fun w h => hts0 w (List.mem_cons_of_mem _ h)
  have hown : s.vm.findClass R_M = some m.cls := findClass_of_methodNamed B.named
  have hlocks := B.notSynchronized
  subst hsz
  have hD := hD0.self (sz := s.heap.size)
  generalize hAe : va_A (wMa cA h L cd n na sb α cm mk) s.heap.size = A at hD ⊢
  have hA : ∀ q : Nat, s.heap.size ≤ q → A q := fun q h => by rw [← hAe]; exact Or.inr h
  have hS : va_S A s.heap s.heap [] := va_S.rf
  have hl := lv_entry ([.ref (h 0), .int p]) (n := 2) (Nat.le_of_ble_eq_true rfl)
  rw [lg_entry_eq]
  generalize (lg_sl ([.ref (h 0), .int p]) ++ List.replicate (2 - (lg_sl ([.ref (h 0), .int p])).length) Slot.unset).toArray = ls at hl ⊢
  have hl : lv_has ls 2 [(0, .ref (h 0)), (1, .int p)] := hl
  have hn31 := sx_INV_n hI
  have hn60 := hI.1.1.2
  have h1n := hI.1.1.1
  have hna := hI.1.2.1
  have hP : va_P D vwCl (wM cA h (nI L) cd (nI n) (nI na) (sx_bI sb) (α 1) (α 2) (α 3) cm (α 4) (α 5) (α 6) (α 7) (α 8) (α 9) (α 10) (α 11) (α 12) (α 13) (α 14) mk) s.heap := hP
  have hD : va_D A (wM cA h (nI L) cd (nI n) (nI na) (sx_bI sb) (α 1) (α 2) (α 3) cm (α 4) (α 5) (α 6) (α 7) (α 8) (α 9) (α 10) (α 11) (α 12) (α 13) (α 14) mk) := hD
  refine lv_aload_n hx hb d_M_source_0 rfl (lv_at hl 0 rfl) ?_
  refine lv_iconst (v := nI 0) hx hb d_M_source_1 (by decide +kernel) ?_
  refine va_put (D := D) (ci := 4) (v := .int (nI 0)) (ty := .int) (C := R_M) (T := T_M) (N := 21) hx hb hts iw_M t_M o_M n_M hown hK.1 hP hD hS 0 rfl rfl 1 (by decide) (hts _ wd_365) (fun _ h9 => h9) rfl (by decide +kernel) rfl rfl (Nat.le_of_ble_eq_true rfl) d_M_source_2 (fun H locs hP hD hS => ?_)
  have hP : va_P D vwCl (wM cA h (nI L) (nI 0) (nI n) (nI na) (sx_bI sb) (α 1) (α 2) (α 3) cm (α 4) (α 5) (α 6) (α 7) (α 8) (α 9) (α 10) (α 11) (α 12) (α 13) (α 14) mk) H := hP
  have hD : va_D A (wM cA h (nI L) (nI 0) (nI n) (nI na) (sx_bI sb) (α 1) (α 2) (α 3) cm (α 4) (α 5) (α 6) (α 7) (α 8) (α 9) (α 10) (α 11) (α 12) (α 13) (α 14) mk) := hD
  refine lv_aload_n hx hb d_M_source_5 rfl (lv_at hl 0 rfl) ?_
  refine lv_iload_n hx hb d_M_source_6 rfl (lv_at hl 1 rfl) ?_
  refine vp_callSi (va_runV (As := [.int p]) (rest := []) ⟨hx, hb, hml, hown, hts⟩ (k_isPathM l D cA h (nI L) (nI 0) (nI na) (sx_bI sb) (α 1) (α 2) (α 3) cm (α 4) (α 5) (α 6) (α 7) (α 8) (α 9) (α 10) (α 11) (α 12) (α 13) (α 14) mk n α p) (cwV 1 hts (sx_GV wd_432 wd_434 ws_11 wd_5 wd_435) rfl rfl rfl (by decide +kernel) ⟨Nat.le_of_ble_eq_true rfl, Nat.le_of_ble_eq_true rfl⟩) (sx_preV hK hP (va_recv hK.1 hP (ci := 4) (q0 := 0) rfl rfl)) rfl rfl hl.1 rfl (lv_room (Nat.le_of_ble_eq_true rfl)) d_M_source_7 ⟨Nat.le_of_ble_eq_true rfl, Nat.le_of_ble_eq_true rfl⟩).run (fun r_2 hr_1 => ?_)
  subst hr_1
  refine lv_if_eq (tgt := 22) hx hb d_M_source_10 (by decide) (fun c_3 => ?_) (fun c_3 => ?_)
  · have c_3 : (sx_has n p) = false := sx_bI0 c_3
    refine lv_iconst (v := nI 0) hx hb d_M_source_22 (by decide +kernel) ?_
    have hP9 : va_P D vwCl (wMa cA h L (nI 0) n na sb α cm mk) H := hP
    have hD9 : va_D A (wMa cA h L (nI 0) n na sb α cm mk) := hD
    exact W.iret (v := nI 0) hx hb hr (fun t ht hW => ⟨⟨nI 0, (), rfl, (by unfold sx_srcA; rw [c_3]; rfl), by rw [ht]; exact hP9, by rw [hAe]; exact hD9⟩, hS.F ht⟩) hS.2.2 d_M_source_23
  · have c_3 : (sx_has n p) = true := sx_bIn c_3
    obtain ⟨j, hj, rfl⟩ := sx_has_t (by omega) c_3
    refine lv_aload_n hx hb d_M_source_13 rfl (lv_at hl 0 rfl) ?_
    refine va_get (D := D) (ci := 4) (v := .ref (h 3)) (C := R_M) (T := T_M) (N := 21) hx hb hts iw_M hown hK.1 hP 0 rfl rfl 7 (by decide) (hts _ wd_371) (fun _ h9 => h9) rfl d_M_source_14 ?_
    refine lv_iload_n hx hb d_M_source_17 rfl (lv_at hl 1 rfl) ?_
    refine va_iald hx hb hK.1 hP 3 0 rfl rfl (vp_in_nI (by omega) (by decide)) d_M_source_18 ?_
    refine sx_asi (congrArg (α 3) (nI_clamp (by omega))) ?_
    refine lv_goto (tgt := 23) hx hb d_M_source_19 (by decide) ?_
    have hP9 : va_P D vwCl (wMa cA h L (nI 0) n na sb α cm mk) H := hP
    have hD9 : va_D A (wMa cA h L (nI 0) n na sb α cm mk) := hD
    exact W.iret (v := (α 3) j) hx hb hr (fun t ht hW => ⟨⟨(α 3) j, (), rfl, (by unfold sx_srcA; rw [sx_has_nI hn31 hj, nI_clamp (by omega)]; rfl), by rw [ht]; exact hP9, by rw [hAe]; exact hD9⟩, hS.F ht⟩) hS.2.2 d_M_source_23

set_option maxHeartbeats 4000000 in
set_option maxRecDepth 100000 in
theorem m_action (l : Launch) (D : va_G) (cA : Nat → ClassId) (sz : Nat) (h : Nat → Nat) (L : Nat) (cd : Int32) (n na : Nat) (sb : Bool) (α : sx_A) (cm mk : Nat → Int32) (hna : na ≤ 10) : Met l y_M_action w_M_action ({ frames := 0, cells := 0, slots := 0, locals := 0 }) (sx_Pw D cA [.ref (h 0)] (wMa cA h L cd n na sb α cm mk) sz) (va_Qi (fun r (_ : Unit) => r = sx_actA na) (sx_Bw D (wMa cA h L cd n na sb α cm mk) sz (fun _ => wMa cA h L (nI 0) n (sx_actN na) sb α cm mk)) (va_A (wMa cA h L cd n na sb α cm mk) sz)) 0 0 (va_A (wMa cA h L cd n na sb α cm mk) sz) := by
  refine Met.ofW (cc := b_M_action) (maxL := 1) (ret := (some .int)) (by decide) rfl ?_
  intro pG eG s m args below meth cG s₁ B hml hv
  obtain ⟨rfl, hsz, hP, hK, hD0⟩ := hv
  have hx := B.exec
  have hb := B.bytes
  have hr := B.returns
  have hts0 := atoms_spec (ws := w_M_action) B.pre
  have hts : ∀ w ∈ sx_gw, w.before _ s = true := fun w h => hts0 w (List.mem_cons_of_mem _ h)
  have hown : s.vm.findClass R_M = some m.cls := findClass_of_methodNamed B.named
  have hlocks := B.notSynchronized
  subst hsz
  have hD := hD0.self (sz := s.heap.size)
  generalize hAe : va_A (wMa cA h L cd n na sb α cm mk) s.heap.size = A at hD ⊢
  have hA : ∀ q : Nat, s.heap.size ≤ q → A q := fun q h => by rw [← hAe]; exact Or.inr h
  have hS : va_S A s.heap s.heap [] := va_S.rf
  have hl := lv_entry ([.ref (h 0)]) (n := 1) (Nat.le_of_ble_eq_true rfl)
  rw [lg_entry_eq]
  generalize (lg_sl ([.ref (h 0)]) ++ List.replicate (1 - (lg_sl ([.ref (h 0)])).length) Slot.unset).toArray = ls at hl ⊢
  have hl : lv_has ls 1 [(0, .ref (h 0))] := hl
  have hP : va_P D vwCl (wM cA h (nI L) cd (nI n) (nI na) (sx_bI sb) (α 1) (α 2) (α 3) cm (α 4) (α 5) (α 6) (α 7) (α 8) (α 9) (α 10) (α 11) (α 12) (α 13) (α 14) mk) s.heap := hP
  have hD : va_D A (wM cA h (nI L) cd (nI n) (nI na) (sx_bI sb) (α 1) (α 2) (α 3) cm (α 4) (α 5) (α 6) (α 7) (α 8) (α 9) (α 10) (α 11) (α 12) (α 13) (α 14) mk) := hD
  refine lv_aload_n hx hb d_M_action_0 rfl (lv_at hl 0 rfl) ?_
  refine lv_iconst (v := nI 0) hx hb d_M_action_1 (by decide +kernel) ?_
  refine va_put (D := D) (ci := 4) (v := .int (nI 0)) (ty := .int) (C := R_M) (T := T_M) (N := 21) hx hb hts iw_M t_M o_M n_M hown hK.1 hP hD hS 0 rfl rfl 1 (by decide) (hts _ wd_365) (fun _ h9 => h9) rfl (by decide +kernel) rfl rfl (Nat.le_of_ble_eq_true rfl) d_M_action_2 (fun H locs hP hD hS => ?_)
  have hP : va_P D vwCl (wM cA h (nI L) (nI 0) (nI n) (nI na) (sx_bI sb) (α 1) (α 2) (α 3) cm (α 4) (α 5) (α 6) (α 7) (α 8) (α 9) (α 10) (α 11) (α 12) (α 13) (α 14) mk) H := hP
  have hD : va_D A (wM cA h (nI L) (nI 0) (nI n) (nI na) (sx_bI sb) (α 1) (α 2) (α 3) cm (α 4) (α 5) (α 6) (α 7) (α 8) (α 9) (α 10) (α 11) (α 12) (α 13) (α 14) mk) := hD
  refine lv_aload_n hx hb d_M_action_5 rfl (lv_at hl 0 rfl) ?_
  refine va_get (D := D) (ci := 4) (v := .int (nI na)) (C := R_M) (T := T_M) (N := 21) hx hb hts iw_M hown hK.1 hP 0 rfl rfl 3 (by decide) (hts _ wd_367) (fun _ h9 => h9) rfl d_M_action_6 ?_
  refine lv_bipush (v := nI 10) hx hb d_M_action_9 (by decide +kernel) ?_
  refine lv_icmp_ne (tgt := 16) hx hb d_M_action_11 (by decide) (fun c_1 => ?_) (fun c_1 => ?_)
  · have c_1 : ¬ na = 10 := fun z => c_1 ((nI_eq (by omega) (by decide)).mpr z)
    refine lv_aload_n hx hb d_M_action_16 rfl (lv_at hl 0 rfl) ?_
    refine lv_dup hx hb d_M_action_17 rfl ?_
    refine va_get (D := D) (ci := 4) (v := .int (nI na)) (C := R_M) (T := T_M) (N := 21) hx hb hts iw_M hown hK.1 hP 0 rfl rfl 3 (by decide) (hts _ wd_367) (fun _ h9 => h9) rfl d_M_action_18 ?_
    refine lv_iconst (v := nI 1) hx hb d_M_action_21 (by decide +kernel) ?_
    refine lv_iadd hx hb d_M_action_22 ?_
    refine sx_asi (y := nI (na + 1)) (nI_add na 1) ?_
    refine va_put (D := D) (ci := 4) (v := .int (nI (na + 1))) (ty := .int) (C := R_M) (T := T_M) (N := 21) hx hb hts iw_M t_M o_M n_M hown hK.1 hP hD hS 0 rfl rfl 3 (by decide) (hts _ wd_367) (fun _ h9 => h9) rfl (by decide +kernel) rfl rfl (Nat.le_of_ble_eq_true rfl) d_M_action_23 (fun H locs hP hD hS => ?_)
    have hP : va_P D vwCl (wM cA h (nI L) (nI 0) (nI n) (nI (na + 1)) (sx_bI sb) (α 1) (α 2) (α 3) cm (α 4) (α 5) (α 6) (α 7) (α 8) (α 9) (α 10) (α 11) (α 12) (α 13) (α 14) mk) H := hP
    have hD : va_D A (wM cA h (nI L) (nI 0) (nI n) (nI (na + 1)) (sx_bI sb) (α 1) (α 2) (α 3) cm (α 4) (α 5) (α 6) (α 7) (α 8) (α 9) (α 10) (α 11) (α 12) (α 13) (α 14) mk) := hD
    refine lv_aload_n hx hb d_M_action_26 rfl (lv_at hl 0 rfl) ?_
    refine va_get (D := D) (ci := 4) (v := .int (nI (na + 1))) (C := R_M) (T := T_M) (N := 21) hx hb hts iw_M hown hK.1 hP 0 rfl rfl 3 (by decide) (hts _ wd_367) (fun _ h9 => h9) rfl d_M_action_27 ?_
    refine lv_iconst (v := nI 1) hx hb d_M_action_30 (by decide +kernel) ?_
    refine lv_isub hx hb d_M_action_31 ?_
    refine sx_asi (y := nI na) (nI_pred na) ?_
    have z : sx_actA na = nI na ∧ sx_actN na = na + 1 := by unfold sx_actA sx_actN; rw [sx_beq_f c_1]; exact ⟨rfl, rfl⟩
    have hP9 : va_P D vwCl (wMa cA h L (nI 0) n (sx_actN na) sb α cm mk) H := by rw [z.2]; exact hP
    have hD9 : va_D A (wMa cA h L (nI 0) n (sx_actN na) sb α cm mk) := by rw [z.2]; exact hD
    exact W.iret (v := nI na) hx hb hr (fun t ht hW => ⟨⟨nI na, (), rfl, by rw [z.1], by rw [ht]; exact hP9, by rw [hAe]; exact hD9⟩, hS.F ht⟩) hS.2.2 d_M_action_32
  · have c_1 : na = 10 := (nI_eq (by omega) (by decide)).mp c_1
    refine lv_iconst (v := (-1)) hx hb d_M_action_14 (by decide +kernel) ?_
    have z : sx_actA na = -1 ∧ sx_actN na = na := by rw [show na = 10 from c_1]; exact ⟨rfl, rfl⟩
    have hP9 : va_P D vwCl (wMa cA h L (nI 0) n (sx_actN na) sb α cm mk) H := by rw [z.2]; exact hP
    have hD9 : va_D A (wMa cA h L (nI 0) n (sx_actN na) sb α cm mk) := by rw [z.2]; exact hD
    exact W.iret (v := (-1)) hx hb hr (fun t ht hW => ⟨⟨(-1), (), rfl, by rw [z.1], by rw [ht]; exact hP9, by rw [hAe]; exact hD9⟩, hS.F ht⟩) hS.2.2 d_M_action_15

set_option maxHeartbeats 4000000 in
set_option maxRecDepth 100000 in
theorem m_strict (l : Launch) (D : va_G) (cA : Nat → ClassId) (sz : Nat) (h : Nat → Nat) (L : Nat) (cd : Int32) (n na : Nat) (sb : Bool) (α : sx_A) (cm mk : Nat → Int32) (ob : Bool) : Met l y_M_strict w_M_strict ({ frames := 0, cells := 0, slots := 0, locals := 0 }) (sx_Pw D cA [.ref (h 0), .int (sx_bI ob)] (wMa cA h L cd n na sb α cm mk) sz) (va_Qv (fun (_ : Unit) => True) (sx_Bw D (wMa cA h L cd n na sb α cm mk) sz (fun _ => wMa cA h L (nI 0) n na ob α cm mk)) (va_A (wMa cA h L cd n na sb α cm mk) sz)) 0 0 (va_A (wMa cA h L cd n na sb α cm mk) sz) := by
  refine Met.ofW (cc := b_M_strict) (maxL := 2) (ret := none) (by decide) rfl ?_
  intro pG eG s m args below meth cG s₁ B hml hv
  obtain ⟨rfl, hsz, hP, hK, hD0⟩ := hv
  have hx := B.exec
  have hb := B.bytes
  have hr := B.returns
  have hts0 := atoms_spec (ws := w_M_strict) B.pre
  have hts : ∀ w ∈ sx_gw, w.before _ s = true := fun w h => hts0 w (List.mem_cons_of_mem _ h)
  have hown : s.vm.findClass R_M = some m.cls := findClass_of_methodNamed B.named
  have hlocks := B.notSynchronized
  subst hsz
  have hD := hD0.self (sz := s.heap.size)
  generalize hAe : va_A (wMa cA h L cd n na sb α cm mk) s.heap.size = A at hD ⊢
  have hA : ∀ q : Nat, s.heap.size ≤ q → A q := fun q h => by rw [← hAe]; exact Or.inr h
  have hS : va_S A s.heap s.heap [] := va_S.rf
  have hl := lv_entry ([.ref (h 0), .int (sx_bI ob)]) (n := 2) (Nat.le_of_ble_eq_true rfl)
  rw [lg_entry_eq]
  generalize (lg_sl ([.ref (h 0), .int (sx_bI ob)]) ++ List.replicate (2 - (lg_sl ([.ref (h 0), .int (sx_bI ob)])).length) Slot.unset).toArray = ls at hl ⊢
  have hl : lv_has ls 2 [(0, .ref (h 0)), (1, .int (sx_bI ob))] := hl
  have hP : va_P D vwCl (wM cA h (nI L) cd (nI n) (nI na) (sx_bI sb) (α 1) (α 2) (α 3) cm (α 4) (α 5) (α 6) (α 7) (α 8) (α 9) (α 10) (α 11) (α 12) (α 13) (α 14) mk) s.heap := hP
  have hD : va_D A (wM cA h (nI L) cd (nI n) (nI na) (sx_bI sb) (α 1) (α 2) (α 3) cm (α 4) (α 5) (α 6) (α 7) (α 8) (α 9) (α 10) (α 11) (α 12) (α 13) (α 14) mk) := hD
  refine lv_aload_n hx hb d_M_strict_0 rfl (lv_at hl 0 rfl) ?_
  refine lv_iconst (v := nI 0) hx hb d_M_strict_1 (by decide +kernel) ?_
  refine va_put (D := D) (ci := 4) (v := .int (nI 0)) (ty := .int) (C := R_M) (T := T_M) (N := 21) hx hb hts iw_M t_M o_M n_M hown hK.1 hP hD hS 0 rfl rfl 1 (by decide) (hts _ wd_365) (fun _ h9 => h9) rfl (by decide +kernel) rfl rfl (Nat.le_of_ble_eq_true rfl) d_M_strict_2 (fun H locs hP hD hS => ?_)
  have hP : va_P D vwCl (wM cA h (nI L) (nI 0) (nI n) (nI na) (sx_bI sb) (α 1) (α 2) (α 3) cm (α 4) (α 5) (α 6) (α 7) (α 8) (α 9) (α 10) (α 11) (α 12) (α 13) (α 14) mk) H := hP
  have hD : va_D A (wM cA h (nI L) (nI 0) (nI n) (nI na) (sx_bI sb) (α 1) (α 2) (α 3) cm (α 4) (α 5) (α 6) (α 7) (α 8) (α 9) (α 10) (α 11) (α 12) (α 13) (α 14) mk) := hD
  refine lv_aload_n hx hb d_M_strict_5 rfl (lv_at hl 0 rfl) ?_
  refine lv_iload_n hx hb d_M_strict_6 rfl (lv_at hl 1 rfl) ?_
  refine va_put (D := D) (ci := 4) (v := .int (sx_bI ob)) (ty := .boolean) (C := R_M) (T := T_M) (N := 21) hx hb hts iw_M t_M o_M n_M hown hK.1 hP hD hS 0 rfl rfl 4 (by decide) (hts _ wd_368) (fun _ h9 => h9) rfl (by decide +kernel) (sx_bI_nar _) (sx_bI_fit _) (Nat.le_of_ble_eq_true rfl) d_M_strict_7 (fun H locs hP hD hS => ?_)
  have hP : va_P D vwCl (wM cA h (nI L) (nI 0) (nI n) (nI na) (sx_bI ob) (α 1) (α 2) (α 3) cm (α 4) (α 5) (α 6) (α 7) (α 8) (α 9) (α 10) (α 11) (α 12) (α 13) (α 14) mk) H := hP
  have hD : va_D A (wM cA h (nI L) (nI 0) (nI n) (nI na) (sx_bI ob) (α 1) (α 2) (α 3) cm (α 4) (α 5) (α 6) (α 7) (α 8) (α 9) (α 10) (α 11) (α 12) (α 13) (α 14) mk) := hD
  have hP9 : va_P D vwCl (wMa cA h L (nI 0) n na ob α cm mk) H := hP
  have hD9 : va_D A (wMa cA h L (nI 0) n na ob α cm mk) := hD
  exact W.vret hx hb hr (fun t ht hW => ⟨⟨(), rfl, trivial, by rw [ht]; exact hP9, by rw [hAe]; exact hD9⟩, hS.F ht⟩) hS.2.2 d_M_strict_10
