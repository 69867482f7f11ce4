set_option maxHeartbeats 4000000 in
set_option maxRecDepth 100000 in
theorem k_remove (l : Launch) (D : va_G) (cA : Nat → ClassId) (sz : Nat) (h g : Nat → Nat) (n na L : Nat) (sb : Bool) (α : sx_A) (ab un : Nat → Int64) (sv : Nat → Int32) (sf sl : Int64) (acts : Nat → Option Nat) (a : Nat) (K : sx_KA) (hI : sx_INV n na L α) (ha : a < na) (hR : sx_RP n (α 1) ab un) (hS0 : sx_RW (α 3) sv sf sl) (hRA : sx_RA α a K) (hacts : acts a = some (g 0)) (p : Int32) : Met l y_X_remove w_X_remove ({ frames := 5, cells := 0, slots := 0, locals := 110 }) (sx_Pw D cA [.ref (h 0), .int (nI a), .int p] (wXAk cA h g (nI L) (nI na) (sx_bI sb) (nI n) (α 1) (α 2) ab un sv sf sl acts K) sz) (va_Qi (fun r (u : sx_KA) => r = sx_doA n L α a p 0 (sx_rmO n α a p) ∧ sx_RA (sx_do n L sb α a p 0 (sx_rmO n α a p) 0) a u) (sx_Bw D (wXAk cA h g (nI L) (nI na) (sx_bI sb) (nI n) (α 1) (α 2) ab un sv sf sl acts K) sz (fun u => wXAk cA h g (nI L) (nI na) (sx_bI sb) (nI n) (α 1) (α 2) ab un sv sf sl acts u)) (va_A (wXAk cA h g (nI L) (nI na) (sx_bI sb) (nI n) (α 1) (α 2) ab un sv sf sl acts K) sz)) 0 0 (va_A (wXAk cA h g (nI L) (nI na) (sx_bI sb) (nI n) (α 1) (α 2) ab un sv sf sl acts K) sz) := by
  refine Met.ofW (cc := b_X_remove) (maxL := 4) (ret := (some .int)) (by decide) rfl ?_
  intro pG eG s m args below meth cG s₁ B hml hv
  obtain ⟨rfl, hsz, hP, hK, hD0⟩ := hv
  have hx := B.exec
  have hb := B.bytes
  have hr := B.returns
  have hts0 := atoms_spec (ws := w_X_remove) B.pre
  have hts : ∀ w ∈ sx_gw, w.before _ s = true := fun w h => hts0 w (List.mem_cons_of_mem _ h)
  have hown : s.vm.findClass R_X = some m.cls := findClass_of_methodNamed B.named
  have hlocks := B.notSynchronized
  subst hsz
  have hD := hD0.self (sz := s.heap.size)
  generalize hAe : va_A (wXAk cA h g (nI L) (nI na) (sx_bI sb) (nI n) (α 1) (α 2) ab un sv sf sl acts K) s.heap.size = A at hD ⊢
  have hA : ∀ q : Nat, s.heap.size ≤ q → A q := fun q h => by rw [← hAe]; exact Or.inr h
  have hS : va_S A s.heap s.heap [] := va_S.rf
  have hl := lv_entry ([.ref (h 0), .int (nI a), .int p]) (n := 4) (Nat.le_of_ble_eq_true rfl)
  rw [lg_entry_eq]
  generalize (lg_sl ([.ref (h 0), .int (nI a), .int p]) ++ List.replicate (4 - (lg_sl ([.ref (h 0), .int (nI a), .int p])).length) Slot.unset).toArray = ls at hl ⊢
  have hl : lv_has ls 4 [(0, .ref (h 0)), (1, .int (nI a)), (2, .int p)] := hl
  have hn31 := sx_INV_n hI
  have hn60 := hI.1.1.2
  have h1n := hI.1.1.1
  have hAc := sx_INV_A hI ha
  have hd12 := (sx_dN_ok hAc).1
  have hna := hI.1.2.1
  have hL5 := hI.1.2.2.2
  obtain ⟨hDO, htp, htsb, hW0, f4, f12, f14, f13, f6, f7, f8⟩ := id hRA
  have e4 : nI (sx_dN α a) = α 4 a := (sx_dN_ok hAc).2.symm
  have e12 : sx_bI (sx_fb α 12 a) = α 12 a := sx_fb_ok hAc.2.2.2.2.2.1
  have e13 : sx_bI (sx_fb α 13 a) = α 13 a := sx_fb_ok hAc.2.2.2.2.2.2.1
  have e14 : sx_bI (sx_fb α 14 a) = α 14 a := sx_fb_ok hAc.2.2.2.2.2.2.2
  have e6 : nI (sx_oN α a) = α 6 a := (sx_oN_ok hAc hL5).2
  have oL := (sx_oN_ok hAc hL5).1
  have e8 : nI (sx_tN α a) = α 8 a := (sx_tN_ok hAc).2.symm
  have t60 := (sx_tN_ok hAc).1
  rw [sx_XA_eq hAc hL5 hRA] at hP hD
  refine lv_aload_n hx hb d_X_remove_0 rfl (lv_at hl 0 rfl) ?_
  refine lv_iload_n hx hb d_X_remove_1 rfl (lv_at hl 1 rfl) ?_
  rcases Bool.eq_false_or_eq_true (sx_fb α 12 a) with hth | hth
  · refine va_csq (va_runV (As := [.int (nI a)]) (rest := []) ⟨hx, hb, hml, hown, hts⟩ (k_run l D cA h g (nI L) na (sx_bI sb) (nI n) (α 1) (α 2) ab un sv sf sl acts (K.1 0) (K.1 1) (nI (sx_dN α a)) (sx_fb α 12 a) (sx_bI (sx_fb α 14 a)) (sx_bI (sx_fb α 13 a)) (nI (sx_oN α a)) (α 7 a) (K.1 2) (nI (sx_tN α a)) (K.2 0) (K.1 3) (K.2 1) (K.2 2) a (by omega) (by omega) hacts hth) (cwV 1 hts (sx_GV wd_266 wd_268 ws_4 wd_1 wd_269) rfl rfl rfl (by decide +kernel) ⟨Nat.le_of_ble_eq_true rfl, Nat.le_of_ble_eq_true rfl⟩) (sx_preV hK hP (va_recv hK.1 hP (ci := 3) (q0 := 0) rfl rfl)) rfl rfl hl.1 rfl (lv_room (Nat.le_of_ble_eq_true rfl)) d_X_remove_2 ⟨Nat.le_of_ble_eq_true rfl, Nat.le_of_ble_eq_true rfl⟩).run (fun r_2 hr_1 => ?_)
    subst hr_1
    refine sx_asv (y := .ref (g 0)) rfl ?_
    refine lv_astore_n (lv' := [(3, .ref (g 0)), (0, .ref (h 0)), (1, .int (nI a)), (2, .int p)]) hx hb d_X_remove_5 rfl hl (by decide) rfl (fun ls hl => ?_)
    refine lv_aload_n hx hb d_X_remove_6 rfl (lv_at hl 0 rfl) ?_
    refine lv_ifnull hx hb d_X_remove_7 ?_
    refine lv_aload_n hx hb d_X_remove_10 rfl (lv_at hl 1 rfl) ?_
    refine va_get (D := D) (ci := 3) (v := .ref (h 1)) (C := R_X) (T := T_X) (N := 6) hx hb hts iw_X hown hK.1 hP 0 rfl rfl 1 (by decide) (hts _ wd_70) (fun _ h9 => h9) rfl d_X_remove_11 ?_
    refine lv_iload_n hx hb d_X_remove_14 rfl (lv_at hl 3 rfl) ?_
    have hPc : va_P D vwCl (wP cA (h 1) (h 2) (h 3) (h 4) (h 5) (nI n) (α 1) (α 2) ab un) s.heap := hP.sub [1, 2, 3, 4, 5] rfl
    refine vp_callSi (va_runV (As := [.int p]) (rest := []) ⟨hx, hb, hml, hown, hts⟩ (k_has l D cA (h 1) (h 2) (h 3) (h 4) (h 5) n (α 1) (α 2) ab un p) (cwV 1 hts (sx_GV wd_92 wd_93 wd_94 wd_3 wd_95) rfl rfl rfl (by decide +kernel) ⟨Nat.le_of_ble_eq_true rfl, Nat.le_of_ble_eq_true rfl⟩) (sx_preV hK hPc (va_recv hK.1 hPc (ci := 1) (q0 := 0) rfl rfl)) rfl rfl hl.1 rfl (lv_room (Nat.le_of_ble_eq_true rfl)) d_X_remove_15 ⟨Nat.le_of_ble_eq_true rfl, Nat.le_of_ble_eq_true rfl⟩).run (fun r_4 hr_3 => ?_)
    subst hr_3
    refine lv_if_ne (tgt := 23) hx hb d_X_remove_18 (by decide) (fun c_5 => ?_) (fun c_5 => ?_)
    · have c_5 : (sx_has n p) = true := sx_bIn c_5
      obtain ⟨j, hj, rfl⟩ := sx_has_t (by omega) c_5
      refine lv_aload_n hx hb d_X_remove_23 rfl (lv_at hl 0 rfl) ?_
      refine lv_aload_n hx hb d_X_remove_24 rfl (lv_at hl 1 rfl) ?_
      refine va_get (D := D) (ci := 3) (v := .int (nI L)) (C := R_X) (T := T_X) (N := 6) hx hb hts iw_X hown hK.1 hP 0 rfl rfl 0 (by decide) (hts _ wd_69) (fun _ h9 => h9) rfl d_X_remove_25 ?_
      rcases Nat.lt_or_ge (sx_oN α a) L with hoL | hoL
      · have hne : ¬ α 6 a = nI L := fun z => by rw [← e6] at z; have := (nI_eq (by omega) (by omega)).mp z; omega
        have hPc : va_P D vwCl (wA cA (g 0) (g 1) (g 2) (g 3) (g 4) (g 5) (K.1 0) (K.1 1) (nI (sx_dN α a)) (sx_bI (sx_fb α 12 a)) (sx_bI (sx_fb α 14 a)) (sx_bI (sx_fb α 13 a)) (nI (sx_oN α a)) (α 7 a) (K.1 2) (nI (sx_tN α a)) (K.2 0) (K.1 3) (K.2 1) (K.2 2)) s.heap := hP.sub [9, 10, 11, 12, 13, 14] rfl
        have hDc : va_D A (wA cA (g 0) (g 1) (g 2) (g 3) (g 4) (g 5) (K.1 0) (K.1 1) (nI (sx_dN α a)) (sx_bI (sx_fb α 12 a)) (sx_bI (sx_fb α 14 a)) (sx_bI (sx_fb α 13 a)) (nI (sx_oN α a)) (α 7 a) (K.1 2) (nI (sx_tN α a)) (K.2 0) (K.1 3) (K.2 1) (K.2 2)) := hD.sub [9, 10, 11, 12, 13, 14] (by decide) rfl
        refine sx_calli (wr := [(h 0, .inr (3, [.int (nI L), .ref (h 1), .ref (h 6), .ref (h 8), .int (nI na), .int (sx_bI sb)])), (h 1, .inr (1, [.ref (h 2), .ref (h 3), .ref (h 4), .ref (h 5), .int (nI n)])), (h 2, .inl (cA 0, 60, .inl (α 1))), (h 3, .inl (cA 2, 60, .inl (α 2))), (h 4, .inl (cA 3, 60, .inr (.inl ab))), (h 5, .inl (cA 3, 60, .inr (.inl un))), (h 6, .inr (2, [.ref (h 7), .long sf, .long sl])), (h 7, .inl (cA 0, 60, .inl sv)), (h 8, .inl (cA 4, 10, .inr (.inr (.inr (.inr acts)))))]) (va_runV (As := [.int (nI L)]) (rest := []) ⟨hx, hb, hml, hown, hts⟩ (k_op l D cA s.heap.size (g 0) (g 1) (g 2) (g 3) (g 4) (g 5) (K.1 0) (K.1 1) (nI (sx_dN α a)) (sx_bI (sx_fb α 12 a)) (sx_bI (sx_fb α 14 a)) (sx_bI (sx_fb α 13 a)) (sx_oN α a) (α 7 a) (K.1 2) (nI (sx_tN α a)) (K.2 0) (K.1 3) (K.2 1) (K.2 2) L (by omega) (by omega)) (cwV 1 hts (sx_GV wd_270 wd_271 wd_272 wd_6 wd_273) rfl rfl rfl (by decide +kernel) ⟨Nat.le_of_ble_eq_true rfl, Nat.le_of_ble_eq_true rfl⟩) (sx_preVw hK hPc hDc (va_recv hK.1 hPc (ci := 0) (q0 := 0) rfl rfl)) rfl rfl hl.1 rfl (lv_room (Nat.le_of_ble_eq_true rfl)) d_X_remove_28 ⟨Nat.le_of_ble_eq_true rfl, Nat.le_of_ble_eq_true rfl⟩) hP hD hS hA [9, 10, 11, 12, 13, 14] [0, 1, 2, 3, 4, 5, 6, 7, 8] rfl rfl (by decide) (by decide) (fun r_7 u_8 H locs hr_6 hP hD hS => ?_)
        have hP : va_P D vwCl (wXA cA h g (nI L) (nI na) (sx_bI sb) (nI n) (α 1) (α 2) ab un sv sf sl acts (K.1 0) (K.1 1) (nI (sx_dN α a)) (sx_bI (sx_fb α 12 a)) (sx_bI (sx_fb α 14 a)) (sx_bI (sx_fb α 13 a)) (nI (sx_oN α a + 1)) (α 7 a) (K.1 2) (nI (sx_tN α a)) (K.2 0) (K.1 3) (K.2 1) (K.2 2)) H := hP.sub [0, 1, 2, 3, 4, 5, 6, 7, 8, 9, 10, 11, 12, 13, 14] rfl
        have hD : va_D A (wXA cA h g (nI L) (nI na) (sx_bI sb) (nI n) (α 1) (α 2) ab un sv sf sl acts (K.1 0) (K.1 1) (nI (sx_dN α a)) (sx_bI (sx_fb α 12 a)) (sx_bI (sx_fb α 14 a)) (sx_bI (sx_fb α 13 a)) (nI (sx_oN α a + 1)) (α 7 a) (K.1 2) (nI (sx_tN α a)) (K.2 0) (K.1 3) (K.2 1) (K.2 2)) := hD.sub [0, 1, 2, 3, 4, 5, 6, 7, 8, 9, 10, 11, 12, 13, 14] (by decide) rfl
        subst hr_6
        refine lv_if_ne (tgt := 37) hx hb d_X_remove_31 (by decide) (fun c_9 => ?_) (fun c_9 => ?_)
        · refine lv_aload_n hx hb d_X_remove_37 rfl (lv_at hl 1 rfl) ?_
          refine lv_aload_n hx hb d_X_remove_38 rfl (lv_at hl 0 rfl) ?_
          refine vp_callSl (va_runV (As := [.ref (g 0)]) (rest := []) ⟨hx, hb, hml, hown, hts⟩ (k_wr l D cA h g (nI L) (nI na) (sx_bI sb) n α ab un sv sf sl acts a (K.1 0) (K.1 1) (sx_bI (sx_fb α 12 a)) (sx_bI (sx_fb α 14 a)) (sx_bI (sx_fb α 13 a)) (nI (sx_oN α a + 1)) (α 7 a) (K.1 2) (nI (sx_tN α a)) (K.2 0) (K.1 3) (K.2 1) (K.2 2) na L hI ha hR hDO) (cwV 1 hts (sx_GV wd_288 wd_290 ws_6 wd_1 wd_291) rfl rfl rfl (by decide +kernel) ⟨Nat.le_of_ble_eq_true rfl, Nat.le_of_ble_eq_true rfl⟩) (sx_preV hK hP (va_recv hK.1 hP (ci := 3) (q0 := 0) rfl rfl)) rfl rfl hl.1 rfl (lv_room (Nat.le_of_ble_eq_true rfl)) d_X_remove_39 ⟨Nat.le_of_ble_eq_true rfl, Nat.le_of_ble_eq_true rfl⟩).run (fun r_11 hr_10 => ?_)
          refine lv_aload_n hx hb d_X_remove_42 rfl (lv_at hl 0 rfl) ?_
          refine va_getN (D := D) (ci := 0) (v := .ref (g 3)) (C := R_A) (T := T_A) (N := 12) hx hb hts iw_A hown hK.1 hP 9 rfl rfl 3 (by decide) (va_Nw.use rfl (hK.2.1 _ wd_166)) (fun _ h9 => h9) rfl d_X_remove_43 ?_
          have hPc : va_P D vwCl (wS cA (g 3) (g 4) (K.1 3) (K.2 1) (K.2 2)) H := hP.sub [12, 13] rfl
          refine vp_callSl (va_runV (As := []) (rest := [.long r_11]) ⟨hx, hb, hml, hown, hts⟩ (k_taken l D cA (g 3) (g 4) (K.1 3) (K.2 1) (K.2 2) ) (cwV 0 hts (sx_GV wd_121 wd_122 wd_123 wd_4 wd_124) rfl rfl rfl (by decide +kernel) ⟨Nat.le_of_ble_eq_true rfl, Nat.le_of_ble_eq_true rfl⟩) (sx_preV hK hPc (va_recv hK.1 hPc (ci := 2) (q0 := 0) rfl rfl)) rfl rfl hl.1 rfl (lv_room (Nat.le_of_ble_eq_true rfl)) d_X_remove_46 ⟨Nat.le_of_ble_eq_true rfl, Nat.le_of_ble_eq_true rfl⟩).run (fun r_13 hr_12 => ?_)
          subst hr_12
          refine lv_land hx hb d_X_remove_49 ?_
          refine lv_iload_n hx hb d_X_remove_50 rfl (lv_at hl 3 rfl) ?_
          refine vp_callSi (va_runS (As := [.long (r_11 &&& ((K.2 1) ||| (K.2 2))), .int (nI j)]) (rest := []) ⟨hx, hb, hml, hown, hts⟩ (k_holds l D cA (r_11 &&& ((K.2 1) ||| (K.2 2))) j (by omega)) (va_cwS 2 hts (sx_GS wd_220 wd_109 wd_1 wd_110) rfl rfl rfl (by decide +kernel) ⟨Nat.le_of_ble_eq_true rfl, Nat.le_of_ble_eq_true rfl⟩) (sx_preS hK (sx_P0 : va_P D vwCl [] H)) rfl rfl hl.1 rfl (lv_room (Nat.le_of_ble_eq_true rfl)) d_X_remove_51 ⟨Nat.le_of_ble_eq_true rfl, Nat.le_of_ble_eq_true rfl⟩).run (fun r_15 hr_14 => ?_)
          subst hr_14
          refine lv_if_ne (tgt := 63) hx hb d_X_remove_54 (by decide) (fun c_16 => ?_) (fun c_16 => ?_)
          · have w54 : (sx_isW n α a j && !decide (α 10 (60 * a + j) = 0)) = true := by have z := sx_bIn c_16; rw [sx_bt_and, hr_10 j (by omega), sx_RW_tk hW0 (by omega), decide_eq_true hj, decide_eq_true (show j < 60 by omega), Bool.true_and, Bool.true_and] at z; exact z
            refine lv_aload_n hx hb d_X_remove_63 rfl (lv_at hl 0 rfl) ?_
            refine va_getN (D := D) (ci := 0) (v := .ref (g 3)) (C := R_A) (T := T_A) (N := 12) hx hb hts iw_A hown hK.1 hP 9 rfl rfl 3 (by decide) (va_Nw.use rfl (hK.2.1 _ wd_166)) (fun _ h9 => h9) rfl d_X_remove_64 ?_
            refine lv_iload_n hx hb d_X_remove_67 rfl (lv_at hl 3 rfl) ?_
            have hPc : va_P D vwCl (wS cA (g 3) (g 4) (K.1 3) (K.2 1) (K.2 2)) H := hP.sub [12, 13] rfl
            have hDc : va_D A (wS cA (g 3) (g 4) (K.1 3) (K.2 1) (K.2 2)) := hD.sub [12, 13] (by decide) rfl
            refine sx_callv (wr := [(h 0, .inr (3, [.int (nI L), .ref (h 1), .ref (h 6), .ref (h 8), .int (nI na), .int (sx_bI sb)])), (h 1, .inr (1, [.ref (h 2), .ref (h 3), .ref (h 4), .ref (h 5), .int (nI n)])), (h 2, .inl (cA 0, 60, .inl (α 1))), (h 3, .inl (cA 2, 60, .inl (α 2))), (h 4, .inl (cA 3, 60, .inr (.inl ab))), (h 5, .inl (cA 3, 60, .inr (.inl un))), (h 6, .inr (2, [.ref (h 7), .long sf, .long sl])), (h 7, .inl (cA 0, 60, .inl sv)), (h 8, .inl (cA 4, 10, .inr (.inr (.inr (.inr acts))))), (g 0, .inr (0, [.ref (g 1), .ref (g 2), .int (nI (sx_dN α a)), .ref (g 3), .int (sx_bI (sx_fb α 12 a)), .int (sx_bI (sx_fb α 14 a)), .int (sx_bI (sx_fb α 13 a)), .int (nI (sx_oN α a + 1)), .int (α 7 a), .ref (g 5), .int (nI (sx_tN α a)), .long (K.2 0)])), (g 1, .inl (cA 0, 12, .inl (K.1 0))), (g 2, .inl (cA 1, 12, .inl (K.1 1))), (g 5, .inl (cA 0, 60, .inl (K.1 2)))]) (va_runV (As := [.int (nI j)]) (rest := []) ⟨hx, hb, hml, hown, hts⟩ (k_away l D cA H.size (g 3) (g 4) (K.1 3) (K.2 1) (K.2 2) j) (cwV 1 hts (sx_GV wd_125 wd_126 wd_127 wd_4 wd_128) rfl rfl rfl (by decide +kernel) ⟨Nat.le_of_ble_eq_true rfl, Nat.le_of_ble_eq_true rfl⟩) (sx_preVw hK hPc hDc (va_recv hK.1 hPc (ci := 2) (q0 := 0) rfl rfl)) rfl rfl hl.1 rfl (lv_room (Nat.le_of_ble_eq_true rfl)) d_X_remove_68 ⟨Nat.le_of_ble_eq_true rfl, Nat.le_of_ble_eq_true rfl⟩) hP hD hS hA [12, 13] [0, 1, 2, 3, 4, 5, 6, 7, 8, 9, 10, 11, 14] rfl rfl (by decide) (by decide) (fun u_19 H locs hr_17 hP hD hS => ?_)
            have hP : va_P D vwCl (wXA cA h g (nI L) (nI na) (sx_bI sb) (nI n) (α 1) (α 2) ab un sv sf sl acts (K.1 0) (K.1 1) (nI (sx_dN α a)) (sx_bI (sx_fb α 12 a)) (sx_bI (sx_fb α 14 a)) (sx_bI (sx_fb α 13 a)) (nI (sx_oN α a + 1)) (α 7 a) (K.1 2) (nI (sx_tN α a)) (K.2 0) (K.1 3) ((K.2 1) &&& (sx_on j ^^^ (-1))) ((K.2 2) &&& (sx_on j ^^^ (-1)))) H := hP.sub [0, 1, 2, 3, 4, 5, 6, 7, 8, 9, 10, 11, 13, 14, 12] rfl
            have hD : va_D A (wXA cA h g (nI L) (nI na) (sx_bI sb) (nI n) (α 1) (α 2) ab un sv sf sl acts (K.1 0) (K.1 1) (nI (sx_dN α a)) (sx_bI (sx_fb α 12 a)) (sx_bI (sx_fb α 14 a)) (sx_bI (sx_fb α 13 a)) (nI (sx_oN α a + 1)) (α 7 a) (K.1 2) (nI (sx_tN α a)) (K.2 0) (K.1 3) ((K.2 1) &&& (sx_on j ^^^ (-1))) ((K.2 2) &&& (sx_on j ^^^ (-1)))) := hD.sub [0, 1, 2, 3, 4, 5, 6, 7, 8, 9, 10, 11, 13, 14, 12] (by decide) rfl
            refine lv_iconst (v := nI 1) hx hb d_X_remove_71 (by decide +kernel) ?_
            have hP9 : va_P D vwCl (wXAk cA h g (nI L) (nI na) (sx_bI sb) (nI n) (α 1) (α 2) ab un sv sf sl acts (sx_kA (K.1 0) (K.1 1) (nI (sx_dN α a)) (sx_bI (sx_fb α 12 a)) (sx_bI (sx_fb α 14 a)) (sx_bI (sx_fb α 13 a)) (nI (sx_oN α a + 1)) (α 7 a) (K.1 2) (nI (sx_tN α a)) (K.2 0) (K.1 3) ((K.2 1) &&& (sx_on j ^^^ (-1))) ((K.2 2) &&& (sx_on j ^^^ (-1))))) H := hP
            have hD9 : va_D A (wXAk cA h g (nI L) (nI na) (sx_bI sb) (nI n) (α 1) (α 2) ab un sv sf sl acts (sx_kA (K.1 0) (K.1 1) (nI (sx_dN α a)) (sx_bI (sx_fb α 12 a)) (sx_bI (sx_fb α 14 a)) (sx_bI (sx_fb α 13 a)) (nI (sx_oN α a + 1)) (α 7 a) (K.1 2) (nI (sx_tN α a)) (K.2 0) (K.1 3) ((K.2 1) &&& (sx_on j ^^^ (-1))) ((K.2 2) &&& (sx_on j ^^^ (-1))))) := hD
            exact W.iret (v := nI 1) hx hb hr (fun t ht hW => ⟨⟨nI 1, (sx_kA (K.1 0) (K.1 1) (nI (sx_dN α a)) (sx_bI (sx_fb α 12 a)) (sx_bI (sx_fb α 14 a)) (sx_bI (sx_fb α 13 a)) (nI (sx_oN α a + 1)) (α 7 a) (K.1 2) (nI (sx_tN α a)) (K.2 0) (K.1 3) ((K.2 1) &&& (sx_on j ^^^ (-1))) ((K.2 2) &&& (sx_on j ^^^ (-1)))), rfl, (sx_fin2 (sx_do_yes (sb := sb) (v := 0) (by omega) (sx_ok_t hth (sx_has_nI (by omega) hj) (sx_has0 h1n hn60)) hne (by unfold sx_rmO; rw [nI_clamp (by omega)]; exact w54)) rfl (sx_RA_w hDO htp htsb (sx_W_away hW0 (by omega)) e4 e12 e14 e13 e6 rfl e8)), by rw [ht]; exact hP9, by rw [hAe]; exact hD9⟩, hS.F ht⟩) hS.2.2 d_X_remove_72
          · have w54 : (sx_isW n α a j && !decide (α 10 (60 * a + j) = 0)) = false := by have z := sx_bI0 c_16; rw [sx_bt_and, hr_10 j (by omega), sx_RW_tk hW0 (by omega), decide_eq_true hj, decide_eq_true (show j < 60 by omega), Bool.true_and, Bool.true_and] at z; exact z
            refine lv_aload_n hx hb d_X_remove_57 rfl (lv_at hl 1 rfl) ?_
            refine lv_aload_n hx hb d_X_remove_58 rfl (lv_at hl 0 rfl) ?_
            refine sx_calli (wr := []) (va_runV (As := [.ref (g 0)]) (rest := []) ⟨hx, hb, hml, hown, hts⟩ (k_refuse l D cA H.size h g (nI L) (nI na) sb (nI n) (α 1) (α 2) ab un sv sf sl acts (K.1 0) (K.1 1) (nI (sx_dN α a)) (sx_bI (sx_fb α 12 a)) (sx_bI (sx_fb α 14 a)) (sx_bI (sx_fb α 13 a)) (nI (sx_oN α a + 1)) (α 7 a) (K.1 2) (nI (sx_tN α a)) (K.2 0) (K.1 3) (K.2 1) (K.2 2)) (cwV 1 hts (sx_GV wd_297 wd_299 ws_8 wd_1 wd_300) rfl rfl rfl (by decide +kernel) ⟨Nat.le_of_ble_eq_true rfl, Nat.le_of_ble_eq_true rfl⟩) (sx_preVw hK hP hD (va_recv hK.1 hP (ci := 3) (q0 := 0) rfl rfl)) rfl rfl hl.1 rfl (lv_room (Nat.le_of_ble_eq_true rfl)) d_X_remove_59 ⟨Nat.le_of_ble_eq_true rfl, Nat.le_of_ble_eq_true rfl⟩) hP hD hS hA [0, 1, 2, 3, 4, 5, 6, 7, 8, 9, 10, 11, 12, 13, 14] [] rfl rfl (by decide) (by decide) (fun r_21 u_22 H locs hr_20 hP hD hS => ?_)
            have hP : va_P D vwCl (wXA cA h g (nI L) (nI na) (sx_bI sb) (nI n) (α 1) (α 2) ab un sv sf sl acts (K.1 0) (K.1 1) (nI (sx_dN α a)) (sx_bI (sx_fb α 12 a)) (sx_bI (sx_fb α 14 a)) (bif sb then 1 else (sx_bI (sx_fb α 13 a))) (nI (sx_oN α a + 1)) ((α 7 a) + 1) (K.1 2) (nI (sx_tN α a)) (K.2 0) (K.1 3) (K.2 1) (K.2 2)) H := hP.sub [0, 1, 2, 3, 4, 5, 6, 7, 8, 9, 10, 11, 12, 13, 14] rfl
            have hD : va_D A (wXA cA h g (nI L) (nI na) (sx_bI sb) (nI n) (α 1) (α 2) ab un sv sf sl acts (K.1 0) (K.1 1) (nI (sx_dN α a)) (sx_bI (sx_fb α 12 a)) (sx_bI (sx_fb α 14 a)) (bif sb then 1 else (sx_bI (sx_fb α 13 a))) (nI (sx_oN α a + 1)) ((α 7 a) + 1) (K.1 2) (nI (sx_tN α a)) (K.2 0) (K.1 3) (K.2 1) (K.2 2)) := hD.sub [0, 1, 2, 3, 4, 5, 6, 7, 8, 9, 10, 11, 12, 13, 14] (by decide) rfl
            subst hr_20
            have hP9 : va_P D vwCl (wXAk cA h g (nI L) (nI na) (sx_bI sb) (nI n) (α 1) (α 2) ab un sv sf sl acts (sx_kA (K.1 0) (K.1 1) (nI (sx_dN α a)) (sx_bI (sx_fb α 12 a)) (sx_bI (sx_fb α 14 a)) (bif sb then 1 else (sx_bI (sx_fb α 13 a))) (nI (sx_oN α a + 1)) ((α 7 a) + 1) (K.1 2) (nI (sx_tN α a)) (K.2 0) (K.1 3) (K.2 1) (K.2 2))) H := hP
            have hD9 : va_D A (wXAk cA h g (nI L) (nI na) (sx_bI sb) (nI n) (α 1) (α 2) ab un sv sf sl acts (sx_kA (K.1 0) (K.1 1) (nI (sx_dN α a)) (sx_bI (sx_fb α 12 a)) (sx_bI (sx_fb α 14 a)) (bif sb then 1 else (sx_bI (sx_fb α 13 a))) (nI (sx_oN α a + 1)) ((α 7 a) + 1) (K.1 2) (nI (sx_tN α a)) (K.2 0) (K.1 3) (K.2 1) (K.2 2))) := hD
            exact W.iret (v := nI 0) hx hb hr (fun t ht hW => ⟨⟨nI 0, (sx_kA (K.1 0) (K.1 1) (nI (sx_dN α a)) (sx_bI (sx_fb α 12 a)) (sx_bI (sx_fb α 14 a)) (bif sb then 1 else (sx_bI (sx_fb α 13 a))) (nI (sx_oN α a + 1)) ((α 7 a) + 1) (K.1 2) (nI (sx_tN α a)) (K.2 0) (K.1 3) (K.2 1) (K.2 2)), rfl, (sx_fin2 (sx_do_ref (sb := sb) (v := 0) (sx_ok_t hth (sx_has_nI (by omega) hj) (sx_has0 h1n hn60)) hne (by unfold sx_rmO; rw [nI_clamp (by omega)]; exact w54)) rfl (sx_RA_of hDO htp htsb hW0 e4 e12 e14 (sx_ref_br e13 rfl) (sx_ref_op e6) sx_ref_rf e8)), by rw [ht]; exact hP9, by rw [hAe]; exact hD9⟩, hS.F ht⟩) hS.2.2 d_X_remove_62
        · exact absurd c_9 (by decide)
      · have hoE : sx_oN α a = L := by omega
        have heq : α 6 a = nI L := by rw [← e6, hoE]
        have hPc : va_P D vwCl (wA cA (g 0) (g 1) (g 2) (g 3) (g 4) (g 5) (K.1 0) (K.1 1) (nI (sx_dN α a)) (sx_bI (sx_fb α 12 a)) (sx_bI (sx_fb α 14 a)) (sx_bI (sx_fb α 13 a)) (nI (sx_oN α a)) (α 7 a) (K.1 2) (nI (sx_tN α a)) (K.2 0) (K.1 3) (K.2 1) (K.2 2)) s.heap := hP.sub [9, 10, 11, 12, 13, 14] rfl
        have hDc : va_D A (wA cA (g 0) (g 1) (g 2) (g 3) (g 4) (g 5) (K.1 0) (K.1 1) (nI (sx_dN α a)) (sx_bI (sx_fb α 12 a)) (sx_bI (sx_fb α 14 a)) (sx_bI (sx_fb α 13 a)) (nI (sx_oN α a)) (α 7 a) (K.1 2) (nI (sx_tN α a)) (K.2 0) (K.1 3) (K.2 1) (K.2 2)) := hD.sub [9, 10, 11, 12, 13, 14] (by decide) rfl
        refine sx_calli (wr := [(h 0, .inr (3, [.int (nI L), .ref (h 1), .ref (h 6), .ref (h 8), .int (nI na), .int (sx_bI sb)])), (h 1, .inr (1, [.ref (h 2), .ref (h 3), .ref (h 4), .ref (h 5), .int (nI n)])), (h 2, .inl (cA 0, 60, .inl (α 1))), (h 3, .inl (cA 2, 60, .inl (α 2))), (h 4, .inl (cA 3, 60, .inr (.inl ab))), (h 5, .inl (cA 3, 60, .inr (.inl un))), (h 6, .inr (2, [.ref (h 7), .long sf, .long sl])), (h 7, .inl (cA 0, 60, .inl sv)), (h 8, .inl (cA 4, 10, .inr (.inr (.inr (.inr acts)))))]) (va_runV (As := [.int (nI L)]) (rest := []) ⟨hx, hb, hml, hown, hts⟩ (k_opF l D cA s.heap.size (g 0) (g 1) (g 2) (g 3) (g 4) (g 5) (K.1 0) (K.1 1) (nI (sx_dN α a)) (sx_bI (sx_fb α 12 a)) (sx_bI (sx_fb α 14 a)) (sx_bI (sx_fb α 13 a)) (sx_oN α a) (α 7 a) (K.1 2) (nI (sx_tN α a)) (K.2 0) (K.1 3) (K.2 1) (K.2 2) L hoE (by omega)) (cwV 1 hts (sx_GV wd_270 wd_271 wd_272 wd_6 wd_273) rfl rfl rfl (by decide +kernel) ⟨Nat.le_of_ble_eq_true rfl, Nat.le_of_ble_eq_true rfl⟩) (sx_preVw hK hPc hDc (va_recv hK.1 hPc (ci := 0) (q0 := 0) rfl rfl)) rfl rfl hl.1 rfl (lv_room (Nat.le_of_ble_eq_true rfl)) d_X_remove_28 ⟨Nat.le_of_ble_eq_true rfl, Nat.le_of_ble_eq_true rfl⟩) hP hD hS hA [9, 10, 11, 12, 13, 14] [0, 1, 2, 3, 4, 5, 6, 7, 8] rfl rfl (by decide) (by decide) (fun r_24 u_25 H locs hr_23 hP hD hS => ?_)
        have hP : va_P D vwCl (wXA cA h g (nI L) (nI na) (sx_bI sb) (nI n) (α 1) (α 2) ab un sv sf sl acts (K.1 0) (K.1 1) (nI (sx_dN α a)) (sx_bI (sx_fb α 12 a)) (sx_bI (sx_fb α 14 a)) (nI 1) (nI (sx_oN α a)) (α 7 a) (K.1 2) (nI (sx_tN α a)) (K.2 0) (K.1 3) (K.2 1) (K.2 2)) H := hP.sub [0, 1, 2, 3, 4, 5, 6, 7, 8, 9, 10, 11, 12, 13, 14] rfl
        have hD : va_D A (wXA cA h g (nI L) (nI na) (sx_bI sb) (nI n) (α 1) (α 2) ab un sv sf sl acts (K.1 0) (K.1 1) (nI (sx_dN α a)) (sx_bI (sx_fb α 12 a)) (sx_bI (sx_fb α 14 a)) (nI 1) (nI (sx_oN α a)) (α 7 a) (K.1 2) (nI (sx_tN α a)) (K.2 0) (K.1 3) (K.2 1) (K.2 2)) := hD.sub [0, 1, 2, 3, 4, 5, 6, 7, 8, 9, 10, 11, 12, 13, 14] (by decide) rfl
        subst hr_23
        refine lv_if_ne (tgt := 37) hx hb d_X_remove_31 (by decide) (fun c_26 => ?_) (fun c_26 => ?_)
        · exact absurd c_26 (by decide)
        · refine lv_bipush (v := (-9)) hx hb d_X_remove_34 (by decide +kernel) ?_
          have hP9 : va_P D vwCl (wXAk cA h g (nI L) (nI na) (sx_bI sb) (nI n) (α 1) (α 2) ab un sv sf sl acts (sx_kA (K.1 0) (K.1 1) (nI (sx_dN α a)) (sx_bI (sx_fb α 12 a)) (sx_bI (sx_fb α 14 a)) (nI 1) (nI (sx_oN α a)) (α 7 a) (K.1 2) (nI (sx_tN α a)) (K.2 0) (K.1 3) (K.2 1) (K.2 2))) H := hP
          have hD9 : va_D A (wXAk cA h g (nI L) (nI na) (sx_bI sb) (nI n) (α 1) (α 2) ab un sv sf sl acts (sx_kA (K.1 0) (K.1 1) (nI (sx_dN α a)) (sx_bI (sx_fb α 12 a)) (sx_bI (sx_fb α 14 a)) (nI 1) (nI (sx_oN α a)) (α 7 a) (K.1 2) (nI (sx_tN α a)) (K.2 0) (K.1 3) (K.2 1) (K.2 2))) := hD
          exact W.iret (v := (-9)) hx hb hr (fun t ht hW => ⟨⟨(-9), (sx_kA (K.1 0) (K.1 1) (nI (sx_dN α a)) (sx_bI (sx_fb α 12 a)) (sx_bI (sx_fb α 14 a)) (nI 1) (nI (sx_oN α a)) (α 7 a) (K.1 2) (nI (sx_tN α a)) (K.2 0) (K.1 3) (K.2 1) (K.2 2)), rfl, (sx_fin2 (sx_do_lim (sb := sb) (v := 0) (sx_ok_t hth c_5 (sx_has0 h1n hn60)) heq) rfl (sx_RA_of hDO htp htsb hW0 e4 e12 e14 (by rw [sx_at]; rfl) e6 rfl e8)), by rw [ht]; exact hP9, by rw [hAe]; exact hD9⟩, hS.F ht⟩) hS.2.2 d_X_remove_36
    · have c_5 : (sx_has n p) = false := sx_bI0 c_5
      refine lv_iconst (v := (-1)) hx hb d_X_remove_21 (by decide +kernel) ?_
      have hP9 : va_P D vwCl (wXAk cA h g (nI L) (nI na) (sx_bI sb) (nI n) (α 1) (α 2) ab un sv sf sl acts (sx_kA (K.1 0) (K.1 1) (nI (sx_dN α a)) (sx_bI (sx_fb α 12 a)) (sx_bI (sx_fb α 14 a)) (sx_bI (sx_fb α 13 a)) (nI (sx_oN α a)) (α 7 a) (K.1 2) (nI (sx_tN α a)) (K.2 0) (K.1 3) (K.2 1) (K.2 2))) s.heap := hP
      have hD9 : va_D A (wXAk cA h g (nI L) (nI na) (sx_bI sb) (nI n) (α 1) (α 2) ab un sv sf sl acts (sx_kA (K.1 0) (K.1 1) (nI (sx_dN α a)) (sx_bI (sx_fb α 12 a)) (sx_bI (sx_fb α 14 a)) (sx_bI (sx_fb α 13 a)) (nI (sx_oN α a)) (α 7 a) (K.1 2) (nI (sx_tN α a)) (K.2 0) (K.1 3) (K.2 1) (K.2 2))) := hD
      exact W.iret (v := (-1)) hx hb hr (fun t ht hW => ⟨⟨(-1), (sx_kA (K.1 0) (K.1 1) (nI (sx_dN α a)) (sx_bI (sx_fb α 12 a)) (sx_bI (sx_fb α 14 a)) (sx_bI (sx_fb α 13 a)) (nI (sx_oN α a)) (α 7 a) (K.1 2) (nI (sx_tN α a)) (K.2 0) (K.1 3) (K.2 1) (K.2 2)), rfl, (sx_fin2 (sx_do_no (sb := sb) (v := 0) (sx_ok_p c_5)) rfl (sx_RA_of hDO htp htsb hW0 e4 e12 e14 e13 e6 rfl e8)), by rw [ht]; exact hP9, by rw [hAe]; exact hD9⟩, hS.F ht⟩) hS.2.2 d_X_remove_22
  · refine va_csq (va_runV (As := [.int (nI a)]) (rest := []) ⟨hx, hb, hml, hown, hts⟩ (k_runN l D cA h g (nI L) na (sx_bI sb) (nI n) (α 1) (α 2) ab un sv sf sl acts (K.1 0) (K.1 1) (nI (sx_dN α a)) (sx_fb α 12 a) (sx_bI (sx_fb α 14 a)) (sx_bI (sx_fb α 13 a)) (nI (sx_oN α a)) (α 7 a) (K.1 2) (nI (sx_tN α a)) (K.2 0) (K.1 3) (K.2 1) (K.2 2) a (by omega) (by omega) hacts hth) (cwV 1 hts (sx_GV wd_266 wd_268 ws_4 wd_1 wd_269) rfl rfl rfl (by decide +kernel) ⟨Nat.le_of_ble_eq_true rfl, Nat.le_of_ble_eq_true rfl⟩) (sx_preV hK hP (va_recv hK.1 hP (ci := 3) (q0 := 0) rfl rfl)) rfl rfl hl.1 rfl (lv_room (Nat.le_of_ble_eq_true rfl)) d_X_remove_2 ⟨Nat.le_of_ble_eq_true rfl, Nat.le_of_ble_eq_true rfl⟩).run (fun r_28 hr_27 => ?_)
    subst hr_27
    refine sx_asv (y := .null) rfl ?_
    refine lv_astore_nN (lv' := [(3, .null), (0, .ref (h 0)), (1, .int (nI a)), (2, .int p)]) hx hb d_X_remove_5 rfl hl (by decide) rfl (fun ls hl => ?_)
    refine lv_aload_nN hx hb d_X_remove_6 rfl (lv_at hl 0 rfl) ?_
    refine lv_ifnullN (tgt := 21) hx hb d_X_remove_7 (by decide) ?_
    refine lv_iconst (v := (-1)) hx hb d_X_remove_21 (by decide +kernel) ?_
    have hP9 : va_P D vwCl (wXAk cA h g (nI L) (nI na) (sx_bI sb) (nI n) (α 1) (α 2) ab un sv sf sl acts (sx_kA (K.1 0) (K.1 1) (nI (sx_dN α a)) (sx_bI (sx_fb α 12 a)) (sx_bI (sx_fb α 14 a)) (sx_bI (sx_fb α 13 a)) (nI (sx_oN α a)) (α 7 a) (K.1 2) (nI (sx_tN α a)) (K.2 0) (K.1 3) (K.2 1) (K.2 2))) s.heap := hP
    have hD9 : va_D A (wXAk cA h g (nI L) (nI na) (sx_bI sb) (nI n) (α 1) (α 2) ab un sv sf sl acts (sx_kA (K.1 0) (K.1 1) (nI (sx_dN α a)) (sx_bI (sx_fb α 12 a)) (sx_bI (sx_fb α 14 a)) (sx_bI (sx_fb α 13 a)) (nI (sx_oN α a)) (α 7 a) (K.1 2) (nI (sx_tN α a)) (K.2 0) (K.1 3) (K.2 1) (K.2 2))) := hD
    exact W.iret (v := (-1)) hx hb hr (fun t ht hW => ⟨⟨(-1), (sx_kA (K.1 0) (K.1 1) (nI (sx_dN α a)) (sx_bI (sx_fb α 12 a)) (sx_bI (sx_fb α 14 a)) (sx_bI (sx_fb α 13 a)) (nI (sx_oN α a)) (α 7 a) (K.1 2) (nI (sx_tN α a)) (K.2 0) (K.1 3) (K.2 1) (K.2 2)), rfl, (sx_fin2 (sx_do_no (sb := sb) (v := 0) (sx_ok_th hth)) rfl (sx_RA_of hDO htp htsb hW0 e4 e12 e14 e13 e6 rfl e8)), by rw [ht]; exact hP9, by rw [hAe]; exact hD9⟩, hS.F ht⟩) hS.2.2 d_X_remove_22

set_option maxHeartbeats 4000000 in
set_option maxRecDepth 100000 in
theorem k_list (l : Launch) (D : va_G) (cA : Nat → ClassId) (sz : Nat) (h g : Nat → Nat) (n na L : Nat) (sb : Bool) (α : sx_A) (ab un : Nat → Int64) (sv : Nat → Int32) (sf sl : Int64) (acts : Nat → Option Nat) (a : Nat) (K : sx_KA) (hI : sx_INV n na L α) (ha : a < na) (hR : sx_RP n (α 1) ab un) (hS0 : sx_RW (α 3) sv sf sl) (hRA : sx_RA α a K) (hacts : acts a = some (g 0)) (p ii : Int32) : Met l y_X_list w_X_list ({ frames := 2, cells := 0, slots := 0, locals := 43 }) (sx_Pw D cA [.ref (h 0), .int (nI a), .int p, .int ii] (wXAk cA h g (nI L) (nI na) (sx_bI sb) (nI n) (α 1) (α 2) ab un sv sf sl acts K) sz) (va_Qi (fun r (u : sx_KA) => r = sx_listA n L α a p ii ∧ sx_RA (sx_mayS n L α a p 0) a u) (sx_Bw D (wXAk cA h g (nI L) (nI na) (sx_bI sb) (nI n) (α 1) (α 2) ab un sv sf sl acts K) sz (fun u => wXAk cA h g (nI L) (nI na) (sx_bI sb) (nI n) (α 1) (α 2) ab un sv sf sl acts u)) (va_A (wXAk cA h g (nI L) (nI na) (sx_bI sb) (nI n) (α 1) (α 2) ab un sv sf sl acts K) sz)) 0 0 (va_A (wXAk cA h g (nI L) (nI na) (sx_bI sb) (nI n) (α 1) (α 2) ab un sv sf sl acts K) sz) := by
  refine Met.ofW (cc := b_X_list) (maxL := 5) (ret := (some .int)) (by decide) rfl ?_
  intro pG eG s m args below meth cG s₁ B hml hv
  obtain ⟨rfl, hsz, hP, hK, hD0⟩ := hv
  have hx := B.exec
  have hb := B.bytes
  have hr := B.returns
  have hts0 := atoms_spec (ws := w_X_list) B.pre
  have hts : ∀ w ∈ sx_gw, w.before _ s = true := fun w h => hts0 w (List.mem_cons_of_mem _ h)
  have hown : s.vm.findClass R_X = some m.cls := findClass_of_methodNamed B.named
  have hlocks := B.notSynchronized
  subst hsz
  have hD := hD0.self (sz := s.heap.size)
  generalize hAe : va_A (wXAk cA h g (nI L) (nI na) (sx_bI sb) (nI n) (α 1) (α 2) ab un sv sf sl acts K) s.heap.size = A at hD ⊢
  have hA : ∀ q : Nat, s.heap.size ≤ q → A q := fun q h => by rw [← hAe]; exact Or.inr h
  have hS : va_S A s.heap s.heap [] := va_S.rf
  have hl := lv_entry ([.ref (h 0), .int (nI a), .int p, .int ii]) (n := 5) (Nat.le_of_ble_eq_true rfl)
  rw [lg_entry_eq]
  generalize (lg_sl ([.ref (h 0), .int (nI a), .int p, .int ii]) ++ List.replicate (5 - (lg_sl ([.ref (h 0), .int (nI a), .int p, .int ii])).length) Slot.unset).toArray = ls at hl ⊢
  have hl : lv_has ls 5 [(0, .ref (h 0)), (1, .int (nI a)), (2, .int p), (3, .int ii)] := hl
  have hn31 := sx_INV_n hI
  have hn60 := hI.1.1.2
  have h1n := hI.1.1.1
  have hAc := sx_INV_A hI ha
  have hd12 := (sx_dN_ok hAc).1
  have hna := hI.1.2.1
  have hL5 := hI.1.2.2.2
  obtain ⟨hDO, htp, htsb, hW0, f4, f12, f14, f13, f6, f7, f8⟩ := id hRA
  have e4 : nI (sx_dN α a) = α 4 a := (sx_dN_ok hAc).2.symm
  have e12 : sx_bI (sx_fb α 12 a) = α 12 a := sx_fb_ok hAc.2.2.2.2.2.1
  have e13 : sx_bI (sx_fb α 13 a) = α 13 a := sx_fb_ok hAc.2.2.2.2.2.2.1
  have e14 : sx_bI (sx_fb α 14 a) = α 14 a := sx_fb_ok hAc.2.2.2.2.2.2.2
  have e6 : nI (sx_oN α a) = α 6 a := (sx_oN_ok hAc hL5).2
  have oL := (sx_oN_ok hAc hL5).1
  have e8 : nI (sx_tN α a) = α 8 a := (sx_tN_ok hAc).2.symm
  have t60 := (sx_tN_ok hAc).1
  rw [sx_XA_eq hAc hL5 hRA] at hP hD
  refine lv_aload_n hx hb d_X_list_0 rfl (lv_at hl 0 rfl) ?_
  refine lv_iload_n hx hb d_X_list_1 rfl (lv_at hl 1 rfl) ?_
  rcases Bool.eq_false_or_eq_true (sx_fb α 12 a) with hth | hth
  · refine va_csq (va_runV (As := [.int (nI a)]) (rest := []) ⟨hx, hb, hml, hown, hts⟩ (k_run l D cA h g (nI L) na (sx_bI sb) (nI n) (α 1) (α 2) ab un sv sf sl acts (K.1 0) (K.1 1) (nI (sx_dN α a)) (sx_fb α 12 a) (sx_bI (sx_fb α 14 a)) (sx_bI (sx_fb α 13 a)) (nI (sx_oN α a)) (α 7 a) (K.1 2) (nI (sx_tN α a)) (K.2 0) (K.1 3) (K.2 1) (K.2 2) a (by omega) (by omega) hacts hth) (cwV 1 hts (sx_GV wd_266 wd_268 ws_4 wd_1 wd_269) rfl rfl rfl (by decide +kernel) ⟨Nat.le_of_ble_eq_true rfl, Nat.le_of_ble_eq_true rfl⟩) (sx_preV hK hP (va_recv hK.1 hP (ci := 3) (q0 := 0) rfl rfl)) rfl rfl hl.1 rfl (lv_room (Nat.le_of_ble_eq_true rfl)) d_X_list_2 ⟨Nat.le_of_ble_eq_true rfl, Nat.le_of_ble_eq_true rfl⟩).run (fun r_2 hr_1 => ?_)
    subst hr_1
    refine sx_asv (y := .ref (g 0)) rfl ?_
    refine lv_astore (lv' := [(4, .ref (g 0)), (0, .ref (h 0)), (1, .int (nI a)), (2, .int p), (3, .int ii)]) hx hb d_X_list_5 hl (by decide) rfl (fun ls hl => ?_)
    refine lv_aload hx hb d_X_list_7 (lv_at hl 0 rfl) ?_
    refine lv_ifnull hx hb d_X_list_9 ?_
    refine lv_aload_n hx hb d_X_list_12 rfl (lv_at hl 1 rfl) ?_
    refine va_get (D := D) (ci := 3) (v := .ref (h 1)) (C := R_X) (T := T_X) (N := 6) hx hb hts iw_X hown hK.1 hP 0 rfl rfl 1 (by decide) (hts _ wd_70) (fun _ h9 => h9) rfl d_X_list_13 ?_
    refine lv_iload_n hx hb d_X_list_16 rfl (lv_at hl 3 rfl) ?_
    have hPc : va_P D vwCl (wP cA (h 1) (h 2) (h 3) (h 4) (h 5) (nI n) (α 1) (α 2) ab un) s.heap := hP.sub [1, 2, 3, 4, 5] rfl
    refine vp_callSi (va_runV (As := [.int p]) (rest := []) ⟨hx, hb, hml, hown, hts⟩ (k_has l D cA (h 1) (h 2) (h 3) (h 4) (h 5) n (α 1) (α 2) ab un p) (cwV 1 hts (sx_GV wd_92 wd_93 wd_94 wd_3 wd_95) rfl rfl rfl (by decide +kernel) ⟨Nat.le_of_ble_eq_true rfl, Nat.le_of_ble_eq_true rfl⟩) (sx_preV hK hPc (va_recv hK.1 hPc (ci := 1) (q0 := 0) rfl rfl)) rfl rfl hl.1 rfl (lv_room (Nat.le_of_ble_eq_true rfl)) d_X_list_17 ⟨Nat.le_of_ble_eq_true rfl, Nat.le_of_ble_eq_true rfl⟩).run (fun r_4 hr_3 => ?_)
    subst hr_3
    refine lv_if_ne (tgt := 25) hx hb d_X_list_20 (by decide) (fun c_5 => ?_) (fun c_5 => ?_)
    · have c_5 : (sx_has n p) = true := sx_bIn c_5
      obtain ⟨j, hj, rfl⟩ := sx_has_t (by omega) c_5
      refine lv_aload hx hb d_X_list_25 (lv_at hl 0 rfl) ?_
      refine lv_aload_n hx hb d_X_list_27 rfl (lv_at hl 1 rfl) ?_
      refine va_get (D := D) (ci := 3) (v := .int (nI L)) (C := R_X) (T := T_X) (N := 6) hx hb hts iw_X hown hK.1 hP 0 rfl rfl 0 (by decide) (hts _ wd_69) (fun _ h9 => h9) rfl d_X_list_28 ?_
      rcases Nat.lt_or_ge (sx_oN α a) L with hoL | hoL
      · have hne : ¬ α 6 a = nI L := fun z => by rw [← e6] at z; have := (nI_eq (by omega) (by omega)).mp z; omega
        have hPc : va_P D vwCl (wA cA (g 0) (g 1) (g 2) (g 3) (g 4) (g 5) (K.1 0) (K.1 1) (nI (sx_dN α a)) (sx_bI (sx_fb α 12 a)) (sx_bI (sx_fb α 14 a)) (sx_bI (sx_fb α 13 a)) (nI (sx_oN α a)) (α 7 a) (K.1 2) (nI (sx_tN α a)) (K.2 0) (K.1 3) (K.2 1) (K.2 2)) s.heap := hP.sub [9, 10, 11, 12, 13, 14] rfl
        have hDc : va_D A (wA cA (g 0) (g 1) (g 2) (g 3) (g 4) (g 5) (K.1 0) (K.1 1) (nI (sx_dN α a)) (sx_bI (sx_fb α 12 a)) (sx_bI (sx_fb α 14 a)) (sx_bI (sx_fb α 13 a)) (nI (sx_oN α a)) (α 7 a) (K.1 2) (nI (sx_tN α a)) (K.2 0) (K.1 3) (K.2 1) (K.2 2)) := hD.sub [9, 10, 11, 12, 13, 14] (by decide) rfl
        refine sx_calli (wr := [(h 0, .inr (3, [.int (nI L), .ref (h 1), .ref (h 6), .ref (h 8), .int (nI na), .int (sx_bI sb)])), (h 1, .inr (1, [.ref (h 2), .ref (h 3), .ref (h 4), .ref (h 5), .int (nI n)])), (h 2, .inl (cA 0, 60, .inl (α 1))), (h 3, .inl (cA 2, 60, .inl (α 2))), (h 4, .inl (cA 3, 60, .inr (.inl ab))), (h 5, .inl (cA 3, 60, .inr (.inl un))), (h 6, .inr (2, [.ref (h 7), .long sf, .long sl])), (h 7, .inl (cA 0, 60, .inl sv)), (h 8, .inl (cA 4, 10, .inr (.inr (.inr (.inr acts)))))]) (va_runV (As := [.int (nI L)]) (rest := []) ⟨hx, hb, hml, hown, hts⟩ (k_op l D cA s.heap.size (g 0) (g 1) (g 2) (g 3) (g 4) (g 5) (K.1 0) (K.1 1) (nI (sx_dN α a)) (sx_bI (sx_fb α 12 a)) (sx_bI (sx_fb α 14 a)) (sx_bI (sx_fb α 13 a)) (sx_oN α a) (α 7 a) (K.1 2) (nI (sx_tN α a)) (K.2 0) (K.1 3) (K.2 1) (K.2 2) L (by omega) (by omega)) (cwV 1 hts (sx_GV wd_270 wd_271 wd_272 wd_6 wd_273) rfl rfl rfl (by decide +kernel) ⟨Nat.le_of_ble_eq_true rfl, Nat.le_of_ble_eq_true rfl⟩) (sx_preVw hK hPc hDc (va_recv hK.1 hPc (ci := 0) (q0 := 0) rfl rfl)) rfl rfl hl.1 rfl (lv_room (Nat.le_of_ble_eq_true rfl)) d_X_list_31 ⟨Nat.le_of_ble_eq_true rfl, Nat.le_of_ble_eq_true rfl⟩) hP hD hS hA [9, 10, 11, 12, 13, 14] [0, 1, 2, 3, 4, 5, 6, 7, 8] rfl rfl (by decide) (by decide) (fun r_7 u_8 H locs hr_6 hP hD hS => ?_)
        have hP : va_P D vwCl (wXA cA h g (nI L) (nI na) (sx_bI sb) (nI n) (α 1) (α 2) ab un sv sf sl acts (K.1 0) (K.1 1) (nI (sx_dN α a)) (sx_bI (sx_fb α 12 a)) (sx_bI (sx_fb α 14 a)) (sx_bI (sx_fb α 13 a)) (nI (sx_oN α a + 1)) (α 7 a) (K.1 2) (nI (sx_tN α a)) (K.2 0) (K.1 3) (K.2 1) (K.2 2)) H := hP.sub [0, 1, 2, 3, 4, 5, 6, 7, 8, 9, 10, 11, 12, 13, 14] rfl
        have hD : va_D A (wXA cA h g (nI L) (nI na) (sx_bI sb) (nI n) (α 1) (α 2) ab un sv sf sl acts (K.1 0) (K.1 1) (nI (sx_dN α a)) (sx_bI (sx_fb α 12 a)) (sx_bI (sx_fb α 14 a)) (sx_bI (sx_fb α 13 a)) (nI (sx_oN α a + 1)) (α 7 a) (K.1 2) (nI (sx_tN α a)) (K.2 0) (K.1 3) (K.2 1) (K.2 2)) := hD.sub [0, 1, 2, 3, 4, 5, 6, 7, 8, 9, 10, 11, 12, 13, 14] (by decide) rfl
        subst hr_6
        refine lv_if_ne (tgt := 40) hx hb d_X_list_34 (by decide) (fun c_9 => ?_) (fun c_9 => ?_)
        · refine lv_aload_n hx hb d_X_list_40 rfl (lv_at hl 1 rfl) ?_
          refine va_get (D := D) (ci := 3) (v := .ref (h 1)) (C := R_X) (T := T_X) (N := 6) hx hb hts iw_X hown hK.1 hP 0 rfl rfl 1 (by decide) (hts _ wd_70) (fun _ h9 => h9) rfl d_X_list_41 ?_
          refine lv_iload_n hx hb d_X_list_44 rfl (lv_at hl 3 rfl) ?_
          refine lv_aload hx hb d_X_list_45 (lv_at hl 0 rfl) ?_
          refine va_getN (D := D) (ci := 0) (v := .ref (g 3)) (C := R_A) (T := T_A) (N := 12) hx hb hts iw_A hown hK.1 hP 9 rfl rfl 3 (by decide) (va_Nw.use rfl (hK.2.1 _ wd_166)) (fun _ h9 => h9) rfl d_X_list_47 ?_
          have hPc : va_P D vwCl (wS cA (g 3) (g 4) (K.1 3) (K.2 1) (K.2 2)) H := hP.sub [12, 13] rfl
          refine vp_callSl (va_runV (As := []) (rest := [.int (nI j), .ref (h 1)]) ⟨hx, hb, hml, hown, hts⟩ (k_taken l D cA (g 3) (g 4) (K.1 3) (K.2 1) (K.2 2) ) (cwV 0 hts (sx_GV wd_121 wd_122 wd_123 wd_4 wd_124) rfl rfl rfl (by decide +kernel) ⟨Nat.le_of_ble_eq_true rfl, Nat.le_of_ble_eq_true rfl⟩) (sx_preV hK hPc (va_recv hK.1 hPc (ci := 2) (q0 := 0) rfl rfl)) rfl rfl hl.1 rfl (lv_room (Nat.le_of_ble_eq_true rfl)) d_X_list_50 ⟨Nat.le_of_ble_eq_true rfl, Nat.le_of_ble_eq_true rfl⟩).run (fun r_11 hr_10 => ?_)
          subst hr_10
          refine lv_iload_n hx hb d_X_list_53 rfl (lv_at hl 4 rfl) ?_
          have hPc : va_P D vwCl (wP cA (h 1) (h 2) (h 3) (h 4) (h 5) (nI n) (α 1) (α 2) ab un) H := hP.sub [1, 2, 3, 4, 5] rfl
          refine vp_callSi (va_runV (As := [.int (nI j), .long ((K.2 1) ||| (K.2 2)), .int ii]) (rest := []) ⟨hx, hb, hml, hown, hts⟩ (k_letter l D cA (h 1) (h 2) (h 3) (h 4) (h 5) n α ab un (by omega) (by omega) hI.2.2.1 (nI j) ((K.2 1) ||| (K.2 2)) ii) (cwV 3 hts (sx_GV wd_317 wd_318 wd_319 wd_3 wd_320) rfl rfl rfl (by decide +kernel) ⟨Nat.le_of_ble_eq_true rfl, Nat.le_of_ble_eq_true rfl⟩) (sx_preV hK hPc (va_recv hK.1 hPc (ci := 1) (q0 := 0) rfl rfl)) rfl rfl hl.1 rfl (lv_room (Nat.le_of_ble_eq_true rfl)) d_X_list_54 ⟨Nat.le_of_ble_eq_true rfl, Nat.le_of_ble_eq_true rfl⟩).run (fun r_13 hr_12 => ?_)
          have hP9 : va_P D vwCl (wXAk cA h g (nI L) (nI na) (sx_bI sb) (nI n) (α 1) (α 2) ab un sv sf sl acts (sx_kA (K.1 0) (K.1 1) (nI (sx_dN α a)) (sx_bI (sx_fb α 12 a)) (sx_bI (sx_fb α 14 a)) (sx_bI (sx_fb α 13 a)) (nI (sx_oN α a + 1)) (α 7 a) (K.1 2) (nI (sx_tN α a)) (K.2 0) (K.1 3) (K.2 1) (K.2 2))) H := hP
          have hD9 : va_D A (wXAk cA h g (nI L) (nI na) (sx_bI sb) (nI n) (α 1) (α 2) ab un sv sf sl acts (sx_kA (K.1 0) (K.1 1) (nI (sx_dN α a)) (sx_bI (sx_fb α 12 a)) (sx_bI (sx_fb α 14 a)) (sx_bI (sx_fb α 13 a)) (nI (sx_oN α a + 1)) (α 7 a) (K.1 2) (nI (sx_tN α a)) (K.2 0) (K.1 3) (K.2 1) (K.2 2))) := hD
          exact W.iret (v := r_13) hx hb hr (fun t ht hW => ⟨⟨r_13, (sx_kA (K.1 0) (K.1 1) (nI (sx_dN α a)) (sx_bI (sx_fb α 12 a)) (sx_bI (sx_fb α 14 a)) (sx_bI (sx_fb α 13 a)) (nI (sx_oN α a + 1)) (α 7 a) (K.1 2) (nI (sx_tN α a)) (K.2 0) (K.1 3) (K.2 1) (K.2 2)), rfl, (sx_fin2 (sx_list_go (i := ii) (sx_ok_t hth (sx_has_nI (by omega) hj) (sx_has0 h1n hn60)) hne) (by rw [hr_12]; exact congrArg (fun f => sx_pick f 58 65 ii) (by funext c; exact sx_lq_eq hI ha hR hW0)) (sx_RA_of hDO htp htsb hW0 e4 e12 e14 e13 (sx_op1 e6) rfl e8)), by rw [ht]; exact hP9, by rw [hAe]; exact hD9⟩, hS.F ht⟩) hS.2.2 d_X_list_57
        · exact absurd c_9 (by decide)
      · have hoE : sx_oN α a = L := by omega
        have heq : α 6 a = nI L := by rw [← e6, hoE]
        have hPc : va_P D vwCl (wA cA (g 0) (g 1) (g 2) (g 3) (g 4) (g 5) (K.1 0) (K.1 1) (nI (sx_dN α a)) (sx_bI (sx_fb α 12 a)) (sx_bI (sx_fb α 14 a)) (sx_bI (sx_fb α 13 a)) (nI (sx_oN α a)) (α 7 a) (K.1 2) (nI (sx_tN α a)) (K.2 0) (K.1 3) (K.2 1) (K.2 2)) s.heap := hP.sub [9, 10, 11, 12, 13, 14] rfl
        have hDc : va_D A (wA cA (g 0) (g 1) (g 2) (g 3) (g 4) (g 5) (K.1 0) (K.1 1) (nI (sx_dN α a)) (sx_bI (sx_fb α 12 a)) (sx_bI (sx_fb α 14 a)) (sx_bI (sx_fb α 13 a)) (nI (sx_oN α a)) (α 7 a) (K.1 2) (nI (sx_tN α a)) (K.2 0) (K.1 3) (K.2 1) (K.2 2)) := hD.sub [9, 10, 11, 12, 13, 14] (by decide) rfl
        refine sx_calli (wr := [(h 0, .inr (3, [.int (nI L), .ref (h 1), .ref (h 6), .ref (h 8), .int (nI na), .int (sx_bI sb)])), (h 1, .inr (1, [.ref (h 2), .ref (h 3), .ref (h 4), .ref (h 5), .int (nI n)])), (h 2, .inl (cA 0, 60, .inl (α 1))), (h 3, .inl (cA 2, 60, .inl (α 2))), (h 4, .inl (cA 3, 60, .inr (.inl ab))), (h 5, .inl (cA 3, 60, .inr (.inl un))), (h 6, .inr (2, [.ref (h 7), .long sf, .long sl])), (h 7, .inl (cA 0, 60, .inl sv)), (h 8, .inl (cA 4, 10, .inr (.inr (.inr (.inr acts)))))]) (va_runV (As := [.int (nI L)]) (rest := []) ⟨hx, hb, hml, hown, hts⟩ (k_opF l D cA s.heap.size (g 0) (g 1) (g 2) (g 3) (g 4) (g 5) (K.1 0) (K.1 1) (nI (sx_dN α a)) (sx_bI (sx_fb α 12 a)) (sx_bI (sx_fb α 14 a)) (sx_bI (sx_fb α 13 a)) (sx_oN α a) (α 7 a) (K.1 2) (nI (sx_tN α a)) (K.2 0) (K.1 3) (K.2 1) (K.2 2) L hoE (by omega)) (cwV 1 hts (sx_GV wd_270 wd_271 wd_272 wd_6 wd_273) rfl rfl rfl (by decide +kernel) ⟨Nat.le_of_ble_eq_true rfl, Nat.le_of_ble_eq_true rfl⟩) (sx_preVw hK hPc hDc (va_recv hK.1 hPc (ci := 0) (q0 := 0) rfl rfl)) rfl rfl hl.1 rfl (lv_room (Nat.le_of_ble_eq_true rfl)) d_X_list_31 ⟨Nat.le_of_ble_eq_true rfl, Nat.le_of_ble_eq_true rfl⟩) hP hD hS hA [9, 10, 11, 12, 13, 14] [0, 1, 2, 3, 4, 5, 6, 7, 8] rfl rfl (by decide) (by decide) (fun r_15 u_16 H locs hr_14 hP hD hS => ?_)
        have hP : va_P D vwCl (wXA cA h g (nI L) (nI na) (sx_bI sb) (nI n) (α 1) (α 2) ab un sv sf sl acts (K.1 0) (K.1 1) (nI (sx_dN α a)) (sx_bI (sx_fb α 12 a)) (sx_bI (sx_fb α 14 a)) (nI 1) (nI (sx_oN α a)) (α 7 a) (K.1 2) (nI (sx_tN α a)) (K.2 0) (K.1 3) (K.2 1) (K.2 2)) H := hP.sub [0, 1, 2, 3, 4, 5, 6, 7, 8, 9, 10, 11, 12, 13, 14] rfl
        have hD : va_D A (wXA cA h g (nI L) (nI na) (sx_bI sb) (nI n) (α 1) (α 2) ab un sv sf sl acts (K.1 0) (K.1 1) (nI (sx_dN α a)) (sx_bI (sx_fb α 12 a)) (sx_bI (sx_fb α 14 a)) (nI 1) (nI (sx_oN α a)) (α 7 a) (K.1 2) (nI (sx_tN α a)) (K.2 0) (K.1 3) (K.2 1) (K.2 2)) := hD.sub [0, 1, 2, 3, 4, 5, 6, 7, 8, 9, 10, 11, 12, 13, 14] (by decide) rfl
        subst hr_14
        refine lv_if_ne (tgt := 40) hx hb d_X_list_34 (by decide) (fun c_17 => ?_) (fun c_17 => ?_)
        · exact absurd c_17 (by decide)
        · refine lv_bipush (v := (-9)) hx hb d_X_list_37 (by decide +kernel) ?_
          have hP9 : va_P D vwCl (wXAk cA h g (nI L) (nI na) (sx_bI sb) (nI n) (α 1) (α 2) ab un sv sf sl acts (sx_kA (K.1 0) (K.1 1) (nI (sx_dN α a)) (sx_bI (sx_fb α 12 a)) (sx_bI (sx_fb α 14 a)) (nI 1) (nI (sx_oN α a)) (α 7 a) (K.1 2) (nI (sx_tN α a)) (K.2 0) (K.1 3) (K.2 1) (K.2 2))) H := hP
          have hD9 : va_D A (wXAk cA h g (nI L) (nI na) (sx_bI sb) (nI n) (α 1) (α 2) ab un sv sf sl acts (sx_kA (K.1 0) (K.1 1) (nI (sx_dN α a)) (sx_bI (sx_fb α 12 a)) (sx_bI (sx_fb α 14 a)) (nI 1) (nI (sx_oN α a)) (α 7 a) (K.1 2) (nI (sx_tN α a)) (K.2 0) (K.1 3) (K.2 1) (K.2 2))) := hD
          exact W.iret (v := (-9)) hx hb hr (fun t ht hW => ⟨⟨(-9), (sx_kA (K.1 0) (K.1 1) (nI (sx_dN α a)) (sx_bI (sx_fb α 12 a)) (sx_bI (sx_fb α 14 a)) (nI 1) (nI (sx_oN α a)) (α 7 a) (K.1 2) (nI (sx_tN α a)) (K.2 0) (K.1 3) (K.2 1) (K.2 2)), rfl, (sx_fin2 (sx_list_lim (i := ii) (sx_ok_t hth c_5 (sx_has0 h1n hn60)) heq) rfl (sx_RA_of hDO htp htsb hW0 e4 e12 e14 (by rw [sx_at]; rfl) e6 rfl e8)), by rw [ht]; exact hP9, by rw [hAe]; exact hD9⟩, hS.F ht⟩) hS.2.2 d_X_list_39
    · have c_5 : (sx_has n p) = false := sx_bI0 c_5
      refine lv_iconst (v := (-1)) hx hb d_X_list_23 (by decide +kernel) ?_
      have hP9 : va_P D vwCl (wXAk cA h g (nI L) (nI na) (sx_bI sb) (nI n) (α 1) (α 2) ab un sv sf sl acts (sx_kA (K.1 0) (K.1 1) (nI (sx_dN α a)) (sx_bI (sx_fb α 12 a)) (sx_bI (sx_fb α 14 a)) (sx_bI (sx_fb α 13 a)) (nI (sx_oN α a)) (α 7 a) (K.1 2) (nI (sx_tN α a)) (K.2 0) (K.1 3) (K.2 1) (K.2 2))) s.heap := hP
      have hD9 : va_D A (wXAk cA h g (nI L) (nI na) (sx_bI sb) (nI n) (α 1) (α 2) ab un sv sf sl acts (sx_kA (K.1 0) (K.1 1) (nI (sx_dN α a)) (sx_bI (sx_fb α 12 a)) (sx_bI (sx_fb α 14 a)) (sx_bI (sx_fb α 13 a)) (nI (sx_oN α a)) (α 7 a) (K.1 2) (nI (sx_tN α a)) (K.2 0) (K.1 3) (K.2 1) (K.2 2))) := hD
      exact W.iret (v := (-1)) hx hb hr (fun t ht hW => ⟨⟨(-1), (sx_kA (K.1 0) (K.1 1) (nI (sx_dN α a)) (sx_bI (sx_fb α 12 a)) (sx_bI (sx_fb α 14 a)) (sx_bI (sx_fb α 13 a)) (nI (sx_oN α a)) (α 7 a) (K.1 2) (nI (sx_tN α a)) (K.2 0) (K.1 3) (K.2 1) (K.2 2)), rfl, (sx_fin2 (sx_list_no (i := ii) (sx_ok_p c_5)) rfl (sx_RA_of hDO htp htsb hW0 e4 e12 e14 e13 e6 rfl e8)), by rw [ht]; exact hP9, by rw [hAe]; exact hD9⟩, hS.F ht⟩) hS.2.2 d_X_list_24
  · refine va_csq (va_runV (As := [.int (nI a)]) (rest := []) ⟨hx, hb, hml, hown, hts⟩ (k_runN l D cA h g (nI L) na (sx_bI sb) (nI n) (α 1) (α 2) ab un sv sf sl acts (K.1 0) (K.1 1) (nI (sx_dN α a)) (sx_fb α 12 a) (sx_bI (sx_fb α 14 a)) (sx_bI (sx_fb α 13 a)) (nI (sx_oN α a)) (α 7 a) (K.1 2) (nI (sx_tN α a)) (K.2 0) (K.1 3) (K.2 1) (K.2 2) a (by omega) (by omega) hacts hth) (cwV 1 hts (sx_GV wd_266 wd_268 ws_4 wd_1 wd_269) rfl rfl rfl (by decide +kernel) ⟨Nat.le_of_ble_eq_true rfl, Nat.le_of_ble_eq_true rfl⟩) (sx_preV hK hP (va_recv hK.1 hP (ci := 3) (q0 := 0) rfl rfl)) rfl rfl hl.1 rfl (lv_room (Nat.le_of_ble_eq_true rfl)) d_X_list_2 ⟨Nat.le_of_ble_eq_true rfl, Nat.le_of_ble_eq_true rfl⟩).run (fun r_19 hr_18 => ?_)
    subst hr_18
    refine sx_asv (y := .null) rfl ?_
    refine lv_astoreN (lv' := [(4, .null), (0, .ref (h 0)), (1, .int (nI a)), (2, .int p), (3, .int ii)]) hx hb d_X_list_5 hl (by decide) rfl (fun ls hl => ?_)
    refine lv_aloadN hx hb d_X_list_7 (lv_at hl 0 rfl) ?_
    refine lv_ifnullN (tgt := 23) hx hb d_X_list_9 (by decide) ?_
    refine lv_iconst (v := (-1)) hx hb d_X_list_23 (by decide +kernel) ?_
    have hP9 : va_P D vwCl (wXAk cA h g (nI L) (nI na) (sx_bI sb) (nI n) (α 1) (α 2) ab un sv sf sl acts (sx_kA (K.1 0) (K.1 1) (nI (sx_dN α a)) (sx_bI (sx_fb α 12 a)) (sx_bI (sx_fb α 14 a)) (sx_bI (sx_fb α 13 a)) (nI (sx_oN α a)) (α 7 a) (K.1 2) (nI (sx_tN α a)) (K.2 0) (K.1 3) (K.2 1) (K.2 2))) s.heap := hP
    have hD9 : va_D A (wXAk cA h g (nI L) (nI na) (sx_bI sb) (nI n) (α 1) (α 2) ab un sv sf sl acts (sx_kA (K.1 0) (K.1 1) (nI (sx_dN α a)) (sx_bI (sx_fb α 12 a)) (sx_bI (sx_fb α 14 a)) (sx_bI (sx_fb α 13 a)) (nI (sx_oN α a)) (α 7 a) (K.1 2) (nI (sx_tN α a)) (K.2 0) (K.1 3) (K.2 1) (K.2 2))) := hD
    exact W.iret (v := (-1)) hx hb hr (fun t ht hW => ⟨⟨(-1), (sx_kA (K.1 0) (K.1 1) (nI (sx_dN α a)) (sx_bI (sx_fb α 12 a)) (sx_bI (sx_fb α 14 a)) (sx_bI (sx_fb α 13 a)) (nI (sx_oN α a)) (α 7 a) (K.1 2) (nI (sx_tN α a)) (K.2 0) (K.1 3) (K.2 1) (K.2 2)), rfl, (sx_fin2 (sx_list_no (i := ii) (sx_ok_th hth)) rfl (sx_RA_of hDO htp htsb hW0 e4 e12 e14 e13 e6 rfl e8)), by rw [ht]; exact hP9, by rw [hAe]; exact hD9⟩, hS.F ht⟩) hS.2.2 d_X_list_24
