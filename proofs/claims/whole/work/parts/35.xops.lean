set_option maxHeartbeats 4000000 in
set_option maxRecDepth 100000 in
theorem k_open (l : Launch) (D : va_G) (cA : Nat → ClassId) (sz : Nat) (h g : Nat → Nat) (n na L : Nat) (sb : Bool) (α : sx_A) (ab un : Nat → Int64) (sv : Nat → Int32) (sf sl : Int64) (acts : Nat → Option Nat) (a : Nat) (K : sx_KA) (hI : sx_INV n na L α) (ha : a < na) (hR : sx_RP n (α 1) ab un) (hS0 : sx_RW (α 3) sv sf sl) (hRA : sx_RA α a K) (hacts : acts a = some (g 0)) (p : Int32) : Met l y_X_open w_X_open ({ frames := 3, cells := 0, slots := 0, locals := 65 }) (sx_Pw D cA [.ref (h 0), .int (nI a), .int p] (wXAk cA h g (nI L) (nI na) (sx_bI sb) (nI n) (α 1) (α 2) ab un sv sf sl acts K) sz) (va_Qi (fun r (u : sx_KA) => r = sx_openA n L α a p ∧ sx_RA (sx_openS n L α a p) a u) (sx_Bw D (wXAk cA h g (nI L) (nI na) (sx_bI sb) (nI n) (α 1) (α 2) ab un sv sf sl acts K) sz (fun u => wXAk cA h g (nI L) (nI na) (sx_bI sb) (nI n) (α 1) (α 2) ab un sv sf sl acts u)) (va_A (wXAk cA h g (nI L) (nI na) (sx_bI sb) (nI n) (α 1) (α 2) ab un sv sf sl acts K) sz)) 0 0 (va_A (wXAk cA h g (nI L) (nI na) (sx_bI sb) (nI n) (α 1) (α 2) ab un sv sf sl acts K) sz) := by
  refine Met.ofW (cc := b_X_open) (maxL := 5) (ret := (some .int)) (by decide) rfl ?_
  intro pG eG s m args below meth cG s₁ B hml hv
  obtain ⟨rfl, hsz, hP, hK, hD0⟩ := hv
  have hx := B.exec
  have hb := B.bytes
  have hr := B.returns
  have hts0 := atoms_spec (ws := w_X_open) B.pre
  have hts : ∀ w ∈ sx_gw, w.before _ s = true := fun w h => hts0 w (List.mem_cons_of_mem _ h)
  have hown : s.vm.findClass R_X = some m.cls := findClass_of_methodNamed B.named
  have hlocks := B.notSynchronized
  subst hsz
  have hD := hD0.self (sz := s.heap.size)
  generalize hAe : va_A (wXAk cA h g (nI L) (nI na) (sx_bI sb) (nI n) (α 1) (α 2) ab un sv sf sl acts K) s.heap.size = A at hD ⊢
  have hA : ∀ q : Nat, s.heap.size ≤ q → A q := fun q h => by rw [← hAe]; exact Or.inr h
  have hS : va_S A s.heap s.heap [] := va_S.rf
  have hl := lv_entry ([.ref (h 0), .int (nI a), .int p]) (n := 5) (Nat.le_of_ble_eq_true rfl)
  rw [lg_entry_eq]
  generalize (lg_sl ([.ref (h 0), .int (nI a), .int p]) ++ List.replicate (5 - (lg_sl ([.ref (h 0), .int (nI a), .int p])).length) Slot.unset).toArray = ls at hl ⊢
  have hl : lv_has ls 5 [(0, .ref (h 0)), (1, .int (nI a)), (2, .int p)] := hl
  have hn31 := sx_INV_n hI
  have hn60 := hI.1.1.2
  have h1n := hI.1.1.1
  have hAc := sx_INV_A hI ha
  have hd12 := (sx_dN_ok hAc).1
  have hna := hI.1.2.1
  have hL5 := hI.1.2.2.2
  obtain ⟨hDO, htp, htsb, hW0, f4, f12, f14, f13, f6, f7, f8⟩ := id hRA
  have e4 : nI (sx_dN α a) = α 4 a := (sx_dN_ok hAc).2.symm
  have e12 : sx_bI (sx_fb α 12 a) = α 12 a := sx_fb_ok hAc.2.2.2.2.2.1
  have e13 : sx_bI (sx_fb α 13 a) = α 13 a := sx_fb_ok hAc.2.2.2.2.2.2.1
  have e14 : sx_bI (sx_fb α 14 a) = α 14 a := sx_fb_ok hAc.2.2.2.2.2.2.2
  have e6 : nI (sx_oN α a) = α 6 a := (sx_oN_ok hAc hL5).2
  have oL := (sx_oN_ok hAc hL5).1
  have e8 : nI (sx_tN α a) = α 8 a := (sx_tN_ok hAc).2.symm
  have t60 := (sx_tN_ok hAc).1
  rw [sx_XA_eq hAc hL5 hRA] at hP hD
  refine lv_aload_n hx hb d_X_open_0 rfl (lv_at hl 0 rfl) ?_
  refine lv_iload_n hx hb d_X_open_1 rfl (lv_at hl 1 rfl) ?_
  rcases Bool.eq_false_or_eq_true (sx_fb α 12 a) with hth | hth
  · refine va_csq (va_runV (As := [.int (nI a)]) (rest := []) ⟨hx, hb, hml, hown, hts⟩ (k_run l D cA h g (nI L) na (sx_bI sb) (nI n) (α 1) (α 2) ab un sv sf sl acts (K.1 0) (K.1 1) (nI (sx_dN α a)) (sx_fb α 12 a) (sx_bI (sx_fb α 14 a)) (sx_bI (sx_fb α 13 a)) (nI (sx_oN α a)) (α 7 a) (K.1 2) (nI (sx_tN α a)) (K.2 0) (K.1 3) (K.2 1) (K.2 2) a (by omega) (by omega) hacts hth) (cwV 1 hts (sx_GV wd_266 wd_268 ws_4 wd_1 wd_269) rfl rfl rfl (by decide +kernel) ⟨Nat.le_of_ble_eq_true rfl, Nat.le_of_ble_eq_true rfl⟩) (sx_preV hK hP (va_recv hK.1 hP (ci := 3) (q0 := 0) rfl rfl)) rfl rfl hl.1 rfl (lv_room (Nat.le_of_ble_eq_true rfl)) d_X_open_2 ⟨Nat.le_of_ble_eq_true rfl, Nat.le_of_ble_eq_true rfl⟩).run (fun r_2 hr_1 => ?_)
    subst hr_1
    refine sx_asv (y := .ref (g 0)) rfl ?_
    refine lv_astore_n (lv' := [(3, .ref (g 0)), (0, .ref (h 0)), (1, .int (nI a)), (2, .int p)]) hx hb d_X_open_5 rfl hl (by decide) rfl (fun ls hl => ?_)
    refine lv_aload_n hx hb d_X_open_6 rfl (lv_at hl 0 rfl) ?_
    refine lv_ifnull hx hb d_X_open_7 ?_
    refine lv_aload_n hx hb d_X_open_10 rfl (lv_at hl 1 rfl) ?_
    refine va_get (D := D) (ci := 3) (v := .ref (h 1)) (C := R_X) (T := T_X) (N := 6) hx hb hts iw_X hown hK.1 hP 0 rfl rfl 1 (by decide) (hts _ wd_70) (fun _ h9 => h9) rfl d_X_open_11 ?_
    refine lv_iload_n hx hb d_X_open_14 rfl (lv_at hl 3 rfl) ?_
    have hPc : va_P D vwCl (wP cA (h 1) (h 2) (h 3) (h 4) (h 5) (nI n) (α 1) (α 2) ab un) s.heap := hP.sub [1, 2, 3, 4, 5] rfl
    refine vp_callSi (va_runV (As := [.int p]) (rest := []) ⟨hx, hb, hml, hown, hts⟩ (k_has l D cA (h 1) (h 2) (h 3) (h 4) (h 5) n (α 1) (α 2) ab un p) (cwV 1 hts (sx_GV wd_92 wd_93 wd_94 wd_3 wd_95) rfl rfl rfl (by decide +kernel) ⟨Nat.le_of_ble_eq_true rfl, Nat.le_of_ble_eq_true rfl⟩) (sx_preV hK hPc (va_recv hK.1 hPc (ci := 1) (q0 := 0) rfl rfl)) rfl rfl hl.1 rfl (lv_room (Nat.le_of_ble_eq_true rfl)) d_X_open_15 ⟨Nat.le_of_ble_eq_true rfl, Nat.le_of_ble_eq_true rfl⟩).run (fun r_4 hr_3 => ?_)
    subst hr_3
    refine lv_if_ne (tgt := 23) hx hb d_X_open_18 (by decide) (fun c_5 => ?_) (fun c_5 => ?_)
    · have c_5 : (sx_has n p) = true := sx_bIn c_5
      obtain ⟨j, hj, rfl⟩ := sx_has_t (by omega) c_5
      refine lv_aload_n hx hb d_X_open_23 rfl (lv_at hl 0 rfl) ?_
      refine lv_aload_n hx hb d_X_open_24 rfl (lv_at hl 1 rfl) ?_
      refine va_get (D := D) (ci := 3) (v := .int (nI L)) (C := R_X) (T := T_X) (N := 6) hx hb hts iw_X hown hK.1 hP 0 rfl rfl 0 (by decide) (hts _ wd_69) (fun _ h9 => h9) rfl d_X_open_25 ?_
      rcases Nat.lt_or_ge (sx_oN α a) L with hoL | hoL
      · have hne : ¬ α 6 a = nI L := fun z => by rw [← e6] at z; have := (nI_eq (by omega) (by omega)).mp z; omega
        have hPc : va_P D vwCl (wA cA (g 0) (g 1) (g 2) (g 3) (g 4) (g 5) (K.1 0) (K.1 1) (nI (sx_dN α a)) (sx_bI (sx_fb α 12 a)) (sx_bI (sx_fb α 14 a)) (sx_bI (sx_fb α 13 a)) (nI (sx_oN α a)) (α 7 a) (K.1 2) (nI (sx_tN α a)) (K.2 0) (K.1 3) (K.2 1) (K.2 2)) s.heap := hP.sub [9, 10, 11, 12, 13, 14] rfl
        have hDc : va_D A (wA cA (g 0) (g 1) (g 2) (g 3) (g 4) (g 5) (K.1 0) (K.1 1) (nI (sx_dN α a)) (sx_bI (sx_fb α 12 a)) (sx_bI (sx_fb α 14 a)) (sx_bI (sx_fb α 13 a)) (nI (sx_oN α a)) (α 7 a) (K.1 2) (nI (sx_tN α a)) (K.2 0) (K.1 3) (K.2 1) (K.2 2)) := hD.sub [9, 10, 11, 12, 13, 14] (by decide) rfl
        refine sx_calli (wr := [(h 0, .inr (3, [.int (nI L), .ref (h 1), .ref (h 6), .ref (h 8), .int (nI na), .int (sx_bI sb)])), (h 1, .inr (1, [.ref (h 2), .ref (h 3), .ref (h 4), .ref (h 5), .int (nI n)])), (h 2, .inl (cA 0, 60, .inl (α 1))), (h 3, .inl (cA 2, 60, .inl (α 2))), (h 4, .inl (cA 3, 60, .inr (.inl ab))), (h 5, .inl (cA 3, 60, .inr (.inl un))), (h 6, .inr (2, [.ref (h 7), .long sf, .long sl])), (h 7, .inl (cA 0, 60, .inl sv)), (h 8, .inl (cA 4, 10, .inr (.inr (.inr (.inr acts)))))]) (va_runV (As := [.int (nI L)]) (rest := []) ⟨hx, hb, hml, hown, hts⟩ (k_op l D cA s.heap.size (g 0) (g 1) (g 2) (g 3) (g 4) (g 5) (K.1 0) (K.1 1) (nI (sx_dN α a)) (sx_bI (sx_fb α 12 a)) (sx_bI (sx_fb α 14 a)) (sx_bI (sx_fb α 13 a)) (sx_oN α a) (α 7 a) (K.1 2) (nI (sx_tN α a)) (K.2 0) (K.1 3) (K.2 1) (K.2 2) L (by omega) (by omega)) (cwV 1 hts (sx_GV wd_270 wd_271 wd_272 wd_6 wd_273) rfl rfl rfl (by decide +kernel) ⟨Nat.le_of_ble_eq_true rfl, Nat.le_of_ble_eq_true rfl⟩) (sx_preVw hK hPc hDc (va_recv hK.1 hPc (ci := 0) (q0 := 0) rfl rfl)) rfl rfl hl.1 rfl (lv_room (Nat.le_of_ble_eq_true rfl)) d_X_open_28 ⟨Nat.le_of_ble_eq_true rfl, Nat.le_of_ble_eq_true rfl⟩) hP hD hS hA [9, 10, 11, 12, 13, 14] [0, 1, 2, 3, 4, 5, 6, 7, 8] rfl rfl (by decide) (by decide) (fun r_7 u_8 H locs hr_6 hP hD hS => ?_)
        have hP : va_P D vwCl (wXA cA h g (nI L) (nI na) (sx_bI sb) (nI n) (α 1) (α 2) ab un sv sf sl acts (K.1 0) (K.1 1) (nI (sx_dN α a)) (sx_bI (sx_fb α 12 a)) (sx_bI (sx_fb α 14 a)) (sx_bI (sx_fb α 13 a)) (nI (sx_oN α a + 1)) (α 7 a) (K.1 2) (nI (sx_tN α a)) (K.2 0) (K.1 3) (K.2 1) (K.2 2)) H := hP.sub [0, 1, 2, 3, 4, 5, 6, 7, 8, 9, 10, 11, 12, 13, 14] rfl
        have hD : va_D A (wXA cA h g (nI L) (nI na) (sx_bI sb) (nI n) (α 1) (α 2) ab un sv sf sl acts (K.1 0) (K.1 1) (nI (sx_dN α a)) (sx_bI (sx_fb α 12 a)) (sx_bI (sx_fb α 14 a)) (sx_bI (sx_fb α 13 a)) (nI (sx_oN α a + 1)) (α 7 a) (K.1 2) (nI (sx_tN α a)) (K.2 0) (K.1 3) (K.2 1) (K.2 2)) := hD.sub [0, 1, 2, 3, 4, 5, 6, 7, 8, 9, 10, 11, 12, 13, 14] (by decide) rfl
        subst hr_6
        refine lv_if_ne (tgt := 37) hx hb d_X_open_31 (by decide) (fun c_9 => ?_) (fun c_9 => ?_)
        · refine lv_aload_n hx hb d_X_open_37 rfl (lv_at hl 0 rfl) ?_
          refine va_getN (D := D) (ci := 0) (v := .ref (g 3)) (C := R_A) (T := T_A) (N := 12) hx hb hts iw_A hown hK.1 hP 9 rfl rfl 3 (by decide) (va_Nw.use rfl (hK.2.1 _ wd_166)) (fun _ h9 => h9) rfl d_X_open_38 ?_
          refine lv_iload_n hx hb d_X_open_41 rfl (lv_at hl 3 rfl) ?_
          have hPc : va_P D vwCl (wS cA (g 3) (g 4) (K.1 3) (K.2 1) (K.2 2)) H := hP.sub [12, 13] rfl
          refine vp_callSi (va_runV (As := [.int (nI j)]) (rest := []) ⟨hx, hb, hml, hown, hts⟩ (k_leads l D cA (g 3) (g 4) (K.1 3) (K.2 1) (K.2 2) (nI j)) (cwV 1 hts (sx_GV wd_143 wd_144 wd_145 wd_4 wd_146) rfl rfl rfl (by decide +kernel) ⟨Nat.le_of_ble_eq_true rfl, Nat.le_of_ble_eq_true rfl⟩) (sx_preV hK hPc (va_recv hK.1 hPc (ci := 2) (q0 := 0) rfl rfl)) rfl rfl hl.1 rfl (lv_room (Nat.le_of_ble_eq_true rfl)) d_X_open_42 ⟨Nat.le_of_ble_eq_true rfl, Nat.le_of_ble_eq_true rfl⟩).run (fun r_11 hr_10 => ?_)
          rw [sx_lead_eq hI ha (show j < 60 by omega) hW0] at hr_10
          subst hr_10
          refine lv_istore (lv' := [(4, .int (sx_lead α a j)), (3, .ref (g 0)), (0, .ref (h 0)), (1, .int (nI a)), (2, .int (nI j))]) hx hb d_X_open_45 hl (by decide) rfl (fun ls hl => ?_)
          refine lv_iload hx hb d_X_open_47 (lv_at hl 0 rfl) ?_
          refine lv_if_ne (tgt := 57) hx hb d_X_open_49 (by decide) (fun c_12 => ?_) (fun c_12 => ?_)
          · refine lv_iload hx hb d_X_open_57 (lv_at hl 0 rfl) ?_
            have hP9 : va_P D vwCl (wXAk cA h g (nI L) (nI na) (sx_bI sb) (nI n) (α 1) (α 2) ab un sv sf sl acts (sx_kA (K.1 0) (K.1 1) (nI (sx_dN α a)) (sx_bI (sx_fb α 12 a)) (sx_bI (sx_fb α 14 a)) (sx_bI (sx_fb α 13 a)) (nI (sx_oN α a + 1)) (α 7 a) (K.1 2) (nI (sx_tN α a)) (K.2 0) (K.1 3) (K.2 1) (K.2 2))) H := hP
            have hD9 : va_D A (wXAk cA h g (nI L) (nI na) (sx_bI sb) (nI n) (α 1) (α 2) ab un sv sf sl acts (sx_kA (K.1 0) (K.1 1) (nI (sx_dN α a)) (sx_bI (sx_fb α 12 a)) (sx_bI (sx_fb α 14 a)) (sx_bI (sx_fb α 13 a)) (nI (sx_oN α a + 1)) (α 7 a) (K.1 2) (nI (sx_tN α a)) (K.2 0) (K.1 3) (K.2 1) (K.2 2))) := hD
            exact W.iret (v := sx_lead α a j) hx hb hr (fun t ht hW => ⟨⟨sx_lead α a j, (sx_kA (K.1 0) (K.1 1) (nI (sx_dN α a)) (sx_bI (sx_fb α 12 a)) (sx_bI (sx_fb α 14 a)) (sx_bI (sx_fb α 13 a)) (nI (sx_oN α a + 1)) (α 7 a) (K.1 2) (nI (sx_tN α a)) (K.2 0) (K.1 3) (K.2 1) (K.2 2)), rfl, (sx_fin2 (sx_open_old (by omega) (sx_ok_t hth (sx_has_nI (by omega) hj) (sx_has0 h1n hn60)) hne (Or.inl c_12)) rfl (sx_RA_of hDO htp htsb hW0 e4 e12 e14 e13 (sx_op1 e6) rfl e8)), by rw [ht]; exact hP9, by rw [hAe]; exact hD9⟩, hS.F ht⟩) hS.2.2 d_X_open_59
          · refine lv_aload_n hx hb d_X_open_52 rfl (lv_at hl 1 rfl) ?_
            refine lv_iload_n hx hb d_X_open_53 rfl (lv_at hl 4 rfl) ?_
            rcases Bool.eq_false_or_eq_true (sx_nt α a j) with hnt | hnt
            · have hb9 : sx_bt (K.2 0) j = true := by rw [htsb j (by omega)]; exact hnt
              have hPc : va_P D vwCl (wA cA (g 0) (g 1) (g 2) (g 3) (g 4) (g 5) (K.1 0) (K.1 1) (nI (sx_dN α a)) (sx_bI (sx_fb α 12 a)) (sx_bI (sx_fb α 14 a)) (sx_bI (sx_fb α 13 a)) (nI (sx_oN α a + 1)) (α 7 a) (K.1 2) (nI (sx_tN α a)) (K.2 0) (K.1 3) (K.2 1) (K.2 2)) H := hP.sub [9, 10, 11, 12, 13, 14] rfl
              have hDc : va_D A (wA cA (g 0) (g 1) (g 2) (g 3) (g 4) (g 5) (K.1 0) (K.1 1) (nI (sx_dN α a)) (sx_bI (sx_fb α 12 a)) (sx_bI (sx_fb α 14 a)) (sx_bI (sx_fb α 13 a)) (nI (sx_oN α a + 1)) (α 7 a) (K.1 2) (nI (sx_tN α a)) (K.2 0) (K.1 3) (K.2 1) (K.2 2)) := hD.sub [9, 10, 11, 12, 13, 14] (by decide) rfl
              refine sx_callv (wr := [(h 0, .inr (3, [.int (nI L), .ref (h 1), .ref (h 6), .ref (h 8), .int (nI na), .int (sx_bI sb)])), (h 1, .inr (1, [.ref (h 2), .ref (h 3), .ref (h 4), .ref (h 5), .int (nI n)])), (h 2, .inl (cA 0, 60, .inl (α 1))), (h 3, .inl (cA 2, 60, .inl (α 2))), (h 4, .inl (cA 3, 60, .inr (.inl ab))), (h 5, .inl (cA 3, 60, .inr (.inl un))), (h 6, .inr (2, [.ref (h 7), .long sf, .long sl])), (h 7, .inl (cA 0, 60, .inl sv)), (h 8, .inl (cA 4, 10, .inr (.inr (.inr (.inr acts)))))]) (va_runV (As := [.int (nI j)]) (rest := []) ⟨hx, hb, hml, hown, hts⟩ (k_noteN l D cA H.size (g 0) (g 1) (g 2) (g 3) (g 4) (g 5) (K.1 0) (K.1 1) (nI (sx_dN α a)) (sx_bI (sx_fb α 12 a)) (sx_bI (sx_fb α 14 a)) (sx_bI (sx_fb α 13 a)) (nI (sx_oN α a + 1)) (α 7 a) (K.1 2) (sx_tN α a) (K.2 0) (K.1 3) (K.2 1) (K.2 2) (by omega) j (by omega) hb9) (cwV 1 hts (sx_GV wd_274 wd_275 wd_276 wd_6 wd_277) rfl rfl rfl (by decide +kernel) ⟨Nat.le_of_ble_eq_true rfl, Nat.le_of_ble_eq_true rfl⟩) (sx_preVw hK hPc hDc (va_recv hK.1 hPc (ci := 0) (q0 := 0) rfl rfl)) rfl rfl hl.1 rfl (lv_room (Nat.le_of_ble_eq_true rfl)) d_X_open_54 ⟨Nat.le_of_ble_eq_true rfl, Nat.le_of_ble_eq_true rfl⟩) hP hD hS hA [9, 10, 11, 12, 13, 14] [0, 1, 2, 3, 4, 5, 6, 7, 8] rfl rfl (by decide) (by decide) (fun u_15 H locs hr_13 hP hD hS => ?_)
              have hP : va_P D vwCl (wXA cA h g (nI L) (nI na) (sx_bI sb) (nI n) (α 1) (α 2) ab un sv sf sl acts (K.1 0) (K.1 1) (nI (sx_dN α a)) (sx_bI (sx_fb α 12 a)) (sx_bI (sx_fb α 14 a)) (sx_bI (sx_fb α 13 a)) (nI (sx_oN α a + 1)) (α 7 a) (K.1 2) (nI (sx_tN α a)) (K.2 0) (K.1 3) (K.2 1) (K.2 2)) H := hP.sub [0, 1, 2, 3, 4, 5, 6, 7, 8, 9, 10, 11, 12, 13, 14] rfl
              have hD : va_D A (wXA cA h g (nI L) (nI na) (sx_bI sb) (nI n) (α 1) (α 2) ab un sv sf sl acts (K.1 0) (K.1 1) (nI (sx_dN α a)) (sx_bI (sx_fb α 12 a)) (sx_bI (sx_fb α 14 a)) (sx_bI (sx_fb α 13 a)) (nI (sx_oN α a + 1)) (α 7 a) (K.1 2) (nI (sx_tN α a)) (K.2 0) (K.1 3) (K.2 1) (K.2 2)) := hD.sub [0, 1, 2, 3, 4, 5, 6, 7, 8, 9, 10, 11, 12, 13, 14] (by decide) rfl
              refine lv_iload hx hb d_X_open_57 (lv_at hl 0 rfl) ?_
              have hP9 : va_P D vwCl (wXAk cA h g (nI L) (nI na) (sx_bI sb) (nI n) (α 1) (α 2) ab un sv sf sl acts (sx_kA (K.1 0) (K.1 1) (nI (sx_dN α a)) (sx_bI (sx_fb α 12 a)) (sx_bI (sx_fb α 14 a)) (sx_bI (sx_fb α 13 a)) (nI (sx_oN α a + 1)) (α 7 a) (K.1 2) (nI (sx_tN α a)) (K.2 0) (K.1 3) (K.2 1) (K.2 2))) H := hP
              have hD9 : va_D A (wXAk cA h g (nI L) (nI na) (sx_bI sb) (nI n) (α 1) (α 2) ab un sv sf sl acts (sx_kA (K.1 0) (K.1 1) (nI (sx_dN α a)) (sx_bI (sx_fb α 12 a)) (sx_bI (sx_fb α 14 a)) (sx_bI (sx_fb α 13 a)) (nI (sx_oN α a + 1)) (α 7 a) (K.1 2) (nI (sx_tN α a)) (K.2 0) (K.1 3) (K.2 1) (K.2 2))) := hD
              exact W.iret (v := sx_lead α a j) hx hb hr (fun t ht hW => ⟨⟨sx_lead α a j, (sx_kA (K.1 0) (K.1 1) (nI (sx_dN α a)) (sx_bI (sx_fb α 12 a)) (sx_bI (sx_fb α 14 a)) (sx_bI (sx_fb α 13 a)) (nI (sx_oN α a + 1)) (α 7 a) (K.1 2) (nI (sx_tN α a)) (K.2 0) (K.1 3) (K.2 1) (K.2 2)), rfl, (sx_fin2 (sx_open_old (by omega) (sx_ok_t hth (sx_has_nI (by omega) hj) (sx_has0 h1n hn60)) hne (Or.inr hnt)) rfl (sx_RA_of hDO htp htsb hW0 e4 e12 e14 e13 (sx_op1 e6) rfl e8)), by rw [ht]; exact hP9, by rw [hAe]; exact hD9⟩, hS.F ht⟩) hS.2.2 d_X_open_59
            · have hb9 : sx_bt (K.2 0) j = false := by rw [htsb j (by omega)]; exact hnt
              have ht9 := sx_room hn60 hAc hj hnt
              have hPc : va_P D vwCl (wA cA (g 0) (g 1) (g 2) (g 3) (g 4) (g 5) (K.1 0) (K.1 1) (nI (sx_dN α a)) (sx_bI (sx_fb α 12 a)) (sx_bI (sx_fb α 14 a)) (sx_bI (sx_fb α 13 a)) (nI (sx_oN α a + 1)) (α 7 a) (K.1 2) (nI (sx_tN α a)) (K.2 0) (K.1 3) (K.2 1) (K.2 2)) H := hP.sub [9, 10, 11, 12, 13, 14] rfl
              have hDc : va_D A (wA cA (g 0) (g 1) (g 2) (g 3) (g 4) (g 5) (K.1 0) (K.1 1) (nI (sx_dN α a)) (sx_bI (sx_fb α 12 a)) (sx_bI (sx_fb α 14 a)) (sx_bI (sx_fb α 13 a)) (nI (sx_oN α a + 1)) (α 7 a) (K.1 2) (nI (sx_tN α a)) (K.2 0) (K.1 3) (K.2 1) (K.2 2)) := hD.sub [9, 10, 11, 12, 13, 14] (by decide) rfl
              refine sx_callv (wr := [(h 0, .inr (3, [.int (nI L), .ref (h 1), .ref (h 6), .ref (h 8), .int (nI na), .int (sx_bI sb)])), (h 1, .inr (1, [.ref (h 2), .ref (h 3), .ref (h 4), .ref (h 5), .int (nI n)])), (h 2, .inl (cA 0, 60, .inl (α 1))), (h 3, .inl (cA 2, 60, .inl (α 2))), (h 4, .inl (cA 3, 60, .inr (.inl ab))), (h 5, .inl (cA 3, 60, .inr (.inl un))), (h 6, .inr (2, [.ref (h 7), .long sf, .long sl])), (h 7, .inl (cA 0, 60, .inl sv)), (h 8, .inl (cA 4, 10, .inr (.inr (.inr (.inr acts)))))]) (va_runV (As := [.int (nI j)]) (rest := []) ⟨hx, hb, hml, hown, hts⟩ (k_note l D cA H.size (g 0) (g 1) (g 2) (g 3) (g 4) (g 5) (K.1 0) (K.1 1) (nI (sx_dN α a)) (sx_bI (sx_fb α 12 a)) (sx_bI (sx_fb α 14 a)) (sx_bI (sx_fb α 13 a)) (nI (sx_oN α a + 1)) (α 7 a) (K.1 2) (sx_tN α a) (K.2 0) (K.1 3) (K.2 1) (K.2 2) (by omega) j (by omega) hb9) (cwV 1 hts (sx_GV wd_274 wd_275 wd_276 wd_6 wd_277) rfl rfl rfl (by decide +kernel) ⟨Nat.le_of_ble_eq_true rfl, Nat.le_of_ble_eq_true rfl⟩) (sx_preVw hK hPc hDc (va_recv hK.1 hPc (ci := 0) (q0 := 0) rfl rfl)) rfl rfl hl.1 rfl (lv_room (Nat.le_of_ble_eq_true rfl)) d_X_open_54 ⟨Nat.le_of_ble_eq_true rfl, Nat.le_of_ble_eq_true rfl⟩) hP hD hS hA [9, 10, 11, 12, 13, 14] [0, 1, 2, 3, 4, 5, 6, 7, 8] rfl rfl (by decide) (by decide) (fun u_18 H locs hr_16 hP hD hS => ?_)
              have hP : va_P D vwCl (wXA cA h g (nI L) (nI na) (sx_bI sb) (nI n) (α 1) (α 2) ab un sv sf sl acts (K.1 0) (K.1 1) (nI (sx_dN α a)) (sx_bI (sx_fb α 12 a)) (sx_bI (sx_fb α 14 a)) (sx_bI (sx_fb α 13 a)) (nI (sx_oN α a + 1)) (α 7 a) (upd (K.1 2) (sx_tN α a) (nI j)) (nI (sx_tN α a + 1)) ((K.2 0) ||| sx_on j) (K.1 3) (K.2 1) (K.2 2)) H := hP.sub [0, 1, 2, 3, 4, 5, 6, 7, 8, 9, 10, 11, 12, 13, 14] rfl
              have hD : va_D A (wXA cA h g (nI L) (nI na) (sx_bI sb) (nI n) (α 1) (α 2) ab un sv sf sl acts (K.1 0) (K.1 1) (nI (sx_dN α a)) (sx_bI (sx_fb α 12 a)) (sx_bI (sx_fb α 14 a)) (sx_bI (sx_fb α 13 a)) (nI (sx_oN α a + 1)) (α 7 a) (upd (K.1 2) (sx_tN α a) (nI j)) (nI (sx_tN α a + 1)) ((K.2 0) ||| sx_on j) (K.1 3) (K.2 1) (K.2 2)) := hD.sub [0, 1, 2, 3, 4, 5, 6, 7, 8, 9, 10, 11, 12, 13, 14] (by decide) rfl
              refine lv_iload hx hb d_X_open_57 (lv_at hl 0 rfl) ?_
              have hP9 : va_P D vwCl (wXAk cA h g (nI L) (nI na) (sx_bI sb) (nI n) (α 1) (α 2) ab un sv sf sl acts (sx_kA (K.1 0) (K.1 1) (nI (sx_dN α a)) (sx_bI (sx_fb α 12 a)) (sx_bI (sx_fb α 14 a)) (sx_bI (sx_fb α 13 a)) (nI (sx_oN α a + 1)) (α 7 a) (upd (K.1 2) (sx_tN α a) (nI j)) (nI (sx_tN α a + 1)) ((K.2 0) ||| sx_on j) (K.1 3) (K.2 1) (K.2 2))) H := hP
              have hD9 : va_D A (wXAk cA h g (nI L) (nI na) (sx_bI sb) (nI n) (α 1) (α 2) ab un sv sf sl acts (sx_kA (K.1 0) (K.1 1) (nI (sx_dN α a)) (sx_bI (sx_fb α 12 a)) (sx_bI (sx_fb α 14 a)) (sx_bI (sx_fb α 13 a)) (nI (sx_oN α a + 1)) (α 7 a) (upd (K.1 2) (sx_tN α a) (nI j)) (nI (sx_tN α a + 1)) ((K.2 0) ||| sx_on j) (K.1 3) (K.2 1) (K.2 2))) := hD
              exact W.iret (v := sx_lead α a j) hx hb hr (fun t ht hW => ⟨⟨sx_lead α a j, (sx_kA (K.1 0) (K.1 1) (nI (sx_dN α a)) (sx_bI (sx_fb α 12 a)) (sx_bI (sx_fb α 14 a)) (sx_bI (sx_fb α 13 a)) (nI (sx_oN α a + 1)) (α 7 a) (upd (K.1 2) (sx_tN α a) (nI j)) (nI (sx_tN α a + 1)) ((K.2 0) ||| sx_on j) (K.1 3) (K.2 1) (K.2 2)), rfl, (sx_fin2 (sx_open_new (by omega) (sx_ok_t hth (sx_has_nI (by omega) hj) (sx_has0 h1n hn60)) hne c_12 hnt) rfl (sx_RA_of hDO (sx_note_tp htp) (sx_note_ts (by omega) e8 (by omega) htsb) hW0 e4 e12 e14 e13 (sx_op1 e6) rfl (by rw [sx_at, ← e8, nI_1]))), by rw [ht]; exact hP9, by rw [hAe]; exact hD9⟩, hS.F ht⟩) hS.2.2 d_X_open_59
        · exact absurd c_9 (by decide)
      · have hoE : sx_oN α a = L := by omega
        have heq : α 6 a = nI L := by rw [← e6, hoE]
        have hPc : va_P D vwCl (wA cA (g 0) (g 1) (g 2) (g 3) (g 4) (g 5) (K.1 0) (K.1 1) (nI (sx_dN α a)) (sx_bI (sx_fb α 12 a)) (sx_bI (sx_fb α 14 a)) (sx_bI (sx_fb α 13 a)) (nI (sx_oN α a)) (α 7 a) (K.1 2) (nI (sx_tN α a)) (K.2 0) (K.1 3) (K.2 1) (K.2 2)) s.heap := hP.sub [9, 10, 11, 12, 13, 14] rfl
        have hDc : va_D A (wA cA (g 0) (g 1) (g 2) (g 3) (g 4) (g 5) (K.1 0) (K.1 1) (nI (sx_dN α a)) (sx_bI (sx_fb α 12 a)) (sx_bI (sx_fb α 14 a)) (sx_bI (sx_fb α 13 a)) (nI (sx_oN α a)) (α 7 a) (K.1 2) (nI (sx_tN α a)) (K.2 0) (K.1 3) (K.2 1) (K.2 2)) := hD.sub [9, 10, 11, 12, 13, 14] (by decide) rfl
        refine sx_calli (wr := [(h 0, .inr (3, [.int (nI L), .ref (h 1), .ref (h 6), .ref (h 8), .int (nI na), .int (sx_bI sb)])), (h 1, .inr (1, [.ref (h 2), .ref (h 3), .ref (h 4), .ref (h 5), .int (nI n)])), (h 2, .inl (cA 0, 60, .inl (α 1))), (h 3, .inl (cA 2, 60, .inl (α 2))), (h 4, .inl (cA 3, 60, .inr (.inl ab))), (h 5, .inl (cA 3, 60, .inr (.inl un))), (h 6, .inr (2, [.ref (h 7), .long sf, .long sl])), (h 7, .inl (cA 0, 60, .inl sv)), (h 8, .inl (cA 4, 10, .inr (.inr (.inr (.inr acts)))))]) (va_runV (As := [.int (nI L)]) (rest := []) ⟨hx, hb, hml, hown, hts⟩ (k_opF l D cA s.heap.size (g 0) (g 1) (g 2) (g 3) (g 4) (g 5) (K.1 0) (K.1 1) (nI (sx_dN α a)) (sx_bI (sx_fb α 12 a)) (sx_bI (sx_fb α 14 a)) (sx_bI (sx_fb α 13 a)) (sx_oN α a) (α 7 a) (K.1 2) (nI (sx_tN α a)) (K.2 0) (K.1 3) (K.2 1) (K.2 2) L hoE (by omega)) (cwV 1 hts (sx_GV wd_270 wd_271 wd_272 wd_6 wd_273) rfl rfl rfl (by decide +kernel) ⟨Nat.le_of_ble_eq_true rfl, Nat.le_of_ble_eq_true rfl⟩) (sx_preVw hK hPc hDc (va_recv hK.1 hPc (ci := 0) (q0 := 0) rfl rfl)) rfl rfl hl.1 rfl (lv_room (Nat.le_of_ble_eq_true rfl)) d_X_open_28 ⟨Nat.le_of_ble_eq_true rfl, Nat.le_of_ble_eq_true rfl⟩) hP hD hS hA [9, 10, 11, 12, 13, 14] [0, 1, 2, 3, 4, 5, 6, 7, 8] rfl rfl (by decide) (by decide) (fun r_20 u_21 H locs hr_19 hP hD hS => ?_)
        have hP : va_P D vwCl (wXA cA h g (nI L) (nI na) (sx_bI sb) (nI n) (α 1) (α 2) ab un sv sf sl acts (K.1 0) (K.1 1) (nI (sx_dN α a)) (sx_bI (sx_fb α 12 a)) (sx_bI (sx_fb α 14 a)) (nI 1) (nI (sx_oN α a)) (α 7 a) (K.1 2) (nI (sx_tN α a)) (K.2 0) (K.1 3) (K.2 1) (K.2 2)) H := hP.sub [0, 1, 2, 3, 4, 5, 6, 7, 8, 9, 10, 11, 12, 13, 14] rfl
        have hD : va_D A (wXA cA h g (nI L) (nI na) (sx_bI sb) (nI n) (α 1) (α 2) ab un sv sf sl acts (K.1 0) (K.1 1) (nI (sx_dN α a)) (sx_bI (sx_fb α 12 a)) (sx_bI (sx_fb α 14 a)) (nI 1) (nI (sx_oN α a)) (α 7 a) (K.1 2) (nI (sx_tN α a)) (K.2 0) (K.1 3) (K.2 1) (K.2 2)) := hD.sub [0, 1, 2, 3, 4, 5, 6, 7, 8, 9, 10, 11, 12, 13, 14] (by decide) rfl
        subst hr_19
        refine lv_if_ne (tgt := 37) hx hb d_X_open_31 (by decide) (fun c_22 => ?_) (fun c_22 => ?_)
        · exact absurd c_22 (by decide)
        · refine lv_bipush (v := (-9)) hx hb d_X_open_34 (by decide +kernel) ?_
          have hP9 : va_P D vwCl (wXAk cA h g (nI L) (nI na) (sx_bI sb) (nI n) (α 1) (α 2) ab un sv sf sl acts (sx_kA (K.1 0) (K.1 1) (nI (sx_dN α a)) (sx_bI (sx_fb α 12 a)) (sx_bI (sx_fb α 14 a)) (nI 1) (nI (sx_oN α a)) (α 7 a) (K.1 2) (nI (sx_tN α a)) (K.2 0) (K.1 3) (K.2 1) (K.2 2))) H := hP
          have hD9 : va_D A (wXAk cA h g (nI L) (nI na) (sx_bI sb) (nI n) (α 1) (α 2) ab un sv sf sl acts (sx_kA (K.1 0) (K.1 1) (nI (sx_dN α a)) (sx_bI (sx_fb α 12 a)) (sx_bI (sx_fb α 14 a)) (nI 1) (nI (sx_oN α a)) (α 7 a) (K.1 2) (nI (sx_tN α a)) (K.2 0) (K.1 3) (K.2 1) (K.2 2))) := hD
          exact W.iret (v := (-9)) hx hb hr (fun t ht hW => ⟨⟨(-9), (sx_kA (K.1 0) (K.1 1) (nI (sx_dN α a)) (sx_bI (sx_fb α 12 a)) (sx_bI (sx_fb α 14 a)) (nI 1) (nI (sx_oN α a)) (α 7 a) (K.1 2) (nI (sx_tN α a)) (K.2 0) (K.1 3) (K.2 1) (K.2 2)), rfl, (sx_fin2 (sx_open_lim (sx_ok_t hth c_5 (sx_has0 h1n hn60)) heq) rfl (sx_RA_of hDO htp htsb hW0 e4 e12 e14 (by rw [sx_at]; rfl) e6 rfl e8)), by rw [ht]; exact hP9, by rw [hAe]; exact hD9⟩, hS.F ht⟩) hS.2.2 d_X_open_36
    · have c_5 : (sx_has n p) = false := sx_bI0 c_5
      refine lv_iconst (v := (-1)) hx hb d_X_open_21 (by decide +kernel) ?_
      have hP9 : va_P D vwCl (wXAk cA h g (nI L) (nI na) (sx_bI sb) (nI n) (α 1) (α 2) ab un sv sf sl acts (sx_kA (K.1 0) (K.1 1) (nI (sx_dN α a)) (sx_bI (sx_fb α 12 a)) (sx_bI (sx_fb α 14 a)) (sx_bI (sx_fb α 13 a)) (nI (sx_oN α a)) (α 7 a) (K.1 2) (nI (sx_tN α a)) (K.2 0) (K.1 3) (K.2 1) (K.2 2))) s.heap := hP
      have hD9 : va_D A (wXAk cA h g (nI L) (nI na) (sx_bI sb) (nI n) (α 1) (α 2) ab un sv sf sl acts (sx_kA (K.1 0) (K.1 1) (nI (sx_dN α a)) (sx_bI (sx_fb α 12 a)) (sx_bI (sx_fb α 14 a)) (sx_bI (sx_fb α 13 a)) (nI (sx_oN α a)) (α 7 a) (K.1 2) (nI (sx_tN α a)) (K.2 0) (K.1 3) (K.2 1) (K.2 2))) := hD
      exact W.iret (v := (-1)) hx hb hr (fun t ht hW => ⟨⟨(-1), (sx_kA (K.1 0) (K.1 1) (nI (sx_dN α a)) (sx_bI (sx_fb α 12 a)) (sx_bI (sx_fb α 14 a)) (sx_bI (sx_fb α 13 a)) (nI (sx_oN α a)) (α 7 a) (K.1 2) (nI (sx_tN α a)) (K.2 0) (K.1 3) (K.2 1) (K.2 2)), rfl, (sx_fin2 (sx_open_no (sx_ok_p c_5)) rfl (sx_RA_of hDO htp htsb hW0 e4 e12 e14 e13 e6 rfl e8)), by rw [ht]; exact hP9, by rw [hAe]; exact hD9⟩, hS.F ht⟩) hS.2.2 d_X_open_22
  · refine va_csq (va_runV (As := [.int (nI a)]) (rest := []) ⟨hx, hb, hml, hown, hts⟩ (k_runN l D cA h g (nI L) na (sx_bI sb) (nI n) (α 1) (α 2) ab un sv sf sl acts (K.1 0) (K.1 1) (nI (sx_dN α a)) (sx_fb α 12 a) (sx_bI (sx_fb α 14 a)) (sx_bI (sx_fb α 13 a)) (nI (sx_oN α a)) (α 7 a) (K.1 2) (nI (sx_tN α a)) (K.2 0) (K.1 3) (K.2 1) (K.2 2) a (by omega) (by omega) hacts hth) (cwV 1 hts (sx_GV wd_266 wd_268 ws_4 wd_1 wd_269) rfl rfl rfl (by decide +kernel) ⟨Nat.le_of_ble_eq_true rfl, Nat.le_of_ble_eq_true rfl⟩) (sx_preV hK hP (va_recv hK.1 hP (ci := 3) (q0 := 0) rfl rfl)) rfl rfl hl.1 rfl (lv_room (Nat.le_of_ble_eq_true rfl)) d_X_open_2 ⟨Nat.le_of_ble_eq_true rfl, Nat.le_of_ble_eq_true rfl⟩).run (fun r_24 hr_23 => ?_)
    subst hr_23
    refine sx_asv (y := .null) rfl ?_
    refine lv_astore_nN (lv' := [(3, .null), (0, .ref (h 0)), (1, .int (nI a)), (2, .int p)]) hx hb d_X_open_5 rfl hl (by decide) rfl (fun ls hl => ?_)
    refine lv_aload_nN hx hb d_X_open_6 rfl (lv_at hl 0 rfl) ?_
    refine lv_ifnullN (tgt := 21) hx hb d_X_open_7 (by decide) ?_
    refine lv_iconst (v := (-1)) hx hb d_X_open_21 (by decide +kernel) ?_
    have hP9 : va_P D vwCl (wXAk cA h g (nI L) (nI na) (sx_bI sb) (nI n) (α 1) (α 2) ab un sv sf sl acts (sx_kA (K.1 0) (K.1 1) (nI (sx_dN α a)) (sx_bI (sx_fb α 12 a)) (sx_bI (sx_fb α 14 a)) (sx_bI (sx_fb α 13 a)) (nI (sx_oN α a)) (α 7 a) (K.1 2) (nI (sx_tN α a)) (K.2 0) (K.1 3) (K.2 1) (K.2 2))) s.heap := hP
    have hD9 : va_D A (wXAk cA h g (nI L) (nI na) (sx_bI sb) (nI n) (α 1) (α 2) ab un sv sf sl acts (sx_kA (K.1 0) (K.1 1) (nI (sx_dN α a)) (sx_bI (sx_fb α 12 a)) (sx_bI (sx_fb α 14 a)) (sx_bI (sx_fb α 13 a)) (nI (sx_oN α a)) (α 7 a) (K.1 2) (nI (sx_tN α a)) (K.2 0) (K.1 3) (K.2 1) (K.2 2))) := hD
    exact W.iret (v := (-1)) hx hb hr (fun t ht hW => ⟨⟨(-1), (sx_kA (K.1 0) (K.1 1) (nI (sx_dN α a)) (sx_bI (sx_fb α 12 a)) (sx_bI (sx_fb α 14 a)) (sx_bI (sx_fb α 13 a)) (nI (sx_oN α a)) (α 7 a) (K.1 2) (nI (sx_tN α a)) (K.2 0) (K.1 3) (K.2 1) (K.2 2)), rfl, (sx_fin2 (sx_open_no (sx_ok_th hth)) rfl (sx_RA_of hDO htp htsb hW0 e4 e12 e14 e13 e6 rfl e8)), by rw [ht]; exact hP9, by rw [hAe]; exact hD9⟩, hS.F ht⟩) hS.2.2 d_X_open_22
