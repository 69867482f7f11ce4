set_option maxHeartbeats 4000000 in
set_option maxRecDepth 100000 in
theorem k_declare (l : Launch) (D : va_G) (cA : Nat → ClassId) (sz : Nat) (h g : Nat → Nat) (n na L : Nat) (sb : Bool) (α : sx_A) (ab un : Nat → Int64) (sv : Nat → Int32) (sf sl : Int64) (acts : Nat → Option Nat) (a : Nat) (K : sx_KA) (hI : sx_INV n na L α) (ha : a < na) (hR : sx_RP n (α 1) ab un) (hS0 : sx_RW (α 3) sv sf sl) (hRA : sx_RA α a K) (hacts : acts a = some (g 0)) (p : Int32) (ob : Bool) : Met l y_X_declare w_X_declare ({ frames := 3, cells := 0, slots := 0, locals := 67 }) (sx_Pw D cA [.ref (h 0), .int (nI a), .int p, .int (sx_bI ob)] (wXAk cA h g (nI L) (nI na) (sx_bI sb) (nI n) (α 1) (α 2) ab un sv sf sl acts K) sz) (va_Qi (fun r (u : sx_KA) => r = sx_decA n α a p ∧ sx_RA (sx_decS n α a p ob) a u) (sx_Bw D (wXAk cA h g (nI L) (nI na) (sx_bI sb) (nI n) (α 1) (α 2) ab un sv sf sl acts K) sz (fun u => wXAk cA h g (nI L) (nI na) (sx_bI sb) (nI n) (α 1) (α 2) ab un sv sf sl acts u)) (va_A (wXAk cA h g (nI L) (nI na) (sx_bI sb) (nI n) (α 1) (α 2) ab un sv sf sl acts K) sz)) 0 0 (va_A (wXAk cA h g (nI L) (nI na) (sx_bI sb) (nI n) (α 1) (α 2) ab un sv sf sl acts K) sz) := by
  refine Met.ofW (cc := b_X_declare) (maxL := 5) (ret := (some .int)) (by decide) rfl ?_
  intro pG eG s m args below meth cG s₁ B hml hv
  obtain ⟨rfl, hsz, hP, hK, hD0⟩ := hv
  have hx := B.exec
  have hb := B.bytes
  have hr := B.returns
  have hts0 := atoms_spec (ws := w_X_declare) B.pre
  have hts : ∀ w ∈ sx_gw, w.before _ s = true := fun w h => hts0 w (List.mem_cons_of_mem _ h)
  have hown : s.vm.findClass R_X = some m.cls := findClass_of_methodNamed B.named
  have hlocks := B.notSynchronized
  subst hsz
  have hD := hD0.self (sz := s.heap.size)
  generalize hAe : va_A (wXAk cA h g (nI L) (nI na) (sx_bI sb) (nI n) (α 1) (α 2) ab un sv sf sl acts K) s.heap.size = A at hD ⊢
  have hA : ∀ q : Nat, s.heap.size ≤ q → A q := fun q h => by rw [← hAe]; exact Or.inr h
  have hS : va_S A s.heap s.heap [] := va_S.rf
  have hl := lv_entry ([.ref (h 0), .int (nI a), .int p, .int (sx_bI ob)]) (n := 5) (Nat.le_of_ble_eq_true rfl)
  rw [lg_entry_eq]
  generalize (lg_sl ([.ref (h 0), .int (nI a), .int p, .int (sx_bI ob)]) ++ List.replicate (5 - (lg_sl ([.ref (h 0), .int (nI a), .int p, .int (sx_bI ob)])).length) Slot.unset).toArray = ls at hl ⊢
  have hl : lv_has ls 5 [(0, .ref (h 0)), (1, .int (nI a)), (2, .int p), (3, .int (sx_bI ob))] := hl
  have hn31 := sx_INV_n hI
  have hn60 := hI.1.1.2
  have h1n := hI.1.1.1
  have hAc := sx_INV_A hI ha
  have hd12 := (sx_dN_ok hAc).1
  have hna := hI.1.2.1
  have hL5 := hI.1.2.2.2
  obtain ⟨hDO, htp, htsb, hW0, f4, f12, f14, f13, f6, f7, f8⟩ := id hRA
  have e4 : nI (sx_dN α a) = α 4 a := (sx_dN_ok hAc).2.symm
  have e12 : sx_bI (sx_fb α 12 a) = α 12 a := sx_fb_ok hAc.2.2.2.2.2.1
  have e13 : sx_bI (sx_fb α 13 a) = α 13 a := sx_fb_ok hAc.2.2.2.2.2.2.1
  have e14 : sx_bI (sx_fb α 14 a) = α 14 a := sx_fb_ok hAc.2.2.2.2.2.2.2
  have e6 : nI (sx_oN α a) = α 6 a := (sx_oN_ok hAc hL5).2
  have oL := (sx_oN_ok hAc hL5).1
  have e8 : nI (sx_tN α a) = α 8 a := (sx_tN_ok hAc).2.symm
  have t60 := (sx_tN_ok hAc).1
  rw [sx_XA_eq hAc hL5 hRA] at hP hD
  refine lv_aload_n hx hb d_X_declare_0 rfl (lv_at hl 0 rfl) ?_
  refine lv_iload_n hx hb d_X_declare_1 rfl (lv_at hl 1 rfl) ?_
  have hPc : va_P D vwCl (wQ cA h (nI L) (nI na) (sx_bI sb) acts) s.heap := hP.sub [0, 8] rfl
  refine va_csq (va_runV (As := [.int (nI a)]) (rest := []) ⟨hx, hb, hml, hown, hts⟩ (k_actAt l D cA h (nI L) na (sx_bI sb) acts a (by omega) (by omega) (g 0) hacts) (cwV 1 hts (sx_GV wd_212 wd_214 ws_0 wd_1 wd_215) rfl rfl rfl (by decide +kernel) ⟨Nat.le_of_ble_eq_true rfl, Nat.le_of_ble_eq_true rfl⟩) (sx_preV hK hPc (va_recv hK.1 hPc (ci := 3) (q0 := 0) rfl rfl)) rfl rfl hl.1 rfl (lv_room (Nat.le_of_ble_eq_true rfl)) d_X_declare_2 ⟨Nat.le_of_ble_eq_true rfl, Nat.le_of_ble_eq_true rfl⟩).run (fun r_2 hr_1 => ?_)
  subst hr_1
  refine sx_asv (y := .ref (g 0)) rfl ?_
  refine lv_astore (lv' := [(4, .ref (g 0)), (0, .ref (h 0)), (1, .int (nI a)), (2, .int p), (3, .int (sx_bI ob))]) hx hb d_X_declare_5 hl (by decide) rfl (fun ls hl => ?_)
  refine lv_aload hx hb d_X_declare_7 (lv_at hl 0 rfl) ?_
  refine lv_ifnull hx hb d_X_declare_9 ?_
  refine lv_aload_n hx hb d_X_declare_12 rfl (lv_at hl 1 rfl) ?_
  refine va_get (D := D) (ci := 3) (v := .ref (h 1)) (C := R_X) (T := T_X) (N := 6) hx hb hts iw_X hown hK.1 hP 0 rfl rfl 1 (by decide) (hts _ wd_70) (fun _ h9 => h9) rfl d_X_declare_13 ?_
  refine lv_iload_n hx hb d_X_declare_16 rfl (lv_at hl 3 rfl) ?_
  have hPc : va_P D vwCl (wP cA (h 1) (h 2) (h 3) (h 4) (h 5) (nI n) (α 1) (α 2) ab un) s.heap := hP.sub [1, 2, 3, 4, 5] rfl
  refine vp_callSi (va_runV (As := [.int p]) (rest := []) ⟨hx, hb, hml, hown, hts⟩ (k_has l D cA (h 1) (h 2) (h 3) (h 4) (h 5) n (α 1) (α 2) ab un p) (cwV 1 hts (sx_GV wd_92 wd_93 wd_94 wd_3 wd_95) rfl rfl rfl (by decide +kernel) ⟨Nat.le_of_ble_eq_true rfl, Nat.le_of_ble_eq_true rfl⟩) (sx_preV hK hPc (va_recv hK.1 hPc (ci := 1) (q0 := 0) rfl rfl)) rfl rfl hl.1 rfl (lv_room (Nat.le_of_ble_eq_true rfl)) d_X_declare_17 ⟨Nat.le_of_ble_eq_true rfl, Nat.le_of_ble_eq_true rfl⟩).run (fun r_4 hr_3 => ?_)
  subst hr_3
  refine lv_if_eq (tgt := 27) hx hb d_X_declare_20 (by decide) (fun c_5 => ?_) (fun c_5 => ?_)
  · have c_5 : (sx_has n p) = false := sx_bI0 c_5
    refine lv_iconst (v := (-1)) hx hb d_X_declare_27 (by decide +kernel) ?_
    have hP9 : va_P D vwCl (wXAk cA h g (nI L) (nI na) (sx_bI sb) (nI n) (α 1) (α 2) ab un sv sf sl acts (sx_kA (K.1 0) (K.1 1) (nI (sx_dN α a)) (sx_bI (sx_fb α 12 a)) (sx_bI (sx_fb α 14 a)) (sx_bI (sx_fb α 13 a)) (nI (sx_oN α a)) (α 7 a) (K.1 2) (nI (sx_tN α a)) (K.2 0) (K.1 3) (K.2 1) (K.2 2))) s.heap := hP
    have hD9 : va_D A (wXAk cA h g (nI L) (nI na) (sx_bI sb) (nI n) (α 1) (α 2) ab un sv sf sl acts (sx_kA (K.1 0) (K.1 1) (nI (sx_dN α a)) (sx_bI (sx_fb α 12 a)) (sx_bI (sx_fb α 14 a)) (sx_bI (sx_fb α 13 a)) (nI (sx_oN α a)) (α 7 a) (K.1 2) (nI (sx_tN α a)) (K.2 0) (K.1 3) (K.2 1) (K.2 2))) := hD
    exact W.iret (v := (-1)) hx hb hr (fun t ht hW => ⟨⟨(-1), (sx_kA (K.1 0) (K.1 1) (nI (sx_dN α a)) (sx_bI (sx_fb α 12 a)) (sx_bI (sx_fb α 14 a)) (sx_bI (sx_fb α 13 a)) (nI (sx_oN α a)) (α 7 a) (K.1 2) (nI (sx_tN α a)) (K.2 0) (K.1 3) (K.2 1) (K.2 2)), rfl, (sx_fin2 (sx_dec_no (o := ob) (sx_decO_p c_5)) rfl (sx_RA_of hDO htp htsb hW0 e4 e12 e14 e13 e6 rfl e8)), by rw [ht]; exact hP9, by rw [hAe]; exact hD9⟩, hS.F ht⟩) hS.2.2 d_X_declare_28
  · have c_5 : (sx_has n p) = true := sx_bIn c_5
    refine lv_iload_n hx hb d_X_declare_23 rfl (lv_at hl 3 rfl) ?_
    refine lv_if_ne (tgt := 29) hx hb d_X_declare_24 (by decide) (fun c_6 => ?_) (fun c_6 => ?_)
    · obtain ⟨j, hj, rfl⟩ := sx_has_t (by omega) c_5
      refine lv_aload hx hb d_X_declare_29 (lv_at hl 0 rfl) ?_
      refine va_getN (D := D) (ci := 0) (v := .int (nI (sx_dN α a))) (C := R_A) (T := T_A) (N := 12) hx hb hts iw_A hown hK.1 hP 9 rfl rfl 2 (by decide) (va_Nw.use rfl (hK.2.1 _ wd_164)) (fun _ h9 => h9) rfl d_X_declare_31 ?_
      refine lv_bipush (v := nI 12) hx hb d_X_declare_34 (by decide +kernel) ?_
      refine lv_icmp_ge (tgt := 47) hx hb d_X_declare_36 (by decide) (fun c_7 => ?_) (fun c_7 => ?_)
      · have c_7 : 12 ≤ sx_dN α a := (nI_leI (by decide) (by omega)).mp c_7
        refine lv_iconst (v := (-1)) hx hb d_X_declare_47 (by decide +kernel) ?_
        have hP9 : va_P D vwCl (wXAk cA h g (nI L) (nI na) (sx_bI sb) (nI n) (α 1) (α 2) ab un sv sf sl acts (sx_kA (K.1 0) (K.1 1) (nI (sx_dN α a)) (sx_bI (sx_fb α 12 a)) (sx_bI (sx_fb α 14 a)) (sx_bI (sx_fb α 13 a)) (nI (sx_oN α a)) (α 7 a) (K.1 2) (nI (sx_tN α a)) (K.2 0) (K.1 3) (K.2 1) (K.2 2))) s.heap := hP
        have hD9 : va_D A (wXAk cA h g (nI L) (nI na) (sx_bI sb) (nI n) (α 1) (α 2) ab un sv sf sl acts (sx_kA (K.1 0) (K.1 1) (nI (sx_dN α a)) (sx_bI (sx_fb α 12 a)) (sx_bI (sx_fb α 14 a)) (sx_bI (sx_fb α 13 a)) (nI (sx_oN α a)) (α 7 a) (K.1 2) (nI (sx_tN α a)) (K.2 0) (K.1 3) (K.2 1) (K.2 2))) := hD
        exact W.iret (v := (-1)) hx hb hr (fun t ht hW => ⟨⟨(-1), (sx_kA (K.1 0) (K.1 1) (nI (sx_dN α a)) (sx_bI (sx_fb α 12 a)) (sx_bI (sx_fb α 14 a)) (sx_bI (sx_fb α 13 a)) (nI (sx_oN α a)) (α 7 a) (K.1 2) (nI (sx_tN α a)) (K.2 0) (K.1 3) (K.2 1) (K.2 2)), rfl, (sx_fin2 (sx_dec_no (o := ob) (sx_decO_f (by rw [← e4, show sx_dN α a = 12 by omega]; rfl))) rfl (sx_RA_of hDO htp htsb hW0 e4 e12 e14 e13 e6 rfl e8)), by rw [ht]; exact hP9, by rw [hAe]; exact hD9⟩, hS.F ht⟩) hS.2.2 d_X_declare_48
      · have c_7 : sx_dN α a < 12 := Nat.not_le.mp (fun z => c_7 ((nI_leI (by decide) (by omega)).mpr z))
        refine lv_aload hx hb d_X_declare_39 (lv_at hl 0 rfl) ?_
        refine va_getN (D := D) (ci := 0) (v := .int (sx_bI (sx_fb α 12 a))) (C := R_A) (T := T_A) (N := 12) hx hb hts iw_A hown hK.1 hP 9 rfl rfl 4 (by decide) (va_Nw.use rfl (hK.2.1 _ wd_168)) (fun _ h9 => h9) rfl d_X_declare_41 ?_
        refine lv_if_eq (tgt := 49) hx hb d_X_declare_44 (by decide) (fun c_8 => ?_) (fun c_8 => ?_)
        · have c_8 : (sx_fb α 12 a) = false := sx_bI0 c_8
          refine lv_aload_n hx hb d_X_declare_49 rfl (lv_at hl 1 rfl) ?_
          refine lv_aload hx hb d_X_declare_50 (lv_at hl 0 rfl) ?_
          refine lv_iload_n hx hb d_X_declare_52 rfl (lv_at hl 3 rfl) ?_
          refine vp_callSi (va_runV (As := [.ref (g 0), .int (nI j)]) (rest := []) ⟨hx, hb, hml, hown, hts⟩ (k_touch l D cA h g (nI L) (nI na) (sx_bI sb) n α ab un sv sf sl acts a (K.1 0) (K.1 1) (sx_bI (sx_fb α 12 a)) (sx_bI (sx_fb α 14 a)) (sx_bI (sx_fb α 13 a)) (nI (sx_oN α a)) (α 7 a) (K.1 2) (nI (sx_tN α a)) (K.2 0) (K.1 3) (K.2 1) (K.2 2) na L hI ha hR hDO j (by omega)) (cwV 2 hts (sx_GV wd_216 wd_218 ws_1 wd_1 wd_219) rfl rfl rfl (by decide +kernel) ⟨Nat.le_of_ble_eq_true rfl, Nat.le_of_ble_eq_true rfl⟩) (sx_preV hK hP (va_recv hK.1 hP (ci := 3) (q0 := 0) rfl rfl)) rfl rfl hl.1 rfl (lv_room (Nat.le_of_ble_eq_true rfl)) d_X_declare_53 ⟨Nat.le_of_ble_eq_true rfl, Nat.le_of_ble_eq_true rfl⟩).run (fun r_10 hr_9 => ?_)
          subst hr_9
          refine lv_if_eq (tgt := 62) hx hb d_X_declare_56 (by decide) (fun c_11 => ?_) (fun c_11 => ?_)
          · have c_11 : (sx_decT α a j) = false := sx_bI0 c_11
            refine lv_aload hx hb d_X_declare_62 (lv_at hl 0 rfl) ?_
            refine lv_iload_n hx hb d_X_declare_64 rfl (lv_at hl 3 rfl) ?_
            refine lv_iload_n hx hb d_X_declare_65 rfl (lv_at hl 4 rfl) ?_
            have hPc : va_P D vwCl (wA cA (g 0) (g 1) (g 2) (g 3) (g 4) (g 5) (K.1 0) (K.1 1) (nI (sx_dN α a)) (sx_bI (sx_fb α 12 a)) (sx_bI (sx_fb α 14 a)) (sx_bI (sx_fb α 13 a)) (nI (sx_oN α a)) (α 7 a) (K.1 2) (nI (sx_tN α a)) (K.2 0) (K.1 3) (K.2 1) (K.2 2)) s.heap := hP.sub [9, 10, 11, 12, 13, 14] rfl
            have hDc : va_D A (wA cA (g 0) (g 1) (g 2) (g 3) (g 4) (g 5) (K.1 0) (K.1 1) (nI (sx_dN α a)) (sx_bI (sx_fb α 12 a)) (sx_bI (sx_fb α 14 a)) (sx_bI (sx_fb α 13 a)) (nI (sx_oN α a)) (α 7 a) (K.1 2) (nI (sx_tN α a)) (K.2 0) (K.1 3) (K.2 1) (K.2 2)) := hD.sub [9, 10, 11, 12, 13, 14] (by decide) rfl
            refine sx_callv (wr := [(h 0, .inr (3, [.int (nI L), .ref (h 1), .ref (h 6), .ref (h 8), .int (nI na), .int (sx_bI sb)])), (h 1, .inr (1, [.ref (h 2), .ref (h 3), .ref (h 4), .ref (h 5), .int (nI n)])), (h 2, .inl (cA 0, 60, .inl (α 1))), (h 3, .inl (cA 2, 60, .inl (α 2))), (h 4, .inl (cA 3, 60, .inr (.inl ab))), (h 5, .inl (cA 3, 60, .inr (.inl un))), (h 6, .inr (2, [.ref (h 7), .long sf, .long sl])), (h 7, .inl (cA 0, 60, .inl sv)), (h 8, .inl (cA 4, 10, .inr (.inr (.inr (.inr acts)))))]) (va_runV (As := [.int (nI j), .int (sx_bI ob)]) (rest := []) ⟨hx, hb, hml, hown, hts⟩ (k_addD l D cA s.heap.size (g 0) (g 1) (g 2) (g 3) (g 4) (g 5) (K.1 0) (K.1 1) (sx_dN α a) (sx_bI (sx_fb α 12 a)) (sx_bI (sx_fb α 14 a)) (sx_bI (sx_fb α 13 a)) (nI (sx_oN α a)) (α 7 a) (K.1 2) (nI (sx_tN α a)) (K.2 0) (K.1 3) (K.2 1) (K.2 2) (by omega) (nI j) ob) (cwV 2 hts (sx_GV wd_221 wd_222 wd_223 wd_6 wd_224) rfl rfl rfl (by decide +kernel) ⟨Nat.le_of_ble_eq_true rfl, Nat.le_of_ble_eq_true rfl⟩) (sx_preVw hK hPc hDc (va_recv hK.1 hPc (ci := 0) (q0 := 0) rfl rfl)) rfl rfl hl.1 rfl (lv_room (Nat.le_of_ble_eq_true rfl)) d_X_declare_66 ⟨Nat.le_of_ble_eq_true rfl, Nat.le_of_ble_eq_true rfl⟩) hP hD hS hA [9, 10, 11, 12, 13, 14] [0, 1, 2, 3, 4, 5, 6, 7, 8] rfl rfl (by decide) (by decide) (fun u_14 H locs hr_12 hP hD hS => ?_)
            have hP : va_P D vwCl (wXA cA h g (nI L) (nI na) (sx_bI sb) (nI n) (α 1) (α 2) ab un sv sf sl acts (upd (K.1 0) (sx_dN α a) (nI j)) (upd (K.1 1) (sx_dN α a) (sx_bI ob)) (nI (sx_dN α a + 1)) (sx_bI (sx_fb α 12 a)) (sx_bI (sx_fb α 14 a)) (sx_bI (sx_fb α 13 a)) (nI (sx_oN α a)) (α 7 a) (K.1 2) (nI (sx_tN α a)) (K.2 0) (K.1 3) (K.2 1) (K.2 2)) H := hP.sub [0, 1, 2, 3, 4, 5, 6, 7, 8, 9, 10, 11, 12, 13, 14] rfl
            have hD : va_D A (wXA cA h g (nI L) (nI na) (sx_bI sb) (nI n) (α 1) (α 2) ab un sv sf sl acts (upd (K.1 0) (sx_dN α a) (nI j)) (upd (K.1 1) (sx_dN α a) (sx_bI ob)) (nI (sx_dN α a + 1)) (sx_bI (sx_fb α 12 a)) (sx_bI (sx_fb α 14 a)) (sx_bI (sx_fb α 13 a)) (nI (sx_oN α a)) (α 7 a) (K.1 2) (nI (sx_tN α a)) (K.2 0) (K.1 3) (K.2 1) (K.2 2)) := hD.sub [0, 1, 2, 3, 4, 5, 6, 7, 8, 9, 10, 11, 12, 13, 14] (by decide) rfl
            refine lv_iconst (v := nI 1) hx hb d_X_declare_69 (by decide +kernel) ?_
            have hP9 : va_P D vwCl (wXAk cA h g (nI L) (nI na) (sx_bI sb) (nI n) (α 1) (α 2) ab un sv sf sl acts (sx_kA (upd (K.1 0) (sx_dN α a) (nI j)) (upd (K.1 1) (sx_dN α a) (sx_bI ob)) (nI (sx_dN α a + 1)) (sx_bI (sx_fb α 12 a)) (sx_bI (sx_fb α 14 a)) (sx_bI (sx_fb α 13 a)) (nI (sx_oN α a)) (α 7 a) (K.1 2) (nI (sx_tN α a)) (K.2 0) (K.1 3) (K.2 1) (K.2 2))) H := hP
            have hD9 : va_D A (wXAk cA h g (nI L) (nI na) (sx_bI sb) (nI n) (α 1) (α 2) ab un sv sf sl acts (sx_kA (upd (K.1 0) (sx_dN α a) (nI j)) (upd (K.1 1) (sx_dN α a) (sx_bI ob)) (nI (sx_dN α a + 1)) (sx_bI (sx_fb α 12 a)) (sx_bI (sx_fb α 14 a)) (sx_bI (sx_fb α 13 a)) (nI (sx_oN α a)) (α 7 a) (K.1 2) (nI (sx_tN α a)) (K.2 0) (K.1 3) (K.2 1) (K.2 2))) := hD
            exact W.iret (v := nI 1) hx hb hr (fun t ht hW => ⟨⟨nI 1, (sx_kA (upd (K.1 0) (sx_dN α a) (nI j)) (upd (K.1 1) (sx_dN α a) (sx_bI ob)) (nI (sx_dN α a + 1)) (sx_bI (sx_fb α 12 a)) (sx_bI (sx_fb α 14 a)) (sx_bI (sx_fb α 13 a)) (nI (sx_oN α a)) (α 7 a) (K.1 2) (nI (sx_tN α a)) (K.2 0) (K.1 3) (K.2 1) (K.2 2)), rfl, (sx_fin2 (sx_dec_y (o := ob) (by omega) (sx_decO_t (sx_has_nI (by omega) hj) c_6 (fun z => by rw [← e4] at z; have := (nI_eq (b := 12) (by omega) (by decide)).mp z; omega) c_8) c_11) rfl (sx_RA_dec (by omega) hDO htp htsb hW0 (by rw [← e4, nI_1]) e12 e14 e13 e6 rfl e8)), by rw [ht]; exact hP9, by rw [hAe]; exact hD9⟩, hS.F ht⟩) hS.2.2 d_X_declare_70
          · have c_11 : (sx_decT α a j) = true := sx_bIn c_11
            refine lv_bipush (v := (-2)) hx hb d_X_declare_59 (by decide +kernel) ?_
            have hP9 : va_P D vwCl (wXAk cA h g (nI L) (nI na) (sx_bI sb) (nI n) (α 1) (α 2) ab un sv sf sl acts (sx_kA (K.1 0) (K.1 1) (nI (sx_dN α a)) (sx_bI (sx_fb α 12 a)) (sx_bI (sx_fb α 14 a)) (sx_bI (sx_fb α 13 a)) (nI (sx_oN α a)) (α 7 a) (K.1 2) (nI (sx_tN α a)) (K.2 0) (K.1 3) (K.2 1) (K.2 2))) s.heap := hP
            have hD9 : va_D A (wXAk cA h g (nI L) (nI na) (sx_bI sb) (nI n) (α 1) (α 2) ab un sv sf sl acts (sx_kA (K.1 0) (K.1 1) (nI (sx_dN α a)) (sx_bI (sx_fb α 12 a)) (sx_bI (sx_fb α 14 a)) (sx_bI (sx_fb α 13 a)) (nI (sx_oN α a)) (α 7 a) (K.1 2) (nI (sx_tN α a)) (K.2 0) (K.1 3) (K.2 1) (K.2 2))) := hD
            exact W.iret (v := (-2)) hx hb hr (fun t ht hW => ⟨⟨(-2), (sx_kA (K.1 0) (K.1 1) (nI (sx_dN α a)) (sx_bI (sx_fb α 12 a)) (sx_bI (sx_fb α 14 a)) (sx_bI (sx_fb α 13 a)) (nI (sx_oN α a)) (α 7 a) (K.1 2) (nI (sx_tN α a)) (K.2 0) (K.1 3) (K.2 1) (K.2 2)), rfl, (sx_fin2 (sx_dec_t (o := ob) (by omega) (sx_decO_t (sx_has_nI (by omega) hj) c_6 (fun z => by rw [← e4] at z; have := (nI_eq (b := 12) (by omega) (by decide)).mp z; omega) c_8) c_11) rfl (sx_RA_of hDO htp htsb hW0 e4 e12 e14 e13 e6 rfl e8)), by rw [ht]; exact hP9, by rw [hAe]; exact hD9⟩, hS.F ht⟩) hS.2.2 d_X_declare_61
        · have c_8 : (sx_fb α 12 a) = true := sx_bIn c_8
          refine lv_iconst (v := (-1)) hx hb d_X_declare_47 (by decide +kernel) ?_
          have hP9 : va_P D vwCl (wXAk cA h g (nI L) (nI na) (sx_bI sb) (nI n) (α 1) (α 2) ab un sv sf sl acts (sx_kA (K.1 0) (K.1 1) (nI (sx_dN α a)) (sx_bI (sx_fb α 12 a)) (sx_bI (sx_fb α 14 a)) (sx_bI (sx_fb α 13 a)) (nI (sx_oN α a)) (α 7 a) (K.1 2) (nI (sx_tN α a)) (K.2 0) (K.1 3) (K.2 1) (K.2 2))) s.heap := hP
          have hD9 : va_D A (wXAk cA h g (nI L) (nI na) (sx_bI sb) (nI n) (α 1) (α 2) ab un sv sf sl acts (sx_kA (K.1 0) (K.1 1) (nI (sx_dN α a)) (sx_bI (sx_fb α 12 a)) (sx_bI (sx_fb α 14 a)) (sx_bI (sx_fb α 13 a)) (nI (sx_oN α a)) (α 7 a) (K.1 2) (nI (sx_tN α a)) (K.2 0) (K.1 3) (K.2 1) (K.2 2))) := hD
          exact W.iret (v := (-1)) hx hb hr (fun t ht hW => ⟨⟨(-1), (sx_kA (K.1 0) (K.1 1) (nI (sx_dN α a)) (sx_bI (sx_fb α 12 a)) (sx_bI (sx_fb α 14 a)) (sx_bI (sx_fb α 13 a)) (nI (sx_oN α a)) (α 7 a) (K.1 2) (nI (sx_tN α a)) (K.2 0) (K.1 3) (K.2 1) (K.2 2)), rfl, (sx_fin2 (sx_dec_no (o := ob) (sx_decO_w c_8)) rfl (sx_RA_of hDO htp htsb hW0 e4 e12 e14 e13 e6 rfl e8)), by rw [ht]; exact hP9, by rw [hAe]; exact hD9⟩, hS.F ht⟩) hS.2.2 d_X_declare_48
    · refine lv_iconst (v := (-1)) hx hb d_X_declare_27 (by decide +kernel) ?_
      have hP9 : va_P D vwCl (wXAk cA h g (nI L) (nI na) (sx_bI sb) (nI n) (α 1) (α 2) ab un sv sf sl acts (sx_kA (K.1 0) (K.1 1) (nI (sx_dN α a)) (sx_bI (sx_fb α 12 a)) (sx_bI (sx_fb α 14 a)) (sx_bI (sx_fb α 13 a)) (nI (sx_oN α a)) (α 7 a) (K.1 2) (nI (sx_tN α a)) (K.2 0) (K.1 3) (K.2 1) (K.2 2))) s.heap := hP
      have hD9 : va_D A (wXAk cA h g (nI L) (nI na) (sx_bI sb) (nI n) (α 1) (α 2) ab un sv sf sl acts (sx_kA (K.1 0) (K.1 1) (nI (sx_dN α a)) (sx_bI (sx_fb α 12 a)) (sx_bI (sx_fb α 14 a)) (sx_bI (sx_fb α 13 a)) (nI (sx_oN α a)) (α 7 a) (K.1 2) (nI (sx_tN α a)) (K.2 0) (K.1 3) (K.2 1) (K.2 2))) := hD
      exact W.iret (v := (-1)) hx hb hr (fun t ht hW => ⟨⟨(-1), (sx_kA (K.1 0) (K.1 1) (nI (sx_dN α a)) (sx_bI (sx_fb α 12 a)) (sx_bI (sx_fb α 14 a)) (sx_bI (sx_fb α 13 a)) (nI (sx_oN α a)) (α 7 a) (K.1 2) (nI (sx_tN α a)) (K.2 0) (K.1 3) (K.2 1) (K.2 2)), rfl, (sx_fin2 (sx_dec_no (o := ob) (sx_decO_0 c_6)) rfl (sx_RA_of hDO htp htsb hW0 e4 e12 e14 e13 e6 rfl e8)), by rw [ht]; exact hP9, by rw [hAe]; exact hD9⟩, hS.F ht⟩) hS.2.2 d_X_declare_28

set_option maxHeartbeats 4000000 in
set_option maxRecDepth 100000 in
theorem k_begin (l : Launch) (D : va_G) (cA : Nat → ClassId) (sz : Nat) (h g : Nat → Nat) (n na L : Nat) (sb : Bool) (α : sx_A) (ab un : Nat → Int64) (sv : Nat → Int32) (sf sl : Int64) (acts : Nat → Option Nat) (a : Nat) (K : sx_KA) (hI : sx_INV n na L α) (ha : a < na) (hR : sx_RP n (α 1) ab un) (hS0 : sx_RW (α 3) sv sf sl) (hRA : sx_RA α a K) (hacts : acts a = some (g 0)) : Met l y_X_begin w_X_begin ({ frames := 3, cells := 0, slots := 0, locals := 67 }) (sx_Pw D cA [.ref (h 0), .int (nI a)] (wXAk cA h g (nI L) (nI na) (sx_bI sb) (nI n) (α 1) (α 2) ab un sv sf sl acts K) sz) (va_Qi (fun r (u : sx_KA) => r = sx_begA n α a ∧ sx_RA (sx_begS n α a) a u) (sx_Bw D (wXAk cA h g (nI L) (nI na) (sx_bI sb) (nI n) (α 1) (α 2) ab un sv sf sl acts K) sz (fun u => wXAk cA h g (nI L) (nI na) (sx_bI sb) (nI n) (α 1) (α 2) ab un sv sf sl acts u)) (va_A (wXAk cA h g (nI L) (nI na) (sx_bI sb) (nI n) (α 1) (α 2) ab un sv sf sl acts K) sz)) 0 0 (va_A (wXAk cA h g (nI L) (nI na) (sx_bI sb) (nI n) (α 1) (α 2) ab un sv sf sl acts K) sz) := by
  refine Met.ofW (cc := b_X_begin) (maxL := 3) (ret := (some .int)) (by decide) rfl ?_
  intro pG eG s m args below meth cG s₁ B hml hv
  obtain ⟨rfl, hsz, hP, hK, hD0⟩ := hv
  have hx := B.exec
  have hb := B.bytes
  have hr := B.returns
  have hts0 := atoms_spec (ws := w_X_begin) B.pre
  have hts : ∀ w ∈ sx_gw, w.before _ s = true := fun w h => hts0 w (List.mem_cons_of_mem _ h)
  have hown : s.vm.findClass R_X = some m.cls := findClass_of_methodNamed B.named
  have hlocks := B.notSynchronized
  subst hsz
  have hD := hD0.self (sz := s.heap.size)
  generalize hAe : va_A (wXAk cA h g (nI L) (nI na) (sx_bI sb) (nI n) (α 1) (α 2) ab un sv sf sl acts K) s.heap.size = A at hD ⊢
  have hA : ∀ q : Nat, s.heap.size ≤ q → A q := fun q h => by rw [← hAe]; exact Or.inr h
  have hS : va_S A s.heap s.heap [] := va_S.rf
  have hl := lv_entry ([.ref (h 0), .int (nI a)]) (n := 3) (Nat.le_of_ble_eq_true rfl)
  rw [lg_entry_eq]
  generalize (lg_sl ([.ref (h 0), .int (nI a)]) ++ List.replicate (3 - (lg_sl ([.ref (h 0), .int (nI a)])).length) Slot.unset).toArray = ls at hl ⊢
  have hl : lv_has ls 3 [(0, .ref (h 0)), (1, .int (nI a))] := hl
  have hn31 := sx_INV_n hI
  have hn60 := hI.1.1.2
  have h1n := hI.1.1.1
  have hAc := sx_INV_A hI ha
  have hd12 := (sx_dN_ok hAc).1
  have hna := hI.1.2.1
  have hL5 := hI.1.2.2.2
  obtain ⟨hDO, htp, htsb, hW0, f4, f12, f14, f13, f6, f7, f8⟩ := id hRA
  have e4 : nI (sx_dN α a) = α 4 a := (sx_dN_ok hAc).2.symm
  have e12 : sx_bI (sx_fb α 12 a) = α 12 a := sx_fb_ok hAc.2.2.2.2.2.1
  have e13 : sx_bI (sx_fb α 13 a) = α 13 a := sx_fb_ok hAc.2.2.2.2.2.2.1
  have e14 : sx_bI (sx_fb α 14 a) = α 14 a := sx_fb_ok hAc.2.2.2.2.2.2.2
  have e6 : nI (sx_oN α a) = α 6 a := (sx_oN_ok hAc hL5).2
  have oL := (sx_oN_ok hAc hL5).1
  have e8 : nI (sx_tN α a) = α 8 a := (sx_tN_ok hAc).2.symm
  have t60 := (sx_tN_ok hAc).1
  rw [sx_XA_eq hAc hL5 hRA] at hP hD
  refine lv_aload_n hx hb d_X_begin_0 rfl (lv_at hl 0 rfl) ?_
  refine lv_iload_n hx hb d_X_begin_1 rfl (lv_at hl 1 rfl) ?_
  have hPc : va_P D vwCl (wQ cA h (nI L) (nI na) (sx_bI sb) acts) s.heap := hP.sub [0, 8] rfl
  refine va_csq (va_runV (As := [.int (nI a)]) (rest := []) ⟨hx, hb, hml, hown, hts⟩ (k_actAt l D cA h (nI L) na (sx_bI sb) acts a (by omega) (by omega) (g 0) hacts) (cwV 1 hts (sx_GV wd_212 wd_214 ws_0 wd_1 wd_215) rfl rfl rfl (by decide +kernel) ⟨Nat.le_of_ble_eq_true rfl, Nat.le_of_ble_eq_true rfl⟩) (sx_preV hK hPc (va_recv hK.1 hPc (ci := 3) (q0 := 0) rfl rfl)) rfl rfl hl.1 rfl (lv_room (Nat.le_of_ble_eq_true rfl)) d_X_begin_2 ⟨Nat.le_of_ble_eq_true rfl, Nat.le_of_ble_eq_true rfl⟩).run (fun r_2 hr_1 => ?_)
  subst hr_1
  refine sx_asv (y := .ref (g 0)) rfl ?_
  refine lv_astore_n (lv' := [(2, .ref (g 0)), (0, .ref (h 0)), (1, .int (nI a))]) hx hb d_X_begin_5 rfl hl (by decide) rfl (fun ls hl => ?_)
  refine lv_aload_n hx hb d_X_begin_6 rfl (lv_at hl 0 rfl) ?_
  refine lv_ifnull hx hb d_X_begin_7 ?_
  refine lv_aload_n hx hb d_X_begin_10 rfl (lv_at hl 0 rfl) ?_
  refine va_getN (D := D) (ci := 0) (v := .int (sx_bI (sx_fb α 12 a))) (C := R_A) (T := T_A) (N := 12) hx hb hts iw_A hown hK.1 hP 9 rfl rfl 4 (by decide) (va_Nw.use rfl (hK.2.1 _ wd_168)) (fun _ h9 => h9) rfl d_X_begin_11 ?_
  refine lv_if_eq (tgt := 19) hx hb d_X_begin_14 (by decide) (fun c_3 => ?_) (fun c_3 => ?_)
  · have c_3 : (sx_fb α 12 a) = false := sx_bI0 c_3
    refine lv_aload_n hx hb d_X_begin_19 rfl (lv_at hl 1 rfl) ?_
    refine lv_aload_n hx hb d_X_begin_20 rfl (lv_at hl 0 rfl) ?_
    refine vp_callSi (va_runV (As := [.ref (g 0)]) (rest := []) ⟨hx, hb, hml, hown, hts⟩ (k_lack l D cA h g (nI L) (nI na) (sx_bI sb) n α ab un sv sf sl acts a (K.1 0) (K.1 1) (sx_bI (sx_fb α 12 a)) (sx_bI (sx_fb α 14 a)) (sx_bI (sx_fb α 13 a)) (nI (sx_oN α a)) (α 7 a) (K.1 2) (nI (sx_tN α a)) (K.2 0) (K.1 3) (K.2 1) (K.2 2) na L hI ha hR hDO hS0) (cwV 1 hts (sx_GV wd_233 wd_235 ws_2 wd_1 wd_236) rfl rfl rfl (by decide +kernel) ⟨Nat.le_of_ble_eq_true rfl, Nat.le_of_ble_eq_true rfl⟩) (sx_preV hK hP (va_recv hK.1 hP (ci := 3) (q0 := 0) rfl rfl)) rfl rfl hl.1 rfl (lv_room (Nat.le_of_ble_eq_true rfl)) d_X_begin_21 ⟨Nat.le_of_ble_eq_true rfl, Nat.le_of_ble_eq_true rfl⟩).run (fun r_5 hr_4 => ?_)
    subst hr_4
    refine lv_if_eq (tgt := 30) hx hb d_X_begin_24 (by decide) (fun c_6 => ?_) (fun c_6 => ?_)
    · have c_6 : (sx_lack n α a) = false := sx_bI0 c_6
      refine lv_aload_n hx hb d_X_begin_30 rfl (lv_at hl 0 rfl) ?_
      have hPc : va_P D vwCl (wA cA (g 0) (g 1) (g 2) (g 3) (g 4) (g 5) (K.1 0) (K.1 1) (nI (sx_dN α a)) (sx_bI (sx_fb α 12 a)) (sx_bI (sx_fb α 14 a)) (sx_bI (sx_fb α 13 a)) (nI (sx_oN α a)) (α 7 a) (K.1 2) (nI (sx_tN α a)) (K.2 0) (K.1 3) (K.2 1) (K.2 2)) s.heap := hP.sub [9, 10, 11, 12, 13, 14] rfl
      have hDc : va_D A (wA cA (g 0) (g 1) (g 2) (g 3) (g 4) (g 5) (K.1 0) (K.1 1) (nI (sx_dN α a)) (sx_bI (sx_fb α 12 a)) (sx_bI (sx_fb α 14 a)) (sx_bI (sx_fb α 13 a)) (nI (sx_oN α a)) (α 7 a) (K.1 2) (nI (sx_tN α a)) (K.2 0) (K.1 3) (K.2 1) (K.2 2)) := hD.sub [9, 10, 11, 12, 13, 14] (by decide) rfl
      refine sx_callv (wr := [(h 0, .inr (3, [.int (nI L), .ref (h 1), .ref (h 6), .ref (h 8), .int (nI na), .int (sx_bI sb)])), (h 1, .inr (1, [.ref (h 2), .ref (h 3), .ref (h 4), .ref (h 5), .int (nI n)])), (h 2, .inl (cA 0, 60, .inl (α 1))), (h 3, .inl (cA 2, 60, .inl (α 2))), (h 4, .inl (cA 3, 60, .inr (.inl ab))), (h 5, .inl (cA 3, 60, .inr (.inl un))), (h 6, .inr (2, [.ref (h 7), .long sf, .long sl])), (h 7, .inl (cA 0, 60, .inl sv)), (h 8, .inl (cA 4, 10, .inr (.inr (.inr (.inr acts)))))]) (va_runV (As := []) (rest := []) ⟨hx, hb, hml, hown, hts⟩ (k_startW l D cA s.heap.size (g 0) (g 1) (g 2) (g 3) (g 4) (g 5) (K.1 0) (K.1 1) (nI (sx_dN α a)) (sx_bI (sx_fb α 12 a)) (sx_bI (sx_fb α 14 a)) (sx_bI (sx_fb α 13 a)) (nI (sx_oN α a)) (α 7 a) (K.1 2) (nI (sx_tN α a)) (K.2 0) (K.1 3) (K.2 1) (K.2 2)) (cwV 0 hts (sx_GV wd_241 wd_242 wd_243 wd_6 wd_244) rfl rfl rfl (by decide +kernel) ⟨Nat.le_of_ble_eq_true rfl, Nat.le_of_ble_eq_true rfl⟩) (sx_preVw hK hPc hDc (va_recv hK.1 hPc (ci := 0) (q0 := 0) rfl rfl)) rfl rfl hl.1 rfl (lv_room (Nat.le_of_ble_eq_true rfl)) d_X_begin_31 ⟨Nat.le_of_ble_eq_true rfl, Nat.le_of_ble_eq_true rfl⟩) hP hD hS hA [9, 10, 11, 12, 13, 14] [0, 1, 2, 3, 4, 5, 6, 7, 8] rfl rfl (by decide) (by decide) (fun u_9 H locs hr_7 hP hD hS => ?_)
      have hP : va_P D vwCl (wXA cA h g (nI L) (nI na) (sx_bI sb) (nI n) (α 1) (α 2) ab un sv sf sl acts (K.1 0) (K.1 1) (nI (sx_dN α a)) (nI 1) (nI 1) (nI 0) (nI 0) (nI 0) (K.1 2) (nI 0) 0 (K.1 3) (K.2 1) (K.2 2)) H := hP.sub [0, 1, 2, 3, 4, 5, 6, 7, 8, 9, 10, 11, 12, 13, 14] rfl
      have hD : va_D A (wXA cA h g (nI L) (nI na) (sx_bI sb) (nI n) (α 1) (α 2) ab un sv sf sl acts (K.1 0) (K.1 1) (nI (sx_dN α a)) (nI 1) (nI 1) (nI 0) (nI 0) (nI 0) (K.1 2) (nI 0) 0 (K.1 3) (K.2 1) (K.2 2)) := hD.sub [0, 1, 2, 3, 4, 5, 6, 7, 8, 9, 10, 11, 12, 13, 14] (by decide) rfl
      refine lv_aload_n hx hb d_X_begin_34 rfl (lv_at hl 0 rfl) ?_
      refine va_getN (D := D) (ci := 0) (v := .ref (g 3)) (C := R_A) (T := T_A) (N := 12) hx hb hts iw_A hown hK.1 hP 9 rfl rfl 3 (by decide) (va_Nw.use rfl (hK.2.1 _ wd_166)) (fun _ h9 => h9) rfl d_X_begin_35 ?_
      refine lv_aload_n hx hb d_X_begin_38 rfl (lv_at hl 1 rfl) ?_
      refine va_get (D := D) (ci := 3) (v := .ref (h 6)) (C := R_X) (T := T_X) (N := 6) hx hb hts iw_X hown hK.1 hP 0 rfl rfl 2 (by decide) (hts _ wd_71) (fun _ h9 => h9) rfl d_X_begin_39 ?_
      refine lv_aload_n hx hb d_X_begin_42 rfl (lv_at hl 1 rfl) ?_
      refine lv_aload_n hx hb d_X_begin_43 rfl (lv_at hl 0 rfl) ?_
      refine lv_iconst (v := nI 0) hx hb d_X_begin_44 (by decide +kernel) ?_
      refine vp_callSl (va_runV (As := [.ref (g 0), .int (nI 0)]) (rest := [.ref (h 6), .ref (g 3)]) ⟨hx, hb, hml, hown, hts⟩ (k_underD l D cA h g (nI L) (nI na) (sx_bI sb) n α ab un sv sf sl acts a (K.1 0) (K.1 1) (nI 1) (nI 1) (nI 0) (nI 0) (nI 0) (K.1 2) (nI 0) 0 (K.1 3) (K.2 1) (K.2 2) na L hI ha hR hDO false) (cwV 2 hts (sx_GV wd_245 wd_247 ws_3 wd_1 wd_248) rfl rfl rfl (by decide +kernel) ⟨Nat.le_of_ble_eq_true rfl, Nat.le_of_ble_eq_true rfl⟩) (sx_preV hK hP (va_recv hK.1 hP (ci := 3) (q0 := 0) rfl rfl)) rfl rfl hl.1 rfl (lv_room (Nat.le_of_ble_eq_true rfl)) d_X_begin_45 ⟨Nat.le_of_ble_eq_true rfl, Nat.le_of_ble_eq_true rfl⟩).run (fun r_11 hr_10 => ?_)
      have hPc : va_P D vwCl (wSS cA (g 3) (g 4) (h 6) (h 7) (K.1 3) (K.2 1) (K.2 2) sv sf sl) H := hP.sub [12, 13, 6, 7] rfl
      have hDc : va_D A (wSS cA (g 3) (g 4) (h 6) (h 7) (K.1 3) (K.2 1) (K.2 2) sv sf sl) := hD.sub [12, 13, 6, 7] (by decide) rfl
      refine sx_callv (wr := [(h 0, .inr (3, [.int (nI L), .ref (h 1), .ref (h 6), .ref (h 8), .int (nI na), .int (sx_bI sb)])), (h 1, .inr (1, [.ref (h 2), .ref (h 3), .ref (h 4), .ref (h 5), .int (nI n)])), (h 2, .inl (cA 0, 60, .inl (α 1))), (h 3, .inl (cA 2, 60, .inl (α 2))), (h 4, .inl (cA 3, 60, .inr (.inl ab))), (h 5, .inl (cA 3, 60, .inr (.inl un))), (h 8, .inl (cA 4, 10, .inr (.inr (.inr (.inr acts))))), (g 0, .inr (0, [.ref (g 1), .ref (g 2), .int (nI (sx_dN α a)), .ref (g 3), .int (nI 1), .int (nI 1), .int (nI 0), .int (nI 0), .int (nI 0), .ref (g 5), .int (nI 0), .long 0])), (g 1, .inl (cA 0, 12, .inl (K.1 0))), (g 2, .inl (cA 1, 12, .inl (K.1 1))), (g 5, .inl (cA 0, 60, .inl (K.1 2)))]) (va_runV (As := [.ref (h 6), .long r_11]) (rest := []) ⟨hx, hb, hml, hown, hts⟩ (k_copy l D cA H.size (g 3) (g 4) (h 6) (h 7) (K.1 3) (K.2 1) (K.2 2) sv sf sl r_11) (cwV 2 hts (sx_GV wd_249 wd_250 wd_251 wd_4 wd_252) rfl rfl rfl (by decide +kernel) ⟨Nat.le_of_ble_eq_true rfl, Nat.le_of_ble_eq_true rfl⟩) (sx_preVw hK hPc hDc (va_recv hK.1 hPc (ci := 2) (q0 := 0) rfl rfl)) rfl rfl hl.1 rfl (lv_room (Nat.le_of_ble_eq_true rfl)) d_X_begin_48 ⟨Nat.le_of_ble_eq_true rfl, Nat.le_of_ble_eq_true rfl⟩) hP hD hS hA [12, 13, 6, 7] [0, 1, 2, 3, 4, 5, 8, 9, 10, 11, 14] rfl rfl (by decide) (by decide) (fun u_14 H locs hr_12 hP hD hS => ?_)
      have hP : va_P D vwCl (wXA cA h g (nI L) (nI na) (sx_bI sb) (nI n) (α 1) (α 2) ab un sv sf sl acts (K.1 0) (K.1 1) (nI (sx_dN α a)) (nI 1) (nI 1) (nI 0) (nI 0) (nI 0) (K.1 2) (nI 0) 0 (va_cpy sv (K.1 3) 0 0 60) (sf &&& r_11) 0) H := hP.sub [0, 1, 2, 3, 4, 5, 13, 14, 6, 7, 8, 9, 11, 12, 10] rfl
      have hD : va_D A (wXA cA h g (nI L) (nI na) (sx_bI sb) (nI n) (α 1) (α 2) ab un sv sf sl acts (K.1 0) (K.1 1) (nI (sx_dN α a)) (nI 1) (nI 1) (nI 0) (nI 0) (nI 0) (K.1 2) (nI 0) 0 (va_cpy sv (K.1 3) 0 0 60) (sf &&& r_11) 0) := hD.sub [0, 1, 2, 3, 4, 5, 13, 14, 6, 7, 8, 9, 11, 12, 10] (by decide) rfl
      refine lv_aload_n hx hb d_X_begin_51 rfl (lv_at hl 0 rfl) ?_
      refine va_getN (D := D) (ci := 0) (v := .ref (g 3)) (C := R_A) (T := T_A) (N := 12) hx hb hts iw_A hown hK.1 hP 9 rfl rfl 3 (by decide) (va_Nw.use rfl (hK.2.1 _ wd_166)) (fun _ h9 => h9) rfl d_X_begin_52 ?_
      have hPc : va_P D vwCl (wS cA (g 3) (g 4) (va_cpy sv (K.1 3) 0 0 60) (sf &&& r_11) 0) H := hP.sub [12, 13] rfl
      refine vp_callSl (va_runV (As := []) (rest := []) ⟨hx, hb, hml, hown, hts⟩ (k_taken l D cA (g 3) (g 4) (va_cpy sv (K.1 3) 0 0 60) (sf &&& r_11) 0 ) (cwV 0 hts (sx_GV wd_121 wd_122 wd_123 wd_4 wd_124) rfl rfl rfl (by decide +kernel) ⟨Nat.le_of_ble_eq_true rfl, Nat.le_of_ble_eq_true rfl⟩) (sx_preV hK hPc (va_recv hK.1 hPc (ci := 2) (q0 := 0) rfl rfl)) rfl rfl hl.1 rfl (lv_room (Nat.le_of_ble_eq_true rfl)) d_X_begin_55 ⟨Nat.le_of_ble_eq_true rfl, Nat.le_of_ble_eq_true rfl⟩).run (fun r_16 hr_15 => ?_)
      subst hr_15
      refine vp_callSi (va_runS (As := [.long ((sf &&& r_11) ||| 0)]) (rest := []) ⟨hx, hb, hml, hown, hts⟩ (k_bits l D cA ((sf &&& r_11) ||| 0)) (va_cwS 1 hts (sx_GS wd_256 wd_257 wd_8 wd_258) rfl rfl rfl (by decide +kernel) ⟨Nat.le_of_ble_eq_true rfl, Nat.le_of_ble_eq_true rfl⟩) (sx_preS hK (sx_P0 : va_P D vwCl [] H)) rfl rfl hl.1 rfl (lv_room (Nat.le_of_ble_eq_true rfl)) d_X_begin_58 ⟨Nat.le_of_ble_eq_true rfl, Nat.le_of_ble_eq_true rfl⟩).run (fun r_18 hr_17 => ?_)
      subst hr_17
      have hbW := sx_beg_W (wv := K.1 3) hI hS0 hr_10 (fun j => sx_wrow n α a 60 (60 * a + j)) (fun j hj => sx_wrow_at hj)
      have hP9 : va_P D vwCl (wXAk cA h g (nI L) (nI na) (sx_bI sb) (nI n) (α 1) (α 2) ab un sv sf sl acts (sx_kA (K.1 0) (K.1 1) (nI (sx_dN α a)) (nI 1) (nI 1) (nI 0) (nI 0) (nI 0) (K.1 2) (nI 0) 0 (va_cpy sv (K.1 3) 0 0 60) (sf &&& r_11) 0)) H := hP
      have hD9 : va_D A (wXAk cA h g (nI L) (nI na) (sx_bI sb) (nI n) (α 1) (α 2) ab un sv sf sl acts (sx_kA (K.1 0) (K.1 1) (nI (sx_dN α a)) (nI 1) (nI 1) (nI 0) (nI 0) (nI 0) (K.1 2) (nI 0) 0 (va_cpy sv (K.1 3) 0 0 60) (sf &&& r_11) 0)) := hD
      exact W.iret (v := nI (sx_cnt (sx_bt ((sf &&& r_11) ||| 0)) 64)) hx hb hr (fun t ht hW => ⟨⟨nI (sx_cnt (sx_bt ((sf &&& r_11) ||| 0)) 64), (sx_kA (K.1 0) (K.1 1) (nI (sx_dN α a)) (nI 1) (nI 1) (nI 0) (nI 0) (nI 0) (K.1 2) (nI 0) 0 (va_cpy sv (K.1 3) 0 0 60) (sf &&& r_11) 0), rfl, (sx_fin2 (sx_beg_y c_3 c_6) (congrArg nI (sx_beg_cnt hI hbW (fun j hj => sx_wrow_at hj))) (sx_RA_beg hDO htp hbW e4)), by rw [ht]; exact hP9, by rw [hAe]; exact hD9⟩, hS.F ht⟩) hS.2.2 d_X_begin_61
    · have c_6 : (sx_lack n α a) = true := sx_bIn c_6
      refine lv_bipush (v := (-2)) hx hb d_X_begin_27 (by decide +kernel) ?_
      have hP9 : va_P D vwCl (wXAk cA h g (nI L) (nI na) (sx_bI sb) (nI n) (α 1) (α 2) ab un sv sf sl acts (sx_kA (K.1 0) (K.1 1) (nI (sx_dN α a)) (sx_bI (sx_fb α 12 a)) (sx_bI (sx_fb α 14 a)) (sx_bI (sx_fb α 13 a)) (nI (sx_oN α a)) (α 7 a) (K.1 2) (nI (sx_tN α a)) (K.2 0) (K.1 3) (K.2 1) (K.2 2))) s.heap := hP
      have hD9 : va_D A (wXAk cA h g (nI L) (nI na) (sx_bI sb) (nI n) (α 1) (α 2) ab un sv sf sl acts (sx_kA (K.1 0) (K.1 1) (nI (sx_dN α a)) (sx_bI (sx_fb α 12 a)) (sx_bI (sx_fb α 14 a)) (sx_bI (sx_fb α 13 a)) (nI (sx_oN α a)) (α 7 a) (K.1 2) (nI (sx_tN α a)) (K.2 0) (K.1 3) (K.2 1) (K.2 2))) := hD
      exact W.iret (v := (-2)) hx hb hr (fun t ht hW => ⟨⟨(-2), (sx_kA (K.1 0) (K.1 1) (nI (sx_dN α a)) (sx_bI (sx_fb α 12 a)) (sx_bI (sx_fb α 14 a)) (sx_bI (sx_fb α 13 a)) (nI (sx_oN α a)) (α 7 a) (K.1 2) (nI (sx_tN α a)) (K.2 0) (K.1 3) (K.2 1) (K.2 2)), rfl, (sx_fin2 (sx_beg_l c_3 c_6) rfl (sx_RA_of hDO htp htsb hW0 e4 e12 e14 e13 e6 rfl e8)), by rw [ht]; exact hP9, by rw [hAe]; exact hD9⟩, hS.F ht⟩) hS.2.2 d_X_begin_29
  · have c_3 : (sx_fb α 12 a) = true := sx_bIn c_3
    refine lv_iconst (v := (-1)) hx hb d_X_begin_17 (by decide +kernel) ?_
    have hP9 : va_P D vwCl (wXAk cA h g (nI L) (nI na) (sx_bI sb) (nI n) (α 1) (α 2) ab un sv sf sl acts (sx_kA (K.1 0) (K.1 1) (nI (sx_dN α a)) (sx_bI (sx_fb α 12 a)) (sx_bI (sx_fb α 14 a)) (sx_bI (sx_fb α 13 a)) (nI (sx_oN α a)) (α 7 a) (K.1 2) (nI (sx_tN α a)) (K.2 0) (K.1 3) (K.2 1) (K.2 2))) s.heap := hP
    have hD9 : va_D A (wXAk cA h g (nI L) (nI na) (sx_bI sb) (nI n) (α 1) (α 2) ab un sv sf sl acts (sx_kA (K.1 0) (K.1 1) (nI (sx_dN α a)) (sx_bI (sx_fb α 12 a)) (sx_bI (sx_fb α 14 a)) (sx_bI (sx_fb α 13 a)) (nI (sx_oN α a)) (α 7 a) (K.1 2) (nI (sx_tN α a)) (K.2 0) (K.1 3) (K.2 1) (K.2 2))) := hD
    exact W.iret (v := (-1)) hx hb hr (fun t ht hW => ⟨⟨(-1), (sx_kA (K.1 0) (K.1 1) (nI (sx_dN α a)) (sx_bI (sx_fb α 12 a)) (sx_bI (sx_fb α 14 a)) (sx_bI (sx_fb α 13 a)) (nI (sx_oN α a)) (α 7 a) (K.1 2) (nI (sx_tN α a)) (K.2 0) (K.1 3) (K.2 1) (K.2 2)), rfl, (sx_fin2 (sx_beg_no c_3) rfl (sx_RA_of hDO htp htsb hW0 e4 e12 e14 e13 e6 rfl e8)), by rw [ht]; exact hP9, by rw [hAe]; exact hD9⟩, hS.F ht⟩) hS.2.2 d_X_begin_18

set_option maxHeartbeats 4000000 in
set_option maxRecDepth 100000 in
theorem k_finish (l : Launch) (D : va_G) (cA : Nat → ClassId) (sz : Nat) (h g : Nat → Nat) (n na L : Nat) (sb : Bool) (α : sx_A) (ab un : Nat → Int64) (sv : Nat → Int32) (sf sl : Int64) (acts : Nat → Option Nat) (a : Nat) (K : sx_KA) (hI : sx_INV n na L α) (ha : a < na) (hR : sx_RP n (α 1) ab un) (hS0 : sx_RW (α 3) sv sf sl) (hRA : sx_RA α a K) (hacts : acts a = some (g 0)) (fl : Bool) : Met l y_X_finish w_X_finish ({ frames := 5, cells := 0, slots := 0, locals := 113 }) (sx_Pw D cA [.ref (h 0), .int (nI a), .int (sx_bI fl)] (wXAk cA h g (nI L) (nI na) (sx_bI sb) (nI n) (α 1) (α 2) ab un sv sf sl acts K) sz) (va_Qi (fun r (u : sx_KA × (Nat → Int32) × Int64 × Int64) => r = sx_finA n α a fl ∧ sx_RA (sx_finS n α a fl) a u.1 ∧ sx_RW (sx_finS n α a fl 3) u.2.1 u.2.2.1 u.2.2.2) (sx_Bw D (wXAk cA h g (nI L) (nI na) (sx_bI sb) (nI n) (α 1) (α 2) ab un sv sf sl acts K) sz (fun u => wXAk cA h g (nI L) (nI na) (sx_bI sb) (nI n) (α 1) (α 2) ab un u.2.1 u.2.2.1 u.2.2.2 acts u.1)) (va_A (wXAk cA h g (nI L) (nI na) (sx_bI sb) (nI n) (α 1) (α 2) ab un sv sf sl acts K) sz)) 0 0 (va_A (wXAk cA h g (nI L) (nI na) (sx_bI sb) (nI n) (α 1) (α 2) ab un sv sf sl acts K) sz) := by
  refine Met.ofW (cc := b_X_finish) (maxL := 5) (ret := (some .int)) (by decide) rfl ?_
  intro pG eG s m args below meth cG s₁ B hml hv
  obtain ⟨rfl, hsz, hP, hK, hD0⟩ := hv
  have hx := B.exec
  have hb := B.bytes
  have hr := B.returns
  have hts0 := atoms_spec (ws := w_X_finish) B.pre
  have hts : ∀ w ∈ sx_gw, w.before _ s = true := fun w h => hts0 w (List.mem_cons_of_mem _ h)
  have hown : s.vm.findClass R_X = some m.cls := findClass_of_methodNamed B.named
  have hlocks := B.notSynchronized
  subst hsz
  have hD := hD0.self (sz := s.heap.size)
  generalize hAe : va_A (wXAk cA h g (nI L) (nI na) (sx_bI sb) (nI n) (α 1) (α 2) ab un sv sf sl acts K) s.heap.size = A at hD ⊢
  have hA : ∀ q : Nat, s.heap.size ≤ q → A q := fun q h => by rw [← hAe]; exact Or.inr h
  have hS : va_S A s.heap s.heap [] := va_S.rf
  have hl := lv_entry ([.ref (h 0), .int (nI a), .int (sx_bI fl)]) (n := 5) (Nat.le_of_ble_eq_true rfl)
  rw [lg_entry_eq]
  generalize (lg_sl ([.ref (h 0), .int (nI a), .int (sx_bI fl)]) ++ List.replicate (5 - (lg_sl ([.ref (h 0), .int (nI a), .int (sx_bI fl)])).length) Slot.unset).toArray = ls at hl ⊢
  have hl : lv_has ls 5 [(0, .ref (h 0)), (1, .int (nI a)), (2, .int (sx_bI fl))] := hl
  have hn31 := sx_INV_n hI
  have hn60 := hI.1.1.2
  have h1n := hI.1.1.1
  have hAc := sx_INV_A hI ha
  have hd12 := (sx_dN_ok hAc).1
  have hna := hI.1.2.1
  have hL5 := hI.1.2.2.2
  obtain ⟨hDO, htp, htsb, hW0, f4, f12, f14, f13, f6, f7, f8⟩ := id hRA
  have e4 : nI (sx_dN α a) = α 4 a := (sx_dN_ok hAc).2.symm
  have e12 : sx_bI (sx_fb α 12 a) = α 12 a := sx_fb_ok hAc.2.2.2.2.2.1
  have e13 : sx_bI (sx_fb α 13 a) = α 13 a := sx_fb_ok hAc.2.2.2.2.2.2.1
  have e14 : sx_bI (sx_fb α 14 a) = α 14 a := sx_fb_ok hAc.2.2.2.2.2.2.2
  have e6 : nI (sx_oN α a) = α 6 a := (sx_oN_ok hAc hL5).2
  have oL := (sx_oN_ok hAc hL5).1
  have e8 : nI (sx_tN α a) = α 8 a := (sx_tN_ok hAc).2.symm
  have t60 := (sx_tN_ok hAc).1
  rw [sx_XA_eq hAc hL5 hRA] at hP hD
  refine lv_aload_n hx hb d_X_finish_0 rfl (lv_at hl 0 rfl) ?_
  refine lv_iload_n hx hb d_X_finish_1 rfl (lv_at hl 1 rfl) ?_
  rcases Bool.eq_false_or_eq_true (sx_fb α 12 a) with hth | hth
  · refine va_csq (va_runV (As := [.int (nI a)]) (rest := []) ⟨hx, hb, hml, hown, hts⟩ (k_run l D cA h g (nI L) na (sx_bI sb) (nI n) (α 1) (α 2) ab un sv sf sl acts (K.1 0) (K.1 1) (nI (sx_dN α a)) (sx_fb α 12 a) (sx_bI (sx_fb α 14 a)) (sx_bI (sx_fb α 13 a)) (nI (sx_oN α a)) (α 7 a) (K.1 2) (nI (sx_tN α a)) (K.2 0) (K.1 3) (K.2 1) (K.2 2) a (by omega) (by omega) hacts hth) (cwV 1 hts (sx_GV wd_266 wd_268 ws_4 wd_1 wd_269) rfl rfl rfl (by decide +kernel) ⟨Nat.le_of_ble_eq_true rfl, Nat.le_of_ble_eq_true rfl⟩) (sx_preV hK hP (va_recv hK.1 hP (ci := 3) (q0 := 0) rfl rfl)) rfl rfl hl.1 rfl (lv_room (Nat.le_of_ble_eq_true rfl)) d_X_finish_2 ⟨Nat.le_of_ble_eq_true rfl, Nat.le_of_ble_eq_true rfl⟩).run (fun r_2 hr_1 => ?_)
    subst hr_1
    refine sx_asv (y := .ref (g 0)) rfl ?_
    refine lv_astore_n (lv' := [(3, .ref (g 0)), (0, .ref (h 0)), (1, .int (nI a)), (2, .int (sx_bI fl))]) hx hb d_X_finish_5 rfl hl (by decide) rfl (fun ls hl => ?_)
    refine lv_aload_n hx hb d_X_finish_6 rfl (lv_at hl 0 rfl) ?_
    refine lv_ifnonnull (tgt := 12) hx hb d_X_finish_7 (by decide) ?_
    refine lv_aload_n hx hb d_X_finish_12 rfl (lv_at hl 0 rfl) ?_
    refine lv_iconst (v := nI 0) hx hb d_X_finish_13 (by decide +kernel) ?_
    refine va_putN (D := D) (ci := 0) (v := .int (nI 0)) (ty := .boolean) (C := R_A) (T := T_A) (N := 12) hx hb hts iw_A t_A o_A n_A hown hK.1 hP hD hS 9 rfl rfl 4 (by decide) (va_Nw.use rfl (hK.2.1 _ wd_168)) (fun _ h9 => h9) rfl (by decide +kernel) (by decide +kernel) (by decide +kernel) (Nat.le_of_ble_eq_true rfl) d_X_finish_14 (fun H locs hP hD hS => ?_)
    have hP : va_P D vwCl (wXA cA h g (nI L) (nI na) (sx_bI sb) (nI n) (α 1) (α 2) ab un sv sf sl acts (K.1 0) (K.1 1) (nI (sx_dN α a)) (nI 0) (sx_bI (sx_fb α 14 a)) (sx_bI (sx_fb α 13 a)) (nI (sx_oN α a)) (α 7 a) (K.1 2) (nI (sx_tN α a)) (K.2 0) (K.1 3) (K.2 1) (K.2 2)) H := hP
    have hD : va_D A (wXA cA h g (nI L) (nI na) (sx_bI sb) (nI n) (α 1) (α 2) ab un sv sf sl acts (K.1 0) (K.1 1) (nI (sx_dN α a)) (nI 0) (sx_bI (sx_fb α 14 a)) (sx_bI (sx_fb α 13 a)) (nI (sx_oN α a)) (α 7 a) (K.1 2) (nI (sx_tN α a)) (K.2 0) (K.1 3) (K.2 1) (K.2 2)) := hD
    refine lv_iload_n hx hb d_X_finish_17 rfl (lv_at hl 3 rfl) ?_
    refine lv_if_eq (tgt := 23) hx hb d_X_finish_18 (by decide) (fun c_3 => ?_) (fun c_3 => ?_)
    · have c_3 : fl = false := sx_bI0 c_3
      refine lv_aload_n hx hb d_X_finish_23 rfl (lv_at hl 0 rfl) ?_
      refine va_getN (D := D) (ci := 0) (v := .int (sx_bI (sx_fb α 13 a))) (C := R_A) (T := T_A) (N := 12) hx hb hts iw_A hown hK.1 hP 9 rfl rfl 6 (by decide) (va_Nw.use rfl (hK.2.1 _ wd_172)) (fun _ h9 => h9) rfl d_X_finish_24 ?_
      refine lv_if_eq (tgt := 33) hx hb d_X_finish_27 (by decide) (fun c_4 => ?_) (fun c_4 => ?_)
      · have c_4 : (sx_fb α 13 a) = false := sx_bI0 c_4
        refine lv_aload_n hx hb d_X_finish_33 rfl (lv_at hl 1 rfl) ?_
        refine lv_aload_n hx hb d_X_finish_34 rfl (lv_at hl 0 rfl) ?_
        refine vp_callSi (va_runV (As := [.ref (g 0)]) (rest := []) ⟨hx, hb, hml, hown, hts⟩ (k_fault l D cA h g (nI L) (nI na) (sx_bI sb) n α ab un sv sf sl acts a (K.1 0) (K.1 1) (nI 0) (sx_bI (sx_fb α 14 a)) (sx_bI (sx_fb α 13 a)) (nI (sx_oN α a)) (α 7 a) (K.1 2) (nI (sx_tN α a)) (K.2 0) (K.1 3) (K.2 1) (K.2 2) na L hI ha hR hDO hW0) (cwV 1 hts (sx_GV wd_325 wd_327 ws_9 wd_1 wd_328) rfl rfl rfl (by decide +kernel) ⟨Nat.le_of_ble_eq_true rfl, Nat.le_of_ble_eq_true rfl⟩) (sx_preV hK hP (va_recv hK.1 hP (ci := 3) (q0 := 0) rfl rfl)) rfl rfl hl.1 rfl (lv_room (Nat.le_of_ble_eq_true rfl)) d_X_finish_35 ⟨Nat.le_of_ble_eq_true rfl, Nat.le_of_ble_eq_true rfl⟩).run (fun r_6 hr_5 => ?_)
        subst hr_5
        refine lv_istore (lv' := [(4, .int (sx_fl n α a (sx_dN α a) 0 0)), (3, .ref (g 0)), (0, .ref (h 0)), (1, .int (nI a)), (2, .int (sx_bI fl))]) hx hb d_X_finish_38 hl (by decide) rfl (fun ls hl => ?_)
        refine lv_iload hx hb d_X_finish_40 (lv_at hl 0 rfl) ?_
        refine lv_if_eq (tgt := 50) hx hb d_X_finish_42 (by decide) (fun c_7 => ?_) (fun c_7 => ?_)
        · refine lv_aload_n hx hb d_X_finish_50 rfl (lv_at hl 2 rfl) ?_
          refine lv_aload_n hx hb d_X_finish_51 rfl (lv_at hl 1 rfl) ?_
          refine sx_calli (wr := []) (va_runV (As := [.ref (g 0)]) (rest := []) ⟨hx, hb, hml, hown, hts⟩ (k_gather l D cA H.size h g (nI L) (nI na) (sx_bI sb) n α ab un sv sf sl acts a (K.1 0) (K.1 1) (nI 0) (sx_bI (sx_fb α 14 a)) (sx_bI (sx_fb α 13 a)) (nI (sx_oN α a)) (α 7 a) (K.1 2) (nI (sx_tN α a)) (K.2 0) (K.1 3) (K.2 1) (K.2 2) na L hI ha hR hDO hW0 hS0 c_7) (cwV 1 hts (sx_GV wd_334 wd_336 ws_10 wd_1 wd_337) rfl rfl rfl (by decide +kernel) ⟨Nat.le_of_ble_eq_true rfl, Nat.le_of_ble_eq_true rfl⟩) (sx_preVw hK hP hD (va_recv hK.1 hP (ci := 3) (q0 := 0) rfl rfl)) rfl rfl hl.1 rfl (lv_room (Nat.le_of_ble_eq_true rfl)) d_X_finish_52 ⟨Nat.le_of_ble_eq_true rfl, Nat.le_of_ble_eq_true rfl⟩) hP hD hS hA [0, 1, 2, 3, 4, 5, 6, 7, 8, 9, 10, 11, 12, 13, 14] [] rfl rfl (by decide) (by decide) (fun r_9 u_10 H locs hr_8 hP hD hS => ?_)
          have hP : va_P D vwCl (wXA cA h g (nI L) (nI na) (sx_bI sb) (nI n) (α 1) (α 2) ab un u_10.1 u_10.2.1 u_10.2.2 acts (K.1 0) (K.1 1) (nI (sx_dN α a)) (nI 0) (sx_bI (sx_fb α 14 a)) (sx_bI (sx_fb α 13 a)) (nI (sx_oN α a)) (α 7 a) (K.1 2) (nI (sx_tN α a)) (K.2 0) (K.1 3) (K.2 1) (K.2 2)) H := hP.sub [0, 1, 2, 3, 4, 5, 6, 7, 8, 9, 10, 11, 12, 13, 14] rfl
          have hD : va_D A (wXA cA h g (nI L) (nI na) (sx_bI sb) (nI n) (α 1) (α 2) ab un u_10.1 u_10.2.1 u_10.2.2 acts (K.1 0) (K.1 1) (nI (sx_dN α a)) (nI 0) (sx_bI (sx_fb α 14 a)) (sx_bI (sx_fb α 13 a)) (nI (sx_oN α a)) (α 7 a) (K.1 2) (nI (sx_tN α a)) (K.2 0) (K.1 3) (K.2 1) (K.2 2)) := hD.sub [0, 1, 2, 3, 4, 5, 6, 7, 8, 9, 10, 11, 12, 13, 14] (by decide) rfl
          have hP9 : va_P D vwCl (wXAk cA h g (nI L) (nI na) (sx_bI sb) (nI n) (α 1) (α 2) ab un u_10.1 u_10.2.1 u_10.2.2 acts (sx_kA (K.1 0) (K.1 1) (nI (sx_dN α a)) (nI 0) (sx_bI (sx_fb α 14 a)) (sx_bI (sx_fb α 13 a)) (nI (sx_oN α a)) (α 7 a) (K.1 2) (nI (sx_tN α a)) (K.2 0) (K.1 3) (K.2 1) (K.2 2))) H := hP
          have hD9 : va_D A (wXAk cA h g (nI L) (nI na) (sx_bI sb) (nI n) (α 1) (α 2) ab un u_10.1 u_10.2.1 u_10.2.2 acts (sx_kA (K.1 0) (K.1 1) (nI (sx_dN α a)) (nI 0) (sx_bI (sx_fb α 14 a)) (sx_bI (sx_fb α 13 a)) (nI (sx_oN α a)) (α 7 a) (K.1 2) (nI (sx_tN α a)) (K.2 0) (K.1 3) (K.2 1) (K.2 2))) := hD
          exact W.iret (v := r_9) hx hb hr (fun t ht hW => ⟨⟨r_9, (sx_kA (K.1 0) (K.1 1) (nI (sx_dN α a)) (nI 0) (sx_bI (sx_fb α 14 a)) (sx_bI (sx_fb α 13 a)) (nI (sx_oN α a)) (α 7 a) (K.1 2) (nI (sx_tN α a)) (K.2 0) (K.1 3) (K.2 1) (K.2 2), u_10.1, u_10.2.1, u_10.2.2), rfl, (sx_fin3 (u := (sx_kA (K.1 0) (K.1 1) (nI (sx_dN α a)) (nI 0) (sx_bI (sx_fb α 14 a)) (sx_bI (sx_fb α 13 a)) (nI (sx_oN α a)) (α 7 a) (K.1 2) (nI (sx_tN α a)) (K.2 0) (K.1 3) (K.2 1) (K.2 2), u_10.1, u_10.2.1, u_10.2.2)) (sx_fin_g (f := fl) hth c_3 c_4 c_7) hr_8.1 (sx_RA_row (sx_RA_th hDO htp htsb hW0 e4 e14 e13 e6 rfl e8)) (by rw [sx_row3]; exact hr_8.2)), by rw [ht]; exact hP9, by rw [hAe]; exact hD9⟩, hS.F ht⟩) hS.2.2 d_X_finish_55
        · refine lv_iload hx hb d_X_finish_45 (lv_at hl 0 rfl) ?_
          refine lv_goto (tgt := 55) hx hb d_X_finish_47 (by decide) ?_
          have hP9 : va_P D vwCl (wXAk cA h g (nI L) (nI na) (sx_bI sb) (nI n) (α 1) (α 2) ab un sv sf sl acts (sx_kA (K.1 0) (K.1 1) (nI (sx_dN α a)) (nI 0) (sx_bI (sx_fb α 14 a)) (sx_bI (sx_fb α 13 a)) (nI (sx_oN α a)) (α 7 a) (K.1 2) (nI (sx_tN α a)) (K.2 0) (K.1 3) (K.2 1) (K.2 2))) H := hP
          have hD9 : va_D A (wXAk cA h g (nI L) (nI na) (sx_bI sb) (nI n) (α 1) (α 2) ab un sv sf sl acts (sx_kA (K.1 0) (K.1 1) (nI (sx_dN α a)) (nI 0) (sx_bI (sx_fb α 14 a)) (sx_bI (sx_fb α 13 a)) (nI (sx_oN α a)) (α 7 a) (K.1 2) (nI (sx_tN α a)) (K.2 0) (K.1 3) (K.2 1) (K.2 2))) := hD
          exact W.iret (v := sx_fl n α a (sx_dN α a) 0 0) hx hb hr (fun t ht hW => ⟨⟨sx_fl n α a (sx_dN α a) 0 0, (sx_kA (K.1 0) (K.1 1) (nI (sx_dN α a)) (nI 0) (sx_bI (sx_fb α 14 a)) (sx_bI (sx_fb α 13 a)) (nI (sx_oN α a)) (α 7 a) (K.1 2) (nI (sx_tN α a)) (K.2 0) (K.1 3) (K.2 1) (K.2 2), sv, sf, sl), rfl, (sx_fin3 (u := (sx_kA (K.1 0) (K.1 1) (nI (sx_dN α a)) (nI 0) (sx_bI (sx_fb α 14 a)) (sx_bI (sx_fb α 13 a)) (nI (sx_oN α a)) (α 7 a) (K.1 2) (nI (sx_tN α a)) (K.2 0) (K.1 3) (K.2 1) (K.2 2), sv, sf, sl)) (sx_fin_l (f := fl) hth c_3 c_4 c_7) rfl (sx_RA_th hDO htp htsb hW0 e4 e14 e13 e6 rfl e8) hS0), by rw [ht]; exact hP9, by rw [hAe]; exact hD9⟩, hS.F ht⟩) hS.2.2 d_X_finish_55
      · have c_4 : (sx_fb α 13 a) = true := sx_bIn c_4
        refine lv_bipush (v := (-2)) hx hb d_X_finish_30 (by decide +kernel) ?_
        have hP9 : va_P D vwCl (wXAk cA h g (nI L) (nI na) (sx_bI sb) (nI n) (α 1) (α 2) ab un sv sf sl acts (sx_kA (K.1 0) (K.1 1) (nI (sx_dN α a)) (nI 0) (sx_bI (sx_fb α 14 a)) (sx_bI (sx_fb α 13 a)) (nI (sx_oN α a)) (α 7 a) (K.1 2) (nI (sx_tN α a)) (K.2 0) (K.1 3) (K.2 1) (K.2 2))) H := hP
        have hD9 : va_D A (wXAk cA h g (nI L) (nI na) (sx_bI sb) (nI n) (α 1) (α 2) ab un sv sf sl acts (sx_kA (K.1 0) (K.1 1) (nI (sx_dN α a)) (nI 0) (sx_bI (sx_fb α 14 a)) (sx_bI (sx_fb α 13 a)) (nI (sx_oN α a)) (α 7 a) (K.1 2) (nI (sx_tN α a)) (K.2 0) (K.1 3) (K.2 1) (K.2 2))) := hD
        exact W.iret (v := (-2)) hx hb hr (fun t ht hW => ⟨⟨(-2), (sx_kA (K.1 0) (K.1 1) (nI (sx_dN α a)) (nI 0) (sx_bI (sx_fb α 14 a)) (sx_bI (sx_fb α 13 a)) (nI (sx_oN α a)) (α 7 a) (K.1 2) (nI (sx_tN α a)) (K.2 0) (K.1 3) (K.2 1) (K.2 2), sv, sf, sl), rfl, (sx_fin3 (u := (sx_kA (K.1 0) (K.1 1) (nI (sx_dN α a)) (nI 0) (sx_bI (sx_fb α 14 a)) (sx_bI (sx_fb α 13 a)) (nI (sx_oN α a)) (α 7 a) (K.1 2) (nI (sx_tN α a)) (K.2 0) (K.1 3) (K.2 1) (K.2 2), sv, sf, sl)) (sx_fin_b (f := fl) hth c_3 c_4) rfl (sx_RA_th hDO htp htsb hW0 e4 e14 e13 e6 rfl e8) hS0), by rw [ht]; exact hP9, by rw [hAe]; exact hD9⟩, hS.F ht⟩) hS.2.2 d_X_finish_32
    · have c_3 : fl = true := sx_bIn c_3
      refine lv_iconst (v := nI 0) hx hb d_X_finish_21 (by decide +kernel) ?_
      have hP9 : va_P D vwCl (wXAk cA h g (nI L) (nI na) (sx_bI sb) (nI n) (α 1) (α 2) ab un sv sf sl acts (sx_kA (K.1 0) (K.1 1) (nI (sx_dN α a)) (nI 0) (sx_bI (sx_fb α 14 a)) (sx_bI (sx_fb α 13 a)) (nI (sx_oN α a)) (α 7 a) (K.1 2) (nI (sx_tN α a)) (K.2 0) (K.1 3) (K.2 1) (K.2 2))) H := hP
      have hD9 : va_D A (wXAk cA h g (nI L) (nI na) (sx_bI sb) (nI n) (α 1) (α 2) ab un sv sf sl acts (sx_kA (K.1 0) (K.1 1) (nI (sx_dN α a)) (nI 0) (sx_bI (sx_fb α 14 a)) (sx_bI (sx_fb α 13 a)) (nI (sx_oN α a)) (α 7 a) (K.1 2) (nI (sx_tN α a)) (K.2 0) (K.1 3) (K.2 1) (K.2 2))) := hD
      exact W.iret (v := nI 0) hx hb hr (fun t ht hW => ⟨⟨nI 0, (sx_kA (K.1 0) (K.1 1) (nI (sx_dN α a)) (nI 0) (sx_bI (sx_fb α 14 a)) (sx_bI (sx_fb α 13 a)) (nI (sx_oN α a)) (α 7 a) (K.1 2) (nI (sx_tN α a)) (K.2 0) (K.1 3) (K.2 1) (K.2 2), sv, sf, sl), rfl, (sx_fin3 (u := (sx_kA (K.1 0) (K.1 1) (nI (sx_dN α a)) (nI 0) (sx_bI (sx_fb α 14 a)) (sx_bI (sx_fb α 13 a)) (nI (sx_oN α a)) (α 7 a) (K.1 2) (nI (sx_tN α a)) (K.2 0) (K.1 3) (K.2 1) (K.2 2), sv, sf, sl)) (sx_fin_f (f := fl) hth c_3) rfl (sx_RA_th hDO htp htsb hW0 e4 e14 e13 e6 rfl e8) hS0), by rw [ht]; exact hP9, by rw [hAe]; exact hD9⟩, hS.F ht⟩) hS.2.2 d_X_finish_22
  · refine va_csq (va_runV (As := [.int (nI a)]) (rest := []) ⟨hx, hb, hml, hown, hts⟩ (k_runN l D cA h g (nI L) na (sx_bI sb) (nI n) (α 1) (α 2) ab un sv sf sl acts (K.1 0) (K.1 1) (nI (sx_dN α a)) (sx_fb α 12 a) (sx_bI (sx_fb α 14 a)) (sx_bI (sx_fb α 13 a)) (nI (sx_oN α a)) (α 7 a) (K.1 2) (nI (sx_tN α a)) (K.2 0) (K.1 3) (K.2 1) (K.2 2) a (by omega) (by omega) hacts hth) (cwV 1 hts (sx_GV wd_266 wd_268 ws_4 wd_1 wd_269) rfl rfl rfl (by decide +kernel) ⟨Nat.le_of_ble_eq_true rfl, Nat.le_of_ble_eq_true rfl⟩) (sx_preV hK hP (va_recv hK.1 hP (ci := 3) (q0 := 0) rfl rfl)) rfl rfl hl.1 rfl (lv_room (Nat.le_of_ble_eq_true rfl)) d_X_finish_2 ⟨Nat.le_of_ble_eq_true rfl, Nat.le_of_ble_eq_true rfl⟩).run (fun r_12 hr_11 => ?_)
    subst hr_11
    refine sx_asv (y := .null) rfl ?_
    refine lv_astore_nN (lv' := [(3, .null), (0, .ref (h 0)), (1, .int (nI a)), (2, .int (sx_bI fl))]) hx hb d_X_finish_5 rfl hl (by decide) rfl (fun ls hl => ?_)
    refine lv_aload_nN hx hb d_X_finish_6 rfl (lv_at hl 0 rfl) ?_
    refine lv_ifnonnullN hx hb d_X_finish_7 ?_
    refine lv_iconst (v := (-1)) hx hb d_X_finish_10 (by decide +kernel) ?_
    have hP9 : va_P D vwCl (wXAk cA h g (nI L) (nI na) (sx_bI sb) (nI n) (α 1) (α 2) ab un sv sf sl acts (sx_kA (K.1 0) (K.1 1) (nI (sx_dN α a)) (sx_bI (sx_fb α 12 a)) (sx_bI (sx_fb α 14 a)) (sx_bI (sx_fb α 13 a)) (nI (sx_oN α a)) (α 7 a) (K.1 2) (nI (sx_tN α a)) (K.2 0) (K.1 3) (K.2 1) (K.2 2))) s.heap := hP
    have hD9 : va_D A (wXAk cA h g (nI L) (nI na) (sx_bI sb) (nI n) (α 1) (α 2) ab un sv sf sl acts (sx_kA (K.1 0) (K.1 1) (nI (sx_dN α a)) (sx_bI (sx_fb α 12 a)) (sx_bI (sx_fb α 14 a)) (sx_bI (sx_fb α 13 a)) (nI (sx_oN α a)) (α 7 a) (K.1 2) (nI (sx_tN α a)) (K.2 0) (K.1 3) (K.2 1) (K.2 2))) := hD
    exact W.iret (v := (-1)) hx hb hr (fun t ht hW => ⟨⟨(-1), (sx_kA (K.1 0) (K.1 1) (nI (sx_dN α a)) (sx_bI (sx_fb α 12 a)) (sx_bI (sx_fb α 14 a)) (sx_bI (sx_fb α 13 a)) (nI (sx_oN α a)) (α 7 a) (K.1 2) (nI (sx_tN α a)) (K.2 0) (K.1 3) (K.2 1) (K.2 2), sv, sf, sl), rfl, (sx_fin3 (u := (sx_kA (K.1 0) (K.1 1) (nI (sx_dN α a)) (sx_bI (sx_fb α 12 a)) (sx_bI (sx_fb α 14 a)) (sx_bI (sx_fb α 13 a)) (nI (sx_oN α a)) (α 7 a) (K.1 2) (nI (sx_tN α a)) (K.2 0) (K.1 3) (K.2 1) (K.2 2), sv, sf, sl)) (sx_fin_no (f := fl) hth) rfl (sx_RA_of hDO htp htsb hW0 e4 e12 e14 e13 e6 rfl e8) hS0), by rw [ht]; exact hP9, by rw [hAe]; exact hD9⟩, hS.F ht⟩) hS.2.2 d_X_finish_11

set_option maxHeartbeats 4000000 in
set_option maxRecDepth 100000 in
theorem k_tried (l : Launch) (D : va_G) (cA : Nat → ClassId) (h g : Nat → Nat) (n na L : Nat) (sb : Bool) (α : sx_A) (ab un : Nat → Int64) (sv : Nat → Int32) (sf sl : Int64) (acts : Nat → Option Nat) (a : Nat) (K : sx_KA) (hI : sx_INV n na L α) (ha : a < na) (hR : sx_RP n (α 1) ab un) (hS0 : sx_RW (α 3) sv sf sl) (hRA : sx_RA α a K) (hacts : acts a = some (g 0)) (ii : Int32) : Met l y_X_tried w_X_tried ({ frames := 1, cells := 0, slots := 0, locals := 21 }) (sx_Pr D cA [.ref (h 0), .int (nI a), .int ii] (wXAk cA h g (nI L) (nI na) (sx_bI sb) (nI n) (α 1) (α 2) ab un sv sf sl acts K)) (vp_Si (fun r => r = sx_triA α a ii)) 0 0 (fun _ => False) := by
  refine Met.ofW (cc := b_X_tried) (maxL := 4) (ret := (some .int)) (by decide) rfl ?_
  intro pG eG s m args below meth cG s₁ B hml hv
  obtain ⟨rfl, hP, hK⟩ := hv
  have hx := B.exec
  have hb := B.bytes
  have hr := B.returns
  have hts0 := atoms_spec (ws := w_X_tried) B.pre
  have hts : ∀ w ∈ sx_gw, w.before _ s = true := fun w h => hts0 w (List.mem_cons_of_mem _ h)
  have hown : s.vm.findClass R_X = some m.cls := findClass_of_methodNamed B.named
  have hlocks := B.notSynchronized
  have hl := lv_entry ([.ref (h 0), .int (nI a), .int ii]) (n := 4) (Nat.le_of_ble_eq_true rfl)
  rw [lg_entry_eq]
  generalize (lg_sl ([.ref (h 0), .int (nI a), .int ii]) ++ List.replicate (4 - (lg_sl ([.ref (h 0), .int (nI a), .int ii])).length) Slot.unset).toArray = ls at hl ⊢
  have hl : lv_has ls 4 [(0, .ref (h 0)), (1, .int (nI a)), (2, .int ii)] := hl
  have hn31 := sx_INV_n hI
  have hn60 := hI.1.1.2
  have h1n := hI.1.1.1
  have hAc := sx_INV_A hI ha
  have hd12 := (sx_dN_ok hAc).1
  have hna := hI.1.2.1
  have hL5 := hI.1.2.2.2
  obtain ⟨hDO, htp, htsb, hW0, f4, f12, f14, f13, f6, f7, f8⟩ := id hRA
  have e4 : nI (sx_dN α a) = α 4 a := (sx_dN_ok hAc).2.symm
  have e12 : sx_bI (sx_fb α 12 a) = α 12 a := sx_fb_ok hAc.2.2.2.2.2.1
  have e13 : sx_bI (sx_fb α 13 a) = α 13 a := sx_fb_ok hAc.2.2.2.2.2.2.1
  have e14 : sx_bI (sx_fb α 14 a) = α 14 a := sx_fb_ok hAc.2.2.2.2.2.2.2
  have e6 : nI (sx_oN α a) = α 6 a := (sx_oN_ok hAc hL5).2
  have oL := (sx_oN_ok hAc hL5).1
  have e8 : nI (sx_tN α a) = α 8 a := (sx_tN_ok hAc).2.symm
  have t60 := (sx_tN_ok hAc).1
  rw [sx_XA_eq hAc hL5 hRA] at hP
  refine lv_aload_n hx hb d_X_tried_0 rfl (lv_at hl 0 rfl) ?_
  refine lv_iload_n hx hb d_X_tried_1 rfl (lv_at hl 1 rfl) ?_
  have hPc : va_P D vwCl (wQ cA h (nI L) (nI na) (sx_bI sb) acts) s.heap := hP.sub [0, 8] rfl
  refine va_csq (va_runV (As := [.int (nI a)]) (rest := []) ⟨hx, hb, hml, hown, hts⟩ (k_actAt l D cA h (nI L) na (sx_bI sb) acts a (by omega) (by omega) (g 0) hacts) (cwV 1 hts (sx_GV wd_212 wd_214 ws_0 wd_1 wd_215) rfl rfl rfl (by decide +kernel) ⟨Nat.le_of_ble_eq_true rfl, Nat.le_of_ble_eq_true rfl⟩) (sx_preV hK hPc (va_recv hK.1 hPc (ci := 3) (q0 := 0) rfl rfl)) rfl rfl hl.1 rfl (lv_room (Nat.le_of_ble_eq_true rfl)) d_X_tried_2 ⟨Nat.le_of_ble_eq_true rfl, Nat.le_of_ble_eq_true rfl⟩).run (fun r_2 hr_1 => ?_)
  subst hr_1
  refine sx_asv (y := .ref (g 0)) rfl ?_
  refine lv_astore_n (lv' := [(3, .ref (g 0)), (0, .ref (h 0)), (1, .int (nI a)), (2, .int ii)]) hx hb d_X_tried_5 rfl hl (by decide) rfl (fun ls hl => ?_)
  refine lv_aload_n hx hb d_X_tried_6 rfl (lv_at hl 0 rfl) ?_
  refine lv_ifnull hx hb d_X_tried_7 ?_
  refine lv_iload_n hx hb d_X_tried_10 rfl (lv_at hl 3 rfl) ?_
  refine lv_if_lt (tgt := 22) hx hb d_X_tried_11 (by decide) (fun c_3 => ?_) (fun c_3 => ?_)
  · refine lv_iconst (v := (-1)) hx hb d_X_tried_22 (by decide +kernel) ?_
    exact W.iret (v := (-1)) hx hb hr (fun t ht hW => ⟨(-1), rfl, (sx_tri_n (Or.inl c_3)).symm, ht⟩) (fun _ h => by cases h) d_X_tried_23
  · refine lv_iload_n hx hb d_X_tried_14 rfl (lv_at hl 3 rfl) ?_
    refine lv_aload_n hx hb d_X_tried_15 rfl (lv_at hl 0 rfl) ?_
    refine va_getN (D := D) (ci := 0) (v := .int (nI (sx_tN α a))) (C := R_A) (T := T_A) (N := 12) hx hb hts iw_A hown hK.1 hP 9 rfl rfl 10 (by decide) (va_Nw.use rfl (hK.2.1 _ wd_180)) (fun _ h9 => h9) rfl d_X_tried_16 ?_
    refine lv_icmp_lt (tgt := 24) hx hb d_X_tried_19 (by decide) (fun c_4 => ?_) (fun c_4 => ?_)
    · obtain ⟨j, hj, rfl⟩ := sx_tri_y t60 c_3 c_4
      refine lv_aload_n hx hb d_X_tried_24 rfl (lv_at hl 0 rfl) ?_
      refine va_getN (D := D) (ci := 0) (v := .ref (g 5)) (C := R_A) (T := T_A) (N := 12) hx hb hts iw_A hown hK.1 hP 9 rfl rfl 9 (by decide) (va_Nw.use rfl (hK.2.1 _ wd_178)) (fun _ h9 => h9) rfl d_X_tried_25 ?_
      refine lv_iload_n hx hb d_X_tried_28 rfl (lv_at hl 3 rfl) ?_
      refine va_iald hx hb hK.1 hP 14 0 rfl rfl (vp_in_nI (by omega) (by decide)) d_X_tried_29 ?_
      refine sx_asi (congrArg (K.1 2) (nI_clamp (by omega))) ?_
      refine sx_asi (htp j (by omega)) ?_
      exact W.iret (v := α 9 (60 * a + j)) hx hb hr (fun t ht hW => ⟨α 9 (60 * a + j), rfl, (sx_tri_j t60 hj).symm, ht⟩) (fun _ h => by cases h) d_X_tried_30
    · refine lv_iconst (v := (-1)) hx hb d_X_tried_22 (by decide +kernel) ?_
      exact W.iret (v := (-1)) hx hb hr (fun t ht hW => ⟨(-1), rfl, (sx_tri_n (Or.inr c_4)).symm, ht⟩) (fun _ h => by cases h) d_X_tried_23

set_option maxHeartbeats 4000000 in
set_option maxRecDepth 100000 in
theorem k_about (l : Launch) (D : va_G) (cA : Nat → ClassId) (h g : Nat → Nat) (n na L : Nat) (sb : Bool) (α : sx_A) (ab un : Nat → Int64) (sv : Nat → Int32) (sf sl : Int64) (acts : Nat → Option Nat) (a : Nat) (K : sx_KA) (hI : sx_INV n na L α) (ha : a < na) (hR : sx_RP n (α 1) ab un) (hS0 : sx_RW (α 3) sv sf sl) (hRA : sx_RA α a K) (hacts : acts a = some (g 0)) (ww : Int32) : Met l y_X_about w_X_about ({ frames := 1, cells := 0, slots := 0, locals := 21 }) (sx_Pr D cA [.ref (h 0), .int (nI a), .int ww] (wXAk cA h g (nI L) (nI na) (sx_bI sb) (nI n) (α 1) (α 2) ab un sv sf sl acts K)) (vp_Si (fun r => r = sx_aboA α a ww)) 0 0 (fun _ => False) := by
  refine Met.ofW (cc := b_X_about) (maxL := 4) (ret := (some .int)) (by decide) rfl ?_
  intro pG eG s m args below meth cG s₁ B hml hv
  obtain ⟨rfl, hP, hK⟩ := hv
  have hx := B.exec
  have hb := B.bytes
  have hr := B.returns
  have hts0 := atoms_spec (ws := w_X_about) B.pre
  have hts : ∀ w ∈ sx_gw, w.before _ s = true := fun w h => hts0 w (List.mem_cons_of_mem _ h)
  have hown : s.vm.findClass R_X = some m.cls := findClass_of_methodNamed B.named
  have hlocks := B.notSynchronized
  have hl := lv_entry ([.ref (h 0), .int (nI a), .int ww]) (n := 4) (Nat.le_of_ble_eq_true rfl)
  rw [lg_entry_eq]
  generalize (lg_sl ([.ref (h 0), .int (nI a), .int ww]) ++ List.replicate (4 - (lg_sl ([.ref (h 0), .int (nI a), .int ww])).length) Slot.unset).toArray = ls at hl ⊢
  have hl : lv_has ls 4 [(0, .ref (h 0)), (1, .int (nI a)), (2, .int ww)] := hl
  have hn31 := sx_INV_n hI
  have hn60 := hI.1.1.2
  have h1n := hI.1.1.1
  have hAc := sx_INV_A hI ha
  have hd12 := (sx_dN_ok hAc).1
  have hna := hI.1.2.1
  have hL5 := hI.1.2.2.2
  obtain ⟨hDO, htp, htsb, hW0, f4, f12, f14, f13, f6, f7, f8⟩ := id hRA
  have e4 : nI (sx_dN α a) = α 4 a := (sx_dN_ok hAc).2.symm
  have e12 : sx_bI (sx_fb α 12 a) = α 12 a := sx_fb_ok hAc.2.2.2.2.2.1
  have e13 : sx_bI (sx_fb α 13 a) = α 13 a := sx_fb_ok hAc.2.2.2.2.2.2.1
  have e14 : sx_bI (sx_fb α 14 a) = α 14 a := sx_fb_ok hAc.2.2.2.2.2.2.2
  have e6 : nI (sx_oN α a) = α 6 a := (sx_oN_ok hAc hL5).2
  have oL := (sx_oN_ok hAc hL5).1
  have e8 : nI (sx_tN α a) = α 8 a := (sx_tN_ok hAc).2.symm
  have t60 := (sx_tN_ok hAc).1
  rw [sx_XA_eq hAc hL5 hRA] at hP
  refine lv_aload_n hx hb d_X_about_0 rfl (lv_at hl 0 rfl) ?_
  refine lv_iload_n hx hb d_X_about_1 rfl (lv_at hl 1 rfl) ?_
  have hPc : va_P D vwCl (wQ cA h (nI L) (nI na) (sx_bI sb) acts) s.heap := hP.sub [0, 8] rfl
  refine va_csq (va_runV (As := [.int (nI a)]) (rest := []) ⟨hx, hb, hml, hown, hts⟩ (k_actAt l D cA h (nI L) na (sx_bI sb) acts a (by omega) (by omega) (g 0) hacts) (cwV 1 hts (sx_GV wd_212 wd_214 ws_0 wd_1 wd_215) rfl rfl rfl (by decide +kernel) ⟨Nat.le_of_ble_eq_true rfl, Nat.le_of_ble_eq_true rfl⟩) (sx_preV hK hPc (va_recv hK.1 hPc (ci := 3) (q0 := 0) rfl rfl)) rfl rfl hl.1 rfl (lv_room (Nat.le_of_ble_eq_true rfl)) d_X_about_2 ⟨Nat.le_of_ble_eq_true rfl, Nat.le_of_ble_eq_true rfl⟩).run (fun r_2 hr_1 => ?_)
  subst hr_1
  refine sx_asv (y := .ref (g 0)) rfl ?_
  refine lv_astore_n (lv' := [(3, .ref (g 0)), (0, .ref (h 0)), (1, .int (nI a)), (2, .int ww)]) hx hb d_X_about_5 rfl hl (by decide) rfl (fun ls hl => ?_)
  refine lv_aload_n hx hb d_X_about_6 rfl (lv_at hl 0 rfl) ?_
  refine lv_ifnonnull (tgt := 12) hx hb d_X_about_7 (by decide) ?_
  refine lv_iload_n hx hb d_X_about_12 rfl (lv_at hl 3 rfl) ?_
  refine lv_if_ne (tgt := 29) hx hb d_X_about_13 (by decide) (fun c_3 => ?_) (fun c_3 => ?_)
  · refine lv_aload_n hx hb d_X_about_29 rfl (lv_at hl 0 rfl) ?_
    refine va_getN (D := D) (ci := 0) (v := .int (sx_bI (sx_fb α 14 a))) (C := R_A) (T := T_A) (N := 12) hx hb hts iw_A hown hK.1 hP 9 rfl rfl 5 (by decide) (va_Nw.use rfl (hK.2.1 _ wd_170)) (fun _ h9 => h9) rfl d_X_about_30 ?_
    refine lv_if_ne (tgt := 38) hx hb d_X_about_33 (by decide) (fun c_4 => ?_) (fun c_4 => ?_)
    · have c_4 : (sx_fb α 14 a) = true := sx_bIn c_4
      refine lv_iload_n hx hb d_X_about_38 rfl (lv_at hl 3 rfl) ?_
      by_cases w1 : ww = 1
      · subst w1
        refine lv_tableIn (tgt := 64) (off := 25) hx hb d_X_about_39 (by decide) (by decide) (by decide +kernel) (by decide) ?_
        refine lv_aload_n hx hb d_X_about_64 rfl (lv_at hl 0 rfl) ?_
        refine va_getN (D := D) (ci := 0) (v := .int (nI (sx_oN α a))) (C := R_A) (T := T_A) (N := 12) hx hb hts iw_A hown hK.1 hP 9 rfl rfl 7 (by decide) (va_Nw.use rfl (hK.2.1 _ wd_174)) (fun _ h9 => h9) rfl d_X_about_65 ?_
        exact W.iret (v := nI (sx_oN α a)) hx hb hr (fun t ht hW => ⟨nI (sx_oN α a), rfl, (by unfold sx_aboA; rw [if_neg (by decide)]; have z := c_4; unfold sx_fb at z; rw [show decide (α 14 a = 0) = false from by simpa using z]; exact e6), ht⟩) (fun _ h => by cases h) d_X_about_68
      · by_cases w2 : ww = 2
        · subst w2
          refine lv_tableIn (tgt := 69) (off := 30) hx hb d_X_about_39 (by decide) (by decide) (by decide +kernel) (by decide) ?_
          refine lv_aload_n hx hb d_X_about_69 rfl (lv_at hl 0 rfl) ?_
          refine va_getN (D := D) (ci := 0) (v := .int (α 7 a)) (C := R_A) (T := T_A) (N := 12) hx hb hts iw_A hown hK.1 hP 9 rfl rfl 8 (by decide) (va_Nw.use rfl (hK.2.1 _ wd_176)) (fun _ h9 => h9) rfl d_X_about_70 ?_
          exact W.iret (v := α 7 a) hx hb hr (fun t ht hW => ⟨α 7 a, rfl, (by unfold sx_aboA; rw [if_neg (by decide)]; have z := c_4; unfold sx_fb at z; rw [show decide (α 14 a = 0) = false from by simpa using z]; rfl), ht⟩) (fun _ h => by cases h) d_X_about_73
        · by_cases w3 : ww = 3
          · subst w3
            refine lv_tableIn (tgt := 74) (off := 35) hx hb d_X_about_39 (by decide) (by decide) (by decide +kernel) (by decide) ?_
            refine lv_aload_n hx hb d_X_about_74 rfl (lv_at hl 0 rfl) ?_
            refine va_getN (D := D) (ci := 0) (v := .int (sx_bI (sx_fb α 13 a))) (C := R_A) (T := T_A) (N := 12) hx hb hts iw_A hown hK.1 hP 9 rfl rfl 6 (by decide) (va_Nw.use rfl (hK.2.1 _ wd_172)) (fun _ h9 => h9) rfl d_X_about_75 ?_
            refine lv_if_eq (tgt := 85) hx hb d_X_about_78 (by decide) (fun c_5 => ?_) (fun c_5 => ?_)
            · have c_5 : (sx_fb α 13 a) = false := sx_bI0 c_5
              refine lv_iconst (v := nI 0) hx hb d_X_about_85 (by decide +kernel) ?_
              exact W.iret (v := nI 0) hx hb hr (fun t ht hW => ⟨nI 0, rfl, (by unfold sx_aboA; rw [if_neg (by decide)]; have z := c_4; unfold sx_fb at z; rw [show decide (α 14 a = 0) = false from by simpa using z]; have y := c_5; unfold sx_fb at y; rw [show decide (α 13 a = 0) = true from by simpa using y]; rfl), ht⟩) (fun _ h => by cases h) d_X_about_86
            · have c_5 : (sx_fb α 13 a) = true := sx_bIn c_5
              refine lv_iconst (v := nI 1) hx hb d_X_about_81 (by decide +kernel) ?_
              refine lv_goto (tgt := 86) hx hb d_X_about_82 (by decide) ?_
              exact W.iret (v := nI 1) hx hb hr (fun t ht hW => ⟨nI 1, rfl, (by unfold sx_aboA; rw [if_neg (by decide)]; have z := c_4; unfold sx_fb at z; rw [show decide (α 14 a = 0) = false from by simpa using z]; have y := c_5; unfold sx_fb at y; rw [show decide (α 13 a = 0) = false from by simpa using y]; rfl), ht⟩) (fun _ h => by cases h) d_X_about_86
          · have z1 := lv_neT w1 (show (1 : Int32).toInt = 1 by decide)
            have z2 := lv_neT w2 (show (2 : Int32).toInt = 2 by decide)
            have z3 := lv_neT w3 (show (3 : Int32).toInt = 3 by decide)
            refine lv_tableOut (tgt := 87) hx hb d_X_about_39 (by omega) (by decide) ?_
            refine lv_iconst (v := (-1)) hx hb d_X_about_87 (by decide +kernel) ?_
            exact W.iret (v := (-1)) hx hb hr (fun t ht hW => ⟨(-1), rfl, (by unfold sx_aboA; rw [if_neg c_3]; have z := c_4; unfold sx_fb at z; rw [show decide (α 14 a = 0) = false from by simpa using z]; rw [if_neg w1, if_neg w2, if_neg w3]; rfl), ht⟩) (fun _ h => by cases h) d_X_about_88
    · have c_4 : (sx_fb α 14 a) = false := sx_bI0 c_4
      refine lv_iconst (v := (-1)) hx hb d_X_about_36 (by decide +kernel) ?_
      exact W.iret (v := (-1)) hx hb hr (fun t ht hW => ⟨(-1), rfl, (by unfold sx_aboA; rw [if_neg c_3]; have z := c_4; unfold sx_fb at z; rw [show decide (α 14 a = 0) = true from by simpa using z]; rfl), ht⟩) (fun _ h => by cases h) d_X_about_37
  · refine lv_aload_n hx hb d_X_about_16 rfl (lv_at hl 0 rfl) ?_
    refine va_getN (D := D) (ci := 0) (v := .int (sx_bI (sx_fb α 12 a))) (C := R_A) (T := T_A) (N := 12) hx hb hts iw_A hown hK.1 hP 9 rfl rfl 4 (by decide) (va_Nw.use rfl (hK.2.1 _ wd_168)) (fun _ h9 => h9) rfl d_X_about_17 ?_
    refine lv_if_eq (tgt := 27) hx hb d_X_about_20 (by decide) (fun c_6 => ?_) (fun c_6 => ?_)
    · have c_6 : (sx_fb α 12 a) = false := sx_bI0 c_6
      refine lv_iconst (v := nI 0) hx hb d_X_about_27 (by decide +kernel) ?_
      exact W.iret (v := nI 0) hx hb hr (fun t ht hW => ⟨nI 0, rfl, (by unfold sx_aboA; rw [if_pos c_3]; have z := c_6; unfold sx_fb at z; rw [show decide (α 12 a = 0) = true from by simpa using z]; rfl), ht⟩) (fun _ h => by cases h) d_X_about_28
    · have c_6 : (sx_fb α 12 a) = true := sx_bIn c_6
      refine lv_iconst (v := nI 1) hx hb d_X_about_23 (by decide +kernel) ?_
      refine lv_goto (tgt := 28) hx hb d_X_about_24 (by decide) ?_
      exact W.iret (v := nI 1) hx hb hr (fun t ht hW => ⟨nI 1, rfl, (by unfold sx_aboA; rw [if_pos c_3]; have z := c_6; unfold sx_fb at z; rw [show decide (α 12 a = 0) = false from by simpa using z]; rfl), ht⟩) (fun _ h => by cases h) d_X_about_28
