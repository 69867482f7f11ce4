set_option maxHeartbeats 4000000 in
set_option maxRecDepth 100000 in
theorem k_ended (l : Launch) (D : va_G) (cA : Nat → ClassId) (sz : Nat) (h : Nat → Nat) (most : Int32) (code : Int32) (actions : Int32) (isStrict : Int32) (come : Nat → Int32) (operations : Nat → Int32) (refusals : Nat → Int32) (triedMany : Nat → Int32) (tried : Nat → Int32) (isThere : Nat → Int32) (wasThere : Nat → Int32) (marked : Nat → Int32) (n : Nat) (α : sx_A) (na L : Nat) (hI : sx_INV n na L α) (a : Nat) (ha : a < na) (fl : Bool) (hth : sx_fb α 12 a = true) : Met l y_M_ended w_M_ended ({ frames := 3, cells := 0, slots := 0, locals := 71 }) (sx_Pw D cA [.ref (h 0), .int (nI a), .int (sx_bI fl)] (wM cA h most code (nI n) actions isStrict (α 1) (α 2) (α 3) come (α 4) (α 5) operations refusals triedMany tried (α 10) (α 11) isThere (α 13) wasThere marked) sz) (va_Qi (fun r (u : (Nat → Int32) × (Nat → Int32)) => r = sx_finA n α a fl) (sx_Bw D (wM cA h most code (nI n) actions isStrict (α 1) (α 2) (α 3) come (α 4) (α 5) operations refusals triedMany tried (α 10) (α 11) isThere (α 13) wasThere marked) sz (fun u => wM cA h most code (nI n) actions isStrict (α 1) (α 2) (sx_finS n α a fl 3) u.1 (α 4) (α 5) operations refusals triedMany tried (α 10) (α 11) isThere (α 13) wasThere u.2)) (va_A (wM cA h most code (nI n) actions isStrict (α 1) (α 2) (α 3) come (α 4) (α 5) operations refusals triedMany tried (α 10) (α 11) isThere (α 13) wasThere marked) sz)) 0 0 (va_A (wM cA h most code (nI n) actions isStrict (α 1) (α 2) (α 3) come (α 4) (α 5) operations refusals triedMany tried (α 10) (α 11) isThere (α 13) wasThere marked) sz) := by
  refine Met.ofW (cc := b_M_ended) (maxL := 6) (ret := (some .int)) (by decide) rfl ?_
  intro pG eG s m args below meth cG s₁ B hml hv
  obtain ⟨rfl, hsz, hP, hK, hD0⟩ := hv
  have hx := B.exec
  have hb := B.bytes
  have hr := B.returns
  have hts0 := atoms_spec (ws := w_M_ended) B.pre
  have hts : ∀ w ∈ sx_gw, w.before _ s = true := fun w h => hts0 w (List.mem_cons_of_mem _ h)
  have hown : s.vm.findClass R_M = some m.cls := findClass_of_methodNamed B.named
  have hlocks := B.notSynchronized
  subst hsz
  have hD := hD0.self (sz := s.heap.size)
  generalize hAe : va_A (wM cA h most code (nI n) actions isStrict (α 1) (α 2) (α 3) come (α 4) (α 5) operations refusals triedMany tried (α 10) (α 11) isThere (α 13) wasThere marked) s.heap.size = A at hD ⊢
  have hA : ∀ q : Nat, s.heap.size ≤ q → A q := fun q h => by rw [← hAe]; exact Or.inr h
  have hS : va_S A s.heap s.heap [] := va_S.rf
  have hl := lv_entry ([.ref (h 0), .int (nI a), .int (sx_bI fl)]) (n := 6) (Nat.le_of_ble_eq_true rfl)
  rw [lg_entry_eq]
  generalize (lg_sl ([.ref (h 0), .int (nI a), .int (sx_bI fl)]) ++ List.replicate (6 - (lg_sl ([.ref (h 0), .int (nI a), .int (sx_bI fl)])).length) Slot.unset).toArray = ls at hl ⊢
  have hl : lv_has ls 6 [(0, .ref (h 0)), (1, .int (nI a)), (2, .int (sx_bI fl))] := hl
  have hn31 := sx_INV_n hI
  have hn60 := hI.1.1.2
  have h1n := hI.1.1.1
  have hna := hI.1.2.1
  have hAc := sx_INV_A hI ha
  have hd12 := (sx_dN_ok hAc).1
  refine lv_iload_n hx hb d_M_ended_0 rfl (lv_at hl 2 rfl) ?_
  refine lv_if_eq (tgt := 6) hx hb d_M_ended_1 (by decide) (fun c_1 => ?_) (fun c_1 => ?_)
  · have c_1 : fl = false := sx_bI0 c_1
    refine lv_aload_n hx hb d_M_ended_6 rfl (lv_at hl 0 rfl) ?_
    refine va_get (D := D) (ci := 4) (v := .ref (h 14)) (C := R_M) (T := T_M) (N := 21) hx hb hts iw_M hown hK.1 hP 0 rfl rfl 18 (by decide) (hts _ wd_382) (fun _ h9 => h9) rfl d_M_ended_7 ?_
    refine lv_iload_n hx hb d_M_ended_10 rfl (lv_at hl 1 rfl) ?_
    refine va_zald hx hb hK.1 hP 14 1 rfl rfl (vp_in_nI (by omega) (by decide)) d_M_ended_11 ?_
    refine sx_asi (congrArg (α 13) (nI_clamp (by omega))) ?_
    refine sx_asi (y := sx_bI (sx_fb α 13 a)) (sx_fb_ok hAc.2.2.2.2.2.2.1).symm ?_
    refine lv_if_eq (tgt := 18) hx hb d_M_ended_12 (by decide) (fun c_2 => ?_) (fun c_2 => ?_)
    · have c_2 : (sx_fb α 13 a) = false := sx_bI0 c_2
      refine lv_iconst (v := nI 0) hx hb d_M_ended_18 (by decide +kernel) ?_
      refine lv_istore_n (lv' := [(3, .int (nI 0)), (0, .ref (h 0)), (1, .int (nI a)), (2, .int (sx_bI fl))]) hx hb d_M_ended_19 rfl hl (by decide) rfl (fun ls hl => ?_)
      refine lv_iconst (v := nI 0) hx hb d_M_ended_20 (by decide +kernel) ?_
      refine lv_istore (lv' := [(4, .int (nI 0)), (3, .int (nI 0)), (0, .ref (h 0)), (1, .int (nI a)), (2, .int (sx_bI fl))]) hx hb d_M_ended_21 hl (by decide) rfl (fun ls hl => ?_)
      refine sx_loop (σ := Nat × Nat) (fun x => x.1 ≤ sx_dN α a ∧ x.2 ≤ x.1 ∧ sx_fl n α a (sx_dN α a) 0 0 = sx_fl n α a (sx_dN α a - x.1) x.1 x.2) (fun x => [(4, .int (nI x.1)), (3, .int (nI x.2)), (0, .ref (h 0)), (1, .int (nI a)), (2, .int (sx_bI fl))]) (fun x => sx_dN α a - x.1) (0, 0) (⟨Nat.zero_le _, Nat.le_refl _, rfl⟩) (lv_sub hl [0, 1, 2, 3, 4] rfl) (fun x hJ ih ls hl => ?_)
      obtain ⟨k, pl⟩ := x
      obtain ⟨hk, hpl, hpf⟩ := hJ
      have hl : lv_has ls 6 [(4, .int (nI k)), (3, .int (nI pl)), (0, .ref (h 0)), (1, .int (nI a)), (2, .int (sx_bI fl))] := hl
      have ih_23 := ih
      refine lv_iload hx hb d_M_ended_23 (lv_at hl 0 rfl) ?_
      refine lv_aload_n hx hb d_M_ended_25 rfl (lv_at hl 2 rfl) ?_
      refine va_get (D := D) (ci := 4) (v := .ref (h 5)) (C := R_M) (T := T_M) (N := 21) hx hb hts iw_M hown hK.1 hP 0 rfl rfl 9 (by decide) (hts _ wd_373) (fun _ h9 => h9) rfl d_M_ended_26 ?_
      refine lv_iload_n hx hb d_M_ended_29 rfl (lv_at hl 3 rfl) ?_
      refine va_iald hx hb hK.1 hP 5 0 rfl rfl (vp_in_nI (by omega) (by decide)) d_M_ended_30 ?_
      refine sx_asi (congrArg (α 4) (nI_clamp (by omega))) ?_
      refine sx_asi (sx_dN_ok hAc).2 ?_
      refine lv_icmp_ge (tgt := 109) hx hb d_M_ended_31 (by decide) (fun c_3 => ?_) (fun c_3 => ?_)
      · have c_3 : sx_dN α a ≤ k := (nI_leI (by omega) (by omega)).mp c_3
        have hfl : sx_fl n α a (sx_dN α a) 0 0 = 0 := by rw [hpf, show sx_dN α a - k = 0 by omega]; rfl
        have z := sx_fin_g (n := n) hth c_1 c_2 hfl
        refine lv_aload_n hx hb d_M_ended_109 rfl (lv_at hl 2 rfl) ?_
        refine lv_iload_n hx hb d_M_ended_110 rfl (lv_at hl 3 rfl) ?_
        refine sx_callv (wr := []) (va_runV (As := [.int (nI a)]) (rest := []) ⟨hx, hb, hml, hown, hts⟩ (k_mark l D cA s.heap.size h most code actions isStrict (α 2) (α 3) come operations refusals triedMany tried isThere (α 13) wasThere marked n α na L hI a ha) (cwV 1 hts (sx_GV wd_542 wd_544 ws_25 wd_5 wd_545) rfl rfl rfl (by decide +kernel) ⟨Nat.le_of_ble_eq_true rfl, Nat.le_of_ble_eq_true rfl⟩) (sx_preVw hK hP hD (va_recv hK.1 hP (ci := 4) (q0 := 0) rfl rfl)) rfl rfl hl.1 rfl (lv_room (Nat.le_of_ble_eq_true rfl)) d_M_ended_111 ⟨Nat.le_of_ble_eq_true rfl, Nat.le_of_ble_eq_true rfl⟩) hP hD hS hA [0, 1, 2, 3, 4, 5, 6, 7, 8, 9, 10, 11, 12, 13, 14, 15, 16] [] rfl rfl (by decide) (by decide) (fun u_6 H locs hr_4 hP hD hS => ?_)
        have hmk : ∀ q, q < 60 → u_6 q = sx_bI (sx_mk n α a q) := hr_4
        have hP : va_P D vwCl (wM cA h most code (nI n) actions isStrict (α 1) (α 2) (α 3) come (α 4) (α 5) operations refusals triedMany tried (α 10) (α 11) isThere (α 13) wasThere u_6) H := hP.sub [0, 1, 2, 3, 4, 5, 6, 7, 8, 9, 10, 11, 12, 13, 14, 15, 16] rfl
        have hD : va_D A (wM cA h most code (nI n) actions isStrict (α 1) (α 2) (α 3) come (α 4) (α 5) operations refusals triedMany tried (α 10) (α 11) isThere (α 13) wasThere u_6) := hD.sub [0, 1, 2, 3, 4, 5, 6, 7, 8, 9, 10, 11, 12, 13, 14, 15, 16] (by decide) rfl
        refine lv_aload_n hx hb d_M_ended_114 rfl (lv_at hl 2 rfl) ?_
        refine vp_callSi (va_runV (As := []) (rest := []) ⟨hx, hb, hml, hown, hts⟩ (k_clM l D cA h most code actions isStrict (α 3) come (α 4) (α 5) operations refusals triedMany tried (α 10) (α 11) isThere (α 13) wasThere u_6 n α a (by omega) (by omega) hmk) (cwV 0 hts (sx_GV wd_546 wd_548 ws_26 wd_5 wd_549) rfl rfl rfl (by decide +kernel) ⟨Nat.le_of_ble_eq_true rfl, Nat.le_of_ble_eq_true rfl⟩) (sx_preV hK hP (va_recv hK.1 hP (ci := 4) (q0 := 0) rfl rfl)) rfl rfl hl.1 rfl (lv_room (Nat.le_of_ble_eq_true rfl)) d_M_ended_115 ⟨Nat.le_of_ble_eq_true rfl, Nat.le_of_ble_eq_true rfl⟩).run (fun r_8 hr_7 => ?_)
        subst hr_7
        refine lv_if_eq (tgt := 124) hx hb d_M_ended_118 (by decide) (fun c_9 => ?_) (fun c_9 => ?_)
        · have c_9 : (sx_cl n α a) = false := sx_bI0 c_9
          refine lv_iconst (v := nI 1) hx hb d_M_ended_124 (by decide +kernel) ?_
          refine lv_istore (lv' := [(4, .int (nI 1)), (3, .int (nI pl)), (0, .ref (h 0)), (1, .int (nI a)), (2, .int (sx_bI fl))]) hx hb d_M_ended_125 hl (by decide) rfl (fun ls hl => ?_)
          refine sx_loop (σ := Nat) (fun x => 1 ≤ x ∧ x ≤ n ∧ sx_any (fun z => Nat.blt 0 z && (sx_mk n α a z && (decide (0 < α 3 z) && !sx_isD α a true z))) x = false) (fun x => [(4, .int (nI x)), (0, .ref (h 0)), (1, .int (nI a)), (2, .int (sx_bI fl))]) (fun x => n - x) 1 (⟨by omega, by omega, rfl⟩) (lv_sub hl [0, 2, 3, 4] rfl) (fun x hJ ih ls hl => ?_)
          obtain ⟨p, rfl⟩ : ∃ y, y = x := ⟨_, rfl⟩
          obtain ⟨hp1, hpn, hwy⟩ := hJ
          have hl : lv_has ls 6 [(4, .int (nI p)), (0, .ref (h 0)), (1, .int (nI a)), (2, .int (sx_bI fl))] := hl
          have ih_127 := ih
          refine lv_iload hx hb d_M_ended_127 (lv_at hl 0 rfl) ?_
          refine lv_aload_n hx hb d_M_ended_129 rfl (lv_at hl 1 rfl) ?_
          refine va_get (D := D) (ci := 4) (v := .int (nI n)) (C := R_M) (T := T_M) (N := 21) hx hb hts iw_M hown hK.1 hP 0 rfl rfl 2 (by decide) (hts _ wd_366) (fun _ h9 => h9) rfl d_M_ended_130 ?_
          refine lv_icmp_ge (tgt := 176) hx hb d_M_ended_133 (by decide) (fun c_10 => ?_) (fun c_10 => ?_)
          · have c_10 : n ≤ p := (nI_leI (by omega) (by omega)).mp c_10
            refine lv_iconst (v := nI 0) hx hb d_M_ended_176 (by decide +kernel) ?_
            refine lv_istore (lv' := [(4, .int (nI 0)), (0, .ref (h 0)), (1, .int (nI a)), (2, .int (sx_bI fl))]) hx hb d_M_ended_177 hl (by decide) rfl (fun ls hl => ?_)
            refine lv_iconst (v := nI 0) hx hb d_M_ended_179 (by decide +kernel) ?_
            refine lv_istore (lv' := [(5, .int (nI 0)), (4, .int (nI 0)), (0, .ref (h 0)), (1, .int (nI a)), (2, .int (sx_bI fl))]) hx hb d_M_ended_180 hl (by decide) rfl (fun ls hl => ?_)
            refine sx_loopW (σ := Nat × (Nat → Int32)) (fun x => x.1 ≤ n ∧ ∀ q, q < x.1 → x.2 q = sx_lead α a q) (fun x => [(5, .int (nI x.1)), (4, .int (nI 0)), (0, .ref (h 0)), (1, .int (nI a)), (2, .int (sx_bI fl))]) (fun x => wM cA h most code (nI n) actions isStrict (α 1) (α 2) (α 3) x.2 (α 4) (α 5) operations refusals triedMany tried (α 10) (α 11) isThere (α 13) wasThere u_6) (fun x => n - x.1) (0, come) (⟨by omega, fun q hq => absurd hq (Nat.not_lt_zero q)⟩) (lv_sub hl [0, 1, 2, 3, 4] rfl) hP hD hS (fun x hJ ih ls H locs hl hP hD hS => ?_)
            obtain ⟨q1, cw⟩ := x
            obtain ⟨hq1, hcw⟩ := hJ
            have hl : lv_has ls 6 [(5, .int (nI q1)), (4, .int (nI 0)), (0, .ref (h 0)), (1, .int (nI a)), (2, .int (sx_bI fl))] := hl
            have hP : va_P D vwCl (wM cA h most code (nI n) actions isStrict (α 1) (α 2) (α 3) cw (α 4) (α 5) operations refusals triedMany tried (α 10) (α 11) isThere (α 13) wasThere u_6) H := hP
            have hD : va_D A (wM cA h most code (nI n) actions isStrict (α 1) (α 2) (α 3) cw (α 4) (α 5) operations refusals triedMany tried (α 10) (α 11) isThere (α 13) wasThere u_6) := hD
            have ih_182 := ih
            refine lv_iload hx hb d_M_ended_182 (lv_at hl 0 rfl) ?_
            refine lv_aload_n hx hb d_M_ended_184 rfl (lv_at hl 2 rfl) ?_
            refine va_get (D := D) (ci := 4) (v := .int (nI n)) (C := R_M) (T := T_M) (N := 21) hx hb hts iw_M hown hK.1 hP 0 rfl rfl 2 (by decide) (hts _ wd_366) (fun _ h9 => h9) rfl d_M_ended_185 ?_
            refine lv_icmp_ge (tgt := 211) hx hb d_M_ended_188 (by decide) (fun c_11 => ?_) (fun c_11 => ?_)
            · have c_11 : n ≤ q1 := (nI_leI (by omega) (by omega)).mp c_11
              refine lv_iconst (v := nI 1) hx hb d_M_ended_211 (by decide +kernel) ?_
              refine lv_istore (lv' := [(5, .int (nI 1)), (4, .int (nI 0)), (0, .ref (h 0)), (1, .int (nI a)), (2, .int (sx_bI fl))]) hx hb d_M_ended_212 hl (by decide) rfl (fun ls hl => ?_)
              have hcw2 : ∀ q, q < n → cw q = sx_lead α a q := fun q hq => hcw q (by omega)
              have hP : va_P D vwCl (wM cA h most code (nI n) actions isStrict (α 1) (α 2) (sx_srow n α a 1) cw (α 4) (α 5) operations refusals triedMany tried (α 10) (α 11) isThere (α 13) wasThere u_6) H := by rw [sx_srow_1]; exact hP
              have hD : va_D A (wM cA h most code (nI n) actions isStrict (α 1) (α 2) (sx_srow n α a 1) cw (α 4) (α 5) operations refusals triedMany tried (α 10) (α 11) isThere (α 13) wasThere u_6) := by rw [sx_srow_1]; exact hD
              refine sx_loopW (σ := Nat × Nat) (fun x => 1 ≤ x.1 ∧ x.1 ≤ n ∧ x.2 = sx_cnt (fun q => sx_cm n α a q && decide (0 < sx_lead α a q)) x.1) (fun x => [(5, .int (nI x.1)), (4, .int (nI x.2)), (0, .ref (h 0)), (1, .int (nI a)), (2, .int (sx_bI fl))]) (fun x => wM cA h most code (nI n) actions isStrict (α 1) (α 2) (sx_srow n α a x.1) cw (α 4) (α 5) operations refusals triedMany tried (α 10) (α 11) isThere (α 13) wasThere u_6) (fun x => n - x.1) (1, 0) (⟨by omega, by omega, sx_cnt_i⟩) (lv_sub hl [0, 1, 2, 3, 4] rfl) hP hD hS (fun x hJ ih ls H locs hl hP hD hS => ?_)
              obtain ⟨q2, c⟩ := x
              obtain ⟨hr1, hr2, hcc⟩ := hJ
              have hl : lv_has ls 6 [(5, .int (nI q2)), (4, .int (nI c)), (0, .ref (h 0)), (1, .int (nI a)), (2, .int (sx_bI fl))] := hl
              have hP : va_P D vwCl (wM cA h most code (nI n) actions isStrict (α 1) (α 2) (sx_srow n α a q2) cw (α 4) (α 5) operations refusals triedMany tried (α 10) (α 11) isThere (α 13) wasThere u_6) H := hP
              have hD : va_D A (wM cA h most code (nI n) actions isStrict (α 1) (α 2) (sx_srow n α a q2) cw (α 4) (α 5) operations refusals triedMany tried (α 10) (α 11) isThere (α 13) wasThere u_6) := hD
              have ih_214 := ih
              refine lv_iload hx hb d_M_ended_214 (lv_at hl 0 rfl) ?_
              refine lv_aload_n hx hb d_M_ended_216 rfl (lv_at hl 2 rfl) ?_
              refine va_get (D := D) (ci := 4) (v := .int (nI n)) (C := R_M) (T := T_M) (N := 21) hx hb hts iw_M hown hK.1 hP 0 rfl rfl 2 (by decide) (hts _ wd_366) (fun _ h9 => h9) rfl d_M_ended_217 ?_
              refine lv_icmp_ge (tgt := 277) hx hb d_M_ended_220 (by decide) (fun c_12 => ?_) (fun c_12 => ?_)
              · have c_12 : n ≤ q2 := (nI_leI (by omega) (by omega)).mp c_12
                refine lv_iload hx hb d_M_ended_277 (lv_at hl 1 rfl) ?_
                have z9 := sx_gend z c_9 hwy (show p = n by omega) hcc (show q2 = n by omega)
                have hP9 : va_P D vwCl (wM cA h most code (nI n) actions isStrict (α 1) (α 2) (sx_finS n α a fl 3) cw (α 4) (α 5) operations refusals triedMany tried (α 10) (α 11) isThere (α 13) wasThere u_6) H := by rw [z9.2]; exact hP
                have hD9 : va_D A (wM cA h most code (nI n) actions isStrict (α 1) (α 2) (sx_finS n α a fl 3) cw (α 4) (α 5) operations refusals triedMany tried (α 10) (α 11) isThere (α 13) wasThere u_6) := by rw [z9.2]; exact hD
                exact W.iret (v := nI c) hx hb hr (fun t ht hW => ⟨⟨nI c, (cw, u_6), rfl, z9.1, by rw [ht]; exact hP9, by rw [hAe]; exact hD9⟩, hS.F ht⟩) hS.2.2 d_M_ended_279
              · have c_12 : q2 < n := Nat.not_le.mp (fun z => c_12 ((nI_leI (by omega) (by omega)).mpr z))
                refine lv_aload_n hx hb d_M_ended_223 rfl (lv_at hl 2 rfl) ?_
                refine lv_iload_n hx hb d_M_ended_224 rfl (lv_at hl 3 rfl) ?_
                refine lv_iload hx hb d_M_ended_225 (lv_at hl 0 rfl) ?_
                refine lv_iconst (v := nI 1) hx hb d_M_ended_227 (by decide +kernel) ?_
                refine sx_asi (y := sx_bI true) rfl ?_
                refine vp_callSi (va_runV (As := [.int (nI a), .int (nI q2), .int (sx_bI true)]) (rest := []) ⟨hx, hb, hml, hown, hts⟩ (k_isDecl l D cA h most code actions isStrict (α 2) (sx_srow n α a q2) cw operations refusals triedMany tried (α 10) isThere (α 13) wasThere u_6 n α na L hI a (by omega) q2 (by omega) true) (cwV 3 hts (sx_GV wd_475 wd_477 ws_15 wd_5 wd_478) rfl rfl rfl (by decide +kernel) ⟨Nat.le_of_ble_eq_true rfl, Nat.le_of_ble_eq_true rfl⟩) (sx_preV hK hP (va_recv hK.1 hP (ci := 4) (q0 := 0) rfl rfl)) rfl rfl hl.1 rfl (lv_room (Nat.le_of_ble_eq_true rfl)) d_M_ended_228 ⟨Nat.le_of_ble_eq_true rfl, Nat.le_of_ble_eq_true rfl⟩).run (fun r_14 hr_13 => ?_)
                subst hr_13
                refine lv_if_ne (tgt := 237) hx hb d_M_ended_231 (by decide) (fun c_15 => ?_) (fun c_15 => ?_)
                · have c_15 : (sx_isD α a true q2) = true := sx_bIn c_15
                  refine lv_aload_n hx hb d_M_ended_237 rfl (lv_at hl 2 rfl) ?_
                  refine va_get (D := D) (ci := 4) (v := .ref (h 3)) (C := R_M) (T := T_M) (N := 21) hx hb hts iw_M hown hK.1 hP 0 rfl rfl 7 (by decide) (hts _ wd_371) (fun _ h9 => h9) rfl d_M_ended_238 ?_
                  refine lv_iload hx hb d_M_ended_241 (lv_at hl 0 rfl) ?_
                  refine lv_aload_n hx hb d_M_ended_243 rfl (lv_at hl 2 rfl) ?_
                  refine va_get (D := D) (ci := 4) (v := .ref (h 4)) (C := R_M) (T := T_M) (N := 21) hx hb hts iw_M hown hK.1 hP 0 rfl rfl 8 (by decide) (hts _ wd_372) (fun _ h9 => h9) rfl d_M_ended_244 ?_
                  refine lv_iload hx hb d_M_ended_247 (lv_at hl 0 rfl) ?_
                  refine va_iald hx hb hK.1 hP 4 0 rfl rfl (vp_in_nI (by omega) (by decide)) d_M_ended_249 ?_
                  refine sx_asi (congrArg cw (nI_clamp (by omega))) ?_
                  refine sx_asi (hcw2 q2 (by omega)) ?_
                  refine va_iast hx hb hK.1 hP hD hS 3 0 rfl rfl (vp_in_nI (by omega) (by decide)) d_M_ended_250 (fun H locs hP hD hS => ?_)
                  rw [nI_clamp (by omega)] at hP hD
                  have hP : va_P D vwCl (wM cA h most code (nI n) actions isStrict (α 1) (α 2) (upd (sx_srow n α a q2) q2 (sx_lead α a q2)) cw (α 4) (α 5) operations refusals triedMany tried (α 10) (α 11) isThere (α 13) wasThere u_6) H := hP
                  have hD : va_D A (wM cA h most code (nI n) actions isStrict (α 1) (α 2) (upd (sx_srow n α a q2) q2 (sx_lead α a q2)) cw (α 4) (α 5) operations refusals triedMany tried (α 10) (α 11) isThere (α 13) wasThere u_6) := hD
                  refine lv_iload hx hb d_M_ended_251 (lv_at hl 1 rfl) ?_
                  refine lv_aload_n hx hb d_M_ended_253 rfl (lv_at hl 2 rfl) ?_
                  refine va_get (D := D) (ci := 4) (v := .ref (h 4)) (C := R_M) (T := T_M) (N := 21) hx hb hts iw_M hown hK.1 hP 0 rfl rfl 8 (by decide) (hts _ wd_372) (fun _ h9 => h9) rfl d_M_ended_254 ?_
                  refine lv_iload hx hb d_M_ended_257 (lv_at hl 0 rfl) ?_
                  refine va_iald hx hb hK.1 hP 4 0 rfl rfl (vp_in_nI (by omega) (by decide)) d_M_ended_259 ?_
                  refine sx_asi (congrArg cw (nI_clamp (by omega))) ?_
                  refine sx_asi (hcw2 q2 (by omega)) ?_
                  refine lv_if_le (tgt := 267) hx hb d_M_ended_260 (by decide) (fun c_16 => ?_) (fun c_16 => ?_)
                  · refine lv_iconst (v := nI 0) hx hb d_M_ended_267 (by decide +kernel) ?_
                    refine lv_iadd hx hb d_M_ended_268 ?_
                    refine sx_asi (y := nI c) (nI_add c 0) ?_
                    refine lv_istore (lv' := [(4, .int (nI c)), (5, .int (nI q2)), (0, .ref (h 0)), (1, .int (nI a)), (2, .int (sx_bI fl))]) hx hb d_M_ended_269 hl (by decide) rfl (fun ls hl => ?_)
                    refine lv_iinc (v := nI (q2 + 1)) (lv' := [(5, .int (nI (q2 + 1))), (4, .int (nI c)), (0, .ref (h 0)), (1, .int (nI a)), (2, .int (sx_bI fl))]) hx hb d_M_ended_271 hl (k := 1) rfl (nI_1 q2) (by decide) rfl (fun ls hl => ?_)
                    refine lv_goto (tgt := 214) hx hb d_M_ended_274 (by decide) ?_
                    have hcm9 : sx_cm n α a q2 = true := by rw [sx_cm_t (by omega) (by omega)]; exact c_15
                    rw [sx_srow_t hcm9] at hP hD
                    exact ih_214 (q2 + 1, c) (⟨by omega, by omega, sx_cnt_z hcc (by rw [decide_eq_false (Int32.not_lt.mpr c_16), Bool.and_false])⟩) (by omega) ls _ _ (lv_sub hl [0, 1, 2, 3, 4] rfl) hP hD hS
                  · refine lv_iconst (v := nI 1) hx hb d_M_ended_263 (by decide +kernel) ?_
                    refine lv_goto (tgt := 268) hx hb d_M_ended_264 (by decide) ?_
                    refine lv_iadd hx hb d_M_ended_268 ?_
                    refine sx_asi (y := nI (c + 1)) (nI_add c 1) ?_
                    refine lv_istore (lv' := [(4, .int (nI (c + 1))), (5, .int (nI q2)), (0, .ref (h 0)), (1, .int (nI a)), (2, .int (sx_bI fl))]) hx hb d_M_ended_269 hl (by decide) rfl (fun ls hl => ?_)
                    refine lv_iinc (v := nI (q2 + 1)) (lv' := [(5, .int (nI (q2 + 1))), (4, .int (nI (c + 1))), (0, .ref (h 0)), (1, .int (nI a)), (2, .int (sx_bI fl))]) hx hb d_M_ended_271 hl (k := 1) rfl (nI_1 q2) (by decide) rfl (fun ls hl => ?_)
                    refine lv_goto (tgt := 214) hx hb d_M_ended_274 (by decide) ?_
                    have hcm9 : sx_cm n α a q2 = true := by rw [sx_cm_t (by omega) (by omega)]; exact c_15
                    rw [sx_srow_t hcm9] at hP hD
                    exact ih_214 (q2 + 1, c + 1) (⟨by omega, by omega, sx_cnt_1 hcc (by rw [hcm9, decide_eq_true (Int32.not_le.mp c_16)]; rfl)⟩) (by omega) ls _ _ (lv_sub hl [0, 1, 2, 3, 4] rfl) hP hD hS
                · have c_15 : (sx_isD α a true q2) = false := sx_bI0 c_15
                  refine lv_goto (tgt := 271) hx hb d_M_ended_234 (by decide) ?_
                  refine lv_iinc (v := nI (q2 + 1)) (lv' := [(5, .int (nI (q2 + 1))), (4, .int (nI c)), (0, .ref (h 0)), (1, .int (nI a)), (2, .int (sx_bI fl))]) hx hb d_M_ended_271 hl (k := 0) rfl (nI_1 q2) (by decide) rfl (fun ls hl => ?_)
                  refine lv_goto (tgt := 214) hx hb d_M_ended_274 (by decide) ?_
                  have hcm9 : sx_cm n α a q2 = false := by rw [sx_cm_t (by omega) (by omega)]; exact c_15
                  rw [sx_srow_f hcm9] at hP hD
                  exact ih_214 (q2 + 1, c) (⟨by omega, by omega, sx_cnt_z hcc (by rw [hcm9]; rfl)⟩) (by omega) ls _ _ (lv_sub hl [0, 1, 2, 3, 4] rfl) hP hD hS
            · have c_11 : q1 < n := Nat.not_le.mp (fun z => c_11 ((nI_leI (by omega) (by omega)).mpr z))
              refine lv_aload_n hx hb d_M_ended_191 rfl (lv_at hl 2 rfl) ?_
              refine va_get (D := D) (ci := 4) (v := .ref (h 4)) (C := R_M) (T := T_M) (N := 21) hx hb hts iw_M hown hK.1 hP 0 rfl rfl 8 (by decide) (hts _ wd_372) (fun _ h9 => h9) rfl d_M_ended_192 ?_
              refine lv_iload hx hb d_M_ended_195 (lv_at hl 0 rfl) ?_
              refine lv_aload_n hx hb d_M_ended_197 rfl (lv_at hl 2 rfl) ?_
              refine lv_iload_n hx hb d_M_ended_198 rfl (lv_at hl 3 rfl) ?_
              refine lv_iload hx hb d_M_ended_199 (lv_at hl 0 rfl) ?_
              refine vp_callSi (va_runV (As := [.int (nI a), .int (nI q1)]) (rest := [.int (nI q1), .ref (h 4)]) ⟨hx, hb, hml, hown, hts⟩ (k_leadsM l D cA h most code actions isStrict (α 1) (α 2) (α 3) cw (α 4) (α 5) operations refusals triedMany tried (α 11) isThere (α 13) wasThere u_6 n α na L hI a (by omega) q1 (by omega)) (cwV 2 hts (sx_GV wd_487 wd_489 ws_17 wd_5 wd_490) rfl rfl rfl (by decide +kernel) ⟨Nat.le_of_ble_eq_true rfl, Nat.le_of_ble_eq_true rfl⟩) (sx_preV hK hP (va_recv hK.1 hP (ci := 4) (q0 := 0) rfl rfl)) rfl rfl hl.1 rfl (lv_room (Nat.le_of_ble_eq_true rfl)) d_M_ended_201 ⟨Nat.le_of_ble_eq_true rfl, Nat.le_of_ble_eq_true rfl⟩).run (fun r_18 hr_17 => ?_)
              subst hr_17
              refine va_iast hx hb hK.1 hP hD hS 4 0 rfl rfl (vp_in_nI (by omega) (by decide)) d_M_ended_204 (fun H locs hP hD hS => ?_)
              rw [nI_clamp (by omega)] at hP hD
              have hP : va_P D vwCl (wM cA h most code (nI n) actions isStrict (α 1) (α 2) (α 3) (upd cw q1 (sx_lead α a q1)) (α 4) (α 5) operations refusals triedMany tried (α 10) (α 11) isThere (α 13) wasThere u_6) H := hP
              have hD : va_D A (wM cA h most code (nI n) actions isStrict (α 1) (α 2) (α 3) (upd cw q1 (sx_lead α a q1)) (α 4) (α 5) operations refusals triedMany tried (α 10) (α 11) isThere (α 13) wasThere u_6) := hD
              refine lv_iinc (v := nI (q1 + 1)) (lv' := [(5, .int (nI (q1 + 1))), (4, .int (nI 0)), (0, .ref (h 0)), (1, .int (nI a)), (2, .int (sx_bI fl))]) hx hb d_M_ended_205 hl (k := 0) rfl (nI_1 q1) (by decide) rfl (fun ls hl => ?_)
              refine lv_goto (tgt := 182) hx hb d_M_ended_208 (by decide) ?_
              exact ih_182 (q1 + 1, upd cw q1 (sx_lead α a q1)) (⟨by omega, sx_cmeS hcw⟩) (by omega) ls _ _ (lv_sub hl [0, 1, 2, 3, 4] rfl) hP hD hS
          · have c_10 : p < n := Nat.not_le.mp (fun z => c_10 ((nI_leI (by omega) (by omega)).mpr z))
            refine lv_aload_n hx hb d_M_ended_136 rfl (lv_at hl 1 rfl) ?_
            refine va_get (D := D) (ci := 4) (v := .ref (h 16)) (C := R_M) (T := T_M) (N := 21) hx hb hts iw_M hown hK.1 hP 0 rfl rfl 20 (by decide) (hts _ wd_384) (fun _ h9 => h9) rfl d_M_ended_137 ?_
            refine lv_iload hx hb d_M_ended_140 (lv_at hl 0 rfl) ?_
            refine va_zald hx hb hK.1 hP 16 1 rfl rfl (vp_in_nI (by omega) (by decide)) d_M_ended_142 ?_
            refine sx_asi (congrArg u_6 (nI_clamp (by omega))) ?_
            refine sx_asi (hmk p (by omega)) ?_
            refine lv_if_eq (tgt := 170) hx hb d_M_ended_143 (by decide) (fun c_19 => ?_) (fun c_19 => ?_)
            · have c_19 : (sx_mk n α a p) = false := sx_bI0 c_19
              refine lv_iinc (v := nI (p + 1)) (lv' := [(4, .int (nI (p + 1))), (0, .ref (h 0)), (1, .int (nI a)), (2, .int (sx_bI fl))]) hx hb d_M_ended_170 hl (k := 0) rfl (nI_1 p) (by decide) rfl (fun ls hl => ?_)
              refine lv_goto (tgt := 127) hx hb d_M_ended_173 (by decide) ?_
              exact ih_127 (p + 1) (⟨by omega, by omega, sx_any_s hwy (sx_wayF_0 (Or.inl c_19))⟩) (by omega) ls (lv_sub hl [0, 1, 2, 3] rfl)
            · have c_19 : (sx_mk n α a p) = true := sx_bIn c_19
              refine lv_aload_n hx hb d_M_ended_146 rfl (lv_at hl 1 rfl) ?_
              refine va_get (D := D) (ci := 4) (v := .ref (h 3)) (C := R_M) (T := T_M) (N := 21) hx hb hts iw_M hown hK.1 hP 0 rfl rfl 7 (by decide) (hts _ wd_371) (fun _ h9 => h9) rfl d_M_ended_147 ?_
              refine lv_iload hx hb d_M_ended_150 (lv_at hl 0 rfl) ?_
              refine va_iald hx hb hK.1 hP 3 0 rfl rfl (vp_in_nI (by omega) (by decide)) d_M_ended_152 ?_
              refine sx_asi (congrArg (α 3) (nI_clamp (by omega))) ?_
              refine lv_if_le (tgt := 170) hx hb d_M_ended_153 (by decide) (fun c_20 => ?_) (fun c_20 => ?_)
              · refine lv_iinc (v := nI (p + 1)) (lv' := [(4, .int (nI (p + 1))), (0, .ref (h 0)), (1, .int (nI a)), (2, .int (sx_bI fl))]) hx hb d_M_ended_170 hl (k := 0) rfl (nI_1 p) (by decide) rfl (fun ls hl => ?_)
                refine lv_goto (tgt := 127) hx hb d_M_ended_173 (by decide) ?_
                exact ih_127 (p + 1) (⟨by omega, by omega, sx_any_s hwy (sx_wayF_0 (Or.inr (Or.inl c_20)))⟩) (by omega) ls (lv_sub hl [0, 1, 2, 3] rfl)
              · refine lv_aload_n hx hb d_M_ended_156 rfl (lv_at hl 1 rfl) ?_
                refine lv_iload_n hx hb d_M_ended_157 rfl (lv_at hl 2 rfl) ?_
                refine lv_iload hx hb d_M_ended_158 (lv_at hl 0 rfl) ?_
                refine lv_iconst (v := nI 1) hx hb d_M_ended_160 (by decide +kernel) ?_
                refine sx_asi (y := sx_bI true) rfl ?_
                refine vp_callSi (va_runV (As := [.int (nI a), .int (nI p), .int (sx_bI true)]) (rest := []) ⟨hx, hb, hml, hown, hts⟩ (k_isDecl l D cA h most code actions isStrict (α 2) (α 3) come operations refusals triedMany tried (α 10) isThere (α 13) wasThere u_6 n α na L hI a (by omega) p (by omega) true) (cwV 3 hts (sx_GV wd_475 wd_477 ws_15 wd_5 wd_478) rfl rfl rfl (by decide +kernel) ⟨Nat.le_of_ble_eq_true rfl, Nat.le_of_ble_eq_true rfl⟩) (sx_preV hK hP (va_recv hK.1 hP (ci := 4) (q0 := 0) rfl rfl)) rfl rfl hl.1 rfl (lv_room (Nat.le_of_ble_eq_true rfl)) d_M_ended_161 ⟨Nat.le_of_ble_eq_true rfl, Nat.le_of_ble_eq_true rfl⟩).run (fun r_22 hr_21 => ?_)
                subst hr_21
                refine lv_if_ne (tgt := 170) hx hb d_M_ended_164 (by decide) (fun c_23 => ?_) (fun c_23 => ?_)
                · have c_23 : (sx_isD α a true p) = true := sx_bIn c_23
                  refine lv_iinc (v := nI (p + 1)) (lv' := [(4, .int (nI (p + 1))), (0, .ref (h 0)), (1, .int (nI a)), (2, .int (sx_bI fl))]) hx hb d_M_ended_170 hl (k := 0) rfl (nI_1 p) (by decide) rfl (fun ls hl => ?_)
                  refine lv_goto (tgt := 127) hx hb d_M_ended_173 (by decide) ?_
                  exact ih_127 (p + 1) (⟨by omega, by omega, sx_any_s hwy (sx_wayF_0 (Or.inr (Or.inr c_23)))⟩) (by omega) ls (lv_sub hl [0, 1, 2, 3] rfl)
                · have c_23 : (sx_isD α a true p) = false := sx_bI0 c_23
                  refine lv_bipush (v := (-4)) hx hb d_M_ended_167 (by decide +kernel) ?_
                  have hway : sx_way n α a = true := sx_any_t.mpr ⟨p, by omega, by rw [sx_blt0 (by omega), c_19, decide_eq_true (Int32.not_le.mp c_20), c_23]; rfl⟩
                  have z3 : sx_finS n α a fl 3 = α 3 := by rw [z.2, c_9, hway]; rfl
                  have hP9 : va_P D vwCl (wM cA h most code (nI n) actions isStrict (α 1) (α 2) (sx_finS n α a fl 3) come (α 4) (α 5) operations refusals triedMany tried (α 10) (α 11) isThere (α 13) wasThere u_6) H := by rw [z3]; exact hP
                  have hD9 : va_D A (wM cA h most code (nI n) actions isStrict (α 1) (α 2) (sx_finS n α a fl 3) come (α 4) (α 5) operations refusals triedMany tried (α 10) (α 11) isThere (α 13) wasThere u_6) := by rw [z3]; exact hD
                  exact W.iret (v := (-4)) hx hb hr (fun t ht hW => ⟨⟨(-4), (come, u_6), rfl, (by rw [z.1, c_9, hway]; rfl), by rw [ht]; exact hP9, by rw [hAe]; exact hD9⟩, hS.F ht⟩) hS.2.2 d_M_ended_169
        · have c_9 : (sx_cl n α a) = true := sx_bIn c_9
          refine lv_bipush (v := (-3)) hx hb d_M_ended_121 (by decide +kernel) ?_
          have z3 : sx_finS n α a fl 3 = α 3 := by rw [z.2, c_9]; rfl
          have hP9 : va_P D vwCl (wM cA h most code (nI n) actions isStrict (α 1) (α 2) (sx_finS n α a fl 3) come (α 4) (α 5) operations refusals triedMany tried (α 10) (α 11) isThere (α 13) wasThere u_6) H := by rw [z3]; exact hP
          have hD9 : va_D A (wM cA h most code (nI n) actions isStrict (α 1) (α 2) (sx_finS n α a fl 3) come (α 4) (α 5) operations refusals triedMany tried (α 10) (α 11) isThere (α 13) wasThere u_6) := by rw [z3]; exact hD
          exact W.iret (v := (-3)) hx hb hr (fun t ht hW => ⟨⟨(-3), (come, u_6), rfl, (by rw [z.1, c_9]; rfl), by rw [ht]; exact hP9, by rw [hAe]; exact hD9⟩, hS.F ht⟩) hS.2.2 d_M_ended_123
      · have c_3 : k < sx_dN α a := Nat.not_le.mp (fun z => c_3 ((nI_leI (by omega) (by omega)).mpr z))
        refine lv_aload_n hx hb d_M_ended_34 rfl (lv_at hl 2 rfl) ?_
        refine va_get (D := D) (ci := 4) (v := .ref (h 12)) (C := R_M) (T := T_M) (N := 21) hx hb hts iw_M hown hK.1 hP 0 rfl rfl 16 (by decide) (hts _ wd_380) (fun _ h9 => h9) rfl d_M_ended_35 ?_
        refine lv_bipush (v := nI 12) hx hb d_M_ended_38 (by decide +kernel) ?_
        refine lv_iload_n hx hb d_M_ended_40 rfl (lv_at hl 3 rfl) ?_
        refine lv_imul hx hb d_M_ended_41 ?_
        refine sx_asi (y := nI (12 * a)) (pk_mul 12 a) ?_
        refine lv_iload hx hb d_M_ended_42 (lv_at hl 0 rfl) ?_
        refine lv_iadd hx hb d_M_ended_44 ?_
        refine sx_asi (y := nI (12 * a + k)) (nI_add (12 * a) k) ?_
        refine va_zald hx hb hK.1 hP 12 1 rfl rfl (vp_in_nI (by omega) (by decide)) d_M_ended_45 ?_
        refine sx_asi (congrArg (α 11) (nI_clamp (by omega))) ?_
        refine lv_if_ne (tgt := 52) hx hb d_M_ended_46 (by decide) (fun c_24 => ?_) (fun c_24 => ?_)
        · refine lv_aload_n hx hb d_M_ended_52 rfl (lv_at hl 2 rfl) ?_
          refine va_get (D := D) (ci := 4) (v := .ref (h 6)) (C := R_M) (T := T_M) (N := 21) hx hb hts iw_M hown hK.1 hP 0 rfl rfl 10 (by decide) (hts _ wd_374) (fun _ h9 => h9) rfl d_M_ended_53 ?_
          refine lv_bipush (v := nI 12) hx hb d_M_ended_56 (by decide +kernel) ?_
          refine lv_iload_n hx hb d_M_ended_58 rfl (lv_at hl 3 rfl) ?_
          refine lv_imul hx hb d_M_ended_59 ?_
          refine sx_asi (y := nI (12 * a)) (pk_mul 12 a) ?_
          refine lv_iload hx hb d_M_ended_60 (lv_at hl 0 rfl) ?_
          refine lv_iadd hx hb d_M_ended_62 ?_
          refine sx_asi (y := nI (12 * a + k)) (nI_add (12 * a) k) ?_
          refine va_iald hx hb hK.1 hP 6 0 rfl rfl (vp_in_nI (by omega) (by decide)) d_M_ended_63 ?_
          refine sx_asi (congrArg (α 5) (nI_clamp (by omega))) ?_
          obtain ⟨dp1, dp2, dp3⟩ := sx_dp_ok hn31 hAc (show k < sx_dN α a by omega)
          refine sx_asi dp3 ?_
          refine lv_istore (lv' := [(5, .int (nI (sx_dp α a k))), (4, .int (nI k)), (3, .int (nI pl)), (0, .ref (h 0)), (1, .int (nI a)), (2, .int (sx_bI fl))]) hx hb d_M_ended_64 hl (by decide) rfl (fun ls hl => ?_)
          refine lv_aload_n hx hb d_M_ended_66 rfl (lv_at hl 3 rfl) ?_
          refine lv_iload_n hx hb d_M_ended_67 rfl (lv_at hl 4 rfl) ?_
          refine lv_iload hx hb d_M_ended_68 (lv_at hl 0 rfl) ?_
          refine vp_callSi (va_runV (As := [.int (nI a), .int (nI (sx_dp α a k))]) (rest := []) ⟨hx, hb, hml, hown, hts⟩ (k_hasU l D cA h most code actions isStrict (α 2) (α 3) come (α 4) (α 5) operations refusals triedMany tried (α 11) isThere (α 13) wasThere marked n α na L hI a (by omega) (sx_dp α a k) (by omega)) (cwV 2 hts (sx_GV wd_526 wd_528 ws_22 wd_5 wd_529) rfl rfl rfl (by decide +kernel) ⟨Nat.le_of_ble_eq_true rfl, Nat.le_of_ble_eq_true rfl⟩) (sx_preV hK hP (va_recv hK.1 hP (ci := 4) (q0 := 0) rfl rfl)) rfl rfl hl.1 rfl (lv_room (Nat.le_of_ble_eq_true rfl)) d_M_ended_70 ⟨Nat.le_of_ble_eq_true rfl, Nat.le_of_ble_eq_true rfl⟩).run (fun r_26 hr_25 => ?_)
          subst hr_25
          refine lv_if_ne (tgt := 83) hx hb d_M_ended_73 (by decide) (fun c_27 => ?_) (fun c_27 => ?_)
          · have c_27 : (sx_hu n α a (sx_dp α a k)) = true := sx_bIn c_27
            refine lv_aload_n hx hb d_M_ended_83 rfl (lv_at hl 3 rfl) ?_
            refine lv_iload_n hx hb d_M_ended_84 rfl (lv_at hl 4 rfl) ?_
            refine lv_iload hx hb d_M_ended_85 (lv_at hl 0 rfl) ?_
            refine vp_callSi (va_runV (As := [.int (nI a), .int (nI (sx_dp α a k))]) (rest := []) ⟨hx, hb, hml, hown, hts⟩ (k_looseM l D cA h most code actions isStrict (α 2) (α 3) come (α 4) (α 5) operations refusals triedMany tried (α 11) isThere (α 13) wasThere marked n α na L hI a (by omega) (sx_dp α a k) (by omega)) (cwV 2 hts (sx_GV wd_538 wd_540 ws_24 wd_5 wd_541) rfl rfl rfl (by decide +kernel) ⟨Nat.le_of_ble_eq_true rfl, Nat.le_of_ble_eq_true rfl⟩) (sx_preV hK hP (va_recv hK.1 hP (ci := 4) (q0 := 0) rfl rfl)) rfl rfl hl.1 rfl (lv_room (Nat.le_of_ble_eq_true rfl)) d_M_ended_87 ⟨Nat.le_of_ble_eq_true rfl, Nat.le_of_ble_eq_true rfl⟩).run (fun r_29 hr_28 => ?_)
            subst hr_28
            refine lv_if_eq (tgt := 100) hx hb d_M_ended_90 (by decide) (fun c_30 => ?_) (fun c_30 => ?_)
            · have c_30 : (sx_loose n α a (sx_dp α a k)) = false := sx_bI0 c_30
              refine lv_iinc (v := nI (pl + 1)) (lv' := [(3, .int (nI (pl + 1))), (5, .int (nI (sx_dp α a k))), (4, .int (nI k)), (0, .ref (h 0)), (1, .int (nI a)), (2, .int (sx_bI fl))]) hx hb d_M_ended_100 hl (k := 2) rfl (nI_1 pl) (by decide) rfl (fun ls hl => ?_)
              refine lv_iinc (v := nI (k + 1)) (lv' := [(4, .int (nI (k + 1))), (3, .int (nI (pl + 1))), (5, .int (nI (sx_dp α a k))), (0, .ref (h 0)), (1, .int (nI a)), (2, .int (sx_bI fl))]) hx hb d_M_ended_103 hl (k := 2) rfl (nI_1 k) (by decide) rfl (fun ls hl => ?_)
              refine lv_goto (tgt := 23) hx hb d_M_ended_106 (by decide) ?_
              exact ih_23 (k + 1, pl + 1) (⟨by omega, by omega, by rw [hpf, sx_fl_step (by omega), decide_eq_false c_24, c_27, c_30]; rfl⟩) (by omega) ls (lv_sub hl [0, 1, 3, 4, 5] rfl)
            · have c_30 : (sx_loose n α a (sx_dp α a k)) = true := sx_bIn c_30
              refine lv_bipush (v := (-11)) hx hb d_M_ended_93 (by decide +kernel) ?_
              refine lv_iconst (v := nI 2) hx hb d_M_ended_95 (by decide +kernel) ?_
              refine lv_iload_n hx hb d_M_ended_96 rfl (lv_at hl 2 rfl) ?_
              refine lv_imul hx hb d_M_ended_97 ?_
              refine sx_asi (y := nI (2 * pl)) (pk_mul 2 pl) ?_
              refine lv_isub hx hb d_M_ended_98 ?_
              have hfl : sx_fl n α a (sx_dN α a) 0 0 = -11 - nI (2 * pl) := by rw [hpf, sx_fl_step (by omega), decide_eq_false c_24, c_27, c_30, sx_two]; rfl
              have hfn : ¬ sx_fl n α a (sx_dN α a) 0 0 = 0 := by rw [hfl, sx_two]; exact sx_neg_ne (b := 11) (by decide) (by decide) (by decide) (by omega)
              have z := sx_fin_l (n := n) hth c_1 c_2 hfn
              have z3 : sx_finS n α a fl 3 = α 3 := by rw [z.2]; rfl
              have hP9 : va_P D vwCl (wM cA h most code (nI n) actions isStrict (α 1) (α 2) (sx_finS n α a fl 3) come (α 4) (α 5) operations refusals triedMany tried (α 10) (α 11) isThere (α 13) wasThere marked) s.heap := by rw [z3]; exact hP
              have hD9 : va_D A (wM cA h most code (nI n) actions isStrict (α 1) (α 2) (sx_finS n α a fl 3) come (α 4) (α 5) operations refusals triedMany tried (α 10) (α 11) isThere (α 13) wasThere marked) := by rw [z3]; exact hD
              exact W.iret (v := (-11) - (nI (2 * pl))) hx hb hr (fun t ht hW => ⟨⟨(-11) - (nI (2 * pl)), (come, marked), rfl, (by rw [z.1, hfl]), by rw [ht]; exact hP9, by rw [hAe]; exact hD9⟩, hS.F ht⟩) hS.2.2 d_M_ended_99
          · have c_27 : (sx_hu n α a (sx_dp α a k)) = false := sx_bI0 c_27
            refine lv_bipush (v := (-10)) hx hb d_M_ended_76 (by decide +kernel) ?_
            refine lv_iconst (v := nI 2) hx hb d_M_ended_78 (by decide +kernel) ?_
            refine lv_iload_n hx hb d_M_ended_79 rfl (lv_at hl 2 rfl) ?_
            refine lv_imul hx hb d_M_ended_80 ?_
            refine sx_asi (y := nI (2 * pl)) (pk_mul 2 pl) ?_
            refine lv_isub hx hb d_M_ended_81 ?_
            have hfl : sx_fl n α a (sx_dN α a) 0 0 = -10 - nI (2 * pl) := by rw [hpf, sx_fl_step (by omega), decide_eq_false c_24, c_27, sx_two]; rfl
            have hfn : ¬ sx_fl n α a (sx_dN α a) 0 0 = 0 := by rw [hfl, sx_two]; exact sx_neg_ne (b := 10) (by decide) (by decide) (by decide) (by omega)
            have z := sx_fin_l (n := n) hth c_1 c_2 hfn
            have z3 : sx_finS n α a fl 3 = α 3 := by rw [z.2]; rfl
            have hP9 : va_P D vwCl (wM cA h most code (nI n) actions isStrict (α 1) (α 2) (sx_finS n α a fl 3) come (α 4) (α 5) operations refusals triedMany tried (α 10) (α 11) isThere (α 13) wasThere marked) s.heap := by rw [z3]; exact hP
            have hD9 : va_D A (wM cA h most code (nI n) actions isStrict (α 1) (α 2) (sx_finS n α a fl 3) come (α 4) (α 5) operations refusals triedMany tried (α 10) (α 11) isThere (α 13) wasThere marked) := by rw [z3]; exact hD
            exact W.iret (v := (-10) - (nI (2 * pl))) hx hb hr (fun t ht hW => ⟨⟨(-10) - (nI (2 * pl)), (come, marked), rfl, (by rw [z.1, hfl]), by rw [ht]; exact hP9, by rw [hAe]; exact hD9⟩, hS.F ht⟩) hS.2.2 d_M_ended_82
        · refine lv_goto (tgt := 103) hx hb d_M_ended_49 (by decide) ?_
          refine lv_iinc (v := nI (k + 1)) (lv' := [(4, .int (nI (k + 1))), (3, .int (nI pl)), (0, .ref (h 0)), (1, .int (nI a)), (2, .int (sx_bI fl))]) hx hb d_M_ended_103 hl (k := 0) rfl (nI_1 k) (by decide) rfl (fun ls hl => ?_)
          refine lv_goto (tgt := 23) hx hb d_M_ended_106 (by decide) ?_
          exact ih_23 (k + 1, pl) (⟨by omega, by omega, by rw [hpf, sx_fl_step (by omega), decide_eq_true c_24]; rfl⟩) (by omega) ls (lv_sub hl [0, 1, 2, 3, 4] rfl)
    · have c_2 : (sx_fb α 13 a) = true := sx_bIn c_2
      refine lv_bipush (v := (-2)) hx hb d_M_ended_15 (by decide +kernel) ?_
      have z := sx_fin_b (n := n) hth c_1 c_2
      have z3 : sx_finS n α a fl 3 = α 3 := by rw [z.2]; rfl
      have hP9 : va_P D vwCl (wM cA h most code (nI n) actions isStrict (α 1) (α 2) (sx_finS n α a fl 3) come (α 4) (α 5) operations refusals triedMany tried (α 10) (α 11) isThere (α 13) wasThere marked) s.heap := by rw [z3]; exact hP
      have hD9 : va_D A (wM cA h most code (nI n) actions isStrict (α 1) (α 2) (sx_finS n α a fl 3) come (α 4) (α 5) operations refusals triedMany tried (α 10) (α 11) isThere (α 13) wasThere marked) := by rw [z3]; exact hD
      exact W.iret (v := (-2)) hx hb hr (fun t ht hW => ⟨⟨(-2), (come, marked), rfl, by rw [z.1], by rw [ht]; exact hP9, by rw [hAe]; exact hD9⟩, hS.F ht⟩) hS.2.2 d_M_ended_17
  · have c_1 : fl = true := sx_bIn c_1
    refine lv_iconst (v := nI 0) hx hb d_M_ended_4 (by decide +kernel) ?_
    have z := sx_fin_f (n := n) hth c_1
    have z3 : sx_finS n α a fl 3 = α 3 := by rw [z.2]; rfl
    have hP9 : va_P D vwCl (wM cA h most code (nI n) actions isStrict (α 1) (α 2) (sx_finS n α a fl 3) come (α 4) (α 5) operations refusals triedMany tried (α 10) (α 11) isThere (α 13) wasThere marked) s.heap := by rw [z3]; exact hP
    have hD9 : va_D A (wM cA h most code (nI n) actions isStrict (α 1) (α 2) (sx_finS n α a fl 3) come (α 4) (α 5) operations refusals triedMany tried (α 10) (α 11) isThere (α 13) wasThere marked) := by rw [z3]; exact hD
    exact W.iret (v := nI 0) hx hb hr (fun t ht hW => ⟨⟨nI 0, (come, marked), rfl, by rw [z.1], by rw [ht]; exact hP9, by rw [hAe]; exact hD9⟩, hS.F ht⟩) hS.2.2 d_M_ended_5
