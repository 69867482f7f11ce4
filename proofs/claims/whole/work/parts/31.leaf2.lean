set_option maxHeartbeats 4000000 in
set_option maxRecDepth 100000 in
theorem k_above (l : Launch) (D : va_G) (cA : Nat → ClassId) (o a1 a2 a3 a4 : Nat) (n : Nat) (par ltr : Nat → Int32) (ab un : Nat → Int64) (hR : sx_RP n par ab un) (hn : n ≤ 60) (w : Int64) : Met l y_P_withAbove w_P_withAbove ({ frames := 2, cells := 0, slots := 0, locals := 42 }) (sx_Pr D cA [.ref o, .long w] (wP cA o a1 a2 a3 a4 (nI n) par ltr ab un)) (vp_Sl (fun r => ∀ q, q < 64 → sx_bt r q = sx_any (fun k => sx_bt w k && sx_U par k q) n)) 0 0 (fun _ => False) := by
  refine Met.ofW (cc := b_P_withAbove) (maxL := 6) (ret := (some .long)) (by decide) rfl ?_
  intro pG eG s m args below meth cG s₁ B hml hv
  obtain ⟨rfl, hP, hK⟩ := hv
  have hx := B.exec
  have hb := B.bytes
  have hr := B.returns
  have hts0 := atoms_spec (ws := w_P_withAbove) B.pre
  have hts : ∀ w ∈ sx_gw, w.before _ s = true := fun w h => hts0 w (List.mem_cons_of_mem _ h)
  have hown : s.vm.findClass R_P = some m.cls := findClass_of_methodNamed B.named
  have hlocks := B.notSynchronized
  have hl := lv_entry ([.ref o, .long w]) (n := 6) (Nat.le_of_ble_eq_true rfl)
  rw [lg_entry_eq]
  generalize (lg_sl ([.ref o, .long w]) ++ List.replicate (6 - (lg_sl ([.ref o, .long w])).length) Slot.unset).toArray = ls at hl ⊢
  have hl : lv_has ls 6 [(0, .ref o), (1, .long w)] := hl
  refine lv_lconst (v := 0) hx hb d_P_withAbove_0 (by decide +kernel) ?_
  refine lv_lstore_n (lv' := [(3, .long 0), (0, .ref o), (1, .long w)]) hx hb d_P_withAbove_1 rfl hl (by decide) rfl (fun ls hl => ?_)
  refine lv_iconst (v := nI 0) hx hb d_P_withAbove_2 (by decide +kernel) ?_
  refine lv_istore (lv' := [(5, .int (nI 0)), (3, .long 0), (0, .ref o), (1, .long w)]) hx hb d_P_withAbove_3 hl (by decide) rfl (fun ls hl => ?_)
  refine sx_loop (σ := Nat × Int64) (fun x => x.1 ≤ n ∧ ∀ q, q < 64 → sx_bt x.2 q = sx_any (fun k => sx_bt w k && sx_U par k q) x.1) (fun x => [(5, .int (nI x.1)), (3, .long x.2), (0, .ref o), (1, .long w)]) (fun x => n - x.1) (0, 0) (⟨Nat.zero_le _, fun q _ => sx_bt_0 q⟩) (lv_sub hl [0, 1, 2, 3] rfl) (fun x hJ ih ls hl => ?_)
  obtain ⟨i, all⟩ := x
  obtain ⟨hin, hJ⟩ := hJ
  have hl : lv_has ls 6 [(5, .int (nI i)), (3, .long all), (0, .ref o), (1, .long w)] := hl
  have ih_5 := ih
  refine lv_iload hx hb d_P_withAbove_5 (lv_at hl 0 rfl) ?_
  refine lv_aload_n hx hb d_P_withAbove_7 rfl (lv_at hl 2 rfl) ?_
  refine va_get (D := D) (ci := 1) (v := .int (nI n)) (C := R_P) (T := T_P) (N := 5) hx hb hts iw_P hown hK.1 hP 0 rfl rfl 4 (by decide) (hts _ wd_36) (fun _ h9 => h9) rfl d_P_withAbove_8 ?_
  refine lv_icmp_ge (tgt := 39) hx hb d_P_withAbove_11 (by decide) (fun c_1 => ?_) (fun c_1 => ?_)
  · have c_1 : n ≤ i := (nI_leI (by omega) (by omega)).mp c_1
    refine lv_lload_n hx hb d_P_withAbove_39 rfl (lv_at hl 1 rfl) ?_
    exact W.lret (v := all) hx hb hr (fun t ht hW => ⟨all, rfl, (by rw [show n = i by omega]; exact hJ), ht⟩) (fun _ h => by cases h) d_P_withAbove_40
  · have c_1 : i < n := Nat.not_le.mp (fun z => c_1 ((nI_leI (by omega) (by omega)).mpr z))
    refine lv_lload_n hx hb d_P_withAbove_14 rfl (lv_at hl 3 rfl) ?_
    refine lv_iload hx hb d_P_withAbove_15 (lv_at hl 0 rfl) ?_
    refine vp_callSi (va_runSN (As := [.long w, .int (nI i)]) (rest := []) ⟨hx, hb, hml, hown, hts⟩ (k_holds l D cA w i (by omega)) ⟨va_cnB 2 hts (sx_GI wd_110) rfl rfl rfl (hK.2.1 _ wd_108) (hts _ wd_1) (by decide +kernel) ⟨Nat.le_of_ble_eq_true rfl, Nat.le_of_ble_eq_true rfl⟩, hts _ wd_109, trivial⟩ (sx_preS hK (sx_P0 : va_P D vwCl [] s.heap)) rfl rfl hl.1 rfl (lv_room (Nat.le_of_ble_eq_true rfl)) d_P_withAbove_17 ⟨Nat.le_of_ble_eq_true rfl, Nat.le_of_ble_eq_true rfl⟩).run (fun r_3 hr_2 => ?_)
    subst hr_2
    refine lv_if_eq (tgt := 33) hx hb d_P_withAbove_20 (by decide) (fun c_4 => ?_) (fun c_4 => ?_)
    · have c_4 : (sx_bt w i) = false := sx_bI0 c_4
      refine lv_iinc (v := nI (i + 1)) (lv' := [(5, .int (nI (i + 1))), (3, .long all), (0, .ref o), (1, .long w)]) hx hb d_P_withAbove_33 hl (k := 0) rfl (nI_1 i) (by decide) rfl (fun ls hl => ?_)
      refine lv_goto (tgt := 5) hx hb d_P_withAbove_36 (by decide) ?_
      exact ih_5 (i + 1, all) (⟨by omega, sx_above_f c_4 hJ⟩) (by omega) ls (lv_sub hl [0, 1, 2, 3] rfl)
    · have c_4 : (sx_bt w i) = true := sx_bIn c_4
      refine lv_lload_n hx hb d_P_withAbove_23 rfl (lv_at hl 1 rfl) ?_
      refine lv_aload_n hx hb d_P_withAbove_24 rfl (lv_at hl 2 rfl) ?_
      refine va_get (D := D) (ci := 1) (v := .ref a3) (C := R_P) (T := T_P) (N := 5) hx hb hts iw_P hown hK.1 hP 0 rfl rfl 2 (by decide) (hts _ wd_34) (fun _ h9 => h9) rfl d_P_withAbove_25 ?_
      refine lv_iload hx hb d_P_withAbove_28 (lv_at hl 0 rfl) ?_
      refine va_lald hx hb hK.1 hP 3 3 rfl rfl (vp_in_nI (by omega) (by decide)) d_P_withAbove_30 ?_
      refine sx_asl (congrArg ab (nI_clamp (by omega))) ?_
      refine lv_lor hx hb d_P_withAbove_31 ?_
      refine lv_lstore_n (lv' := [(3, .long (all ||| (ab i))), (5, .int (nI i)), (0, .ref o), (1, .long w)]) hx hb d_P_withAbove_32 rfl hl (by decide) rfl (fun ls hl => ?_)
      refine lv_iinc (v := nI (i + 1)) (lv' := [(5, .int (nI (i + 1))), (3, .long (all ||| (ab i))), (0, .ref o), (1, .long w)]) hx hb d_P_withAbove_33 hl (k := 1) rfl (nI_1 i) (by decide) rfl (fun ls hl => ?_)
      refine lv_goto (tgt := 5) hx hb d_P_withAbove_36 (by decide) ?_
      exact ih_5 (i + 1, all ||| ab i) (⟨by omega, sx_above_t hR (by omega) c_4 hJ⟩) (by omega) ls (lv_sub hl [0, 1, 2, 3] rfl)

set_option maxHeartbeats 4000000 in
set_option maxRecDepth 100000 in
theorem k_clash (l : Launch) (D : va_G) (cA : Nat → ClassId) (o a1 a2 a3 a4 : Nat) (n : Nat) (α : sx_A) (ab un : Nat → Int64) (h1 : 1 ≤ n) (hn : n ≤ 60) (hDI : sx_DI n α) (w : Int64) : Met l y_P_hasClash w_P_hasClash ({ frames := 2, cells := 0, slots := 0, locals := 42 }) (sx_Pr D cA [.ref o, .long w] (wP cA o a1 a2 a3 a4 (nI n) (α 1) (α 2) ab un)) (vp_Si (fun r => r = sx_bI (sx_any (sx_clF n α w) n))) 0 0 (fun _ => False) := by
  refine Met.ofW (cc := b_P_hasClash) (maxL := 5) (ret := (some .boolean)) (by decide) rfl ?_
  intro pG eG s m args below meth cG s₁ B hml hv
  obtain ⟨rfl, hP, hK⟩ := hv
  have hx := B.exec
  have hb := B.bytes
  have hr := B.returns
  have hts0 := atoms_spec (ws := w_P_hasClash) B.pre
  have hts : ∀ w ∈ sx_gw, w.before _ s = true := fun w h => hts0 w (List.mem_cons_of_mem _ h)
  have hown : s.vm.findClass R_P = some m.cls := findClass_of_methodNamed B.named
  have hlocks := B.notSynchronized
  have hl := lv_entry ([.ref o, .long w]) (n := 5) (Nat.le_of_ble_eq_true rfl)
  rw [lg_entry_eq]
  generalize (lg_sl ([.ref o, .long w]) ++ List.replicate (5 - (lg_sl ([.ref o, .long w])).length) Slot.unset).toArray = ls at hl ⊢
  have hl : lv_has ls 5 [(0, .ref o), (1, .long w)] := hl
  refine lv_iconst (v := nI 1) hx hb d_P_hasClash_0 (by decide +kernel) ?_
  refine lv_istore_n (lv' := [(3, .int (nI 1)), (0, .ref o), (1, .long w)]) hx hb d_P_hasClash_1 rfl hl (by decide) rfl (fun ls hl => ?_)
  refine sx_loop (σ := Nat) (fun x => 1 ≤ x ∧ x ≤ n ∧ sx_any (sx_clF n α w) x = false) (fun x => [(3, .int (nI x)), (0, .ref o), (1, .long w)]) (fun x => n - x) 1 (⟨by omega, by omega, rfl⟩) (lv_sub hl [0, 1, 2] rfl) (fun x hJ ih ls hl => ?_)
  obtain ⟨i, rfl⟩ : ∃ y, y = x := ⟨_, rfl⟩
  obtain ⟨hi1, hin, hJ⟩ := hJ
  have hl : lv_has ls 5 [(3, .int (nI i)), (0, .ref o), (1, .long w)] := hl
  have ih_2 := ih
  refine lv_iload_n hx hb d_P_hasClash_2 rfl (lv_at hl 0 rfl) ?_
  refine lv_aload_n hx hb d_P_hasClash_3 rfl (lv_at hl 1 rfl) ?_
  refine va_get (D := D) (ci := 1) (v := .int (nI n)) (C := R_P) (T := T_P) (N := 5) hx hb hts iw_P hown hK.1 hP 0 rfl rfl 4 (by decide) (hts _ wd_36) (fun _ h9 => h9) rfl d_P_hasClash_4 ?_
  refine lv_icmp_ge (tgt := 63) hx hb d_P_hasClash_7 (by decide) (fun c_1 => ?_) (fun c_1 => ?_)
  · have c_1 : n ≤ i := (nI_leI (by omega) (by omega)).mp c_1
    refine lv_iconst (v := nI 0) hx hb d_P_hasClash_63 (by decide +kernel) ?_
    exact W.zret (v := nI 0) (ty := .boolean) hx hb hr (by decide +kernel) (fun t ht hW => ⟨nI 0, rfl, sx_b0 (by rw [show n = i by omega]; rw [show n = i by omega] at hJ; exact hJ), ht⟩) (fun _ h => by cases h) d_P_hasClash_64
  · have c_1 : i < n := Nat.not_le.mp (fun z => c_1 ((nI_leI (by omega) (by omega)).mpr z))
    refine lv_lload_n hx hb d_P_hasClash_10 rfl (lv_at hl 2 rfl) ?_
    refine lv_iload_n hx hb d_P_hasClash_11 rfl (lv_at hl 0 rfl) ?_
    refine vp_callSi (va_runSN (As := [.long w, .int (nI i)]) (rest := []) ⟨hx, hb, hml, hown, hts⟩ (k_holds l D cA w i (by omega)) ⟨va_cnB 2 hts (sx_GI wd_110) rfl rfl rfl (hK.2.1 _ wd_108) (hts _ wd_1) (by decide +kernel) ⟨Nat.le_of_ble_eq_true rfl, Nat.le_of_ble_eq_true rfl⟩, hts _ wd_109, trivial⟩ (sx_preS hK (sx_P0 : va_P D vwCl [] s.heap)) rfl rfl hl.1 rfl (lv_room (Nat.le_of_ble_eq_true rfl)) d_P_hasClash_12 ⟨Nat.le_of_ble_eq_true rfl, Nat.le_of_ble_eq_true rfl⟩).run (fun r_3 hr_2 => ?_)
    subst hr_2
    refine lv_if_eq (tgt := 57) hx hb d_P_hasClash_15 (by decide) (fun c_4 => ?_) (fun c_4 => ?_)
    · have c_4 : (sx_bt w i) = false := sx_bI0 c_4
      refine lv_iinc (v := nI (i + 1)) (lv' := [(3, .int (nI (i + 1))), (0, .ref o), (1, .long w)]) hx hb d_P_hasClash_57 hl (k := 0) rfl (nI_1 i) (by decide) rfl (fun ls hl => ?_)
      refine lv_goto (tgt := 2) hx hb d_P_hasClash_60 (by decide) ?_
      exact ih_2 (i + 1) (⟨by omega, by omega, sx_any_s hJ (sx_clF_f1 c_4)⟩) (by omega) ls (lv_sub hl [0, 1, 2] rfl)
    · have c_4 : (sx_bt w i) = true := sx_bIn c_4
      refine lv_aload_n hx hb d_P_hasClash_18 rfl (lv_at hl 1 rfl) ?_
      refine lv_aload_n hx hb d_P_hasClash_19 rfl (lv_at hl 1 rfl) ?_
      refine va_get (D := D) (ci := 1) (v := .ref a1) (C := R_P) (T := T_P) (N := 5) hx hb hts iw_P hown hK.1 hP 0 rfl rfl 0 (by decide) (hts _ wd_32) (fun _ h9 => h9) rfl d_P_hasClash_20 ?_
      refine lv_iload_n hx hb d_P_hasClash_23 rfl (lv_at hl 0 rfl) ?_
      refine va_iald hx hb hK.1 hP 1 0 rfl rfl (vp_in_nI (by omega) (by decide)) d_P_hasClash_24 ?_
      refine sx_asi (congrArg (α 1) (nI_clamp (by omega))) ?_
      refine lv_aload_n hx hb d_P_hasClash_25 rfl (lv_at hl 1 rfl) ?_
      refine va_get (D := D) (ci := 1) (v := .ref a2) (C := R_P) (T := T_P) (N := 5) hx hb hts iw_P hown hK.1 hP 0 rfl rfl 1 (by decide) (hts _ wd_33) (fun _ h9 => h9) rfl d_P_hasClash_26 ?_
      refine lv_iload_n hx hb d_P_hasClash_29 rfl (lv_at hl 0 rfl) ?_
      refine va_cald hx hb hK.1 hP 2 2 rfl rfl (vp_in_nI (by omega) (by decide)) d_P_hasClash_30 ?_
      refine sx_asi (congrArg (α 2) (nI_clamp (by omega))) ?_
      refine lv_bipush (v := nI 32) hx hb d_P_hasClash_31 (by decide +kernel) ?_
      refine lv_ixor hx hb d_P_hasClash_33 ?_
      refine lv_i2c (v := sx_tw (α 2 i)) hx hb d_P_hasClash_34 rfl ?_
      refine vp_callSi (va_runV (As := [.int ((α 1) i), .int (sx_tw (α 2 i))]) (rest := []) ⟨hx, hb, hml, hown, hts⟩ (k_find l D cA o a1 a2 a3 a4 n α ab un (by omega) (by omega) hDI ((α 1) i) (sx_tw (α 2 i))) (cwV 2 hts (sx_GV wd_346 wd_100 wd_101 wd_3 wd_102) rfl rfl rfl (by decide +kernel) ⟨Nat.le_of_ble_eq_true rfl, Nat.le_of_ble_eq_true rfl⟩) (sx_preV hK hP (va_recv hK.1 hP (ci := 1) (q0 := 0) rfl rfl)) rfl rfl hl.1 rfl (lv_room (Nat.le_of_ble_eq_true rfl)) d_P_hasClash_35 ⟨Nat.le_of_ble_eq_true rfl, Nat.le_of_ble_eq_true rfl⟩).run (fun r_6 hr_5 => ?_)
      subst hr_5
      refine lv_istore (lv' := [(4, .int (sx_ch α ((α 1) i) (sx_tw (α 2 i)) n)), (3, .int (nI i)), (0, .ref o), (1, .long w)]) hx hb d_P_hasClash_38 hl (by decide) rfl (fun ls hl => ?_)
      refine lv_iload hx hb d_P_hasClash_40 (lv_at hl 0 rfl) ?_
      refine lv_iconst (v := (-1)) hx hb d_P_hasClash_42 (by decide +kernel) ?_
      refine lv_icmp_eq (tgt := 57) hx hb d_P_hasClash_43 (by decide) (fun c_7 => ?_) (fun c_7 => ?_)
      · refine lv_iinc (v := nI (i + 1)) (lv' := [(3, .int (nI (i + 1))), (4, .int (sx_ch α ((α 1) i) (sx_tw (α 2 i)) n)), (0, .ref o), (1, .long w)]) hx hb d_P_hasClash_57 hl (k := 1) rfl (nI_1 i) (by decide) rfl (fun ls hl => ?_)
        refine lv_goto (tgt := 2) hx hb d_P_hasClash_60 (by decide) ?_
        exact ih_2 (i + 1) (⟨by omega, by omega, sx_any_s hJ (sx_clF_f2 c_7)⟩) (by omega) ls (lv_sub hl [0, 2, 3] rfl)
      · obtain ⟨k, k0, k1, ek⟩ := sx_ch_pos (by omega) c_7
        rw [ek] at hl
        have hl : lv_has ls 5 [(4, .int (nI k)), (3, .int (nI i)), (0, .ref o), (1, .long w)] := hl
        refine lv_lload_n hx hb d_P_hasClash_46 rfl (lv_at hl 3 rfl) ?_
        refine lv_iload hx hb d_P_hasClash_47 (lv_at hl 0 rfl) ?_
        refine vp_callSi (va_runSN (As := [.long w, .int (nI k)]) (rest := []) ⟨hx, hb, hml, hown, hts⟩ (k_holds l D cA w k (by omega)) ⟨va_cnB 2 hts (sx_GI wd_110) rfl rfl rfl (hK.2.1 _ wd_108) (hts _ wd_1) (by decide +kernel) ⟨Nat.le_of_ble_eq_true rfl, Nat.le_of_ble_eq_true rfl⟩, hts _ wd_109, trivial⟩ (sx_preS hK (sx_P0 : va_P D vwCl [] s.heap)) rfl rfl hl.1 rfl (lv_room (Nat.le_of_ble_eq_true rfl)) d_P_hasClash_49 ⟨Nat.le_of_ble_eq_true rfl, Nat.le_of_ble_eq_true rfl⟩).run (fun r_9 hr_8 => ?_)
        subst hr_8
        refine lv_if_eq (tgt := 57) hx hb d_P_hasClash_52 (by decide) (fun c_10 => ?_) (fun c_10 => ?_)
        · have c_10 : (sx_bt w k) = false := sx_bI0 c_10
          refine lv_iinc (v := nI (i + 1)) (lv' := [(3, .int (nI (i + 1))), (4, .int (nI k)), (0, .ref o), (1, .long w)]) hx hb d_P_hasClash_57 hl (k := 1) rfl (nI_1 i) (by decide) rfl (fun ls hl => ?_)
          refine lv_goto (tgt := 2) hx hb d_P_hasClash_60 (by decide) ?_
          exact ih_2 (i + 1) (⟨by omega, by omega, sx_any_s hJ (sx_clF_f3 (by omega) k1 ek c_10)⟩) (by omega) ls (lv_sub hl [0, 2, 3] rfl)
        · have c_10 : (sx_bt w k) = true := sx_bIn c_10
          refine lv_iconst (v := nI 1) hx hb d_P_hasClash_55 (by decide +kernel) ?_
          exact W.zret (v := nI 1) (ty := .boolean) hx hb hr (by decide +kernel) (fun t ht hW => ⟨nI 1, rfl, sx_b1 (sx_any_t.mpr ⟨i, by omega, sx_clF_t (by omega) (by omega) c_4 k1 ek c_10⟩), ht⟩) (fun _ h => by cases h) d_P_hasClash_56

set_option maxHeartbeats 4000000 in
set_option maxRecDepth 100000 in
theorem k_letter (l : Launch) (D : va_G) (cA : Nat → ClassId) (o a1 a2 a3 a4 : Nat) (n : Nat) (α : sx_A) (ab un : Nat → Int64) (h1 : 1 ≤ n) (hn : n ≤ 60) (hLT : sx_LT n α) (pp : Int32) (w : Int64) (ii : Int32) : Met l y_P_letterInFolder w_P_letterInFolder ({ frames := 0, cells := 0, slots := 0, locals := 0 }) (sx_Pr D cA [.ref o, .int pp, .long w, .int ii] (wP cA o a1 a2 a3 a4 (nI n) (α 1) (α 2) ab un)) (vp_Si (fun r => r = sx_pick (fun c => sx_any (sx_lsF n α un pp w c) n) 58 65 ii)) 0 0 (fun _ => False) := by
  refine Met.ofW (cc := b_P_letterInFolder) (maxL := 9) (ret := (some .int)) (by decide) rfl ?_
  intro pG eG s m args below meth cG s₁ B hml hv
  obtain ⟨rfl, hP, hK⟩ := hv
  have hx := B.exec
  have hb := B.bytes
  have hr := B.returns
  have hts0 := atoms_spec (ws := w_P_letterInFolder) B.pre
  have hts : ∀ w ∈ sx_gw, w.before _ s = true := fun w h => hts0 w (List.mem_cons_of_mem _ h)
  have hown : s.vm.findClass R_P = some m.cls := findClass_of_methodNamed B.named
  have hlocks := B.notSynchronized
  have hl := lv_entry ([.ref o, .int pp, .long w, .int ii]) (n := 9) (Nat.le_of_ble_eq_true rfl)
  rw [lg_entry_eq]
  generalize (lg_sl ([.ref o, .int pp, .long w, .int ii]) ++ List.replicate (9 - (lg_sl ([.ref o, .int pp, .long w, .int ii])).length) Slot.unset).toArray = ls at hl ⊢
  have hl : lv_has ls 9 [(0, .ref o), (1, .int pp), (2, .long w), (4, .int ii)] := hl
  refine lv_lconst (v := 0) hx hb d_P_letterInFolder_0 (by decide +kernel) ?_
  refine lv_lstore (lv' := [(5, .long 0), (0, .ref o), (1, .int pp), (2, .long w), (4, .int ii)]) hx hb d_P_letterInFolder_1 hl (by decide) rfl (fun ls hl => ?_)
  refine lv_iconst (v := nI 1) hx hb d_P_letterInFolder_3 (by decide +kernel) ?_
  refine lv_istore (lv' := [(7, .int (nI 1)), (5, .long 0), (0, .ref o), (1, .int pp), (2, .long w), (4, .int ii)]) hx hb d_P_letterInFolder_4 hl (by decide) rfl (fun ls hl => ?_)
  refine sx_loop (σ := Nat × Int64) (fun x => 1 ≤ x.1 ∧ x.1 ≤ n ∧ ∀ b, b < 64 → sx_bt x.2 b = sx_any (sx_lsF n α un pp w (65 + b)) x.1) (fun x => [(7, .int (nI x.1)), (5, .long x.2), (0, .ref o), (1, .int pp), (2, .long w), (4, .int ii)]) (fun x => n - x.1) (1, 0) (⟨by omega, by omega, fun b _ => by rw [sx_bt_0]; rfl⟩) (lv_sub hl [0, 1, 2, 3, 4, 5] rfl) (fun x hJ ih ls hl => ?_)
  obtain ⟨x, codes⟩ := x
  obtain ⟨hx1, hxn, hJ⟩ := hJ
  have hl : lv_has ls 9 [(7, .int (nI x)), (5, .long codes), (0, .ref o), (1, .int pp), (2, .long w), (4, .int ii)] := hl
  have ih_6 := ih
  refine lv_iload hx hb d_P_letterInFolder_6 (lv_at hl 0 rfl) ?_
  refine lv_aload_n hx hb d_P_letterInFolder_8 rfl (lv_at hl 2 rfl) ?_
  refine va_get (D := D) (ci := 1) (v := .int (nI n)) (C := R_P) (T := T_P) (N := 5) hx hb hts iw_P hown hK.1 hP 0 rfl rfl 4 (by decide) (hts _ wd_36) (fun _ h9 => h9) rfl d_P_letterInFolder_9 ?_
  refine lv_icmp_ge (tgt := 63) hx hb d_P_letterInFolder_12 (by decide) (fun c_1 => ?_) (fun c_1 => ?_)
  · have c_1 : n ≤ x := (nI_leI (by omega) (by omega)).mp c_1
    refine lv_iconst (v := nI 0) hx hb d_P_letterInFolder_63 (by decide +kernel) ?_
    refine lv_istore (lv' := [(7, .int (nI 0)), (5, .long codes), (0, .ref o), (1, .int pp), (2, .long w), (4, .int ii)]) hx hb d_P_letterInFolder_64 hl (by decide) rfl (fun ls hl => ?_)
    refine lv_iconst (v := nI 0) hx hb d_P_letterInFolder_66 (by decide +kernel) ?_
    refine lv_istore (lv' := [(8, .int (nI 0)), (7, .int (nI 0)), (5, .long codes), (0, .ref o), (1, .int pp), (2, .long w), (4, .int ii)]) hx hb d_P_letterInFolder_67 hl (by decide) rfl (fun ls hl => ?_)
    have hq : ∀ d, d < 58 → sx_any (sx_lsF n α un pp w (65 + d)) n = sx_bt codes d := fun d hd => by rw [hJ d (by omega), show n = x by omega]
    refine sx_loop (σ := Nat × Nat) (fun x => x.1 ≤ 58 ∧ x.2 ≤ x.1 ∧ sx_pick (fun c => sx_any (sx_lsF n α un pp w c) n) 58 65 ii = sx_pick (fun c => sx_any (sx_lsF n α un pp w c) n) (58 - x.1) (65 + x.1) (ii - nI x.2)) (fun x => [(8, .int (nI x.1)), (7, .int (nI x.2)), (5, .long codes), (0, .ref o), (1, .int pp), (2, .long w), (4, .int ii)]) (fun x => 58 - x.1) (0, 0) (⟨by omega, by omega, by show _ = sx_pick _ 58 65 (ii - nI 0); rw [sx_sub_z]⟩) (lv_sub hl [0, 1, 2, 3, 4, 5, 6] rfl) (fun x hJ ih ls hl => ?_)
    obtain ⟨d, b⟩ := x
    obtain ⟨hd, hbd, hp⟩ := hJ
    have hl : lv_has ls 9 [(8, .int (nI d)), (7, .int (nI b)), (5, .long codes), (0, .ref o), (1, .int pp), (2, .long w), (4, .int ii)] := hl
    have ih_69 := ih
    refine lv_iload hx hb d_P_letterInFolder_69 (lv_at hl 0 rfl) ?_
    refine lv_bipush (v := nI 58) hx hb d_P_letterInFolder_71 (by decide +kernel) ?_
    refine lv_icmp_ge (tgt := 110) hx hb d_P_letterInFolder_73 (by decide) (fun c_2 => ?_) (fun c_2 => ?_)
    · have c_2 : 58 ≤ d := (nI_leI (by decide) (by omega)).mp c_2
      refine lv_iconst (v := nI 0) hx hb d_P_letterInFolder_110 (by decide +kernel) ?_
      exact W.iret (v := nI 0) hx hb hr (fun t ht hW => ⟨nI 0, rfl, (by rw [hp, show 58 - d = 0 by omega]; rfl), ht⟩) (fun _ h => by cases h) d_P_letterInFolder_111
    · have c_2 : d < 58 := Nat.not_le.mp (fun z => c_2 ((nI_leI (by decide) (by omega)).mpr z))
      refine lv_lload hx hb d_P_letterInFolder_76 (lv_at hl 2 rfl) ?_
      refine lv_lconst (v := 1) hx hb d_P_letterInFolder_78 (by decide +kernel) ?_
      refine lv_iload hx hb d_P_letterInFolder_79 (lv_at hl 0 rfl) ?_
      refine lv_lshl (v := sx_on d) hx hb d_P_letterInFolder_81 rfl ?_
      refine lv_land hx hb d_P_letterInFolder_82 ?_
      refine lv_lconst (v := 0) hx hb d_P_letterInFolder_83 (by decide +kernel) ?_
      refine W.lcmp hx hb d_P_letterInFolder_84 ?_
      refine lv_if_eq (tgt := 104) hx hb d_P_letterInFolder_85 (by decide) (fun c_3 => ?_) (fun c_3 => ?_)
      · have c_3 : codes &&& (sx_on d) = 0 := sx_cmp0.mp c_3
        refine lv_iinc (v := nI (d + 1)) (lv' := [(8, .int (nI (d + 1))), (7, .int (nI b)), (5, .long codes), (0, .ref o), (1, .int pp), (2, .long w), (4, .int ii)]) hx hb d_P_letterInFolder_104 hl (k := 0) rfl (nI_1 d) (by decide) rfl (fun ls hl => ?_)
        refine lv_goto (tgt := 69) hx hb d_P_letterInFolder_107 (by decide) ?_
        exact ih_69 (d + 1, b) (⟨by omega, by omega, by rw [hp, sx_pick_step (by omega), hq d (by omega), (sx_holds (by omega)).mp c_3]; rfl⟩) (by omega) ls (lv_sub hl [0, 1, 2, 3, 4, 5, 6] rfl)
      · have c_3 : ¬ (codes &&& (sx_on d)) = 0 := fun z => c_3 (sx_cmp0.mpr z)
        refine lv_iload hx hb d_P_letterInFolder_88 (lv_at hl 1 rfl) ?_
        refine lv_iload hx hb d_P_letterInFolder_90 (lv_at hl 6 rfl) ?_
        refine lv_icmp_ne (tgt := 101) hx hb d_P_letterInFolder_92 (by decide) (fun c_4 => ?_) (fun c_4 => ?_)
        · refine lv_iinc (v := nI (b + 1)) (lv' := [(7, .int (nI (b + 1))), (8, .int (nI d)), (5, .long codes), (0, .ref o), (1, .int pp), (2, .long w), (4, .int ii)]) hx hb d_P_letterInFolder_101 hl (k := 1) rfl (nI_1 b) (by decide) rfl (fun ls hl => ?_)
          refine lv_iinc (v := nI (d + 1)) (lv' := [(8, .int (nI (d + 1))), (7, .int (nI (b + 1))), (5, .long codes), (0, .ref o), (1, .int pp), (2, .long w), (4, .int ii)]) hx hb d_P_letterInFolder_104 hl (k := 1) rfl (nI_1 d) (by decide) rfl (fun ls hl => ?_)
          refine lv_goto (tgt := 69) hx hb d_P_letterInFolder_107 (by decide) ?_
          exact ih_69 (d + 1, b + 1) (⟨by omega, by omega, by rw [hp, sx_pick_step (by omega), hq d (by omega), sx_holdsN (by omega) c_3, cond_true, if_neg (fun z => c_4 (sx_sub_0.mp z)), sx_sub1]⟩) (by omega) ls (lv_sub hl [0, 1, 2, 3, 4, 5, 6] rfl)
        · refine lv_bipush (v := nI 65) hx hb d_P_letterInFolder_95 (by decide +kernel) ?_
          refine lv_iload hx hb d_P_letterInFolder_97 (lv_at hl 0 rfl) ?_
          refine lv_iadd hx hb d_P_letterInFolder_99 ?_
          refine sx_asi (y := nI (65 + d)) (nI_add 65 d) ?_
          exact W.iret (v := nI (65 + d)) hx hb hr (fun t ht hW => ⟨nI (65 + d), rfl, (by rw [hp, sx_pick_step (by omega), hq d (by omega), sx_holdsN (by omega) c_3, cond_true, if_pos (sx_sub_0.mpr c_4)]), ht⟩) (fun _ h => by cases h) d_P_letterInFolder_100
  · have c_1 : x < n := Nat.not_le.mp (fun z => c_1 ((nI_leI (by omega) (by omega)).mpr z))
    refine lv_aload_n hx hb d_P_letterInFolder_15 rfl (lv_at hl 2 rfl) ?_
    refine va_get (D := D) (ci := 1) (v := .ref a1) (C := R_P) (T := T_P) (N := 5) hx hb hts iw_P hown hK.1 hP 0 rfl rfl 0 (by decide) (hts _ wd_32) (fun _ h9 => h9) rfl d_P_letterInFolder_16 ?_
    refine lv_iload hx hb d_P_letterInFolder_19 (lv_at hl 0 rfl) ?_
    refine va_iald hx hb hK.1 hP 1 0 rfl rfl (vp_in_nI (by omega) (by decide)) d_P_letterInFolder_21 ?_
    refine sx_asi (congrArg (α 1) (nI_clamp (by omega))) ?_
    refine lv_iload_n hx hb d_P_letterInFolder_22 rfl (lv_at hl 3 rfl) ?_
    refine lv_icmp_ne (tgt := 57) hx hb d_P_letterInFolder_23 (by decide) (fun c_5 => ?_) (fun c_5 => ?_)
    · refine lv_iinc (v := nI (x + 1)) (lv' := [(7, .int (nI (x + 1))), (5, .long codes), (0, .ref o), (1, .int pp), (2, .long w), (4, .int ii)]) hx hb d_P_letterInFolder_57 hl (k := 0) rfl (nI_1 x) (by decide) rfl (fun ls hl => ?_)
      refine lv_goto (tgt := 6) hx hb d_P_letterInFolder_60 (by decide) ?_
      exact ih_6 (x + 1, codes) (⟨by omega, by omega, sx_ls_no (Or.inl c_5) hJ⟩) (by omega) ls (lv_sub hl [0, 1, 2, 3, 4, 5] rfl)
    · refine lv_aload_n hx hb d_P_letterInFolder_26 rfl (lv_at hl 2 rfl) ?_
      refine va_get (D := D) (ci := 1) (v := .ref a4) (C := R_P) (T := T_P) (N := 5) hx hb hts iw_P hown hK.1 hP 0 rfl rfl 3 (by decide) (hts _ wd_35) (fun _ h9 => h9) rfl d_P_letterInFolder_27 ?_
      refine lv_iload hx hb d_P_letterInFolder_30 (lv_at hl 0 rfl) ?_
      refine va_lald hx hb hK.1 hP 4 3 rfl rfl (vp_in_nI (by omega) (by decide)) d_P_letterInFolder_32 ?_
      refine sx_asl (congrArg un (nI_clamp (by omega))) ?_
      refine lv_lload_n hx hb d_P_letterInFolder_33 rfl (lv_at hl 4 rfl) ?_
      refine lv_land hx hb d_P_letterInFolder_34 ?_
      refine lv_lconst (v := 0) hx hb d_P_letterInFolder_35 (by decide +kernel) ?_
      refine W.lcmp hx hb d_P_letterInFolder_36 ?_
      refine lv_if_eq (tgt := 57) hx hb d_P_letterInFolder_37 (by decide) (fun c_6 => ?_) (fun c_6 => ?_)
      · have c_6 : (un x) &&& w = 0 := sx_cmp0.mp c_6
        refine lv_iinc (v := nI (x + 1)) (lv' := [(7, .int (nI (x + 1))), (5, .long codes), (0, .ref o), (1, .int pp), (2, .long w), (4, .int ii)]) hx hb d_P_letterInFolder_57 hl (k := 0) rfl (nI_1 x) (by decide) rfl (fun ls hl => ?_)
        refine lv_goto (tgt := 6) hx hb d_P_letterInFolder_60 (by decide) ?_
        exact ih_6 (x + 1, codes) (⟨by omega, by omega, sx_ls_no (Or.inr c_6) hJ⟩) (by omega) ls (lv_sub hl [0, 1, 2, 3, 4, 5] rfl)
      · have c_6 : ¬ ((un x) &&& w) = 0 := fun z => c_6 (sx_cmp0.mpr z)
        refine lv_lload hx hb d_P_letterInFolder_40 (lv_at hl 1 rfl) ?_
        refine lv_lconst (v := 1) hx hb d_P_letterInFolder_42 (by decide +kernel) ?_
        refine lv_aload_n hx hb d_P_letterInFolder_43 rfl (lv_at hl 2 rfl) ?_
        refine va_get (D := D) (ci := 1) (v := .ref a2) (C := R_P) (T := T_P) (N := 5) hx hb hts iw_P hown hK.1 hP 0 rfl rfl 1 (by decide) (hts _ wd_33) (fun _ h9 => h9) rfl d_P_letterInFolder_44 ?_
        refine lv_iload hx hb d_P_letterInFolder_47 (lv_at hl 0 rfl) ?_
        refine va_cald hx hb hK.1 hP 2 2 rfl rfl (vp_in_nI (by omega) (by decide)) d_P_letterInFolder_49 ?_
        refine sx_asi (congrArg (α 2) (nI_clamp (by omega))) ?_
        obtain ⟨c, ⟨hc, hc2⟩, ec⟩ := sx_isL_nat (hLT x (by omega) (by omega))
        refine sx_asi ec ?_
        refine lv_bipush (v := nI 65) hx hb d_P_letterInFolder_50 (by decide +kernel) ?_
        refine lv_isub hx hb d_P_letterInFolder_52 ?_
        refine sx_asi (y := nI (c - 65)) (pk_sub (by omega)) ?_
        refine lv_lshl (v := sx_on (c - 65)) hx hb d_P_letterInFolder_53 rfl ?_
        refine lv_lor hx hb d_P_letterInFolder_54 ?_
        refine lv_lstore (lv' := [(5, .long (codes ||| (sx_on (c - 65)))), (7, .int (nI x)), (0, .ref o), (1, .int pp), (2, .long w), (4, .int ii)]) hx hb d_P_letterInFolder_55 hl (by decide) rfl (fun ls hl => ?_)
        refine lv_iinc (v := nI (x + 1)) (lv' := [(7, .int (nI (x + 1))), (5, .long (codes ||| (sx_on (c - 65)))), (0, .ref o), (1, .int pp), (2, .long w), (4, .int ii)]) hx hb d_P_letterInFolder_57 hl (k := 1) rfl (nI_1 x) (by decide) rfl (fun ls hl => ?_)
        refine lv_goto (tgt := 6) hx hb d_P_letterInFolder_60 (by decide) ?_
        exact ih_6 (x + 1, codes ||| sx_on (c - 65)) (⟨by omega, by omega, sx_ls_yes (by omega) c_5 c_6 hc hc2 ec hJ⟩) (by omega) ls (lv_sub hl [0, 1, 2, 3, 4, 5] rfl)

set_option maxHeartbeats 4000000 in
set_option maxRecDepth 100000 in
theorem k_taken (l : Launch) (D : va_G) (cA : Nat → ClassId) (o a1 : Nat) (v : Nat → Int32) (f lk : Int64) : Met l y_S_taken w_S_taken ({ frames := 0, cells := 0, slots := 0, locals := 0 }) (sx_Pr D cA [.ref o] (wS cA o a1 v f lk)) (vp_Sl (fun r => r = f ||| lk)) 0 0 (fun _ => False) := by
  refine Met.ofW (cc := b_S_taken) (maxL := 1) (ret := (some .long)) (by decide) rfl ?_
  intro pG eG s m args below meth cG s₁ B hml hv
  obtain ⟨rfl, hP, hK⟩ := hv
  have hx := B.exec
  have hb := B.bytes
  have hr := B.returns
  have hts0 := atoms_spec (ws := w_S_taken) B.pre
  have hts : ∀ w ∈ sx_gw, w.before _ s = true := fun w h => hts0 w (List.mem_cons_of_mem _ h)
  have hown : s.vm.findClass R_S = some m.cls := findClass_of_methodNamed B.named
  have hlocks := B.notSynchronized
  have hl := lv_entry ([.ref o]) (n := 1) (Nat.le_of_ble_eq_true rfl)
  rw [lg_entry_eq]
  generalize (lg_sl ([.ref o]) ++ List.replicate (1 - (lg_sl ([.ref o])).length) Slot.unset).toArray = ls at hl ⊢
  have hl : lv_has ls 1 [(0, .ref o)] := hl
  refine lv_aload_n hx hb d_S_taken_0 rfl (lv_at hl 0 rfl) ?_
  refine va_get (D := D) (ci := 2) (v := .long f) (C := R_S) (T := T_S) (N := 3) hx hb hts iw_S hown hK.1 hP 0 rfl rfl 1 (by decide) (hts _ wd_58) (fun _ h9 => h9) rfl d_S_taken_1 ?_
  refine lv_aload_n hx hb d_S_taken_4 rfl (lv_at hl 0 rfl) ?_
  refine va_get (D := D) (ci := 2) (v := .long lk) (C := R_S) (T := T_S) (N := 3) hx hb hts iw_S hown hK.1 hP 0 rfl rfl 2 (by decide) (hts _ wd_59) (fun _ h9 => h9) rfl d_S_taken_5 ?_
  refine lv_lor hx hb d_S_taken_8 ?_
  exact W.lret (v := f ||| lk) hx hb hr (fun t ht hW => ⟨f ||| lk, rfl, rfl, ht⟩) (fun _ h => by cases h) d_S_taken_9

set_option maxHeartbeats 4000000 in
set_option maxRecDepth 100000 in
theorem k_away (l : Launch) (D : va_G) (cA : Nat → ClassId) (sz : Nat) (o a1 : Nat) (v : Nat → Int32) (f lk : Int64) (j : Nat) : Met l y_S_takeAway w_S_takeAway ({ frames := 1, cells := 0, slots := 0, locals := 20 }) (sx_Pw D cA [.ref o, .int (nI j)] (wS cA o a1 v f lk) sz) (va_Qv (fun (_ : Unit) => True) (sx_Bw D (wS cA o a1 v f lk) sz (fun _ => wS cA o a1 v (f &&& (sx_on j ^^^ (-1))) (lk &&& (sx_on j ^^^ (-1))))) (va_A (wS cA o a1 v f lk) sz)) 0 0 (va_A (wS cA o a1 v f lk) sz) := by
  refine Met.ofW (cc := b_S_takeAway) (maxL := 2) (ret := none) (by decide) rfl ?_
  intro pG eG s m args below meth cG s₁ B hml hv
  obtain ⟨rfl, hsz, hP, hK, hD0⟩ := hv
  have hx := B.exec
  have hb := B.bytes
  have hr := B.returns
  have hts0 := atoms_spec (ws := w_S_takeAway) B.pre
  have hts : ∀ w ∈ sx_gw, w.before _ s = true := fun w h => hts0 w (List.mem_cons_of_mem _ h)
  have hown : s.vm.findClass R_S = some m.cls := findClass_of_methodNamed B.named
  have hlocks := B.notSynchronized
  subst hsz
  have hD := hD0.self (sz := s.heap.size)
  generalize hAe : va_A (wS cA o a1 v f lk) s.heap.size = A at hD ⊢
  have hA : ∀ q : Nat, s.heap.size ≤ q → A q := fun q h => by rw [← hAe]; exact Or.inr h
  have hS : va_S A s.heap s.heap [] := va_S.rf
  have hl := lv_entry ([.ref o, .int (nI j)]) (n := 2) (Nat.le_of_ble_eq_true rfl)
  rw [lg_entry_eq]
  generalize (lg_sl ([.ref o, .int (nI j)]) ++ List.replicate (2 - (lg_sl ([.ref o, .int (nI j)])).length) Slot.unset).toArray = ls at hl ⊢
  have hl : lv_has ls 2 [(0, .ref o), (1, .int (nI j))] := hl
  refine lv_aload_n hx hb d_S_takeAway_0 rfl (lv_at hl 0 rfl) ?_
  refine lv_dup hx hb d_S_takeAway_1 rfl ?_
  refine va_get (D := D) (ci := 2) (v := .long f) (C := R_S) (T := T_S) (N := 3) hx hb hts iw_S hown hK.1 hP 0 rfl rfl 1 (by decide) (hts _ wd_58) (fun _ h9 => h9) rfl d_S_takeAway_2 ?_
  refine lv_iload_n hx hb d_S_takeAway_5 rfl (lv_at hl 1 rfl) ?_
  refine vp_callSl (va_runSN (As := [.int (nI j)]) (rest := [.long f, .ref o]) ⟨hx, hb, hml, hown, hts⟩ (k_only l D cA j) ⟨va_cnB 1 hts (sx_GI wd_31) rfl rfl rfl (hK.2.1 _ wd_129) (hts _ wd_1) (by decide +kernel) ⟨Nat.le_of_ble_eq_true rfl, Nat.le_of_ble_eq_true rfl⟩, hts _ wd_30, trivial⟩ (sx_preS hK (sx_P0 : va_P D vwCl [] s.heap)) rfl rfl hl.1 rfl (lv_room (Nat.le_of_ble_eq_true rfl)) d_S_takeAway_6 ⟨Nat.le_of_ble_eq_true rfl, Nat.le_of_ble_eq_true rfl⟩).run (fun r_2 hr_1 => ?_)
  subst hr_1
  refine lv_ldc2 (own := R_S) (v := (-1)) hx hb hown (hts _ wd_130) d_S_takeAway_9 ?_
  refine lv_lxor hx hb d_S_takeAway_12 ?_
  refine lv_land hx hb d_S_takeAway_13 ?_
  refine va_put (D := D) (ci := 2) (v := .long (f &&& ((sx_on j) ^^^ (-1)))) (ty := .long) (C := R_S) (T := T_S) (N := 3) hx hb hts iw_S t_S o_S n_S hown hK.1 hP hD hS 0 rfl rfl 1 (by decide) (hts _ wd_58) (fun _ h9 => h9) rfl (by decide +kernel) rfl rfl (Nat.le_of_ble_eq_true rfl) d_S_takeAway_14 (fun H locs hP hD hS => ?_)
  have hP : va_P D vwCl (wS cA o a1 v (f &&& ((sx_on j) ^^^ (-1))) lk) H := hP
  have hD : va_D A (wS cA o a1 v (f &&& ((sx_on j) ^^^ (-1))) lk) := hD
  refine lv_aload_n hx hb d_S_takeAway_17 rfl (lv_at hl 0 rfl) ?_
  refine lv_dup hx hb d_S_takeAway_18 rfl ?_
  refine va_get (D := D) (ci := 2) (v := .long lk) (C := R_S) (T := T_S) (N := 3) hx hb hts iw_S hown hK.1 hP 0 rfl rfl 2 (by decide) (hts _ wd_59) (fun _ h9 => h9) rfl d_S_takeAway_19 ?_
  refine lv_iload_n hx hb d_S_takeAway_22 rfl (lv_at hl 1 rfl) ?_
  refine vp_callSl (va_runSN (As := [.int (nI j)]) (rest := [.long lk, .ref o]) ⟨hx, hb, hml, hown, hts⟩ (k_only l D cA j) ⟨va_cnB 1 hts (sx_GI wd_31) rfl rfl rfl (hK.2.1 _ wd_129) (hts _ wd_1) (by decide +kernel) ⟨Nat.le_of_ble_eq_true rfl, Nat.le_of_ble_eq_true rfl⟩, hts _ wd_30, trivial⟩ (sx_preS hK (sx_P0 : va_P D vwCl [] H)) rfl rfl hl.1 rfl (lv_room (Nat.le_of_ble_eq_true rfl)) d_S_takeAway_23 ⟨Nat.le_of_ble_eq_true rfl, Nat.le_of_ble_eq_true rfl⟩).run (fun r_4 hr_3 => ?_)
  subst hr_3
  refine lv_ldc2 (own := R_S) (v := (-1)) hx hb hown (hts _ wd_130) d_S_takeAway_26 ?_
  refine lv_lxor hx hb d_S_takeAway_29 ?_
  refine lv_land hx hb d_S_takeAway_30 ?_
  refine va_put (D := D) (ci := 2) (v := .long (lk &&& ((sx_on j) ^^^ (-1)))) (ty := .long) (C := R_S) (T := T_S) (N := 3) hx hb hts iw_S t_S o_S n_S hown hK.1 hP hD hS 0 rfl rfl 2 (by decide) (hts _ wd_59) (fun _ h9 => h9) rfl (by decide +kernel) rfl rfl (Nat.le_of_ble_eq_true rfl) d_S_takeAway_31 (fun H locs hP hD hS => ?_)
  have hP : va_P D vwCl (wS cA o a1 v (f &&& ((sx_on j) ^^^ (-1))) (lk &&& ((sx_on j) ^^^ (-1)))) H := hP
  have hD : va_D A (wS cA o a1 v (f &&& ((sx_on j) ^^^ (-1))) (lk &&& ((sx_on j) ^^^ (-1)))) := hD
  have hP9 : va_P D vwCl (wS cA o a1 v (f &&& (sx_on j ^^^ (-1))) (lk &&& (sx_on j ^^^ (-1)))) H := hP
  have hD9 : va_D A (wS cA o a1 v (f &&& (sx_on j ^^^ (-1))) (lk &&& (sx_on j ^^^ (-1)))) := hD
  exact W.vret hx hb hr (fun t ht hW => ⟨⟨(), rfl, trivial, by rw [ht]; exact hP9, by rw [hAe]; exact hD9⟩, hS.F ht⟩) hS.2.2 d_S_takeAway_34

set_option maxHeartbeats 4000000 in
set_option maxRecDepth 100000 in
theorem k_put (l : Launch) (D : va_G) (cA : Nat → ClassId) (sz : Nat) (o a1 : Nat) (v : Nat → Int32) (f lk : Int64) (j : Nat) (hj : j < 60) (ct : Int32) : Met l y_S_putFile w_S_putFile ({ frames := 2, cells := 0, slots := 0, locals := 41 }) (sx_Pw D cA [.ref o, .int (nI j), .int ct] (wS cA o a1 v f lk) sz) (va_Qv (fun (_ : Unit) => True) (sx_Bw D (wS cA o a1 v f lk) sz (fun _ => wS cA o a1 (upd v j ct) ((f &&& (sx_on j ^^^ (-1))) ||| sx_on j) (lk &&& (sx_on j ^^^ (-1))))) (va_A (wS cA o a1 v f lk) sz)) 0 0 (va_A (wS cA o a1 v f lk) sz) := by
  refine Met.ofW (cc := b_S_putFile) (maxL := 3) (ret := none) (by decide) rfl ?_
  intro pG eG s m args below meth cG s₁ B hml hv
  obtain ⟨rfl, hsz, hP, hK, hD0⟩ := hv
  have hx := B.exec
  have hb := B.bytes
  have hr := B.returns
  have hts0 := atoms_spec (ws := w_S_putFile) B.pre
  have hts : ∀ w ∈ sx_gw, w.before _ s = true := fun w h => hts0 w (List.mem_cons_of_mem _ h)
  have hown : s.vm.findClass R_S = some m.cls := findClass_of_methodNamed B.named
  have hlocks := B.notSynchronized
  subst hsz
  have hD := hD0.self (sz := s.heap.size)
  generalize hAe : va_A (wS cA o a1 v f lk) s.heap.size = A at hD ⊢
  have hA : ∀ q : Nat, s.heap.size ≤ q → A q := fun q h => by rw [← hAe]; exact Or.inr h
  have hS : va_S A s.heap s.heap [] := va_S.rf
  have hl := lv_entry ([.ref o, .int (nI j), .int ct]) (n := 3) (Nat.le_of_ble_eq_true rfl)
  rw [lg_entry_eq]
  generalize (lg_sl ([.ref o, .int (nI j), .int ct]) ++ List.replicate (3 - (lg_sl ([.ref o, .int (nI j), .int ct])).length) Slot.unset).toArray = ls at hl ⊢
  have hl : lv_has ls 3 [(0, .ref o), (1, .int (nI j)), (2, .int ct)] := hl
  refine lv_iload_n hx hb d_S_putFile_0 rfl (lv_at hl 1 rfl) ?_
  refine vp_callSi (va_runS (As := [.int (nI j)]) (rest := []) ⟨hx, hb, hml, hown, hts⟩ (k_canHold l D cA (nI j)) (va_cwS 1 hts (sx_GS wd_135 wd_136 wd_4 wd_137) rfl rfl rfl (by decide +kernel) ⟨Nat.le_of_ble_eq_true rfl, Nat.le_of_ble_eq_true rfl⟩) (sx_preS hK (sx_P0 : va_P D vwCl [] s.heap)) rfl rfl hl.1 rfl (lv_room (Nat.le_of_ble_eq_true rfl)) d_S_putFile_1 ⟨Nat.le_of_ble_eq_true rfl, Nat.le_of_ble_eq_true rfl⟩).run (fun r_2 hr_1 => ?_)
  rw [sx_has_nI (by decide) (by omega)] at hr_1
  subst hr_1
  refine lv_if_eq (tgt := 32) hx hb d_S_putFile_4 (by decide) (fun c_3 => ?_) (fun c_3 => ?_)
  · exact absurd c_3 (by decide)
  · refine lv_aload_n hx hb d_S_putFile_7 rfl (lv_at hl 0 rfl) ?_
    refine lv_iload_n hx hb d_S_putFile_8 rfl (lv_at hl 1 rfl) ?_
    refine sx_callv (wr := []) (va_runV (As := [.int (nI j)]) (rest := []) ⟨hx, hb, hml, hown, hts⟩ (k_away l D cA s.heap.size o a1 v f lk j) (cwV 1 hts (sx_GV wd_138 wd_126 wd_127 wd_4 wd_128) rfl rfl rfl (by decide +kernel) ⟨Nat.le_of_ble_eq_true rfl, Nat.le_of_ble_eq_true rfl⟩) (sx_preVw hK hP hD (va_recv hK.1 hP (ci := 2) (q0 := 0) rfl rfl)) rfl rfl hl.1 rfl (lv_room (Nat.le_of_ble_eq_true rfl)) d_S_putFile_9 ⟨Nat.le_of_ble_eq_true rfl, Nat.le_of_ble_eq_true rfl⟩) hP hD hS hA [0, 1] [] rfl rfl (by decide) (by decide) (fun u_6 H locs hr_4 hP hD hS => ?_)
    have hP : va_P D vwCl (wS cA o a1 v (f &&& (sx_on j ^^^ (-1))) (lk &&& (sx_on j ^^^ (-1)))) H := hP.sub [0, 1] rfl
    have hD : va_D A (wS cA o a1 v (f &&& (sx_on j ^^^ (-1))) (lk &&& (sx_on j ^^^ (-1)))) := hD.sub [0, 1] (by decide) rfl
    refine lv_aload_n hx hb d_S_putFile_12 rfl (lv_at hl 0 rfl) ?_
    refine lv_dup hx hb d_S_putFile_13 rfl ?_
    refine va_get (D := D) (ci := 2) (v := .long (f &&& (sx_on j ^^^ (-1)))) (C := R_S) (T := T_S) (N := 3) hx hb hts iw_S hown hK.1 hP 0 rfl rfl 1 (by decide) (hts _ wd_58) (fun _ h9 => h9) rfl d_S_putFile_14 ?_
    refine lv_iload_n hx hb d_S_putFile_17 rfl (lv_at hl 1 rfl) ?_
    refine vp_callSl (va_runSN (As := [.int (nI j)]) (rest := [.long (f &&& (sx_on j ^^^ (-1))), .ref o]) ⟨hx, hb, hml, hown, hts⟩ (k_only l D cA j) ⟨va_cnB 1 hts (sx_GI wd_31) rfl rfl rfl (hK.2.1 _ wd_129) (hts _ wd_1) (by decide +kernel) ⟨Nat.le_of_ble_eq_true rfl, Nat.le_of_ble_eq_true rfl⟩, hts _ wd_30, trivial⟩ (sx_preS hK (sx_P0 : va_P D vwCl [] H)) rfl rfl hl.1 rfl (lv_room (Nat.le_of_ble_eq_true rfl)) d_S_putFile_18 ⟨Nat.le_of_ble_eq_true rfl, Nat.le_of_ble_eq_true rfl⟩).run (fun r_8 hr_7 => ?_)
    subst hr_7
    refine lv_lor hx hb d_S_putFile_21 ?_
    refine va_put (D := D) (ci := 2) (v := .long ((f &&& (sx_on j ^^^ (-1))) ||| (sx_on j))) (ty := .long) (C := R_S) (T := T_S) (N := 3) hx hb hts iw_S t_S o_S n_S hown hK.1 hP hD hS 0 rfl rfl 1 (by decide) (hts _ wd_58) (fun _ h9 => h9) rfl (by decide +kernel) rfl rfl (Nat.le_of_ble_eq_true rfl) d_S_putFile_22 (fun H locs hP hD hS => ?_)
    have hP : va_P D vwCl (wS cA o a1 v ((f &&& (sx_on j ^^^ (-1))) ||| (sx_on j)) (lk &&& (sx_on j ^^^ (-1)))) H := hP
    have hD : va_D A (wS cA o a1 v ((f &&& (sx_on j ^^^ (-1))) ||| (sx_on j)) (lk &&& (sx_on j ^^^ (-1)))) := hD
    refine lv_aload_n hx hb d_S_putFile_25 rfl (lv_at hl 0 rfl) ?_
    refine va_get (D := D) (ci := 2) (v := .ref a1) (C := R_S) (T := T_S) (N := 3) hx hb hts iw_S hown hK.1 hP 0 rfl rfl 0 (by decide) (hts _ wd_57) (fun _ h9 => h9) rfl d_S_putFile_26 ?_
    refine lv_iload_n hx hb d_S_putFile_29 rfl (lv_at hl 1 rfl) ?_
    refine lv_iload_n hx hb d_S_putFile_30 rfl (lv_at hl 2 rfl) ?_
    refine va_iast hx hb hK.1 hP hD hS 1 0 rfl rfl (vp_in_nI (by omega) (by decide)) d_S_putFile_31 (fun H locs hP hD hS => ?_)
    rw [nI_clamp (by omega)] at hP hD
    have hP : va_P D vwCl (wS cA o a1 (upd v j ct) ((f &&& (sx_on j ^^^ (-1))) ||| (sx_on j)) (lk &&& (sx_on j ^^^ (-1)))) H := hP
    have hD : va_D A (wS cA o a1 (upd v j ct) ((f &&& (sx_on j ^^^ (-1))) ||| (sx_on j)) (lk &&& (sx_on j ^^^ (-1)))) := hD
    have hP9 : va_P D vwCl (wS cA o a1 (upd v j ct) ((f &&& (sx_on j ^^^ (-1))) ||| sx_on j) (lk &&& (sx_on j ^^^ (-1)))) H := hP
    have hD9 : va_D A (wS cA o a1 (upd v j ct) ((f &&& (sx_on j ^^^ (-1))) ||| sx_on j) (lk &&& (sx_on j ^^^ (-1)))) := hD
    exact W.vret hx hb hr (fun t ht hW => ⟨⟨(), rfl, trivial, by rw [ht]; exact hP9, by rw [hAe]; exact hD9⟩, hS.F ht⟩) hS.2.2 d_S_putFile_32

set_option maxHeartbeats 4000000 in
set_option maxRecDepth 100000 in
theorem k_lnk (l : Launch) (D : va_G) (cA : Nat → ClassId) (sz : Nat) (o a1 : Nat) (v : Nat → Int32) (f lk : Int64) (j : Nat) (hj : j < 60) (q : Nat) (hq : q < 60) : Met l y_S_putLink w_S_putLink ({ frames := 2, cells := 0, slots := 0, locals := 41 }) (sx_Pw D cA [.ref o, .int (nI j), .int (nI q)] (wS cA o a1 v f lk) sz) (va_Qv (fun (_ : Unit) => True) (sx_Bw D (wS cA o a1 v f lk) sz (fun _ => wS cA o a1 (upd v j (nI q)) (f &&& (sx_on j ^^^ (-1))) ((lk &&& (sx_on j ^^^ (-1))) ||| sx_on j))) (va_A (wS cA o a1 v f lk) sz)) 0 0 (va_A (wS cA o a1 v f lk) sz) := by
  refine Met.ofW (cc := b_S_putLink) (maxL := 3) (ret := none) (by decide) rfl ?_
  intro pG eG s m args below meth cG s₁ B hml hv
  obtain ⟨rfl, hsz, hP, hK, hD0⟩ := hv
  have hx := B.exec
  have hb := B.bytes
  have hr := B.returns
  have hts0 := atoms_spec (ws := w_S_putLink) B.pre
  have hts : ∀ w ∈ sx_gw, w.before _ s = true := fun w h => hts0 w (List.mem_cons_of_mem _ h)
  have hown : s.vm.findClass R_S = some m.cls := findClass_of_methodNamed B.named
  have hlocks := B.notSynchronized
  subst hsz
  have hD := hD0.self (sz := s.heap.size)
  generalize hAe : va_A (wS cA o a1 v f lk) s.heap.size = A at hD ⊢
  have hA : ∀ q : Nat, s.heap.size ≤ q → A q := fun q h => by rw [← hAe]; exact Or.inr h
  have hS : va_S A s.heap s.heap [] := va_S.rf
  have hl := lv_entry ([.ref o, .int (nI j), .int (nI q)]) (n := 3) (Nat.le_of_ble_eq_true rfl)
  rw [lg_entry_eq]
  generalize (lg_sl ([.ref o, .int (nI j), .int (nI q)]) ++ List.replicate (3 - (lg_sl ([.ref o, .int (nI j), .int (nI q)])).length) Slot.unset).toArray = ls at hl ⊢
  have hl : lv_has ls 3 [(0, .ref o), (1, .int (nI j)), (2, .int (nI q))] := hl
  refine lv_iload_n hx hb d_S_putLink_0 rfl (lv_at hl 1 rfl) ?_
  refine vp_callSi (va_runS (As := [.int (nI j)]) (rest := []) ⟨hx, hb, hml, hown, hts⟩ (k_canHold l D cA (nI j)) (va_cwS 1 hts (sx_GS wd_135 wd_136 wd_4 wd_137) rfl rfl rfl (by decide +kernel) ⟨Nat.le_of_ble_eq_true rfl, Nat.le_of_ble_eq_true rfl⟩) (sx_preS hK (sx_P0 : va_P D vwCl [] s.heap)) rfl rfl hl.1 rfl (lv_room (Nat.le_of_ble_eq_true rfl)) d_S_putLink_1 ⟨Nat.le_of_ble_eq_true rfl, Nat.le_of_ble_eq_true rfl⟩).run (fun r_2 hr_1 => ?_)
  rw [sx_has_nI (by decide) (by omega)] at hr_1
  subst hr_1
  refine lv_if_eq (tgt := 39) hx hb d_S_putLink_4 (by decide) (fun c_3 => ?_) (fun c_3 => ?_)
  · exact absurd c_3 (by decide)
  · refine lv_iload_n hx hb d_S_putLink_7 rfl (lv_at hl 2 rfl) ?_
    refine vp_callSi (va_runS (As := [.int (nI q)]) (rest := []) ⟨hx, hb, hml, hown, hts⟩ (k_canHold l D cA (nI q)) (va_cwS 1 hts (sx_GS wd_135 wd_136 wd_4 wd_137) rfl rfl rfl (by decide +kernel) ⟨Nat.le_of_ble_eq_true rfl, Nat.le_of_ble_eq_true rfl⟩) (sx_preS hK (sx_P0 : va_P D vwCl [] s.heap)) rfl rfl hl.1 rfl (lv_room (Nat.le_of_ble_eq_true rfl)) d_S_putLink_8 ⟨Nat.le_of_ble_eq_true rfl, Nat.le_of_ble_eq_true rfl⟩).run (fun r_5 hr_4 => ?_)
    rw [sx_has_nI (by decide) (by omega)] at hr_4
    subst hr_4
    refine lv_if_eq (tgt := 39) hx hb d_S_putLink_11 (by decide) (fun c_6 => ?_) (fun c_6 => ?_)
    · exact absurd c_6 (by decide)
    · refine lv_aload_n hx hb d_S_putLink_14 rfl (lv_at hl 0 rfl) ?_
      refine lv_iload_n hx hb d_S_putLink_15 rfl (lv_at hl 1 rfl) ?_
      refine sx_callv (wr := []) (va_runV (As := [.int (nI j)]) (rest := []) ⟨hx, hb, hml, hown, hts⟩ (k_away l D cA s.heap.size o a1 v f lk j) (cwV 1 hts (sx_GV wd_138 wd_126 wd_127 wd_4 wd_128) rfl rfl rfl (by decide +kernel) ⟨Nat.le_of_ble_eq_true rfl, Nat.le_of_ble_eq_true rfl⟩) (sx_preVw hK hP hD (va_recv hK.1 hP (ci := 2) (q0 := 0) rfl rfl)) rfl rfl hl.1 rfl (lv_room (Nat.le_of_ble_eq_true rfl)) d_S_putLink_16 ⟨Nat.le_of_ble_eq_true rfl, Nat.le_of_ble_eq_true rfl⟩) hP hD hS hA [0, 1] [] rfl rfl (by decide) (by decide) (fun u_9 H locs hr_7 hP hD hS => ?_)
      have hP : va_P D vwCl (wS cA o a1 v (f &&& (sx_on j ^^^ (-1))) (lk &&& (sx_on j ^^^ (-1)))) H := hP.sub [0, 1] rfl
      have hD : va_D A (wS cA o a1 v (f &&& (sx_on j ^^^ (-1))) (lk &&& (sx_on j ^^^ (-1)))) := hD.sub [0, 1] (by decide) rfl
      refine lv_aload_n hx hb d_S_putLink_19 rfl (lv_at hl 0 rfl) ?_
      refine lv_dup hx hb d_S_putLink_20 rfl ?_
      refine va_get (D := D) (ci := 2) (v := .long (lk &&& (sx_on j ^^^ (-1)))) (C := R_S) (T := T_S) (N := 3) hx hb hts iw_S hown hK.1 hP 0 rfl rfl 2 (by decide) (hts _ wd_59) (fun _ h9 => h9) rfl d_S_putLink_21 ?_
      refine lv_iload_n hx hb d_S_putLink_24 rfl (lv_at hl 1 rfl) ?_
      refine vp_callSl (va_runSN (As := [.int (nI j)]) (rest := [.long (lk &&& (sx_on j ^^^ (-1))), .ref o]) ⟨hx, hb, hml, hown, hts⟩ (k_only l D cA j) ⟨va_cnB 1 hts (sx_GI wd_31) rfl rfl rfl (hK.2.1 _ wd_129) (hts _ wd_1) (by decide +kernel) ⟨Nat.le_of_ble_eq_true rfl, Nat.le_of_ble_eq_true rfl⟩, hts _ wd_30, trivial⟩ (sx_preS hK (sx_P0 : va_P D vwCl [] H)) rfl rfl hl.1 rfl (lv_room (Nat.le_of_ble_eq_true rfl)) d_S_putLink_25 ⟨Nat.le_of_ble_eq_true rfl, Nat.le_of_ble_eq_true rfl⟩).run (fun r_11 hr_10 => ?_)
      subst hr_10
      refine lv_lor hx hb d_S_putLink_28 ?_
      refine va_put (D := D) (ci := 2) (v := .long ((lk &&& (sx_on j ^^^ (-1))) ||| (sx_on j))) (ty := .long) (C := R_S) (T := T_S) (N := 3) hx hb hts iw_S t_S o_S n_S hown hK.1 hP hD hS 0 rfl rfl 2 (by decide) (hts _ wd_59) (fun _ h9 => h9) rfl (by decide +kernel) rfl rfl (Nat.le_of_ble_eq_true rfl) d_S_putLink_29 (fun H locs hP hD hS => ?_)
      have hP : va_P D vwCl (wS cA o a1 v (f &&& (sx_on j ^^^ (-1))) ((lk &&& (sx_on j ^^^ (-1))) ||| (sx_on j))) H := hP
      have hD : va_D A (wS cA o a1 v (f &&& (sx_on j ^^^ (-1))) ((lk &&& (sx_on j ^^^ (-1))) ||| (sx_on j))) := hD
      refine lv_aload_n hx hb d_S_putLink_32 rfl (lv_at hl 0 rfl) ?_
      refine va_get (D := D) (ci := 2) (v := .ref a1) (C := R_S) (T := T_S) (N := 3) hx hb hts iw_S hown hK.1 hP 0 rfl rfl 0 (by decide) (hts _ wd_57) (fun _ h9 => h9) rfl d_S_putLink_33 ?_
      refine lv_iload_n hx hb d_S_putLink_36 rfl (lv_at hl 1 rfl) ?_
      refine lv_iload_n hx hb d_S_putLink_37 rfl (lv_at hl 2 rfl) ?_
      refine va_iast hx hb hK.1 hP hD hS 1 0 rfl rfl (vp_in_nI (by omega) (by decide)) d_S_putLink_38 (fun H locs hP hD hS => ?_)
      rw [nI_clamp (by omega)] at hP hD
      have hP : va_P D vwCl (wS cA o a1 (upd v j (nI q)) (f &&& (sx_on j ^^^ (-1))) ((lk &&& (sx_on j ^^^ (-1))) ||| (sx_on j))) H := hP
      have hD : va_D A (wS cA o a1 (upd v j (nI q)) (f &&& (sx_on j ^^^ (-1))) ((lk &&& (sx_on j ^^^ (-1))) ||| (sx_on j))) := hD
      have hP9 : va_P D vwCl (wS cA o a1 (upd v j (nI q)) (f &&& (sx_on j ^^^ (-1))) ((lk &&& (sx_on j ^^^ (-1))) ||| sx_on j)) H := hP
      have hD9 : va_D A (wS cA o a1 (upd v j (nI q)) (f &&& (sx_on j ^^^ (-1))) ((lk &&& (sx_on j ^^^ (-1))) ||| sx_on j)) := hD
      exact W.vret hx hb hr (fun t ht hW => ⟨⟨(), rfl, trivial, by rw [ht]; exact hP9, by rw [hAe]; exact hD9⟩, hS.F ht⟩) hS.2.2 d_S_putLink_39

set_option maxHeartbeats 4000000 in
set_option maxRecDepth 100000 in
theorem k_copy (l : Launch) (D : va_G) (cA : Nat → ClassId) (sz : Nat) (o a1 o2 a2 : Nat) (v : Nat → Int32) (f lk : Int64) (v2 : Nat → Int32) (f2 lk2 : Int64) (w : Int64) : Met l y_S_copyFiles w_S_copyFiles ({ frames := 1, cells := 0, slots := 0, locals := 18 }) (sx_Pw D cA [.ref o, .ref o2, .long w] (wSS cA o a1 o2 a2 v f lk v2 f2 lk2) sz) (va_Qv (fun (_ : Unit) => True) (sx_Bw D (wSS cA o a1 o2 a2 v f lk v2 f2 lk2) sz (fun _ => wSS cA o a1 o2 a2 (va_cpy v2 v 0 0 60) (f2 &&& w) 0 v2 f2 lk2)) (va_A (wSS cA o a1 o2 a2 v f lk v2 f2 lk2) sz)) 0 0 (va_A (wSS cA o a1 o2 a2 v f lk v2 f2 lk2) sz) := by
  refine Met.ofW (cc := b_S_copyFiles) (maxL := 4) (ret := none) (by decide) rfl ?_
  intro pG eG s m args below meth cG s₁ B hml hv
  obtain ⟨rfl, hsz, hP, hK, hD0⟩ := hv
  have hx := B.exec
  have hb := B.bytes
  have hr := B.returns
  have hts0 := atoms_spec (ws := w_S_copyFiles) B.pre
  have hts : ∀ w ∈ sx_gw, w.before _ s = true := fun w h => hts0 w (List.mem_cons_of_mem _ h)
  have hown : s.vm.findClass R_S = some m.cls := findClass_of_methodNamed B.named
  have hlocks := B.notSynchronized
  subst hsz
  have hD := hD0.self (sz := s.heap.size)
  generalize hAe : va_A (wSS cA o a1 o2 a2 v f lk v2 f2 lk2) s.heap.size = A at hD ⊢
  have hA : ∀ q : Nat, s.heap.size ≤ q → A q := fun q h => by rw [← hAe]; exact Or.inr h
  have hS : va_S A s.heap s.heap [] := va_S.rf
  have hl := lv_entry ([.ref o, .ref o2, .long w]) (n := 4) (Nat.le_of_ble_eq_true rfl)
  rw [lg_entry_eq]
  generalize (lg_sl ([.ref o, .ref o2, .long w]) ++ List.replicate (4 - (lg_sl ([.ref o, .ref o2, .long w])).length) Slot.unset).toArray = ls at hl ⊢
  have hl : lv_has ls 4 [(0, .ref o), (1, .ref o2), (2, .long w)] := hl
  refine lv_aload_n hx hb d_S_copyFiles_0 rfl (lv_at hl 0 rfl) ?_
  refine lv_aload_n hx hb d_S_copyFiles_1 rfl (lv_at hl 1 rfl) ?_
  refine va_get (D := D) (ci := 2) (v := .long f2) (C := R_S) (T := T_S) (N := 3) hx hb hts iw_S hown hK.1 hP 2 rfl rfl 1 (by decide) (hts _ wd_58) (fun _ h9 => h9) rfl d_S_copyFiles_2 ?_
  refine lv_lload_n hx hb d_S_copyFiles_5 rfl (lv_at hl 2 rfl) ?_
  refine lv_land hx hb d_S_copyFiles_6 ?_
  refine va_put (D := D) (ci := 2) (v := .long (f2 &&& w)) (ty := .long) (C := R_S) (T := T_S) (N := 3) hx hb hts iw_S t_S o_S n_S hown hK.1 hP hD hS 0 rfl rfl 1 (by decide) (hts _ wd_58) (fun _ h9 => h9) rfl (by decide +kernel) rfl rfl (Nat.le_of_ble_eq_true rfl) d_S_copyFiles_7 (fun H locs hP hD hS => ?_)
  have hP : va_P D vwCl (wSS cA o a1 o2 a2 v (f2 &&& w) lk v2 f2 lk2) H := hP
  have hD : va_D A (wSS cA o a1 o2 a2 v (f2 &&& w) lk v2 f2 lk2) := hD
  refine lv_aload_n hx hb d_S_copyFiles_10 rfl (lv_at hl 0 rfl) ?_
  refine lv_lconst (v := 0) hx hb d_S_copyFiles_11 (by decide +kernel) ?_
  refine va_put (D := D) (ci := 2) (v := .long 0) (ty := .long) (C := R_S) (T := T_S) (N := 3) hx hb hts iw_S t_S o_S n_S hown hK.1 hP hD hS 0 rfl rfl 2 (by decide) (hts _ wd_59) (fun _ h9 => h9) rfl (by decide +kernel) rfl rfl (Nat.le_of_ble_eq_true rfl) d_S_copyFiles_12 (fun H locs hP hD hS => ?_)
  have hP : va_P D vwCl (wSS cA o a1 o2 a2 v (f2 &&& w) 0 v2 f2 lk2) H := hP
  have hD : va_D A (wSS cA o a1 o2 a2 v (f2 &&& w) 0 v2 f2 lk2) := hD
  refine lv_aload_n hx hb d_S_copyFiles_15 rfl (lv_at hl 1 rfl) ?_
  refine va_get (D := D) (ci := 2) (v := .ref a2) (C := R_S) (T := T_S) (N := 3) hx hb hts iw_S hown hK.1 hP 2 rfl rfl 0 (by decide) (hts _ wd_57) (fun _ h9 => h9) rfl d_S_copyFiles_16 ?_
  refine lv_iconst (v := nI 0) hx hb d_S_copyFiles_19 (by decide +kernel) ?_
  refine lv_aload_n hx hb d_S_copyFiles_20 rfl (lv_at hl 0 rfl) ?_
  refine va_get (D := D) (ci := 2) (v := .ref a1) (C := R_S) (T := T_S) (N := 3) hx hb hts iw_S hown hK.1 hP 0 rfl rfl 0 (by decide) (hts _ wd_57) (fun _ h9 => h9) rfl d_S_copyFiles_21 ?_
  refine lv_iconst (v := nI 0) hx hb d_S_copyFiles_24 (by decide +kernel) ?_
  refine lv_bipush (v := nI 60) hx hb d_S_copyFiles_25 (by decide +kernel) ?_
  refine va_copyi hx hb (by rw [hml]; exact hl.1.symm) hown (hts _ wd_253) (hts _ wd_255) (hts _ wd_254) (hts _ wd_7) hK.1 hP hD hS 3 1 0 0 rfl rfl rfl rfl rfl (by decide +kernel) (by decide +kernel) (by decide +kernel) (by decide +kernel) (by decide +kernel) (fun _ _ => rfl) (Nat.le_of_ble_eq_true rfl) (Nat.le_of_ble_eq_true rfl) d_S_copyFiles_27 (fun H locs hP hD hS => ?_)
  have hP : va_P D vwCl (wSS cA o a1 o2 a2 (va_cpy v2 v 0 0 60) (f2 &&& w) 0 v2 f2 lk2) H := hP
  have hD : va_D A (wSS cA o a1 o2 a2 (va_cpy v2 v 0 0 60) (f2 &&& w) 0 v2 f2 lk2) := hD
  have hP9 : va_P D vwCl (wSS cA o a1 o2 a2 (va_cpy v2 v 0 0 60) (f2 &&& w) 0 v2 f2 lk2) H := hP
  have hD9 : va_D A (wSS cA o a1 o2 a2 (va_cpy v2 v 0 0 60) (f2 &&& w) 0 v2 f2 lk2) := hD
  exact W.vret hx hb hr (fun t ht hW => ⟨⟨(), rfl, trivial, by rw [ht]; exact hP9, by rw [hAe]; exact hD9⟩, hS.F ht⟩) hS.2.2 d_S_copyFiles_30

set_option maxHeartbeats 4000000 in
set_option maxRecDepth 100000 in
theorem k_leads (l : Launch) (D : va_G) (cA : Nat → ClassId) (o a1 : Nat) (v : Nat → Int32) (f lk : Int64) (x0 : Int32) : Met l y_S_leadsTo w_S_leadsTo ({ frames := 2, cells := 0, slots := 0, locals := 42 }) (sx_Pr D cA [.ref o, .int x0] (wS cA o a1 v f lk)) (vp_Si (fun r => r = sx_lR v f lk 5 x0)) 0 0 (fun _ => False) := by
  refine Met.ofW (cc := b_S_leadsTo) (maxL := 4) (ret := (some .int)) (by decide) rfl ?_
  intro pG eG s m args below meth cG s₁ B hml hv
  obtain ⟨rfl, hP, hK⟩ := hv
  have hx := B.exec
  have hb := B.bytes
  have hr := B.returns
  have hts0 := atoms_spec (ws := w_S_leadsTo) B.pre
  have hts : ∀ w ∈ sx_gw, w.before _ s = true := fun w h => hts0 w (List.mem_cons_of_mem _ h)
  have hown : s.vm.findClass R_S = some m.cls := findClass_of_methodNamed B.named
  have hlocks := B.notSynchronized
  have hl := lv_entry ([.ref o, .int x0]) (n := 4) (Nat.le_of_ble_eq_true rfl)
  rw [lg_entry_eq]
  generalize (lg_sl ([.ref o, .int x0]) ++ List.replicate (4 - (lg_sl ([.ref o, .int x0])).length) Slot.unset).toArray = ls at hl ⊢
  have hl : lv_has ls 4 [(0, .ref o), (1, .int x0)] := hl
  refine lv_iload_n hx hb d_S_leadsTo_0 rfl (lv_at hl 1 rfl) ?_
  refine lv_istore_n (lv' := [(2, .int x0), (0, .ref o), (1, .int x0)]) hx hb d_S_leadsTo_1 rfl hl (by decide) rfl (fun ls hl => ?_)
  refine lv_iconst (v := nI 0) hx hb d_S_leadsTo_2 (by decide +kernel) ?_
  refine lv_istore_n (lv' := [(3, .int (nI 0)), (2, .int x0), (0, .ref o), (1, .int x0)]) hx hb d_S_leadsTo_3 rfl hl (by decide) rfl (fun ls hl => ?_)
  refine sx_loop (σ := Nat × Int32) (fun x => x.1 ≤ 5 ∧ sx_lR v f lk 5 x0 = sx_lR v f lk (5 - x.1) x.2) (fun x => [(3, .int (nI x.1)), (2, .int x.2), (0, .ref o)]) (fun x => 5 - x.1) (0, x0) (⟨by omega, rfl⟩) (lv_sub hl [0, 1, 2] rfl) (fun x hJ ih ls hl => ?_)
  obtain ⟨k, y⟩ := x
  obtain ⟨hk, hJ⟩ := hJ
  have hl : lv_has ls 4 [(3, .int (nI k)), (2, .int y), (0, .ref o)] := hl
  have ih_4 := ih
  refine lv_iload_n hx hb d_S_leadsTo_4 rfl (lv_at hl 0 rfl) ?_
  refine lv_iconst (v := nI 4) hx hb d_S_leadsTo_5 (by decide +kernel) ?_
  refine lv_icmp_gt (tgt := 62) hx hb d_S_leadsTo_6 (by decide) (fun c_1 => ?_) (fun c_1 => ?_)
  · have c_1 : 4 < k := (nI_ltI (by decide) (by omega)).mp c_1
    refine lv_iconst (v := nI 0) hx hb d_S_leadsTo_62 (by decide +kernel) ?_
    exact W.iret (v := nI 0) hx hb hr (fun t ht hW => ⟨nI 0, rfl, (by rw [hJ, show 5 - k = 0 by omega]; rfl), ht⟩) (fun _ h => by cases h) d_S_leadsTo_63
  · have c_1 : k ≤ 4 := Nat.not_lt.mp (fun z => c_1 ((nI_ltI (by decide) (by omega)).mpr z))
    refine lv_iload_n hx hb d_S_leadsTo_9 rfl (lv_at hl 1 rfl) ?_
    refine vp_callSi (va_runS (As := [.int y]) (rest := []) ⟨hx, hb, hml, hown, hts⟩ (k_canHold l D cA y) (va_cwS 1 hts (sx_GS wd_135 wd_136 wd_4 wd_137) rfl rfl rfl (by decide +kernel) ⟨Nat.le_of_ble_eq_true rfl, Nat.le_of_ble_eq_true rfl⟩) (sx_preS hK (sx_P0 : va_P D vwCl [] s.heap)) rfl rfl hl.1 rfl (lv_room (Nat.le_of_ble_eq_true rfl)) d_S_leadsTo_10 ⟨Nat.le_of_ble_eq_true rfl, Nat.le_of_ble_eq_true rfl⟩).run (fun r_3 hr_2 => ?_)
    subst hr_2
    refine lv_if_ne (tgt := 18) hx hb d_S_leadsTo_13 (by decide) (fun c_4 => ?_) (fun c_4 => ?_)
    · have c_4 : (sx_has 60 y) = true := sx_bIn c_4
      obtain ⟨j, hj, rfl⟩ := sx_has_t (by decide) c_4
      refine lv_aload_n hx hb d_S_leadsTo_18 rfl (lv_at hl 2 rfl) ?_
      refine va_get (D := D) (ci := 2) (v := .long f) (C := R_S) (T := T_S) (N := 3) hx hb hts iw_S hown hK.1 hP 0 rfl rfl 1 (by decide) (hts _ wd_58) (fun _ h9 => h9) rfl d_S_leadsTo_19 ?_
      refine lv_iload_n hx hb d_S_leadsTo_22 rfl (lv_at hl 1 rfl) ?_
      refine vp_callSi (va_runSN (As := [.long f, .int (nI j)]) (rest := []) ⟨hx, hb, hml, hown, hts⟩ (k_holds l D cA f j (by omega)) ⟨va_cnB 2 hts (sx_GI wd_110) rfl rfl rfl (hK.2.1 _ wd_147) (hts _ wd_1) (by decide +kernel) ⟨Nat.le_of_ble_eq_true rfl, Nat.le_of_ble_eq_true rfl⟩, hts _ wd_109, trivial⟩ (sx_preS hK (sx_P0 : va_P D vwCl [] s.heap)) rfl rfl hl.1 rfl (lv_room (Nat.le_of_ble_eq_true rfl)) d_S_leadsTo_23 ⟨Nat.le_of_ble_eq_true rfl, Nat.le_of_ble_eq_true rfl⟩).run (fun r_6 hr_5 => ?_)
      subst hr_5
      refine lv_if_eq (tgt := 36) hx hb d_S_leadsTo_26 (by decide) (fun c_7 => ?_) (fun c_7 => ?_)
      · have c_7 : (sx_bt f j) = false := sx_bI0 c_7
        refine lv_aload_n hx hb d_S_leadsTo_36 rfl (lv_at hl 2 rfl) ?_
        refine va_get (D := D) (ci := 2) (v := .long lk) (C := R_S) (T := T_S) (N := 3) hx hb hts iw_S hown hK.1 hP 0 rfl rfl 2 (by decide) (hts _ wd_59) (fun _ h9 => h9) rfl d_S_leadsTo_37 ?_
        refine lv_iload_n hx hb d_S_leadsTo_40 rfl (lv_at hl 1 rfl) ?_
        refine vp_callSi (va_runSN (As := [.long lk, .int (nI j)]) (rest := []) ⟨hx, hb, hml, hown, hts⟩ (k_holds l D cA lk j (by omega)) ⟨va_cnB 2 hts (sx_GI wd_110) rfl rfl rfl (hK.2.1 _ wd_147) (hts _ wd_1) (by decide +kernel) ⟨Nat.le_of_ble_eq_true rfl, Nat.le_of_ble_eq_true rfl⟩, hts _ wd_109, trivial⟩ (sx_preS hK (sx_P0 : va_P D vwCl [] s.heap)) rfl rfl hl.1 rfl (lv_room (Nat.le_of_ble_eq_true rfl)) d_S_leadsTo_41 ⟨Nat.le_of_ble_eq_true rfl, Nat.le_of_ble_eq_true rfl⟩).run (fun r_9 hr_8 => ?_)
        subst hr_8
        refine lv_if_ne (tgt := 49) hx hb d_S_leadsTo_44 (by decide) (fun c_10 => ?_) (fun c_10 => ?_)
        · have c_10 : (sx_bt lk j) = true := sx_bIn c_10
          refine lv_aload_n hx hb d_S_leadsTo_49 rfl (lv_at hl 2 rfl) ?_
          refine va_get (D := D) (ci := 2) (v := .ref a1) (C := R_S) (T := T_S) (N := 3) hx hb hts iw_S hown hK.1 hP 0 rfl rfl 0 (by decide) (hts _ wd_57) (fun _ h9 => h9) rfl d_S_leadsTo_50 ?_
          refine lv_iload_n hx hb d_S_leadsTo_53 rfl (lv_at hl 1 rfl) ?_
          refine va_iald hx hb hK.1 hP 1 0 rfl rfl (vp_in_nI (by omega) (by decide)) d_S_leadsTo_54 ?_
          refine sx_asi (congrArg v (nI_clamp (by omega))) ?_
          refine lv_istore_n (lv' := [(2, .int (v j)), (3, .int (nI k)), (0, .ref o)]) hx hb d_S_leadsTo_55 rfl hl (by decide) rfl (fun ls hl => ?_)
          refine lv_iinc (v := nI (k + 1)) (lv' := [(3, .int (nI (k + 1))), (2, .int (v j)), (0, .ref o)]) hx hb d_S_leadsTo_56 hl (k := 1) rfl (nI_1 k) (by decide) rfl (fun ls hl => ?_)
          refine lv_goto (tgt := 4) hx hb d_S_leadsTo_59 (by decide) ?_
          exact ih_4 (k + 1, v j) (⟨by omega, by rw [hJ, show 5 - k = (5 - (k + 1)) + 1 by omega, sx_lR_link hj c_7 c_10]⟩) (by omega) ls (lv_sub hl [0, 1, 2] rfl)
        · have c_10 : (sx_bt lk j) = false := sx_bI0 c_10
          refine lv_iconst (v := nI 0) hx hb d_S_leadsTo_47 (by decide +kernel) ?_
          exact W.iret (v := nI 0) hx hb hr (fun t ht hW => ⟨nI 0, rfl, (by rw [hJ]; exact (sx_lR_none hj c_7 c_10).symm), ht⟩) (fun _ h => by cases h) d_S_leadsTo_48
      · have c_7 : (sx_bt f j) = true := sx_bIn c_7
        refine lv_aload_n hx hb d_S_leadsTo_29 rfl (lv_at hl 2 rfl) ?_
        refine va_get (D := D) (ci := 2) (v := .ref a1) (C := R_S) (T := T_S) (N := 3) hx hb hts iw_S hown hK.1 hP 0 rfl rfl 0 (by decide) (hts _ wd_57) (fun _ h9 => h9) rfl d_S_leadsTo_30 ?_
        refine lv_iload_n hx hb d_S_leadsTo_33 rfl (lv_at hl 1 rfl) ?_
        refine va_iald hx hb hK.1 hP 1 0 rfl rfl (vp_in_nI (by omega) (by decide)) d_S_leadsTo_34 ?_
        refine sx_asi (congrArg v (nI_clamp (by omega))) ?_
        exact W.iret (v := v j) hx hb hr (fun t ht hW => ⟨v j, rfl, (by rw [hJ, show 5 - k = (5 - (k + 1)) + 1 by omega]; exact (sx_lR_file hj c_7).symm), ht⟩) (fun _ h => by cases h) d_S_leadsTo_35
    · have c_4 : (sx_has 60 y) = false := sx_bI0 c_4
      refine lv_iconst (v := nI 0) hx hb d_S_leadsTo_16 (by decide +kernel) ?_
      exact W.iret (v := nI 0) hx hb hr (fun t ht hW => ⟨nI 0, rfl, (by rw [hJ]; exact (sx_lR_no c_4).symm), ht⟩) (fun _ h => by cases h) d_S_leadsTo_17

set_option maxHeartbeats 4000000 in
set_option maxRecDepth 100000 in
theorem k_loose (l : Launch) (D : va_G) (cA : Nat → ClassId) (o a1 : Nat) (v : Nat → Int32) (f lk : Int64) (w : Int64) : Met l y_S_hasLooseLink w_S_hasLooseLink ({ frames := 3, cells := 0, slots := 0, locals := 65 }) (sx_Pr D cA [.ref o, .long w] (wS cA o a1 v f lk)) (vp_Si (fun r => r = sx_bI (sx_any (fun p => sx_bt (lk &&& w) p && decide (sx_lR v f lk 5 (nI p) = 0)) 60))) 0 0 (fun _ => False) := by
  refine Met.ofW (cc := b_S_hasLooseLink) (maxL := 4) (ret := (some .boolean)) (by decide) rfl ?_
  intro pG eG s m args below meth cG s₁ B hml hv
  obtain ⟨rfl, hP, hK⟩ := hv
  have hx := B.exec
  have hb := B.bytes
  have hr := B.returns
  have hts0 := atoms_spec (ws := w_S_hasLooseLink) B.pre
  have hts : ∀ w ∈ sx_gw, w.before _ s = true := fun w h => hts0 w (List.mem_cons_of_mem _ h)
  have hown : s.vm.findClass R_S = some m.cls := findClass_of_methodNamed B.named
  have hlocks := B.notSynchronized
  have hl := lv_entry ([.ref o, .long w]) (n := 4) (Nat.le_of_ble_eq_true rfl)
  rw [lg_entry_eq]
  generalize (lg_sl ([.ref o, .long w]) ++ List.replicate (4 - (lg_sl ([.ref o, .long w])).length) Slot.unset).toArray = ls at hl ⊢
  have hl : lv_has ls 4 [(0, .ref o), (1, .long w)] := hl
  refine lv_iconst (v := nI 0) hx hb d_S_hasLooseLink_0 (by decide +kernel) ?_
  refine lv_istore_n (lv' := [(3, .int (nI 0)), (0, .ref o), (1, .long w)]) hx hb d_S_hasLooseLink_1 rfl hl (by decide) rfl (fun ls hl => ?_)
  refine sx_loop (σ := Nat) (fun x => x ≤ 60 ∧ sx_any (fun p => sx_bt (lk &&& w) p && decide (sx_lR v f lk 5 (nI p) = 0)) x = false) (fun x => [(3, .int (nI x)), (0, .ref o), (1, .long w)]) (fun x => 60 - x) 0 (⟨by omega, rfl⟩) (lv_sub hl [0, 1, 2] rfl) (fun x hJ ih ls hl => ?_)
  obtain ⟨i, rfl⟩ : ∃ y, y = x := ⟨_, rfl⟩
  obtain ⟨hi, hJ⟩ := hJ
  have hl : lv_has ls 4 [(3, .int (nI i)), (0, .ref o), (1, .long w)] := hl
  have ih_2 := ih
  refine lv_iload_n hx hb d_S_hasLooseLink_2 rfl (lv_at hl 0 rfl) ?_
  refine lv_bipush (v := nI 60) hx hb d_S_hasLooseLink_3 (by decide +kernel) ?_
  refine lv_icmp_ge (tgt := 37) hx hb d_S_hasLooseLink_5 (by decide) (fun c_1 => ?_) (fun c_1 => ?_)
  · have c_1 : 60 ≤ i := (nI_leI (by decide) (by omega)).mp c_1
    refine lv_iconst (v := nI 0) hx hb d_S_hasLooseLink_37 (by decide +kernel) ?_
    exact W.zret (v := nI 0) (ty := .boolean) hx hb hr (by decide +kernel) (fun t ht hW => ⟨nI 0, rfl, sx_b0 (by rw [show 60 = i by omega]; exact hJ), ht⟩) (fun _ h => by cases h) d_S_hasLooseLink_38
  · have c_1 : i < 60 := Nat.not_le.mp (fun z => c_1 ((nI_leI (by decide) (by omega)).mpr z))
    refine lv_aload_n hx hb d_S_hasLooseLink_8 rfl (lv_at hl 1 rfl) ?_
    refine va_get (D := D) (ci := 2) (v := .long lk) (C := R_S) (T := T_S) (N := 3) hx hb hts iw_S hown hK.1 hP 0 rfl rfl 2 (by decide) (hts _ wd_59) (fun _ h9 => h9) rfl d_S_hasLooseLink_9 ?_
    refine lv_lload_n hx hb d_S_hasLooseLink_12 rfl (lv_at hl 2 rfl) ?_
    refine lv_land hx hb d_S_hasLooseLink_13 ?_
    refine lv_iload_n hx hb d_S_hasLooseLink_14 rfl (lv_at hl 0 rfl) ?_
    refine vp_callSi (va_runSN (As := [.long (lk &&& w), .int (nI i)]) (rest := []) ⟨hx, hb, hml, hown, hts⟩ (k_holds l D cA (lk &&& w) i (by omega)) ⟨va_cnB 2 hts (sx_GI wd_110) rfl rfl rfl (hK.2.1 _ wd_147) (hts _ wd_1) (by decide +kernel) ⟨Nat.le_of_ble_eq_true rfl, Nat.le_of_ble_eq_true rfl⟩, hts _ wd_109, trivial⟩ (sx_preS hK (sx_P0 : va_P D vwCl [] s.heap)) rfl rfl hl.1 rfl (lv_room (Nat.le_of_ble_eq_true rfl)) d_S_hasLooseLink_15 ⟨Nat.le_of_ble_eq_true rfl, Nat.le_of_ble_eq_true rfl⟩).run (fun r_3 hr_2 => ?_)
    subst hr_2
    refine lv_if_eq (tgt := 31) hx hb d_S_hasLooseLink_18 (by decide) (fun c_4 => ?_) (fun c_4 => ?_)
    · have c_4 : (sx_bt (lk &&& w) i) = false := sx_bI0 c_4
      refine lv_iinc (v := nI (i + 1)) (lv' := [(3, .int (nI (i + 1))), (0, .ref o), (1, .long w)]) hx hb d_S_hasLooseLink_31 hl (k := 0) rfl (nI_1 i) (by decide) rfl (fun ls hl => ?_)
      refine lv_goto (tgt := 2) hx hb d_S_hasLooseLink_34 (by decide) ?_
      exact ih_2 (i + 1) (⟨by omega, sx_any_s hJ (by rw [c_4]; rfl)⟩) (by omega) ls (lv_sub hl [0, 1, 2] rfl)
    · have c_4 : (sx_bt (lk &&& w) i) = true := sx_bIn c_4
      refine lv_aload_n hx hb d_S_hasLooseLink_21 rfl (lv_at hl 1 rfl) ?_
      refine lv_iload_n hx hb d_S_hasLooseLink_22 rfl (lv_at hl 0 rfl) ?_
      refine vp_callSi (va_runV (As := [.int (nI i)]) (rest := []) ⟨hx, hb, hml, hown, hts⟩ (k_leads l D cA o a1 v f lk (nI i)) (cwV 1 hts (sx_GV wd_333 wd_144 wd_145 wd_4 wd_146) rfl rfl rfl (by decide +kernel) ⟨Nat.le_of_ble_eq_true rfl, Nat.le_of_ble_eq_true rfl⟩) (sx_preV hK hP (va_recv hK.1 hP (ci := 2) (q0 := 0) rfl rfl)) rfl rfl hl.1 rfl (lv_room (Nat.le_of_ble_eq_true rfl)) d_S_hasLooseLink_23 ⟨Nat.le_of_ble_eq_true rfl, Nat.le_of_ble_eq_true rfl⟩).run (fun r_6 hr_5 => ?_)
      subst hr_5
      refine lv_if_ne (tgt := 31) hx hb d_S_hasLooseLink_26 (by decide) (fun c_7 => ?_) (fun c_7 => ?_)
      · refine lv_iinc (v := nI (i + 1)) (lv' := [(3, .int (nI (i + 1))), (0, .ref o), (1, .long w)]) hx hb d_S_hasLooseLink_31 hl (k := 0) rfl (nI_1 i) (by decide) rfl (fun ls hl => ?_)
        refine lv_goto (tgt := 2) hx hb d_S_hasLooseLink_34 (by decide) ?_
        exact ih_2 (i + 1) (⟨by omega, sx_any_s hJ (by rw [decide_eq_false c_7, Bool.and_false])⟩) (by omega) ls (lv_sub hl [0, 1, 2] rfl)
      · refine lv_iconst (v := nI 1) hx hb d_S_hasLooseLink_29 (by decide +kernel) ?_
        exact W.zret (v := nI 1) (ty := .boolean) hx hb hr (by decide +kernel) (fun t ht hW => ⟨nI 1, rfl, sx_b1 (sx_any_t.mpr ⟨i, by omega, by rw [c_4, decide_eq_true c_7]; rfl⟩), ht⟩) (fun _ h => by cases h) d_S_hasLooseLink_30
