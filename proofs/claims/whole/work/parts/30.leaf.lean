set_option maxHeartbeats 4000000 in
set_option maxRecDepth 100000 in
theorem k_only (l : Launch) (D : va_G) (cA : Nat → ClassId) (j : Nat) : Met l y_X_only w_X_only ({ frames := 0, cells := 0, slots := 0, locals := 0 }) (sx_Pr D cA [.int (nI j)] ([])) (vp_Sl (fun r => r = sx_on j)) 0 0 (fun _ => False) := by
  refine Met.ofW (cc := b_X_only) (maxL := 1) (ret := (some .long)) (by decide) rfl ?_
  intro pG eG s m args below meth cG s₁ B hml hv
  obtain ⟨rfl, hP, hK⟩ := hv
  have hx := B.exec
  have hb := B.bytes
  have hr := B.returns
  have hts0 := atoms_spec (ws := w_X_only) B.pre
  have hts : ∀ w ∈ sx_gw, w.before _ s = true := fun w h => hts0 w (List.mem_cons_of_mem _ h)
  have hown : s.vm.findClass R_X = some m.cls := findClass_of_methodNamed B.named
  have hlocks := B.notSynchronized
  have hl := lv_entry ([.int (nI j)]) (n := 1) (Nat.le_of_ble_eq_true rfl)
  rw [lg_entry_eq]
  generalize (lg_sl ([.int (nI j)]) ++ List.replicate (1 - (lg_sl ([.int (nI j)])).length) Slot.unset).toArray = ls at hl ⊢
  have hl : lv_has ls 1 [(0, .int (nI j))] := hl
  refine lv_lconst (v := 1) hx hb d_X_only_0 (by decide +kernel) ?_
  refine lv_iload_n hx hb d_X_only_1 rfl (lv_at hl 0 rfl) ?_
  refine lv_lshl (v := sx_on j) hx hb d_X_only_2 rfl ?_
  exact W.lret (v := sx_on j) hx hb hr (fun t ht hW => ⟨sx_on j, rfl, rfl, ht⟩) (fun _ h => by cases h) d_X_only_3

set_option maxHeartbeats 4000000 in
set_option maxRecDepth 100000 in
theorem k_holds (l : Launch) (D : va_G) (cA : Nat → ClassId) (w : Int64) (j : Nat) (hj : j < 64) : Met l y_X_holds w_X_holds ({ frames := 1, cells := 0, slots := 0, locals := 20 }) (sx_Pr D cA [.long w, .int (nI j)] ([])) (vp_Si (fun r => r = sx_bI (sx_bt w j))) 0 0 (fun _ => False) := by
  refine Met.ofW (cc := b_X_holds) (maxL := 3) (ret := (some .boolean)) (by decide) rfl ?_
  intro pG eG s m args below meth cG s₁ B hml hv
  obtain ⟨rfl, hP, hK⟩ := hv
  have hx := B.exec
  have hb := B.bytes
  have hr := B.returns
  have hts0 := atoms_spec (ws := w_X_holds) B.pre
  have hts : ∀ w ∈ sx_gw, w.before _ s = true := fun w h => hts0 w (List.mem_cons_of_mem _ h)
  have hown : s.vm.findClass R_X = some m.cls := findClass_of_methodNamed B.named
  have hlocks := B.notSynchronized
  have hl := lv_entry ([.long w, .int (nI j)]) (n := 3) (Nat.le_of_ble_eq_true rfl)
  rw [lg_entry_eq]
  generalize (lg_sl ([.long w, .int (nI j)]) ++ List.replicate (3 - (lg_sl ([.long w, .int (nI j)])).length) Slot.unset).toArray = ls at hl ⊢
  have hl : lv_has ls 3 [(0, .long w), (2, .int (nI j))] := hl
  refine lv_lload_n hx hb d_X_holds_0 rfl (lv_at hl 0 rfl) ?_
  refine lv_iload_n hx hb d_X_holds_1 rfl (lv_at hl 1 rfl) ?_
  refine vp_callSl (va_runS (As := [.int (nI j)]) (rest := [.long w]) ⟨hx, hb, hml, hown, hts⟩ (k_only l D cA j) (va_cwS 1 hts (sx_GS wd_111 wd_30 wd_1 wd_31) rfl rfl rfl (by decide +kernel) ⟨Nat.le_of_ble_eq_true rfl, Nat.le_of_ble_eq_true rfl⟩) (sx_preS hK (sx_P0 : va_P D vwCl [] s.heap)) rfl rfl hl.1 rfl (lv_room (Nat.le_of_ble_eq_true rfl)) d_X_holds_2 ⟨Nat.le_of_ble_eq_true rfl, Nat.le_of_ble_eq_true rfl⟩).run (fun r_2 hr_1 => ?_)
  subst hr_1
  refine lv_land hx hb d_X_holds_5 ?_
  refine lv_lconst (v := 0) hx hb d_X_holds_6 (by decide +kernel) ?_
  refine W.lcmp hx hb d_X_holds_7 ?_
  refine lv_if_eq (tgt := 15) hx hb d_X_holds_8 (by decide) (fun c_3 => ?_) (fun c_3 => ?_)
  · have c_3 : w &&& (sx_on j) = 0 := sx_cmp0.mp c_3
    refine lv_iconst (v := nI 0) hx hb d_X_holds_15 (by decide +kernel) ?_
    exact W.zret (v := nI 0) (ty := .boolean) hx hb hr (by decide +kernel) (fun t ht hW => ⟨nI 0, rfl, (by first | exact sx_b1 (sx_holdsN hj (by assumption)) | exact sx_b0 ((sx_holds hj).mp (by assumption))), ht⟩) (fun _ h => by cases h) d_X_holds_16
  · have c_3 : ¬ (w &&& (sx_on j)) = 0 := fun z => c_3 (sx_cmp0.mpr z)
    refine lv_iconst (v := nI 1) hx hb d_X_holds_11 (by decide +kernel) ?_
    refine lv_goto (tgt := 16) hx hb d_X_holds_12 (by decide) ?_
    exact W.zret (v := nI 1) (ty := .boolean) hx hb hr (by decide +kernel) (fun t ht hW => ⟨nI 1, rfl, (by first | exact sx_b1 (sx_holdsN hj (by assumption)) | exact sx_b0 ((sx_holds hj).mp (by assumption))), ht⟩) (fun _ h => by cases h) d_X_holds_16

set_option maxHeartbeats 4000000 in
set_option maxRecDepth 100000 in
theorem k_canHold (l : Launch) (D : va_G) (cA : Nat → ClassId) (p : Int32) : Met l y_S_canHold w_S_canHold ({ frames := 0, cells := 0, slots := 0, locals := 0 }) (sx_Pr D cA [.int p] ([])) (vp_Si (fun r => r = sx_bI (sx_has 60 p))) 0 0 (fun _ => False) := by
  refine Met.ofW (cc := b_S_canHold) (maxL := 1) (ret := (some .boolean)) (by decide) rfl ?_
  intro pG eG s m args below meth cG s₁ B hml hv
  obtain ⟨rfl, hP, hK⟩ := hv
  have hx := B.exec
  have hb := B.bytes
  have hr := B.returns
  have hts0 := atoms_spec (ws := w_S_canHold) B.pre
  have hts : ∀ w ∈ sx_gw, w.before _ s = true := fun w h => hts0 w (List.mem_cons_of_mem _ h)
  have hown : s.vm.findClass R_S = some m.cls := findClass_of_methodNamed B.named
  have hlocks := B.notSynchronized
  have hl := lv_entry ([.int p]) (n := 1) (Nat.le_of_ble_eq_true rfl)
  rw [lg_entry_eq]
  generalize (lg_sl ([.int p]) ++ List.replicate (1 - (lg_sl ([.int p])).length) Slot.unset).toArray = ls at hl ⊢
  have hl : lv_has ls 1 [(0, .int p)] := hl
  refine lv_iload_n hx hb d_S_canHold_0 rfl (lv_at hl 0 rfl) ?_
  refine lv_if_lt (tgt := 14) hx hb d_S_canHold_1 (by decide) (fun c_1 => ?_) (fun c_1 => ?_)
  · refine lv_iconst (v := nI 0) hx hb d_S_canHold_14 (by decide +kernel) ?_
    exact W.zret (v := nI 0) (ty := .boolean) hx hb hr (by decide +kernel) (fun t ht hW => ⟨nI 0, rfl, (by first | exact sx_b1 (sx_has_tt (by assumption) (by assumption)) | exact sx_b0 (sx_has_f1 (by assumption)) | exact sx_b0 (sx_has_f2 (by assumption))), ht⟩) (fun _ h => by cases h) d_S_canHold_15
  · refine lv_iload_n hx hb d_S_canHold_4 rfl (lv_at hl 0 rfl) ?_
    refine lv_bipush (v := nI 60) hx hb d_S_canHold_5 (by decide +kernel) ?_
    refine lv_icmp_ge (tgt := 14) hx hb d_S_canHold_7 (by decide) (fun c_2 => ?_) (fun c_2 => ?_)
    · refine lv_iconst (v := nI 0) hx hb d_S_canHold_14 (by decide +kernel) ?_
      exact W.zret (v := nI 0) (ty := .boolean) hx hb hr (by decide +kernel) (fun t ht hW => ⟨nI 0, rfl, (by first | exact sx_b1 (sx_has_tt (by assumption) (by assumption)) | exact sx_b0 (sx_has_f1 (by assumption)) | exact sx_b0 (sx_has_f2 (by assumption))), ht⟩) (fun _ h => by cases h) d_S_canHold_15
    · refine lv_iconst (v := nI 1) hx hb d_S_canHold_10 (by decide +kernel) ?_
      refine lv_goto (tgt := 15) hx hb d_S_canHold_11 (by decide) ?_
      exact W.zret (v := nI 1) (ty := .boolean) hx hb hr (by decide +kernel) (fun t ht hW => ⟨nI 1, rfl, (by first | exact sx_b1 (sx_has_tt (by assumption) (by assumption)) | exact sx_b0 (sx_has_f1 (by assumption)) | exact sx_b0 (sx_has_f2 (by assumption))), ht⟩) (fun _ h => by cases h) d_S_canHold_15

set_option maxHeartbeats 4000000 in
set_option maxRecDepth 100000 in
theorem k_has (l : Launch) (D : va_G) (cA : Nat → ClassId) (o a1 a2 a3 a4 : Nat) (n : Nat) (par ltr : Nat → Int32) (ab un : Nat → Int64) (p : Int32) : Met l y_P_has w_P_has ({ frames := 0, cells := 0, slots := 0, locals := 0 }) (sx_Pr D cA [.ref o, .int p] (wP cA o a1 a2 a3 a4 (nI n) par ltr ab un)) (vp_Si (fun r => r = sx_bI (sx_has n p))) 0 0 (fun _ => False) := by
  refine Met.ofW (cc := b_P_has) (maxL := 2) (ret := (some .boolean)) (by decide) rfl ?_
  intro pG eG s m args below meth cG s₁ B hml hv
  obtain ⟨rfl, hP, hK⟩ := hv
  have hx := B.exec
  have hb := B.bytes
  have hr := B.returns
  have hts0 := atoms_spec (ws := w_P_has) B.pre
  have hts : ∀ w ∈ sx_gw, w.before _ s = true := fun w h => hts0 w (List.mem_cons_of_mem _ h)
  have hown : s.vm.findClass R_P = some m.cls := findClass_of_methodNamed B.named
  have hlocks := B.notSynchronized
  have hl := lv_entry ([.ref o, .int p]) (n := 2) (Nat.le_of_ble_eq_true rfl)
  rw [lg_entry_eq]
  generalize (lg_sl ([.ref o, .int p]) ++ List.replicate (2 - (lg_sl ([.ref o, .int p])).length) Slot.unset).toArray = ls at hl ⊢
  have hl : lv_has ls 2 [(0, .ref o), (1, .int p)] := hl
  refine lv_iload_n hx hb d_P_has_0 rfl (lv_at hl 1 rfl) ?_
  refine lv_if_lt (tgt := 16) hx hb d_P_has_1 (by decide) (fun c_1 => ?_) (fun c_1 => ?_)
  · refine lv_iconst (v := nI 0) hx hb d_P_has_16 (by decide +kernel) ?_
    exact W.zret (v := nI 0) (ty := .boolean) hx hb hr (by decide +kernel) (fun t ht hW => ⟨nI 0, rfl, (by first | exact sx_b1 (sx_has_tt (by assumption) (by assumption)) | exact sx_b0 (sx_has_f1 (by assumption)) | exact sx_b0 (sx_has_f2 (by assumption))), ht⟩) (fun _ h => by cases h) d_P_has_17
  · refine lv_iload_n hx hb d_P_has_4 rfl (lv_at hl 1 rfl) ?_
    refine lv_aload_n hx hb d_P_has_5 rfl (lv_at hl 0 rfl) ?_
    refine va_get (D := D) (ci := 1) (v := .int (nI n)) (C := R_P) (T := T_P) (N := 5) hx hb hts iw_P hown hK.1 hP 0 rfl rfl 4 (by decide) (hts _ wd_36) (fun _ h9 => h9) rfl d_P_has_6 ?_
    refine lv_icmp_ge (tgt := 16) hx hb d_P_has_9 (by decide) (fun c_2 => ?_) (fun c_2 => ?_)
    · refine lv_iconst (v := nI 0) hx hb d_P_has_16 (by decide +kernel) ?_
      exact W.zret (v := nI 0) (ty := .boolean) hx hb hr (by decide +kernel) (fun t ht hW => ⟨nI 0, rfl, (by first | exact sx_b1 (sx_has_tt (by assumption) (by assumption)) | exact sx_b0 (sx_has_f1 (by assumption)) | exact sx_b0 (sx_has_f2 (by assumption))), ht⟩) (fun _ h => by cases h) d_P_has_17
    · refine lv_iconst (v := nI 1) hx hb d_P_has_12 (by decide +kernel) ?_
      refine lv_goto (tgt := 17) hx hb d_P_has_13 (by decide) ?_
      exact W.zret (v := nI 1) (ty := .boolean) hx hb hr (by decide +kernel) (fun t ht hW => ⟨nI 1, rfl, (by first | exact sx_b1 (sx_has_tt (by assumption) (by assumption)) | exact sx_b0 (sx_has_f1 (by assumption)) | exact sx_b0 (sx_has_f2 (by assumption))), ht⟩) (fun _ h => by cases h) d_P_has_17

set_option maxHeartbeats 4000000 in
set_option maxRecDepth 100000 in
theorem k_find (l : Launch) (D : va_G) (cA : Nat → ClassId) (o a1 a2 a3 a4 : Nat) (n : Nat) (α : sx_A) (ab un : Nat → Int64) (h1 : 1 ≤ n) (hn : n ≤ 60) (hDI : sx_DI n α) (pp cc : Int32) : Met l y_P_find w_P_find ({ frames := 0, cells := 0, slots := 0, locals := 0 }) (sx_Pr D cA [.ref o, .int pp, .int cc] (wP cA o a1 a2 a3 a4 (nI n) (α 1) (α 2) ab un)) (vp_Si (fun r => r = sx_ch α pp cc n)) 0 0 (fun _ => False) := by
  refine Met.ofW (cc := b_P_find) (maxL := 4) (ret := (some .int)) (by decide) rfl ?_
  intro pG eG s m args below meth cG s₁ B hml hv
  obtain ⟨rfl, hP, hK⟩ := hv
  have hx := B.exec
  have hb := B.bytes
  have hr := B.returns
  have hts0 := atoms_spec (ws := w_P_find) B.pre
  have hts : ∀ w ∈ sx_gw, w.before _ s = true := fun w h => hts0 w (List.mem_cons_of_mem _ h)
  have hown : s.vm.findClass R_P = some m.cls := findClass_of_methodNamed B.named
  have hlocks := B.notSynchronized
  have hl := lv_entry ([.ref o, .int pp, .int cc]) (n := 4) (Nat.le_of_ble_eq_true rfl)
  rw [lg_entry_eq]
  generalize (lg_sl ([.ref o, .int pp, .int cc]) ++ List.replicate (4 - (lg_sl ([.ref o, .int pp, .int cc])).length) Slot.unset).toArray = ls at hl ⊢
  have hl : lv_has ls 4 [(0, .ref o), (1, .int pp), (2, .int cc)] := hl
  refine lv_iconst (v := nI 1) hx hb d_P_find_0 (by decide +kernel) ?_
  refine lv_istore_n (lv' := [(3, .int (nI 1)), (0, .ref o), (1, .int pp), (2, .int cc)]) hx hb d_P_find_1 rfl hl (by decide) rfl (fun ls hl => ?_)
  refine sx_loop (σ := Nat) (fun x => 1 ≤ x ∧ x ≤ n ∧ ∀ k, 0 < k → k < x → ¬ (α 1 k = pp ∧ α 2 k = cc)) (fun x => [(3, .int (nI x)), (0, .ref o), (1, .int pp), (2, .int cc)]) (fun x => n - x) 1 (⟨by omega, by omega, fun k a b => by omega⟩) (lv_sub hl [0, 1, 2, 3] rfl) (fun x hJ ih ls hl => ?_)
  obtain ⟨i, rfl⟩ : ∃ y, y = x := ⟨_, rfl⟩
  obtain ⟨hi1, hin, hno⟩ := hJ
  have hl : lv_has ls 4 [(3, .int (nI i)), (0, .ref o), (1, .int pp), (2, .int cc)] := hl
  have ih_2 := ih
  refine lv_iload_n hx hb d_P_find_2 rfl (lv_at hl 0 rfl) ?_
  refine lv_aload_n hx hb d_P_find_3 rfl (lv_at hl 1 rfl) ?_
  refine va_get (D := D) (ci := 1) (v := .int (nI n)) (C := R_P) (T := T_P) (N := 5) hx hb hts iw_P hown hK.1 hP 0 rfl rfl 4 (by decide) (hts _ wd_36) (fun _ h9 => h9) rfl d_P_find_4 ?_
  refine lv_icmp_ge (tgt := 38) hx hb d_P_find_7 (by decide) (fun c_1 => ?_) (fun c_1 => ?_)
  · have c_1 : n ≤ i := (nI_leI (by omega) (by omega)).mp c_1
    refine lv_iconst (v := (-1)) hx hb d_P_find_38 (by decide +kernel) ?_
    exact W.iret (v := (-1)) hx hb hr (fun t ht hW => ⟨(-1), rfl, (sx_ch_none (by omega) (by rw [show n = i by omega]; exact hno)).symm, ht⟩) (fun _ h => by cases h) d_P_find_39
  · have c_1 : i < n := Nat.not_le.mp (fun z => c_1 ((nI_leI (by omega) (by omega)).mpr z))
    refine lv_aload_n hx hb d_P_find_10 rfl (lv_at hl 1 rfl) ?_
    refine va_get (D := D) (ci := 1) (v := .ref a1) (C := R_P) (T := T_P) (N := 5) hx hb hts iw_P hown hK.1 hP 0 rfl rfl 0 (by decide) (hts _ wd_32) (fun _ h9 => h9) rfl d_P_find_11 ?_
    refine lv_iload_n hx hb d_P_find_14 rfl (lv_at hl 0 rfl) ?_
    refine va_iald hx hb hK.1 hP 1 0 rfl rfl (vp_in_nI (by omega) (by decide)) d_P_find_15 ?_
    refine sx_asi (congrArg (α 1) (nI_clamp (by omega))) ?_
    refine lv_iload_n hx hb d_P_find_16 rfl (lv_at hl 2 rfl) ?_
    refine lv_icmp_ne (tgt := 32) hx hb d_P_find_17 (by decide) (fun c_2 => ?_) (fun c_2 => ?_)
    · refine lv_iinc (v := nI (i + 1)) (lv' := [(3, .int (nI (i + 1))), (0, .ref o), (1, .int pp), (2, .int cc)]) hx hb d_P_find_32 hl (k := 0) rfl (nI_1 i) (by decide) rfl (fun ls hl => ?_)
      refine lv_goto (tgt := 2) hx hb d_P_find_35 (by decide) ?_
      exact ih_2 (i + 1) (⟨by omega, by omega, sx_all_s hno (by first | exact fun q => absurd q.1 (by assumption) | exact fun q => absurd q.2 (by assumption))⟩) (by omega) ls (lv_sub hl [0, 1, 2, 3] rfl)
    · refine lv_aload_n hx hb d_P_find_20 rfl (lv_at hl 1 rfl) ?_
      refine va_get (D := D) (ci := 1) (v := .ref a2) (C := R_P) (T := T_P) (N := 5) hx hb hts iw_P hown hK.1 hP 0 rfl rfl 1 (by decide) (hts _ wd_33) (fun _ h9 => h9) rfl d_P_find_21 ?_
      refine lv_iload_n hx hb d_P_find_24 rfl (lv_at hl 0 rfl) ?_
      refine va_cald hx hb hK.1 hP 2 2 rfl rfl (vp_in_nI (by omega) (by decide)) d_P_find_25 ?_
      refine sx_asi (congrArg (α 2) (nI_clamp (by omega))) ?_
      refine lv_iload_n hx hb d_P_find_26 rfl (lv_at hl 3 rfl) ?_
      refine lv_icmp_ne (tgt := 32) hx hb d_P_find_27 (by decide) (fun c_3 => ?_) (fun c_3 => ?_)
      · refine lv_iinc (v := nI (i + 1)) (lv' := [(3, .int (nI (i + 1))), (0, .ref o), (1, .int pp), (2, .int cc)]) hx hb d_P_find_32 hl (k := 0) rfl (nI_1 i) (by decide) rfl (fun ls hl => ?_)
        refine lv_goto (tgt := 2) hx hb d_P_find_35 (by decide) ?_
        exact ih_2 (i + 1) (⟨by omega, by omega, sx_all_s hno (by first | exact fun q => absurd q.1 (by assumption) | exact fun q => absurd q.2 (by assumption))⟩) (by omega) ls (lv_sub hl [0, 1, 2, 3] rfl)
      · refine lv_iload_n hx hb d_P_find_30 rfl (lv_at hl 0 rfl) ?_
        exact W.iret (v := nI i) hx hb hr (fun t ht hW => ⟨nI i, rfl, (sx_ch_some (by omega) hDI (by omega) (by omega) c_2 c_3).symm, ht⟩) (fun _ h => by cases h) d_P_find_31

set_option maxHeartbeats 4000000 in
set_option maxRecDepth 100000 in
theorem k_under (l : Launch) (D : va_G) (cA : Nat → ClassId) (o a1 a2 a3 a4 : Nat) (n : Nat) (par ltr : Nat → Int32) (ab un : Nat → Int64) (j : Nat) (hj : j < n) (hn : n ≤ 60) : Met l y_P_under w_P_under ({ frames := 1, cells := 0, slots := 0, locals := 21 }) (sx_Pr D cA [.ref o, .int (nI j)] (wP cA o a1 a2 a3 a4 (nI n) par ltr ab un)) (vp_Sl (fun r => r = un j)) 0 0 (fun _ => False) := by
  refine Met.ofW (cc := b_P_under) (maxL := 2) (ret := (some .long)) (by decide) rfl ?_
  intro pG eG s m args below meth cG s₁ B hml hv
  obtain ⟨rfl, hP, hK⟩ := hv
  have hx := B.exec
  have hb := B.bytes
  have hr := B.returns
  have hts0 := atoms_spec (ws := w_P_under) B.pre
  have hts : ∀ w ∈ sx_gw, w.before _ s = true := fun w h => hts0 w (List.mem_cons_of_mem _ h)
  have hown : s.vm.findClass R_P = some m.cls := findClass_of_methodNamed B.named
  have hlocks := B.notSynchronized
  have hl := lv_entry ([.ref o, .int (nI j)]) (n := 2) (Nat.le_of_ble_eq_true rfl)
  rw [lg_entry_eq]
  generalize (lg_sl ([.ref o, .int (nI j)]) ++ List.replicate (2 - (lg_sl ([.ref o, .int (nI j)])).length) Slot.unset).toArray = ls at hl ⊢
  have hl : lv_has ls 2 [(0, .ref o), (1, .int (nI j))] := hl
  refine lv_aload_n hx hb d_P_under_0 rfl (lv_at hl 0 rfl) ?_
  refine lv_iload_n hx hb d_P_under_1 rfl (lv_at hl 1 rfl) ?_
  refine vp_callSi (va_runV (As := [.int (nI j)]) (rest := []) ⟨hx, hb, hml, hown, hts⟩ (k_has l D cA o a1 a2 a3 a4 n par ltr ab un (nI j)) (cwV 1 hts (sx_GV wd_107 wd_93 wd_94 wd_3 wd_95) rfl rfl rfl (by decide +kernel) ⟨Nat.le_of_ble_eq_true rfl, Nat.le_of_ble_eq_true rfl⟩) (sx_preV hK hP (va_recv hK.1 hP (ci := 1) (q0 := 0) rfl rfl)) rfl rfl hl.1 rfl (lv_room (Nat.le_of_ble_eq_true rfl)) d_P_under_2 ⟨Nat.le_of_ble_eq_true rfl, Nat.le_of_ble_eq_true rfl⟩).run (fun r_2 hr_1 => ?_)
  rw [sx_has_nI (by omega) (by omega)] at hr_1
  subst hr_1
  refine lv_if_eq (tgt := 17) hx hb d_P_under_5 (by decide) (fun c_3 => ?_) (fun c_3 => ?_)
  · exact absurd c_3 (by decide)
  · refine lv_aload_n hx hb d_P_under_8 rfl (lv_at hl 0 rfl) ?_
    refine va_get (D := D) (ci := 1) (v := .ref a4) (C := R_P) (T := T_P) (N := 5) hx hb hts iw_P hown hK.1 hP 0 rfl rfl 3 (by decide) (hts _ wd_35) (fun _ h9 => h9) rfl d_P_under_9 ?_
    refine lv_iload_n hx hb d_P_under_12 rfl (lv_at hl 1 rfl) ?_
    refine va_lald hx hb hK.1 hP 4 3 rfl rfl (vp_in_nI (by omega) (by decide)) d_P_under_13 ?_
    refine sx_asl (congrArg un (nI_clamp (by omega))) ?_
    refine lv_goto (tgt := 18) hx hb d_P_under_14 (by decide) ?_
    exact W.lret (v := un j) hx hb hr (fun t ht hW => ⟨un j, rfl, rfl, ht⟩) (fun _ h => by cases h) d_P_under_18

set_option maxHeartbeats 4000000 in
set_option maxRecDepth 100000 in
theorem k_way (l : Launch) (D : va_G) (cA : Nat → ClassId) (o a1 a2 a3 a4 : Nat) (n : Nat) (par ltr : Nat → Int32) (ab un : Nat → Int64) (j : Nat) (hj : j < n) (hn : n ≤ 60) : Met l y_P_inTheWayOf w_P_inTheWayOf ({ frames := 1, cells := 0, slots := 0, locals := 21 }) (sx_Pr D cA [.ref o, .int (nI j)] (wP cA o a1 a2 a3 a4 (nI n) par ltr ab un)) (vp_Sl (fun r => r = (ab j ||| un j) &&& (sx_on j ^^^ (-1)))) 0 0 (fun _ => False) := by
  refine Met.ofW (cc := b_P_inTheWayOf) (maxL := 2) (ret := (some .long)) (by decide) rfl ?_
  intro pG eG s m args below meth cG s₁ B hml hv
  obtain ⟨rfl, hP, hK⟩ := hv
  have hx := B.exec
  have hb := B.bytes
  have hr := B.returns
  have hts0 := atoms_spec (ws := w_P_inTheWayOf) B.pre
  have hts : ∀ w ∈ sx_gw, w.before _ s = true := fun w h => hts0 w (List.mem_cons_of_mem _ h)
  have hown : s.vm.findClass R_P = some m.cls := findClass_of_methodNamed B.named
  have hlocks := B.notSynchronized
  have hl := lv_entry ([.ref o, .int (nI j)]) (n := 2) (Nat.le_of_ble_eq_true rfl)
  rw [lg_entry_eq]
  generalize (lg_sl ([.ref o, .int (nI j)]) ++ List.replicate (2 - (lg_sl ([.ref o, .int (nI j)])).length) Slot.unset).toArray = ls at hl ⊢
  have hl : lv_has ls 2 [(0, .ref o), (1, .int (nI j))] := hl
  refine lv_aload_n hx hb d_P_inTheWayOf_0 rfl (lv_at hl 0 rfl) ?_
  refine lv_iload_n hx hb d_P_inTheWayOf_1 rfl (lv_at hl 1 rfl) ?_
  refine vp_callSi (va_runV (As := [.int (nI j)]) (rest := []) ⟨hx, hb, hml, hown, hts⟩ (k_has l D cA o a1 a2 a3 a4 n par ltr ab un (nI j)) (cwV 1 hts (sx_GV wd_107 wd_93 wd_94 wd_3 wd_95) rfl rfl rfl (by decide +kernel) ⟨Nat.le_of_ble_eq_true rfl, Nat.le_of_ble_eq_true rfl⟩) (sx_preV hK hP (va_recv hK.1 hP (ci := 1) (q0 := 0) rfl rfl)) rfl rfl hl.1 rfl (lv_room (Nat.le_of_ble_eq_true rfl)) d_P_inTheWayOf_2 ⟨Nat.le_of_ble_eq_true rfl, Nat.le_of_ble_eq_true rfl⟩).run (fun r_2 hr_1 => ?_)
  rw [sx_has_nI (by omega) (by omega)] at hr_1
  subst hr_1
  refine lv_if_eq (tgt := 33) hx hb d_P_inTheWayOf_5 (by decide) (fun c_3 => ?_) (fun c_3 => ?_)
  · exact absurd c_3 (by decide)
  · refine lv_aload_n hx hb d_P_inTheWayOf_8 rfl (lv_at hl 0 rfl) ?_
    refine va_get (D := D) (ci := 1) (v := .ref a3) (C := R_P) (T := T_P) (N := 5) hx hb hts iw_P hown hK.1 hP 0 rfl rfl 2 (by decide) (hts _ wd_34) (fun _ h9 => h9) rfl d_P_inTheWayOf_9 ?_
    refine lv_iload_n hx hb d_P_inTheWayOf_12 rfl (lv_at hl 1 rfl) ?_
    refine va_lald hx hb hK.1 hP 3 3 rfl rfl (vp_in_nI (by omega) (by decide)) d_P_inTheWayOf_13 ?_
    refine sx_asl (congrArg ab (nI_clamp (by omega))) ?_
    refine lv_aload_n hx hb d_P_inTheWayOf_14 rfl (lv_at hl 0 rfl) ?_
    refine va_get (D := D) (ci := 1) (v := .ref a4) (C := R_P) (T := T_P) (N := 5) hx hb hts iw_P hown hK.1 hP 0 rfl rfl 3 (by decide) (hts _ wd_35) (fun _ h9 => h9) rfl d_P_inTheWayOf_15 ?_
    refine lv_iload_n hx hb d_P_inTheWayOf_18 rfl (lv_at hl 1 rfl) ?_
    refine va_lald hx hb hK.1 hP 4 3 rfl rfl (vp_in_nI (by omega) (by decide)) d_P_inTheWayOf_19 ?_
    refine sx_asl (congrArg un (nI_clamp (by omega))) ?_
    refine lv_lor hx hb d_P_inTheWayOf_20 ?_
    refine lv_iload_n hx hb d_P_inTheWayOf_21 rfl (lv_at hl 1 rfl) ?_
    refine vp_callSl (va_runSN (As := [.int (nI j)]) (rest := [.long ((ab j) ||| (un j))]) ⟨hx, hb, hml, hown, hts⟩ (k_only l D cA j) ⟨va_cnB 1 hts (sx_GI wd_31) rfl rfl rfl (hK.2.1 _ wd_29) (hts _ wd_1) (by decide +kernel) ⟨Nat.le_of_ble_eq_true rfl, Nat.le_of_ble_eq_true rfl⟩, hts _ wd_30, trivial⟩ (sx_preS hK (sx_P0 : va_P D vwCl [] s.heap)) rfl rfl hl.1 rfl (lv_room (Nat.le_of_ble_eq_true rfl)) d_P_inTheWayOf_22 ⟨Nat.le_of_ble_eq_true rfl, Nat.le_of_ble_eq_true rfl⟩).run (fun r_5 hr_4 => ?_)
    subst hr_4
    refine lv_ldc2 (own := R_P) (v := (-1)) hx hb hown (hts _ wd_120) d_P_inTheWayOf_25 ?_
    refine lv_lxor hx hb d_P_inTheWayOf_28 ?_
    refine lv_land hx hb d_P_inTheWayOf_29 ?_
    refine lv_goto (tgt := 34) hx hb d_P_inTheWayOf_30 (by decide) ?_
    exact W.lret (v := ((ab j) ||| (un j)) &&& ((sx_on j) ^^^ (-1))) hx hb hr (fun t ht hW => ⟨((ab j) ||| (un j)) &&& ((sx_on j) ^^^ (-1)), rfl, rfl, ht⟩) (fun _ h => by cases h) d_P_inTheWayOf_34

set_option maxHeartbeats 4000000 in
set_option maxRecDepth 100000 in
theorem k_addF (l : Launch) (D : va_G) (cA : Nat → ClassId) (o a1 a2 a3 a4 : Nat) (n : Nat) (par ltr : Nat → Int32) (ab un : Nat → Int64) (hn : n = 60) (j : Nat) (hj : j < n) (ch : Int32) : Met l y_P_add w_P_add ({ frames := 1, cells := 0, slots := 0, locals := 21 }) (sx_Pr D cA [.ref o, .int (nI j), .int ch] (wP cA o a1 a2 a3 a4 (nI n) par ltr ab un)) (vp_Si (fun r => r = -1)) 0 0 (fun _ => False) := by
  refine Met.ofW (cc := b_P_add) (maxL := 5) (ret := (some .int)) (by decide) rfl ?_
  intro pG eG s m args below meth cG s₁ B hml hv
  obtain ⟨rfl, hP, hK⟩ := hv
  have hx := B.exec
  have hb := B.bytes
  have hr := B.returns
  have hts0 := atoms_spec (ws := w_P_add) B.pre
  have hts : ∀ w ∈ sx_gw, w.before _ s = true := fun w h => hts0 w (List.mem_cons_of_mem _ h)
  have hown : s.vm.findClass R_P = some m.cls := findClass_of_methodNamed B.named
  have hlocks := B.notSynchronized
  have hl := lv_entry ([.ref o, .int (nI j), .int ch]) (n := 5) (Nat.le_of_ble_eq_true rfl)
  rw [lg_entry_eq]
  generalize (lg_sl ([.ref o, .int (nI j), .int ch]) ++ List.replicate (5 - (lg_sl ([.ref o, .int (nI j), .int ch])).length) Slot.unset).toArray = ls at hl ⊢
  have hl : lv_has ls 5 [(0, .ref o), (1, .int (nI j)), (2, .int ch)] := hl
  refine lv_aload_n hx hb d_P_add_0 rfl (lv_at hl 0 rfl) ?_
  refine lv_iload_n hx hb d_P_add_1 rfl (lv_at hl 1 rfl) ?_
  refine vp_callSi (va_runV (As := [.int (nI j)]) (rest := []) ⟨hx, hb, hml, hown, hts⟩ (k_has l D cA o a1 a2 a3 a4 n par ltr ab un (nI j)) (cwV 1 hts (sx_GV wd_107 wd_93 wd_94 wd_3 wd_95) rfl rfl rfl (by decide +kernel) ⟨Nat.le_of_ble_eq_true rfl, Nat.le_of_ble_eq_true rfl⟩) (sx_preV hK hP (va_recv hK.1 hP (ci := 1) (q0 := 0) rfl rfl)) rfl rfl hl.1 rfl (lv_room (Nat.le_of_ble_eq_true rfl)) d_P_add_2 ⟨Nat.le_of_ble_eq_true rfl, Nat.le_of_ble_eq_true rfl⟩).run (fun r_2 hr_1 => ?_)
  rw [sx_has_nI (by omega) (by omega)] at hr_1
  subst hr_1
  refine lv_if_eq (tgt := 17) hx hb d_P_add_5 (by decide) (fun c_3 => ?_) (fun c_3 => ?_)
  · exact absurd c_3 (by decide)
  · refine lv_aload_n hx hb d_P_add_8 rfl (lv_at hl 0 rfl) ?_
    refine va_get (D := D) (ci := 1) (v := .int (nI n)) (C := R_P) (T := T_P) (N := 5) hx hb hts iw_P hown hK.1 hP 0 rfl rfl 4 (by decide) (hts _ wd_36) (fun _ h9 => h9) rfl d_P_add_9 ?_
    refine lv_bipush (v := nI 60) hx hb d_P_add_12 (by decide +kernel) ?_
    refine lv_icmp_lt (tgt := 19) hx hb d_P_add_14 (by decide) (fun c_4 => ?_) (fun c_4 => ?_)
    · have c_4 : n < 60 := (nI_ltI (by omega) (by decide)).mp c_4
      omega
    · have c_4 : 60 ≤ n := Nat.not_lt.mp (fun z => c_4 ((nI_ltI (by omega) (by decide)).mpr z))
      refine lv_iconst (v := (-1)) hx hb d_P_add_17 (by decide +kernel) ?_
      exact W.iret (v := (-1)) hx hb hr (fun t ht hW => ⟨(-1), rfl, rfl, ht⟩) (fun _ h => by cases h) d_P_add_18

set_option maxHeartbeats 4000000 in
set_option maxRecDepth 100000 in
theorem k_add (l : Launch) (D : va_G) (cA : Nat → ClassId) (sz : Nat) (o a1 a2 a3 a4 : Nat) (n : Nat) (par ltr : Nat → Int32) (ab un : Nat → Int64) (hn : n < 60) (h1 : 1 ≤ n) (j : Nat) (hj : j < n) (ch : Int32) (hch : vp_nar .char ch = ch) : Met l y_P_add w_P_add ({ frames := 2, cells := 0, slots := 0, locals := 42 }) (sx_Pw D cA [.ref o, .int (nI j), .int ch] (wP cA o a1 a2 a3 a4 (nI n) par ltr ab un) sz) (va_Qi (fun r (_ : Unit) => r = nI n) (sx_Bw D (wP cA o a1 a2 a3 a4 (nI n) par ltr ab un) sz (fun _ => wP cA o a1 a2 a3 a4 (nI (n + 1)) (upd par n (nI j)) (upd ltr n ch) (vp_updL ab n (ab j ||| sx_on n)) (sx_unG un (ab j ||| sx_on n) n (n + 1)))) (va_A (wP cA o a1 a2 a3 a4 (nI n) par ltr ab un) sz)) 0 0 (va_A (wP cA o a1 a2 a3 a4 (nI n) par ltr ab un) sz) := by
  refine Met.ofW (cc := b_P_add) (maxL := 5) (ret := (some .int)) (by decide) rfl ?_
  intro pG eG s m args below meth cG s₁ B hml hv
  obtain ⟨rfl, hsz, hP, hK, hD0⟩ := hv
  have hx := B.exec
  have hb := B.bytes
  have hr := B.returns
  have hts0 := atoms_spec (ws := w_P_add) B.pre
  have hts : ∀ w ∈ sx_gw, w.before _ s = true := fun w h => hts0 w (List.mem_cons_of_mem _ h)
  have hown : s.vm.findClass R_P = some m.cls := findClass_of_methodNamed B.named
  have hlocks := B.notSynchronized
  subst hsz
  have hD := hD0.self (sz := s.heap.size)
  generalize hAe : va_A (wP cA o a1 a2 a3 a4 (nI n) par ltr ab un) s.heap.size = A at hD ⊢
  have hA : ∀ q : Nat, s.heap.size ≤ q → A q := fun q h => by rw [← hAe]; exact Or.inr h
  have hS : va_S A s.heap s.heap [] := va_S.rf
  have hl := lv_entry ([.ref o, .int (nI j), .int ch]) (n := 5) (Nat.le_of_ble_eq_true rfl)
  rw [lg_entry_eq]
  generalize (lg_sl ([.ref o, .int (nI j), .int ch]) ++ List.replicate (5 - (lg_sl ([.ref o, .int (nI j), .int ch])).length) Slot.unset).toArray = ls at hl ⊢
  have hl : lv_has ls 5 [(0, .ref o), (1, .int (nI j)), (2, .int ch)] := hl
  refine lv_aload_n hx hb d_P_add_0 rfl (lv_at hl 0 rfl) ?_
  refine lv_iload_n hx hb d_P_add_1 rfl (lv_at hl 1 rfl) ?_
  refine vp_callSi (va_runV (As := [.int (nI j)]) (rest := []) ⟨hx, hb, hml, hown, hts⟩ (k_has l D cA o a1 a2 a3 a4 n par ltr ab un (nI j)) (cwV 1 hts (sx_GV wd_107 wd_93 wd_94 wd_3 wd_95) rfl rfl rfl (by decide +kernel) ⟨Nat.le_of_ble_eq_true rfl, Nat.le_of_ble_eq_true rfl⟩) (sx_preV hK hP (va_recv hK.1 hP (ci := 1) (q0 := 0) rfl rfl)) rfl rfl hl.1 rfl (lv_room (Nat.le_of_ble_eq_true rfl)) d_P_add_2 ⟨Nat.le_of_ble_eq_true rfl, Nat.le_of_ble_eq_true rfl⟩).run (fun r_2 hr_1 => ?_)
  rw [sx_has_nI (by omega) (by omega)] at hr_1
  subst hr_1
  refine lv_if_eq (tgt := 17) hx hb d_P_add_5 (by decide) (fun c_3 => ?_) (fun c_3 => ?_)
  · exact absurd c_3 (by decide)
  · refine lv_aload_n hx hb d_P_add_8 rfl (lv_at hl 0 rfl) ?_
    refine va_get (D := D) (ci := 1) (v := .int (nI n)) (C := R_P) (T := T_P) (N := 5) hx hb hts iw_P hown hK.1 hP 0 rfl rfl 4 (by decide) (hts _ wd_36) (fun _ h9 => h9) rfl d_P_add_9 ?_
    refine lv_bipush (v := nI 60) hx hb d_P_add_12 (by decide +kernel) ?_
    refine lv_icmp_lt (tgt := 19) hx hb d_P_add_14 (by decide) (fun c_4 => ?_) (fun c_4 => ?_)
    · have c_4 : n < 60 := (nI_ltI (by omega) (by decide)).mp c_4
      refine lv_aload_n hx hb d_P_add_19 rfl (lv_at hl 0 rfl) ?_
      refine va_get (D := D) (ci := 1) (v := .int (nI n)) (C := R_P) (T := T_P) (N := 5) hx hb hts iw_P hown hK.1 hP 0 rfl rfl 4 (by decide) (hts _ wd_36) (fun _ h9 => h9) rfl d_P_add_20 ?_
      refine lv_istore_n (lv' := [(3, .int (nI n)), (0, .ref o), (1, .int (nI j)), (2, .int ch)]) hx hb d_P_add_23 rfl hl (by decide) rfl (fun ls hl => ?_)
      refine lv_aload_n hx hb d_P_add_24 rfl (lv_at hl 1 rfl) ?_
      refine lv_dup hx hb d_P_add_25 rfl ?_
      refine va_get (D := D) (ci := 1) (v := .int (nI n)) (C := R_P) (T := T_P) (N := 5) hx hb hts iw_P hown hK.1 hP 0 rfl rfl 4 (by decide) (hts _ wd_36) (fun _ h9 => h9) rfl d_P_add_26 ?_
      refine lv_iconst (v := nI 1) hx hb d_P_add_29 (by decide +kernel) ?_
      refine lv_iadd hx hb d_P_add_30 ?_
      refine sx_asi (y := nI (n + 1)) (nI_add n 1) ?_
      refine va_put (D := D) (ci := 1) (v := .int (nI (n + 1))) (ty := .int) (C := R_P) (T := T_P) (N := 5) hx hb hts iw_P t_P o_P n_P hown hK.1 hP hD hS 0 rfl rfl 4 (by decide) (hts _ wd_36) (fun _ h9 => h9) rfl (by decide +kernel) rfl rfl (Nat.le_of_ble_eq_true rfl) d_P_add_31 (fun H locs hP hD hS => ?_)
      have hP : va_P D vwCl (wP cA o a1 a2 a3 a4 (nI (n + 1)) par ltr ab un) H := hP
      have hD : va_D A (wP cA o a1 a2 a3 a4 (nI (n + 1)) par ltr ab un) := hD
      refine lv_aload_n hx hb d_P_add_34 rfl (lv_at hl 1 rfl) ?_
      refine va_get (D := D) (ci := 1) (v := .ref a1) (C := R_P) (T := T_P) (N := 5) hx hb hts iw_P hown hK.1 hP 0 rfl rfl 0 (by decide) (hts _ wd_32) (fun _ h9 => h9) rfl d_P_add_35 ?_
      refine lv_iload_n hx hb d_P_add_38 rfl (lv_at hl 0 rfl) ?_
      refine lv_iload_n hx hb d_P_add_39 rfl (lv_at hl 2 rfl) ?_
      refine va_iast hx hb hK.1 hP hD hS 1 0 rfl rfl (vp_in_nI (by omega) (by decide)) d_P_add_40 (fun H locs hP hD hS => ?_)
      rw [nI_clamp (by omega)] at hP hD
      have hP : va_P D vwCl (wP cA o a1 a2 a3 a4 (nI (n + 1)) (upd par n (nI j)) ltr ab un) H := hP
      have hD : va_D A (wP cA o a1 a2 a3 a4 (nI (n + 1)) (upd par n (nI j)) ltr ab un) := hD
      refine lv_aload_n hx hb d_P_add_41 rfl (lv_at hl 1 rfl) ?_
      refine va_get (D := D) (ci := 1) (v := .ref a2) (C := R_P) (T := T_P) (N := 5) hx hb hts iw_P hown hK.1 hP 0 rfl rfl 1 (by decide) (hts _ wd_33) (fun _ h9 => h9) rfl d_P_add_42 ?_
      refine lv_iload_n hx hb d_P_add_45 rfl (lv_at hl 0 rfl) ?_
      refine lv_iload_n hx hb d_P_add_46 rfl (lv_at hl 3 rfl) ?_
      refine va_cast hx hb hK.1 hP hD hS 2 2 rfl rfl (vp_in_nI (by omega) (by decide)) d_P_add_47 (fun H locs hP hD hS => ?_)
      rw [nI_clamp (by omega)] at hP hD
      rw [show vp_nar .char ch = ch from hch] at hP hD
      have hP : va_P D vwCl (wP cA o a1 a2 a3 a4 (nI (n + 1)) (upd par n (nI j)) (upd ltr n ch) ab un) H := hP
      have hD : va_D A (wP cA o a1 a2 a3 a4 (nI (n + 1)) (upd par n (nI j)) (upd ltr n ch) ab un) := hD
      refine lv_aload_n hx hb d_P_add_48 rfl (lv_at hl 1 rfl) ?_
      refine va_get (D := D) (ci := 1) (v := .ref a3) (C := R_P) (T := T_P) (N := 5) hx hb hts iw_P hown hK.1 hP 0 rfl rfl 2 (by decide) (hts _ wd_34) (fun _ h9 => h9) rfl d_P_add_49 ?_
      refine lv_iload_n hx hb d_P_add_52 rfl (lv_at hl 0 rfl) ?_
      refine lv_aload_n hx hb d_P_add_53 rfl (lv_at hl 1 rfl) ?_
      refine va_get (D := D) (ci := 1) (v := .ref a3) (C := R_P) (T := T_P) (N := 5) hx hb hts iw_P hown hK.1 hP 0 rfl rfl 2 (by decide) (hts _ wd_34) (fun _ h9 => h9) rfl d_P_add_54 ?_
      refine lv_iload_n hx hb d_P_add_57 rfl (lv_at hl 2 rfl) ?_
      refine va_lald hx hb hK.1 hP 3 3 rfl rfl (vp_in_nI (by omega) (by decide)) d_P_add_58 ?_
      refine sx_asl (congrArg ab (nI_clamp (by omega))) ?_
      refine lv_iload_n hx hb d_P_add_59 rfl (lv_at hl 0 rfl) ?_
      refine vp_callSl (va_runSN (As := [.int (nI n)]) (rest := [.long (ab j), .int (nI n), .ref a3]) ⟨hx, hb, hml, hown, hts⟩ (k_only l D cA n) ⟨va_cnB 1 hts (sx_GI wd_31) rfl rfl rfl (hK.2.1 _ wd_29) (hts _ wd_1) (by decide +kernel) ⟨Nat.le_of_ble_eq_true rfl, Nat.le_of_ble_eq_true rfl⟩, hts _ wd_30, trivial⟩ (sx_preS hK (sx_P0 : va_P D vwCl [] H)) rfl rfl hl.1 rfl (lv_room (Nat.le_of_ble_eq_true rfl)) d_P_add_60 ⟨Nat.le_of_ble_eq_true rfl, Nat.le_of_ble_eq_true rfl⟩).run (fun r_6 hr_5 => ?_)
      subst hr_5
      refine lv_lor hx hb d_P_add_63 ?_
      refine va_last hx hb hK.1 hP hD hS 3 3 rfl rfl (vp_in_nI (by omega) (by decide)) d_P_add_64 (fun H locs hP hD hS => ?_)
      rw [nI_clamp (by omega)] at hP hD
      have hP : va_P D vwCl (wP cA o a1 a2 a3 a4 (nI (n + 1)) (upd par n (nI j)) (upd ltr n ch) (vp_updL ab n ((ab j) ||| (sx_on n))) un) H := hP
      have hD : va_D A (wP cA o a1 a2 a3 a4 (nI (n + 1)) (upd par n (nI j)) (upd ltr n ch) (vp_updL ab n ((ab j) ||| (sx_on n))) un) := hD
      refine lv_iconst (v := nI 0) hx hb d_P_add_65 (by decide +kernel) ?_
      refine lv_istore (lv' := [(4, .int (nI 0)), (3, .int (nI n)), (0, .ref o), (1, .int (nI j)), (2, .int ch)]) hx hb d_P_add_66 hl (by decide) rfl (fun ls hl => ?_)
      have hP : va_P D vwCl (wP cA o a1 a2 a3 a4 (nI (n + 1)) (upd par n (nI j)) (upd ltr n ch) (vp_updL ab n ((ab j) ||| (sx_on n))) (sx_unG un (ab j ||| sx_on n) n 0)) H := by rw [sx_unG_0]; exact hP
      have hD : va_D A (wP cA o a1 a2 a3 a4 (nI (n + 1)) (upd par n (nI j)) (upd ltr n ch) (vp_updL ab n ((ab j) ||| (sx_on n))) (sx_unG un (ab j ||| sx_on n) n 0)) := by rw [sx_unG_0]; exact hD
      refine sx_loopW (σ := Nat) (fun x => x ≤ n + 1) (fun x => [(4, .int (nI x)), (3, .int (nI n)), (0, .ref o), (1, .int (nI j)), (2, .int ch)]) (fun x => wP cA o a1 a2 a3 a4 (nI (n + 1)) (upd par n (nI j)) (upd ltr n ch) (vp_updL ab n ((ab j) ||| (sx_on n))) (sx_unG un (ab j ||| sx_on n) n x)) (fun x => n + 1 - x) 0 (Nat.zero_le _) (lv_sub hl [0, 1, 2, 3, 4] rfl) hP hD hS (fun x hJ ih ls H locs hl hP hD hS => ?_)
      obtain ⟨i, rfl⟩ : ∃ y, y = x := ⟨_, rfl⟩
      have hl : lv_has ls 5 [(4, .int (nI i)), (3, .int (nI n)), (0, .ref o), (1, .int (nI j)), (2, .int ch)] := hl
      have hP : va_P D vwCl (wP cA o a1 a2 a3 a4 (nI (n + 1)) (upd par n (nI j)) (upd ltr n ch) (vp_updL ab n ((ab j) ||| (sx_on n))) (sx_unG un (ab j ||| sx_on n) n i)) H := hP
      have hD : va_D A (wP cA o a1 a2 a3 a4 (nI (n + 1)) (upd par n (nI j)) (upd ltr n ch) (vp_updL ab n ((ab j) ||| (sx_on n))) (sx_unG un (ab j ||| sx_on n) n i)) := hD
      have ih_68 := ih
      refine lv_iload hx hb d_P_add_68 (lv_at hl 0 rfl) ?_
      refine lv_aload_n hx hb d_P_add_70 rfl (lv_at hl 2 rfl) ?_
      refine va_get (D := D) (ci := 1) (v := .int (nI (n + 1))) (C := R_P) (T := T_P) (N := 5) hx hb hts iw_P hown hK.1 hP 0 rfl rfl 4 (by decide) (hts _ wd_36) (fun _ h9 => h9) rfl d_P_add_71 ?_
      refine lv_icmp_ge (tgt := 111) hx hb d_P_add_74 (by decide) (fun c_7 => ?_) (fun c_7 => ?_)
      · have c_7 : n + 1 ≤ i := (nI_leI (by omega) (by omega)).mp c_7
        refine lv_iload_n hx hb d_P_add_111 rfl (lv_at hl 1 rfl) ?_
        have hi : i = n + 1 := by omega
        subst hi
        have hP9 : va_P D vwCl (wP cA o a1 a2 a3 a4 (nI (n + 1)) (upd par n (nI j)) (upd ltr n ch) (vp_updL ab n (ab j ||| sx_on n)) (sx_unG un (ab j ||| sx_on n) n (n + 1))) H := hP
        have hD9 : va_D A (wP cA o a1 a2 a3 a4 (nI (n + 1)) (upd par n (nI j)) (upd ltr n ch) (vp_updL ab n (ab j ||| sx_on n)) (sx_unG un (ab j ||| sx_on n) n (n + 1))) := hD
        exact W.iret (v := nI n) hx hb hr (fun t ht hW => ⟨⟨nI n, (), rfl, rfl, by rw [ht]; exact hP9, by rw [hAe]; exact hD9⟩, hS.F ht⟩) hS.2.2 d_P_add_112
      · have c_7 : i < n + 1 := Nat.not_le.mp (fun z => c_7 ((nI_leI (by omega) (by omega)).mpr z))
        refine lv_aload_n hx hb d_P_add_77 rfl (lv_at hl 2 rfl) ?_
        refine va_get (D := D) (ci := 1) (v := .ref a3) (C := R_P) (T := T_P) (N := 5) hx hb hts iw_P hown hK.1 hP 0 rfl rfl 2 (by decide) (hts _ wd_34) (fun _ h9 => h9) rfl d_P_add_78 ?_
        refine lv_iload_n hx hb d_P_add_81 rfl (lv_at hl 1 rfl) ?_
        refine va_lald hx hb hK.1 hP 3 3 rfl rfl (vp_in_nI (by omega) (by decide)) d_P_add_82 ?_
        refine sx_asl (congrArg (vp_updL ab n ((ab j) ||| (sx_on n))) (nI_clamp (by omega))) ?_
        refine sx_asl (y := ab j ||| sx_on n) pk_uLs ?_
        refine lv_iload hx hb d_P_add_83 (lv_at hl 0 rfl) ?_
        refine vp_callSi (va_runSN (As := [.long (ab j ||| sx_on n), .int (nI i)]) (rest := []) ⟨hx, hb, hml, hown, hts⟩ (k_holds l D cA (ab j ||| sx_on n) i (by omega)) ⟨va_cnB 2 hts (sx_GI wd_110) rfl rfl rfl (hK.2.1 _ wd_108) (hts _ wd_1) (by decide +kernel) ⟨Nat.le_of_ble_eq_true rfl, Nat.le_of_ble_eq_true rfl⟩, hts _ wd_109, trivial⟩ (sx_preS hK (sx_P0 : va_P D vwCl [] H)) rfl rfl hl.1 rfl (lv_room (Nat.le_of_ble_eq_true rfl)) d_P_add_85 ⟨Nat.le_of_ble_eq_true rfl, Nat.le_of_ble_eq_true rfl⟩).run (fun r_9 hr_8 => ?_)
        subst hr_8
        refine lv_if_eq (tgt := 105) hx hb d_P_add_88 (by decide) (fun c_10 => ?_) (fun c_10 => ?_)
        · have c_10 : (sx_bt (ab j ||| sx_on n) i) = false := sx_bI0 c_10
          refine lv_iinc (v := nI (i + 1)) (lv' := [(4, .int (nI (i + 1))), (3, .int (nI n)), (0, .ref o), (1, .int (nI j)), (2, .int ch)]) hx hb d_P_add_105 hl (k := 0) rfl (nI_1 i) (by decide) rfl (fun ls hl => ?_)
          refine lv_goto (tgt := 68) hx hb d_P_add_108 (by decide) ?_
          rw [sx_unG_f c_10] at hP hD
          exact ih_68 (i + 1) ((by omega : i + 1 ≤ n + 1)) (by omega) ls _ _ (lv_sub hl [0, 1, 2, 3, 4] rfl) hP hD hS
        · have c_10 : (sx_bt (ab j ||| sx_on n) i) = true := sx_bIn c_10
          refine lv_aload_n hx hb d_P_add_91 rfl (lv_at hl 2 rfl) ?_
          refine va_get (D := D) (ci := 1) (v := .ref a4) (C := R_P) (T := T_P) (N := 5) hx hb hts iw_P hown hK.1 hP 0 rfl rfl 3 (by decide) (hts _ wd_35) (fun _ h9 => h9) rfl d_P_add_92 ?_
          refine lv_iload hx hb d_P_add_95 (lv_at hl 0 rfl) ?_
          refine lv_dup2_11 hx hb d_P_add_97 rfl rfl ?_
          refine va_lald hx hb hK.1 hP 4 3 rfl rfl (vp_in_nI (by omega) (by decide)) d_P_add_98 ?_
          refine sx_asl (congrArg (sx_unG un (ab j ||| sx_on n) n i) (nI_clamp (by omega))) ?_
          refine lv_iload_n hx hb d_P_add_99 rfl (lv_at hl 1 rfl) ?_
          refine vp_callSl (va_runSN (As := [.int (nI n)]) (rest := [.long ((sx_unG un (ab j ||| sx_on n) n i) i), .int (nI i), .ref a4]) ⟨hx, hb, hml, hown, hts⟩ (k_only l D cA n) ⟨va_cnB 1 hts (sx_GI wd_31) rfl rfl rfl (hK.2.1 _ wd_29) (hts _ wd_1) (by decide +kernel) ⟨Nat.le_of_ble_eq_true rfl, Nat.le_of_ble_eq_true rfl⟩, hts _ wd_30, trivial⟩ (sx_preS hK (sx_P0 : va_P D vwCl [] H)) rfl rfl hl.1 rfl (lv_room (Nat.le_of_ble_eq_true rfl)) d_P_add_100 ⟨Nat.le_of_ble_eq_true rfl, Nat.le_of_ble_eq_true rfl⟩).run (fun r_12 hr_11 => ?_)
          subst hr_11
          refine lv_lor hx hb d_P_add_103 ?_
          refine va_last hx hb hK.1 hP hD hS 4 3 rfl rfl (vp_in_nI (by omega) (by decide)) d_P_add_104 (fun H locs hP hD hS => ?_)
          rw [nI_clamp (by omega)] at hP hD
          have hP : va_P D vwCl (wP cA o a1 a2 a3 a4 (nI (n + 1)) (upd par n (nI j)) (upd ltr n ch) (vp_updL ab n ((ab j) ||| (sx_on n))) (vp_updL (sx_unG un (ab j ||| sx_on n) n i) i (((sx_unG un (ab j ||| sx_on n) n i) i) ||| (sx_on n)))) H := hP
          have hD : va_D A (wP cA o a1 a2 a3 a4 (nI (n + 1)) (upd par n (nI j)) (upd ltr n ch) (vp_updL ab n ((ab j) ||| (sx_on n))) (vp_updL (sx_unG un (ab j ||| sx_on n) n i) i (((sx_unG un (ab j ||| sx_on n) n i) i) ||| (sx_on n)))) := hD
          refine lv_iinc (v := nI (i + 1)) (lv' := [(4, .int (nI (i + 1))), (3, .int (nI n)), (0, .ref o), (1, .int (nI j)), (2, .int ch)]) hx hb d_P_add_105 hl (k := 0) rfl (nI_1 i) (by decide) rfl (fun ls hl => ?_)
          refine lv_goto (tgt := 68) hx hb d_P_add_108 (by decide) ?_
          rw [sx_unG_t c_10] at hP hD
          exact ih_68 (i + 1) ((by omega : i + 1 ≤ n + 1)) (by omega) ls _ _ (lv_sub hl [0, 1, 2, 3, 4] rfl) hP hD hS
    · have c_4 : 60 ≤ n := Nat.not_lt.mp (fun z => c_4 ((nI_ltI (by omega) (by decide)).mpr z))
      omega
