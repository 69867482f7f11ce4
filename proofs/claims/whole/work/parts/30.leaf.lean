set_option maxHeartbeats 4000000 in
set_option maxRecDepth 100000 in
theorem k_only (l : Launch) (D : va_G) (cA : Nat → ClassId) (j : Nat) : Met l y_X_only w_X_only ({ frames := 0, cells := 0, slots := 0, locals := 0 }) (sx_Pr D cA [.int (nI j)] ([])) (vp_Sl (fun r => r = sx_on j)) 0 0 (fun _ => False) := by
  refine Met.ofW (cc := b_X_only) (maxL := 1) (ret := (some .long)) (by decide) rfl ?_
  intro pG eG s m args below meth cG s₁ B hml hv
  obtain ⟨rfl, hP, hK⟩ := hv
  have hx := B.exec
  have hb := B.bytes
  have hr := B.returns
  have hts0 := atoms_spec (ws := w_X_only) B.pre
  have hts : ∀ w ∈ sx_gw, w.before _ s = true := fun w h => hts0 w (List.mem_cons_of_mem _ h)
  have hown : s.vm.findClass R_X = some m.cls := findClass_of_methodNamed B.named
  have hlocks := B.notSynchronized
  have hl := lv_entry ([.int (nI j)]) (n := 1) (Nat.le_of_ble_eq_true rfl)
  rw [lg_entry_eq]
  generalize (lg_sl ([.int (nI j)]) ++ List.replicate (1 - (lg_sl ([.int (nI j)])).length) Slot.unset).toArray = ls at hl ⊢
  have hl : lv_has ls 1 [(0, .int (nI j))] := hl
  refine lv_lconst (v := 1) hx hb d_X_only_0 (by decide +kernel) ?_
  refine lv_iload_n hx hb d_X_only_1 rfl (lv_at hl 0 rfl) ?_
  refine lv_lshl (v := sx_on j) hx hb d_X_only_2 rfl ?_
  exact W.lret (v := sx_on j) hx hb hr (fun t ht hW => ⟨sx_on j, rfl, rfl, ht⟩) (fun _ h => by cases h) d_X_only_3

set_option maxHeartbeats 4000000 in
set_option maxRecDepth 100000 in
theorem k_holds (l : Launch) (D : va_G) (cA : Nat → ClassId) (w : Int64) (j : Nat) (hj : j < 64) : Met l y_X_holds w_X_holds ({ frames := 1, cells := 0, slots := 0, locals := 20 }) (sx_Pr D cA [.long w, .int (nI j)] ([])) (vp_Si (fun r => r = sx_bI (sx_bt w j))) 0 0 (fun _ => False) := by
  refine Met.ofW (cc := b_X_holds) (maxL := 3) (ret := (some .boolean)) (by decide) rfl ?_
  intro pG eG s m args below meth cG s₁ B hml hv
  obtain ⟨rfl, hP, hK⟩ := hv
  have hx := B.exec
  have hb := B.bytes
  have hr := B.returns
  have hts0 := atoms_spec (ws := w_X_holds) B.pre
  have hts : ∀ w ∈ sx_gw, w.before _ s = true := fun w h => hts0 w (List.mem_cons_of_mem _ h)
  have hown : s.vm.findClass R_X = some m.cls := findClass_of_methodNamed B.named
  have hlocks := B.notSynchronized
  have hl := lv_entry ([.long w, .int (nI j)]) (n := 3) (Nat.le_of_ble_eq_true rfl)
  rw [lg_entry_eq]
  generalize (lg_sl ([.long w, .int (nI j)]) ++ List.replicate (3 - (lg_sl ([.long w, .int (nI j)])).length) Slot.unset).toArray = ls at hl ⊢
  have hl : lv_has ls 3 [(0, .long w), (2, .int (nI j))] := hl
  refine lv_lload_n hx hb d_X_holds_0 rfl (lv_at hl 0 rfl) ?_
  refine lv_iload_n hx hb d_X_holds_1 rfl (lv_at hl 1 rfl) ?_
  refine vp_callSl (va_runS (As := [.int (nI j)]) (rest := [.long w]) ⟨hx, hb, hml, hown, hts⟩ (k_only l D cA j) (va_cwS 1 hts (sx_GS wd_111 wd_30 wd_1 wd_31) rfl rfl rfl (by decide +kernel) ⟨Nat.le_of_ble_eq_true rfl, Nat.le_of_ble_eq_true rfl⟩) (sx_preS hK (sx_P0 : va_P D vwCl [] s.heap)) rfl rfl hl.1 rfl (lv_room (Nat.le_of_ble_eq_true rfl)) d_X_holds_2 ⟨Nat.le_of_ble_eq_true rfl, Nat.le_of_ble_eq_true rfl⟩).run (fun r_2 hr_1 => ?_)
  subst hr_1
  refine lv_land hx hb d_X_holds_5 ?_
  refine lv_lconst (v := 0) hx hb d_X_holds_6 (by decide +kernel) ?_
  refine W.lcmp hx hb d_X_holds_7 ?_
  refine lv_if_eq (tgt := 15) hx hb d_X_holds_8 (by decide) (fun c_3 => ?_) (fun c_3 => ?_)
  · have c_3 : w &&& (sx_on j) = 0 := sx_cmp0.mp c_3
    refine lv_iconst (v := nI 0) hx hb d_X_holds_15 (by decide +kernel) ?_
    exact W.zret (v := nI 0) (ty := .boolean) hx hb hr (by decide +kernel) (fun t ht hW => ⟨nI 0, rfl, (by first | exact sx_b1 (sx_holdsN hj (by assumption)) | exact sx_b0 ((sx_holds hj).mp (by assumption))), ht⟩) (fun _ h => by cases h) d_X_holds_16
  · have c_3 : ¬ (w &&& (sx_on j)) = 0 := fun z => c_3 (sx_cmp0.mpr z)
    refine lv_iconst (v := nI 1) hx hb d_X_holds_11 (by decide +kernel) ?_
    refine lv_goto (tgt := 16) hx hb d_X_holds_12 (by decide) ?_
    exact W.zret (v := nI 1) (ty := .boolean) hx hb hr (by decide +kernel) (fun t ht hW => ⟨nI 1, rfl, (by first | exact sx_b1 (sx_holdsN hj (by assumption)) | exact sx_b0 ((sx_holds hj).mp (by assumption))), ht⟩) (fun _ h => by cases h) d_X_holds_16

set_option maxHeartbeats 4000000 in
set_option maxRecDepth 100000 in
theorem k_canHold (l : Launch) (D : va_G) (cA : Nat → ClassId) (p : Int32) : Met l y_S_canHold w_S_canHold ({ frames := 0, cells := 0, slots := 0, locals := 0 }) (sx_Pr D cA [.int p] ([])) (vp_Si (fun r => r = sx_bI (sx_has 60 p))) 0 0 (fun _ => False) := by
  refine Met.ofW (cc := b_S_canHold) (maxL := 1) (ret := (some .boolean)) (by decide) rfl ?_
  intro pG eG s m args below meth cG s₁ B hml hv
  obtain ⟨rfl, hP, hK⟩ := hv
  have hx := B.exec
  have hb := B.bytes
  have hr := B.returns
  have hts0 := atoms_spec (ws := w_S_canHold) B.pre
  have hts : ∀ w ∈ sx_gw, w.before _ s = true := fun w h => hts0 w (List.mem_cons_of_mem _ h)
  have hown : s.vm.findClass R_S = some m.cls := findClass_of_methodNamed B.named
  have hlocks := B.notSynchronized
  have hl := lv_entry ([.int p]) (n := 1) (Nat.le_of_ble_eq_true rfl)
  rw [lg_entry_eq]
  generalize (lg_sl ([.int p]) ++ List.replicate (1 - (lg_sl ([.int p])).length) Slot.unset).toArray = ls at hl ⊢
  have hl : lv_has ls 1 [(0, .int p)] := hl
  refine lv_iload_n hx hb d_S_canHold_0 rfl (lv_at hl 0 rfl) ?_
  refine lv_if_lt (tgt := 14) hx hb d_S_canHold_1 (by decide) (fun c_1 => ?_) (fun c_1 => ?_)
  · refine lv_iconst (v := nI 0) hx hb d_S_canHold_14 (by decide +kernel) ?_
    exact W.zret (v := nI 0) (ty := .boolean) hx hb hr (by decide +kernel) (fun t ht hW => ⟨nI 0, rfl, (by first | exact sx_b1 (sx_has_tt (by assumption) (by assumption)) | exact sx_b0 (sx_has_f1 (by assumption)) | exact sx_b0 (sx_has_f2 (by assumption))), ht⟩) (fun _ h => by cases h) d_S_canHold_15
  · refine lv_iload_n hx hb d_S_canHold_4 rfl (lv_at hl 0 rfl) ?_
    refine lv_bipush (v := nI 60) hx hb d_S_canHold_5 (by decide +kernel) ?_
    refine lv_icmp_ge (tgt := 14) hx hb d_S_canHold_7 (by decide) (fun c_2 => ?_) (fun c_2 => ?_)
    · refine lv_iconst (v := nI 0) hx hb d_S_canHold_14 (by decide +kernel) ?_
      exact W.zret (v := nI 0) (ty := .boolean) hx hb hr (by decide +kernel) (fun t ht hW => ⟨nI 0, rfl, (by first | exact sx_b1 (sx_has_tt (by assumption) (by assumption)) | exact sx_b0 (sx_has_f1 (by assumption)) | exact sx_b0 (sx_has_f2 (by assumption))), ht⟩) (fun _ h => by cases h) d_S_canHold_15
    · refine lv_iconst (v := nI 1) hx hb d_S_canHold_10 (by decide +kernel) ?_
      refine lv_goto (tgt := 15) hx hb d_S_canHold_11 (by decide) ?_
      exact W.zret (v := nI 1) (ty := .boolean) hx hb hr (by decide +kernel) (fun t ht hW => ⟨nI 1, rfl, (by first | exact sx_b1 (sx_has_tt (by assumption) (by assumption)) | exact sx_b0 (sx_has_f1 (by assumption)) | exact sx_b0 (sx_has_f2 (by assumption))), ht⟩) (fun _ h => by cases h) d_S_canHold_15

set_option maxHeartbeats 4000000 in
set_option maxRecDepth 100000 in
theorem k_has (l : Launch) (D : va_G) (cA : Nat → ClassId) (o a1 a2 a3 a4 : Nat) (n : Nat) (par ltr : Nat → Int32) (ab un : Nat → Int64) (p : Int32) : Met l y_P_has w_P_has ({ frames := 0, cells := 0, slots := 0, locals := 0 }) (sx_Pr D cA [.ref o, .int p] (wP cA o a1 a2 a3 a4 (nI n) par ltr ab un)) (vp_Si (fun r => r = sx_bI (sx_has n p))) 0 0 (fun _ => False) := by
  refine Met.ofW (cc := b_P_has) (maxL := 2) (ret := (some .boolean)) (by decide) rfl ?_
  intro pG eG s m args below meth cG s₁ B hml hv
  obtain ⟨rfl, hP, hK⟩ := hv
  have hx := B.exec
  have hb := B.bytes
  have hr := B.returns
  have hts0 := atoms_spec (ws := w_P_has) B.pre
  have hts : ∀ w ∈ sx_gw, w.before _ s = true := fun w h => hts0 w (List.mem_cons_of_mem _ h)
  have hown : s.vm.findClass R_P = some m.cls := findClass_of_methodNamed B.named
  have hlocks := B.notSynchronized
  have hl := lv_entry ([.ref o, .int p]) (n := 2) (Nat.le_of_ble_eq_true rfl)
  rw [lg_entry_eq]
  generalize (lg_sl ([.ref o, .int p]) ++ List.replicate (2 - (lg_sl ([.ref o, .int p])).length) Slot.unset).toArray = ls at hl ⊢
  have hl : lv_has ls 2 [(0, .ref o), (1, .int p)] := hl
  refine lv_iload_n hx hb d_P_has_0 rfl (lv_at hl 1 rfl) ?_
  refine lv_if_lt (tgt := 16) hx hb d_P_has_1 (by decide) (fun c_1 => ?_) (fun c_1 => ?_)
  · refine lv_iconst (v := nI 0) hx hb d_P_has_16 (by decide +kernel) ?_
    exact W.zret (v := nI 0) (ty := .boolean) hx hb hr (by decide +kernel) (fun t ht hW => ⟨nI 0, rfl, (by first | exact sx_b1 (sx_has_tt (by assumption) (by assumption)) | exact sx_b0 (sx_has_f1 (by assumption)) | exact sx_b0 (sx_has_f2 (by assumption))), ht⟩) (fun _ h => by cases h) d_P_has_17
  · refine lv_iload_n hx hb d_P_has_4 rfl (lv_at hl 1 rfl) ?_
    refine lv_aload_n hx hb d_P_has_5 rfl (lv_at hl 0 rfl) ?_
    refine va_get (D := D) (ci := 1) (v := .int (nI n)) (C := R_P) (T := T_P) (N := 5) hx hb hts iw_P hown hK.1 hP 0 rfl rfl 4 (by decide) (hts _ wd_36) (fun _ h9 => h9) rfl d_P_has_6 ?_
    refine lv_icmp_ge (tgt := 16) hx hb d_P_has_9 (by decide) (fun c_2 => ?_) (fun c_2 => ?_)
    · refine lv_iconst (v := nI 0) hx hb d_P_has_16 (by decide +kernel) ?_
      exact W.zret (v := nI 0) (ty := .boolean) hx hb hr (by decide +kernel) (fun t ht hW => ⟨nI 0, rfl, (by first | exact sx_b1 (sx_has_tt (by assumption) (by assumption)) | exact sx_b0 (sx_has_f1 (by assumption)) | exact sx_b0 (sx_has_f2 (by assumption))), ht⟩) (fun _ h => by cases h) d_P_has_17
    · refine lv_iconst (v := nI 1) hx hb d_P_has_12 (by decide +kernel) ?_
      refine lv_goto (tgt := 17) hx hb d_P_has_13 (by decide) ?_
      exact W.zret (v := nI 1) (ty := .boolean) hx hb hr (by decide +kernel) (fun t ht hW => ⟨nI 1, rfl, (by first | exact sx_b1 (sx_has_tt (by assumption) (by assumption)) | exact sx_b0 (sx_has_f1 (by assumption)) | exact sx_b0 (sx_has_f2 (by assumption))), ht⟩) (fun _ h => by cases h) d_P_has_17
