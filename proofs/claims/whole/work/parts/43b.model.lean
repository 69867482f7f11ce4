set_option maxHeartbeats 4000000 in
set_option maxRecDepth 100000 in
theorem k_isPathM (l : Launch) (D : va_G) (cA : Nat → ClassId) (h : Nat → Nat) (most : Int32) (code : Int32) (actions : Int32) (isStrict : Int32) (parent : Nat → Int32) (letter : Nat → Int32) (source : Nat → Int32) (come : Nat → Int32) (declared : Nat → Int32) (declaredPath : Nat → Int32) (operations : Nat → Int32) (refusals : Nat → Int32) (triedMany : Nat → Int32) (tried : Nat → Int32) (world : Nat → Int32) (isOutput : Nat → Int32) (isThere : Nat → Int32) (isBroken : Nat → Int32) (wasThere : Nat → Int32) (marked : Nat → Int32) (n : Nat) (α : sx_A) (p : Int32) : Met l y_M_isPath w_M_isPath ({ frames := 0, cells := 0, slots := 0, locals := 0 }) (sx_Pr D cA [.ref (h 0), .int p] (wM cA h most code (nI n) actions isStrict parent letter source come declared declaredPath operations refusals triedMany tried world isOutput isThere isBroken wasThere marked)) (vp_Si (fun r => r = sx_bI (sx_has n p))) 0 0 (fun _ => False) := by
  refine Met.ofW (cc := b_M_isPath) (maxL := 2) (ret := (some .boolean)) (by decide) rfl ?_
  intro pG eG s m args below meth cG s₁ B hml hv
  obtain ⟨rfl, hP, hK⟩ := hv
  have hx := B.exec
  have hb := B.bytes
  have hr := B.returns
  have hts0 := atoms_spec (ws := w_M_isPath) B.pre
  have hts : ∀ w ∈ sx_gw, w.before _ s = true := fun w h => hts0 w (List.mem_cons_of_mem _ h)
  have hown : s.vm.findClass R_M = some m.cls := findClass_of_methodNamed B.named
  have hlocks := B.notSynchronized
  have hl := lv_entry ([.ref (h 0), .int p]) (n := 2) (Nat.le_of_ble_eq_true rfl)
  rw [lg_entry_eq]
  generalize (lg_sl ([.ref (h 0), .int p]) ++ List.replicate (2 - (lg_sl ([.ref (h 0), .int p])).length) Slot.unset).toArray = ls at hl ⊢
  have hl : lv_has ls 2 [(0, .ref (h 0)), (1, .int p)] := hl
  refine lv_iload_n hx hb d_M_isPath_0 rfl (lv_at hl 1 rfl) ?_
  refine lv_if_lt (tgt := 16) hx hb d_M_isPath_1 (by decide) (fun c_1 => ?_) (fun c_1 => ?_)
  · refine lv_iconst (v := nI 0) hx hb d_M_isPath_16 (by decide +kernel) ?_
    exact W.zret (v := nI 0) (ty := .boolean) hx hb hr (by decide +kernel) (fun t ht hW => ⟨nI 0, rfl, (by first | exact sx_b1 (sx_has_tt (by assumption) (by assumption)) | exact sx_b0 (sx_has_f1 (by assumption)) | exact sx_b0 (sx_has_f2 (by assumption))), ht⟩) (fun _ h => by cases h) d_M_isPath_17
  · refine lv_iload_n hx hb d_M_isPath_4 rfl (lv_at hl 1 rfl) ?_
    refine lv_aload_n hx hb d_M_isPath_5 rfl (lv_at hl 0 rfl) ?_
    refine va_get (D := D) (ci := 4) (v := .int (nI n)) (C := R_M) (T := T_M) (N := 21) hx hb hts iw_M hown hK.1 hP 0 rfl rfl 2 (by decide) (hts _ wd_366) (fun _ h9 => h9) rfl d_M_isPath_6 ?_
    refine lv_icmp_ge (tgt := 16) hx hb d_M_isPath_9 (by decide) (fun c_2 => ?_) (fun c_2 => ?_)
    · refine lv_iconst (v := nI 0) hx hb d_M_isPath_16 (by decide +kernel) ?_
      exact W.zret (v := nI 0) (ty := .boolean) hx hb hr (by decide +kernel) (fun t ht hW => ⟨nI 0, rfl, (by first | exact sx_b1 (sx_has_tt (by assumption) (by assumption)) | exact sx_b0 (sx_has_f1 (by assumption)) | exact sx_b0 (sx_has_f2 (by assumption))), ht⟩) (fun _ h => by cases h) d_M_isPath_17
    · refine lv_iconst (v := nI 1) hx hb d_M_isPath_12 (by decide +kernel) ?_
      refine lv_goto (tgt := 17) hx hb d_M_isPath_13 (by decide) ?_
      exact W.zret (v := nI 1) (ty := .boolean) hx hb hr (by decide +kernel) (fun t ht hW => ⟨nI 1, rfl, (by first | exact sx_b1 (sx_has_tt (by assumption) (by assumption)) | exact sx_b0 (sx_has_f1 (by assumption)) | exact sx_b0 (sx_has_f2 (by assumption))), ht⟩) (fun _ h => by cases h) d_M_isPath_17

set_option maxHeartbeats 4000000 in
set_option maxRecDepth 100000 in
theorem k_isActM (l : Launch) (D : va_G) (cA : Nat → ClassId) (h : Nat → Nat) (most : Int32) (code : Int32) (isStrict : Int32) (parent : Nat → Int32) (letter : Nat → Int32) (source : Nat → Int32) (come : Nat → Int32) (declared : Nat → Int32) (declaredPath : Nat → Int32) (operations : Nat → Int32) (refusals : Nat → Int32) (triedMany : Nat → Int32) (tried : Nat → Int32) (world : Nat → Int32) (isOutput : Nat → Int32) (isThere : Nat → Int32) (isBroken : Nat → Int32) (wasThere : Nat → Int32) (marked : Nat → Int32) (n : Nat) (na : Nat) (α : sx_A) (p : Int32) : Met l y_M_isAction w_M_isAction ({ frames := 0, cells := 0, slots := 0, locals := 0 }) (sx_Pr D cA [.ref (h 0), .int p] (wM cA h most code (nI n) (nI na) isStrict parent letter source come declared declaredPath operations refusals triedMany tried world isOutput isThere isBroken wasThere marked)) (vp_Si (fun r => r = sx_bI (sx_has na p))) 0 0 (fun _ => False) := by
  refine Met.ofW (cc := b_M_isAction) (maxL := 2) (ret := (some .boolean)) (by decide) rfl ?_
  intro pG eG s m args below meth cG s₁ B hml hv
  obtain ⟨rfl, hP, hK⟩ := hv
  have hx := B.exec
  have hb := B.bytes
  have hr := B.returns
  have hts0 := atoms_spec (ws := w_M_isAction) B.pre
  have hts : ∀ w ∈ sx_gw, w.before _ s = true := fun w h => hts0 w (List.mem_cons_of_mem _ h)
  have hown : s.vm.findClass R_M = some m.cls := findClass_of_methodNamed B.named
  have hlocks := B.notSynchronized
  have hl := lv_entry ([.ref (h 0), .int p]) (n := 2) (Nat.le_of_ble_eq_true rfl)
  rw [lg_entry_eq]
  generalize (lg_sl ([.ref (h 0), .int p]) ++ List.replicate (2 - (lg_sl ([.ref (h 0), .int p])).length) Slot.unset).toArray = ls at hl ⊢
  have hl : lv_has ls 2 [(0, .ref (h 0)), (1, .int p)] := hl
  refine lv_iload_n hx hb d_M_isAction_0 rfl (lv_at hl 1 rfl) ?_
  refine lv_if_lt (tgt := 16) hx hb d_M_isAction_1 (by decide) (fun c_1 => ?_) (fun c_1 => ?_)
  · refine lv_iconst (v := nI 0) hx hb d_M_isAction_16 (by decide +kernel) ?_
    exact W.zret (v := nI 0) (ty := .boolean) hx hb hr (by decide +kernel) (fun t ht hW => ⟨nI 0, rfl, (by first | exact sx_b1 (sx_has_tt (by assumption) (by assumption)) | exact sx_b0 (sx_has_f1 (by assumption)) | exact sx_b0 (sx_has_f2 (by assumption))), ht⟩) (fun _ h => by cases h) d_M_isAction_17
  · refine lv_iload_n hx hb d_M_isAction_4 rfl (lv_at hl 1 rfl) ?_
    refine lv_aload_n hx hb d_M_isAction_5 rfl (lv_at hl 0 rfl) ?_
    refine va_get (D := D) (ci := 4) (v := .int (nI na)) (C := R_M) (T := T_M) (N := 21) hx hb hts iw_M hown hK.1 hP 0 rfl rfl 3 (by decide) (hts _ wd_367) (fun _ h9 => h9) rfl d_M_isAction_6 ?_
    refine lv_icmp_ge (tgt := 16) hx hb d_M_isAction_9 (by decide) (fun c_2 => ?_) (fun c_2 => ?_)
    · refine lv_iconst (v := nI 0) hx hb d_M_isAction_16 (by decide +kernel) ?_
      exact W.zret (v := nI 0) (ty := .boolean) hx hb hr (by decide +kernel) (fun t ht hW => ⟨nI 0, rfl, (by first | exact sx_b1 (sx_has_tt (by assumption) (by assumption)) | exact sx_b0 (sx_has_f1 (by assumption)) | exact sx_b0 (sx_has_f2 (by assumption))), ht⟩) (fun _ h => by cases h) d_M_isAction_17
    · refine lv_iconst (v := nI 1) hx hb d_M_isAction_12 (by decide +kernel) ?_
      refine lv_goto (tgt := 17) hx hb d_M_isAction_13 (by decide) ?_
      exact W.zret (v := nI 1) (ty := .boolean) hx hb hr (by decide +kernel) (fun t ht hW => ⟨nI 1, rfl, (by first | exact sx_b1 (sx_has_tt (by assumption) (by assumption)) | exact sx_b0 (sx_has_f1 (by assumption)) | exact sx_b0 (sx_has_f2 (by assumption))), ht⟩) (fun _ h => by cases h) d_M_isAction_17

set_option maxHeartbeats 4000000 in
set_option maxRecDepth 100000 in
theorem k_low (l : Launch) (D : va_G) (cA : Nat → ClassId) (c : Int32) : Met l y_M_lower w_M_lower ({ frames := 0, cells := 0, slots := 0, locals := 0 }) (sx_Pr D cA [.int c] ([])) (vp_Si (fun r => r = sx_low c)) 0 0 (fun _ => False) := by
  refine Met.ofW (cc := b_M_lower) (maxL := 1) (ret := (some .int)) (by decide) rfl ?_
  intro pG eG s m args below meth cG s₁ B hml hv
  obtain ⟨rfl, hP, hK⟩ := hv
  have hx := B.exec
  have hb := B.bytes
  have hr := B.returns
  have hts0 := atoms_spec (ws := w_M_lower) B.pre
  have hts : ∀ w ∈ sx_gw, w.before _ s = true := fun w h => hts0 w (List.mem_cons_of_mem _ h)
  have hown : s.vm.findClass R_M = some m.cls := findClass_of_methodNamed B.named
  have hlocks := B.notSynchronized
  have hl := lv_entry ([.int c]) (n := 1) (Nat.le_of_ble_eq_true rfl)
  rw [lg_entry_eq]
  generalize (lg_sl ([.int c]) ++ List.replicate (1 - (lg_sl ([.int c])).length) Slot.unset).toArray = ls at hl ⊢
  have hl : lv_has ls 1 [(0, .int c)] := hl
  refine lv_iload_n hx hb d_M_lower_0 rfl (lv_at hl 0 rfl) ?_
  refine lv_bipush (v := nI 65) hx hb d_M_lower_1 (by decide +kernel) ?_
  refine lv_icmp_lt (tgt := 19) hx hb d_M_lower_3 (by decide) (fun c_1 => ?_) (fun c_1 => ?_)
  · refine lv_iload_n hx hb d_M_lower_19 rfl (lv_at hl 0 rfl) ?_
    exact W.iret (v := c) hx hb hr (fun t ht hW => ⟨c, rfl, sx_low_1 c_1, ht⟩) (fun _ h => by cases h) d_M_lower_20
  · refine lv_iload_n hx hb d_M_lower_6 rfl (lv_at hl 0 rfl) ?_
    refine lv_bipush (v := nI 90) hx hb d_M_lower_7 (by decide +kernel) ?_
    refine lv_icmp_gt (tgt := 19) hx hb d_M_lower_9 (by decide) (fun c_2 => ?_) (fun c_2 => ?_)
    · refine lv_iload_n hx hb d_M_lower_19 rfl (lv_at hl 0 rfl) ?_
      exact W.iret (v := c) hx hb hr (fun t ht hW => ⟨c, rfl, sx_low_2 c_2, ht⟩) (fun _ h => by cases h) d_M_lower_20
    · refine lv_iload_n hx hb d_M_lower_12 rfl (lv_at hl 0 rfl) ?_
      refine lv_bipush (v := nI 32) hx hb d_M_lower_13 (by decide +kernel) ?_
      refine lv_iadd hx hb d_M_lower_15 ?_
      refine lv_goto (tgt := 20) hx hb d_M_lower_16 (by decide) ?_
      exact W.iret (v := c + (nI 32)) hx hb hr (fun t ht hW => ⟨c + (nI 32), rfl, sx_low_3 c_1 c_2, ht⟩) (fun _ h => by cases h) d_M_lower_20

set_option maxHeartbeats 4000000 in
set_option maxRecDepth 100000 in
theorem k_child (l : Launch) (D : va_G) (cA : Nat → ClassId) (h : Nat → Nat) (most : Int32) (code : Int32) (actions : Int32) (isStrict : Int32) (source : Nat → Int32) (come : Nat → Int32) (declared : Nat → Int32) (declaredPath : Nat → Int32) (operations : Nat → Int32) (refusals : Nat → Int32) (triedMany : Nat → Int32) (tried : Nat → Int32) (world : Nat → Int32) (isOutput : Nat → Int32) (isThere : Nat → Int32) (isBroken : Nat → Int32) (wasThere : Nat → Int32) (marked : Nat → Int32) (n : Nat) (α : sx_A) (h1 : 1 ≤ n) (hn : n ≤ 60) (pp cc : Int32) : Met l y_M_child w_M_child ({ frames := 0, cells := 0, slots := 0, locals := 0 }) (sx_Pr D cA [.ref (h 0), .int pp, .int cc] (wM cA h most code (nI n) actions isStrict (α 1) (α 2) source come declared declaredPath operations refusals triedMany tried world isOutput isThere isBroken wasThere marked)) (vp_Si (fun r => r = sx_ch α pp cc n)) 0 0 (fun _ => False) := by
  refine Met.ofW (cc := b_M_child) (maxL := 5) (ret := (some .int)) (by decide) rfl ?_
  intro pG eG s m args below meth cG s₁ B hml hv
  obtain ⟨rfl, hP, hK⟩ := hv
  have hx := B.exec
  have hb := B.bytes
  have hr := B.returns
  have hts0 := atoms_spec (ws := w_M_child) B.pre
  have hts : ∀ w ∈ sx_gw, w.before _ s = true := fun w h => hts0 w (List.mem_cons_of_mem _ h)
  have hown : s.vm.findClass R_M = some m.cls := findClass_of_methodNamed B.named
  have hlocks := B.notSynchronized
  have hl := lv_entry ([.ref (h 0), .int pp, .int cc]) (n := 5) (Nat.le_of_ble_eq_true rfl)
  rw [lg_entry_eq]
  generalize (lg_sl ([.ref (h 0), .int pp, .int cc]) ++ List.replicate (5 - (lg_sl ([.ref (h 0), .int pp, .int cc])).length) Slot.unset).toArray = ls at hl ⊢
  have hl : lv_has ls 5 [(0, .ref (h 0)), (1, .int pp), (2, .int cc)] := hl
  refine lv_iconst (v := (-1)) hx hb d_M_child_0 (by decide +kernel) ?_
  refine lv_istore_n (lv' := [(3, .int (-1)), (0, .ref (h 0)), (1, .int pp), (2, .int cc)]) hx hb d_M_child_1 rfl hl (by decide) rfl (fun ls hl => ?_)
  refine lv_iconst (v := nI 1) hx hb d_M_child_2 (by decide +kernel) ?_
  refine lv_istore (lv' := [(4, .int (nI 1)), (3, .int (-1)), (0, .ref (h 0)), (1, .int pp), (2, .int cc)]) hx hb d_M_child_3 hl (by decide) rfl (fun ls hl => ?_)
  refine sx_loop (σ := Nat × Int32) (fun x => 1 ≤ x.1 ∧ x.1 ≤ n ∧ x.2 = sx_ch α pp cc x.1) (fun x => [(4, .int (nI x.1)), (3, .int x.2), (0, .ref (h 0)), (1, .int pp), (2, .int cc)]) (fun x => n - x.1) (1, (-1)) (⟨by omega, by omega, sx_ch_1⟩) (lv_sub hl [0, 1, 2, 3, 4] rfl) (fun x hJ ih ls hl => ?_)
  obtain ⟨i, g⟩ := x
  obtain ⟨hi1, hin, hg⟩ := hJ
  have hl : lv_has ls 5 [(4, .int (nI i)), (3, .int g), (0, .ref (h 0)), (1, .int pp), (2, .int cc)] := hl
  have ih_5 := ih
  refine lv_iload hx hb d_M_child_5 (lv_at hl 0 rfl) ?_
  refine lv_aload_n hx hb d_M_child_7 rfl (lv_at hl 2 rfl) ?_
  refine va_get (D := D) (ci := 4) (v := .int (nI n)) (C := R_M) (T := T_M) (N := 21) hx hb hts iw_M hown hK.1 hP 0 rfl rfl 2 (by decide) (hts _ wd_366) (fun _ h9 => h9) rfl d_M_child_8 ?_
  refine lv_icmp_ge (tgt := 49) hx hb d_M_child_11 (by decide) (fun c_1 => ?_) (fun c_1 => ?_)
  · have c_1 : n ≤ i := (nI_leI (by omega) (by omega)).mp c_1
    refine lv_iload_n hx hb d_M_child_49 rfl (lv_at hl 1 rfl) ?_
    exact W.iret (v := g) hx hb hr (fun t ht hW => ⟨g, rfl, (by rw [show n = i by omega]; exact hg), ht⟩) (fun _ h => by cases h) d_M_child_50
  · have c_1 : i < n := Nat.not_le.mp (fun z => c_1 ((nI_leI (by omega) (by omega)).mpr z))
    refine lv_aload_n hx hb d_M_child_14 rfl (lv_at hl 2 rfl) ?_
    refine va_get (D := D) (ci := 4) (v := .ref (h 1)) (C := R_M) (T := T_M) (N := 21) hx hb hts iw_M hown hK.1 hP 0 rfl rfl 5 (by decide) (hts _ wd_369) (fun _ h9 => h9) rfl d_M_child_15 ?_
    refine lv_iload hx hb d_M_child_18 (lv_at hl 0 rfl) ?_
    refine va_iald hx hb hK.1 hP 1 0 rfl rfl (vp_in_nI (by omega) (by decide)) d_M_child_20 ?_
    refine sx_asi (congrArg (α 1) (nI_clamp (by omega))) ?_
    refine lv_iload_n hx hb d_M_child_21 rfl (lv_at hl 3 rfl) ?_
    refine lv_icmp_ne (tgt := 41) hx hb d_M_child_22 (by decide) (fun c_2 => ?_) (fun c_2 => ?_)
    · refine lv_iload_n hx hb d_M_child_41 rfl (lv_at hl 1 rfl) ?_
      refine lv_istore_n (lv' := [(3, .int g), (4, .int (nI i)), (0, .ref (h 0)), (1, .int pp), (2, .int cc)]) hx hb d_M_child_42 rfl hl (by decide) rfl (fun ls hl => ?_)
      refine lv_iinc (v := nI (i + 1)) (lv' := [(4, .int (nI (i + 1))), (3, .int g), (0, .ref (h 0)), (1, .int pp), (2, .int cc)]) hx hb d_M_child_43 hl (k := 1) rfl (nI_1 i) (by decide) rfl (fun ls hl => ?_)
      refine lv_goto (tgt := 5) hx hb d_M_child_46 (by decide) ?_
      exact ih_5 (i + 1, g) (⟨by omega, by omega, sx_ch_s0 hg (fun q => absurd q.1 c_2)⟩) (by omega) ls (lv_sub hl [0, 1, 2, 3, 4] rfl)
    · refine lv_aload_n hx hb d_M_child_25 rfl (lv_at hl 2 rfl) ?_
      refine va_get (D := D) (ci := 4) (v := .ref (h 2)) (C := R_M) (T := T_M) (N := 21) hx hb hts iw_M hown hK.1 hP 0 rfl rfl 6 (by decide) (hts _ wd_370) (fun _ h9 => h9) rfl d_M_child_26 ?_
      refine lv_iload hx hb d_M_child_29 (lv_at hl 0 rfl) ?_
      refine va_iald hx hb hK.1 hP 2 0 rfl rfl (vp_in_nI (by omega) (by decide)) d_M_child_31 ?_
      refine sx_asi (congrArg (α 2) (nI_clamp (by omega))) ?_
      refine lv_iload_n hx hb d_M_child_32 rfl (lv_at hl 4 rfl) ?_
      refine lv_icmp_ne (tgt := 41) hx hb d_M_child_33 (by decide) (fun c_3 => ?_) (fun c_3 => ?_)
      · refine lv_iload_n hx hb d_M_child_41 rfl (lv_at hl 1 rfl) ?_
        refine lv_istore_n (lv' := [(3, .int g), (4, .int (nI i)), (0, .ref (h 0)), (1, .int pp), (2, .int cc)]) hx hb d_M_child_42 rfl hl (by decide) rfl (fun ls hl => ?_)
        refine lv_iinc (v := nI (i + 1)) (lv' := [(4, .int (nI (i + 1))), (3, .int g), (0, .ref (h 0)), (1, .int pp), (2, .int cc)]) hx hb d_M_child_43 hl (k := 1) rfl (nI_1 i) (by decide) rfl (fun ls hl => ?_)
        refine lv_goto (tgt := 5) hx hb d_M_child_46 (by decide) ?_
        exact ih_5 (i + 1, g) (⟨by omega, by omega, sx_ch_s0 hg (fun q => absurd q.2 c_3)⟩) (by omega) ls (lv_sub hl [0, 1, 2, 3, 4] rfl)
      · refine lv_iload hx hb d_M_child_36 (lv_at hl 0 rfl) ?_
        refine lv_goto (tgt := 42) hx hb d_M_child_38 (by decide) ?_
        refine lv_istore_n (lv' := [(3, .int (nI i)), (4, .int (nI i)), (0, .ref (h 0)), (1, .int pp), (2, .int cc)]) hx hb d_M_child_42 rfl hl (by decide) rfl (fun ls hl => ?_)
        refine lv_iinc (v := nI (i + 1)) (lv' := [(4, .int (nI (i + 1))), (3, .int (nI i)), (0, .ref (h 0)), (1, .int pp), (2, .int cc)]) hx hb d_M_child_43 hl (k := 1) rfl (nI_1 i) (by decide) rfl (fun ls hl => ?_)
        refine lv_goto (tgt := 5) hx hb d_M_child_46 (by decide) ?_
        exact ih_5 (i + 1, nI i) (⟨by omega, by omega, sx_ch_s1 (by omega) c_2 c_3⟩) (by omega) ls (lv_sub hl [0, 1, 2, 3, 4] rfl)

set_option maxHeartbeats 4000000 in
set_option maxRecDepth 100000 in
theorem k_isUnder (l : Launch) (D : va_G) (cA : Nat → ClassId) (h : Nat → Nat) (most : Int32) (code : Int32) (actions : Int32) (isStrict : Int32) (letter : Nat → Int32) (source : Nat → Int32) (come : Nat → Int32) (declared : Nat → Int32) (declaredPath : Nat → Int32) (operations : Nat → Int32) (refusals : Nat → Int32) (triedMany : Nat → Int32) (tried : Nat → Int32) (world : Nat → Int32) (isOutput : Nat → Int32) (isThere : Nat → Int32) (isBroken : Nat → Int32) (wasThere : Nat → Int32) (marked : Nat → Int32) (n : Nat) (α : sx_A) (hPO : sx_PO n (α 1)) (hn : n ≤ 60) (p b : Nat) (hp : p < n) (hb0 : b < 60) : Met l y_M_isUnder w_M_isUnder ({ frames := 0, cells := 0, slots := 0, locals := 0 }) (sx_Pr D cA [.ref (h 0), .int (nI p), .int (nI b)] (wM cA h most code (nI n) actions isStrict (α 1) letter source come declared declaredPath operations refusals triedMany tried world isOutput isThere isBroken wasThere marked)) (vp_Si (fun r => r = sx_bI (sx_U (α 1) p b))) 0 0 (fun _ => False) := by
  refine Met.ofW (cc := b_M_isUnder) (maxL := 4) (ret := (some .boolean)) (by decide) rfl ?_
  intro pG eG s m args below meth cG s₁ B hml hv
  obtain ⟨rfl, hP, hK⟩ := hv
  have hx := B.exec
  have hb := B.bytes
  have hr := B.returns
  have hts0 := atoms_spec (ws := w_M_isUnder) B.pre
  have hts : ∀ w ∈ sx_gw, w.before _ s = true := fun w h => hts0 w (List.mem_cons_of_mem _ h)
  have hown : s.vm.findClass R_M = some m.cls := findClass_of_methodNamed B.named
  have hlocks := B.notSynchronized
  have hl := lv_entry ([.ref (h 0), .int (nI p), .int (nI b)]) (n := 4) (Nat.le_of_ble_eq_true rfl)
  rw [lg_entry_eq]
  generalize (lg_sl ([.ref (h 0), .int (nI p), .int (nI b)]) ++ List.replicate (4 - (lg_sl ([.ref (h 0), .int (nI p), .int (nI b)])).length) Slot.unset).toArray = ls at hl ⊢
  have hl : lv_has ls 4 [(0, .ref (h 0)), (1, .int (nI p)), (2, .int (nI b))] := hl
  refine lv_iload_n hx hb d_M_isUnder_0 rfl (lv_at hl 1 rfl) ?_
  refine lv_istore_n (lv' := [(3, .int (nI p)), (0, .ref (h 0)), (1, .int (nI p)), (2, .int (nI b))]) hx hb d_M_isUnder_1 rfl hl (by decide) rfl (fun ls hl => ?_)
  refine sx_loop (σ := Nat) (fun x => x ≤ n ∧ sx_U (α 1) p b = sx_Ux (α 1) b x) (fun x => [(3, .int (sx_pd x)), (0, .ref (h 0)), (1, .int (nI p)), (2, .int (nI b))]) (fun x => x) (p + 1) (⟨by omega, rfl⟩) (lv_sub hl [0, 1, 2, 3] rfl) (fun x hJ ih ls hl => ?_)
  obtain ⟨x, rfl⟩ : ∃ y, y = x := ⟨_, rfl⟩
  obtain ⟨hx1, hx2⟩ := hJ
  have hl : lv_has ls 4 [(3, .int (sx_pd x)), (0, .ref (h 0)), (1, .int (nI p)), (2, .int (nI b))] := hl
  have ih_2 := ih
  refine lv_iload_n hx hb d_M_isUnder_2 rfl (lv_at hl 0 rfl) ?_
  refine lv_iconst (v := (-1)) hx hb d_M_isUnder_3 (by decide +kernel) ?_
  refine lv_icmp_eq (tgt := 22) hx hb d_M_isUnder_4 (by decide) (fun c_1 => ?_) (fun c_1 => ?_)
  · have hx0 := sx_pd_0 (by omega) c_1
    subst hx0
    refine lv_iload_n hx hb d_M_isUnder_22 rfl (lv_at hl 0 rfl) ?_
    refine lv_iload_n hx hb d_M_isUnder_23 rfl (lv_at hl 3 rfl) ?_
    refine lv_icmp_ne (tgt := 31) hx hb d_M_isUnder_24 (by decide) (fun c_2 => ?_) (fun c_2 => ?_)
    · refine lv_iconst (v := nI 0) hx hb d_M_isUnder_31 (by decide +kernel) ?_
      exact W.zret (v := nI 0) (ty := .boolean) hx hb hr (by decide +kernel) (fun t ht hW => ⟨nI 0, rfl, sx_b0 (by rw [hx2]; rfl), ht⟩) (fun _ h => by cases h) d_M_isUnder_32
    · exact absurd (show nI b = -1 from (show -1 = nI b from c_2).symm) (sx_nI_m1 (by omega))
  · obtain ⟨j, rfl⟩ := sx_pd_s c_1
    have hl : lv_has ls 4 [(3, .int (nI j)), (0, .ref (h 0)), (1, .int (nI p)), (2, .int (nI b))] := hl
    refine lv_iload_n hx hb d_M_isUnder_7 rfl (lv_at hl 0 rfl) ?_
    refine lv_iload_n hx hb d_M_isUnder_8 rfl (lv_at hl 3 rfl) ?_
    refine lv_icmp_eq (tgt := 22) hx hb d_M_isUnder_9 (by decide) (fun c_3 => ?_) (fun c_3 => ?_)
    · have c_3 : j = b := (nI_eq (by omega) (by omega)).mp c_3
      refine lv_iload_n hx hb d_M_isUnder_22 rfl (lv_at hl 0 rfl) ?_
      refine lv_iload_n hx hb d_M_isUnder_23 rfl (lv_at hl 3 rfl) ?_
      refine lv_icmp_ne (tgt := 31) hx hb d_M_isUnder_24 (by decide) (fun c_4 => ?_) (fun c_4 => ?_)
      · exact absurd (congrArg nI c_3) c_4
      · refine lv_iconst (v := nI 1) hx hb d_M_isUnder_27 (by decide +kernel) ?_
        refine lv_goto (tgt := 32) hx hb d_M_isUnder_28 (by decide) ?_
        exact W.zret (v := nI 1) (ty := .boolean) hx hb hr (by decide +kernel) (fun t ht hW => ⟨nI 1, rfl, sx_b1 (by rw [hx2]; show sx_U (α 1) j b = true; rw [show j = b from c_3]; exact sx_U_self _ _), ht⟩) (fun _ h => by cases h) d_M_isUnder_32
    · have c_3 : ¬ j = b := fun z => c_3 ((nI_eq (by omega) (by omega)).mpr z)
      refine lv_aload_n hx hb d_M_isUnder_12 rfl (lv_at hl 1 rfl) ?_
      refine va_get (D := D) (ci := 4) (v := .ref (h 1)) (C := R_M) (T := T_M) (N := 21) hx hb hts iw_M hown hK.1 hP 0 rfl rfl 5 (by decide) (hts _ wd_369) (fun _ h9 => h9) rfl d_M_isUnder_13 ?_
      refine lv_iload_n hx hb d_M_isUnder_16 rfl (lv_at hl 0 rfl) ?_
      refine va_iald hx hb hK.1 hP 1 0 rfl rfl (vp_in_nI (by omega) (by decide)) d_M_isUnder_17 ?_
      refine sx_asi (congrArg (α 1) (nI_clamp (by omega))) ?_
      obtain ⟨y, hy, ey, hU⟩ := sx_PO_pd hPO hn (show j < n by omega)
      refine sx_asi ey ?_
      refine lv_istore_n (lv' := [(3, .int (sx_pd y)), (0, .ref (h 0)), (1, .int (nI p)), (2, .int (nI b))]) hx hb d_M_isUnder_18 rfl hl (by decide) rfl (fun ls hl => ?_)
      refine lv_goto (tgt := 2) hx hb d_M_isUnder_19 (by decide) ?_
      exact ih_2 y (⟨by omega, by rw [hx2]; show sx_U (α 1) j b = _; rw [hU, sx_beq_f c_3]; rfl⟩) (by omega) ls (lv_sub hl [0, 1, 2, 3] rfl)

set_option maxHeartbeats 4000000 in
set_option maxRecDepth 100000 in
theorem k_at (l : Launch) (D : va_G) (cA : Nat → ClassId) (h : Nat → Nat) (most : Int32) (code : Int32) (actions : Int32) (isStrict : Int32) (parent : Nat → Int32) (letter : Nat → Int32) (source : Nat → Int32) (come : Nat → Int32) (declared : Nat → Int32) (declaredPath : Nat → Int32) (operations : Nat → Int32) (refusals : Nat → Int32) (triedMany : Nat → Int32) (tried : Nat → Int32) (world : Nat → Int32) (isOutput : Nat → Int32) (isThere : Nat → Int32) (isBroken : Nat → Int32) (wasThere : Nat → Int32) (marked : Nat → Int32) (n : Nat) (α : sx_A) (a p : Nat) (ha : a < 10) (hp : p < 60) : Met l y_M_at w_M_at ({ frames := 0, cells := 0, slots := 0, locals := 0 }) (sx_Pr D cA [.ref (h 0), .int (nI a), .int (nI p)] (wM cA h most code (nI n) actions isStrict parent letter source come declared declaredPath operations refusals triedMany tried world isOutput isThere isBroken wasThere marked)) (vp_Si (fun r => r = world (60 * a + p))) 0 0 (fun _ => False) := by
  refine Met.ofW (cc := b_M_at) (maxL := 3) (ret := (some .int)) (by decide) rfl ?_
  intro pG eG s m args below meth cG s₁ B hml hv
  obtain ⟨rfl, hP, hK⟩ := hv
  have hx := B.exec
  have hb := B.bytes
  have hr := B.returns
  have hts0 := atoms_spec (ws := w_M_at) B.pre
  have hts : ∀ w ∈ sx_gw, w.before _ s = true := fun w h => hts0 w (List.mem_cons_of_mem _ h)
  have hown : s.vm.findClass R_M = some m.cls := findClass_of_methodNamed B.named
  have hlocks := B.notSynchronized
  have hl := lv_entry ([.ref (h 0), .int (nI a), .int (nI p)]) (n := 3) (Nat.le_of_ble_eq_true rfl)
  rw [lg_entry_eq]
  generalize (lg_sl ([.ref (h 0), .int (nI a), .int (nI p)]) ++ List.replicate (3 - (lg_sl ([.ref (h 0), .int (nI a), .int (nI p)])).length) Slot.unset).toArray = ls at hl ⊢
  have hl : lv_has ls 3 [(0, .ref (h 0)), (1, .int (nI a)), (2, .int (nI p))] := hl
  refine lv_aload_n hx hb d_M_at_0 rfl (lv_at hl 0 rfl) ?_
  refine va_get (D := D) (ci := 4) (v := .ref (h 11)) (C := R_M) (T := T_M) (N := 21) hx hb hts iw_M hown hK.1 hP 0 rfl rfl 15 (by decide) (hts _ wd_379) (fun _ h9 => h9) rfl d_M_at_1 ?_
  refine lv_bipush (v := nI 60) hx hb d_M_at_4 (by decide +kernel) ?_
  refine lv_iload_n hx hb d_M_at_6 rfl (lv_at hl 1 rfl) ?_
  refine lv_imul hx hb d_M_at_7 ?_
  refine sx_asi (y := nI (60 * a)) (pk_mul 60 a) ?_
  refine lv_iload_n hx hb d_M_at_8 rfl (lv_at hl 2 rfl) ?_
  refine lv_iadd hx hb d_M_at_9 ?_
  refine sx_asi (y := nI (60 * a + p)) (nI_add (60 * a) p) ?_
  refine va_iald hx hb hK.1 hP 11 0 rfl rfl (vp_in_nI (by omega) (by decide)) d_M_at_10 ?_
  refine sx_asi (congrArg world (nI_clamp (by omega))) ?_
  exact W.iret (v := world (60 * a + p)) hx hb hr (fun t ht hW => ⟨world (60 * a + p), rfl, rfl, ht⟩) (fun _ h => by cases h) d_M_at_11

set_option maxHeartbeats 4000000 in
set_option maxRecDepth 100000 in
theorem k_goal (l : Launch) (D : va_G) (cA : Nat → ClassId) (x : Int32) : Met l y_M_goal w_M_goal ({ frames := 0, cells := 0, slots := 0, locals := 0 }) (sx_Pr D cA [.int x] ([])) (vp_Si (fun r => r = -1 - x)) 0 0 (fun _ => False) := by
  refine Met.ofW (cc := b_M_goal) (maxL := 1) (ret := (some .int)) (by decide) rfl ?_
  intro pG eG s m args below meth cG s₁ B hml hv
  obtain ⟨rfl, hP, hK⟩ := hv
  have hx := B.exec
  have hb := B.bytes
  have hr := B.returns
  have hts0 := atoms_spec (ws := w_M_goal) B.pre
  have hts : ∀ w ∈ sx_gw, w.before _ s = true := fun w h => hts0 w (List.mem_cons_of_mem _ h)
  have hown : s.vm.findClass R_M = some m.cls := findClass_of_methodNamed B.named
  have hlocks := B.notSynchronized
  have hl := lv_entry ([.int x]) (n := 1) (Nat.le_of_ble_eq_true rfl)
  rw [lg_entry_eq]
  generalize (lg_sl ([.int x]) ++ List.replicate (1 - (lg_sl ([.int x])).length) Slot.unset).toArray = ls at hl ⊢
  have hl : lv_has ls 1 [(0, .int x)] := hl
  refine lv_iconst (v := (-1)) hx hb d_M_goal_0 (by decide +kernel) ?_
  refine lv_iload_n hx hb d_M_goal_1 rfl (lv_at hl 0 rfl) ?_
  refine lv_isub hx hb d_M_goal_2 ?_
  exact W.iret (v := (-1) - x) hx hb hr (fun t ht hW => ⟨(-1) - x, rfl, rfl, ht⟩) (fun _ h => by cases h) d_M_goal_3

set_option maxHeartbeats 4000000 in
set_option maxRecDepth 100000 in
theorem k_leadsM (l : Launch) (D : va_G) (cA : Nat → ClassId) (h : Nat → Nat) (most : Int32) (code : Int32) (actions : Int32) (isStrict : Int32) (parent : Nat → Int32) (letter : Nat → Int32) (source : Nat → Int32) (come : Nat → Int32) (declared : Nat → Int32) (declaredPath : Nat → Int32) (operations : Nat → Int32) (refusals : Nat → Int32) (triedMany : Nat → Int32) (tried : Nat → Int32) (isOutput : Nat → Int32) (isThere : Nat → Int32) (isBroken : Nat → Int32) (wasThere : Nat → Int32) (marked : Nat → Int32) (n : Nat) (α : sx_A) (na L : Nat) (hI : sx_INV n na L α) (a : Nat) (ha : a < na) (p : Nat) (hp : p < 60) : Met l y_M_leads w_M_leads ({ frames := 1, cells := 0, slots := 0, locals := 22 }) (sx_Pr D cA [.ref (h 0), .int (nI a), .int (nI p)] (wM cA h most code (nI n) actions isStrict parent letter source come declared declaredPath operations refusals triedMany tried (α 10) isOutput isThere isBroken wasThere marked)) (vp_Si (fun r => r = sx_lead α a p)) 0 0 (fun _ => False) := by
  refine Met.ofW (cc := b_M_leads) (maxL := 5) (ret := (some .int)) (by decide) rfl ?_
  intro pG eG s m args below meth cG s₁ B hml hv
  obtain ⟨rfl, hP, hK⟩ := hv
  have hx := B.exec
  have hb := B.bytes
  have hr := B.returns
  have hts0 := atoms_spec (ws := w_M_leads) B.pre
  have hts : ∀ w ∈ sx_gw, w.before _ s = true := fun w h => hts0 w (List.mem_cons_of_mem _ h)
  have hown : s.vm.findClass R_M = some m.cls := findClass_of_methodNamed B.named
  have hlocks := B.notSynchronized
  have hl := lv_entry ([.ref (h 0), .int (nI a), .int (nI p)]) (n := 5) (Nat.le_of_ble_eq_true rfl)
  rw [lg_entry_eq]
  generalize (lg_sl ([.ref (h 0), .int (nI a), .int (nI p)]) ++ List.replicate (5 - (lg_sl ([.ref (h 0), .int (nI a), .int (nI p)])).length) Slot.unset).toArray = ls at hl ⊢
  have hl : lv_has ls 5 [(0, .ref (h 0)), (1, .int (nI a)), (2, .int (nI p))] := hl
  have hn31 := sx_INV_n hI
  have hn60 := hI.1.1.2
  have h1n := hI.1.1.1
  have hna := hI.1.2.1
  refine lv_aload_n hx hb d_M_leads_0 rfl (lv_at hl 0 rfl) ?_
  refine lv_iload_n hx hb d_M_leads_1 rfl (lv_at hl 1 rfl) ?_
  refine lv_iload_n hx hb d_M_leads_2 rfl (lv_at hl 2 rfl) ?_
  refine vp_callSi (va_runV (As := [.int (nI a), .int (nI p)]) (rest := []) ⟨hx, hb, hml, hown, hts⟩ (k_at l D cA h most code actions isStrict parent letter source come declared declaredPath operations refusals triedMany tried (α 10) isOutput isThere isBroken wasThere marked n α a p (by omega) (by omega)) (cwV 2 hts (sx_GV wd_491 wd_493 ws_18 wd_5 wd_494) rfl rfl rfl (by decide +kernel) ⟨Nat.le_of_ble_eq_true rfl, Nat.le_of_ble_eq_true rfl⟩) (sx_preV hK hP (va_recv hK.1 hP (ci := 4) (q0 := 0) rfl rfl)) rfl rfl hl.1 rfl (lv_room (Nat.le_of_ble_eq_true rfl)) d_M_leads_3 ⟨Nat.le_of_ble_eq_true rfl, Nat.le_of_ble_eq_true rfl⟩).run (fun r_2 hr_1 => ?_)
  subst hr_1
  refine lv_istore_n (lv' := [(3, .int ((α 10) (60 * a + p))), (0, .ref (h 0)), (1, .int (nI a)), (2, .int (nI p))]) hx hb d_M_leads_6 rfl hl (by decide) rfl (fun ls hl => ?_)
  refine lv_iconst (v := nI 0) hx hb d_M_leads_7 (by decide +kernel) ?_
  refine lv_istore (lv' := [(4, .int (nI 0)), (3, .int ((α 10) (60 * a + p))), (0, .ref (h 0)), (1, .int (nI a)), (2, .int (nI p))]) hx hb d_M_leads_8 hl (by decide) rfl (fun ls hl => ?_)
  refine sx_loop (σ := Nat × Int32) (fun x => x.1 ≤ 4 ∧ sx_lead α a p = sx_ld (fun j => α 10 (60 * a + j)) (4 - x.1) x.2 ∧ (x.2 < 0 → ∃ q, q < 60 ∧ x.2 = -1 - nI q)) (fun x => [(4, .int (nI x.1)), (3, .int x.2), (0, .ref (h 0)), (1, .int (nI a)), (2, .int (nI p))]) (fun x => 4 - x.1) (0, α 10 (60 * a + p)) (⟨by omega, rfl, sx_wl60 hI ha p hp⟩) (lv_sub hl [0, 1, 2, 3, 4] rfl) (fun x hJ ih ls hl => ?_)
  obtain ⟨f, v⟩ := x
  obtain ⟨hf, hld, hx3⟩ := hJ
  have hl : lv_has ls 5 [(4, .int (nI f)), (3, .int v), (0, .ref (h 0)), (1, .int (nI a)), (2, .int (nI p))] := hl
  have ih_10 := ih
  refine lv_iload_n hx hb d_M_leads_10 rfl (lv_at hl 1 rfl) ?_
  refine lv_if_ge (tgt := 36) hx hb d_M_leads_11 (by decide) (fun c_3 => ?_) (fun c_3 => ?_)
  · refine lv_iload_n hx hb d_M_leads_36 rfl (lv_at hl 1 rfl) ?_
    refine lv_if_le (tgt := 44) hx hb d_M_leads_37 (by decide) (fun c_4 => ?_) (fun c_4 => ?_)
    · refine lv_iconst (v := nI 0) hx hb d_M_leads_44 (by decide +kernel) ?_
      exact W.iret (v := nI 0) hx hb hr (fun t ht hW => ⟨nI 0, rfl, (by rw [hld]; exact sx_ld_0 (Or.inl c_3) c_4), ht⟩) (fun _ h => by cases h) d_M_leads_45
    · refine lv_iload_n hx hb d_M_leads_40 rfl (lv_at hl 1 rfl) ?_
      refine lv_goto (tgt := 45) hx hb d_M_leads_41 (by decide) ?_
      exact W.iret (v := v) hx hb hr (fun t ht hW => ⟨v, rfl, (by rw [hld]; exact sx_ld_1 (Or.inl c_3) c_4), ht⟩) (fun _ h => by cases h) d_M_leads_45
  · refine lv_iload hx hb d_M_leads_14 (lv_at hl 0 rfl) ?_
    refine lv_iconst (v := nI 4) hx hb d_M_leads_16 (by decide +kernel) ?_
    refine lv_icmp_ge (tgt := 36) hx hb d_M_leads_17 (by decide) (fun c_5 => ?_) (fun c_5 => ?_)
    · have c_5 : 4 ≤ f := (nI_leI (by decide) (by omega)).mp c_5
      refine lv_iload_n hx hb d_M_leads_36 rfl (lv_at hl 1 rfl) ?_
      refine lv_if_le (tgt := 44) hx hb d_M_leads_37 (by decide) (fun c_6 => ?_) (fun c_6 => ?_)
      · refine lv_iconst (v := nI 0) hx hb d_M_leads_44 (by decide +kernel) ?_
        exact W.iret (v := nI 0) hx hb hr (fun t ht hW => ⟨nI 0, rfl, (by rw [hld]; exact sx_ld_0 (Or.inr (by omega)) c_6), ht⟩) (fun _ h => by cases h) d_M_leads_45
      · refine lv_iload_n hx hb d_M_leads_40 rfl (lv_at hl 1 rfl) ?_
        refine lv_goto (tgt := 45) hx hb d_M_leads_41 (by decide) ?_
        exact W.iret (v := v) hx hb hr (fun t ht hW => ⟨v, rfl, (by rw [hld]; exact sx_ld_1 (Or.inr (by omega)) c_6), ht⟩) (fun _ h => by cases h) d_M_leads_45
    · have c_5 : f < 4 := Nat.not_le.mp (fun z => c_5 ((nI_leI (by decide) (by omega)).mpr z))
      obtain ⟨q, hq, rfl⟩ := hx3 (Int32.not_le.mp c_3)
      refine lv_aload_n hx hb d_M_leads_20 rfl (lv_at hl 2 rfl) ?_
      refine lv_iload_n hx hb d_M_leads_21 rfl (lv_at hl 3 rfl) ?_
      refine lv_iload_n hx hb d_M_leads_22 rfl (lv_at hl 1 rfl) ?_
      refine vp_callSi (va_runS (As := [.int (-1 - nI q)]) (rest := [.int (nI a), .ref (h 0)]) ⟨hx, hb, hml, hown, hts⟩ (k_goal l D cA (-1 - nI q)) (va_cwS 1 hts (sx_GS wd_495 wd_496 wd_5 wd_497) rfl rfl rfl (by decide +kernel) ⟨Nat.le_of_ble_eq_true rfl, Nat.le_of_ble_eq_true rfl⟩) (sx_preS hK (sx_P0 : va_P D vwCl [] s.heap)) rfl rfl hl.1 rfl (lv_room (Nat.le_of_ble_eq_true rfl)) d_M_leads_23 ⟨Nat.le_of_ble_eq_true rfl, Nat.le_of_ble_eq_true rfl⟩).run (fun r_8 hr_7 => ?_)
      subst hr_7
      refine sx_asi (sx_goal q) ?_
      refine vp_callSi (va_runV (As := [.int (nI a), .int (nI q)]) (rest := []) ⟨hx, hb, hml, hown, hts⟩ (k_at l D cA h most code actions isStrict parent letter source come declared declaredPath operations refusals triedMany tried (α 10) isOutput isThere isBroken wasThere marked n α a q (by omega) (by omega)) (cwV 2 hts (sx_GV wd_491 wd_493 ws_18 wd_5 wd_494) rfl rfl rfl (by decide +kernel) ⟨Nat.le_of_ble_eq_true rfl, Nat.le_of_ble_eq_true rfl⟩) (sx_preV hK hP (va_recv hK.1 hP (ci := 4) (q0 := 0) rfl rfl)) rfl rfl hl.1 rfl (lv_room (Nat.le_of_ble_eq_true rfl)) d_M_leads_26 ⟨Nat.le_of_ble_eq_true rfl, Nat.le_of_ble_eq_true rfl⟩).run (fun r_10 hr_9 => ?_)
      subst hr_9
      refine lv_istore_n (lv' := [(3, .int ((α 10) (60 * a + q))), (4, .int (nI f)), (0, .ref (h 0)), (1, .int (nI a)), (2, .int (nI p))]) hx hb d_M_leads_29 rfl hl (by decide) rfl (fun ls hl => ?_)
      refine lv_iinc (v := nI (f + 1)) (lv' := [(4, .int (nI (f + 1))), (3, .int ((α 10) (60 * a + q))), (0, .ref (h 0)), (1, .int (nI a)), (2, .int (nI p))]) hx hb d_M_leads_30 hl (k := 1) rfl (nI_1 f) (by decide) rfl (fun ls hl => ?_)
      refine lv_goto (tgt := 10) hx hb d_M_leads_33 (by decide) ?_
      exact ih_10 (f + 1, α 10 (60 * a + q)) (⟨by omega, by rw [hld]; exact sx_ld_s (by omega) hq c_3 rfl, sx_wl60 hI ha q hq⟩) (by omega) ls (lv_sub hl [0, 1, 2, 3, 4] rfl)
