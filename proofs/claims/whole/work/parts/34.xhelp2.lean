set_option maxHeartbeats 4000000 in
set_option maxRecDepth 100000 in
theorem k_isL (l : Launch) (D : va_G) (cA : Nat → ClassId) (ch : Int32) : Met l y_X_isLetter w_X_isLetter ({ frames := 0, cells := 0, slots := 0, locals := 0 }) (sx_Pr D cA [.int ch] ([])) (vp_Si (fun r => r = sx_bI (sx_isL ch))) 0 0 (fun _ => False) := by
  refine Met.ofW (cc := b_X_isLetter) (maxL := 1) (ret := (some .boolean)) (by decide) rfl ?_
  intro pG eG s m args below meth cG s₁ B hml hv
  obtain ⟨rfl, hP, hK⟩ := hv
  have hx := B.exec
  have hb := B.bytes
  have hr := B.returns
  have hts0 := atoms_spec (ws := w_X_isLetter) B.pre
  have hts : ∀ w ∈ sx_gw, w.before _ s = true := fun w h => hts0 w (List.mem_cons_of_mem _ h)
  have hown : s.vm.findClass R_X = some m.cls := findClass_of_methodNamed B.named
  have hlocks := B.notSynchronized
  have hl := lv_entry ([.int ch]) (n := 1) (Nat.le_of_ble_eq_true rfl)
  rw [lg_entry_eq]
  generalize (lg_sl ([.int ch]) ++ List.replicate (1 - (lg_sl ([.int ch])).length) Slot.unset).toArray = ls at hl ⊢
  have hl : lv_has ls 1 [(0, .int ch)] := hl
  refine lv_iload_n hx hb d_X_isLetter_0 rfl (lv_at hl 0 rfl) ?_
  refine lv_bipush (v := nI 97) hx hb d_X_isLetter_1 (by decide +kernel) ?_
  refine lv_icmp_lt (tgt := 12) hx hb d_X_isLetter_3 (by decide) (fun c_1 => ?_) (fun c_1 => ?_)
  · refine lv_iload_n hx hb d_X_isLetter_12 rfl (lv_at hl 0 rfl) ?_
    refine lv_bipush (v := nI 65) hx hb d_X_isLetter_13 (by decide +kernel) ?_
    refine lv_icmp_lt (tgt := 28) hx hb d_X_isLetter_15 (by decide) (fun c_2 => ?_) (fun c_2 => ?_)
    · refine lv_iconst (v := nI 0) hx hb d_X_isLetter_28 (by decide +kernel) ?_
      exact W.zret (v := nI 0) (ty := .boolean) hx hb hr (by decide +kernel) (fun t ht hW => ⟨nI 0, rfl, (by first | exact sx_b1 (sx_isL_t1 (by assumption) (by assumption)) | exact sx_b1 (sx_isL_t2 (by assumption) (by assumption)) | exact sx_b0 (sx_isL_f (by first | exact Or.inl (by assumption) | exact Or.inr (by assumption)) (by first | exact Or.inl (by assumption) | exact Or.inr (by assumption)))), ht⟩) (fun _ h => by cases h) d_X_isLetter_29
    · refine lv_iload_n hx hb d_X_isLetter_18 rfl (lv_at hl 0 rfl) ?_
      refine lv_bipush (v := nI 90) hx hb d_X_isLetter_19 (by decide +kernel) ?_
      refine lv_icmp_gt (tgt := 28) hx hb d_X_isLetter_21 (by decide) (fun c_3 => ?_) (fun c_3 => ?_)
      · refine lv_iconst (v := nI 0) hx hb d_X_isLetter_28 (by decide +kernel) ?_
        exact W.zret (v := nI 0) (ty := .boolean) hx hb hr (by decide +kernel) (fun t ht hW => ⟨nI 0, rfl, (by first | exact sx_b1 (sx_isL_t1 (by assumption) (by assumption)) | exact sx_b1 (sx_isL_t2 (by assumption) (by assumption)) | exact sx_b0 (sx_isL_f (by first | exact Or.inl (by assumption) | exact Or.inr (by assumption)) (by first | exact Or.inl (by assumption) | exact Or.inr (by assumption)))), ht⟩) (fun _ h => by cases h) d_X_isLetter_29
      · refine lv_iconst (v := nI 1) hx hb d_X_isLetter_24 (by decide +kernel) ?_
        refine lv_goto (tgt := 29) hx hb d_X_isLetter_25 (by decide) ?_
        exact W.zret (v := nI 1) (ty := .boolean) hx hb hr (by decide +kernel) (fun t ht hW => ⟨nI 1, rfl, (by first | exact sx_b1 (sx_isL_t1 (by assumption) (by assumption)) | exact sx_b1 (sx_isL_t2 (by assumption) (by assumption)) | exact sx_b0 (sx_isL_f (by first | exact Or.inl (by assumption) | exact Or.inr (by assumption)) (by first | exact Or.inl (by assumption) | exact Or.inr (by assumption)))), ht⟩) (fun _ h => by cases h) d_X_isLetter_29
  · refine lv_iload_n hx hb d_X_isLetter_6 rfl (lv_at hl 0 rfl) ?_
    refine lv_bipush (v := nI 122) hx hb d_X_isLetter_7 (by decide +kernel) ?_
    refine lv_icmp_le (tgt := 24) hx hb d_X_isLetter_9 (by decide) (fun c_4 => ?_) (fun c_4 => ?_)
    · refine lv_iconst (v := nI 1) hx hb d_X_isLetter_24 (by decide +kernel) ?_
      refine lv_goto (tgt := 29) hx hb d_X_isLetter_25 (by decide) ?_
      exact W.zret (v := nI 1) (ty := .boolean) hx hb hr (by decide +kernel) (fun t ht hW => ⟨nI 1, rfl, (by first | exact sx_b1 (sx_isL_t1 (by assumption) (by assumption)) | exact sx_b1 (sx_isL_t2 (by assumption) (by assumption)) | exact sx_b0 (sx_isL_f (by first | exact Or.inl (by assumption) | exact Or.inr (by assumption)) (by first | exact Or.inl (by assumption) | exact Or.inr (by assumption)))), ht⟩) (fun _ h => by cases h) d_X_isLetter_29
    · refine lv_iload_n hx hb d_X_isLetter_12 rfl (lv_at hl 0 rfl) ?_
      refine lv_bipush (v := nI 65) hx hb d_X_isLetter_13 (by decide +kernel) ?_
      refine lv_icmp_lt (tgt := 28) hx hb d_X_isLetter_15 (by decide) (fun c_5 => ?_) (fun c_5 => ?_)
      · refine lv_iconst (v := nI 0) hx hb d_X_isLetter_28 (by decide +kernel) ?_
        exact W.zret (v := nI 0) (ty := .boolean) hx hb hr (by decide +kernel) (fun t ht hW => ⟨nI 0, rfl, (by first | exact sx_b1 (sx_isL_t1 (by assumption) (by assumption)) | exact sx_b1 (sx_isL_t2 (by assumption) (by assumption)) | exact sx_b0 (sx_isL_f (by first | exact Or.inl (by assumption) | exact Or.inr (by assumption)) (by first | exact Or.inl (by assumption) | exact Or.inr (by assumption)))), ht⟩) (fun _ h => by cases h) d_X_isLetter_29
      · refine lv_iload_n hx hb d_X_isLetter_18 rfl (lv_at hl 0 rfl) ?_
        refine lv_bipush (v := nI 90) hx hb d_X_isLetter_19 (by decide +kernel) ?_
        refine lv_icmp_gt (tgt := 28) hx hb d_X_isLetter_21 (by decide) (fun c_6 => ?_) (fun c_6 => ?_)
        · refine lv_iconst (v := nI 0) hx hb d_X_isLetter_28 (by decide +kernel) ?_
          exact W.zret (v := nI 0) (ty := .boolean) hx hb hr (by decide +kernel) (fun t ht hW => ⟨nI 0, rfl, (by first | exact sx_b1 (sx_isL_t1 (by assumption) (by assumption)) | exact sx_b1 (sx_isL_t2 (by assumption) (by assumption)) | exact sx_b0 (sx_isL_f (by first | exact Or.inl (by assumption) | exact Or.inr (by assumption)) (by first | exact Or.inl (by assumption) | exact Or.inr (by assumption)))), ht⟩) (fun _ h => by cases h) d_X_isLetter_29
        · refine lv_iconst (v := nI 1) hx hb d_X_isLetter_24 (by decide +kernel) ?_
          refine lv_goto (tgt := 29) hx hb d_X_isLetter_25 (by decide) ?_
          exact W.zret (v := nI 1) (ty := .boolean) hx hb hr (by decide +kernel) (fun t ht hW => ⟨nI 1, rfl, (by first | exact sx_b1 (sx_isL_t1 (by assumption) (by assumption)) | exact sx_b1 (sx_isL_t2 (by assumption) (by assumption)) | exact sx_b0 (sx_isL_f (by first | exact Or.inl (by assumption) | exact Or.inr (by assumption)) (by first | exact Or.inl (by assumption) | exact Or.inr (by assumption)))), ht⟩) (fun _ h => by cases h) d_X_isLetter_29

set_option maxHeartbeats 4000000 in
set_option maxRecDepth 100000 in
theorem k_bits (l : Launch) (D : va_G) (cA : Nat → ClassId) (w : Int64) : Met l y_J_bitCount w_J_bitCount ({ frames := 0, cells := 0, slots := 0, locals := 0 }) (sx_Pr D cA [.long w] ([])) (vp_Si (fun r => r = nI (sx_cnt (sx_bt w) 64))) 0 0 (fun _ => False) := by
  refine Met.ofW (cc := b_J_bitCount) (maxL := 2) (ret := (some .int)) (by decide) rfl ?_
  intro pG eG s m args below meth cG s₁ B hml hv
  obtain ⟨rfl, hP, hK⟩ := hv
  have hx := B.exec
  have hb := B.bytes
  have hr := B.returns
  have hts0 := atoms_spec (ws := w_J_bitCount) B.pre
  have hts : ∀ w ∈ sx_gw, w.before _ s = true := fun w h => hts0 w (List.mem_cons_of_mem _ h)
  have hown : s.vm.findClass R_J = some m.cls := findClass_of_methodNamed B.named
  have hlocks := B.notSynchronized
  have hl := lv_entry ([.long w]) (n := 2) (Nat.le_of_ble_eq_true rfl)
  rw [lg_entry_eq]
  generalize (lg_sl ([.long w]) ++ List.replicate (2 - (lg_sl ([.long w])).length) Slot.unset).toArray = ls at hl ⊢
  have hl : lv_has ls 2 [(0, .long w)] := hl
  refine lv_lload_n hx hb d_J_bitCount_0 rfl (lv_at hl 0 rfl) ?_
  refine lv_lload_n hx hb d_J_bitCount_1 rfl (lv_at hl 0 rfl) ?_
  refine lv_iconst (v := nI 1) hx hb d_J_bitCount_2 (by decide +kernel) ?_
  refine lv_lushr (v := sx_shr w 1) hx hb d_J_bitCount_3 rfl ?_
  refine lv_ldc2 (own := R_J) (v := 6148914691236517205) hx hb hown (hts _ wd_259) d_J_bitCount_4 ?_
  refine lv_land hx hb d_J_bitCount_7 ?_
  refine lv_lsub hx hb d_J_bitCount_8 ?_
  refine lv_lstore_n (lv' := [(0, .long (w - ((sx_shr w 1) &&& 6148914691236517205)))]) hx hb d_J_bitCount_9 rfl hl (by decide) rfl (fun ls hl => ?_)
  obtain ⟨i1, e1⟩ : ∃ y : Int64, y = w - ((sx_shr w 1) &&& 6148914691236517205) := ⟨_, rfl⟩
  rw [← e1] at hl
  have hl : lv_has ls 2 [(0, .long i1)] := hl
  refine lv_lload_n hx hb d_J_bitCount_10 rfl (lv_at hl 0 rfl) ?_
  refine lv_ldc2 (own := R_J) (v := 3689348814741910323) hx hb hown (hts _ wd_260) d_J_bitCount_11 ?_
  refine lv_land hx hb d_J_bitCount_14 ?_
  refine lv_lload_n hx hb d_J_bitCount_15 rfl (lv_at hl 0 rfl) ?_
  refine lv_iconst (v := nI 2) hx hb d_J_bitCount_16 (by decide +kernel) ?_
  refine lv_lushr (v := sx_shr i1 2) hx hb d_J_bitCount_17 rfl ?_
  refine lv_ldc2 (own := R_J) (v := 3689348814741910323) hx hb hown (hts _ wd_260) d_J_bitCount_18 ?_
  refine lv_land hx hb d_J_bitCount_21 ?_
  refine lv_ladd hx hb d_J_bitCount_22 ?_
  refine lv_lstore_n (lv' := [(0, .long ((i1 &&& 3689348814741910323) + ((sx_shr i1 2) &&& 3689348814741910323)))]) hx hb d_J_bitCount_23 rfl hl (by decide) rfl (fun ls hl => ?_)
  obtain ⟨i2, e2⟩ : ∃ y : Int64, y = (i1 &&& 3689348814741910323) + ((sx_shr i1 2) &&& 3689348814741910323) := ⟨_, rfl⟩
  rw [← e2] at hl
  have hl : lv_has ls 2 [(0, .long i2)] := hl
  refine lv_lload_n hx hb d_J_bitCount_24 rfl (lv_at hl 0 rfl) ?_
  refine lv_lload_n hx hb d_J_bitCount_25 rfl (lv_at hl 0 rfl) ?_
  refine lv_iconst (v := nI 4) hx hb d_J_bitCount_26 (by decide +kernel) ?_
  refine lv_lushr (v := sx_shr i2 4) hx hb d_J_bitCount_27 rfl ?_
  refine lv_ladd hx hb d_J_bitCount_28 ?_
  refine lv_ldc2 (own := R_J) (v := 1085102592571150095) hx hb hown (hts _ wd_261) d_J_bitCount_29 ?_
  refine lv_land hx hb d_J_bitCount_32 ?_
  refine lv_lstore_n (lv' := [(0, .long ((i2 + (sx_shr i2 4)) &&& 1085102592571150095))]) hx hb d_J_bitCount_33 rfl hl (by decide) rfl (fun ls hl => ?_)
  obtain ⟨i3, e3⟩ : ∃ y : Int64, y = (i2 + (sx_shr i2 4)) &&& 1085102592571150095 := ⟨_, rfl⟩
  rw [← e3] at hl
  have hl : lv_has ls 2 [(0, .long i3)] := hl
  refine lv_lload_n hx hb d_J_bitCount_34 rfl (lv_at hl 0 rfl) ?_
  refine lv_lload_n hx hb d_J_bitCount_35 rfl (lv_at hl 0 rfl) ?_
  refine lv_bipush (v := nI 8) hx hb d_J_bitCount_36 (by decide +kernel) ?_
  refine lv_lushr (v := sx_shr i3 8) hx hb d_J_bitCount_38 rfl ?_
  refine lv_ladd hx hb d_J_bitCount_39 ?_
  refine lv_lstore_n (lv' := [(0, .long (i3 + (sx_shr i3 8)))]) hx hb d_J_bitCount_40 rfl hl (by decide) rfl (fun ls hl => ?_)
  obtain ⟨i4, e4⟩ : ∃ y : Int64, y = i3 + (sx_shr i3 8) := ⟨_, rfl⟩
  rw [← e4] at hl
  have hl : lv_has ls 2 [(0, .long i4)] := hl
  refine lv_lload_n hx hb d_J_bitCount_41 rfl (lv_at hl 0 rfl) ?_
  refine lv_lload_n hx hb d_J_bitCount_42 rfl (lv_at hl 0 rfl) ?_
  refine lv_bipush (v := nI 16) hx hb d_J_bitCount_43 (by decide +kernel) ?_
  refine lv_lushr (v := sx_shr i4 16) hx hb d_J_bitCount_45 rfl ?_
  refine lv_ladd hx hb d_J_bitCount_46 ?_
  refine lv_lstore_n (lv' := [(0, .long (i4 + (sx_shr i4 16)))]) hx hb d_J_bitCount_47 rfl hl (by decide) rfl (fun ls hl => ?_)
  obtain ⟨i5, e5⟩ : ∃ y : Int64, y = i4 + (sx_shr i4 16) := ⟨_, rfl⟩
  rw [← e5] at hl
  have hl : lv_has ls 2 [(0, .long i5)] := hl
  refine lv_lload_n hx hb d_J_bitCount_48 rfl (lv_at hl 0 rfl) ?_
  refine lv_lload_n hx hb d_J_bitCount_49 rfl (lv_at hl 0 rfl) ?_
  refine lv_bipush (v := nI 32) hx hb d_J_bitCount_50 (by decide +kernel) ?_
  refine lv_lushr (v := sx_shr i5 32) hx hb d_J_bitCount_52 rfl ?_
  refine lv_ladd hx hb d_J_bitCount_53 ?_
  refine lv_lstore_n (lv' := [(0, .long (i5 + (sx_shr i5 32)))]) hx hb d_J_bitCount_54 rfl hl (by decide) rfl (fun ls hl => ?_)
  obtain ⟨i6, e6⟩ : ∃ y : Int64, y = i5 + (sx_shr i5 32) := ⟨_, rfl⟩
  rw [← e6] at hl
  have hl : lv_has ls 2 [(0, .long i6)] := hl
  refine lv_lload_n hx hb d_J_bitCount_55 rfl (lv_at hl 0 rfl) ?_
  refine lv_l2i (v := i6.toInt32) hx hb d_J_bitCount_56 rfl ?_
  refine lv_bipush (v := nI 127) hx hb d_J_bitCount_57 (by decide +kernel) ?_
  refine lv_iand hx hb d_J_bitCount_59 ?_
  exact W.iret (v := i6.toInt32 &&& (nI 127)) hx hb hr (fun t ht hW => ⟨i6.toInt32 &&& (nI 127), rfl, sx_bitcount e1 e2 e3 e4 e5 e6, ht⟩) (fun _ h => by cases h) d_J_bitCount_60

set_option maxHeartbeats 4000000 in
set_option maxRecDepth 100000 in
theorem k_actAt (l : Launch) (D : va_G) (cA : Nat → ClassId) (h : Nat → Nat) (lim : Int32) (na : Nat) (sn : Int32) (acts : Nat → Option Nat) (a : Nat) (ha : a < na) (hna : na ≤ 10) (q : Nat) (hq : acts a = some q) : Met l y_X_actionAt w_X_actionAt ({ frames := 0, cells := 0, slots := 0, locals := 0 }) (sx_Pr D cA [.ref (h 0), .int (nI a)] (wQ cA h lim (nI na) sn acts)) (va_Sq (fun r => r = some q)) 0 0 (fun _ => False) := by
  refine Met.ofW (cc := b_X_actionAt) (maxL := 2) (ret := (some (.object "SandboxTree$Action"))) (by decide) rfl ?_
  intro pG eG s m args below meth cG s₁ B hml hv
  obtain ⟨rfl, hP, hK⟩ := hv
  have hx := B.exec
  have hb := B.bytes
  have hr := B.returns
  have hts0 := atoms_spec (ws := w_X_actionAt) B.pre
  have hts : ∀ w ∈ sx_gw, w.before _ s = true := fun w h => hts0 w (List.mem_cons_of_mem _ h)
  have hown : s.vm.findClass R_X = some m.cls := findClass_of_methodNamed B.named
  have hlocks := B.notSynchronized
  have hl := lv_entry ([.ref (h 0), .int (nI a)]) (n := 2) (Nat.le_of_ble_eq_true rfl)
  rw [lg_entry_eq]
  generalize (lg_sl ([.ref (h 0), .int (nI a)]) ++ List.replicate (2 - (lg_sl ([.ref (h 0), .int (nI a)])).length) Slot.unset).toArray = ls at hl ⊢
  have hl : lv_has ls 2 [(0, .ref (h 0)), (1, .int (nI a))] := hl
  refine lv_iload_n hx hb d_X_actionAt_0 rfl (lv_at hl 1 rfl) ?_
  refine lv_if_lt (tgt := 21) hx hb d_X_actionAt_1 (by decide) (fun c_1 => ?_) (fun c_1 => ?_)
  · exact absurd c_1 (nI_pos (by omega))
  · refine lv_iload_n hx hb d_X_actionAt_4 rfl (lv_at hl 1 rfl) ?_
    refine lv_aload_n hx hb d_X_actionAt_5 rfl (lv_at hl 0 rfl) ?_
    refine va_get (D := D) (ci := 3) (v := .int (nI na)) (C := R_X) (T := T_X) (N := 6) hx hb hts iw_X hown hK.1 hP 0 rfl rfl 4 (by decide) (hts _ wd_73) (fun _ h9 => h9) rfl d_X_actionAt_6 ?_
    refine lv_icmp_ge (tgt := 21) hx hb d_X_actionAt_9 (by decide) (fun c_2 => ?_) (fun c_2 => ?_)
    · have c_2 : na ≤ a := (nI_leI (by omega) (by omega)).mp c_2
      omega
    · have c_2 : a < na := Nat.not_le.mp (fun z => c_2 ((nI_leI (by omega) (by omega)).mpr z))
      refine lv_aload_n hx hb d_X_actionAt_12 rfl (lv_at hl 0 rfl) ?_
      refine va_get (D := D) (ci := 3) (v := .ref (h 8)) (C := R_X) (T := T_X) (N := 6) hx hb hts iw_X hown hK.1 hP 0 rfl rfl 3 (by decide) (hts _ wd_72) (fun _ h9 => h9) rfl d_X_actionAt_13 ?_
      refine lv_iload_n hx hb d_X_actionAt_16 rfl (lv_at hl 1 rfl) ?_
      refine va_aldq hx hb hK.1 hP 1 4 rfl rfl (vp_in_nI (by omega) (by decide)) d_X_actionAt_17 ?_
      refine sx_asv (y := .ref q) (by rw [nI_clamp (by omega), hq]; rfl) ?_
      refine lv_goto (tgt := 22) hx hb d_X_actionAt_18 (by decide) ?_
      exact W.aret (v := .ref q) hx hb hr (Or.inl ⟨_, rfl⟩) (Or.inr ⟨_, rfl⟩) (fun t ht hW => ⟨some q, rfl, rfl, ht⟩) (fun _ h => by cases h) d_X_actionAt_22

set_option maxHeartbeats 4000000 in
set_option maxRecDepth 100000 in
theorem k_actAtN (l : Launch) (D : va_G) (cA : Nat → ClassId) (h : Nat → Nat) (lim : Int32) (na : Nat) (sn : Int32) (acts : Nat → Option Nat) (x : Int32) (hx0 : sx_has na x = false) : Met l y_X_actionAt w_X_actionAt ({ frames := 0, cells := 0, slots := 0, locals := 0 }) (sx_Pr D cA [.ref (h 0), .int x] (wQ cA h lim (nI na) sn acts)) (va_Sq (fun r => r = none)) 0 0 (fun _ => False) := by
  refine Met.ofW (cc := b_X_actionAt) (maxL := 2) (ret := (some (.object "SandboxTree$Action"))) (by decide) rfl ?_
  intro pG eG s m args below meth cG s₁ B hml hv
  obtain ⟨rfl, hP, hK⟩ := hv
  have hx := B.exec
  have hb := B.bytes
  have hr := B.returns
  have hts0 := atoms_spec (ws := w_X_actionAt) B.pre
  have hts : ∀ w ∈ sx_gw, w.before _ s = true := fun w h => hts0 w (List.mem_cons_of_mem _ h)
  have hown : s.vm.findClass R_X = some m.cls := findClass_of_methodNamed B.named
  have hlocks := B.notSynchronized
  have hl := lv_entry ([.ref (h 0), .int x]) (n := 2) (Nat.le_of_ble_eq_true rfl)
  rw [lg_entry_eq]
  generalize (lg_sl ([.ref (h 0), .int x]) ++ List.replicate (2 - (lg_sl ([.ref (h 0), .int x])).length) Slot.unset).toArray = ls at hl ⊢
  have hl : lv_has ls 2 [(0, .ref (h 0)), (1, .int x)] := hl
  refine lv_iload_n hx hb d_X_actionAt_0 rfl (lv_at hl 1 rfl) ?_
  refine lv_if_lt (tgt := 21) hx hb d_X_actionAt_1 (by decide) (fun c_1 => ?_) (fun c_1 => ?_)
  · refine lv_null hx hb d_X_actionAt_21 ?_
    exact W.aret (v := .null) hx hb hr (Or.inl ⟨_, rfl⟩) (Or.inl rfl) (fun t ht hW => ⟨none, rfl, rfl, ht⟩) (fun _ h => by cases h) d_X_actionAt_22
  · refine lv_iload_n hx hb d_X_actionAt_4 rfl (lv_at hl 1 rfl) ?_
    refine lv_aload_n hx hb d_X_actionAt_5 rfl (lv_at hl 0 rfl) ?_
    refine va_get (D := D) (ci := 3) (v := .int (nI na)) (C := R_X) (T := T_X) (N := 6) hx hb hts iw_X hown hK.1 hP 0 rfl rfl 4 (by decide) (hts _ wd_73) (fun _ h9 => h9) rfl d_X_actionAt_6 ?_
    refine lv_icmp_ge (tgt := 21) hx hb d_X_actionAt_9 (by decide) (fun c_2 => ?_) (fun c_2 => ?_)
    · refine lv_null hx hb d_X_actionAt_21 ?_
      exact W.aret (v := .null) hx hb hr (Or.inl ⟨_, rfl⟩) (Or.inl rfl) (fun t ht hW => ⟨none, rfl, rfl, ht⟩) (fun _ h => by cases h) d_X_actionAt_22
    · exact absurd (sx_has_tt c_1 c_2) (by rw [hx0]; decide)

set_option maxHeartbeats 4000000 in
set_option maxRecDepth 100000 in
theorem k_run (l : Launch) (D : va_G) (cA : Nat → ClassId) (h g : Nat → Nat) (lim : Int32) (na : Nat) (sn cnt : Int32) (par ltr : Nat → Int32) (ab un : Nat → Int64) (sv : Nat → Int32) (sf sl : Int64) (acts : Nat → Option Nat) (dp out : Nat → Int32) (dc : Int32) (thb : Bool) (hw br ops rf : Int32) (tp : Nat → Int32) (tc : Int32) (ts : Int64) (wv : Nat → Int32) (wf wl : Int64) (a : Nat) (ha : a < na) (hna : na ≤ 10) (hacts : acts a = some (g 0)) (hth : thb = true) : Met l y_X_runningAt w_X_runningAt ({ frames := 1, cells := 0, slots := 0, locals := 21 }) (sx_Pr D cA [.ref (h 0), .int (nI a)] (wXA cA h g lim (nI na) sn cnt par ltr ab un sv sf sl acts dp out dc (sx_bI thb) hw br ops rf tp tc ts wv wf wl)) (va_Sq (fun r => r = some (g 0))) 0 0 (fun _ => False) := by
  refine Met.ofW (cc := b_X_runningAt) (maxL := 3) (ret := (some (.object "SandboxTree$Action"))) (by decide) rfl ?_
  intro pG eG s m args below meth cG s₁ B hml hv
  obtain ⟨rfl, hP, hK⟩ := hv
  have hx := B.exec
  have hb := B.bytes
  have hr := B.returns
  have hts0 := atoms_spec (ws := w_X_runningAt) B.pre
  have hts : ∀ w ∈ sx_gw, w.before _ s = true := fun w h => hts0 w (List.mem_cons_of_mem _ h)
  have hown : s.vm.findClass R_X = some m.cls := findClass_of_methodNamed B.named
  have hlocks := B.notSynchronized
  have hl := lv_entry ([.ref (h 0), .int (nI a)]) (n := 3) (Nat.le_of_ble_eq_true rfl)
  rw [lg_entry_eq]
  generalize (lg_sl ([.ref (h 0), .int (nI a)]) ++ List.replicate (3 - (lg_sl ([.ref (h 0), .int (nI a)])).length) Slot.unset).toArray = ls at hl ⊢
  have hl : lv_has ls 3 [(0, .ref (h 0)), (1, .int (nI a))] := hl
  refine lv_aload_n hx hb d_X_runningAt_0 rfl (lv_at hl 0 rfl) ?_
  refine lv_iload_n hx hb d_X_runningAt_1 rfl (lv_at hl 1 rfl) ?_
  have hPc : va_P D vwCl (wQ cA h lim (nI na) sn acts) s.heap := hP.sub [0, 8] rfl
  refine va_csq (va_runV (As := [.int (nI a)]) (rest := []) ⟨hx, hb, hml, hown, hts⟩ (k_actAt l D cA h lim na sn acts a (by omega) (by omega) (g 0) hacts) (cwV 1 hts (sx_GV wd_212 wd_214 ws_0 wd_1 wd_215) rfl rfl rfl (by decide +kernel) ⟨Nat.le_of_ble_eq_true rfl, Nat.le_of_ble_eq_true rfl⟩) (sx_preV hK hPc (va_recv hK.1 hPc (ci := 3) (q0 := 0) rfl rfl)) rfl rfl hl.1 rfl (lv_room (Nat.le_of_ble_eq_true rfl)) d_X_runningAt_2 ⟨Nat.le_of_ble_eq_true rfl, Nat.le_of_ble_eq_true rfl⟩).run (fun r_2 hr_1 => ?_)
  subst hr_1
  refine sx_asv (y := .ref (g 0)) rfl ?_
  refine lv_astore_n (lv' := [(2, .ref (g 0)), (0, .ref (h 0)), (1, .int (nI a))]) hx hb d_X_runningAt_5 rfl hl (by decide) rfl (fun ls hl => ?_)
  refine lv_aload_n hx hb d_X_runningAt_6 rfl (lv_at hl 0 rfl) ?_
  refine lv_ifnull hx hb d_X_runningAt_7 ?_
  refine lv_aload_n hx hb d_X_runningAt_10 rfl (lv_at hl 0 rfl) ?_
  refine va_getN (D := D) (ci := 0) (v := .int (sx_bI thb)) (C := R_A) (T := T_A) (N := 12) hx hb hts iw_A hown hK.1 hP 9 rfl rfl 4 (by decide) (va_Nw.use rfl (hK.2.1 _ wd_168)) (fun _ h9 => h9) rfl d_X_runningAt_11 ?_
  refine lv_if_eq (tgt := 21) hx hb d_X_runningAt_14 (by decide) (fun c_3 => ?_) (fun c_3 => ?_)
  · exact absurd (sx_bI0 c_3) (by rw [hth]; decide)
  · have c_3 : thb = true := sx_bIn c_3
    refine lv_aload_n hx hb d_X_runningAt_17 rfl (lv_at hl 0 rfl) ?_
    refine lv_goto (tgt := 22) hx hb d_X_runningAt_18 (by decide) ?_
    exact W.aret (v := .ref (g 0)) hx hb hr (Or.inl ⟨_, rfl⟩) (Or.inr ⟨_, rfl⟩) (fun t ht hW => ⟨some (g 0), rfl, rfl, ht⟩) (fun _ h => by cases h) d_X_runningAt_22

set_option maxHeartbeats 4000000 in
set_option maxRecDepth 100000 in
theorem k_runN (l : Launch) (D : va_G) (cA : Nat → ClassId) (h g : Nat → Nat) (lim : Int32) (na : Nat) (sn cnt : Int32) (par ltr : Nat → Int32) (ab un : Nat → Int64) (sv : Nat → Int32) (sf sl : Int64) (acts : Nat → Option Nat) (dp out : Nat → Int32) (dc : Int32) (thb : Bool) (hw br ops rf : Int32) (tp : Nat → Int32) (tc : Int32) (ts : Int64) (wv : Nat → Int32) (wf wl : Int64) (a : Nat) (ha : a < na) (hna : na ≤ 10) (hacts : acts a = some (g 0)) (hth : thb = false) : Met l y_X_runningAt w_X_runningAt ({ frames := 1, cells := 0, slots := 0, locals := 21 }) (sx_Pr D cA [.ref (h 0), .int (nI a)] (wXA cA h g lim (nI na) sn cnt par ltr ab un sv sf sl acts dp out dc (sx_bI thb) hw br ops rf tp tc ts wv wf wl)) (va_Sq (fun r => r = none)) 0 0 (fun _ => False) := by
  refine Met.ofW (cc := b_X_runningAt) (maxL := 3) (ret := (some (.object "SandboxTree$Action"))) (by decide) rfl ?_
  intro pG eG s m args below meth cG s₁ B hml hv
  obtain ⟨rfl, hP, hK⟩ := hv
  have hx := B.exec
  have hb := B.bytes
  have hr := B.returns
  have hts0 := atoms_spec (ws := w_X_runningAt) B.pre
  have hts : ∀ w ∈ sx_gw, w.before _ s = true := fun w h => hts0 w (List.mem_cons_of_mem _ h)
  have hown : s.vm.findClass R_X = some m.cls := findClass_of_methodNamed B.named
  have hlocks := B.notSynchronized
  have hl := lv_entry ([.ref (h 0), .int (nI a)]) (n := 3) (Nat.le_of_ble_eq_true rfl)
  rw [lg_entry_eq]
  generalize (lg_sl ([.ref (h 0), .int (nI a)]) ++ List.replicate (3 - (lg_sl ([.ref (h 0), .int (nI a)])).length) Slot.unset).toArray = ls at hl ⊢
  have hl : lv_has ls 3 [(0, .ref (h 0)), (1, .int (nI a))] := hl
  refine lv_aload_n hx hb d_X_runningAt_0 rfl (lv_at hl 0 rfl) ?_
  refine lv_iload_n hx hb d_X_runningAt_1 rfl (lv_at hl 1 rfl) ?_
  have hPc : va_P D vwCl (wQ cA h lim (nI na) sn acts) s.heap := hP.sub [0, 8] rfl
  refine va_csq (va_runV (As := [.int (nI a)]) (rest := []) ⟨hx, hb, hml, hown, hts⟩ (k_actAt l D cA h lim na sn acts a (by omega) (by omega) (g 0) hacts) (cwV 1 hts (sx_GV wd_212 wd_214 ws_0 wd_1 wd_215) rfl rfl rfl (by decide +kernel) ⟨Nat.le_of_ble_eq_true rfl, Nat.le_of_ble_eq_true rfl⟩) (sx_preV hK hPc (va_recv hK.1 hPc (ci := 3) (q0 := 0) rfl rfl)) rfl rfl hl.1 rfl (lv_room (Nat.le_of_ble_eq_true rfl)) d_X_runningAt_2 ⟨Nat.le_of_ble_eq_true rfl, Nat.le_of_ble_eq_true rfl⟩).run (fun r_2 hr_1 => ?_)
  subst hr_1
  refine sx_asv (y := .ref (g 0)) rfl ?_
  refine lv_astore_n (lv' := [(2, .ref (g 0)), (0, .ref (h 0)), (1, .int (nI a))]) hx hb d_X_runningAt_5 rfl hl (by decide) rfl (fun ls hl => ?_)
  refine lv_aload_n hx hb d_X_runningAt_6 rfl (lv_at hl 0 rfl) ?_
  refine lv_ifnull hx hb d_X_runningAt_7 ?_
  refine lv_aload_n hx hb d_X_runningAt_10 rfl (lv_at hl 0 rfl) ?_
  refine va_getN (D := D) (ci := 0) (v := .int (sx_bI thb)) (C := R_A) (T := T_A) (N := 12) hx hb hts iw_A hown hK.1 hP 9 rfl rfl 4 (by decide) (va_Nw.use rfl (hK.2.1 _ wd_168)) (fun _ h9 => h9) rfl d_X_runningAt_11 ?_
  refine lv_if_eq (tgt := 21) hx hb d_X_runningAt_14 (by decide) (fun c_3 => ?_) (fun c_3 => ?_)
  · have c_3 : thb = false := sx_bI0 c_3
    refine lv_null hx hb d_X_runningAt_21 ?_
    exact W.aret (v := .null) hx hb hr (Or.inl ⟨_, rfl⟩) (Or.inl rfl) (fun t ht hW => ⟨none, rfl, rfl, ht⟩) (fun _ h => by cases h) d_X_runningAt_22
  · exact absurd (sx_bIn c_3) (by rw [hth]; decide)

set_option maxHeartbeats 4000000 in
set_option maxRecDepth 100000 in
theorem k_runO (l : Launch) (D : va_G) (cA : Nat → ClassId) (h : Nat → Nat) (lim : Int32) (na : Nat) (sn : Int32) (acts : Nat → Option Nat) (x : Int32) (hx0 : sx_has na x = false) : Met l y_X_runningAt w_X_runningAt ({ frames := 1, cells := 0, slots := 0, locals := 21 }) (sx_Pr D cA [.ref (h 0), .int x] (wQ cA h lim (nI na) sn acts)) (va_Sq (fun r => r = none)) 0 0 (fun _ => False) := by
  refine Met.ofW (cc := b_X_runningAt) (maxL := 3) (ret := (some (.object "SandboxTree$Action"))) (by decide) rfl ?_
  intro pG eG s m args below meth cG s₁ B hml hv
  obtain ⟨rfl, hP, hK⟩ := hv
  have hx := B.exec
  have hb := B.bytes
  have hr := B.returns
  have hts0 := atoms_spec (ws := w_X_runningAt) B.pre
  have hts : ∀ w ∈ sx_gw, w.before _ s = true := fun w h => hts0 w (List.mem_cons_of_mem _ h)
  have hown : s.vm.findClass R_X = some m.cls := findClass_of_methodNamed B.named
  have hlocks := B.notSynchronized
  have hl := lv_entry ([.ref (h 0), .int x]) (n := 3) (Nat.le_of_ble_eq_true rfl)
  rw [lg_entry_eq]
  generalize (lg_sl ([.ref (h 0), .int x]) ++ List.replicate (3 - (lg_sl ([.ref (h 0), .int x])).length) Slot.unset).toArray = ls at hl ⊢
  have hl : lv_has ls 3 [(0, .ref (h 0)), (1, .int x)] := hl
  refine lv_aload_n hx hb d_X_runningAt_0 rfl (lv_at hl 0 rfl) ?_
  refine lv_iload_n hx hb d_X_runningAt_1 rfl (lv_at hl 1 rfl) ?_
  refine va_csq (va_runV (As := [.int x]) (rest := []) ⟨hx, hb, hml, hown, hts⟩ (k_actAtN l D cA h lim na sn acts x hx0) (cwV 1 hts (sx_GV wd_212 wd_214 ws_0 wd_1 wd_215) rfl rfl rfl (by decide +kernel) ⟨Nat.le_of_ble_eq_true rfl, Nat.le_of_ble_eq_true rfl⟩) (sx_preV hK hP (va_recv hK.1 hP (ci := 3) (q0 := 0) rfl rfl)) rfl rfl hl.1 rfl (lv_room (Nat.le_of_ble_eq_true rfl)) d_X_runningAt_2 ⟨Nat.le_of_ble_eq_true rfl, Nat.le_of_ble_eq_true rfl⟩).run (fun r_2 hr_1 => ?_)
  subst hr_1
  refine sx_asv (y := .null) rfl ?_
  refine lv_astore_nN (lv' := [(2, .null), (0, .ref (h 0)), (1, .int x)]) hx hb d_X_runningAt_5 rfl hl (by decide) rfl (fun ls hl => ?_)
  refine lv_aload_nN hx hb d_X_runningAt_6 rfl (lv_at hl 0 rfl) ?_
  refine lv_ifnullN (tgt := 21) hx hb d_X_runningAt_7 (by decide) ?_
  refine lv_null hx hb d_X_runningAt_21 ?_
  exact W.aret (v := .null) hx hb hr (Or.inl ⟨_, rfl⟩) (Or.inl rfl) (fun t ht hW => ⟨none, rfl, rfl, ht⟩) (fun _ h => by cases h) d_X_runningAt_22

set_option maxHeartbeats 4000000 in
set_option maxRecDepth 100000 in
theorem k_gather (l : Launch) (D : va_G) (cA : Nat → ClassId) (sz : Nat) (h g : Nat → Nat) (lim ac sn : Int32) (n : Nat) (α : sx_A) (ab un : Nat → Int64) (sv : Nat → Int32) (sf sl : Int64) (acts : Nat → Option Nat) (a : Nat) (dp out : Nat → Int32) (th hw br ops rf : Int32) (tp : Nat → Int32) (tc : Int32) (ts : Int64) (wv : Nat → Int32) (wf wl : Int64) (na L : Nat) (hI : sx_INV n na L α) (ha : a < na) (hR : sx_RP n (α 1) ab un) (hDO : sx_DO α a dp out) (hW0 : sx_RW (sx_wd_ α a) wv wf wl) (hS0 : sx_RW (α 3) sv sf sl) (hf : sx_fl n α a (sx_dN α a) 0 0 = 0) : Met l y_X_gather w_X_gather ({ frames := 3, cells := 0, slots := 0, locals := 67 }) (sx_Pw D cA [.ref (h 0), .ref (g 0)] (wXA cA h g lim ac sn (nI n) (α 1) (α 2) ab un sv sf sl acts dp out (nI (sx_dN α a)) th hw br ops rf tp tc ts wv wf wl) sz) (va_Qi (fun r (u : (Nat → Int32) × Int64 × Int64) => r = (bif sx_cl n α a then -3 else bif sx_way n α a then -4 else sx_finC n α a) ∧ sx_RW (bif !sx_cl n α a && !sx_way n α a then sx_srow n α a n else α 3) u.1 u.2.1 u.2.2) (sx_Bw D (wXA cA h g lim ac sn (nI n) (α 1) (α 2) ab un sv sf sl acts dp out (nI (sx_dN α a)) th hw br ops rf tp tc ts wv wf wl) sz (fun u => wXA cA h g lim ac sn (nI n) (α 1) (α 2) ab un (u.1) (u.2.1) (u.2.2) acts dp out (nI (sx_dN α a)) th hw br ops rf tp tc ts wv wf wl)) (va_A (wXA cA h g lim ac sn (nI n) (α 1) (α 2) ab un sv sf sl acts dp out (nI (sx_dN α a)) th hw br ops rf tp tc ts wv wf wl) sz)) 0 0 (va_A (wXA cA h g lim ac sn (nI n) (α 1) (α 2) ab un sv sf sl acts dp out (nI (sx_dN α a)) th hw br ops rf tp tc ts wv wf wl) sz) := by
  refine Met.ofW (cc := b_X_gather) (maxL := 11) (ret := (some .int)) (by decide) rfl ?_
  intro pG eG s m args below meth cG s₁ B hml hv
  obtain ⟨rfl, hsz, hP, hK, hD0⟩ := hv
  have hx := B.exec
  have hb := B.bytes
  have hr := B.returns
  have hts0 := atoms_spec (ws := w_X_gather) B.pre
  have hts : ∀ w ∈ sx_gw, w.before _ s = true := fun w h => hts0 w (List.mem_cons_of_mem _ h)
  have hown : s.vm.findClass R_X = some m.cls := findClass_of_methodNamed B.named
  have hlocks := B.notSynchronized
  subst hsz
  have hD := hD0.self (sz := s.heap.size)
  generalize hAe : va_A (wXA cA h g lim ac sn (nI n) (α 1) (α 2) ab un sv sf sl acts dp out (nI (sx_dN α a)) th hw br ops rf tp tc ts wv wf wl) s.heap.size = A at hD ⊢
  have hA : ∀ q : Nat, s.heap.size ≤ q → A q := fun q h => by rw [← hAe]; exact Or.inr h
  have hS : va_S A s.heap s.heap [] := va_S.rf
  have hl := lv_entry ([.ref (h 0), .ref (g 0)]) (n := 11) (Nat.le_of_ble_eq_true rfl)
  rw [lg_entry_eq]
  generalize (lg_sl ([.ref (h 0), .ref (g 0)]) ++ List.replicate (11 - (lg_sl ([.ref (h 0), .ref (g 0)])).length) Slot.unset).toArray = ls at hl ⊢
  have hl : lv_has ls 11 [(0, .ref (h 0)), (1, .ref (g 0))] := hl
  have hn31 := sx_INV_n hI
  have hn60 := hI.1.1.2
  have h1n := hI.1.1.1
  have hAc := sx_INV_A hI ha
  have hd12 := (sx_dN_ok hAc).1
  refine lv_aload_n hx hb d_X_gather_0 rfl (lv_at hl 0 rfl) ?_
  refine lv_aload_n hx hb d_X_gather_1 rfl (lv_at hl 1 rfl) ?_
  refine lv_iconst (v := nI 1) hx hb d_X_gather_2 (by decide +kernel) ?_
  refine vp_callSl (va_runV (As := [.ref (g 0), .int (nI 1)]) (rest := []) ⟨hx, hb, hml, hown, hts⟩ (k_underD l D cA h g lim ac sn n α ab un sv sf sl acts a dp out th hw br ops rf tp tc ts wv wf wl na L hI ha hR hDO true) (cwV 2 hts (sx_GV wd_245 wd_247 ws_3 wd_1 wd_248) rfl rfl rfl (by decide +kernel) ⟨Nat.le_of_ble_eq_true rfl, Nat.le_of_ble_eq_true rfl⟩) (sx_preV hK hP (va_recv hK.1 hP (ci := 3) (q0 := 0) rfl rfl)) rfl rfl hl.1 rfl (lv_room (Nat.le_of_ble_eq_true rfl)) d_X_gather_3 ⟨Nat.le_of_ble_eq_true rfl, Nat.le_of_ble_eq_true rfl⟩).run (fun r_2 hr_1 => ?_)
  refine lv_lstore_n (lv' := [(2, .long r_2), (0, .ref (h 0)), (1, .ref (g 0))]) hx hb d_X_gather_6 rfl hl (by decide) rfl (fun ls hl => ?_)
  have hrp := hr_1
  refine lv_lload_n hx hb d_X_gather_7 rfl (lv_at hl 0 rfl) ?_
  refine lv_aload_n hx hb d_X_gather_8 rfl (lv_at hl 2 rfl) ?_
  refine va_getN (D := D) (ci := 0) (v := .ref (g 3)) (C := R_A) (T := T_A) (N := 12) hx hb hts iw_A hown hK.1 hP 9 rfl rfl 3 (by decide) (va_Nw.use rfl (hK.2.1 _ wd_166)) (fun _ h9 => h9) rfl d_X_gather_9 ?_
  have hPc : va_P D vwCl (wS cA (g 3) (g 4) wv wf wl) s.heap := hP.sub [12, 13] rfl
  refine vp_callSl (va_runV (As := []) (rest := [.long r_2]) ⟨hx, hb, hml, hown, hts⟩ (k_taken l D cA (g 3) (g 4) wv wf wl ) (cwV 0 hts (sx_GV wd_121 wd_122 wd_123 wd_4 wd_124) rfl rfl rfl (by decide +kernel) ⟨Nat.le_of_ble_eq_true rfl, Nat.le_of_ble_eq_true rfl⟩) (sx_preV hK hPc (va_recv hK.1 hPc (ci := 2) (q0 := 0) rfl rfl)) rfl rfl hl.1 rfl (lv_room (Nat.le_of_ble_eq_true rfl)) d_X_gather_12 ⟨Nat.le_of_ble_eq_true rfl, Nat.le_of_ble_eq_true rfl⟩).run (fun r_4 hr_3 => ?_)
  subst hr_3
  refine lv_land hx hb d_X_gather_15 ?_
  refine lv_lstore (lv' := [(4, .long (r_2 &&& (wf ||| wl))), (2, .long r_2), (0, .ref (h 0)), (1, .ref (g 0))]) hx hb d_X_gather_16 hl (by decide) rfl (fun ls hl => ?_)
  have hcm := sx_com_bit hI ha hrp hW0
  obtain ⟨cm, ecm⟩ : ∃ y : Int64, y = r_2 &&& (wf ||| wl) := ⟨_, rfl⟩
  rw [← ecm] at hcm hl
  have hl : lv_has ls 11 [(4, .long cm), (2, .long r_2), (0, .ref (h 0)), (1, .ref (g 0))] := hl
  refine lv_aload_n hx hb d_X_gather_18 rfl (lv_at hl 2 rfl) ?_
  refine va_get (D := D) (ci := 3) (v := .ref (h 1)) (C := R_X) (T := T_X) (N := 6) hx hb hts iw_X hown hK.1 hP 0 rfl rfl 1 (by decide) (hts _ wd_70) (fun _ h9 => h9) rfl d_X_gather_19 ?_
  refine lv_lload hx hb d_X_gather_22 (lv_at hl 0 rfl) ?_
  have hPc : va_P D vwCl (wP cA (h 1) (h 2) (h 3) (h 4) (h 5) (nI n) (α 1) (α 2) ab un) s.heap := hP.sub [1, 2, 3, 4, 5] rfl
  refine vp_callSl (va_runV (As := [.long cm]) (rest := []) ⟨hx, hb, hml, hown, hts⟩ (k_above l D cA (h 1) (h 2) (h 3) (h 4) (h 5) n (α 1) (α 2) ab un hR (by omega) cm) (cwV 1 hts (sx_GV wd_338 wd_339 wd_340 wd_3 wd_341) rfl rfl rfl (by decide +kernel) ⟨Nat.le_of_ble_eq_true rfl, Nat.le_of_ble_eq_true rfl⟩) (sx_preV hK hPc (va_recv hK.1 hPc (ci := 1) (q0 := 0) rfl rfl)) rfl rfl hl.1 rfl (lv_room (Nat.le_of_ble_eq_true rfl)) d_X_gather_24 ⟨Nat.le_of_ble_eq_true rfl, Nat.le_of_ble_eq_true rfl⟩).run (fun r_6 hr_5 => ?_)
  refine lv_lstore (lv' := [(6, .long r_6), (4, .long cm), (2, .long r_2), (0, .ref (h 0)), (1, .ref (g 0))]) hx hb d_X_gather_27 hl (by decide) rfl (fun ls hl => ?_)
  have hca : ∀ q, q < 64 → sx_bt r_6 q = sx_mk n α a q := fun q hq => by rw [hr_5 q hq]; exact sx_mk_eq hI hcm q
  refine lv_aload_n hx hb d_X_gather_29 rfl (lv_at hl 3 rfl) ?_
  refine va_get (D := D) (ci := 3) (v := .ref (h 1)) (C := R_X) (T := T_X) (N := 6) hx hb hts iw_X hown hK.1 hP 0 rfl rfl 1 (by decide) (hts _ wd_70) (fun _ h9 => h9) rfl d_X_gather_30 ?_
  refine lv_lload hx hb d_X_gather_33 (lv_at hl 0 rfl) ?_
  have hPc : va_P D vwCl (wP cA (h 1) (h 2) (h 3) (h 4) (h 5) (nI n) (α 1) (α 2) ab un) s.heap := hP.sub [1, 2, 3, 4, 5] rfl
  refine vp_callSi (va_runV (As := [.long r_6]) (rest := []) ⟨hx, hb, hml, hown, hts⟩ (k_clash l D cA (h 1) (h 2) (h 3) (h 4) (h 5) n α ab un (by omega) (by omega) hI.2.2.2.1 r_6) (cwV 1 hts (sx_GV wd_342 wd_343 wd_344 wd_3 wd_345) rfl rfl rfl (by decide +kernel) ⟨Nat.le_of_ble_eq_true rfl, Nat.le_of_ble_eq_true rfl⟩) (sx_preV hK hPc (va_recv hK.1 hPc (ci := 1) (q0 := 0) rfl rfl)) rfl rfl hl.1 rfl (lv_room (Nat.le_of_ble_eq_true rfl)) d_X_gather_35 ⟨Nat.le_of_ble_eq_true rfl, Nat.le_of_ble_eq_true rfl⟩).run (fun r_8 hr_7 => ?_)
  subst hr_7
  refine lv_if_eq (tgt := 44) hx hb d_X_gather_38 (by decide) (fun c_9 => ?_) (fun c_9 => ?_)
  · have w38 : sx_cl n α a = false := by have z := sx_bI0 c_9; unfold sx_clF at z; rw [sx_clash hI (fun k hk => hca k (by omega))] at z; exact z
    refine lv_aload_n hx hb d_X_gather_44 rfl (lv_at hl 3 rfl) ?_
    refine va_get (D := D) (ci := 3) (v := .ref (h 6)) (C := R_X) (T := T_X) (N := 6) hx hb hts iw_X hown hK.1 hP 0 rfl rfl 2 (by decide) (hts _ wd_71) (fun _ h9 => h9) rfl d_X_gather_45 ?_
    have hPc : va_P D vwCl (wS cA (h 6) (h 7) sv sf sl) s.heap := hP.sub [6, 7] rfl
    refine vp_callSl (va_runV (As := []) (rest := []) ⟨hx, hb, hml, hown, hts⟩ (k_taken l D cA (h 6) (h 7) sv sf sl ) (cwV 0 hts (sx_GV wd_121 wd_122 wd_123 wd_4 wd_124) rfl rfl rfl (by decide +kernel) ⟨Nat.le_of_ble_eq_true rfl, Nat.le_of_ble_eq_true rfl⟩) (sx_preV hK hPc (va_recv hK.1 hPc (ci := 2) (q0 := 0) rfl rfl)) rfl rfl hl.1 rfl (lv_room (Nat.le_of_ble_eq_true rfl)) d_X_gather_48 ⟨Nat.le_of_ble_eq_true rfl, Nat.le_of_ble_eq_true rfl⟩).run (fun r_11 hr_10 => ?_)
    subst hr_10
    refine lv_lload_n hx hb d_X_gather_51 rfl (lv_at hl 2 rfl) ?_
    refine lv_ldc2 (own := R_X) (v := (-1)) hx hb hown (hts _ wd_296) d_X_gather_52 ?_
    refine lv_lxor hx hb d_X_gather_55 ?_
    refine lv_land hx hb d_X_gather_56 ?_
    refine lv_lstore (lv' := [(8, .long ((sf ||| sl) &&& (r_2 ^^^ (-1)))), (6, .long r_6), (4, .long cm), (2, .long r_2), (0, .ref (h 0)), (1, .ref (g 0))]) hx hb d_X_gather_57 hl (by decide) rfl (fun ls hl => ?_)
    refine lv_lload hx hb d_X_gather_59 (lv_at hl 1 rfl) ?_
    refine lv_lload hx hb d_X_gather_61 (lv_at hl 0 rfl) ?_
    refine lv_land hx hb d_X_gather_63 ?_
    refine lv_lconst (v := 0) hx hb d_X_gather_64 (by decide +kernel) ?_
    refine W.lcmp hx hb d_X_gather_65 ?_
    refine lv_if_eq (tgt := 72) hx hb d_X_gather_66 (by decide) (fun c_12 => ?_) (fun c_12 => ?_)
    · have w66 := (sx_way_eq hI hca hrp hS0).mp (sx_cmp0.mp c_12)
      refine lv_iconst (v := nI 1) hx hb d_X_gather_72 (by decide +kernel) ?_
      refine lv_istore (lv' := [(10, .int (nI 1)), (8, .long ((sf ||| sl) &&& (r_2 ^^^ (-1)))), (6, .long r_6), (4, .long cm), (2, .long r_2), (0, .ref (h 0)), (1, .ref (g 0))]) hx hb d_X_gather_73 hl (by decide) rfl (fun ls hl => ?_)
      have hS1 : sx_RW (sx_srow n α a 1) sv sf sl := by rw [sx_srow_1]; exact hS0
      refine sx_loopW (σ := Nat × (Nat → Int32) × Int64 × Int64) (fun x => 1 ≤ x.1 ∧ x.1 ≤ 60 ∧ sx_RW (sx_srow n α a x.1) x.2.1 x.2.2.1 x.2.2.2) (fun x => [(10, .int (nI x.1)), (8, .long ((sf ||| sl) &&& (r_2 ^^^ (-1)))), (6, .long r_6), (4, .long cm), (2, .long r_2), (0, .ref (h 0)), (1, .ref (g 0))]) (fun x => wXA cA h g lim ac sn (nI n) (α 1) (α 2) ab un x.2.1 x.2.2.1 x.2.2.2 acts dp out (nI (sx_dN α a)) th hw br ops rf tp tc ts wv wf wl) (fun x => 60 - x.1) (1, sv, sf, sl) (⟨by omega, by omega, hS1⟩) (lv_sub hl [0, 1, 2, 3, 4, 5, 6] rfl) hP hD hS (fun x hJ ih ls H locs hl hP hD hS => ?_)
      obtain ⟨i, v, f, l1⟩ := x
      obtain ⟨hi1, hi60, hJ⟩ := hJ
      have hl : lv_has ls 11 [(10, .int (nI i)), (8, .long ((sf ||| sl) &&& (r_2 ^^^ (-1)))), (6, .long r_6), (4, .long cm), (2, .long r_2), (0, .ref (h 0)), (1, .ref (g 0))] := hl
      have hP : va_P D vwCl (wXA cA h g lim ac sn (nI n) (α 1) (α 2) ab un v f l1 acts dp out (nI (sx_dN α a)) th hw br ops rf tp tc ts wv wf wl) H := hP
      have hD : va_D A (wXA cA h g lim ac sn (nI n) (α 1) (α 2) ab un v f l1 acts dp out (nI (sx_dN α a)) th hw br ops rf tp tc ts wv wf wl) := hD
      have ih_75 := ih
      refine lv_iload hx hb d_X_gather_75 (lv_at hl 0 rfl) ?_
      refine lv_bipush (v := nI 60) hx hb d_X_gather_77 (by decide +kernel) ?_
      refine lv_icmp_ge (tgt := 137) hx hb d_X_gather_79 (by decide) (fun c_13 => ?_) (fun c_13 => ?_)
      · have c_13 : 60 ≤ i := (nI_leI (by decide) (by omega)).mp c_13
        refine lv_lload hx hb d_X_gather_137 (lv_at hl 3 rfl) ?_
        refine vp_callSi (va_runS (As := [.long cm]) (rest := []) ⟨hx, hb, hml, hown, hts⟩ (k_bits l D cA cm) (va_cwS 1 hts (sx_GS wd_256 wd_257 wd_8 wd_258) rfl rfl rfl (by decide +kernel) ⟨Nat.le_of_ble_eq_true rfl, Nat.le_of_ble_eq_true rfl⟩) (sx_preS hK (sx_P0 : va_P D vwCl [] H)) rfl rfl hl.1 rfl (lv_room (Nat.le_of_ble_eq_true rfl)) d_X_gather_139 ⟨Nat.le_of_ble_eq_true rfl, Nat.le_of_ble_eq_true rfl⟩).run (fun r_15 hr_14 => ?_)
        subst hr_14
        have hP9 : va_P D vwCl (wXA cA h g lim ac sn (nI n) (α 1) (α 2) ab un (v) (f) (l1) acts dp out (nI (sx_dN α a)) th hw br ops rf tp tc ts wv wf wl) H := hP
        have hD9 : va_D A (wXA cA h g lim ac sn (nI n) (α 1) (α 2) ab un (v) (f) (l1) acts dp out (nI (sx_dN α a)) th hw br ops rf tp tc ts wv wf wl) := hD
        exact W.iret (v := nI (sx_cnt (sx_bt cm) 64)) hx hb hr (fun t ht hW => ⟨⟨nI (sx_cnt (sx_bt cm) 64), (v, f, l1), rfl, ⟨by rw [w38, w66]; exact congrArg nI (sx_cnt_com hI ha hf hcm), by rw [w38, w66]; show sx_RW (sx_srow n α a n) v f l1; rw [← sx_srow_e (show n ≤ 60 by omega)]; rw [show 60 = i by omega]; exact hJ⟩, by rw [ht]; exact hP9, by rw [hAe]; exact hD9⟩, hS.F ht⟩) hS.2.2 d_X_gather_142
      · have c_13 : i < 60 := Nat.not_le.mp (fun z => c_13 ((nI_leI (by decide) (by omega)).mpr z))
        refine lv_lload hx hb d_X_gather_82 (lv_at hl 3 rfl) ?_
        refine lv_iload hx hb d_X_gather_84 (lv_at hl 0 rfl) ?_
        refine vp_callSi (va_runS (As := [.long cm, .int (nI i)]) (rest := []) ⟨hx, hb, hml, hown, hts⟩ (k_holds l D cA cm i (by omega)) (va_cwS 2 hts (sx_GS wd_220 wd_109 wd_1 wd_110) rfl rfl rfl (by decide +kernel) ⟨Nat.le_of_ble_eq_true rfl, Nat.le_of_ble_eq_true rfl⟩) (sx_preS hK (sx_P0 : va_P D vwCl [] H)) rfl rfl hl.1 rfl (lv_room (Nat.le_of_ble_eq_true rfl)) d_X_gather_86 ⟨Nat.le_of_ble_eq_true rfl, Nat.le_of_ble_eq_true rfl⟩).run (fun r_17 hr_16 => ?_)
        subst hr_16
        refine lv_if_eq (tgt := 113) hx hb d_X_gather_89 (by decide) (fun c_18 => ?_) (fun c_18 => ?_)
        · have c_18 : (sx_bt cm i) = false := sx_bI0 c_18
          refine lv_lload_n hx hb d_X_gather_113 rfl (lv_at hl 4 rfl) ?_
          refine lv_iload hx hb d_X_gather_114 (lv_at hl 0 rfl) ?_
          refine vp_callSi (va_runS (As := [.long r_2, .int (nI i)]) (rest := []) ⟨hx, hb, hml, hown, hts⟩ (k_holds l D cA r_2 i (by omega)) (va_cwS 2 hts (sx_GS wd_220 wd_109 wd_1 wd_110) rfl rfl rfl (by decide +kernel) ⟨Nat.le_of_ble_eq_true rfl, Nat.le_of_ble_eq_true rfl⟩) (sx_preS hK (sx_P0 : va_P D vwCl [] H)) rfl rfl hl.1 rfl (lv_room (Nat.le_of_ble_eq_true rfl)) d_X_gather_116 ⟨Nat.le_of_ble_eq_true rfl, Nat.le_of_ble_eq_true rfl⟩).run (fun r_20 hr_19 => ?_)
          subst hr_19
          refine lv_if_eq (tgt := 131) hx hb d_X_gather_119 (by decide) (fun c_21 => ?_) (fun c_21 => ?_)
          · have c_21 : (sx_bt r_2 i) = false := sx_bI0 c_21
            refine lv_iinc (v := nI (i + 1)) (lv' := [(10, .int (nI (i + 1))), (8, .long ((sf ||| sl) &&& (r_2 ^^^ (-1)))), (6, .long r_6), (4, .long cm), (2, .long r_2), (0, .ref (h 0)), (1, .ref (g 0))]) hx hb d_X_gather_131 hl (k := 0) rfl (nI_1 i) (by decide) rfl (fun ls hl => ?_)
            refine lv_goto (tgt := 75) hx hb d_X_gather_134 (by decide) ?_
            have wc : sx_cm n α a i = false := by have z := c_21; rw [hrp i (by omega)] at z; rw [sx_cmI]; cases h1 : decide (i < n) <;> simp_all
            exact ih_75 (i + 1, v, f, l1) (⟨by omega, by omega, by rw [← sx_srow_f wc]; exact hJ⟩) (by omega) ls _ _ (lv_sub hl [0, 1, 2, 3, 4, 5, 6] rfl) hP hD hS
          · have c_21 : (sx_bt r_2 i) = true := sx_bIn c_21
            refine lv_aload_n hx hb d_X_gather_122 rfl (lv_at hl 5 rfl) ?_
            refine va_get (D := D) (ci := 3) (v := .ref (h 6)) (C := R_X) (T := T_X) (N := 6) hx hb hts iw_X hown hK.1 hP 0 rfl rfl 2 (by decide) (hts _ wd_71) (fun _ h9 => h9) rfl d_X_gather_123 ?_
            refine lv_iload hx hb d_X_gather_126 (lv_at hl 0 rfl) ?_
            have hPc : va_P D vwCl (wS cA (h 6) (h 7) v f l1) H := hP.sub [6, 7] rfl
            have hDc : va_D A (wS cA (h 6) (h 7) v f l1) := hD.sub [6, 7] (by decide) rfl
            refine sx_callv (wr := [(h 0, .inr (3, [.int lim, .ref (h 1), .ref (h 6), .ref (h 8), .int ac, .int sn])), (h 1, .inr (1, [.ref (h 2), .ref (h 3), .ref (h 4), .ref (h 5), .int (nI n)])), (h 2, .inl (cA 0, 60, .inl (α 1))), (h 3, .inl (cA 2, 60, .inl (α 2))), (h 4, .inl (cA 3, 60, .inr (.inl ab))), (h 5, .inl (cA 3, 60, .inr (.inl un))), (h 8, .inl (cA 4, 10, .inr (.inr (.inr (.inr acts))))), (g 0, .inr (0, [.ref (g 1), .ref (g 2), .int (nI (sx_dN α a)), .ref (g 3), .int th, .int hw, .int br, .int ops, .int rf, .ref (g 5), .int tc, .long ts])), (g 1, .inl (cA 0, 12, .inl dp)), (g 2, .inl (cA 1, 12, .inl out)), (g 3, .inr (2, [.ref (g 4), .long wf, .long wl])), (g 4, .inl (cA 0, 60, .inl wv)), (g 5, .inl (cA 0, 60, .inl tp))]) (va_runV (As := [.int (nI i)]) (rest := []) ⟨hx, hb, hml, hown, hts⟩ (k_away l D cA H.size (h 6) (h 7) v f l1 i) (cwV 1 hts (sx_GV wd_125 wd_126 wd_127 wd_4 wd_128) rfl rfl rfl (by decide +kernel) ⟨Nat.le_of_ble_eq_true rfl, Nat.le_of_ble_eq_true rfl⟩) (sx_preVw hK hPc hDc (va_recv hK.1 hPc (ci := 2) (q0 := 0) rfl rfl)) rfl rfl hl.1 rfl (lv_room (Nat.le_of_ble_eq_true rfl)) d_X_gather_128 ⟨Nat.le_of_ble_eq_true rfl, Nat.le_of_ble_eq_true rfl⟩) hP hD hS hA [6, 7] [0, 1, 2, 3, 4, 5, 8, 9, 10, 11, 12, 13, 14] rfl rfl (by decide) (by decide) (fun u_24 H locs hr_22 hP hD hS => ?_)
            have hP : va_P D vwCl (wXA cA h g lim ac sn (nI n) (α 1) (α 2) ab un v (f &&& (sx_on i ^^^ (-1))) (l1 &&& (sx_on i ^^^ (-1))) acts dp out (nI (sx_dN α a)) th hw br ops rf tp tc ts wv wf wl) H := hP.sub [0, 1, 2, 3, 4, 5, 13, 14, 6, 7, 8, 9, 10, 11, 12] rfl
            have hD : va_D A (wXA cA h g lim ac sn (nI n) (α 1) (α 2) ab un v (f &&& (sx_on i ^^^ (-1))) (l1 &&& (sx_on i ^^^ (-1))) acts dp out (nI (sx_dN α a)) th hw br ops rf tp tc ts wv wf wl) := hD.sub [0, 1, 2, 3, 4, 5, 13, 14, 6, 7, 8, 9, 10, 11, 12] (by decide) rfl
            refine lv_iinc (v := nI (i + 1)) (lv' := [(10, .int (nI (i + 1))), (8, .long ((sf ||| sl) &&& (r_2 ^^^ (-1)))), (6, .long r_6), (4, .long cm), (2, .long r_2), (0, .ref (h 0)), (1, .ref (g 0))]) hx hb d_X_gather_131 hl (k := 0) rfl (nI_1 i) (by decide) rfl (fun ls hl => ?_)
            refine lv_goto (tgt := 75) hx hb d_X_gather_134 (by decide) ?_
            have wn : i < n ∧ sx_isD α a true i = true := by have z := c_21; rw [hrp i (by omega)] at z; simpa using z
            have wc : sx_cm n α a i = true := by rw [sx_cmI, decide_eq_true wn.1, wn.2, decide_eq_true (show 0 < i by omega)]; rfl
            have w0 : α 10 (60 * a + i) = 0 := by have z := c_18; rw [hcm i (by omega), wc] at z; simpa using z
            exact ih_75 (i + 1, v, f &&& (sx_on i ^^^ (-1)), l1 &&& (sx_on i ^^^ (-1))) (⟨by omega, by omega, by have z := sx_RW_away hJ (show i < 60 by omega); rw [← sx_lead0 w0, sx_srow_t wc] at z; exact z⟩) (by omega) ls _ _ (lv_sub hl [0, 1, 2, 3, 4, 5, 6] rfl) hP hD hS
        · have c_18 : (sx_bt cm i) = true := sx_bIn c_18
          refine lv_aload_n hx hb d_X_gather_92 rfl (lv_at hl 5 rfl) ?_
          refine va_get (D := D) (ci := 3) (v := .ref (h 6)) (C := R_X) (T := T_X) (N := 6) hx hb hts iw_X hown hK.1 hP 0 rfl rfl 2 (by decide) (hts _ wd_71) (fun _ h9 => h9) rfl d_X_gather_93 ?_
          refine lv_iload hx hb d_X_gather_96 (lv_at hl 0 rfl) ?_
          refine lv_aload_n hx hb d_X_gather_98 rfl (lv_at hl 6 rfl) ?_
          refine va_getN (D := D) (ci := 0) (v := .ref (g 3)) (C := R_A) (T := T_A) (N := 12) hx hb hts iw_A hown hK.1 hP 9 rfl rfl 3 (by decide) (va_Nw.use rfl (hK.2.1 _ wd_166)) (fun _ h9 => h9) rfl d_X_gather_99 ?_
          refine lv_iload hx hb d_X_gather_102 (lv_at hl 0 rfl) ?_
          have hPc : va_P D vwCl (wS cA (g 3) (g 4) wv wf wl) H := hP.sub [12, 13] rfl
          refine vp_callSi (va_runV (As := [.int (nI i)]) (rest := [.int (nI i), .ref (h 6)]) ⟨hx, hb, hml, hown, hts⟩ (k_leads l D cA (g 3) (g 4) wv wf wl (nI i)) (cwV 1 hts (sx_GV wd_143 wd_144 wd_145 wd_4 wd_146) rfl rfl rfl (by decide +kernel) ⟨Nat.le_of_ble_eq_true rfl, Nat.le_of_ble_eq_true rfl⟩) (sx_preV hK hPc (va_recv hK.1 hPc (ci := 2) (q0 := 0) rfl rfl)) rfl rfl hl.1 rfl (lv_room (Nat.le_of_ble_eq_true rfl)) d_X_gather_104 ⟨Nat.le_of_ble_eq_true rfl, Nat.le_of_ble_eq_true rfl⟩).run (fun r_26 hr_25 => ?_)
          rw [sx_lead_eq hI ha (show i < 60 by omega) hW0] at hr_25
          subst hr_25
          have hPc : va_P D vwCl (wS cA (h 6) (h 7) v f l1) H := hP.sub [6, 7] rfl
          have hDc : va_D A (wS cA (h 6) (h 7) v f l1) := hD.sub [6, 7] (by decide) rfl
          refine sx_callv (wr := [(h 0, .inr (3, [.int lim, .ref (h 1), .ref (h 6), .ref (h 8), .int ac, .int sn])), (h 1, .inr (1, [.ref (h 2), .ref (h 3), .ref (h 4), .ref (h 5), .int (nI n)])), (h 2, .inl (cA 0, 60, .inl (α 1))), (h 3, .inl (cA 2, 60, .inl (α 2))), (h 4, .inl (cA 3, 60, .inr (.inl ab))), (h 5, .inl (cA 3, 60, .inr (.inl un))), (h 8, .inl (cA 4, 10, .inr (.inr (.inr (.inr acts))))), (g 0, .inr (0, [.ref (g 1), .ref (g 2), .int (nI (sx_dN α a)), .ref (g 3), .int th, .int hw, .int br, .int ops, .int rf, .ref (g 5), .int tc, .long ts])), (g 1, .inl (cA 0, 12, .inl dp)), (g 2, .inl (cA 1, 12, .inl out)), (g 3, .inr (2, [.ref (g 4), .long wf, .long wl])), (g 4, .inl (cA 0, 60, .inl wv)), (g 5, .inl (cA 0, 60, .inl tp))]) (va_runV (As := [.int (nI i), .int (sx_lead α a i)]) (rest := []) ⟨hx, hb, hml, hown, hts⟩ (k_put l D cA H.size (h 6) (h 7) v f l1 i (by omega) (sx_lead α a i)) (cwV 2 hts (sx_GV wd_131 wd_132 wd_133 wd_4 wd_134) rfl rfl rfl (by decide +kernel) ⟨Nat.le_of_ble_eq_true rfl, Nat.le_of_ble_eq_true rfl⟩) (sx_preVw hK hPc hDc (va_recv hK.1 hPc (ci := 2) (q0 := 0) rfl rfl)) rfl rfl hl.1 rfl (lv_room (Nat.le_of_ble_eq_true rfl)) d_X_gather_107 ⟨Nat.le_of_ble_eq_true rfl, Nat.le_of_ble_eq_true rfl⟩) hP hD hS hA [6, 7] [0, 1, 2, 3, 4, 5, 8, 9, 10, 11, 12, 13, 14] rfl rfl (by decide) (by decide) (fun u_29 H locs hr_27 hP hD hS => ?_)
          have hP : va_P D vwCl (wXA cA h g lim ac sn (nI n) (α 1) (α 2) ab un (upd v i (sx_lead α a i)) ((f &&& (sx_on i ^^^ (-1))) ||| sx_on i) (l1 &&& (sx_on i ^^^ (-1))) acts dp out (nI (sx_dN α a)) th hw br ops rf tp tc ts wv wf wl) H := hP.sub [0, 1, 2, 3, 4, 5, 13, 14, 6, 7, 8, 9, 10, 11, 12] rfl
          have hD : va_D A (wXA cA h g lim ac sn (nI n) (α 1) (α 2) ab un (upd v i (sx_lead α a i)) ((f &&& (sx_on i ^^^ (-1))) ||| sx_on i) (l1 &&& (sx_on i ^^^ (-1))) acts dp out (nI (sx_dN α a)) th hw br ops rf tp tc ts wv wf wl) := hD.sub [0, 1, 2, 3, 4, 5, 13, 14, 6, 7, 8, 9, 10, 11, 12] (by decide) rfl
          refine lv_goto (tgt := 131) hx hb d_X_gather_110 (by decide) ?_
          refine lv_iinc (v := nI (i + 1)) (lv' := [(10, .int (nI (i + 1))), (8, .long ((sf ||| sl) &&& (r_2 ^^^ (-1)))), (6, .long r_6), (4, .long cm), (2, .long r_2), (0, .ref (h 0)), (1, .ref (g 0))]) hx hb d_X_gather_131 hl (k := 0) rfl (nI_1 i) (by decide) rfl (fun ls hl => ?_)
          refine lv_goto (tgt := 75) hx hb d_X_gather_134 (by decide) ?_
          have w89 : sx_cm n α a i = true ∧ ¬ α 10 (60 * a + i) = 0 := by rw [hcm i (by omega)] at c_18; simpa using c_18
          have wn : i < n ∧ sx_isD α a true i = true := by have z := w89.1; rw [sx_cmI] at z; simp only [Bool.and_eq_true, decide_eq_true_eq] at z; exact ⟨z.1.2, z.2⟩
          exact ih_75 (i + 1, upd v i (sx_lead α a i), (f &&& (sx_on i ^^^ (-1))) ||| sx_on i, l1 &&& (sx_on i ^^^ (-1))) (⟨by omega, by omega, by have z := sx_RW_put hJ (show i < 60 by omega) (sx_lead_pos hI ha hf wn.1 wn.2 w89.2); rw [sx_srow_t w89.1] at z; exact z⟩) (by omega) ls _ _ (lv_sub hl [0, 1, 2, 3, 4, 5, 6] rfl) hP hD hS
    · have w66 := sx_nf (fun z => c_12 (sx_cmp0.mpr ((sx_way_eq hI hca hrp hS0).mpr z)))
      refine lv_bipush (v := (-4)) hx hb d_X_gather_69 (by decide +kernel) ?_
      have hP9 : va_P D vwCl (wXA cA h g lim ac sn (nI n) (α 1) (α 2) ab un (sv) (sf) (sl) acts dp out (nI (sx_dN α a)) th hw br ops rf tp tc ts wv wf wl) s.heap := hP
      have hD9 : va_D A (wXA cA h g lim ac sn (nI n) (α 1) (α 2) ab un (sv) (sf) (sl) acts dp out (nI (sx_dN α a)) th hw br ops rf tp tc ts wv wf wl) := hD
      exact W.iret (v := (-4)) hx hb hr (fun t ht hW => ⟨⟨(-4), (sv, sf, sl), rfl, ⟨by rw [w38, w66]; rfl, by rw [w38, w66]; exact hS0⟩, by rw [ht]; exact hP9, by rw [hAe]; exact hD9⟩, hS.F ht⟩) hS.2.2 d_X_gather_71
  · have w38 : sx_cl n α a = true := by have z := sx_bIn c_9; unfold sx_clF at z; rw [sx_clash hI (fun k hk => hca k (by omega))] at z; exact z
    refine lv_bipush (v := (-3)) hx hb d_X_gather_41 (by decide +kernel) ?_
    have hP9 : va_P D vwCl (wXA cA h g lim ac sn (nI n) (α 1) (α 2) ab un (sv) (sf) (sl) acts dp out (nI (sx_dN α a)) th hw br ops rf tp tc ts wv wf wl) s.heap := hP
    have hD9 : va_D A (wXA cA h g lim ac sn (nI n) (α 1) (α 2) ab un (sv) (sf) (sl) acts dp out (nI (sx_dN α a)) th hw br ops rf tp tc ts wv wf wl) := hD
    exact W.iret (v := (-3)) hx hb hr (fun t ht hW => ⟨⟨(-3), (sv, sf, sl), rfl, ⟨by rw [w38]; rfl, by rw [w38]; exact hS0⟩, by rw [ht]; exact hP9, by rw [hAe]; exact hD9⟩, hS.F ht⟩) hS.2.2 d_X_gather_43
