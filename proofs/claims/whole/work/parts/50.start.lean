/-! The start: the script's first int, the tables' classes, the first state; then the law's loop. -/
set_option maxHeartbeats 4000000 in
set_option maxRecDepth 100000 in
theorem k_cell (l : Launch) (b N : Nat) (xs : Nat → Int32) (hN : N ≤ 2049) : Met l y_L_cell w_L_cell ({ frames := 0, cells := 0, slots := 0, locals := 0 }) (va_Pc [.ref b, .int (nI 0)] (fun U => va_X b N xs U U.heap ∧ b < U.heap.size)) (vp_Si (fun r => r = if 0 < N then xs 0 else 0)) 0 0 (fun _ => False) := by
  refine Met.ofW (cc := b_L_cell) (maxL := 2) (ret := (some .int)) (by decide) rfl ?_
  intro pG eG s m args below meth cG s₁ B hml hv
  obtain ⟨rfl, hX, hbl⟩ := hv
  have hx := B.exec
  have hb := B.bytes
  have hr := B.returns
  have hlocks := B.notSynchronized
  have hS : va_S (fun _ => False) s.heap s.heap [] := va_S.rf
  have hbA : ¬ (fun _ : Nat => False) b := id
  have hl := lv_entry ([.ref b, .int (nI 0)]) (n := 2) (Nat.le_of_ble_eq_true rfl)
  rw [lg_entry_eq]
  generalize (lg_sl ([.ref b, .int (nI 0)]) ++ List.replicate (2 - (lg_sl ([.ref b, .int (nI 0)])).length) Slot.unset).toArray = ls at hl ⊢
  have hl : lv_has ls 2 [(0, .ref b), (1, .int (nI 0))] := hl
  refine lv_iload_n hx hb d_L_cell_0 rfl (lv_at hl 1 rfl) ?_
  refine lv_aload_n hx hb d_L_cell_1 rfl (lv_at hl 0 rfl) ?_
  refine va_slen hx hb hX hbl hbA hS d_L_cell_2 ?_
  refine sx_asi (y := nI N) rfl ?_
  refine lv_icmp_ge (tgt := 12) hx hb d_L_cell_3 (by decide) (fun c_1 => ?_) (fun c_1 => ?_)
  · have c_1 : N ≤ 0 := (nI_leI (by omega) (by decide)).mp c_1
    refine lv_iconst (v := nI 0) hx hb d_L_cell_12 (by decide +kernel) ?_
    exact W.iret (v := nI 0) hx hb hr (fun t ht hW => ⟨nI 0, rfl, (by show nI 0 = if 0 < N then xs 0 else 0; rw [if_neg (by omega)]; rfl), ht⟩) (fun _ h => by cases h) d_L_cell_13
  · have c_1 : 0 < N := Nat.not_le.mp (fun z => c_1 ((nI_leI (by omega) (by decide)).mpr z))
    refine lv_aload_n hx hb d_L_cell_6 rfl (lv_at hl 0 rfl) ?_
    refine lv_iload_n hx hb d_L_cell_7 rfl (lv_at hl 1 rfl) ?_
    refine va_sld hx hb hX hbl hbA hS (vp_in_nI (show 0 < N by omega) (by omega)) d_L_cell_8 ?_
    refine sx_asi (congrArg xs (nI_clamp (show 0 < 2 ^ 31 by decide))) ?_
    refine lv_goto (tgt := 13) hx hb d_L_cell_9 (by decide) ?_
    exact W.iret (v := xs 0) hx hb hr (fun t ht hW => ⟨xs 0, rfl, (by show xs 0 = if 0 < N then xs 0 else 0; rw [if_pos c_1]), ht⟩) (fun _ h => by cases h) d_L_cell_13
theorem sx_arrP {s : State} {args : Array Value} {ty : FieldType} (h : (Cond.arrayClass ty).before args s = true) : ∃ cA : ClassId, ArrOfT s cA ty ∧ s.vm.findClass ("[" ++ ty.toString) = some cA := by
  obtain ⟨cA, kA, comp, hf, hk, hkind⟩ := Cond.arrayClass_spec h
  exact ⟨cA, fun n z => ⟨fun k h => (by cases h), kA, hk, comp, hkind⟩, hf⟩
theorem sx_NW_of {s : State} {args : Array Value} (hts0 : ∀ w ∈ lw_tbl, w.before args s = true) : sx_NW s := fun w hw => by
  have hf := (List.mem_filter.mp hw).2
  have h1 := hts0 w (List.mem_filter.mp hw).1
  cases w <;> first | exact va_Nw.of rfl h1 | (simp [sx_isN] at hf)
theorem sx_K_of {s : State} {args : Array Value} (hts0 : ∀ w ∈ lw_tbl, w.before args s = true) : ∃ (D : va_G) (cA : Nat → ClassId), sx_K D cA s := by
  have hts : ∀ w ∈ sx_gw, w.before args s = true := fun w hw => hts0 w (sx_gw_tbl hw)
  obtain ⟨c0, iS0, hKn0⟩ := u_known (C := R_A) (T := T_A) (N := 12) (n := 12) hts iw_A (hts _ wd_152)
  obtain ⟨c1, iS1, hKn1⟩ := u_known (C := R_P) (T := T_P) (N := 5) (n := 5) hts iw_P (hts _ wd_24)
  obtain ⟨c2, iS2, hKn2⟩ := u_known (C := R_S) (T := T_S) (N := 3) (n := 3) hts iw_S (hts _ wd_52)
  obtain ⟨c3, iS3, hKn3⟩ := u_known (C := R_X) (T := T_X) (N := 6) (n := 6) hts iw_X (hts _ wd_10)
  obtain ⟨c4, iS4, hKn4⟩ := u_known (C := R_M) (T := T_M) (N := 21) (n := 21) hts iw_M (hts _ wd_359)
  obtain ⟨a0, hAr0, hNm0⟩ := sx_arrP (hts (.arrayClass .int) wd_48)
  obtain ⟨a1, hAr1, hNm1⟩ := sx_arrP (hts (.arrayClass .boolean) wd_207)
  obtain ⟨a2, hAr2, hNm2⟩ := sx_arrP (hts (.arrayClass .char) wd_49)
  obtain ⟨a3, hAr3, hNm3⟩ := sx_arrP (hts (.arrayClass .long) wd_50)
  have hAO : va_AO "SandboxTree$Action" s := va_AO.of (hts0 _ (List.mem_append_right _ (List.mem_of_getElem? (i := 68) rfl)))
  obtain ⟨comp, a4, kA, hcomp, hidx, hkA, hkindA, hnameA⟩ := Cond.arrayOver_spec (va_AO.use (A := args) hAO)
  refine ⟨(fun k => if k = 0 then c0 else if k = 1 then c1 else if k = 2 then c2 else if k = 3 then c3 else c4, fun k => if k = 0 then iS0 else if k = 1 then iS1 else if k = 2 then iS2 else if k = 3 then iS3 else iS4), fun k => if k = 0 then a0 else if k = 1 then a1 else if k = 2 then a2 else if k = 3 then a3 else a4, ⟨?_, ?_⟩, sx_NW_of hts0, hAO⟩
  · intro k q hq
    match k, hq with
    | 0, hq => cases hq; exact hKn0
    | 1, hq => cases hq; exact hKn1
    | 2, hq => cases hq; exact hKn2
    | 3, hq => cases hq; exact hKn3
    | 4, hq => cases hq; exact hKn4
    | k + 5, hq => simp [vwCl] at hq
  · intro k q hq
    match k, hq with
    | 0, hq => cases hq; exact ⟨hAr0, hNm0⟩
    | 1, hq => cases hq; exact ⟨hAr1, hNm1⟩
    | 2, hq => cases hq; exact ⟨hAr2, hNm2⟩
    | 3, hq => cases hq; exact ⟨hAr3, hNm3⟩
    | 4, hq => cases hq; exact ⟨fun n z => ⟨fun k h => (by cases h), kA, hkA, comp, hkindA⟩, kA, comp, hkA, hkindA, hcomp, hnameA⟩
    | k + 5, hq => simp [sx_ty] at hq
theorem sx_RP_0 : sx_RP 1 (sx_A0 1) (vp_updL (fun _ => 0) 0 (sx_on 0)) (vp_updL (fun _ => 0) 0 (sx_on 0)) := by
  have e0 : vp_updL (fun _ => 0) 0 (sx_on 0) 0 = sx_on 0 := pk_uLs
  refine ⟨fun p hp q hq => ?_, fun q hq p hp => ?_, fun q h1 h2 => ?_⟩
  · rw [show p = 0 by omega, e0, sx_bt_on hq (by decide), sx_U_0, sx_beq]
    exact decide_eq_decide.mpr ⟨fun h => h.symm, fun h => h.symm⟩
  · rw [show q = 0 by omega, e0, sx_bt_on hp (by decide), sx_blt]
    by_cases c : p = 0
    · subst c; rw [sx_U_self]; rfl
    · rw [decide_eq_false c, decide_eq_false (show ¬ p < 1 by omega)]; rfl
  · unfold vp_updL
    rw [if_neg (by omega)]
theorem sx_LJ_0 (x : Int32) {g : Nat → Nat → Nat} {K : Nat → sx_KA} : sx_LJ (sx_lim x) 1 0 sx_A0 (vp_updL (fun _ => 0) 0 (sx_on 0)) (vp_updL (fun _ => 0) 0 (sx_on 0)) (fun _ => 0) 0 0 (fun _ => none) g K :=
  ⟨sx_INV_0 (sx_lim_le x).1 (sx_lim_le x).2, sx_RP_0, sx_RW_0 (fun _ _ => rfl), fun a h => absurd h (Nat.not_lt_zero a)⟩
theorem sx_LW_0 {cA : Nat → ClassId} {h hm : Nat → Nat} {x : Int32} {g : Nat → Nat → Nat} {K : Nat → sx_KA} : sx_LW cA h hm (sx_lim x) 1 0 false sx_A0 (vp_updL (fun _ => 0) 0 (sx_on 0)) (vp_updL (fun _ => 0) 0 (sx_on 0)) (fun _ => 0) 0 0 (fun _ => none) 0 (fun _ => 0) (fun _ => 0) g K = wX cA h (nI (sx_lim x)) 0 0 (nI 1) (upd (fun _ => 0) 0 (-1)) (fun _ => 0) (vp_updL (fun _ => 0) 0 (sx_on 0)) (vp_updL (fun _ => 0) 0 (sx_on 0)) (fun _ => 0) 0 0 (fun _ => none) ++ wM cA hm (nI (sx_lim x)) 0 (nI 1) 0 0 (upd (fun _ => 0) 0 (-1)) (fun _ => 0) (fun _ => 0) (fun _ => 0) (fun _ => 0) (fun _ => 0) (fun _ => 0) (fun _ => 0) (fun _ => 0) (fun _ => 0) (fun _ => 0) (fun _ => 0) (fun _ => 0) (fun _ => 0) (fun _ => 0) (fun _ => 0) := by
  show wX cA h (nI (sx_lim x)) 0 0 (nI 1) (upd (fun _ => 0) 0 (-1)) (fun _ => 0) (vp_updL (fun _ => 0) 0 (sx_on 0)) (vp_updL (fun _ => 0) 0 (sx_on 0)) (fun _ => 0) 0 0 (fun _ => none) ++ (wM cA hm (nI (sx_lim x)) 0 (nI 1) 0 0 (upd (fun _ => 0) 0 (-1)) (fun _ => 0) (fun _ => 0) (fun _ => 0) (fun _ => 0) (fun _ => 0) (fun _ => 0) (fun _ => 0) (fun _ => 0) (fun _ => 0) (fun _ => 0) (fun _ => 0) (fun _ => 0) (fun _ => 0) (fun _ => 0) (fun _ => 0) ++ []) = _
  rw [List.append_nil]
theorem sx_and15 (x : Int32) : ∃ k, k < 16 ∧ x &&& nI 15 = nI k := by
  have h : sx_has 16 (x &&& nI 15) = true := by
    have hb : (x &&& nI 15).toBitVec = x.toBitVec &&& 15#32 := rfl
    apply sx_has_tt
    · rw [Int32.lt_iff_toBitVec_slt, hb]
      have : (0 : Int32).toBitVec = 0#32 := rfl
      rw [this]
      generalize x.toBitVec = y
      intro z
      have h1 : (y &&& 15#32).toNat < 16 := by rw [BitVec.toNat_and]; exact Nat.lt_of_le_of_lt Nat.and_le_right (by decide)
      rw [BitVec.slt_iff_toInt_lt, BitVec.toInt_eq_toNat_of_lt (by omega)] at z
      have : (0#32).toInt = 0 := rfl
      omega
    · rw [Int32.le_iff_toBitVec_sle, hb]
      have : (nI 16).toBitVec = 16#32 := rfl
      rw [this]
      generalize x.toBitVec = y
      intro z
      have h1 : (y &&& 15#32).toNat < 16 := by rw [BitVec.toNat_and]; exact Nat.lt_of_le_of_lt Nat.and_le_right (by decide)
      rw [BitVec.sle_iff_toInt_le, BitVec.toInt_eq_toNat_of_lt (x := y &&& 15#32) (by omega)] at z
      have : (16#32).toInt = 16 := by decide
      omega
  exact sx_has_t (by decide) h
theorem sx_gt4 {i N : Nat} (hi : i ≤ N + 4) (hN : N ≤ 2049) : nI N - nI 4 < nI i ↔ N < i + 4 := by
  have e1 : (nI N - nI 4).toInt = (N : Int) - 4 := by
    rw [Int32.toInt_sub]
    have a1 : (nI N).toInt = N := Int32.toInt_ofNat_of_lt (by omega)
    have a2 : (nI 4).toInt = 4 := by decide
    rw [a1, a2]
    show ((N : Int) - 4).bmod (2 ^ 32) = _
    rw [Int.bmod_eq_of_le (by omega) (by omega)]
  have e2 : (nI i).toInt = i := Int32.toInt_ofNat_of_lt (by omega)
  rw [Int32.lt_iff_toInt_lt, e1, e2]
  omega
