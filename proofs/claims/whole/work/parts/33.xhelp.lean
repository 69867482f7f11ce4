set_option maxHeartbeats 4000000 in
set_option maxRecDepth 100000 in
theorem k_underD (l : Launch) (D : va_G) (cA : Nat → ClassId) (h g : Nat → Nat) (lim ac sn : Int32) (n : Nat) (α : sx_A) (ab un : Nat → Int64) (sv : Nat → Int32) (sf sl : Int64) (acts : Nat → Option Nat) (a : Nat) (dp out : Nat → Int32) (th hw br ops rf : Int32) (tp : Nat → Int32) (tc : Int32) (ts : Int64) (wv : Nat → Int32) (wf wl : Int64) (na L : Nat) (hI : sx_INV n na L α) (ha : a < na) (hR : sx_RP n (α 1) ab un) (hDO : sx_DO α a dp out) (ob : Bool) : Met l y_X_underDeclared w_X_underDeclared ({ frames := 2, cells := 0, slots := 0, locals := 42 }) (sx_Pr D cA [.ref (h 0), .ref (g 0), .int (sx_bI ob)] (wXA cA h g lim ac sn (nI n) (α 1) (α 2) ab un sv sf sl acts dp out (nI (sx_dN α a)) th hw br ops rf tp tc ts wv wf wl)) (vp_Sl (fun r => ∀ j, j < 64 → sx_bt r j = (decide (j < n) && sx_isD α a ob j))) 0 0 (fun _ => False) := by
  refine Met.ofW (cc := b_X_underDeclared) (maxL := 6) (ret := (some .long)) (by decide) rfl ?_
  intro pG eG s m args below meth cG s₁ B hml hv
  obtain ⟨rfl, hP, hK⟩ := hv
  have hx := B.exec
  have hb := B.bytes
  have hr := B.returns
  have hts0 := atoms_spec (ws := w_X_underDeclared) B.pre
  have hts : ∀ w ∈ sx_gw, w.before _ s = true := fun w h => hts0 w (List.mem_cons_of_mem _ h)
  have hown : s.vm.findClass R_X = some m.cls := findClass_of_methodNamed B.named
  have hlocks := B.notSynchronized
  have hl := lv_entry ([.ref (h 0), .ref (g 0), .int (sx_bI ob)]) (n := 6) (Nat.le_of_ble_eq_true rfl)
  rw [lg_entry_eq]
  generalize (lg_sl ([.ref (h 0), .ref (g 0), .int (sx_bI ob)]) ++ List.replicate (6 - (lg_sl ([.ref (h 0), .ref (g 0), .int (sx_bI ob)])).length) Slot.unset).toArray = ls at hl ⊢
  have hl : lv_has ls 6 [(0, .ref (h 0)), (1, .ref (g 0)), (2, .int (sx_bI ob))] := hl
  have hn31 := sx_INV_n hI
  have hn60 := hI.1.1.2
  have h1n := hI.1.1.1
  have hAc := sx_INV_A hI ha
  have hd12 := (sx_dN_ok hAc).1
  refine lv_lconst (v := 0) hx hb d_X_underDeclared_0 (by decide +kernel) ?_
  refine lv_lstore_n (lv' := [(3, .long 0), (0, .ref (h 0)), (1, .ref (g 0)), (2, .int (sx_bI ob))]) hx hb d_X_underDeclared_1 rfl hl (by decide) rfl (fun ls hl => ?_)
  refine lv_iconst (v := nI 0) hx hb d_X_underDeclared_2 (by decide +kernel) ?_
  refine lv_istore (lv' := [(5, .int (nI 0)), (3, .long 0), (0, .ref (h 0)), (1, .ref (g 0)), (2, .int (sx_bI ob))]) hx hb d_X_underDeclared_3 hl (by decide) rfl (fun ls hl => ?_)
  refine sx_loop (σ := Nat × Int64) (fun x => x.1 ≤ sx_dN α a ∧ ∀ j, j < 64 → sx_bt x.2 j = (decide (j < n) && sx_any (fun z => decide (α 11 (12 * a + z) = sx_bI ob) && sx_U (α 1) j (sx_dp α a z)) x.1)) (fun x => [(5, .int (nI x.1)), (3, .long x.2), (0, .ref (h 0)), (1, .ref (g 0)), (2, .int (sx_bI ob))]) (fun x => sx_dN α a - x.1) (0, 0) (⟨Nat.zero_le _, fun j _ => by rw [sx_bt_0]; simp [sx_any]⟩) (lv_sub hl [0, 1, 2, 3, 4] rfl) (fun x hJ ih ls hl => ?_)
  obtain ⟨k, all⟩ := x
  obtain ⟨hk, hJ⟩ := hJ
  have hl : lv_has ls 6 [(5, .int (nI k)), (3, .long all), (0, .ref (h 0)), (1, .ref (g 0)), (2, .int (sx_bI ob))] := hl
  have ih_5 := ih
  refine lv_iload hx hb d_X_underDeclared_5 (lv_at hl 0 rfl) ?_
  refine lv_aload_n hx hb d_X_underDeclared_7 rfl (lv_at hl 3 rfl) ?_
  refine va_getN (D := D) (ci := 0) (v := .int (nI (sx_dN α a))) (C := R_A) (T := T_A) (N := 12) hx hb hts iw_A hown hK.1 hP 9 rfl rfl 2 (by decide) (va_Nw.use rfl (hK.2.1 _ wd_164)) (fun _ h9 => h9) rfl d_X_underDeclared_8 ?_
  refine lv_icmp_ge (tgt := 48) hx hb d_X_underDeclared_11 (by decide) (fun c_1 => ?_) (fun c_1 => ?_)
  · have c_1 : sx_dN α a ≤ k := (nI_leI (by omega) (by omega)).mp c_1
    refine lv_lload_n hx hb d_X_underDeclared_48 rfl (lv_at hl 1 rfl) ?_
    exact W.lret (v := all) hx hb hr (fun t ht hW => ⟨all, rfl, (fun j hj => by rw [hJ j hj, show k = sx_dN α a by omega]; rfl), ht⟩) (fun _ h => by cases h) d_X_underDeclared_49
  · have c_1 : k < sx_dN α a := Nat.not_le.mp (fun z => c_1 ((nI_leI (by omega) (by omega)).mpr z))
    refine lv_aload_n hx hb d_X_underDeclared_14 rfl (lv_at hl 3 rfl) ?_
    refine va_getN (D := D) (ci := 0) (v := .ref (g 2)) (C := R_A) (T := T_A) (N := 12) hx hb hts iw_A hown hK.1 hP 9 rfl rfl 1 (by decide) (va_Nw.use rfl (hK.2.1 _ wd_162)) (fun _ h9 => h9) rfl d_X_underDeclared_15 ?_
    refine lv_iload hx hb d_X_underDeclared_18 (lv_at hl 0 rfl) ?_
    refine va_zald hx hb hK.1 hP 11 1 rfl rfl (vp_in_nI (by omega) (by decide)) d_X_underDeclared_20 ?_
    refine sx_asi (congrArg out (nI_clamp (by omega))) ?_
    refine sx_asi (hDO k (by omega)).2 ?_
    refine lv_iload_n hx hb d_X_underDeclared_21 rfl (lv_at hl 4 rfl) ?_
    refine lv_icmp_ne (tgt := 42) hx hb d_X_underDeclared_22 (by decide) (fun c_2 => ?_) (fun c_2 => ?_)
    · refine lv_iinc (v := nI (k + 1)) (lv' := [(5, .int (nI (k + 1))), (3, .long all), (0, .ref (h 0)), (1, .ref (g 0)), (2, .int (sx_bI ob))]) hx hb d_X_underDeclared_42 hl (k := 0) rfl (nI_1 k) (by decide) rfl (fun ls hl => ?_)
      refine lv_goto (tgt := 5) hx hb d_X_underDeclared_45 (by decide) ?_
      exact ih_5 (k + 1, all) (⟨by omega, sx_uD_f c_2 hJ⟩) (by omega) ls (lv_sub hl [0, 1, 2, 3, 4] rfl)
    · refine lv_lload_n hx hb d_X_underDeclared_25 rfl (lv_at hl 1 rfl) ?_
      refine lv_aload_n hx hb d_X_underDeclared_26 rfl (lv_at hl 2 rfl) ?_
      refine va_get (D := D) (ci := 3) (v := .ref (h 1)) (C := R_X) (T := T_X) (N := 6) hx hb hts iw_X hown hK.1 hP 0 rfl rfl 1 (by decide) (hts _ wd_70) (fun _ h9 => h9) rfl d_X_underDeclared_27 ?_
      refine lv_aload_n hx hb d_X_underDeclared_30 rfl (lv_at hl 3 rfl) ?_
      refine va_getN (D := D) (ci := 0) (v := .ref (g 1)) (C := R_A) (T := T_A) (N := 12) hx hb hts iw_A hown hK.1 hP 9 rfl rfl 0 (by decide) (va_Nw.use rfl (hK.2.1 _ wd_160)) (fun _ h9 => h9) rfl d_X_underDeclared_31 ?_
      refine lv_iload hx hb d_X_underDeclared_34 (lv_at hl 0 rfl) ?_
      refine va_iald hx hb hK.1 hP 10 0 rfl rfl (vp_in_nI (by omega) (by decide)) d_X_underDeclared_36 ?_
      refine sx_asi (congrArg dp (nI_clamp (by omega))) ?_
      obtain ⟨dp1, dp2, dp3⟩ := sx_dp_ok hn31 hAc (show k < sx_dN α a by omega)
      refine sx_asi ((hDO k (by omega)).1.trans dp3) ?_
      have hPc : va_P D vwCl (wP cA (h 1) (h 2) (h 3) (h 4) (h 5) (nI n) (α 1) (α 2) ab un) s.heap := hP.sub [1, 2, 3, 4, 5] rfl
      refine vp_callSl (va_runV (As := [.int (nI (sx_dp α a k))]) (rest := [.long all]) ⟨hx, hb, hml, hown, hts⟩ (k_under l D cA (h 1) (h 2) (h 3) (h 4) (h 5) n (α 1) (α 2) ab un (sx_dp α a k) (by omega) (by omega)) (cwV 1 hts (sx_GV wd_237 wd_238 wd_239 wd_3 wd_240) rfl rfl rfl (by decide +kernel) ⟨Nat.le_of_ble_eq_true rfl, Nat.le_of_ble_eq_true rfl⟩) (sx_preV hK hPc (va_recv hK.1 hPc (ci := 1) (q0 := 0) rfl rfl)) rfl rfl hl.1 rfl (lv_room (Nat.le_of_ble_eq_true rfl)) d_X_underDeclared_37 ⟨Nat.le_of_ble_eq_true rfl, Nat.le_of_ble_eq_true rfl⟩).run (fun r_4 hr_3 => ?_)
      subst hr_3
      refine lv_lor hx hb d_X_underDeclared_40 ?_
      refine lv_lstore_n (lv' := [(3, .long (all ||| (un (sx_dp α a k)))), (5, .int (nI k)), (0, .ref (h 0)), (1, .ref (g 0)), (2, .int (sx_bI ob))]) hx hb d_X_underDeclared_41 rfl hl (by decide) rfl (fun ls hl => ?_)
      refine lv_iinc (v := nI (k + 1)) (lv' := [(5, .int (nI (k + 1))), (3, .long (all ||| (un (sx_dp α a k)))), (0, .ref (h 0)), (1, .ref (g 0)), (2, .int (sx_bI ob))]) hx hb d_X_underDeclared_42 hl (k := 1) rfl (nI_1 k) (by decide) rfl (fun ls hl => ?_)
      refine lv_goto (tgt := 5) hx hb d_X_underDeclared_45 (by decide) ?_
      exact ih_5 (k + 1, all ||| un (sx_dp α a k)) (⟨by omega, sx_uD_t hR dp2 c_2 hJ⟩) (by omega) ls (lv_sub hl [0, 1, 2, 3, 4] rfl)

set_option maxHeartbeats 4000000 in
set_option maxRecDepth 100000 in
theorem k_scr (l : Launch) (D : va_G) (cA : Nat → ClassId) (h g : Nat → Nat) (lim ac sn : Int32) (n : Nat) (α : sx_A) (ab un : Nat → Int64) (sv : Nat → Int32) (sf sl : Int64) (acts : Nat → Option Nat) (a : Nat) (dp out : Nat → Int32) (th hw br ops rf : Int32) (tp : Nat → Int32) (tc : Int32) (ts : Int64) (wv : Nat → Int32) (wf wl : Int64) (na L : Nat) (hI : sx_INV n na L α) (ha : a < na) (hR : sx_RP n (α 1) ab un) (hDO : sx_DO α a dp out) : Met l y_X_scratch w_X_scratch ({ frames := 3, cells := 0, slots := 0, locals := 67 }) (sx_Pr D cA [.ref (h 0), .ref (g 0)] (wXA cA h g lim ac sn (nI n) (α 1) (α 2) ab un sv sf sl acts dp out (nI (sx_dN α a)) th hw br ops rf tp tc ts wv wf wl)) (vp_Sl (fun r => ∀ j, j < 64 → sx_bt r j = (decide (j < n) && sx_scr n α a j))) 0 0 (fun _ => False) := by
  refine Met.ofW (cc := b_X_scratch) (maxL := 3) (ret := (some .long)) (by decide) rfl ?_
  intro pG eG s m args below meth cG s₁ B hml hv
  obtain ⟨rfl, hP, hK⟩ := hv
  have hx := B.exec
  have hb := B.bytes
  have hr := B.returns
  have hts0 := atoms_spec (ws := w_X_scratch) B.pre
  have hts : ∀ w ∈ sx_gw, w.before _ s = true := fun w h => hts0 w (List.mem_cons_of_mem _ h)
  have hown : s.vm.findClass R_X = some m.cls := findClass_of_methodNamed B.named
  have hlocks := B.notSynchronized
  have hl := lv_entry ([.ref (h 0), .ref (g 0)]) (n := 3) (Nat.le_of_ble_eq_true rfl)
  rw [lg_entry_eq]
  generalize (lg_sl ([.ref (h 0), .ref (g 0)]) ++ List.replicate (3 - (lg_sl ([.ref (h 0), .ref (g 0)])).length) Slot.unset).toArray = ls at hl ⊢
  have hl : lv_has ls 3 [(0, .ref (h 0)), (1, .ref (g 0))] := hl
  have hn31 := sx_INV_n hI
  have hn60 := hI.1.1.2
  have h1n := hI.1.1.1
  have hAc := sx_INV_A hI ha
  have hd12 := (sx_dN_ok hAc).1
  refine lv_aload_n hx hb d_X_scratch_0 rfl (lv_at hl 0 rfl) ?_
  refine va_get (D := D) (ci := 3) (v := .ref (h 1)) (C := R_X) (T := T_X) (N := 6) hx hb hts iw_X hown hK.1 hP 0 rfl rfl 1 (by decide) (hts _ wd_70) (fun _ h9 => h9) rfl d_X_scratch_1 ?_
  refine lv_iconst (v := nI 0) hx hb d_X_scratch_4 (by decide +kernel) ?_
  refine lv_bipush (v := nI 122) hx hb d_X_scratch_5 (by decide +kernel) ?_
  have hPc : va_P D vwCl (wP cA (h 1) (h 2) (h 3) (h 4) (h 5) (nI n) (α 1) (α 2) ab un) s.heap := hP.sub [1, 2, 3, 4, 5] rfl
  refine vp_callSi (va_runV (As := [.int (nI 0), .int (nI 122)]) (rest := []) ⟨hx, hb, hml, hown, hts⟩ (k_find l D cA (h 1) (h 2) (h 3) (h 4) (h 5) n α ab un (by omega) (by omega) hI.2.2.2.1 (nI 0) (nI 122)) (cwV 2 hts (sx_GV wd_99 wd_100 wd_101 wd_3 wd_102) rfl rfl rfl (by decide +kernel) ⟨Nat.le_of_ble_eq_true rfl, Nat.le_of_ble_eq_true rfl⟩) (sx_preV hK hPc (va_recv hK.1 hPc (ci := 1) (q0 := 0) rfl rfl)) rfl rfl hl.1 rfl (lv_room (Nat.le_of_ble_eq_true rfl)) d_X_scratch_7 ⟨Nat.le_of_ble_eq_true rfl, Nat.le_of_ble_eq_true rfl⟩).run (fun r_2 hr_1 => ?_)
  subst hr_1
  refine lv_istore_n (lv' := [(2, .int (sx_ch α (nI 0) (nI 122) n)), (0, .ref (h 0)), (1, .ref (g 0))]) hx hb d_X_scratch_10 rfl hl (by decide) rfl (fun ls hl => ?_)
  refine lv_iload_n hx hb d_X_scratch_11 rfl (lv_at hl 0 rfl) ?_
  refine lv_iconst (v := (-1)) hx hb d_X_scratch_12 (by decide +kernel) ?_
  refine lv_icmp_ne (tgt := 18) hx hb d_X_scratch_13 (by decide) (fun c_3 => ?_) (fun c_3 => ?_)
  · obtain ⟨k, k0, k1, ek⟩ := sx_ch_pos (by omega) c_3
    rw [ek] at hl
    have hl : lv_has ls 3 [(2, .int (nI k)), (0, .ref (h 0)), (1, .ref (g 0))] := hl
    refine lv_aload_n hx hb d_X_scratch_18 rfl (lv_at hl 1 rfl) ?_
    refine va_get (D := D) (ci := 3) (v := .ref (h 1)) (C := R_X) (T := T_X) (N := 6) hx hb hts iw_X hown hK.1 hP 0 rfl rfl 1 (by decide) (hts _ wd_70) (fun _ h9 => h9) rfl d_X_scratch_19 ?_
    refine lv_iload_n hx hb d_X_scratch_22 rfl (lv_at hl 0 rfl) ?_
    have hPc : va_P D vwCl (wP cA (h 1) (h 2) (h 3) (h 4) (h 5) (nI n) (α 1) (α 2) ab un) s.heap := hP.sub [1, 2, 3, 4, 5] rfl
    refine vp_callSl (va_runV (As := [.int (nI k)]) (rest := []) ⟨hx, hb, hml, hown, hts⟩ (k_under l D cA (h 1) (h 2) (h 3) (h 4) (h 5) n (α 1) (α 2) ab un k (by omega) (by omega)) (cwV 1 hts (sx_GV wd_237 wd_238 wd_239 wd_3 wd_240) rfl rfl rfl (by decide +kernel) ⟨Nat.le_of_ble_eq_true rfl, Nat.le_of_ble_eq_true rfl⟩) (sx_preV hK hPc (va_recv hK.1 hPc (ci := 1) (q0 := 0) rfl rfl)) rfl rfl hl.1 rfl (lv_room (Nat.le_of_ble_eq_true rfl)) d_X_scratch_23 ⟨Nat.le_of_ble_eq_true rfl, Nat.le_of_ble_eq_true rfl⟩).run (fun r_5 hr_4 => ?_)
    subst hr_4
    refine lv_iload_n hx hb d_X_scratch_26 rfl (lv_at hl 0 rfl) ?_
    refine vp_callSl (va_runS (As := [.int (nI k)]) (rest := [.long (un k)]) ⟨hx, hb, hml, hown, hts⟩ (k_only l D cA k) (va_cwS 1 hts (sx_GS wd_111 wd_30 wd_1 wd_31) rfl rfl rfl (by decide +kernel) ⟨Nat.le_of_ble_eq_true rfl, Nat.le_of_ble_eq_true rfl⟩) (sx_preS hK (sx_P0 : va_P D vwCl [] s.heap)) rfl rfl hl.1 rfl (lv_room (Nat.le_of_ble_eq_true rfl)) d_X_scratch_27 ⟨Nat.le_of_ble_eq_true rfl, Nat.le_of_ble_eq_true rfl⟩).run (fun r_7 hr_6 => ?_)
    subst hr_6
    refine lv_ldc2 (own := R_X) (v := (-1)) hx hb hown (hts _ wd_296) d_X_scratch_30 ?_
    refine lv_lxor hx hb d_X_scratch_33 ?_
    refine lv_land hx hb d_X_scratch_34 ?_
    refine lv_aload_n hx hb d_X_scratch_35 rfl (lv_at hl 1 rfl) ?_
    refine lv_aload_n hx hb d_X_scratch_36 rfl (lv_at hl 2 rfl) ?_
    refine lv_iconst (v := nI 0) hx hb d_X_scratch_37 (by decide +kernel) ?_
    refine vp_callSl (va_runV (As := [.ref (g 0), .int (nI 0)]) (rest := [.long ((un k) &&& ((sx_on k) ^^^ (-1)))]) ⟨hx, hb, hml, hown, hts⟩ (k_underD l D cA h g lim ac sn n α ab un sv sf sl acts a dp out th hw br ops rf tp tc ts wv wf wl na L hI ha hR hDO false) (cwV 2 hts (sx_GV wd_245 wd_247 ws_3 wd_1 wd_248) rfl rfl rfl (by decide +kernel) ⟨Nat.le_of_ble_eq_true rfl, Nat.le_of_ble_eq_true rfl⟩) (sx_preV hK hP (va_recv hK.1 hP (ci := 3) (q0 := 0) rfl rfl)) rfl rfl hl.1 rfl (lv_room (Nat.le_of_ble_eq_true rfl)) d_X_scratch_38 ⟨Nat.le_of_ble_eq_true rfl, Nat.le_of_ble_eq_true rfl⟩).run (fun r_9 hr_8 => ?_)
    refine lv_ldc2 (own := R_X) (v := (-1)) hx hb hown (hts _ wd_296) d_X_scratch_41 ?_
    refine lv_lxor hx hb d_X_scratch_44 ?_
    refine lv_land hx hb d_X_scratch_45 ?_
    exact W.lret (v := ((un k) &&& ((sx_on k) ^^^ (-1))) &&& (r_9 ^^^ (-1))) hx hb hr (fun t ht hW => ⟨((un k) &&& ((sx_on k) ^^^ (-1))) &&& (r_9 ^^^ (-1)), rfl, sx_scr_1 hR hn60 k1 ek hr_8, ht⟩) (fun _ h => by cases h) d_X_scratch_46
  · refine lv_lconst (v := 0) hx hb d_X_scratch_16 (by decide +kernel) ?_
    exact W.lret (v := 0) hx hb hr (fun t ht hW => ⟨0, rfl, sx_scr_0 c_3, ht⟩) (fun _ h => by cases h) d_X_scratch_17

set_option maxHeartbeats 4000000 in
set_option maxRecDepth 100000 in
theorem k_wr (l : Launch) (D : va_G) (cA : Nat → ClassId) (h g : Nat → Nat) (lim ac sn : Int32) (n : Nat) (α : sx_A) (ab un : Nat → Int64) (sv : Nat → Int32) (sf sl : Int64) (acts : Nat → Option Nat) (a : Nat) (dp out : Nat → Int32) (th hw br ops rf : Int32) (tp : Nat → Int32) (tc : Int32) (ts : Int64) (wv : Nat → Int32) (wf wl : Int64) (na L : Nat) (hI : sx_INV n na L α) (ha : a < na) (hR : sx_RP n (α 1) ab un) (hDO : sx_DO α a dp out) : Met l y_X_writable w_X_writable ({ frames := 4, cells := 0, slots := 0, locals := 89 }) (sx_Pr D cA [.ref (h 0), .ref (g 0)] (wXA cA h g lim ac sn (nI n) (α 1) (α 2) ab un sv sf sl acts dp out (nI (sx_dN α a)) th hw br ops rf tp tc ts wv wf wl)) (vp_Sl (fun r => ∀ j, j < 64 → sx_bt r j = (decide (j < n) && sx_isW n α a j))) 0 0 (fun _ => False) := by
  refine Met.ofW (cc := b_X_writable) (maxL := 2) (ret := (some .long)) (by decide) rfl ?_
  intro pG eG s m args below meth cG s₁ B hml hv
  obtain ⟨rfl, hP, hK⟩ := hv
  have hx := B.exec
  have hb := B.bytes
  have hr := B.returns
  have hts0 := atoms_spec (ws := w_X_writable) B.pre
  have hts : ∀ w ∈ sx_gw, w.before _ s = true := fun w h => hts0 w (List.mem_cons_of_mem _ h)
  have hown : s.vm.findClass R_X = some m.cls := findClass_of_methodNamed B.named
  have hlocks := B.notSynchronized
  have hl := lv_entry ([.ref (h 0), .ref (g 0)]) (n := 2) (Nat.le_of_ble_eq_true rfl)
  rw [lg_entry_eq]
  generalize (lg_sl ([.ref (h 0), .ref (g 0)]) ++ List.replicate (2 - (lg_sl ([.ref (h 0), .ref (g 0)])).length) Slot.unset).toArray = ls at hl ⊢
  have hl : lv_has ls 2 [(0, .ref (h 0)), (1, .ref (g 0))] := hl
  refine lv_aload_n hx hb d_X_writable_0 rfl (lv_at hl 0 rfl) ?_
  refine lv_aload_n hx hb d_X_writable_1 rfl (lv_at hl 1 rfl) ?_
  refine lv_iconst (v := nI 1) hx hb d_X_writable_2 (by decide +kernel) ?_
  refine vp_callSl (va_runV (As := [.ref (g 0), .int (nI 1)]) (rest := []) ⟨hx, hb, hml, hown, hts⟩ (k_underD l D cA h g lim ac sn n α ab un sv sf sl acts a dp out th hw br ops rf tp tc ts wv wf wl na L hI ha hR hDO true) (cwV 2 hts (sx_GV wd_245 wd_247 ws_3 wd_1 wd_248) rfl rfl rfl (by decide +kernel) ⟨Nat.le_of_ble_eq_true rfl, Nat.le_of_ble_eq_true rfl⟩) (sx_preV hK hP (va_recv hK.1 hP (ci := 3) (q0 := 0) rfl rfl)) rfl rfl hl.1 rfl (lv_room (Nat.le_of_ble_eq_true rfl)) d_X_writable_3 ⟨Nat.le_of_ble_eq_true rfl, Nat.le_of_ble_eq_true rfl⟩).run (fun r_2 hr_1 => ?_)
  refine lv_aload_n hx hb d_X_writable_6 rfl (lv_at hl 0 rfl) ?_
  refine lv_aload_n hx hb d_X_writable_7 rfl (lv_at hl 1 rfl) ?_
  refine vp_callSl (va_runV (As := [.ref (g 0)]) (rest := [.long r_2]) ⟨hx, hb, hml, hown, hts⟩ (k_scr l D cA h g lim ac sn n α ab un sv sf sl acts a dp out th hw br ops rf tp tc ts wv wf wl na L hI ha hR hDO) (cwV 1 hts (sx_GV wd_292 wd_294 ws_7 wd_1 wd_295) rfl rfl rfl (by decide +kernel) ⟨Nat.le_of_ble_eq_true rfl, Nat.le_of_ble_eq_true rfl⟩) (sx_preV hK hP (va_recv hK.1 hP (ci := 3) (q0 := 0) rfl rfl)) rfl rfl hl.1 rfl (lv_room (Nat.le_of_ble_eq_true rfl)) d_X_writable_8 ⟨Nat.le_of_ble_eq_true rfl, Nat.le_of_ble_eq_true rfl⟩).run (fun r_4 hr_3 => ?_)
  refine lv_lor hx hb d_X_writable_11 ?_
  exact W.lret (v := r_2 ||| r_4) hx hb hr (fun t ht hW => ⟨r_2 ||| r_4, rfl, sx_wr_ok hr_1 hr_3, ht⟩) (fun _ h => by cases h) d_X_writable_12

set_option maxHeartbeats 4000000 in
set_option maxRecDepth 100000 in
theorem k_can (l : Launch) (D : va_G) (cA : Nat → ClassId) (h g : Nat → Nat) (lim ac sn : Int32) (n : Nat) (α : sx_A) (ab un : Nat → Int64) (sv : Nat → Int32) (sf sl : Int64) (acts : Nat → Option Nat) (a : Nat) (dp out : Nat → Int32) (th hw br ops rf : Int32) (tp : Nat → Int32) (tc : Int32) (ts : Int64) (wv : Nat → Int32) (wf wl : Int64) (na L : Nat) (hI : sx_INV n na L α) (ha : a < na) (hR : sx_RP n (α 1) ab un) (hDO : sx_DO α a dp out) (hW0 : sx_RW (sx_wd_ α a) wv wf wl) (p : Nat) (hpn : p < n) : Met l y_X_canPut w_X_canPut ({ frames := 5, cells := 0, slots := 0, locals := 110 }) (sx_Pr D cA [.ref (h 0), .ref (g 0), .int (nI p)] (wXA cA h g lim ac sn (nI n) (α 1) (α 2) ab un sv sf sl acts dp out (nI (sx_dN α a)) th hw br ops rf tp tc ts wv wf wl)) (vp_Si (fun r => r = sx_bI (sx_isW n α a p && !sx_inW n α a p))) 0 0 (fun _ => False) := by
  refine Met.ofW (cc := b_X_canPut) (maxL := 3) (ret := (some .boolean)) (by decide) rfl ?_
  intro pG eG s m args below meth cG s₁ B hml hv
  obtain ⟨rfl, hP, hK⟩ := hv
  have hx := B.exec
  have hb := B.bytes
  have hr := B.returns
  have hts0 := atoms_spec (ws := w_X_canPut) B.pre
  have hts : ∀ w ∈ sx_gw, w.before _ s = true := fun w h => hts0 w (List.mem_cons_of_mem _ h)
  have hown : s.vm.findClass R_X = some m.cls := findClass_of_methodNamed B.named
  have hlocks := B.notSynchronized
  have hl := lv_entry ([.ref (h 0), .ref (g 0), .int (nI p)]) (n := 3) (Nat.le_of_ble_eq_true rfl)
  rw [lg_entry_eq]
  generalize (lg_sl ([.ref (h 0), .ref (g 0), .int (nI p)]) ++ List.replicate (3 - (lg_sl ([.ref (h 0), .ref (g 0), .int (nI p)])).length) Slot.unset).toArray = ls at hl ⊢
  have hl : lv_has ls 3 [(0, .ref (h 0)), (1, .ref (g 0)), (2, .int (nI p))] := hl
  have hn31 := sx_INV_n hI
  have hn60 := hI.1.1.2
  have h1n := hI.1.1.1
  have hAc := sx_INV_A hI ha
  have hd12 := (sx_dN_ok hAc).1
  refine lv_aload_n hx hb d_X_canPut_0 rfl (lv_at hl 0 rfl) ?_
  refine lv_aload_n hx hb d_X_canPut_1 rfl (lv_at hl 1 rfl) ?_
  refine vp_callSl (va_runV (As := [.ref (g 0)]) (rest := []) ⟨hx, hb, hml, hown, hts⟩ (k_wr l D cA h g lim ac sn n α ab un sv sf sl acts a dp out th hw br ops rf tp tc ts wv wf wl na L hI ha hR hDO) (cwV 1 hts (sx_GV wd_288 wd_290 ws_6 wd_1 wd_291) rfl rfl rfl (by decide +kernel) ⟨Nat.le_of_ble_eq_true rfl, Nat.le_of_ble_eq_true rfl⟩) (sx_preV hK hP (va_recv hK.1 hP (ci := 3) (q0 := 0) rfl rfl)) rfl rfl hl.1 rfl (lv_room (Nat.le_of_ble_eq_true rfl)) d_X_canPut_2 ⟨Nat.le_of_ble_eq_true rfl, Nat.le_of_ble_eq_true rfl⟩).run (fun r_2 hr_1 => ?_)
  refine lv_iload_n hx hb d_X_canPut_5 rfl (lv_at hl 2 rfl) ?_
  refine vp_callSi (va_runS (As := [.long r_2, .int (nI p)]) (rest := []) ⟨hx, hb, hml, hown, hts⟩ (k_holds l D cA r_2 p (by omega)) (va_cwS 2 hts (sx_GS wd_220 wd_109 wd_1 wd_110) rfl rfl rfl (by decide +kernel) ⟨Nat.le_of_ble_eq_true rfl, Nat.le_of_ble_eq_true rfl⟩) (sx_preS hK (sx_P0 : va_P D vwCl [] s.heap)) rfl rfl hl.1 rfl (lv_room (Nat.le_of_ble_eq_true rfl)) d_X_canPut_6 ⟨Nat.le_of_ble_eq_true rfl, Nat.le_of_ble_eq_true rfl⟩).run (fun r_4 hr_3 => ?_)
  subst hr_3
  refine lv_if_eq (tgt := 37) hx hb d_X_canPut_9 (by decide) (fun c_5 => ?_) (fun c_5 => ?_)
  · have c_5 : (sx_bt r_2 p) = false := sx_bI0 c_5
    refine lv_iconst (v := nI 0) hx hb d_X_canPut_37 (by decide +kernel) ?_
    have w9 : sx_isW n α a p = false := by rw [hr_1 p (by omega), decide_eq_true hpn, Bool.true_and] at c_5; exact c_5
    exact W.zret (v := nI 0) (ty := .boolean) hx hb hr (by decide +kernel) (fun t ht hW => ⟨nI 0, rfl, sx_b0 (by rw [w9]; rfl), ht⟩) (fun _ h => by cases h) d_X_canPut_38
  · have c_5 : (sx_bt r_2 p) = true := sx_bIn c_5
    refine lv_aload_n hx hb d_X_canPut_12 rfl (lv_at hl 0 rfl) ?_
    refine va_get (D := D) (ci := 3) (v := .ref (h 1)) (C := R_X) (T := T_X) (N := 6) hx hb hts iw_X hown hK.1 hP 0 rfl rfl 1 (by decide) (hts _ wd_70) (fun _ h9 => h9) rfl d_X_canPut_13 ?_
    refine lv_iload_n hx hb d_X_canPut_16 rfl (lv_at hl 2 rfl) ?_
    have hPc : va_P D vwCl (wP cA (h 1) (h 2) (h 3) (h 4) (h 5) (nI n) (α 1) (α 2) ab un) s.heap := hP.sub [1, 2, 3, 4, 5] rfl
    refine vp_callSl (va_runV (As := [.int (nI p)]) (rest := []) ⟨hx, hb, hml, hown, hts⟩ (k_way l D cA (h 1) (h 2) (h 3) (h 4) (h 5) n (α 1) (α 2) ab un p (by omega) (by omega)) (cwV 1 hts (sx_GV wd_116 wd_117 wd_118 wd_3 wd_119) rfl rfl rfl (by decide +kernel) ⟨Nat.le_of_ble_eq_true rfl, Nat.le_of_ble_eq_true rfl⟩) (sx_preV hK hPc (va_recv hK.1 hPc (ci := 1) (q0 := 0) rfl rfl)) rfl rfl hl.1 rfl (lv_room (Nat.le_of_ble_eq_true rfl)) d_X_canPut_17 ⟨Nat.le_of_ble_eq_true rfl, Nat.le_of_ble_eq_true rfl⟩).run (fun r_7 hr_6 => ?_)
    subst hr_6
    refine lv_aload_n hx hb d_X_canPut_20 rfl (lv_at hl 1 rfl) ?_
    refine va_getN (D := D) (ci := 0) (v := .ref (g 3)) (C := R_A) (T := T_A) (N := 12) hx hb hts iw_A hown hK.1 hP 9 rfl rfl 3 (by decide) (va_Nw.use rfl (hK.2.1 _ wd_166)) (fun _ h9 => h9) rfl d_X_canPut_21 ?_
    have hPc : va_P D vwCl (wS cA (g 3) (g 4) wv wf wl) s.heap := hP.sub [12, 13] rfl
    refine vp_callSl (va_runV (As := []) (rest := [.long ((ab p ||| un p) &&& (sx_on p ^^^ (-1)))]) ⟨hx, hb, hml, hown, hts⟩ (k_taken l D cA (g 3) (g 4) wv wf wl ) (cwV 0 hts (sx_GV wd_121 wd_122 wd_123 wd_4 wd_124) rfl rfl rfl (by decide +kernel) ⟨Nat.le_of_ble_eq_true rfl, Nat.le_of_ble_eq_true rfl⟩) (sx_preV hK hPc (va_recv hK.1 hPc (ci := 2) (q0 := 0) rfl rfl)) rfl rfl hl.1 rfl (lv_room (Nat.le_of_ble_eq_true rfl)) d_X_canPut_24 ⟨Nat.le_of_ble_eq_true rfl, Nat.le_of_ble_eq_true rfl⟩).run (fun r_9 hr_8 => ?_)
    subst hr_8
    refine lv_land hx hb d_X_canPut_27 ?_
    refine lv_lconst (v := 0) hx hb d_X_canPut_28 (by decide +kernel) ?_
    refine W.lcmp hx hb d_X_canPut_29 ?_
    refine lv_if_ne (tgt := 37) hx hb d_X_canPut_30 (by decide) (fun c_10 => ?_) (fun c_10 => ?_)
    · have c_10 : ¬ (((ab p ||| un p) &&& (sx_on p ^^^ (-1))) &&& (wf ||| wl)) = 0 := fun z => c_10 (sx_cmp0.mpr z)
      refine lv_iconst (v := nI 0) hx hb d_X_canPut_37 (by decide +kernel) ?_
      have w9 : sx_isW n α a p = true := by rw [hr_1 p (by omega), decide_eq_true hpn, Bool.true_and] at c_5; exact c_5
      exact W.zret (v := nI 0) (ty := .boolean) hx hb hr (by decide +kernel) (fun t ht hW => ⟨nI 0, rfl, sx_b0 (by rw [w9, sx_nf (fun z => c_10 ((sx_inW_iff hR hn60 hpn (fun j hj z => ((sx_INV_A hI ha).2.2.2.2.1 j hj).2 z) hW0).mpr z))]; rfl), ht⟩) (fun _ h => by cases h) d_X_canPut_38
    · have c_10 : ((ab p ||| un p) &&& (sx_on p ^^^ (-1))) &&& (wf ||| wl) = 0 := sx_cmp0.mp c_10
      refine lv_iconst (v := nI 1) hx hb d_X_canPut_33 (by decide +kernel) ?_
      refine lv_goto (tgt := 38) hx hb d_X_canPut_34 (by decide) ?_
      have w9 : sx_isW n α a p = true := by rw [hr_1 p (by omega), decide_eq_true hpn, Bool.true_and] at c_5; exact c_5
      exact W.zret (v := nI 1) (ty := .boolean) hx hb hr (by decide +kernel) (fun t ht hW => ⟨nI 1, rfl, sx_b1 (by rw [w9, (sx_inW_iff hR hn60 hpn (fun j hj z => ((sx_INV_A hI ha).2.2.2.2.1 j hj).2 z) hW0).mp c_10]; rfl), ht⟩) (fun _ h => by cases h) d_X_canPut_38

set_option maxHeartbeats 4000000 in
set_option maxRecDepth 100000 in
theorem k_touch (l : Launch) (D : va_G) (cA : Nat → ClassId) (h g : Nat → Nat) (lim ac sn : Int32) (n : Nat) (α : sx_A) (ab un : Nat → Int64) (sv : Nat → Int32) (sf sl : Int64) (acts : Nat → Option Nat) (a : Nat) (dp out : Nat → Int32) (th hw br ops rf : Int32) (tp : Nat → Int32) (tc : Int32) (ts : Int64) (wv : Nat → Int32) (wf wl : Int64) (na L : Nat) (hI : sx_INV n na L α) (ha : a < na) (hR : sx_RP n (α 1) ab un) (hDO : sx_DO α a dp out) (p : Nat) (hpn : p < n) : Met l y_X_touchesDeclared w_X_touchesDeclared ({ frames := 2, cells := 0, slots := 0, locals := 42 }) (sx_Pr D cA [.ref (h 0), .ref (g 0), .int (nI p)] (wXA cA h g lim ac sn (nI n) (α 1) (α 2) ab un sv sf sl acts dp out (nI (sx_dN α a)) th hw br ops rf tp tc ts wv wf wl)) (vp_Si (fun r => r = sx_bI (sx_decT α a p))) 0 0 (fun _ => False) := by
  refine Met.ofW (cc := b_X_touchesDeclared) (maxL := 6) (ret := (some .boolean)) (by decide) rfl ?_
  intro pG eG s m args below meth cG s₁ B hml hv
  obtain ⟨rfl, hP, hK⟩ := hv
  have hx := B.exec
  have hb := B.bytes
  have hr := B.returns
  have hts0 := atoms_spec (ws := w_X_touchesDeclared) B.pre
  have hts : ∀ w ∈ sx_gw, w.before _ s = true := fun w h => hts0 w (List.mem_cons_of_mem _ h)
  have hown : s.vm.findClass R_X = some m.cls := findClass_of_methodNamed B.named
  have hlocks := B.notSynchronized
  have hl := lv_entry ([.ref (h 0), .ref (g 0), .int (nI p)]) (n := 6) (Nat.le_of_ble_eq_true rfl)
  rw [lg_entry_eq]
  generalize (lg_sl ([.ref (h 0), .ref (g 0), .int (nI p)]) ++ List.replicate (6 - (lg_sl ([.ref (h 0), .ref (g 0), .int (nI p)])).length) Slot.unset).toArray = ls at hl ⊢
  have hl : lv_has ls 6 [(0, .ref (h 0)), (1, .ref (g 0)), (2, .int (nI p))] := hl
  have hn31 := sx_INV_n hI
  have hn60 := hI.1.1.2
  have h1n := hI.1.1.1
  have hAc := sx_INV_A hI ha
  have hd12 := (sx_dN_ok hAc).1
  refine lv_aload_n hx hb d_X_touchesDeclared_0 rfl (lv_at hl 0 rfl) ?_
  refine va_get (D := D) (ci := 3) (v := .ref (h 1)) (C := R_X) (T := T_X) (N := 6) hx hb hts iw_X hown hK.1 hP 0 rfl rfl 1 (by decide) (hts _ wd_70) (fun _ h9 => h9) rfl d_X_touchesDeclared_1 ?_
  refine lv_iload_n hx hb d_X_touchesDeclared_4 rfl (lv_at hl 2 rfl) ?_
  have hPc : va_P D vwCl (wP cA (h 1) (h 2) (h 3) (h 4) (h 5) (nI n) (α 1) (α 2) ab un) s.heap := hP.sub [1, 2, 3, 4, 5] rfl
  refine vp_callSl (va_runV (As := [.int (nI p)]) (rest := []) ⟨hx, hb, hml, hown, hts⟩ (k_way l D cA (h 1) (h 2) (h 3) (h 4) (h 5) n (α 1) (α 2) ab un p (by omega) (by omega)) (cwV 1 hts (sx_GV wd_116 wd_117 wd_118 wd_3 wd_119) rfl rfl rfl (by decide +kernel) ⟨Nat.le_of_ble_eq_true rfl, Nat.le_of_ble_eq_true rfl⟩) (sx_preV hK hPc (va_recv hK.1 hPc (ci := 1) (q0 := 0) rfl rfl)) rfl rfl hl.1 rfl (lv_room (Nat.le_of_ble_eq_true rfl)) d_X_touchesDeclared_5 ⟨Nat.le_of_ble_eq_true rfl, Nat.le_of_ble_eq_true rfl⟩).run (fun r_2 hr_1 => ?_)
  subst hr_1
  refine lv_iload_n hx hb d_X_touchesDeclared_8 rfl (lv_at hl 2 rfl) ?_
  refine vp_callSl (va_runS (As := [.int (nI p)]) (rest := [.long ((ab p ||| un p) &&& (sx_on p ^^^ (-1)))]) ⟨hx, hb, hml, hown, hts⟩ (k_only l D cA p) (va_cwS 1 hts (sx_GS wd_111 wd_30 wd_1 wd_31) rfl rfl rfl (by decide +kernel) ⟨Nat.le_of_ble_eq_true rfl, Nat.le_of_ble_eq_true rfl⟩) (sx_preS hK (sx_P0 : va_P D vwCl [] s.heap)) rfl rfl hl.1 rfl (lv_room (Nat.le_of_ble_eq_true rfl)) d_X_touchesDeclared_9 ⟨Nat.le_of_ble_eq_true rfl, Nat.le_of_ble_eq_true rfl⟩).run (fun r_4 hr_3 => ?_)
  subst hr_3
  refine lv_lor hx hb d_X_touchesDeclared_12 ?_
  refine lv_lstore_n (lv' := [(3, .long (((ab p ||| un p) &&& (sx_on p ^^^ (-1))) ||| (sx_on p))), (0, .ref (h 0)), (1, .ref (g 0)), (2, .int (nI p))]) hx hb d_X_touchesDeclared_13 rfl hl (by decide) rfl (fun ls hl => ?_)
  refine lv_iconst (v := nI 0) hx hb d_X_touchesDeclared_14 (by decide +kernel) ?_
  refine lv_istore (lv' := [(5, .int (nI 0)), (3, .long (((ab p ||| un p) &&& (sx_on p ^^^ (-1))) ||| (sx_on p))), (0, .ref (h 0)), (1, .ref (g 0)), (2, .int (nI p))]) hx hb d_X_touchesDeclared_15 hl (by decide) rfl (fun ls hl => ?_)
  refine sx_loop (σ := Nat) (fun x => x ≤ sx_dN α a ∧ sx_any (fun z => sx_U (α 1) p (sx_dp α a z) || sx_U (α 1) (sx_dp α a z) p) x = false) (fun x => [(5, .int (nI x)), (3, .long (((ab p ||| un p) &&& (sx_on p ^^^ (-1))) ||| (sx_on p))), (0, .ref (h 0)), (1, .ref (g 0)), (2, .int (nI p))]) (fun x => sx_dN α a - x) 0 (⟨Nat.zero_le _, rfl⟩) (lv_sub hl [0, 1, 2, 3, 4] rfl) (fun x hJ ih ls hl => ?_)
  obtain ⟨k, rfl⟩ : ∃ y, y = x := ⟨_, rfl⟩
  obtain ⟨hk, hJ⟩ := hJ
  have hl : lv_has ls 6 [(5, .int (nI k)), (3, .long (((ab p ||| un p) &&& (sx_on p ^^^ (-1))) ||| (sx_on p))), (0, .ref (h 0)), (1, .ref (g 0)), (2, .int (nI p))] := hl
  have ih_17 := ih
  refine lv_iload hx hb d_X_touchesDeclared_17 (lv_at hl 0 rfl) ?_
  refine lv_aload_n hx hb d_X_touchesDeclared_19 rfl (lv_at hl 3 rfl) ?_
  refine va_getN (D := D) (ci := 0) (v := .int (nI (sx_dN α a))) (C := R_A) (T := T_A) (N := 12) hx hb hts iw_A hown hK.1 hP 9 rfl rfl 2 (by decide) (va_Nw.use rfl (hK.2.1 _ wd_164)) (fun _ h9 => h9) rfl d_X_touchesDeclared_20 ?_
  refine lv_icmp_ge (tgt := 48) hx hb d_X_touchesDeclared_23 (by decide) (fun c_5 => ?_) (fun c_5 => ?_)
  · have c_5 : sx_dN α a ≤ k := (nI_leI (by omega) (by omega)).mp c_5
    refine lv_iconst (v := nI 0) hx hb d_X_touchesDeclared_48 (by decide +kernel) ?_
    exact W.zret (v := nI 0) (ty := .boolean) hx hb hr (by decide +kernel) (fun t ht hW => ⟨nI 0, rfl, sx_b0 (by unfold sx_decT; rw [show sx_dN α a = k by omega]; exact hJ), ht⟩) (fun _ h => by cases h) d_X_touchesDeclared_49
  · have c_5 : k < sx_dN α a := Nat.not_le.mp (fun z => c_5 ((nI_leI (by omega) (by omega)).mpr z))
    refine lv_lload_n hx hb d_X_touchesDeclared_26 rfl (lv_at hl 1 rfl) ?_
    refine lv_aload_n hx hb d_X_touchesDeclared_27 rfl (lv_at hl 3 rfl) ?_
    refine va_getN (D := D) (ci := 0) (v := .ref (g 1)) (C := R_A) (T := T_A) (N := 12) hx hb hts iw_A hown hK.1 hP 9 rfl rfl 0 (by decide) (va_Nw.use rfl (hK.2.1 _ wd_160)) (fun _ h9 => h9) rfl d_X_touchesDeclared_28 ?_
    refine lv_iload hx hb d_X_touchesDeclared_31 (lv_at hl 0 rfl) ?_
    refine va_iald hx hb hK.1 hP 10 0 rfl rfl (vp_in_nI (by omega) (by decide)) d_X_touchesDeclared_33 ?_
    refine sx_asi (congrArg dp (nI_clamp (by omega))) ?_
    obtain ⟨dp1, dp2, dp3⟩ := sx_dp_ok hn31 hAc (show k < sx_dN α a by omega)
    refine sx_asi ((hDO k (by omega)).1.trans dp3) ?_
    refine vp_callSi (va_runS (As := [.long (((ab p ||| un p) &&& (sx_on p ^^^ (-1))) ||| (sx_on p)), .int (nI (sx_dp α a k))]) (rest := []) ⟨hx, hb, hml, hown, hts⟩ (k_holds l D cA (((ab p ||| un p) &&& (sx_on p ^^^ (-1))) ||| (sx_on p)) (sx_dp α a k) (by omega)) (va_cwS 2 hts (sx_GS wd_220 wd_109 wd_1 wd_110) rfl rfl rfl (by decide +kernel) ⟨Nat.le_of_ble_eq_true rfl, Nat.le_of_ble_eq_true rfl⟩) (sx_preS hK (sx_P0 : va_P D vwCl [] s.heap)) rfl rfl hl.1 rfl (lv_room (Nat.le_of_ble_eq_true rfl)) d_X_touchesDeclared_34 ⟨Nat.le_of_ble_eq_true rfl, Nat.le_of_ble_eq_true rfl⟩).run (fun r_7 hr_6 => ?_)
    subst hr_6
    refine lv_if_eq (tgt := 42) hx hb d_X_touchesDeclared_37 (by decide) (fun c_8 => ?_) (fun c_8 => ?_)
    · have c_8 : (sx_bt (((ab p ||| un p) &&& (sx_on p ^^^ (-1))) ||| (sx_on p)) (sx_dp α a k)) = false := sx_bI0 c_8
      refine lv_iinc (v := nI (k + 1)) (lv' := [(5, .int (nI (k + 1))), (3, .long (((ab p ||| un p) &&& (sx_on p ^^^ (-1))) ||| (sx_on p))), (0, .ref (h 0)), (1, .ref (g 0)), (2, .int (nI p))]) hx hb d_X_touchesDeclared_42 hl (k := 0) rfl (nI_1 k) (by decide) rfl (fun ls hl => ?_)
      refine lv_goto (tgt := 17) hx hb d_X_touchesDeclared_45 (by decide) ?_
      exact ih_17 (k + 1) (⟨by omega, sx_any_s hJ (by rw [← sx_way_bit hR hn60 hpn dp2]; exact c_8)⟩) (by omega) ls (lv_sub hl [0, 1, 2, 3, 4] rfl)
    · have c_8 : (sx_bt (((ab p ||| un p) &&& (sx_on p ^^^ (-1))) ||| (sx_on p)) (sx_dp α a k)) = true := sx_bIn c_8
      refine lv_iconst (v := nI 1) hx hb d_X_touchesDeclared_40 (by decide +kernel) ?_
      exact W.zret (v := nI 1) (ty := .boolean) hx hb hr (by decide +kernel) (fun t ht hW => ⟨nI 1, rfl, sx_b1 (sx_any_t.mpr ⟨k, by omega, by rw [← sx_way_bit hR hn60 hpn dp2]; exact c_8⟩), ht⟩) (fun _ h => by cases h) d_X_touchesDeclared_41

set_option maxHeartbeats 4000000 in
set_option maxRecDepth 100000 in
theorem k_lack (l : Launch) (D : va_G) (cA : Nat → ClassId) (h g : Nat → Nat) (lim ac sn : Int32) (n : Nat) (α : sx_A) (ab un : Nat → Int64) (sv : Nat → Int32) (sf sl : Int64) (acts : Nat → Option Nat) (a : Nat) (dp out : Nat → Int32) (th hw br ops rf : Int32) (tp : Nat → Int32) (tc : Int32) (ts : Int64) (wv : Nat → Int32) (wf wl : Int64) (na L : Nat) (hI : sx_INV n na L α) (ha : a < na) (hR : sx_RP n (α 1) ab un) (hDO : sx_DO α a dp out) (hS0 : sx_RW (α 3) sv sf sl) : Met l y_X_lacksInput w_X_lacksInput ({ frames := 2, cells := 0, slots := 0, locals := 42 }) (sx_Pr D cA [.ref (h 0), .ref (g 0)] (wXA cA h g lim ac sn (nI n) (α 1) (α 2) ab un sv sf sl acts dp out (nI (sx_dN α a)) th hw br ops rf tp tc ts wv wf wl)) (vp_Si (fun r => r = sx_bI (sx_lack n α a))) 0 0 (fun _ => False) := by
  refine Met.ofW (cc := b_X_lacksInput) (maxL := 5) (ret := (some .boolean)) (by decide) rfl ?_
  intro pG eG s m args below meth cG s₁ B hml hv
  obtain ⟨rfl, hP, hK⟩ := hv
  have hx := B.exec
  have hb := B.bytes
  have hr := B.returns
  have hts0 := atoms_spec (ws := w_X_lacksInput) B.pre
  have hts : ∀ w ∈ sx_gw, w.before _ s = true := fun w h => hts0 w (List.mem_cons_of_mem _ h)
  have hown : s.vm.findClass R_X = some m.cls := findClass_of_methodNamed B.named
  have hlocks := B.notSynchronized
  have hl := lv_entry ([.ref (h 0), .ref (g 0)]) (n := 5) (Nat.le_of_ble_eq_true rfl)
  rw [lg_entry_eq]
  generalize (lg_sl ([.ref (h 0), .ref (g 0)]) ++ List.replicate (5 - (lg_sl ([.ref (h 0), .ref (g 0)])).length) Slot.unset).toArray = ls at hl ⊢
  have hl : lv_has ls 5 [(0, .ref (h 0)), (1, .ref (g 0))] := hl
  have hn31 := sx_INV_n hI
  have hn60 := hI.1.1.2
  have h1n := hI.1.1.1
  have hAc := sx_INV_A hI ha
  have hd12 := (sx_dN_ok hAc).1
  refine lv_iconst (v := nI 0) hx hb d_X_lacksInput_0 (by decide +kernel) ?_
  refine lv_istore_n (lv' := [(2, .int (nI 0)), (0, .ref (h 0)), (1, .ref (g 0))]) hx hb d_X_lacksInput_1 rfl hl (by decide) rfl (fun ls hl => ?_)
  refine sx_loop (σ := Nat) (fun x => x ≤ sx_dN α a ∧ sx_any (fun z => decide (α 11 (12 * a + z) = 0) && !sx_hasS n α (sx_dp α a z)) x = false) (fun x => [(2, .int (nI x)), (0, .ref (h 0)), (1, .ref (g 0))]) (fun x => sx_dN α a - x) 0 (⟨Nat.zero_le _, rfl⟩) (lv_sub hl [0, 1, 2] rfl) (fun x hJ ih ls hl => ?_)
  obtain ⟨k, rfl⟩ : ∃ y, y = x := ⟨_, rfl⟩
  obtain ⟨hk, hJ⟩ := hJ
  have hl : lv_has ls 5 [(2, .int (nI k)), (0, .ref (h 0)), (1, .ref (g 0))] := hl
  have ih_2 := ih
  refine lv_iload_n hx hb d_X_lacksInput_2 rfl (lv_at hl 0 rfl) ?_
  refine lv_aload_n hx hb d_X_lacksInput_3 rfl (lv_at hl 2 rfl) ?_
  refine va_getN (D := D) (ci := 0) (v := .int (nI (sx_dN α a))) (C := R_A) (T := T_A) (N := 12) hx hb hts iw_A hown hK.1 hP 9 rfl rfl 2 (by decide) (va_Nw.use rfl (hK.2.1 _ wd_164)) (fun _ h9 => h9) rfl d_X_lacksInput_4 ?_
  refine lv_icmp_ge (tgt := 55) hx hb d_X_lacksInput_7 (by decide) (fun c_1 => ?_) (fun c_1 => ?_)
  · have c_1 : sx_dN α a ≤ k := (nI_leI (by omega) (by omega)).mp c_1
    refine lv_iconst (v := nI 0) hx hb d_X_lacksInput_55 (by decide +kernel) ?_
    exact W.zret (v := nI 0) (ty := .boolean) hx hb hr (by decide +kernel) (fun t ht hW => ⟨nI 0, rfl, sx_b0 (by unfold sx_lack; rw [show sx_dN α a = k by omega]; exact hJ), ht⟩) (fun _ h => by cases h) d_X_lacksInput_56
  · have c_1 : k < sx_dN α a := Nat.not_le.mp (fun z => c_1 ((nI_leI (by omega) (by omega)).mpr z))
    refine lv_aload_n hx hb d_X_lacksInput_10 rfl (lv_at hl 2 rfl) ?_
    refine va_getN (D := D) (ci := 0) (v := .ref (g 2)) (C := R_A) (T := T_A) (N := 12) hx hb hts iw_A hown hK.1 hP 9 rfl rfl 1 (by decide) (va_Nw.use rfl (hK.2.1 _ wd_162)) (fun _ h9 => h9) rfl d_X_lacksInput_11 ?_
    refine lv_iload_n hx hb d_X_lacksInput_14 rfl (lv_at hl 0 rfl) ?_
    refine va_zald hx hb hK.1 hP 11 1 rfl rfl (vp_in_nI (by omega) (by decide)) d_X_lacksInput_15 ?_
    refine sx_asi (congrArg out (nI_clamp (by omega))) ?_
    refine sx_asi (hDO k (by omega)).2 ?_
    refine lv_if_ne (tgt := 49) hx hb d_X_lacksInput_16 (by decide) (fun c_2 => ?_) (fun c_2 => ?_)
    · refine lv_iinc (v := nI (k + 1)) (lv' := [(2, .int (nI (k + 1))), (0, .ref (h 0)), (1, .ref (g 0))]) hx hb d_X_lacksInput_49 hl (k := 0) rfl (nI_1 k) (by decide) rfl (fun ls hl => ?_)
      refine lv_goto (tgt := 2) hx hb d_X_lacksInput_52 (by decide) ?_
      exact ih_2 (k + 1) (⟨by omega, sx_any_s hJ (by rw [decide_eq_false c_2]; rfl)⟩) (by omega) ls (lv_sub hl [0, 1, 2] rfl)
    · refine lv_aload_n hx hb d_X_lacksInput_19 rfl (lv_at hl 1 rfl) ?_
      refine va_get (D := D) (ci := 3) (v := .ref (h 1)) (C := R_X) (T := T_X) (N := 6) hx hb hts iw_X hown hK.1 hP 0 rfl rfl 1 (by decide) (hts _ wd_70) (fun _ h9 => h9) rfl d_X_lacksInput_20 ?_
      refine lv_aload_n hx hb d_X_lacksInput_23 rfl (lv_at hl 2 rfl) ?_
      refine va_getN (D := D) (ci := 0) (v := .ref (g 1)) (C := R_A) (T := T_A) (N := 12) hx hb hts iw_A hown hK.1 hP 9 rfl rfl 0 (by decide) (va_Nw.use rfl (hK.2.1 _ wd_160)) (fun _ h9 => h9) rfl d_X_lacksInput_24 ?_
      refine lv_iload_n hx hb d_X_lacksInput_27 rfl (lv_at hl 0 rfl) ?_
      refine va_iald hx hb hK.1 hP 10 0 rfl rfl (vp_in_nI (by omega) (by decide)) d_X_lacksInput_28 ?_
      refine sx_asi (congrArg dp (nI_clamp (by omega))) ?_
      obtain ⟨dp1, dp2, dp3⟩ := sx_dp_ok hn31 hAc (show k < sx_dN α a by omega)
      refine sx_asi ((hDO k (by omega)).1.trans dp3) ?_
      have hPc : va_P D vwCl (wP cA (h 1) (h 2) (h 3) (h 4) (h 5) (nI n) (α 1) (α 2) ab un) s.heap := hP.sub [1, 2, 3, 4, 5] rfl
      refine vp_callSl (va_runV (As := [.int (nI (sx_dp α a k))]) (rest := []) ⟨hx, hb, hml, hown, hts⟩ (k_under l D cA (h 1) (h 2) (h 3) (h 4) (h 5) n (α 1) (α 2) ab un (sx_dp α a k) (by omega) (by omega)) (cwV 1 hts (sx_GV wd_237 wd_238 wd_239 wd_3 wd_240) rfl rfl rfl (by decide +kernel) ⟨Nat.le_of_ble_eq_true rfl, Nat.le_of_ble_eq_true rfl⟩) (sx_preV hK hPc (va_recv hK.1 hPc (ci := 1) (q0 := 0) rfl rfl)) rfl rfl hl.1 rfl (lv_room (Nat.le_of_ble_eq_true rfl)) d_X_lacksInput_29 ⟨Nat.le_of_ble_eq_true rfl, Nat.le_of_ble_eq_true rfl⟩).run (fun r_4 hr_3 => ?_)
      subst hr_3
      refine lv_lstore_n (lv' := [(3, .long (un (sx_dp α a k))), (2, .int (nI k)), (0, .ref (h 0)), (1, .ref (g 0))]) hx hb d_X_lacksInput_32 rfl hl (by decide) rfl (fun ls hl => ?_)
      refine lv_lload_n hx hb d_X_lacksInput_33 rfl (lv_at hl 0 rfl) ?_
      refine lv_aload_n hx hb d_X_lacksInput_34 rfl (lv_at hl 2 rfl) ?_
      refine va_get (D := D) (ci := 3) (v := .ref (h 6)) (C := R_X) (T := T_X) (N := 6) hx hb hts iw_X hown hK.1 hP 0 rfl rfl 2 (by decide) (hts _ wd_71) (fun _ h9 => h9) rfl d_X_lacksInput_35 ?_
      have hPc : va_P D vwCl (wS cA (h 6) (h 7) sv sf sl) s.heap := hP.sub [6, 7] rfl
      refine vp_callSl (va_runV (As := []) (rest := [.long (un (sx_dp α a k))]) ⟨hx, hb, hml, hown, hts⟩ (k_taken l D cA (h 6) (h 7) sv sf sl ) (cwV 0 hts (sx_GV wd_121 wd_122 wd_123 wd_4 wd_124) rfl rfl rfl (by decide +kernel) ⟨Nat.le_of_ble_eq_true rfl, Nat.le_of_ble_eq_true rfl⟩) (sx_preV hK hPc (va_recv hK.1 hPc (ci := 2) (q0 := 0) rfl rfl)) rfl rfl hl.1 rfl (lv_room (Nat.le_of_ble_eq_true rfl)) d_X_lacksInput_38 ⟨Nat.le_of_ble_eq_true rfl, Nat.le_of_ble_eq_true rfl⟩).run (fun r_6 hr_5 => ?_)
      subst hr_5
      refine lv_land hx hb d_X_lacksInput_41 ?_
      refine lv_lconst (v := 0) hx hb d_X_lacksInput_42 (by decide +kernel) ?_
      refine W.lcmp hx hb d_X_lacksInput_43 ?_
      refine lv_if_ne (tgt := 49) hx hb d_X_lacksInput_44 (by decide) (fun c_7 => ?_) (fun c_7 => ?_)
      · have c_7 : ¬ ((un (sx_dp α a k)) &&& (sf ||| sl)) = 0 := fun z => c_7 (sx_cmp0.mpr z)
        refine lv_iinc (v := nI (k + 1)) (lv' := [(2, .int (nI (k + 1))), (3, .long (un (sx_dp α a k))), (0, .ref (h 0)), (1, .ref (g 0))]) hx hb d_X_lacksInput_49 hl (k := 1) rfl (nI_1 k) (by decide) rfl (fun ls hl => ?_)
        refine lv_goto (tgt := 2) hx hb d_X_lacksInput_52 (by decide) ?_
        exact ih_2 (k + 1) (⟨by omega, sx_any_s hJ (by rw [sx_nf (fun z => c_7 ((sx_hasS_iff hR hn60 dp2 hI.2.2.2.2.1 hS0).mpr z))]; simp)⟩) (by omega) ls (lv_sub hl [0, 2, 3] rfl)
      · have c_7 : (un (sx_dp α a k)) &&& (sf ||| sl) = 0 := sx_cmp0.mp c_7
        refine lv_iconst (v := nI 1) hx hb d_X_lacksInput_47 (by decide +kernel) ?_
        exact W.zret (v := nI 1) (ty := .boolean) hx hb hr (by decide +kernel) (fun t ht hW => ⟨nI 1, rfl, sx_b1 (sx_any_t.mpr ⟨k, by omega, by rw [decide_eq_true c_2, (sx_hasS_iff hR hn60 dp2 hI.2.2.2.2.1 hS0).mp c_7]; rfl⟩), ht⟩) (fun _ h => by cases h) d_X_lacksInput_48

set_option maxHeartbeats 4000000 in
set_option maxRecDepth 100000 in
theorem k_fault (l : Launch) (D : va_G) (cA : Nat → ClassId) (h g : Nat → Nat) (lim ac sn : Int32) (n : Nat) (α : sx_A) (ab un : Nat → Int64) (sv : Nat → Int32) (sf sl : Int64) (acts : Nat → Option Nat) (a : Nat) (dp out : Nat → Int32) (th hw br ops rf : Int32) (tp : Nat → Int32) (tc : Int32) (ts : Int64) (wv : Nat → Int32) (wf wl : Int64) (na L : Nat) (hI : sx_INV n na L α) (ha : a < na) (hR : sx_RP n (α 1) ab un) (hDO : sx_DO α a dp out) (hW0 : sx_RW (sx_wd_ α a) wv wf wl) : Met l y_X_firstOutputFault w_X_firstOutputFault ({ frames := 4, cells := 0, slots := 0, locals := 88 }) (sx_Pr D cA [.ref (h 0), .ref (g 0)] (wXA cA h g lim ac sn (nI n) (α 1) (α 2) ab un sv sf sl acts dp out (nI (sx_dN α a)) th hw br ops rf tp tc ts wv wf wl)) (vp_Si (fun r => r = sx_fl n α a (sx_dN α a) 0 0)) 0 0 (fun _ => False) := by
  refine Met.ofW (cc := b_X_firstOutputFault) (maxL := 6) (ret := (some .int)) (by decide) rfl ?_
  intro pG eG s m args below meth cG s₁ B hml hv
  obtain ⟨rfl, hP, hK⟩ := hv
  have hx := B.exec
  have hb := B.bytes
  have hr := B.returns
  have hts0 := atoms_spec (ws := w_X_firstOutputFault) B.pre
  have hts : ∀ w ∈ sx_gw, w.before _ s = true := fun w h => hts0 w (List.mem_cons_of_mem _ h)
  have hown : s.vm.findClass R_X = some m.cls := findClass_of_methodNamed B.named
  have hlocks := B.notSynchronized
  have hl := lv_entry ([.ref (h 0), .ref (g 0)]) (n := 6) (Nat.le_of_ble_eq_true rfl)
  rw [lg_entry_eq]
  generalize (lg_sl ([.ref (h 0), .ref (g 0)]) ++ List.replicate (6 - (lg_sl ([.ref (h 0), .ref (g 0)])).length) Slot.unset).toArray = ls at hl ⊢
  have hl : lv_has ls 6 [(0, .ref (h 0)), (1, .ref (g 0))] := hl
  have hn31 := sx_INV_n hI
  have hn60 := hI.1.1.2
  have h1n := hI.1.1.1
  have hAc := sx_INV_A hI ha
  have hd12 := (sx_dN_ok hAc).1
  refine lv_iconst (v := nI 0) hx hb d_X_firstOutputFault_0 (by decide +kernel) ?_
  refine lv_istore_n (lv' := [(2, .int (nI 0)), (0, .ref (h 0)), (1, .ref (g 0))]) hx hb d_X_firstOutputFault_1 rfl hl (by decide) rfl (fun ls hl => ?_)
  refine lv_iconst (v := nI 0) hx hb d_X_firstOutputFault_2 (by decide +kernel) ?_
  refine lv_istore_n (lv' := [(3, .int (nI 0)), (2, .int (nI 0)), (0, .ref (h 0)), (1, .ref (g 0))]) hx hb d_X_firstOutputFault_3 rfl hl (by decide) rfl (fun ls hl => ?_)
  refine sx_loop (σ := Nat × Nat) (fun x => x.1 ≤ sx_dN α a ∧ x.2 ≤ x.1 ∧ sx_fl n α a (sx_dN α a) 0 0 = sx_fl n α a (sx_dN α a - x.1) x.1 x.2) (fun x => [(3, .int (nI x.1)), (2, .int (nI x.2)), (0, .ref (h 0)), (1, .ref (g 0))]) (fun x => sx_dN α a - x.1) (0, 0) (⟨Nat.zero_le _, Nat.le_refl _, rfl⟩) (lv_sub hl [0, 1, 2, 3] rfl) (fun x hJ ih ls hl => ?_)
  obtain ⟨k, pl⟩ := x
  obtain ⟨hk, hpl, hp⟩ := hJ
  have hl : lv_has ls 6 [(3, .int (nI k)), (2, .int (nI pl)), (0, .ref (h 0)), (1, .ref (g 0))] := hl
  have ih_4 := ih
  refine lv_iload_n hx hb d_X_firstOutputFault_4 rfl (lv_at hl 0 rfl) ?_
  refine lv_aload_n hx hb d_X_firstOutputFault_5 rfl (lv_at hl 3 rfl) ?_
  refine va_getN (D := D) (ci := 0) (v := .int (nI (sx_dN α a))) (C := R_A) (T := T_A) (N := 12) hx hb hts iw_A hown hK.1 hP 9 rfl rfl 2 (by decide) (va_Nw.use rfl (hK.2.1 _ wd_164)) (fun _ h9 => h9) rfl d_X_firstOutputFault_6 ?_
  refine lv_icmp_ge (tgt := 86) hx hb d_X_firstOutputFault_9 (by decide) (fun c_1 => ?_) (fun c_1 => ?_)
  · have c_1 : sx_dN α a ≤ k := (nI_leI (by omega) (by omega)).mp c_1
    refine lv_iconst (v := nI 0) hx hb d_X_firstOutputFault_86 (by decide +kernel) ?_
    exact W.iret (v := nI 0) hx hb hr (fun t ht hW => ⟨nI 0, rfl, (by rw [hp, show sx_dN α a - k = 0 by omega]; rfl), ht⟩) (fun _ h => by cases h) d_X_firstOutputFault_87
  · have c_1 : k < sx_dN α a := Nat.not_le.mp (fun z => c_1 ((nI_leI (by omega) (by omega)).mpr z))
    refine lv_aload_n hx hb d_X_firstOutputFault_12 rfl (lv_at hl 3 rfl) ?_
    refine va_getN (D := D) (ci := 0) (v := .ref (g 2)) (C := R_A) (T := T_A) (N := 12) hx hb hts iw_A hown hK.1 hP 9 rfl rfl 1 (by decide) (va_Nw.use rfl (hK.2.1 _ wd_162)) (fun _ h9 => h9) rfl d_X_firstOutputFault_13 ?_
    refine lv_iload_n hx hb d_X_firstOutputFault_16 rfl (lv_at hl 0 rfl) ?_
    refine va_zald hx hb hK.1 hP 11 1 rfl rfl (vp_in_nI (by omega) (by decide)) d_X_firstOutputFault_17 ?_
    refine sx_asi (congrArg out (nI_clamp (by omega))) ?_
    refine sx_asi (hDO k (by omega)).2 ?_
    refine lv_if_eq (tgt := 80) hx hb d_X_firstOutputFault_18 (by decide) (fun c_2 => ?_) (fun c_2 => ?_)
    · refine lv_iinc (v := nI (k + 1)) (lv' := [(3, .int (nI (k + 1))), (2, .int (nI pl)), (0, .ref (h 0)), (1, .ref (g 0))]) hx hb d_X_firstOutputFault_80 hl (k := 0) rfl (nI_1 k) (by decide) rfl (fun ls hl => ?_)
      refine lv_goto (tgt := 4) hx hb d_X_firstOutputFault_83 (by decide) ?_
      exact ih_4 (k + 1, pl) (⟨by omega, by omega, by rw [hp, sx_fl_step (by omega), decide_eq_true c_2]; rfl⟩) (by omega) ls (lv_sub hl [0, 1, 2, 3] rfl)
    · refine lv_aload_n hx hb d_X_firstOutputFault_21 rfl (lv_at hl 2 rfl) ?_
      refine va_get (D := D) (ci := 3) (v := .ref (h 1)) (C := R_X) (T := T_X) (N := 6) hx hb hts iw_X hown hK.1 hP 0 rfl rfl 1 (by decide) (hts _ wd_70) (fun _ h9 => h9) rfl d_X_firstOutputFault_22 ?_
      refine lv_aload_n hx hb d_X_firstOutputFault_25 rfl (lv_at hl 3 rfl) ?_
      refine va_getN (D := D) (ci := 0) (v := .ref (g 1)) (C := R_A) (T := T_A) (N := 12) hx hb hts iw_A hown hK.1 hP 9 rfl rfl 0 (by decide) (va_Nw.use rfl (hK.2.1 _ wd_160)) (fun _ h9 => h9) rfl d_X_firstOutputFault_26 ?_
      refine lv_iload_n hx hb d_X_firstOutputFault_29 rfl (lv_at hl 0 rfl) ?_
      refine va_iald hx hb hK.1 hP 10 0 rfl rfl (vp_in_nI (by omega) (by decide)) d_X_firstOutputFault_30 ?_
      refine sx_asi (congrArg dp (nI_clamp (by omega))) ?_
      obtain ⟨dp1, dp2, dp3⟩ := sx_dp_ok hn31 hAc (show k < sx_dN α a by omega)
      refine sx_asi ((hDO k (by omega)).1.trans dp3) ?_
      have hPc : va_P D vwCl (wP cA (h 1) (h 2) (h 3) (h 4) (h 5) (nI n) (α 1) (α 2) ab un) s.heap := hP.sub [1, 2, 3, 4, 5] rfl
      refine vp_callSl (va_runV (As := [.int (nI (sx_dp α a k))]) (rest := []) ⟨hx, hb, hml, hown, hts⟩ (k_under l D cA (h 1) (h 2) (h 3) (h 4) (h 5) n (α 1) (α 2) ab un (sx_dp α a k) (by omega) (by omega)) (cwV 1 hts (sx_GV wd_237 wd_238 wd_239 wd_3 wd_240) rfl rfl rfl (by decide +kernel) ⟨Nat.le_of_ble_eq_true rfl, Nat.le_of_ble_eq_true rfl⟩) (sx_preV hK hPc (va_recv hK.1 hPc (ci := 1) (q0 := 0) rfl rfl)) rfl rfl hl.1 rfl (lv_room (Nat.le_of_ble_eq_true rfl)) d_X_firstOutputFault_31 ⟨Nat.le_of_ble_eq_true rfl, Nat.le_of_ble_eq_true rfl⟩).run (fun r_4 hr_3 => ?_)
      subst hr_3
      refine lv_lstore (lv' := [(4, .long (un (sx_dp α a k))), (3, .int (nI k)), (2, .int (nI pl)), (0, .ref (h 0)), (1, .ref (g 0))]) hx hb d_X_firstOutputFault_34 hl (by decide) rfl (fun ls hl => ?_)
      refine lv_lload hx hb d_X_firstOutputFault_36 (lv_at hl 0 rfl) ?_
      refine lv_aload_n hx hb d_X_firstOutputFault_38 rfl (lv_at hl 4 rfl) ?_
      refine va_getN (D := D) (ci := 0) (v := .ref (g 3)) (C := R_A) (T := T_A) (N := 12) hx hb hts iw_A hown hK.1 hP 9 rfl rfl 3 (by decide) (va_Nw.use rfl (hK.2.1 _ wd_166)) (fun _ h9 => h9) rfl d_X_firstOutputFault_39 ?_
      have hPc : va_P D vwCl (wS cA (g 3) (g 4) wv wf wl) s.heap := hP.sub [12, 13] rfl
      refine vp_callSl (va_runV (As := []) (rest := [.long (un (sx_dp α a k))]) ⟨hx, hb, hml, hown, hts⟩ (k_taken l D cA (g 3) (g 4) wv wf wl ) (cwV 0 hts (sx_GV wd_121 wd_122 wd_123 wd_4 wd_124) rfl rfl rfl (by decide +kernel) ⟨Nat.le_of_ble_eq_true rfl, Nat.le_of_ble_eq_true rfl⟩) (sx_preV hK hPc (va_recv hK.1 hPc (ci := 2) (q0 := 0) rfl rfl)) rfl rfl hl.1 rfl (lv_room (Nat.le_of_ble_eq_true rfl)) d_X_firstOutputFault_42 ⟨Nat.le_of_ble_eq_true rfl, Nat.le_of_ble_eq_true rfl⟩).run (fun r_6 hr_5 => ?_)
      subst hr_5
      refine lv_land hx hb d_X_firstOutputFault_45 ?_
      refine lv_lconst (v := 0) hx hb d_X_firstOutputFault_46 (by decide +kernel) ?_
      refine W.lcmp hx hb d_X_firstOutputFault_47 ?_
      refine lv_if_ne (tgt := 58) hx hb d_X_firstOutputFault_48 (by decide) (fun c_7 => ?_) (fun c_7 => ?_)
      · have c_7 : ¬ ((un (sx_dp α a k)) &&& (wf ||| wl)) = 0 := fun z => c_7 (sx_cmp0.mpr z)
        refine lv_aload_n hx hb d_X_firstOutputFault_58 rfl (lv_at hl 4 rfl) ?_
        refine va_getN (D := D) (ci := 0) (v := .ref (g 3)) (C := R_A) (T := T_A) (N := 12) hx hb hts iw_A hown hK.1 hP 9 rfl rfl 3 (by decide) (va_Nw.use rfl (hK.2.1 _ wd_166)) (fun _ h9 => h9) rfl d_X_firstOutputFault_59 ?_
        refine lv_lload hx hb d_X_firstOutputFault_62 (lv_at hl 0 rfl) ?_
        have hPc : va_P D vwCl (wS cA (g 3) (g 4) wv wf wl) s.heap := hP.sub [12, 13] rfl
        refine vp_callSi (va_runV (As := [.long (un (sx_dp α a k))]) (rest := []) ⟨hx, hb, hml, hown, hts⟩ (k_loose l D cA (g 3) (g 4) wv wf wl (un (sx_dp α a k))) (cwV 1 hts (sx_GV wd_329 wd_330 wd_331 wd_4 wd_332) rfl rfl rfl (by decide +kernel) ⟨Nat.le_of_ble_eq_true rfl, Nat.le_of_ble_eq_true rfl⟩) (sx_preV hK hPc (va_recv hK.1 hPc (ci := 2) (q0 := 0) rfl rfl)) rfl rfl hl.1 rfl (lv_room (Nat.le_of_ble_eq_true rfl)) d_X_firstOutputFault_64 ⟨Nat.le_of_ble_eq_true rfl, Nat.le_of_ble_eq_true rfl⟩).run (fun r_9 hr_8 => ?_)
        subst hr_8
        refine lv_if_eq (tgt := 77) hx hb d_X_firstOutputFault_67 (by decide) (fun c_10 => ?_) (fun c_10 => ?_)
        · have c_10 : (sx_any (fun p => sx_bt (wl &&& (un (sx_dp α a k))) p && decide (sx_lR wv wf wl 5 (nI p) = 0)) 60) = false := sx_bI0 c_10
          refine lv_iinc (v := nI (pl + 1)) (lv' := [(2, .int (nI (pl + 1))), (4, .long (un (sx_dp α a k))), (3, .int (nI k)), (0, .ref (h 0)), (1, .ref (g 0))]) hx hb d_X_firstOutputFault_77 hl (k := 2) rfl (nI_1 pl) (by decide) rfl (fun ls hl => ?_)
          refine lv_iinc (v := nI (k + 1)) (lv' := [(3, .int (nI (k + 1))), (2, .int (nI (pl + 1))), (4, .long (un (sx_dp α a k))), (0, .ref (h 0)), (1, .ref (g 0))]) hx hb d_X_firstOutputFault_80 hl (k := 2) rfl (nI_1 k) (by decide) rfl (fun ls hl => ?_)
          refine lv_goto (tgt := 4) hx hb d_X_firstOutputFault_83 (by decide) ?_
          have w48 := sx_nf (fun z => c_7 ((sx_hu_iff hR hn60 dp2 (hAc.2.2.2.2.1 0 (by omega) |>.2 (Or.inl rfl)) hW0).mpr z))
          have w67 := c_10
          rw [sx_loose_eq hI ha hR dp2 hW0] at w67
          exact ih_4 (k + 1, pl + 1) (⟨by omega, by omega, by rw [hp, sx_fl_step (by omega), decide_eq_false c_2, w48, w67]; rfl⟩) (by omega) ls (lv_sub hl [0, 1, 3, 4] rfl)
        · have c_10 : (sx_any (fun p => sx_bt (wl &&& (un (sx_dp α a k))) p && decide (sx_lR wv wf wl 5 (nI p) = 0)) 60) = true := sx_bIn c_10
          refine lv_bipush (v := (-11)) hx hb d_X_firstOutputFault_70 (by decide +kernel) ?_
          refine lv_iconst (v := nI 2) hx hb d_X_firstOutputFault_72 (by decide +kernel) ?_
          refine lv_iload_n hx hb d_X_firstOutputFault_73 rfl (lv_at hl 2 rfl) ?_
          refine lv_imul hx hb d_X_firstOutputFault_74 ?_
          refine sx_asi (y := nI (2 * pl)) (pk_mul 2 pl) ?_
          refine lv_isub hx hb d_X_firstOutputFault_75 ?_
          have w48 := sx_nf (fun z => c_7 ((sx_hu_iff hR hn60 dp2 (hAc.2.2.2.2.1 0 (by omega) |>.2 (Or.inl rfl)) hW0).mpr z))
          have w67 := c_10
          rw [sx_loose_eq hI ha hR dp2 hW0] at w67
          exact W.iret (v := (-11) - (nI (2 * pl))) hx hb hr (fun t ht hW => ⟨(-11) - (nI (2 * pl)), rfl, (by rw [hp, sx_fl_step (by omega), decide_eq_false c_2, w48, w67, sx_two]; rfl), ht⟩) (fun _ h => by cases h) d_X_firstOutputFault_76
      · have c_7 : (un (sx_dp α a k)) &&& (wf ||| wl) = 0 := sx_cmp0.mp c_7
        refine lv_bipush (v := (-10)) hx hb d_X_firstOutputFault_51 (by decide +kernel) ?_
        refine lv_iconst (v := nI 2) hx hb d_X_firstOutputFault_53 (by decide +kernel) ?_
        refine lv_iload_n hx hb d_X_firstOutputFault_54 rfl (lv_at hl 2 rfl) ?_
        refine lv_imul hx hb d_X_firstOutputFault_55 ?_
        refine sx_asi (y := nI (2 * pl)) (pk_mul 2 pl) ?_
        refine lv_isub hx hb d_X_firstOutputFault_56 ?_
        exact W.iret (v := (-10) - (nI (2 * pl))) hx hb hr (fun t ht hW => ⟨(-10) - (nI (2 * pl)), rfl, (by rw [hp, sx_fl_step (by omega), decide_eq_false c_2, (sx_hu_iff hR hn60 dp2 (hAc.2.2.2.2.1 0 (by omega) |>.2 (Or.inl rfl)) hW0).mp c_7, sx_two]; rfl), ht⟩) (fun _ h => by cases h) d_X_firstOutputFault_57

set_option maxHeartbeats 4000000 in
set_option maxRecDepth 100000 in
theorem k_refuse (l : Launch) (D : va_G) (cA : Nat → ClassId) (sz : Nat) (h g : Nat → Nat) (lim ac : Int32) (sb : Bool) (cnt : Int32) (par ltr : Nat → Int32) (ab un : Nat → Int64) (sv : Nat → Int32) (sf sl : Int64) (acts : Nat → Option Nat) (dp out : Nat → Int32) (dc th hw br ops rf : Int32) (tp : Nat → Int32) (tc : Int32) (ts : Int64) (wv : Nat → Int32) (wf wl : Int64) : Met l y_X_refuse w_X_refuse ({ frames := 0, cells := 0, slots := 0, locals := 0 }) (sx_Pw D cA [.ref (h 0), .ref (g 0)] (wXA cA h g lim ac (sx_bI sb) cnt par ltr ab un sv sf sl acts dp out dc th hw br ops rf tp tc ts wv wf wl) sz) (va_Qi (fun r (_ : Unit) => r = nI 0) (sx_Bw D (wXA cA h g lim ac (sx_bI sb) cnt par ltr ab un sv sf sl acts dp out dc th hw br ops rf tp tc ts wv wf wl) sz (fun _ => wXA cA h g lim ac (sx_bI sb) cnt par ltr ab un sv sf sl acts dp out dc th hw (bif sb then 1 else br) ops (rf + 1) tp tc ts wv wf wl)) (va_A (wXA cA h g lim ac (sx_bI sb) cnt par ltr ab un sv sf sl acts dp out dc th hw br ops rf tp tc ts wv wf wl) sz)) 0 0 (va_A (wXA cA h g lim ac (sx_bI sb) cnt par ltr ab un sv sf sl acts dp out dc th hw br ops rf tp tc ts wv wf wl) sz) := by
  refine Met.ofW (cc := b_X_refuse) (maxL := 2) (ret := (some .int)) (by decide) rfl ?_
  intro pG eG s m args below meth cG s₁ B hml hv
  obtain ⟨rfl, hsz, hP, hK, hD0⟩ := hv
  have hx := B.exec
  have hb := B.bytes
  have hr := B.returns
  have hts0 := atoms_spec (ws := w_X_refuse) B.pre
  have hts : ∀ w ∈ sx_gw, w.before _ s = true := fun w h => hts0 w (List.mem_cons_of_mem _ h)
  have hown : s.vm.findClass R_X = some m.cls := findClass_of_methodNamed B.named
  have hlocks := B.notSynchronized
  subst hsz
  have hD := hD0.self (sz := s.heap.size)
  generalize hAe : va_A (wXA cA h g lim ac (sx_bI sb) cnt par ltr ab un sv sf sl acts dp out dc th hw br ops rf tp tc ts wv wf wl) s.heap.size = A at hD ⊢
  have hA : ∀ q : Nat, s.heap.size ≤ q → A q := fun q h => by rw [← hAe]; exact Or.inr h
  have hS : va_S A s.heap s.heap [] := va_S.rf
  have hl := lv_entry ([.ref (h 0), .ref (g 0)]) (n := 2) (Nat.le_of_ble_eq_true rfl)
  rw [lg_entry_eq]
  generalize (lg_sl ([.ref (h 0), .ref (g 0)]) ++ List.replicate (2 - (lg_sl ([.ref (h 0), .ref (g 0)])).length) Slot.unset).toArray = ls at hl ⊢
  have hl : lv_has ls 2 [(0, .ref (h 0)), (1, .ref (g 0))] := hl
  refine lv_aload_n hx hb d_X_refuse_0 rfl (lv_at hl 1 rfl) ?_
  refine lv_dup hx hb d_X_refuse_1 rfl ?_
  refine va_getN (D := D) (ci := 0) (v := .int rf) (C := R_A) (T := T_A) (N := 12) hx hb hts iw_A hown hK.1 hP 9 rfl rfl 8 (by decide) (va_Nw.use rfl (hK.2.1 _ wd_176)) (fun _ h9 => h9) rfl d_X_refuse_2 ?_
  refine lv_iconst (v := nI 1) hx hb d_X_refuse_5 (by decide +kernel) ?_
  refine lv_iadd hx hb d_X_refuse_6 ?_
  refine va_putN (D := D) (ci := 0) (v := .int (rf + (nI 1))) (ty := .int) (C := R_A) (T := T_A) (N := 12) hx hb hts iw_A t_A o_A n_A hown hK.1 hP hD hS 9 rfl rfl 8 (by decide) (va_Nw.use rfl (hK.2.1 _ wd_176)) (fun _ h9 => h9) rfl (by decide +kernel) rfl rfl (Nat.le_of_ble_eq_true rfl) d_X_refuse_7 (fun H locs hP hD hS => ?_)
  have hP : va_P D vwCl (wXA cA h g lim ac (sx_bI sb) cnt par ltr ab un sv sf sl acts dp out dc th hw br ops (rf + (nI 1)) tp tc ts wv wf wl) H := hP
  have hD : va_D A (wXA cA h g lim ac (sx_bI sb) cnt par ltr ab un sv sf sl acts dp out dc th hw br ops (rf + (nI 1)) tp tc ts wv wf wl) := hD
  refine lv_aload_n hx hb d_X_refuse_10 rfl (lv_at hl 0 rfl) ?_
  refine va_get (D := D) (ci := 3) (v := .int (sx_bI sb)) (C := R_X) (T := T_X) (N := 6) hx hb hts iw_X hown hK.1 hP 0 rfl rfl 5 (by decide) (hts _ wd_74) (fun _ h9 => h9) rfl d_X_refuse_11 ?_
  refine lv_if_eq (tgt := 22) hx hb d_X_refuse_14 (by decide) (fun c_1 => ?_) (fun c_1 => ?_)
  · have c_1 : sb = false := sx_bI0 c_1
    refine lv_iconst (v := nI 0) hx hb d_X_refuse_22 (by decide +kernel) ?_
    have hb9 : sb = false := c_1
    subst hb9
    have hP9 : va_P D vwCl (wXA cA h g lim ac (sx_bI false) cnt par ltr ab un sv sf sl acts dp out dc th hw (bif false then 1 else br) ops (rf + 1) tp tc ts wv wf wl) H := hP
    have hD9 : va_D A (wXA cA h g lim ac (sx_bI false) cnt par ltr ab un sv sf sl acts dp out dc th hw (bif false then 1 else br) ops (rf + 1) tp tc ts wv wf wl) := hD
    exact W.iret (v := nI 0) hx hb hr (fun t ht hW => ⟨⟨nI 0, (), rfl, rfl, by rw [ht]; exact hP9, by rw [hAe]; exact hD9⟩, hS.F ht⟩) hS.2.2 d_X_refuse_23
  · have c_1 : sb = true := sx_bIn c_1
    refine lv_aload_n hx hb d_X_refuse_17 rfl (lv_at hl 1 rfl) ?_
    refine lv_iconst (v := nI 1) hx hb d_X_refuse_18 (by decide +kernel) ?_
    refine va_putN (D := D) (ci := 0) (v := .int (nI 1)) (ty := .boolean) (C := R_A) (T := T_A) (N := 12) hx hb hts iw_A t_A o_A n_A hown hK.1 hP hD hS 9 rfl rfl 6 (by decide) (va_Nw.use rfl (hK.2.1 _ wd_172)) (fun _ h9 => h9) rfl (by decide +kernel) (by decide +kernel) (by decide +kernel) (Nat.le_of_ble_eq_true rfl) d_X_refuse_19 (fun H locs hP hD hS => ?_)
    have hP : va_P D vwCl (wXA cA h g lim ac (sx_bI sb) cnt par ltr ab un sv sf sl acts dp out dc th hw (nI 1) ops (rf + (nI 1)) tp tc ts wv wf wl) H := hP
    have hD : va_D A (wXA cA h g lim ac (sx_bI sb) cnt par ltr ab un sv sf sl acts dp out dc th hw (nI 1) ops (rf + (nI 1)) tp tc ts wv wf wl) := hD
    refine lv_iconst (v := nI 0) hx hb d_X_refuse_22 (by decide +kernel) ?_
    have hb9 : sb = true := c_1
    subst hb9
    have hP9 : va_P D vwCl (wXA cA h g lim ac (sx_bI true) cnt par ltr ab un sv sf sl acts dp out dc th hw (bif true then 1 else br) ops (rf + 1) tp tc ts wv wf wl) H := hP
    have hD9 : va_D A (wXA cA h g lim ac (sx_bI true) cnt par ltr ab un sv sf sl acts dp out dc th hw (bif true then 1 else br) ops (rf + 1) tp tc ts wv wf wl) := hD
    exact W.iret (v := nI 0) hx hb hr (fun t ht hW => ⟨⟨nI 0, (), rfl, rfl, by rw [ht]; exact hP9, by rw [hAe]; exact hD9⟩, hS.F ht⟩) hS.2.2 d_X_refuse_23
