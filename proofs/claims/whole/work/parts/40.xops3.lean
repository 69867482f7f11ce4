set_option maxHeartbeats 4000000 in
set_option maxRecDepth 100000 in
theorem k_path (l : Launch) (D : va_G) (cA : Nat → ClassId) (sz : Nat) (h : Nat → Nat) (lim ac sn : Int32) (n na L : Nat) (α : sx_A) (ab un : Nat → Int64) (sv : Nat → Int32) (sf sl : Int64) (acts : Nat → Option Nat) (hI : sx_INV n na L α) (hR : sx_RP n (α 1) ab un) (hS0 : sx_RW (α 3) sv sf sl) (pp ch : Int32) (hch : vp_nar .char ch = ch) : Met l y_X_path w_X_path ({ frames := 3, cells := 0, slots := 0, locals := 66 }) (sx_Pw D cA [.ref (h 0), .int pp, .int ch] (wX cA h lim ac sn (nI n) (α 1) (α 2) ab un sv sf sl acts) sz) (va_Qi (fun r (u : (Nat → Int64) × (Nat → Int64)) => r = sx_pathA n α pp ch ∧ sx_RP (sx_pathN n α pp ch) (sx_pathS n α pp ch 1) u.1 u.2) (sx_Bw D (wX cA h lim ac sn (nI n) (α 1) (α 2) ab un sv sf sl acts) sz (fun u => wX cA h lim ac sn (nI (sx_pathN n α pp ch)) (sx_pathS n α pp ch 1) (sx_pathS n α pp ch 2) u.1 u.2 sv sf sl acts)) (va_A (wX cA h lim ac sn (nI n) (α 1) (α 2) ab un sv sf sl acts) sz)) 0 0 (va_A (wX cA h lim ac sn (nI n) (α 1) (α 2) ab un sv sf sl acts) sz) := by
  refine Met.ofW (cc := b_X_path) (maxL := 4) (ret := (some .int)) (by decide) rfl ?_
  intro pG eG s m args below meth cG s₁ B hml hv
  obtain ⟨rfl, hsz, hP, hK, hD0⟩ := hv
  have hx := B.exec
  have hb := B.bytes
  have hr := B.returns
  have hts0 := atoms_spec (ws := w_X_path) B.pre
  have hts : ∀ w ∈ sx_gw, w.before _ s = true := fun w h => hts0 w (List.mem_cons_of_mem _ h)
  have hown : s.vm.findClass R_X = some m.cls := findClass_of_methodNamed B.named
  have hlocks := B.notSynchronized
  subst hsz
  have hD := hD0.self (sz := s.heap.size)
  generalize hAe : va_A (wX cA h lim ac sn (nI n) (α 1) (α 2) ab un sv sf sl acts) s.heap.size = A at hD ⊢
  have hA : ∀ q : Nat, s.heap.size ≤ q → A q := fun q h => by rw [← hAe]; exact Or.inr h
  have hS : va_S A s.heap s.heap [] := va_S.rf
  have hl := lv_entry ([.ref (h 0), .int pp, .int ch]) (n := 4) (Nat.le_of_ble_eq_true rfl)
  rw [lg_entry_eq]
  generalize (lg_sl ([.ref (h 0), .int pp, .int ch]) ++ List.replicate (4 - (lg_sl ([.ref (h 0), .int pp, .int ch])).length) Slot.unset).toArray = ls at hl ⊢
  have hl : lv_has ls 4 [(0, .ref (h 0)), (1, .int pp), (2, .int ch)] := hl
  have hn31 := sx_INV_n hI
  have hn60 := hI.1.1.2
  have h1n := hI.1.1.1
  have hDI := hI.2.2.2.1
  refine lv_aload_n hx hb d_X_path_0 rfl (lv_at hl 0 rfl) ?_
  refine va_get (D := D) (ci := 3) (v := .ref (h 1)) (C := R_X) (T := T_X) (N := 6) hx hb hts iw_X hown hK.1 hP 0 rfl rfl 1 (by decide) (hts _ wd_70) (fun _ h9 => h9) rfl d_X_path_1 ?_
  refine lv_iload_n hx hb d_X_path_4 rfl (lv_at hl 1 rfl) ?_
  have hPc : va_P D vwCl (wP cA (h 1) (h 2) (h 3) (h 4) (h 5) (nI n) (α 1) (α 2) ab un) s.heap := hP.sub [1, 2, 3, 4, 5] rfl
  refine vp_callSi (va_runV (As := [.int pp]) (rest := []) ⟨hx, hb, hml, hown, hts⟩ (k_has l D cA (h 1) (h 2) (h 3) (h 4) (h 5) n (α 1) (α 2) ab un pp) (cwV 1 hts (sx_GV wd_92 wd_93 wd_94 wd_3 wd_95) rfl rfl rfl (by decide +kernel) ⟨Nat.le_of_ble_eq_true rfl, Nat.le_of_ble_eq_true rfl⟩) (sx_preV hK hPc (va_recv hK.1 hPc (ci := 1) (q0 := 0) rfl rfl)) rfl rfl hl.1 rfl (lv_room (Nat.le_of_ble_eq_true rfl)) d_X_path_5 ⟨Nat.le_of_ble_eq_true rfl, Nat.le_of_ble_eq_true rfl⟩).run (fun r_2 hr_1 => ?_)
  subst hr_1
  refine lv_if_eq (tgt := 18) hx hb d_X_path_8 (by decide) (fun c_3 => ?_) (fun c_3 => ?_)
  · have c_3 : (sx_has n pp) = false := sx_bI0 c_3
    refine lv_iconst (v := (-1)) hx hb d_X_path_18 (by decide +kernel) ?_
    have z := sx_path_no (n := n) (α := α) (p := pp) (c := ch) (Or.inl c_3)
    have hP9 : va_P D vwCl (wX cA h lim ac sn (nI (sx_pathN n α pp ch)) (sx_pathS n α pp ch 1) (sx_pathS n α pp ch 2) ab un sv sf sl acts) s.heap := by rw [z.2.1, z.2.2]; exact hP
    have hD9 : va_D A (wX cA h lim ac sn (nI (sx_pathN n α pp ch)) (sx_pathS n α pp ch 1) (sx_pathS n α pp ch 2) ab un sv sf sl acts) := by rw [z.2.1, z.2.2]; exact hD
    exact W.iret (v := (-1)) hx hb hr (fun t ht hW => ⟨⟨(-1), (ab, un), rfl, ⟨by rw [z.1], by rw [z.2.1, z.2.2]; exact hR⟩, by rw [ht]; exact hP9, by rw [hAe]; exact hD9⟩, hS.F ht⟩) hS.2.2 d_X_path_19
  · have c_3 : (sx_has n pp) = true := sx_bIn c_3
    refine lv_iload_n hx hb d_X_path_11 rfl (lv_at hl 2 rfl) ?_
    refine vp_callSi (va_runS (As := [.int ch]) (rest := []) ⟨hx, hb, hml, hown, hts⟩ (k_isL l D cA ch) (va_cwS 1 hts (sx_GS wd_96 wd_97 wd_1 wd_98) rfl rfl rfl (by decide +kernel) ⟨Nat.le_of_ble_eq_true rfl, Nat.le_of_ble_eq_true rfl⟩) (sx_preS hK (sx_P0 : va_P D vwCl [] s.heap)) rfl rfl hl.1 rfl (lv_room (Nat.le_of_ble_eq_true rfl)) d_X_path_12 ⟨Nat.le_of_ble_eq_true rfl, Nat.le_of_ble_eq_true rfl⟩).run (fun r_5 hr_4 => ?_)
    subst hr_4
    refine lv_if_ne (tgt := 20) hx hb d_X_path_15 (by decide) (fun c_6 => ?_) (fun c_6 => ?_)
    · have c_6 : (sx_isL ch) = true := sx_bIn c_6
      obtain ⟨j, hj, rfl⟩ := sx_has_t (by omega) c_3
      refine lv_aload_n hx hb d_X_path_20 rfl (lv_at hl 0 rfl) ?_
      refine va_get (D := D) (ci := 3) (v := .ref (h 1)) (C := R_X) (T := T_X) (N := 6) hx hb hts iw_X hown hK.1 hP 0 rfl rfl 1 (by decide) (hts _ wd_70) (fun _ h9 => h9) rfl d_X_path_21 ?_
      refine lv_iload_n hx hb d_X_path_24 rfl (lv_at hl 1 rfl) ?_
      refine lv_iload_n hx hb d_X_path_25 rfl (lv_at hl 2 rfl) ?_
      have hPc : va_P D vwCl (wP cA (h 1) (h 2) (h 3) (h 4) (h 5) (nI n) (α 1) (α 2) ab un) s.heap := hP.sub [1, 2, 3, 4, 5] rfl
      refine vp_callSi (va_runV (As := [.int (nI j), .int ch]) (rest := []) ⟨hx, hb, hml, hown, hts⟩ (k_find l D cA (h 1) (h 2) (h 3) (h 4) (h 5) n α ab un (by omega) (by omega) hDI (nI j) ch) (cwV 2 hts (sx_GV wd_99 wd_100 wd_101 wd_3 wd_102) rfl rfl rfl (by decide +kernel) ⟨Nat.le_of_ble_eq_true rfl, Nat.le_of_ble_eq_true rfl⟩) (sx_preV hK hPc (va_recv hK.1 hPc (ci := 1) (q0 := 0) rfl rfl)) rfl rfl hl.1 rfl (lv_room (Nat.le_of_ble_eq_true rfl)) d_X_path_26 ⟨Nat.le_of_ble_eq_true rfl, Nat.le_of_ble_eq_true rfl⟩).run (fun r_8 hr_7 => ?_)
      subst hr_7
      refine lv_istore_n (lv' := [(3, .int (sx_ch α (nI j) ch n)), (0, .ref (h 0)), (1, .int (nI j)), (2, .int ch)]) hx hb d_X_path_29 rfl hl (by decide) rfl (fun ls hl => ?_)
      refine lv_iload_n hx hb d_X_path_30 rfl (lv_at hl 0 rfl) ?_
      refine lv_iconst (v := (-1)) hx hb d_X_path_31 (by decide +kernel) ?_
      refine lv_icmp_eq (tgt := 39) hx hb d_X_path_32 (by decide) (fun c_9 => ?_) (fun c_9 => ?_)
      · refine lv_aload_n hx hb d_X_path_39 rfl (lv_at hl 1 rfl) ?_
        refine va_get (D := D) (ci := 3) (v := .ref (h 1)) (C := R_X) (T := T_X) (N := 6) hx hb hts iw_X hown hK.1 hP 0 rfl rfl 1 (by decide) (hts _ wd_70) (fun _ h9 => h9) rfl d_X_path_40 ?_
        refine lv_iload_n hx hb d_X_path_43 rfl (lv_at hl 2 rfl) ?_
        refine lv_iload_n hx hb d_X_path_44 rfl (lv_at hl 3 rfl) ?_
        rcases Nat.lt_or_ge n 60 with hn9 | hn9
        · have hPc : va_P D vwCl (wP cA (h 1) (h 2) (h 3) (h 4) (h 5) (nI n) (α 1) (α 2) ab un) s.heap := hP.sub [1, 2, 3, 4, 5] rfl
          have hDc : va_D A (wP cA (h 1) (h 2) (h 3) (h 4) (h 5) (nI n) (α 1) (α 2) ab un) := hD.sub [1, 2, 3, 4, 5] (by decide) rfl
          refine sx_calli (wr := [(h 0, .inr (3, [.int lim, .ref (h 1), .ref (h 6), .ref (h 8), .int ac, .int sn])), (h 6, .inr (2, [.ref (h 7), .long sf, .long sl])), (h 7, .inl (cA 0, 60, .inl sv)), (h 8, .inl (cA 4, 10, .inr (.inr (.inr (.inr acts)))))]) (va_runV (As := [.int (nI j), .int ch]) (rest := []) ⟨hx, hb, hml, hown, hts⟩ (k_add l D cA s.heap.size (h 1) (h 2) (h 3) (h 4) (h 5) n (α 1) (α 2) ab un hn9 h1n j (by omega) ch hch) (cwV 2 hts (sx_GV wd_103 wd_104 wd_105 wd_3 wd_106) rfl rfl rfl (by decide +kernel) ⟨Nat.le_of_ble_eq_true rfl, Nat.le_of_ble_eq_true rfl⟩) (sx_preVw hK hPc hDc (va_recv hK.1 hPc (ci := 1) (q0 := 0) rfl rfl)) rfl rfl hl.1 rfl (lv_room (Nat.le_of_ble_eq_true rfl)) d_X_path_45 ⟨Nat.le_of_ble_eq_true rfl, Nat.le_of_ble_eq_true rfl⟩) hP hD hS hA [1, 2, 3, 4, 5] [0, 6, 7, 8] rfl rfl (by decide) (by decide) (fun r_11 u_12 H locs hr_10 hP hD hS => ?_)
          have hP : va_P D vwCl (wX cA h lim ac sn (nI (n + 1)) (upd (α 1) n (nI j)) (upd (α 2) n ch) (vp_updL ab n (ab j ||| sx_on n)) (sx_unG un (ab j ||| sx_on n) n (n + 1)) sv sf sl acts) H := hP.sub [0, 4, 5, 6, 7, 8, 1, 2, 3] rfl
          have hD : va_D A (wX cA h lim ac sn (nI (n + 1)) (upd (α 1) n (nI j)) (upd (α 2) n ch) (vp_updL ab n (ab j ||| sx_on n)) (sx_unG un (ab j ||| sx_on n) n (n + 1)) sv sf sl acts) := hD.sub [0, 4, 5, 6, 7, 8, 1, 2, 3] (by decide) rfl
          subst hr_10
          have z := sx_path_new (n := n) (α := α) (p := nI j) (c := ch) (sx_has_nI (by omega) hj) c_6 c_9 hn9
          have hP9 : va_P D vwCl (wX cA h lim ac sn (nI (sx_pathN n α (nI j) ch)) (sx_pathS n α (nI j) ch 1) (sx_pathS n α (nI j) ch 2) (vp_updL ab n (ab j ||| sx_on n)) (sx_unG un (ab j ||| sx_on n) n (n + 1)) sv sf sl acts) H := by rw [z.2.1, z.2.2, sx_path_rows.1, sx_path_rows.2]; exact hP
          have hD9 : va_D A (wX cA h lim ac sn (nI (sx_pathN n α (nI j) ch)) (sx_pathS n α (nI j) ch 1) (sx_pathS n α (nI j) ch 2) (vp_updL ab n (ab j ||| sx_on n)) (sx_unG un (ab j ||| sx_on n) n (n + 1)) sv sf sl acts) := by rw [z.2.1, z.2.2, sx_path_rows.1, sx_path_rows.2]; exact hD
          exact W.iret (v := nI n) hx hb hr (fun t ht hW => ⟨⟨nI n, (vp_updL ab n (ab j ||| sx_on n), sx_unG un (ab j ||| sx_on n) n (n + 1)), rfl, ⟨by rw [z.1], by rw [z.2.1, z.2.2]; exact (by rw [sx_path_rows.1]; exact sx_RP_add hR hI.2.1 hn9 h1n hj)⟩, by rw [ht]; exact hP9, by rw [hAe]; exact hD9⟩, hS.F ht⟩) hS.2.2 d_X_path_48
        · have hn9 : n = 60 := by omega
          have hPc : va_P D vwCl (wP cA (h 1) (h 2) (h 3) (h 4) (h 5) (nI n) (α 1) (α 2) ab un) s.heap := hP.sub [1, 2, 3, 4, 5] rfl
          refine vp_callSi (va_runV (As := [.int (nI j), .int ch]) (rest := []) ⟨hx, hb, hml, hown, hts⟩ (k_addF l D cA (h 1) (h 2) (h 3) (h 4) (h 5) n (α 1) (α 2) ab un hn9 j (by omega) ch) (cwV 2 hts (sx_GV wd_103 wd_104 wd_105 wd_3 wd_106) rfl rfl rfl (by decide +kernel) ⟨Nat.le_of_ble_eq_true rfl, Nat.le_of_ble_eq_true rfl⟩) (sx_preV hK hPc (va_recv hK.1 hPc (ci := 1) (q0 := 0) rfl rfl)) rfl rfl hl.1 rfl (lv_room (Nat.le_of_ble_eq_true rfl)) d_X_path_45 ⟨Nat.le_of_ble_eq_true rfl, Nat.le_of_ble_eq_true rfl⟩).run (fun r_14 hr_13 => ?_)
          subst hr_13
          have z := sx_path_full (n := n) (α := α) (p := nI j) (c := ch) (sx_has_nI (by omega) hj) c_6 c_9 hn9
          have hP9 : va_P D vwCl (wX cA h lim ac sn (nI (sx_pathN n α (nI j) ch)) (sx_pathS n α (nI j) ch 1) (sx_pathS n α (nI j) ch 2) ab un sv sf sl acts) s.heap := by rw [z.2.1, z.2.2]; exact hP
          have hD9 : va_D A (wX cA h lim ac sn (nI (sx_pathN n α (nI j) ch)) (sx_pathS n α (nI j) ch 1) (sx_pathS n α (nI j) ch 2) ab un sv sf sl acts) := by rw [z.2.1, z.2.2]; exact hD
          exact W.iret (v := (-1)) hx hb hr (fun t ht hW => ⟨⟨(-1), (ab, un), rfl, ⟨by rw [z.1], by rw [z.2.1, z.2.2]; exact hR⟩, by rw [ht]; exact hP9, by rw [hAe]; exact hD9⟩, hS.F ht⟩) hS.2.2 d_X_path_48
      · refine lv_iload_n hx hb d_X_path_35 rfl (lv_at hl 0 rfl) ?_
        refine lv_goto (tgt := 48) hx hb d_X_path_36 (by decide) ?_
        have z := sx_path_old (n := n) (α := α) (p := nI j) (c := ch) (sx_has_nI (by omega) hj) c_6 c_9
        have hP9 : va_P D vwCl (wX cA h lim ac sn (nI (sx_pathN n α (nI j) ch)) (sx_pathS n α (nI j) ch 1) (sx_pathS n α (nI j) ch 2) ab un sv sf sl acts) s.heap := by rw [z.2.1, z.2.2]; exact hP
        have hD9 : va_D A (wX cA h lim ac sn (nI (sx_pathN n α (nI j) ch)) (sx_pathS n α (nI j) ch 1) (sx_pathS n α (nI j) ch 2) ab un sv sf sl acts) := by rw [z.2.1, z.2.2]; exact hD
        exact W.iret (v := sx_ch α (nI j) ch n) hx hb hr (fun t ht hW => ⟨⟨sx_ch α (nI j) ch n, (ab, un), rfl, ⟨by rw [z.1], by rw [z.2.1, z.2.2]; exact hR⟩, by rw [ht]; exact hP9, by rw [hAe]; exact hD9⟩, hS.F ht⟩) hS.2.2 d_X_path_48
    · have c_6 : (sx_isL ch) = false := sx_bI0 c_6
      refine lv_iconst (v := (-1)) hx hb d_X_path_18 (by decide +kernel) ?_
      have z := sx_path_no (n := n) (α := α) (p := pp) (c := ch) (Or.inr c_6)
      have hP9 : va_P D vwCl (wX cA h lim ac sn (nI (sx_pathN n α pp ch)) (sx_pathS n α pp ch 1) (sx_pathS n α pp ch 2) ab un sv sf sl acts) s.heap := by rw [z.2.1, z.2.2]; exact hP
      have hD9 : va_D A (wX cA h lim ac sn (nI (sx_pathN n α pp ch)) (sx_pathS n α pp ch 1) (sx_pathS n α pp ch 2) ab un sv sf sl acts) := by rw [z.2.1, z.2.2]; exact hD
      exact W.iret (v := (-1)) hx hb hr (fun t ht hW => ⟨⟨(-1), (ab, un), rfl, ⟨by rw [z.1], by rw [z.2.1, z.2.2]; exact hR⟩, by rw [ht]; exact hP9, by rw [hAe]; exact hD9⟩, hS.F ht⟩) hS.2.2 d_X_path_19

set_option maxHeartbeats 4000000 in
set_option maxRecDepth 100000 in
theorem k_file (l : Launch) (D : va_G) (cA : Nat → ClassId) (sz : Nat) (h : Nat → Nat) (lim ac sn : Int32) (n na L : Nat) (α : sx_A) (ab un : Nat → Int64) (sv : Nat → Int32) (sf sl : Int64) (acts : Nat → Option Nat) (hI : sx_INV n na L α) (hR : sx_RP n (α 1) ab un) (hS0 : sx_RW (α 3) sv sf sl) (p ct : Int32) : Met l y_X_file w_X_file ({ frames := 3, cells := 0, slots := 0, locals := 63 }) (sx_Pw D cA [.ref (h 0), .int p, .int ct] (wX cA h lim ac sn (nI n) (α 1) (α 2) ab un sv sf sl acts) sz) (va_Qi (fun r (u : (Nat → Int32) × Int64 × Int64) => r = sx_bI (sx_fileA n α p ct) ∧ sx_RW (sx_fileS n α p ct 3) u.1 u.2.1 u.2.2) (sx_Bw D (wX cA h lim ac sn (nI n) (α 1) (α 2) ab un sv sf sl acts) sz (fun u => wX cA h lim ac sn (nI n) (α 1) (α 2) ab un u.1 u.2.1 u.2.2 acts)) (va_A (wX cA h lim ac sn (nI n) (α 1) (α 2) ab un sv sf sl acts) sz)) 0 0 (va_A (wX cA h lim ac sn (nI n) (α 1) (α 2) ab un sv sf sl acts) sz) := by
  refine Met.ofW (cc := b_X_file) (maxL := 3) (ret := (some .boolean)) (by decide) rfl ?_
  intro pG eG s m args below meth cG s₁ B hml hv
  obtain ⟨rfl, hsz, hP, hK, hD0⟩ := hv
  have hx := B.exec
  have hb := B.bytes
  have hr := B.returns
  have hts0 := atoms_spec (ws := w_X_file) B.pre
  have hts : ∀ w ∈ sx_gw, w.before _ s = true := fun w h => hts0 w (List.mem_cons_of_mem _ h)
  have hown : s.vm.findClass R_X = some m.cls := findClass_of_methodNamed B.named
  have hlocks := B.notSynchronized
  subst hsz
  have hD := hD0.self (sz := s.heap.size)
  generalize hAe : va_A (wX cA h lim ac sn (nI n) (α 1) (α 2) ab un sv sf sl acts) s.heap.size = A at hD ⊢
  have hA : ∀ q : Nat, s.heap.size ≤ q → A q := fun q h => by rw [← hAe]; exact Or.inr h
  have hS : va_S A s.heap s.heap [] := va_S.rf
  have hl := lv_entry ([.ref (h 0), .int p, .int ct]) (n := 3) (Nat.le_of_ble_eq_true rfl)
  rw [lg_entry_eq]
  generalize (lg_sl ([.ref (h 0), .int p, .int ct]) ++ List.replicate (3 - (lg_sl ([.ref (h 0), .int p, .int ct])).length) Slot.unset).toArray = ls at hl ⊢
  have hl : lv_has ls 3 [(0, .ref (h 0)), (1, .int p), (2, .int ct)] := hl
  have hn31 := sx_INV_n hI
  have hn60 := hI.1.1.2
  have h1n := hI.1.1.1
  have hDI := hI.2.2.2.1
  refine lv_aload_n hx hb d_X_file_0 rfl (lv_at hl 0 rfl) ?_
  refine va_get (D := D) (ci := 3) (v := .ref (h 1)) (C := R_X) (T := T_X) (N := 6) hx hb hts iw_X hown hK.1 hP 0 rfl rfl 1 (by decide) (hts _ wd_70) (fun _ h9 => h9) rfl d_X_file_1 ?_
  refine lv_iload_n hx hb d_X_file_4 rfl (lv_at hl 1 rfl) ?_
  have hPc : va_P D vwCl (wP cA (h 1) (h 2) (h 3) (h 4) (h 5) (nI n) (α 1) (α 2) ab un) s.heap := hP.sub [1, 2, 3, 4, 5] rfl
  refine vp_callSi (va_runV (As := [.int p]) (rest := []) ⟨hx, hb, hml, hown, hts⟩ (k_has l D cA (h 1) (h 2) (h 3) (h 4) (h 5) n (α 1) (α 2) ab un p) (cwV 1 hts (sx_GV wd_92 wd_93 wd_94 wd_3 wd_95) rfl rfl rfl (by decide +kernel) ⟨Nat.le_of_ble_eq_true rfl, Nat.le_of_ble_eq_true rfl⟩) (sx_preV hK hPc (va_recv hK.1 hPc (ci := 1) (q0 := 0) rfl rfl)) rfl rfl hl.1 rfl (lv_room (Nat.le_of_ble_eq_true rfl)) d_X_file_5 ⟨Nat.le_of_ble_eq_true rfl, Nat.le_of_ble_eq_true rfl⟩).run (fun r_2 hr_1 => ?_)
  subst hr_1
  refine lv_if_eq (tgt := 19) hx hb d_X_file_8 (by decide) (fun c_3 => ?_) (fun c_3 => ?_)
  · have c_3 : (sx_has n p) = false := sx_bI0 c_3
    refine lv_iconst (v := nI 0) hx hb d_X_file_19 (by decide +kernel) ?_
    have z := sx_file_no (sx_fileA_h (α := α) (c := ct) c_3)
    have hP9 : va_P D vwCl (wX cA h lim ac sn (nI n) (α 1) (α 2) ab un sv sf sl acts) s.heap := hP
    have hD9 : va_D A (wX cA h lim ac sn (nI n) (α 1) (α 2) ab un sv sf sl acts) := hD
    exact W.zret (v := nI 0) (ty := .boolean) hx hb hr (by decide +kernel) (fun t ht hW => ⟨⟨nI 0, (sv, sf, sl), rfl, ⟨by rw [z.1], by rw [z.2]; exact hS0⟩, by rw [ht]; exact hP9, by rw [hAe]; exact hD9⟩, hS.F ht⟩) hS.2.2 d_X_file_20
  · have c_3 : (sx_has n p) = true := sx_bIn c_3
    obtain ⟨j, hj, rfl⟩ := sx_has_t (by omega) c_3
    refine lv_iload_n hx hb d_X_file_11 rfl (lv_at hl 1 rfl) ?_
    refine lv_if_eq (tgt := 19) hx hb d_X_file_12 (by decide) (fun c_4 => ?_) (fun c_4 => ?_)
    · have c_4 : j = 0 := sx_n0 (by omega) c_4
      refine lv_iconst (v := nI 0) hx hb d_X_file_19 (by decide +kernel) ?_
      have z := sx_file_no (sx_fileA_0 (n := n) (α := α) (c := ct) (show nI j = 0 by rw [c_4]; rfl))
      have hP9 : va_P D vwCl (wX cA h lim ac sn (nI n) (α 1) (α 2) ab un sv sf sl acts) s.heap := hP
      have hD9 : va_D A (wX cA h lim ac sn (nI n) (α 1) (α 2) ab un sv sf sl acts) := hD
      exact W.zret (v := nI 0) (ty := .boolean) hx hb hr (by decide +kernel) (fun t ht hW => ⟨⟨nI 0, (sv, sf, sl), rfl, ⟨by rw [z.1], by rw [z.2]; exact hS0⟩, by rw [ht]; exact hP9, by rw [hAe]; exact hD9⟩, hS.F ht⟩) hS.2.2 d_X_file_20
    · have c_4 : 0 < j := sx_nne (by omega) c_4
      refine lv_iload_n hx hb d_X_file_15 rfl (lv_at hl 2 rfl) ?_
      refine lv_if_ge (tgt := 21) hx hb d_X_file_16 (by decide) (fun c_5 => ?_) (fun c_5 => ?_)
      · refine lv_aload_n hx hb d_X_file_21 rfl (lv_at hl 0 rfl) ?_
        refine va_get (D := D) (ci := 3) (v := .ref (h 1)) (C := R_X) (T := T_X) (N := 6) hx hb hts iw_X hown hK.1 hP 0 rfl rfl 1 (by decide) (hts _ wd_70) (fun _ h9 => h9) rfl d_X_file_22 ?_
        refine lv_iload_n hx hb d_X_file_25 rfl (lv_at hl 1 rfl) ?_
        have hPc : va_P D vwCl (wP cA (h 1) (h 2) (h 3) (h 4) (h 5) (nI n) (α 1) (α 2) ab un) s.heap := hP.sub [1, 2, 3, 4, 5] rfl
        refine vp_callSl (va_runV (As := [.int (nI j)]) (rest := []) ⟨hx, hb, hml, hown, hts⟩ (k_way l D cA (h 1) (h 2) (h 3) (h 4) (h 5) n (α 1) (α 2) ab un j (by omega) (by omega)) (cwV 1 hts (sx_GV wd_116 wd_117 wd_118 wd_3 wd_119) rfl rfl rfl (by decide +kernel) ⟨Nat.le_of_ble_eq_true rfl, Nat.le_of_ble_eq_true rfl⟩) (sx_preV hK hPc (va_recv hK.1 hPc (ci := 1) (q0 := 0) rfl rfl)) rfl rfl hl.1 rfl (lv_room (Nat.le_of_ble_eq_true rfl)) d_X_file_26 ⟨Nat.le_of_ble_eq_true rfl, Nat.le_of_ble_eq_true rfl⟩).run (fun r_7 hr_6 => ?_)
        subst hr_6
        refine lv_aload_n hx hb d_X_file_29 rfl (lv_at hl 0 rfl) ?_
        refine va_get (D := D) (ci := 3) (v := .ref (h 6)) (C := R_X) (T := T_X) (N := 6) hx hb hts iw_X hown hK.1 hP 0 rfl rfl 2 (by decide) (hts _ wd_71) (fun _ h9 => h9) rfl d_X_file_30 ?_
        have hPc : va_P D vwCl (wS cA (h 6) (h 7) sv sf sl) s.heap := hP.sub [6, 7] rfl
        refine vp_callSl (va_runV (As := []) (rest := [.long ((ab j ||| un j) &&& (sx_on j ^^^ (-1)))]) ⟨hx, hb, hml, hown, hts⟩ (k_taken l D cA (h 6) (h 7) sv sf sl ) (cwV 0 hts (sx_GV wd_121 wd_122 wd_123 wd_4 wd_124) rfl rfl rfl (by decide +kernel) ⟨Nat.le_of_ble_eq_true rfl, Nat.le_of_ble_eq_true rfl⟩) (sx_preV hK hPc (va_recv hK.1 hPc (ci := 2) (q0 := 0) rfl rfl)) rfl rfl hl.1 rfl (lv_room (Nat.le_of_ble_eq_true rfl)) d_X_file_33 ⟨Nat.le_of_ble_eq_true rfl, Nat.le_of_ble_eq_true rfl⟩).run (fun r_9 hr_8 => ?_)
        subst hr_8
        refine lv_land hx hb d_X_file_36 ?_
        refine lv_lconst (v := 0) hx hb d_X_file_37 (by decide +kernel) ?_
        refine W.lcmp hx hb d_X_file_38 ?_
        refine lv_if_eq (tgt := 44) hx hb d_X_file_39 (by decide) (fun c_10 => ?_) (fun c_10 => ?_)
        · have c_10 : ((ab j ||| un j) &&& (sx_on j ^^^ (-1))) &&& (sf ||| sl) = 0 := sx_cmp0.mp c_10
          refine lv_iload_n hx hb d_X_file_44 rfl (lv_at hl 2 rfl) ?_
          refine lv_if_ne (tgt := 59) hx hb d_X_file_45 (by decide) (fun c_11 => ?_) (fun c_11 => ?_)
          · refine lv_aload_n hx hb d_X_file_59 rfl (lv_at hl 0 rfl) ?_
            refine va_get (D := D) (ci := 3) (v := .ref (h 6)) (C := R_X) (T := T_X) (N := 6) hx hb hts iw_X hown hK.1 hP 0 rfl rfl 2 (by decide) (hts _ wd_71) (fun _ h9 => h9) rfl d_X_file_60 ?_
            refine lv_iload_n hx hb d_X_file_63 rfl (lv_at hl 1 rfl) ?_
            refine lv_iload_n hx hb d_X_file_64 rfl (lv_at hl 2 rfl) ?_
            have hPc : va_P D vwCl (wS cA (h 6) (h 7) sv sf sl) s.heap := hP.sub [6, 7] rfl
            have hDc : va_D A (wS cA (h 6) (h 7) sv sf sl) := hD.sub [6, 7] (by decide) rfl
            refine sx_callv (wr := [(h 0, .inr (3, [.int lim, .ref (h 1), .ref (h 6), .ref (h 8), .int ac, .int sn])), (h 1, .inr (1, [.ref (h 2), .ref (h 3), .ref (h 4), .ref (h 5), .int (nI n)])), (h 2, .inl (cA 0, 60, .inl (α 1))), (h 3, .inl (cA 2, 60, .inl (α 2))), (h 4, .inl (cA 3, 60, .inr (.inl ab))), (h 5, .inl (cA 3, 60, .inr (.inl un))), (h 8, .inl (cA 4, 10, .inr (.inr (.inr (.inr acts)))))]) (va_runV (As := [.int (nI j), .int ct]) (rest := []) ⟨hx, hb, hml, hown, hts⟩ (k_put l D cA s.heap.size (h 6) (h 7) sv sf sl j (by omega) ct) (cwV 2 hts (sx_GV wd_131 wd_132 wd_133 wd_4 wd_134) rfl rfl rfl (by decide +kernel) ⟨Nat.le_of_ble_eq_true rfl, Nat.le_of_ble_eq_true rfl⟩) (sx_preVw hK hPc hDc (va_recv hK.1 hPc (ci := 2) (q0 := 0) rfl rfl)) rfl rfl hl.1 rfl (lv_room (Nat.le_of_ble_eq_true rfl)) d_X_file_65 ⟨Nat.le_of_ble_eq_true rfl, Nat.le_of_ble_eq_true rfl⟩) hP hD hS hA [6, 7] [0, 1, 2, 3, 4, 5, 8] rfl rfl (by decide) (by decide) (fun u_14 H locs hr_12 hP hD hS => ?_)
            have hP : va_P D vwCl (wX cA h lim ac sn (nI n) (α 1) (α 2) ab un (upd sv j ct) ((sf &&& (sx_on j ^^^ (-1))) ||| sx_on j) (sl &&& (sx_on j ^^^ (-1))) acts) H := hP.sub [0, 1, 2, 3, 4, 5, 7, 8, 6] rfl
            have hD : va_D A (wX cA h lim ac sn (nI n) (α 1) (α 2) ab un (upd sv j ct) ((sf &&& (sx_on j ^^^ (-1))) ||| sx_on j) (sl &&& (sx_on j ^^^ (-1))) acts) := hD.sub [0, 1, 2, 3, 4, 5, 7, 8, 6] (by decide) rfl
            refine lv_iconst (v := nI 1) hx hb d_X_file_68 (by decide +kernel) ?_
            have z := sx_file_y (by omega) (sx_fileA_t hn31 hj c_4 c_5 ((sx_inS_iff hR hn60 hj hI.2.2.2.2.1 hS0).mp c_10))
            have hP9 : va_P D vwCl (wX cA h lim ac sn (nI n) (α 1) (α 2) ab un (upd sv j ct) ((sf &&& (sx_on j ^^^ (-1))) ||| sx_on j) (sl &&& (sx_on j ^^^ (-1))) acts) H := hP
            have hD9 : va_D A (wX cA h lim ac sn (nI n) (α 1) (α 2) ab un (upd sv j ct) ((sf &&& (sx_on j ^^^ (-1))) ||| sx_on j) (sl &&& (sx_on j ^^^ (-1))) acts) := hD
            exact W.zret (v := nI 1) (ty := .boolean) hx hb hr (by decide +kernel) (fun t ht hW => ⟨⟨nI 1, (upd sv j ct, (sf &&& (sx_on j ^^^ (-1))) ||| sx_on j, sl &&& (sx_on j ^^^ (-1))), rfl, ⟨by rw [z.1], by rw [z.2]; exact (by rw [sx_file3]; exact sx_RW_put hS0 (by omega) (sx_ge_pos c_5 c_11))⟩, by rw [ht]; exact hP9, by rw [hAe]; exact hD9⟩, hS.F ht⟩) hS.2.2 d_X_file_69
          · refine lv_aload_n hx hb d_X_file_48 rfl (lv_at hl 0 rfl) ?_
            refine va_get (D := D) (ci := 3) (v := .ref (h 6)) (C := R_X) (T := T_X) (N := 6) hx hb hts iw_X hown hK.1 hP 0 rfl rfl 2 (by decide) (hts _ wd_71) (fun _ h9 => h9) rfl d_X_file_49 ?_
            refine lv_iload_n hx hb d_X_file_52 rfl (lv_at hl 1 rfl) ?_
            have hPc : va_P D vwCl (wS cA (h 6) (h 7) sv sf sl) s.heap := hP.sub [6, 7] rfl
            have hDc : va_D A (wS cA (h 6) (h 7) sv sf sl) := hD.sub [6, 7] (by decide) rfl
            refine sx_callv (wr := [(h 0, .inr (3, [.int lim, .ref (h 1), .ref (h 6), .ref (h 8), .int ac, .int sn])), (h 1, .inr (1, [.ref (h 2), .ref (h 3), .ref (h 4), .ref (h 5), .int (nI n)])), (h 2, .inl (cA 0, 60, .inl (α 1))), (h 3, .inl (cA 2, 60, .inl (α 2))), (h 4, .inl (cA 3, 60, .inr (.inl ab))), (h 5, .inl (cA 3, 60, .inr (.inl un))), (h 8, .inl (cA 4, 10, .inr (.inr (.inr (.inr acts)))))]) (va_runV (As := [.int (nI j)]) (rest := []) ⟨hx, hb, hml, hown, hts⟩ (k_away l D cA s.heap.size (h 6) (h 7) sv sf sl j) (cwV 1 hts (sx_GV wd_125 wd_126 wd_127 wd_4 wd_128) rfl rfl rfl (by decide +kernel) ⟨Nat.le_of_ble_eq_true rfl, Nat.le_of_ble_eq_true rfl⟩) (sx_preVw hK hPc hDc (va_recv hK.1 hPc (ci := 2) (q0 := 0) rfl rfl)) rfl rfl hl.1 rfl (lv_room (Nat.le_of_ble_eq_true rfl)) d_X_file_53 ⟨Nat.le_of_ble_eq_true rfl, Nat.le_of_ble_eq_true rfl⟩) hP hD hS hA [6, 7] [0, 1, 2, 3, 4, 5, 8] rfl rfl (by decide) (by decide) (fun u_17 H locs hr_15 hP hD hS => ?_)
            have hP : va_P D vwCl (wX cA h lim ac sn (nI n) (α 1) (α 2) ab un sv (sf &&& (sx_on j ^^^ (-1))) (sl &&& (sx_on j ^^^ (-1))) acts) H := hP.sub [0, 1, 2, 3, 4, 5, 7, 8, 6] rfl
            have hD : va_D A (wX cA h lim ac sn (nI n) (α 1) (α 2) ab un sv (sf &&& (sx_on j ^^^ (-1))) (sl &&& (sx_on j ^^^ (-1))) acts) := hD.sub [0, 1, 2, 3, 4, 5, 7, 8, 6] (by decide) rfl
            refine lv_goto (tgt := 68) hx hb d_X_file_56 (by decide) ?_
            refine lv_iconst (v := nI 1) hx hb d_X_file_68 (by decide +kernel) ?_
            have z := sx_file_y (by omega) (sx_fileA_t hn31 hj c_4 c_5 ((sx_inS_iff hR hn60 hj hI.2.2.2.2.1 hS0).mp c_10))
            have hP9 : va_P D vwCl (wX cA h lim ac sn (nI n) (α 1) (α 2) ab un sv (sf &&& (sx_on j ^^^ (-1))) (sl &&& (sx_on j ^^^ (-1))) acts) H := hP
            have hD9 : va_D A (wX cA h lim ac sn (nI n) (α 1) (α 2) ab un sv (sf &&& (sx_on j ^^^ (-1))) (sl &&& (sx_on j ^^^ (-1))) acts) := hD
            exact W.zret (v := nI 1) (ty := .boolean) hx hb hr (by decide +kernel) (fun t ht hW => ⟨⟨nI 1, (sv, sf &&& (sx_on j ^^^ (-1)), sl &&& (sx_on j ^^^ (-1))), rfl, ⟨by rw [z.1], by rw [z.2]; exact (by rw [sx_file3, c_11]; exact sx_RW_away hS0 (by omega))⟩, by rw [ht]; exact hP9, by rw [hAe]; exact hD9⟩, hS.F ht⟩) hS.2.2 d_X_file_69
        · have c_10 : ¬ (((ab j ||| un j) &&& (sx_on j ^^^ (-1))) &&& (sf ||| sl)) = 0 := fun z => c_10 (sx_cmp0.mpr z)
          refine lv_iconst (v := nI 0) hx hb d_X_file_42 (by decide +kernel) ?_
          have z := sx_file_no (sx_fileA_w (c := ct) (by omega) (sx_nf (fun z => c_10 ((sx_inS_iff hR hn60 hj hI.2.2.2.2.1 hS0).mpr z))))
          have hP9 : va_P D vwCl (wX cA h lim ac sn (nI n) (α 1) (α 2) ab un sv sf sl acts) s.heap := hP
          have hD9 : va_D A (wX cA h lim ac sn (nI n) (α 1) (α 2) ab un sv sf sl acts) := hD
          exact W.zret (v := nI 0) (ty := .boolean) hx hb hr (by decide +kernel) (fun t ht hW => ⟨⟨nI 0, (sv, sf, sl), rfl, ⟨by rw [z.1], by rw [z.2]; exact hS0⟩, by rw [ht]; exact hP9, by rw [hAe]; exact hD9⟩, hS.F ht⟩) hS.2.2 d_X_file_43
      · refine lv_iconst (v := nI 0) hx hb d_X_file_19 (by decide +kernel) ?_
        have z := sx_file_no (sx_fileA_c (n := n) (α := α) (p := nI j) c_5)
        have hP9 : va_P D vwCl (wX cA h lim ac sn (nI n) (α 1) (α 2) ab un sv sf sl acts) s.heap := hP
        have hD9 : va_D A (wX cA h lim ac sn (nI n) (α 1) (α 2) ab un sv sf sl acts) := hD
        exact W.zret (v := nI 0) (ty := .boolean) hx hb hr (by decide +kernel) (fun t ht hW => ⟨⟨nI 0, (sv, sf, sl), rfl, ⟨by rw [z.1], by rw [z.2]; exact hS0⟩, by rw [ht]; exact hP9, by rw [hAe]; exact hD9⟩, hS.F ht⟩) hS.2.2 d_X_file_20

set_option maxHeartbeats 4000000 in
set_option maxRecDepth 100000 in
theorem k_source (l : Launch) (D : va_G) (cA : Nat → ClassId) (h : Nat → Nat) (lim ac sn : Int32) (n na L : Nat) (α : sx_A) (ab un : Nat → Int64) (sv : Nat → Int32) (sf sl : Int64) (acts : Nat → Option Nat) (hI : sx_INV n na L α) (hR : sx_RP n (α 1) ab un) (hS0 : sx_RW (α 3) sv sf sl) (p : Int32) : Met l y_X_source w_X_source ({ frames := 3, cells := 0, slots := 0, locals := 65 }) (sx_Pr D cA [.ref (h 0), .int p] (wX cA h lim ac sn (nI n) (α 1) (α 2) ab un sv sf sl acts)) (vp_Si (fun r => r = sx_srcA n α p)) 0 0 (fun _ => False) := by
  refine Met.ofW (cc := b_X_source) (maxL := 2) (ret := (some .int)) (by decide) rfl ?_
  intro pG eG s m args below meth cG s₁ B hml hv
  obtain ⟨rfl, hP, hK⟩ := hv
  have hx := B.exec
  have hb := B.bytes
  have hr := B.returns
  have hts0 := atoms_spec (ws := w_X_source) B.pre
  have hts : ∀ w ∈ sx_gw, w.before _ s = true := fun w h => hts0 w (List.mem_cons_of_mem _ h)
  have hown : s.vm.findClass R_X = some m.cls := findClass_of_methodNamed B.named
  have hlocks := B.notSynchronized
  have hl := lv_entry ([.ref (h 0), .int p]) (n := 2) (Nat.le_of_ble_eq_true rfl)
  rw [lg_entry_eq]
  generalize (lg_sl ([.ref (h 0), .int p]) ++ List.replicate (2 - (lg_sl ([.ref (h 0), .int p])).length) Slot.unset).toArray = ls at hl ⊢
  have hl : lv_has ls 2 [(0, .ref (h 0)), (1, .int p)] := hl
  have hn31 := sx_INV_n hI
  have hn60 := hI.1.1.2
  have h1n := hI.1.1.1
  have hDI := hI.2.2.2.1
  refine lv_aload_n hx hb d_X_source_0 rfl (lv_at hl 0 rfl) ?_
  refine va_get (D := D) (ci := 3) (v := .ref (h 1)) (C := R_X) (T := T_X) (N := 6) hx hb hts iw_X hown hK.1 hP 0 rfl rfl 1 (by decide) (hts _ wd_70) (fun _ h9 => h9) rfl d_X_source_1 ?_
  refine lv_iload_n hx hb d_X_source_4 rfl (lv_at hl 1 rfl) ?_
  have hPc : va_P D vwCl (wP cA (h 1) (h 2) (h 3) (h 4) (h 5) (nI n) (α 1) (α 2) ab un) s.heap := hP.sub [1, 2, 3, 4, 5] rfl
  refine vp_callSi (va_runV (As := [.int p]) (rest := []) ⟨hx, hb, hml, hown, hts⟩ (k_has l D cA (h 1) (h 2) (h 3) (h 4) (h 5) n (α 1) (α 2) ab un p) (cwV 1 hts (sx_GV wd_92 wd_93 wd_94 wd_3 wd_95) rfl rfl rfl (by decide +kernel) ⟨Nat.le_of_ble_eq_true rfl, Nat.le_of_ble_eq_true rfl⟩) (sx_preV hK hPc (va_recv hK.1 hPc (ci := 1) (q0 := 0) rfl rfl)) rfl rfl hl.1 rfl (lv_room (Nat.le_of_ble_eq_true rfl)) d_X_source_5 ⟨Nat.le_of_ble_eq_true rfl, Nat.le_of_ble_eq_true rfl⟩).run (fun r_2 hr_1 => ?_)
  subst hr_1
  refine lv_if_eq (tgt := 22) hx hb d_X_source_8 (by decide) (fun c_3 => ?_) (fun c_3 => ?_)
  · have c_3 : (sx_has n p) = false := sx_bI0 c_3
    refine lv_iconst (v := nI 0) hx hb d_X_source_22 (by decide +kernel) ?_
    exact W.iret (v := nI 0) hx hb hr (fun t ht hW => ⟨nI 0, rfl, (by unfold sx_srcA; rw [c_3]; rfl), ht⟩) (fun _ h => by cases h) d_X_source_23
  · have c_3 : (sx_has n p) = true := sx_bIn c_3
    obtain ⟨j, hj, rfl⟩ := sx_has_t (by omega) c_3
    refine lv_aload_n hx hb d_X_source_11 rfl (lv_at hl 0 rfl) ?_
    refine va_get (D := D) (ci := 3) (v := .ref (h 6)) (C := R_X) (T := T_X) (N := 6) hx hb hts iw_X hown hK.1 hP 0 rfl rfl 2 (by decide) (hts _ wd_71) (fun _ h9 => h9) rfl d_X_source_12 ?_
    refine lv_iload_n hx hb d_X_source_15 rfl (lv_at hl 1 rfl) ?_
    have hPc : va_P D vwCl (wS cA (h 6) (h 7) sv sf sl) s.heap := hP.sub [6, 7] rfl
    refine vp_callSi (va_runV (As := [.int (nI j)]) (rest := []) ⟨hx, hb, hml, hown, hts⟩ (k_leads l D cA (h 6) (h 7) sv sf sl (nI j)) (cwV 1 hts (sx_GV wd_143 wd_144 wd_145 wd_4 wd_146) rfl rfl rfl (by decide +kernel) ⟨Nat.le_of_ble_eq_true rfl, Nat.le_of_ble_eq_true rfl⟩) (sx_preV hK hPc (va_recv hK.1 hPc (ci := 2) (q0 := 0) rfl rfl)) rfl rfl hl.1 rfl (lv_room (Nat.le_of_ble_eq_true rfl)) d_X_source_16 ⟨Nat.le_of_ble_eq_true rfl, Nat.le_of_ble_eq_true rfl⟩).run (fun r_5 hr_4 => ?_)
    subst hr_4
    refine lv_goto (tgt := 23) hx hb d_X_source_19 (by decide) ?_
    exact W.iret (v := sx_lR sv sf sl 5 (nI j)) hx hb hr (fun t ht hW => ⟨sx_lR sv sf sl 5 (nI j), rfl, (by unfold sx_srcA; rw [sx_has_nI hn31 hj, nI_clamp (by omega)]; exact sx_lR_src hS0 (by omega) hI.2.2.2.2.1.1), ht⟩) (fun _ h => by cases h) d_X_source_23

set_option maxHeartbeats 4000000 in
set_option maxRecDepth 100000 in
theorem k_strict (l : Launch) (D : va_G) (cA : Nat → ClassId) (sz : Nat) (h : Nat → Nat) (lim ac sn cnt : Int32) (par ltr : Nat → Int32) (ab un : Nat → Int64) (sv : Nat → Int32) (sf sl : Int64) (acts : Nat → Option Nat) (ob : Bool) : Met l y_X_strict w_X_strict ({ frames := 0, cells := 0, slots := 0, locals := 0 }) (sx_Pw D cA [.ref (h 0), .int (sx_bI ob)] (wX cA h lim ac sn cnt par ltr ab un sv sf sl acts) sz) (va_Qv (fun (_ : Unit) => True) (sx_Bw D (wX cA h lim ac sn cnt par ltr ab un sv sf sl acts) sz (fun _ => wX cA h lim ac (sx_bI ob) cnt par ltr ab un sv sf sl acts)) (va_A (wX cA h lim ac sn cnt par ltr ab un sv sf sl acts) sz)) 0 0 (va_A (wX cA h lim ac sn cnt par ltr ab un sv sf sl acts) sz) := by
  refine Met.ofW (cc := b_X_strict) (maxL := 2) (ret := none) (by decide) rfl ?_
  intro pG eG s m args below meth cG s₁ B hml hv
  obtain ⟨rfl, hsz, hP, hK, hD0⟩ := hv
  have hx := B.exec
  have hb := B.bytes
  have hr := B.returns
  have hts0 := atoms_spec (ws := w_X_strict) B.pre
  have hts : ∀ w ∈ sx_gw, w.before _ s = true := fun w h => hts0 w (List.mem_cons_of_mem _ h)
  have hown : s.vm.findClass R_X = some m.cls := findClass_of_methodNamed B.named
  have hlocks := B.notSynchronized
  subst hsz
  have hD := hD0.self (sz := s.heap.size)
  generalize hAe : va_A (wX cA h lim ac sn cnt par ltr ab un sv sf sl acts) s.heap.size = A at hD ⊢
  have hA : ∀ q : Nat, s.heap.size ≤ q → A q := fun q h => by rw [← hAe]; exact Or.inr h
  have hS : va_S A s.heap s.heap [] := va_S.rf
  have hl := lv_entry ([.ref (h 0), .int (sx_bI ob)]) (n := 2) (Nat.le_of_ble_eq_true rfl)
  rw [lg_entry_eq]
  generalize (lg_sl ([.ref (h 0), .int (sx_bI ob)]) ++ List.replicate (2 - (lg_sl ([.ref (h 0), .int (sx_bI ob)])).length) Slot.unset).toArray = ls at hl ⊢
  have hl : lv_has ls 2 [(0, .ref (h 0)), (1, .int (sx_bI ob))] := hl
  refine lv_aload_n hx hb d_X_strict_0 rfl (lv_at hl 0 rfl) ?_
  refine lv_iload_n hx hb d_X_strict_1 rfl (lv_at hl 1 rfl) ?_
  refine va_put (D := D) (ci := 3) (v := .int (sx_bI ob)) (ty := .boolean) (C := R_X) (T := T_X) (N := 6) hx hb hts iw_X t_X o_X n_X hown hK.1 hP hD hS 0 rfl rfl 5 (by decide) (hts _ wd_74) (fun _ h9 => h9) rfl (by decide +kernel) (sx_bI_nar _) (sx_bI_fit _) (Nat.le_of_ble_eq_true rfl) d_X_strict_2 (fun H locs hP hD hS => ?_)
  have hP : va_P D vwCl (wX cA h lim ac (sx_bI ob) cnt par ltr ab un sv sf sl acts) H := hP
  have hD : va_D A (wX cA h lim ac (sx_bI ob) cnt par ltr ab un sv sf sl acts) := hD
  have hP9 : va_P D vwCl (wX cA h lim ac (sx_bI ob) cnt par ltr ab un sv sf sl acts) H := hP
  have hD9 : va_D A (wX cA h lim ac (sx_bI ob) cnt par ltr ab un sv sf sl acts) := hD
  exact W.vret hx hb hr (fun t ht hW => ⟨⟨(), rfl, trivial, by rw [ht]; exact hP9, by rw [hAe]; exact hD9⟩, hS.F ht⟩) hS.2.2 d_X_strict_5
