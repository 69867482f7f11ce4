set_option maxHeartbeats 4000000 in
set_option maxRecDepth 100000 in
theorem law_link {p : Program} {l : Launch} {e : Env} {s : State} {m : MethodId} {below : List Frame} {meth : Method} {c : Code} {b N : Nat} {xs : Nat → Int32} {D : va_G} {cA : Nat → ClassId} {h hm : Nat → Nat} {L : Nat} {ls : Array Slot} {Q : State → Prop} (C0 : lw_At p s m meth c b N xs) (hN : N ≤ 2049) (hK : sx_K D cA s) (i : Nat) (hi : i + 4 ≤ N) (hl : lv_has ls 4 [(3, .int (nI i)), (2, .ref (hm 0)), (1, .ref (h 0)), (0, .ref b)]) (kk : sx_KO p l e s m below meth c D cA b h hm L ls Q) {n na : Nat} {sb : Bool} {α : sx_A} {ab un : Nat → Int64} {sv : Nat → Int32} {sf sl : Int64} {acts : Nat → Option Nat} {cd : Int32} {cm mk : Nat → Int32} {g : Nat → Nat → Nat} {K : Nat → sx_KA} {H : Heap} {locs : List Loc} {cells slots : Nat} (hJ : sx_LJ L n na α ab un sv sf sl acts g K) (hPD : sx_PD D (fun q : Nat => s.heap.size ≤ q) (sx_LW cA h hm L n na sb α ab un sv sf sl acts cd cm mk g K) H) (hS : va_S (fun q : Nat => s.heap.size ≤ q) s.heap H locs) (hc : cells ≤ 26 + 6 * na) (hsl : slots ≤ 2155 + 159 * na) : W p l e room_1 s m #[Value.ref b] below meth c H locs cells slots Q (F0 m 415 ls []) := by
  obtain ⟨hx, hb, hr, hml, hown, hts0, hX, hbl, hlocks, hgv⟩ := C0
  have hts : ∀ w ∈ sx_gw, w.before #[Value.ref b] s = true := fun w hw => hts0 w (sx_gw_tbl hw)
  have hA : ∀ q : Nat, s.heap.size ≤ q → (fun q : Nat => s.heap.size ≤ q) q := fun _ h => h
  have hbA : ¬ (fun q : Nat => s.heap.size ≤ q) b := Nat.not_le.mpr hbl
  obtain ⟨hI, hRP, hRW, hRA⟩ := id hJ
  have hna10 := hI.1.2.1
  have hPD : sx_PD D (fun q : Nat => s.heap.size ≤ q) (wX cA h (nI L) (nI na) (sx_bI sb) (nI n) (α 1) (α 2) ab un sv sf sl acts ++ (wMa cA hm L cd n na sb α cm mk ++ sx_pool cA g K na)) H := hPD
  rcases sx_range hna10 (xs (i + 1)) with hx0 | ⟨k, hk, ek⟩
  · refine lv_aload_n hx hb d_L_law_415 rfl (lv_at hl 2 rfl) ?_
    refine lv_aload_n hx hb d_L_law_416 rfl (lv_at hl 3 rfl) ?_
    refine lv_iload_n hx hb d_L_law_417 rfl (lv_at hl 0 rfl) ?_
    refine lv_iconst (v := nI 1) hx hb d_L_law_418 (by decide +kernel) ?_
    refine lv_iadd hx hb d_L_law_419 ?_
    refine sx_asi (y := nI (i + 1)) (nI_add i 1) ?_
    refine va_sld hx hb hX hbl hbA hS (vp_in_nI (show i + 1 < N by omega) (by omega)) d_L_law_420 ?_
    refine sx_asi (congrArg xs (nI_clamp (show i + 1 < 2 ^ 31 by omega))) ?_
    refine lv_aload_n hx hb d_L_law_421 rfl (lv_at hl 3 rfl) ?_
    refine lv_iload_n hx hb d_L_law_422 rfl (lv_at hl 0 rfl) ?_
    refine lv_iconst (v := nI 2) hx hb d_L_law_423 (by decide +kernel) ?_
    refine lv_iadd hx hb d_L_law_424 ?_
    refine sx_asi (y := nI (i + 2)) (nI_add i 2) ?_
    refine va_sld hx hb hX hbl hbA hS (vp_in_nI (show i + 2 < N by omega) (by omega)) d_L_law_425 ?_
    refine sx_asi (congrArg xs (nI_clamp (show i + 2 < 2 ^ 31 by omega))) ?_
    refine lv_aload_n hx hb d_L_law_426 rfl (lv_at hl 3 rfl) ?_
    refine lv_iload_n hx hb d_L_law_427 rfl (lv_at hl 0 rfl) ?_
    refine lv_iconst (v := nI 3) hx hb d_L_law_428 (by decide +kernel) ?_
    refine lv_iadd hx hb d_L_law_429 ?_
    refine sx_asi (y := nI (i + 3)) (nI_add i 3) ?_
    refine va_sld hx hb hX hbl hbA hS (vp_in_nI (show i + 3 < N by omega) (by omega)) d_L_law_430 ?_
    refine sx_asi (congrArg xs (nI_clamp (show i + 3 < 2 ^ 31 by omega))) ?_
    have hPDc : sx_PD D (fun q : Nat => s.heap.size ≤ q) ((wX cA h (nI L) (nI na) (sx_bI sb) (nI n) (α 1) (α 2) ab un sv sf sl acts) ++ (wMa cA hm L cd n na sb α cm mk ++ sx_pool cA g K na)) H := hPD
    refine vp_callSi (va_runV (As := [.int (xs (i + 1)), .int (xs (i + 2)), .int (xs (i + 3))]) (rest := []) ⟨hx, hb, hml, hown, hts⟩ (k_linkO l D cA h (nI L) na (sx_bI sb) (nI n) (α 1) (α 2) ab un sv sf sl acts (xs (i + 1)) hx0 (xs (i + 2)) (xs (i + 3))) (cwV 3 hts (sx_GV wd_301 wd_302 wd_303 wd_1 wd_304) rfl rfl rfl (by decide +kernel) ⟨Nat.le_of_ble_eq_true rfl, Nat.le_of_ble_eq_true rfl⟩) (sx_preV hK hPDc.left.1 (va_recv hK.1 hPDc.left.1 (ci := 3) (q0 := 0) rfl rfl)) rfl rfl hl.1 rfl (lv_room (Nat.le_of_ble_eq_true rfl)) d_L_law_431 ⟨(show cells + 0 ≤ 600000 by omega), (show slots + 0 ≤ 7302250 by omega)⟩).run (fun r_1 hr_2 => ?_)
    subst hr_2
    refine lv_aload_n hx hb d_L_law_434 rfl (lv_at hl 1 rfl) ?_
    refine lv_aload_n hx hb d_L_law_435 rfl (lv_at hl 3 rfl) ?_
    refine lv_iload_n hx hb d_L_law_436 rfl (lv_at hl 0 rfl) ?_
    refine lv_iconst (v := nI 1) hx hb d_L_law_437 (by decide +kernel) ?_
    refine lv_iadd hx hb d_L_law_438 ?_
    refine sx_asi (y := nI (i + 1)) (nI_add i 1) ?_
    refine va_sld hx hb hX hbl hbA hS (vp_in_nI (show i + 1 < N by omega) (by omega)) d_L_law_439 ?_
    refine sx_asi (congrArg xs (nI_clamp (show i + 1 < 2 ^ 31 by omega))) ?_
    refine lv_aload_n hx hb d_L_law_440 rfl (lv_at hl 3 rfl) ?_
    refine lv_iload_n hx hb d_L_law_441 rfl (lv_at hl 0 rfl) ?_
    refine lv_iconst (v := nI 2) hx hb d_L_law_442 (by decide +kernel) ?_
    refine lv_iadd hx hb d_L_law_443 ?_
    refine sx_asi (y := nI (i + 2)) (nI_add i 2) ?_
    refine va_sld hx hb hX hbl hbA hS (vp_in_nI (show i + 2 < N by omega) (by omega)) d_L_law_444 ?_
    refine sx_asi (congrArg xs (nI_clamp (show i + 2 < 2 ^ 31 by omega))) ?_
    refine lv_aload_n hx hb d_L_law_445 rfl (lv_at hl 3 rfl) ?_
    refine lv_iload_n hx hb d_L_law_446 rfl (lv_at hl 0 rfl) ?_
    refine lv_iconst (v := nI 3) hx hb d_L_law_447 (by decide +kernel) ?_
    refine lv_iadd hx hb d_L_law_448 ?_
    refine sx_asi (y := nI (i + 3)) (nI_add i 3) ?_
    refine va_sld hx hb hX hbl hbA hS (vp_in_nI (show i + 3 < N by omega) (by omega)) d_L_law_449 ?_
    refine sx_asi (congrArg xs (nI_clamp (show i + 3 < 2 ^ 31 by omega))) ?_
    have hPDc : sx_PD D (fun q : Nat => s.heap.size ≤ q) ((wMa cA hm L cd n na sb α cm mk) ++ (wX cA h (nI L) (nI na) (sx_bI sb) (nI n) (α 1) (α 2) ab un sv sf sl acts ++ sx_pool cA g K na)) H := hPD.perm sx_swap3
    refine sx_callL (wc := (wMa cA hm L cd n na sb α cm mk)) (wr := wX cA h (nI L) (nI na) (sx_bI sb) (nI n) (α 1) (α 2) ab un sv sf sl acts ++ sx_pool cA g K na) (va_runV (As := [.int (xs (i + 1)), .int (xs (i + 2)), .int (xs (i + 3))]) (rest := [.int (-1)]) ⟨hx, hb, hml, hown, hts⟩ (m_linkO l D cA H.size hm L cd n na sb α cm mk (xs (i + 1)) hx0 (xs (i + 2)) (xs (i + 3))) (cwV 3 hts (sx_GV wd_514 wd_515 wd_516 wd_5 wd_517) rfl rfl rfl (by decide +kernel) ⟨Nat.le_of_ble_eq_true rfl, Nat.le_of_ble_eq_true rfl⟩) (sx_preVw hK hPDc.left.1 hPDc.left.2 (va_recv hK.1 hPDc.left.1 (ci := 4) (q0 := 0) rfl rfl)) rfl rfl hl.1 rfl (lv_room (Nat.le_of_ble_eq_true rfl)) d_L_law_450 ⟨(show cells + 0 ≤ 600000 by omega), (show slots + 0 ≤ 7302250 by omega)⟩) hPDc hS hA (fun r_4 u_6 H locs hr_5 hPD hS => ?_)
    refine W.widen (k := cells) (n := slots) (Nat.le_refl _) (Nat.le_refl _) ?_
    subst hr_5
    have hPD := hPD.perm sx_swap3
    refine lv_icmp_eq (tgt := 649) hx hb d_L_law_453 (by decide) (fun c_7 => ?_) (fun c_7 => ?_)
    · exact kk n na sb α ab un sv sf sl acts (nI 0) cm mk g K _ _ _ _ (hJ) (sx_LW_of rfl rfl hPD) hS (by omega) (by omega)
    · exact absurd rfl c_7
  · refine lv_aload_n hx hb d_L_law_415 rfl (lv_at hl 2 rfl) ?_
    refine lv_aload_n hx hb d_L_law_416 rfl (lv_at hl 3 rfl) ?_
    refine lv_iload_n hx hb d_L_law_417 rfl (lv_at hl 0 rfl) ?_
    refine lv_iconst (v := nI 1) hx hb d_L_law_418 (by decide +kernel) ?_
    refine lv_iadd hx hb d_L_law_419 ?_
    refine sx_asi (y := nI (i + 1)) (nI_add i 1) ?_
    refine va_sld hx hb hX hbl hbA hS (vp_in_nI (show i + 1 < N by omega) (by omega)) d_L_law_420 ?_
    refine sx_asi (congrArg xs (nI_clamp (show i + 1 < 2 ^ 31 by omega))) ?_
    refine sx_asi ek ?_
    refine lv_aload_n hx hb d_L_law_421 rfl (lv_at hl 3 rfl) ?_
    refine lv_iload_n hx hb d_L_law_422 rfl (lv_at hl 0 rfl) ?_
    refine lv_iconst (v := nI 2) hx hb d_L_law_423 (by decide +kernel) ?_
    refine lv_iadd hx hb d_L_law_424 ?_
    refine sx_asi (y := nI (i + 2)) (nI_add i 2) ?_
    refine va_sld hx hb hX hbl hbA hS (vp_in_nI (show i + 2 < N by omega) (by omega)) d_L_law_425 ?_
    refine sx_asi (congrArg xs (nI_clamp (show i + 2 < 2 ^ 31 by omega))) ?_
    refine lv_aload_n hx hb d_L_law_426 rfl (lv_at hl 3 rfl) ?_
    refine lv_iload_n hx hb d_L_law_427 rfl (lv_at hl 0 rfl) ?_
    refine lv_iconst (v := nI 3) hx hb d_L_law_428 (by decide +kernel) ?_
    refine lv_iadd hx hb d_L_law_429 ?_
    refine sx_asi (y := nI (i + 3)) (nI_add i 3) ?_
    refine va_sld hx hb hX hbl hbA hS (vp_in_nI (show i + 3 < N by omega) (by omega)) d_L_law_430 ?_
    refine sx_asi (congrArg xs (nI_clamp (show i + 3 < 2 ^ 31 by omega))) ?_
    have hPDc : sx_PD D (fun q : Nat => s.heap.size ≤ q) ((wXAk cA h (g k) (nI L) (nI na) (sx_bI sb) (nI n) (α 1) (α 2) ab un sv sf sl acts (K k)) ++ (wMa cA hm L cd n na sb α cm mk ++ sx_rest cA g K k na)) H := by rw [sx_XAk_eq]; exact hPD.perm (sx_take hk)
    refine sx_callL (wc := (wXAk cA h (g k) (nI L) (nI na) (sx_bI sb) (nI n) (α 1) (α 2) ab un sv sf sl acts (K k))) (wr := wMa cA hm L cd n na sb α cm mk ++ sx_rest cA g K k na) (va_runV (As := [.int (nI k), .int (xs (i + 2)), .int (xs (i + 3))]) (rest := []) ⟨hx, hb, hml, hown, hts⟩ (k_link l D cA H.size h (g k) n na L sb α ab un sv sf sl acts k (K k) hI hk hRP hRW (hRA k hk).1 (hRA k hk).2 (xs (i + 2)) (xs (i + 3))) (cwV 3 hts (sx_GV wd_301 wd_302 wd_303 wd_1 wd_304) rfl rfl rfl (by decide +kernel) ⟨Nat.le_of_ble_eq_true rfl, Nat.le_of_ble_eq_true rfl⟩) (sx_preVw hK hPDc.left.1 hPDc.left.2 (va_recv hK.1 hPDc.left.1 (ci := 3) (q0 := 0) rfl rfl)) rfl rfl hl.1 rfl (lv_room (Nat.le_of_ble_eq_true rfl)) d_L_law_431 ⟨(show cells + 0 ≤ 600000 by omega), (show slots + 0 ≤ 7302250 by omega)⟩) hPDc hS hA (fun r_8 u_10 H locs hr_9 hPD hS => ?_)
    refine W.widen (k := cells) (n := slots) (Nat.le_refl _) (Nat.le_refl _) ?_
    obtain ⟨hr_9, hRA2⟩ := hr_9
    subst hr_9
    rw [sx_XAk_eq] at hPD
    have hPD := hPD.perm (sx_give hk)
    refine lv_aload_n hx hb d_L_law_434 rfl (lv_at hl 1 rfl) ?_
    refine lv_aload_n hx hb d_L_law_435 rfl (lv_at hl 3 rfl) ?_
    refine lv_iload_n hx hb d_L_law_436 rfl (lv_at hl 0 rfl) ?_
    refine lv_iconst (v := nI 1) hx hb d_L_law_437 (by decide +kernel) ?_
    refine lv_iadd hx hb d_L_law_438 ?_
    refine sx_asi (y := nI (i + 1)) (nI_add i 1) ?_
    refine va_sld hx hb hX hbl hbA hS (vp_in_nI (show i + 1 < N by omega) (by omega)) d_L_law_439 ?_
    refine sx_asi (congrArg xs (nI_clamp (show i + 1 < 2 ^ 31 by omega))) ?_
    refine sx_asi ek ?_
    refine lv_aload_n hx hb d_L_law_440 rfl (lv_at hl 3 rfl) ?_
    refine lv_iload_n hx hb d_L_law_441 rfl (lv_at hl 0 rfl) ?_
    refine lv_iconst (v := nI 2) hx hb d_L_law_442 (by decide +kernel) ?_
    refine lv_iadd hx hb d_L_law_443 ?_
    refine sx_asi (y := nI (i + 2)) (nI_add i 2) ?_
    refine va_sld hx hb hX hbl hbA hS (vp_in_nI (show i + 2 < N by omega) (by omega)) d_L_law_444 ?_
    refine sx_asi (congrArg xs (nI_clamp (show i + 2 < 2 ^ 31 by omega))) ?_
    refine lv_aload_n hx hb d_L_law_445 rfl (lv_at hl 3 rfl) ?_
    refine lv_iload_n hx hb d_L_law_446 rfl (lv_at hl 0 rfl) ?_
    refine lv_iconst (v := nI 3) hx hb d_L_law_447 (by decide +kernel) ?_
    refine lv_iadd hx hb d_L_law_448 ?_
    refine sx_asi (y := nI (i + 3)) (nI_add i 3) ?_
    refine va_sld hx hb hX hbl hbA hS (vp_in_nI (show i + 3 < N by omega) (by omega)) d_L_law_449 ?_
    refine sx_asi (congrArg xs (nI_clamp (show i + 3 < 2 ^ 31 by omega))) ?_
    have hPDc : sx_PD D (fun q : Nat => s.heap.size ≤ q) ((wMa cA hm L cd n na sb α cm mk) ++ (wX cA h (nI L) (nI na) (sx_bI sb) (nI n) (α 1) (α 2) ab un sv sf sl acts ++ sx_pool cA g (fun b => if b = k then u_10 else K b) na)) H := hPD.perm sx_swap3
    refine sx_callL (wc := (wMa cA hm L cd n na sb α cm mk)) (wr := wX cA h (nI L) (nI na) (sx_bI sb) (nI n) (α 1) (α 2) ab un sv sf sl acts ++ sx_pool cA g (fun b => if b = k then u_10 else K b) na) (va_runV (As := [.int (nI k), .int (xs (i + 2)), .int (xs (i + 3))]) (rest := [.int (sx_doA n L α k (xs (i + 2)) (xs (i + 3)) (sx_lkO n α k (xs (i + 2)) (xs (i + 3))))]) ⟨hx, hb, hml, hown, hts⟩ (m_link l D cA H.size hm L cd n na sb α cm mk hI k hk (xs (i + 2)) (xs (i + 3))) (cwV 3 hts (sx_GV wd_514 wd_515 wd_516 wd_5 wd_517) rfl rfl rfl (by decide +kernel) ⟨Nat.le_of_ble_eq_true rfl, Nat.le_of_ble_eq_true rfl⟩) (sx_preVw hK hPDc.left.1 hPDc.left.2 (va_recv hK.1 hPDc.left.1 (ci := 4) (q0 := 0) rfl rfl)) rfl rfl hl.1 rfl (lv_room (Nat.le_of_ble_eq_true rfl)) d_L_law_450 ⟨(show cells + 0 ≤ 600000 by omega), (show slots + 0 ≤ 7302250 by omega)⟩) hPDc hS hA (fun r_11 u_13 H locs hr_12 hPD hS => ?_)
    refine W.widen (k := cells) (n := slots) (Nat.le_refl _) (Nat.le_refl _) ?_
    subst hr_12
    have hPD := hPD.perm sx_swap3
    refine lv_icmp_eq (tgt := 649) hx hb d_L_law_453 (by decide) (fun c_14 => ?_) (fun c_14 => ?_)
    · have hOF : sx_OF α (sx_do n L sb α k (xs (i + 2)) (xs (i + 3)) (sx_lkO n α k (xs (i + 2)) (xs (i + 3))) (-1 - (xs (i + 3)))) k := sx_OF_do hI
      exact kk n na sb (sx_do n L sb α k (xs (i + 2)) (xs (i + 3)) (sx_lkO n α k (xs (i + 2)) (xs (i + 3))) (-1 - (xs (i + 3)))) ab un sv sf sl acts (nI 0) cm mk g (fun b => if b = k then u_10 else K b) _ _ _ _ (sx_LJ_op hJ (sx_INV_link hI hk) (sx_OF_do hI) hRA2) (sx_LW_of hOF.1.1 hOF.1.2.1 hPD) hS (by omega) (by omega)
    · exact absurd rfl c_14

set_option maxHeartbeats 4000000 in
set_option maxRecDepth 100000 in
theorem law_remove {p : Program} {l : Launch} {e : Env} {s : State} {m : MethodId} {below : List Frame} {meth : Method} {c : Code} {b N : Nat} {xs : Nat → Int32} {D : va_G} {cA : Nat → ClassId} {h hm : Nat → Nat} {L : Nat} {ls : Array Slot} {Q : State → Prop} (C0 : lw_At p s m meth c b N xs) (hN : N ≤ 2049) (hK : sx_K D cA s) (i : Nat) (hi : i + 4 ≤ N) (hl : lv_has ls 4 [(3, .int (nI i)), (2, .ref (hm 0)), (1, .ref (h 0)), (0, .ref b)]) (kk : sx_KO p l e s m below meth c D cA b h hm L ls Q) {n na : Nat} {sb : Bool} {α : sx_A} {ab un : Nat → Int64} {sv : Nat → Int32} {sf sl : Int64} {acts : Nat → Option Nat} {cd : Int32} {cm mk : Nat → Int32} {g : Nat → Nat → Nat} {K : Nat → sx_KA} {H : Heap} {locs : List Loc} {cells slots : Nat} (hJ : sx_LJ L n na α ab un sv sf sl acts g K) (hPD : sx_PD D (fun q : Nat => s.heap.size ≤ q) (sx_LW cA h hm L n na sb α ab un sv sf sl acts cd cm mk g K) H) (hS : va_S (fun q : Nat => s.heap.size ≤ q) s.heap H locs) (hc : cells ≤ 26 + 6 * na) (hsl : slots ≤ 2155 + 159 * na) : W p l e room_1 s m #[Value.ref b] below meth c H locs cells slots Q (F0 m 458 ls []) := by
  obtain ⟨hx, hb, hr, hml, hown, hts0, hX, hbl, hlocks, hgv⟩ := C0
  have hts : ∀ w ∈ sx_gw, w.before #[Value.ref b] s = true := fun w hw => hts0 w (sx_gw_tbl hw)
  have hA : ∀ q : Nat, s.heap.size ≤ q → (fun q : Nat => s.heap.size ≤ q) q := fun _ h => h
  have hbA : ¬ (fun q : Nat => s.heap.size ≤ q) b := Nat.not_le.mpr hbl
  obtain ⟨hI, hRP, hRW, hRA⟩ := id hJ
  have hna10 := hI.1.2.1
  have hPD : sx_PD D (fun q : Nat => s.heap.size ≤ q) (wX cA h (nI L) (nI na) (sx_bI sb) (nI n) (α 1) (α 2) ab un sv sf sl acts ++ (wMa cA hm L cd n na sb α cm mk ++ sx_pool cA g K na)) H := hPD
  rcases sx_range hna10 (xs (i + 1)) with hx0 | ⟨k, hk, ek⟩
  · refine lv_aload_n hx hb d_L_law_458 rfl (lv_at hl 2 rfl) ?_
    refine lv_aload_n hx hb d_L_law_459 rfl (lv_at hl 3 rfl) ?_
    refine lv_iload_n hx hb d_L_law_460 rfl (lv_at hl 0 rfl) ?_
    refine lv_iconst (v := nI 1) hx hb d_L_law_461 (by decide +kernel) ?_
    refine lv_iadd hx hb d_L_law_462 ?_
    refine sx_asi (y := nI (i + 1)) (nI_add i 1) ?_
    refine va_sld hx hb hX hbl hbA hS (vp_in_nI (show i + 1 < N by omega) (by omega)) d_L_law_463 ?_
    refine sx_asi (congrArg xs (nI_clamp (show i + 1 < 2 ^ 31 by omega))) ?_
    refine lv_aload_n hx hb d_L_law_464 rfl (lv_at hl 3 rfl) ?_
    refine lv_iload_n hx hb d_L_law_465 rfl (lv_at hl 0 rfl) ?_
    refine lv_iconst (v := nI 2) hx hb d_L_law_466 (by decide +kernel) ?_
    refine lv_iadd hx hb d_L_law_467 ?_
    refine sx_asi (y := nI (i + 2)) (nI_add i 2) ?_
    refine va_sld hx hb hX hbl hbA hS (vp_in_nI (show i + 2 < N by omega) (by omega)) d_L_law_468 ?_
    refine sx_asi (congrArg xs (nI_clamp (show i + 2 < 2 ^ 31 by omega))) ?_
    have hPDc : sx_PD D (fun q : Nat => s.heap.size ≤ q) ((wX cA h (nI L) (nI na) (sx_bI sb) (nI n) (α 1) (α 2) ab un sv sf sl acts) ++ (wMa cA hm L cd n na sb α cm mk ++ sx_pool cA g K na)) H := hPD
    refine vp_callSi (va_runV (As := [.int (xs (i + 1)), .int (xs (i + 2))]) (rest := []) ⟨hx, hb, hml, hown, hts⟩ (k_removeO l D cA h (nI L) na (sx_bI sb) (nI n) (α 1) (α 2) ab un sv sf sl acts (xs (i + 1)) hx0 (xs (i + 2))) (cwV 2 hts (sx_GV wd_309 wd_310 wd_311 wd_1 wd_312) rfl rfl rfl (by decide +kernel) ⟨Nat.le_of_ble_eq_true rfl, Nat.le_of_ble_eq_true rfl⟩) (sx_preV hK hPDc.left.1 (va_recv hK.1 hPDc.left.1 (ci := 3) (q0 := 0) rfl rfl)) rfl rfl hl.1 rfl (lv_room (Nat.le_of_ble_eq_true rfl)) d_L_law_469 ⟨(show cells + 0 ≤ 600000 by omega), (show slots + 0 ≤ 7302250 by omega)⟩).run (fun r_1 hr_2 => ?_)
    subst hr_2
    refine lv_aload_n hx hb d_L_law_472 rfl (lv_at hl 1 rfl) ?_
    refine lv_aload_n hx hb d_L_law_473 rfl (lv_at hl 3 rfl) ?_
    refine lv_iload_n hx hb d_L_law_474 rfl (lv_at hl 0 rfl) ?_
    refine lv_iconst (v := nI 1) hx hb d_L_law_475 (by decide +kernel) ?_
    refine lv_iadd hx hb d_L_law_476 ?_
    refine sx_asi (y := nI (i + 1)) (nI_add i 1) ?_
    refine va_sld hx hb hX hbl hbA hS (vp_in_nI (show i + 1 < N by omega) (by omega)) d_L_law_477 ?_
    refine sx_asi (congrArg xs (nI_clamp (show i + 1 < 2 ^ 31 by omega))) ?_
    refine lv_aload_n hx hb d_L_law_478 rfl (lv_at hl 3 rfl) ?_
    refine lv_iload_n hx hb d_L_law_479 rfl (lv_at hl 0 rfl) ?_
    refine lv_iconst (v := nI 2) hx hb d_L_law_480 (by decide +kernel) ?_
    refine lv_iadd hx hb d_L_law_481 ?_
    refine sx_asi (y := nI (i + 2)) (nI_add i 2) ?_
    refine va_sld hx hb hX hbl hbA hS (vp_in_nI (show i + 2 < N by omega) (by omega)) d_L_law_482 ?_
    refine sx_asi (congrArg xs (nI_clamp (show i + 2 < 2 ^ 31 by omega))) ?_
    have hPDc : sx_PD D (fun q : Nat => s.heap.size ≤ q) ((wMa cA hm L cd n na sb α cm mk) ++ (wX cA h (nI L) (nI na) (sx_bI sb) (nI n) (α 1) (α 2) ab un sv sf sl acts ++ sx_pool cA g K na)) H := hPD.perm sx_swap3
    refine sx_callL (wc := (wMa cA hm L cd n na sb α cm mk)) (wr := wX cA h (nI L) (nI na) (sx_bI sb) (nI n) (α 1) (α 2) ab un sv sf sl acts ++ sx_pool cA g K na) (va_runV (As := [.int (xs (i + 1)), .int (xs (i + 2))]) (rest := [.int (-1)]) ⟨hx, hb, hml, hown, hts⟩ (m_removeO l D cA H.size hm L cd n na sb α cm mk (xs (i + 1)) hx0 (xs (i + 2))) (cwV 2 hts (sx_GV wd_518 wd_519 wd_520 wd_5 wd_521) rfl rfl rfl (by decide +kernel) ⟨Nat.le_of_ble_eq_true rfl, Nat.le_of_ble_eq_true rfl⟩) (sx_preVw hK hPDc.left.1 hPDc.left.2 (va_recv hK.1 hPDc.left.1 (ci := 4) (q0 := 0) rfl rfl)) rfl rfl hl.1 rfl (lv_room (Nat.le_of_ble_eq_true rfl)) d_L_law_483 ⟨(show cells + 0 ≤ 600000 by omega), (show slots + 0 ≤ 7302250 by omega)⟩) hPDc hS hA (fun r_4 u_6 H locs hr_5 hPD hS => ?_)
    refine W.widen (k := cells) (n := slots) (Nat.le_refl _) (Nat.le_refl _) ?_
    subst hr_5
    have hPD := hPD.perm sx_swap3
    refine lv_icmp_eq (tgt := 649) hx hb d_L_law_486 (by decide) (fun c_7 => ?_) (fun c_7 => ?_)
    · exact kk n na sb α ab un sv sf sl acts (nI 0) cm mk g K _ _ _ _ (hJ) (sx_LW_of rfl rfl hPD) hS (by omega) (by omega)
    · exact absurd rfl c_7
  · refine lv_aload_n hx hb d_L_law_458 rfl (lv_at hl 2 rfl) ?_
    refine lv_aload_n hx hb d_L_law_459 rfl (lv_at hl 3 rfl) ?_
    refine lv_iload_n hx hb d_L_law_460 rfl (lv_at hl 0 rfl) ?_
    refine lv_iconst (v := nI 1) hx hb d_L_law_461 (by decide +kernel) ?_
    refine lv_iadd hx hb d_L_law_462 ?_
    refine sx_asi (y := nI (i + 1)) (nI_add i 1) ?_
    refine va_sld hx hb hX hbl hbA hS (vp_in_nI (show i + 1 < N by omega) (by omega)) d_L_law_463 ?_
    refine sx_asi (congrArg xs (nI_clamp (show i + 1 < 2 ^ 31 by omega))) ?_
    refine sx_asi ek ?_
    refine lv_aload_n hx hb d_L_law_464 rfl (lv_at hl 3 rfl) ?_
    refine lv_iload_n hx hb d_L_law_465 rfl (lv_at hl 0 rfl) ?_
    refine lv_iconst (v := nI 2) hx hb d_L_law_466 (by decide +kernel) ?_
    refine lv_iadd hx hb d_L_law_467 ?_
    refine sx_asi (y := nI (i + 2)) (nI_add i 2) ?_
    refine va_sld hx hb hX hbl hbA hS (vp_in_nI (show i + 2 < N by omega) (by omega)) d_L_law_468 ?_
    refine sx_asi (congrArg xs (nI_clamp (show i + 2 < 2 ^ 31 by omega))) ?_
    have hPDc : sx_PD D (fun q : Nat => s.heap.size ≤ q) ((wXAk cA h (g k) (nI L) (nI na) (sx_bI sb) (nI n) (α 1) (α 2) ab un sv sf sl acts (K k)) ++ (wMa cA hm L cd n na sb α cm mk ++ sx_rest cA g K k na)) H := by rw [sx_XAk_eq]; exact hPD.perm (sx_take hk)
    refine sx_callL (wc := (wXAk cA h (g k) (nI L) (nI na) (sx_bI sb) (nI n) (α 1) (α 2) ab un sv sf sl acts (K k))) (wr := wMa cA hm L cd n na sb α cm mk ++ sx_rest cA g K k na) (va_runV (As := [.int (nI k), .int (xs (i + 2))]) (rest := []) ⟨hx, hb, hml, hown, hts⟩ (k_remove l D cA H.size h (g k) n na L sb α ab un sv sf sl acts k (K k) hI hk hRP hRW (hRA k hk).1 (hRA k hk).2 (xs (i + 2))) (cwV 2 hts (sx_GV wd_309 wd_310 wd_311 wd_1 wd_312) rfl rfl rfl (by decide +kernel) ⟨Nat.le_of_ble_eq_true rfl, Nat.le_of_ble_eq_true rfl⟩) (sx_preVw hK hPDc.left.1 hPDc.left.2 (va_recv hK.1 hPDc.left.1 (ci := 3) (q0 := 0) rfl rfl)) rfl rfl hl.1 rfl (lv_room (Nat.le_of_ble_eq_true rfl)) d_L_law_469 ⟨(show cells + 0 ≤ 600000 by omega), (show slots + 0 ≤ 7302250 by omega)⟩) hPDc hS hA (fun r_8 u_10 H locs hr_9 hPD hS => ?_)
    refine W.widen (k := cells) (n := slots) (Nat.le_refl _) (Nat.le_refl _) ?_
    obtain ⟨hr_9, hRA2⟩ := hr_9
    subst hr_9
    rw [sx_XAk_eq] at hPD
    have hPD := hPD.perm (sx_give hk)
    refine lv_aload_n hx hb d_L_law_472 rfl (lv_at hl 1 rfl) ?_
    refine lv_aload_n hx hb d_L_law_473 rfl (lv_at hl 3 rfl) ?_
    refine lv_iload_n hx hb d_L_law_474 rfl (lv_at hl 0 rfl) ?_
    refine lv_iconst (v := nI 1) hx hb d_L_law_475 (by decide +kernel) ?_
    refine lv_iadd hx hb d_L_law_476 ?_
    refine sx_asi (y := nI (i + 1)) (nI_add i 1) ?_
    refine va_sld hx hb hX hbl hbA hS (vp_in_nI (show i + 1 < N by omega) (by omega)) d_L_law_477 ?_
    refine sx_asi (congrArg xs (nI_clamp (show i + 1 < 2 ^ 31 by omega))) ?_
    refine sx_asi ek ?_
    refine lv_aload_n hx hb d_L_law_478 rfl (lv_at hl 3 rfl) ?_
    refine lv_iload_n hx hb d_L_law_479 rfl (lv_at hl 0 rfl) ?_
    refine lv_iconst (v := nI 2) hx hb d_L_law_480 (by decide +kernel) ?_
    refine lv_iadd hx hb d_L_law_481 ?_
    refine sx_asi (y := nI (i + 2)) (nI_add i 2) ?_
    refine va_sld hx hb hX hbl hbA hS (vp_in_nI (show i + 2 < N by omega) (by omega)) d_L_law_482 ?_
    refine sx_asi (congrArg xs (nI_clamp (show i + 2 < 2 ^ 31 by omega))) ?_
    have hPDc : sx_PD D (fun q : Nat => s.heap.size ≤ q) ((wMa cA hm L cd n na sb α cm mk) ++ (wX cA h (nI L) (nI na) (sx_bI sb) (nI n) (α 1) (α 2) ab un sv sf sl acts ++ sx_pool cA g (fun b => if b = k then u_10 else K b) na)) H := hPD.perm sx_swap3
    refine sx_callL (wc := (wMa cA hm L cd n na sb α cm mk)) (wr := wX cA h (nI L) (nI na) (sx_bI sb) (nI n) (α 1) (α 2) ab un sv sf sl acts ++ sx_pool cA g (fun b => if b = k then u_10 else K b) na) (va_runV (As := [.int (nI k), .int (xs (i + 2))]) (rest := [.int (sx_doA n L α k (xs (i + 2)) 0 (sx_rmO n α k (xs (i + 2))))]) ⟨hx, hb, hml, hown, hts⟩ (m_remove l D cA H.size hm L cd n na sb α cm mk hI k hk (xs (i + 2))) (cwV 2 hts (sx_GV wd_518 wd_519 wd_520 wd_5 wd_521) rfl rfl rfl (by decide +kernel) ⟨Nat.le_of_ble_eq_true rfl, Nat.le_of_ble_eq_true rfl⟩) (sx_preVw hK hPDc.left.1 hPDc.left.2 (va_recv hK.1 hPDc.left.1 (ci := 4) (q0 := 0) rfl rfl)) rfl rfl hl.1 rfl (lv_room (Nat.le_of_ble_eq_true rfl)) d_L_law_483 ⟨(show cells + 0 ≤ 600000 by omega), (show slots + 0 ≤ 7302250 by omega)⟩) hPDc hS hA (fun r_11 u_13 H locs hr_12 hPD hS => ?_)
    refine W.widen (k := cells) (n := slots) (Nat.le_refl _) (Nat.le_refl _) ?_
    subst hr_12
    have hPD := hPD.perm sx_swap3
    refine lv_icmp_eq (tgt := 649) hx hb d_L_law_486 (by decide) (fun c_14 => ?_) (fun c_14 => ?_)
    · have hOF : sx_OF α (sx_do n L sb α k (xs (i + 2)) 0 (sx_rmO n α k (xs (i + 2))) 0) k := sx_OF_do hI
      exact kk n na sb (sx_do n L sb α k (xs (i + 2)) 0 (sx_rmO n α k (xs (i + 2))) 0) ab un sv sf sl acts (nI 0) cm mk g (fun b => if b = k then u_10 else K b) _ _ _ _ (sx_LJ_op hJ (sx_INV_remove hI hk) (sx_OF_do hI) hRA2) (sx_LW_of hOF.1.1 hOF.1.2.1 hPD) hS (by omega) (by omega)
    · exact absurd rfl c_14

set_option maxHeartbeats 4000000 in
set_option maxRecDepth 100000 in
theorem law_list {p : Program} {l : Launch} {e : Env} {s : State} {m : MethodId} {below : List Frame} {meth : Method} {c : Code} {b N : Nat} {xs : Nat → Int32} {D : va_G} {cA : Nat → ClassId} {h hm : Nat → Nat} {L : Nat} {ls : Array Slot} {Q : State → Prop} (C0 : lw_At p s m meth c b N xs) (hN : N ≤ 2049) (hK : sx_K D cA s) (i : Nat) (hi : i + 4 ≤ N) (hl : lv_has ls 4 [(3, .int (nI i)), (2, .ref (hm 0)), (1, .ref (h 0)), (0, .ref b)]) (kk : sx_KO p l e s m below meth c D cA b h hm L ls Q) {n na : Nat} {sb : Bool} {α : sx_A} {ab un : Nat → Int64} {sv : Nat → Int32} {sf sl : Int64} {acts : Nat → Option Nat} {cd : Int32} {cm mk : Nat → Int32} {g : Nat → Nat → Nat} {K : Nat → sx_KA} {H : Heap} {locs : List Loc} {cells slots : Nat} (hJ : sx_LJ L n na α ab un sv sf sl acts g K) (hPD : sx_PD D (fun q : Nat => s.heap.size ≤ q) (sx_LW cA h hm L n na sb α ab un sv sf sl acts cd cm mk g K) H) (hS : va_S (fun q : Nat => s.heap.size ≤ q) s.heap H locs) (hc : cells ≤ 26 + 6 * na) (hsl : slots ≤ 2155 + 159 * na) : W p l e room_1 s m #[Value.ref b] below meth c H locs cells slots Q (F0 m 491 ls []) := by
  obtain ⟨hx, hb, hr, hml, hown, hts0, hX, hbl, hlocks, hgv⟩ := C0
  have hts : ∀ w ∈ sx_gw, w.before #[Value.ref b] s = true := fun w hw => hts0 w (sx_gw_tbl hw)
  have hA : ∀ q : Nat, s.heap.size ≤ q → (fun q : Nat => s.heap.size ≤ q) q := fun _ h => h
  have hbA : ¬ (fun q : Nat => s.heap.size ≤ q) b := Nat.not_le.mpr hbl
  obtain ⟨hI, hRP, hRW, hRA⟩ := id hJ
  have hna10 := hI.1.2.1
  have hPD : sx_PD D (fun q : Nat => s.heap.size ≤ q) (wX cA h (nI L) (nI na) (sx_bI sb) (nI n) (α 1) (α 2) ab un sv sf sl acts ++ (wMa cA hm L cd n na sb α cm mk ++ sx_pool cA g K na)) H := hPD
  rcases sx_range hna10 (xs (i + 1)) with hx0 | ⟨k, hk, ek⟩
  · refine lv_aload_n hx hb d_L_law_491 rfl (lv_at hl 2 rfl) ?_
    refine lv_aload_n hx hb d_L_law_492 rfl (lv_at hl 3 rfl) ?_
    refine lv_iload_n hx hb d_L_law_493 rfl (lv_at hl 0 rfl) ?_
    refine lv_iconst (v := nI 1) hx hb d_L_law_494 (by decide +kernel) ?_
    refine lv_iadd hx hb d_L_law_495 ?_
    refine sx_asi (y := nI (i + 1)) (nI_add i 1) ?_
    refine va_sld hx hb hX hbl hbA hS (vp_in_nI (show i + 1 < N by omega) (by omega)) d_L_law_496 ?_
    refine sx_asi (congrArg xs (nI_clamp (show i + 1 < 2 ^ 31 by omega))) ?_
    refine lv_aload_n hx hb d_L_law_497 rfl (lv_at hl 3 rfl) ?_
    refine lv_iload_n hx hb d_L_law_498 rfl (lv_at hl 0 rfl) ?_
    refine lv_iconst (v := nI 2) hx hb d_L_law_499 (by decide +kernel) ?_
    refine lv_iadd hx hb d_L_law_500 ?_
    refine sx_asi (y := nI (i + 2)) (nI_add i 2) ?_
    refine va_sld hx hb hX hbl hbA hS (vp_in_nI (show i + 2 < N by omega) (by omega)) d_L_law_501 ?_
    refine sx_asi (congrArg xs (nI_clamp (show i + 2 < 2 ^ 31 by omega))) ?_
    refine lv_aload_n hx hb d_L_law_502 rfl (lv_at hl 3 rfl) ?_
    refine lv_iload_n hx hb d_L_law_503 rfl (lv_at hl 0 rfl) ?_
    refine lv_iconst (v := nI 3) hx hb d_L_law_504 (by decide +kernel) ?_
    refine lv_iadd hx hb d_L_law_505 ?_
    refine sx_asi (y := nI (i + 3)) (nI_add i 3) ?_
    refine va_sld hx hb hX hbl hbA hS (vp_in_nI (show i + 3 < N by omega) (by omega)) d_L_law_506 ?_
    refine sx_asi (congrArg xs (nI_clamp (show i + 3 < 2 ^ 31 by omega))) ?_
    have hPDc : sx_PD D (fun q : Nat => s.heap.size ≤ q) ((wX cA h (nI L) (nI na) (sx_bI sb) (nI n) (α 1) (α 2) ab un sv sf sl acts) ++ (wMa cA hm L cd n na sb α cm mk ++ sx_pool cA g K na)) H := hPD
    refine vp_callSi (va_runV (As := [.int (xs (i + 1)), .int (xs (i + 2)), .int (xs (i + 3))]) (rest := []) ⟨hx, hb, hml, hown, hts⟩ (k_listO l D cA h (nI L) na (sx_bI sb) (nI n) (α 1) (α 2) ab un sv sf sl acts (xs (i + 1)) hx0 (xs (i + 2)) (xs (i + 3))) (cwV 3 hts (sx_GV wd_313 wd_314 wd_315 wd_1 wd_316) rfl rfl rfl (by decide +kernel) ⟨Nat.le_of_ble_eq_true rfl, Nat.le_of_ble_eq_true rfl⟩) (sx_preV hK hPDc.left.1 (va_recv hK.1 hPDc.left.1 (ci := 3) (q0 := 0) rfl rfl)) rfl rfl hl.1 rfl (lv_room (Nat.le_of_ble_eq_true rfl)) d_L_law_507 ⟨(show cells + 0 ≤ 600000 by omega), (show slots + 0 ≤ 7302250 by omega)⟩).run (fun r_1 hr_2 => ?_)
    subst hr_2
    refine lv_aload_n hx hb d_L_law_510 rfl (lv_at hl 1 rfl) ?_
    refine lv_aload_n hx hb d_L_law_511 rfl (lv_at hl 3 rfl) ?_
    refine lv_iload_n hx hb d_L_law_512 rfl (lv_at hl 0 rfl) ?_
    refine lv_iconst (v := nI 1) hx hb d_L_law_513 (by decide +kernel) ?_
    refine lv_iadd hx hb d_L_law_514 ?_
    refine sx_asi (y := nI (i + 1)) (nI_add i 1) ?_
    refine va_sld hx hb hX hbl hbA hS (vp_in_nI (show i + 1 < N by omega) (by omega)) d_L_law_515 ?_
    refine sx_asi (congrArg xs (nI_clamp (show i + 1 < 2 ^ 31 by omega))) ?_
    refine lv_aload_n hx hb d_L_law_516 rfl (lv_at hl 3 rfl) ?_
    refine lv_iload_n hx hb d_L_law_517 rfl (lv_at hl 0 rfl) ?_
    refine lv_iconst (v := nI 2) hx hb d_L_law_518 (by decide +kernel) ?_
    refine lv_iadd hx hb d_L_law_519 ?_
    refine sx_asi (y := nI (i + 2)) (nI_add i 2) ?_
    refine va_sld hx hb hX hbl hbA hS (vp_in_nI (show i + 2 < N by omega) (by omega)) d_L_law_520 ?_
    refine sx_asi (congrArg xs (nI_clamp (show i + 2 < 2 ^ 31 by omega))) ?_
    refine lv_aload_n hx hb d_L_law_521 rfl (lv_at hl 3 rfl) ?_
    refine lv_iload_n hx hb d_L_law_522 rfl (lv_at hl 0 rfl) ?_
    refine lv_iconst (v := nI 3) hx hb d_L_law_523 (by decide +kernel) ?_
    refine lv_iadd hx hb d_L_law_524 ?_
    refine sx_asi (y := nI (i + 3)) (nI_add i 3) ?_
    refine va_sld hx hb hX hbl hbA hS (vp_in_nI (show i + 3 < N by omega) (by omega)) d_L_law_525 ?_
    refine sx_asi (congrArg xs (nI_clamp (show i + 3 < 2 ^ 31 by omega))) ?_
    have hPDc : sx_PD D (fun q : Nat => s.heap.size ≤ q) ((wMa cA hm L cd n na sb α cm mk) ++ (wX cA h (nI L) (nI na) (sx_bI sb) (nI n) (α 1) (α 2) ab un sv sf sl acts ++ sx_pool cA g K na)) H := hPD.perm sx_swap3
    refine sx_callL (wc := (wMa cA hm L cd n na sb α cm mk)) (wr := wX cA h (nI L) (nI na) (sx_bI sb) (nI n) (α 1) (α 2) ab un sv sf sl acts ++ sx_pool cA g K na) (va_runV (As := [.int (xs (i + 1)), .int (xs (i + 2)), .int (xs (i + 3))]) (rest := [.int (-1)]) ⟨hx, hb, hml, hown, hts⟩ (m_listO l D cA H.size hm L cd n na sb α cm mk (xs (i + 1)) hx0 (xs (i + 2)) (xs (i + 3))) (cwV 3 hts (sx_GV wd_522 wd_523 wd_524 wd_5 wd_525) rfl rfl rfl (by decide +kernel) ⟨Nat.le_of_ble_eq_true rfl, Nat.le_of_ble_eq_true rfl⟩) (sx_preVw hK hPDc.left.1 hPDc.left.2 (va_recv hK.1 hPDc.left.1 (ci := 4) (q0 := 0) rfl rfl)) rfl rfl hl.1 rfl (lv_room (Nat.le_of_ble_eq_true rfl)) d_L_law_526 ⟨(show cells + 0 ≤ 600000 by omega), (show slots + 0 ≤ 7302250 by omega)⟩) hPDc hS hA (fun r_4 u_6 H locs hr_5 hPD hS => ?_)
    refine W.widen (k := cells) (n := slots) (Nat.le_refl _) (Nat.le_refl _) ?_
    subst hr_5
    have hPD := hPD.perm sx_swap3
    refine lv_icmp_eq (tgt := 649) hx hb d_L_law_529 (by decide) (fun c_7 => ?_) (fun c_7 => ?_)
    · exact kk n na sb α ab un sv sf sl acts (nI 0) cm mk g K _ _ _ _ (hJ) (sx_LW_of rfl rfl hPD) hS (by omega) (by omega)
    · exact absurd rfl c_7
  · refine lv_aload_n hx hb d_L_law_491 rfl (lv_at hl 2 rfl) ?_
    refine lv_aload_n hx hb d_L_law_492 rfl (lv_at hl 3 rfl) ?_
    refine lv_iload_n hx hb d_L_law_493 rfl (lv_at hl 0 rfl) ?_
    refine lv_iconst (v := nI 1) hx hb d_L_law_494 (by decide +kernel) ?_
    refine lv_iadd hx hb d_L_law_495 ?_
    refine sx_asi (y := nI (i + 1)) (nI_add i 1) ?_
    refine va_sld hx hb hX hbl hbA hS (vp_in_nI (show i + 1 < N by omega) (by omega)) d_L_law_496 ?_
    refine sx_asi (congrArg xs (nI_clamp (show i + 1 < 2 ^ 31 by omega))) ?_
    refine sx_asi ek ?_
    refine lv_aload_n hx hb d_L_law_497 rfl (lv_at hl 3 rfl) ?_
    refine lv_iload_n hx hb d_L_law_498 rfl (lv_at hl 0 rfl) ?_
    refine lv_iconst (v := nI 2) hx hb d_L_law_499 (by decide +kernel) ?_
    refine lv_iadd hx hb d_L_law_500 ?_
    refine sx_asi (y := nI (i + 2)) (nI_add i 2) ?_
    refine va_sld hx hb hX hbl hbA hS (vp_in_nI (show i + 2 < N by omega) (by omega)) d_L_law_501 ?_
    refine sx_asi (congrArg xs (nI_clamp (show i + 2 < 2 ^ 31 by omega))) ?_
    refine lv_aload_n hx hb d_L_law_502 rfl (lv_at hl 3 rfl) ?_
    refine lv_iload_n hx hb d_L_law_503 rfl (lv_at hl 0 rfl) ?_
    refine lv_iconst (v := nI 3) hx hb d_L_law_504 (by decide +kernel) ?_
    refine lv_iadd hx hb d_L_law_505 ?_
    refine sx_asi (y := nI (i + 3)) (nI_add i 3) ?_
    refine va_sld hx hb hX hbl hbA hS (vp_in_nI (show i + 3 < N by omega) (by omega)) d_L_law_506 ?_
    refine sx_asi (congrArg xs (nI_clamp (show i + 3 < 2 ^ 31 by omega))) ?_
    have hPDc : sx_PD D (fun q : Nat => s.heap.size ≤ q) ((wXAk cA h (g k) (nI L) (nI na) (sx_bI sb) (nI n) (α 1) (α 2) ab un sv sf sl acts (K k)) ++ (wMa cA hm L cd n na sb α cm mk ++ sx_rest cA g K k na)) H := by rw [sx_XAk_eq]; exact hPD.perm (sx_take hk)
    refine sx_callL (wc := (wXAk cA h (g k) (nI L) (nI na) (sx_bI sb) (nI n) (α 1) (α 2) ab un sv sf sl acts (K k))) (wr := wMa cA hm L cd n na sb α cm mk ++ sx_rest cA g K k na) (va_runV (As := [.int (nI k), .int (xs (i + 2)), .int (xs (i + 3))]) (rest := []) ⟨hx, hb, hml, hown, hts⟩ (k_list l D cA H.size h (g k) n na L sb α ab un sv sf sl acts k (K k) hI hk hRP hRW (hRA k hk).1 (hRA k hk).2 (xs (i + 2)) (xs (i + 3))) (cwV 3 hts (sx_GV wd_313 wd_314 wd_315 wd_1 wd_316) rfl rfl rfl (by decide +kernel) ⟨Nat.le_of_ble_eq_true rfl, Nat.le_of_ble_eq_true rfl⟩) (sx_preVw hK hPDc.left.1 hPDc.left.2 (va_recv hK.1 hPDc.left.1 (ci := 3) (q0 := 0) rfl rfl)) rfl rfl hl.1 rfl (lv_room (Nat.le_of_ble_eq_true rfl)) d_L_law_507 ⟨(show cells + 0 ≤ 600000 by omega), (show slots + 0 ≤ 7302250 by omega)⟩) hPDc hS hA (fun r_8 u_10 H locs hr_9 hPD hS => ?_)
    refine W.widen (k := cells) (n := slots) (Nat.le_refl _) (Nat.le_refl _) ?_
    obtain ⟨hr_9, hRA2⟩ := hr_9
    subst hr_9
    rw [sx_XAk_eq] at hPD
    have hPD := hPD.perm (sx_give hk)
    refine lv_aload_n hx hb d_L_law_510 rfl (lv_at hl 1 rfl) ?_
    refine lv_aload_n hx hb d_L_law_511 rfl (lv_at hl 3 rfl) ?_
    refine lv_iload_n hx hb d_L_law_512 rfl (lv_at hl 0 rfl) ?_
    refine lv_iconst (v := nI 1) hx hb d_L_law_513 (by decide +kernel) ?_
    refine lv_iadd hx hb d_L_law_514 ?_
    refine sx_asi (y := nI (i + 1)) (nI_add i 1) ?_
    refine va_sld hx hb hX hbl hbA hS (vp_in_nI (show i + 1 < N by omega) (by omega)) d_L_law_515 ?_
    refine sx_asi (congrArg xs (nI_clamp (show i + 1 < 2 ^ 31 by omega))) ?_
    refine sx_asi ek ?_
    refine lv_aload_n hx hb d_L_law_516 rfl (lv_at hl 3 rfl) ?_
    refine lv_iload_n hx hb d_L_law_517 rfl (lv_at hl 0 rfl) ?_
    refine lv_iconst (v := nI 2) hx hb d_L_law_518 (by decide +kernel) ?_
    refine lv_iadd hx hb d_L_law_519 ?_
    refine sx_asi (y := nI (i + 2)) (nI_add i 2) ?_
    refine va_sld hx hb hX hbl hbA hS (vp_in_nI (show i + 2 < N by omega) (by omega)) d_L_law_520 ?_
    refine sx_asi (congrArg xs (nI_clamp (show i + 2 < 2 ^ 31 by omega))) ?_
    refine lv_aload_n hx hb d_L_law_521 rfl (lv_at hl 3 rfl) ?_
    refine lv_iload_n hx hb d_L_law_522 rfl (lv_at hl 0 rfl) ?_
    refine lv_iconst (v := nI 3) hx hb d_L_law_523 (by decide +kernel) ?_
    refine lv_iadd hx hb d_L_law_524 ?_
    refine sx_asi (y := nI (i + 3)) (nI_add i 3) ?_
    refine va_sld hx hb hX hbl hbA hS (vp_in_nI (show i + 3 < N by omega) (by omega)) d_L_law_525 ?_
    refine sx_asi (congrArg xs (nI_clamp (show i + 3 < 2 ^ 31 by omega))) ?_
    have hPDc : sx_PD D (fun q : Nat => s.heap.size ≤ q) ((wMa cA hm L cd n na sb α cm mk) ++ (wX cA h (nI L) (nI na) (sx_bI sb) (nI n) (α 1) (α 2) ab un sv sf sl acts ++ sx_pool cA g (fun b => if b = k then u_10 else K b) na)) H := hPD.perm sx_swap3
    refine sx_callL (wc := (wMa cA hm L cd n na sb α cm mk)) (wr := wX cA h (nI L) (nI na) (sx_bI sb) (nI n) (α 1) (α 2) ab un sv sf sl acts ++ sx_pool cA g (fun b => if b = k then u_10 else K b) na) (va_runV (As := [.int (nI k), .int (xs (i + 2)), .int (xs (i + 3))]) (rest := [.int (sx_listA n L α k (xs (i + 2)) (xs (i + 3)))]) ⟨hx, hb, hml, hown, hts⟩ (m_list l D cA H.size hm L cd n na sb α cm mk hI k hk (xs (i + 2)) (xs (i + 3))) (cwV 3 hts (sx_GV wd_522 wd_523 wd_524 wd_5 wd_525) rfl rfl rfl (by decide +kernel) ⟨Nat.le_of_ble_eq_true rfl, Nat.le_of_ble_eq_true rfl⟩) (sx_preVw hK hPDc.left.1 hPDc.left.2 (va_recv hK.1 hPDc.left.1 (ci := 4) (q0 := 0) rfl rfl)) rfl rfl hl.1 rfl (lv_room (Nat.le_of_ble_eq_true rfl)) d_L_law_526 ⟨(show cells + 0 ≤ 600000 by omega), (show slots + 0 ≤ 7302250 by omega)⟩) hPDc hS hA (fun r_11 u_13 H locs hr_12 hPD hS => ?_)
    refine W.widen (k := cells) (n := slots) (Nat.le_refl _) (Nat.le_refl _) ?_
    subst hr_12
    have hPD := hPD.perm sx_swap3
    refine lv_icmp_eq (tgt := 649) hx hb d_L_law_529 (by decide) (fun c_14 => ?_) (fun c_14 => ?_)
    · have hOF : sx_OF α (sx_mayS n L α k (xs (i + 2)) 0) k := sx_OF_mayS
      exact kk n na sb (sx_mayS n L α k (xs (i + 2)) 0) ab un sv sf sl acts (nI 0) cm mk g (fun b => if b = k then u_10 else K b) _ _ _ _ (sx_LJ_op hJ (sx_INV_mayS hI hk) (sx_OF_mayS) hRA2) (sx_LW_of hOF.1.1 hOF.1.2.1 hPD) hS (by omega) (by omega)
    · exact absurd rfl c_14
