set_option maxHeartbeats 4000000 in
set_option maxRecDepth 100000 in
theorem law_finish {p : Program} {l : Launch} {e : Env} {s : State} {m : MethodId} {below : List Frame} {meth : Method} {c : Code} {b N : Nat} {xs : Nat → Int32} {D : va_G} {cA : Nat → ClassId} {h hm : Nat → Nat} {L : Nat} {ls : Array Slot} {Q : State → Prop} (C0 : lw_At p s m meth c b N xs) (hN : N ≤ 2049) (hK : sx_K D cA s) (i : Nat) (hi : i + 4 ≤ N) (hl : lv_has ls 4 [(3, .int (nI i)), (2, .ref (hm 0)), (1, .ref (h 0)), (0, .ref b)]) (kk : sx_KO p l e s m below meth c D cA b h hm L ls Q) {n na : Nat} {sb : Bool} {α : sx_A} {ab un : Nat → Int64} {sv : Nat → Int32} {sf sl : Int64} {acts : Nat → Option Nat} {cd : Int32} {cm mk : Nat → Int32} {g : Nat → Nat → Nat} {K : Nat → sx_KA} {H : Heap} {locs : List Loc} {cells slots : Nat} (hJ : sx_LJ L n na α ab un sv sf sl acts g K) (hPD : sx_PD D (fun q : Nat => s.heap.size ≤ q) (sx_LW cA h hm L n na sb α ab un sv sf sl acts cd cm mk g K) H) (hS : va_S (fun q : Nat => s.heap.size ≤ q) s.heap H locs) (hc : cells ≤ 26 + 6 * na) (hsl : slots ≤ 2155 + 159 * na) : W p l e room_1 s m #[Value.ref b] below meth c H locs cells slots Q (F0 m 534 ls []) := by
  obtain ⟨hx, hb, hr, hml, hown, hts0, hX, hbl, hlocks, hgv⟩ := C0
  have hts : ∀ w ∈ sx_gw, w.before #[Value.ref b] s = true := fun w hw => hts0 w (sx_gw_tbl hw)
  have hA : ∀ q : Nat, s.heap.size ≤ q → (fun q : Nat => s.heap.size ≤ q) q := fun _ h => h
  have hbA : ¬ (fun q : Nat => s.heap.size ≤ q) b := Nat.not_le.mpr hbl
  obtain ⟨hI, hRP, hRW, hRA⟩ := id hJ
  have hna10 := hI.1.2.1
  have hPD : sx_PD D (fun q : Nat => s.heap.size ≤ q) (wX cA h (nI L) (nI na) (sx_bI sb) (nI n) (α 1) (α 2) ab un sv sf sl acts ++ (wMa cA hm L cd n na sb α cm mk ++ sx_pool cA g K na)) H := hPD
  rcases sx_range hna10 (xs (i + 1)) with hx0 | ⟨k, hk, ek⟩
  · refine lv_aload_n hx hb d_L_law_534 rfl (lv_at hl 2 rfl) ?_
    refine lv_aload_n hx hb d_L_law_535 rfl (lv_at hl 3 rfl) ?_
    refine lv_iload_n hx hb d_L_law_536 rfl (lv_at hl 0 rfl) ?_
    refine lv_iconst (v := nI 1) hx hb d_L_law_537 (by decide +kernel) ?_
    refine lv_iadd hx hb d_L_law_538 ?_
    refine sx_asi (y := nI (i + 1)) (nI_add i 1) ?_
    refine va_sld hx hb hX hbl hbA hS (vp_in_nI (show i + 1 < N by omega) (by omega)) d_L_law_539 ?_
    refine sx_asi (congrArg xs (nI_clamp (show i + 1 < 2 ^ 31 by omega))) ?_
    refine lv_aload_n hx hb d_L_law_540 rfl (lv_at hl 3 rfl) ?_
    refine lv_iload_n hx hb d_L_law_541 rfl (lv_at hl 0 rfl) ?_
    refine lv_iconst (v := nI 2) hx hb d_L_law_542 (by decide +kernel) ?_
    refine lv_iadd hx hb d_L_law_543 ?_
    refine sx_asi (y := nI (i + 2)) (nI_add i 2) ?_
    refine va_sld hx hb hX hbl hbA hS (vp_in_nI (show i + 2 < N by omega) (by omega)) d_L_law_544 ?_
    refine sx_asi (congrArg xs (nI_clamp (show i + 2 < 2 ^ 31 by omega))) ?_
    refine lv_if_eq (tgt := 552) hx hb d_L_law_545 (by decide) (fun c_1 => ?_) (fun c_1 => ?_)
    · refine lv_iconst (v := nI 0) hx hb d_L_law_552 (by decide +kernel) ?_
      refine sx_asi (y := sx_bI false) rfl ?_
      have hPDc : sx_PD D (fun q : Nat => s.heap.size ≤ q) ((wX cA h (nI L) (nI na) (sx_bI sb) (nI n) (α 1) (α 2) ab un sv sf sl acts) ++ (wMa cA hm L cd n na sb α cm mk ++ sx_pool cA g K na)) H := hPD
      refine vp_callSi (va_runV (As := [.int (xs (i + 1)), .int (sx_bI false)]) (rest := []) ⟨hx, hb, hml, hown, hts⟩ (k_finishO l D cA h (nI L) na (sx_bI sb) (nI n) (α 1) (α 2) ab un sv sf sl acts (xs (i + 1)) hx0 false) (cwV 2 hts (sx_GV wd_321 wd_322 wd_323 wd_1 wd_324) rfl rfl rfl (by decide +kernel) ⟨Nat.le_of_ble_eq_true rfl, Nat.le_of_ble_eq_true rfl⟩) (sx_preV hK hPDc.left.1 (va_recv hK.1 hPDc.left.1 (ci := 3) (q0 := 0) rfl rfl)) rfl rfl hl.1 rfl (lv_room (Nat.le_of_ble_eq_true rfl)) d_L_law_553 ⟨(show cells + 0 ≤ 600000 by omega), (show slots + 0 ≤ 7302250 by omega)⟩).run (fun r_2 hr_3 => ?_)
      subst hr_3
      refine lv_aload_n hx hb d_L_law_556 rfl (lv_at hl 1 rfl) ?_
      refine lv_aload_n hx hb d_L_law_557 rfl (lv_at hl 3 rfl) ?_
      refine lv_iload_n hx hb d_L_law_558 rfl (lv_at hl 0 rfl) ?_
      refine lv_iconst (v := nI 1) hx hb d_L_law_559 (by decide +kernel) ?_
      refine lv_iadd hx hb d_L_law_560 ?_
      refine sx_asi (y := nI (i + 1)) (nI_add i 1) ?_
      refine va_sld hx hb hX hbl hbA hS (vp_in_nI (show i + 1 < N by omega) (by omega)) d_L_law_561 ?_
      refine sx_asi (congrArg xs (nI_clamp (show i + 1 < 2 ^ 31 by omega))) ?_
      refine lv_aload_n hx hb d_L_law_562 rfl (lv_at hl 3 rfl) ?_
      refine lv_iload_n hx hb d_L_law_563 rfl (lv_at hl 0 rfl) ?_
      refine lv_iconst (v := nI 2) hx hb d_L_law_564 (by decide +kernel) ?_
      refine lv_iadd hx hb d_L_law_565 ?_
      refine sx_asi (y := nI (i + 2)) (nI_add i 2) ?_
      refine va_sld hx hb hX hbl hbA hS (vp_in_nI (show i + 2 < N by omega) (by omega)) d_L_law_566 ?_
      refine sx_asi (congrArg xs (nI_clamp (show i + 2 < 2 ^ 31 by omega))) ?_
      refine lv_if_eq (tgt := 574) hx hb d_L_law_567 (by decide) (fun c_5 => ?_) (fun c_5 => ?_)
      · refine lv_iconst (v := nI 0) hx hb d_L_law_574 (by decide +kernel) ?_
        refine sx_asi (y := sx_bI false) rfl ?_
        have hPDc : sx_PD D (fun q : Nat => s.heap.size ≤ q) ((wMa cA hm L cd n na sb α cm mk) ++ (wX cA h (nI L) (nI na) (sx_bI sb) (nI n) (α 1) (α 2) ab un sv sf sl acts ++ sx_pool cA g K na)) H := hPD.perm sx_swap3
        refine sx_callL (wc := (wMa cA hm L cd n na sb α cm mk)) (wr := wX cA h (nI L) (nI na) (sx_bI sb) (nI n) (α 1) (α 2) ab un sv sf sl acts ++ sx_pool cA g K na) (va_runV (As := [.int (xs (i + 1)), .int (sx_bI false)]) (rest := [.int (-1)]) ⟨hx, hb, hml, hown, hts⟩ (m_finishO l D cA H.size hm L cd n na sb α cm mk (xs (i + 1)) hx0 false) (cwV 2 hts (sx_GV wd_530 wd_531 wd_532 wd_5 wd_533) rfl rfl rfl (by decide +kernel) ⟨Nat.le_of_ble_eq_true rfl, Nat.le_of_ble_eq_true rfl⟩) (sx_preVw hK hPDc.left.1 hPDc.left.2 (va_recv hK.1 hPDc.left.1 (ci := 4) (q0 := 0) rfl rfl)) rfl rfl hl.1 rfl (lv_room (Nat.le_of_ble_eq_true rfl)) d_L_law_575 ⟨(show cells + 0 ≤ 600000 by omega), (show slots + 0 ≤ 7302250 by omega)⟩) hPDc hS hA (fun r_6 u_8 H locs hr_7 hPD hS => ?_)
        refine W.widen (k := cells) (n := slots) (Nat.le_refl _) (Nat.le_refl _) ?_
        subst hr_7
        have hPD := hPD.perm sx_swap3
        refine lv_icmp_eq (tgt := 649) hx hb d_L_law_578 (by decide) (fun c_9 => ?_) (fun c_9 => ?_)
        · exact kk n na sb α ab un sv sf sl acts (nI 0) cm mk g K _ _ _ _ (hJ) (sx_LW_of rfl rfl hPD) hS (by omega) (by omega)
        · exact absurd rfl c_9
      · exact absurd c_1 c_5
    · refine lv_iconst (v := nI 1) hx hb d_L_law_548 (by decide +kernel) ?_
      refine lv_goto (tgt := 553) hx hb d_L_law_549 (by decide) ?_
      refine sx_asi (y := sx_bI true) rfl ?_
      have hPDc : sx_PD D (fun q : Nat => s.heap.size ≤ q) ((wX cA h (nI L) (nI na) (sx_bI sb) (nI n) (α 1) (α 2) ab un sv sf sl acts) ++ (wMa cA hm L cd n na sb α cm mk ++ sx_pool cA g K na)) H := hPD
      refine vp_callSi (va_runV (As := [.int (xs (i + 1)), .int (sx_bI true)]) (rest := []) ⟨hx, hb, hml, hown, hts⟩ (k_finishO l D cA h (nI L) na (sx_bI sb) (nI n) (α 1) (α 2) ab un sv sf sl acts (xs (i + 1)) hx0 true) (cwV 2 hts (sx_GV wd_321 wd_322 wd_323 wd_1 wd_324) rfl rfl rfl (by decide +kernel) ⟨Nat.le_of_ble_eq_true rfl, Nat.le_of_ble_eq_true rfl⟩) (sx_preV hK hPDc.left.1 (va_recv hK.1 hPDc.left.1 (ci := 3) (q0 := 0) rfl rfl)) rfl rfl hl.1 rfl (lv_room (Nat.le_of_ble_eq_true rfl)) d_L_law_553 ⟨(show cells + 0 ≤ 600000 by omega), (show slots + 0 ≤ 7302250 by omega)⟩).run (fun r_10 hr_11 => ?_)
      subst hr_11
      refine lv_aload_n hx hb d_L_law_556 rfl (lv_at hl 1 rfl) ?_
      refine lv_aload_n hx hb d_L_law_557 rfl (lv_at hl 3 rfl) ?_
      refine lv_iload_n hx hb d_L_law_558 rfl (lv_at hl 0 rfl) ?_
      refine lv_iconst (v := nI 1) hx hb d_L_law_559 (by decide +kernel) ?_
      refine lv_iadd hx hb d_L_law_560 ?_
      refine sx_asi (y := nI (i + 1)) (nI_add i 1) ?_
      refine va_sld hx hb hX hbl hbA hS (vp_in_nI (show i + 1 < N by omega) (by omega)) d_L_law_561 ?_
      refine sx_asi (congrArg xs (nI_clamp (show i + 1 < 2 ^ 31 by omega))) ?_
      refine lv_aload_n hx hb d_L_law_562 rfl (lv_at hl 3 rfl) ?_
      refine lv_iload_n hx hb d_L_law_563 rfl (lv_at hl 0 rfl) ?_
      refine lv_iconst (v := nI 2) hx hb d_L_law_564 (by decide +kernel) ?_
      refine lv_iadd hx hb d_L_law_565 ?_
      refine sx_asi (y := nI (i + 2)) (nI_add i 2) ?_
      refine va_sld hx hb hX hbl hbA hS (vp_in_nI (show i + 2 < N by omega) (by omega)) d_L_law_566 ?_
      refine sx_asi (congrArg xs (nI_clamp (show i + 2 < 2 ^ 31 by omega))) ?_
      refine lv_if_eq (tgt := 574) hx hb d_L_law_567 (by decide) (fun c_13 => ?_) (fun c_13 => ?_)
      · exact absurd c_13 c_1
      · refine lv_iconst (v := nI 1) hx hb d_L_law_570 (by decide +kernel) ?_
        refine lv_goto (tgt := 575) hx hb d_L_law_571 (by decide) ?_
        refine sx_asi (y := sx_bI true) rfl ?_
        have hPDc : sx_PD D (fun q : Nat => s.heap.size ≤ q) ((wMa cA hm L cd n na sb α cm mk) ++ (wX cA h (nI L) (nI na) (sx_bI sb) (nI n) (α 1) (α 2) ab un sv sf sl acts ++ sx_pool cA g K na)) H := hPD.perm sx_swap3
        refine sx_callL (wc := (wMa cA hm L cd n na sb α cm mk)) (wr := wX cA h (nI L) (nI na) (sx_bI sb) (nI n) (α 1) (α 2) ab un sv sf sl acts ++ sx_pool cA g K na) (va_runV (As := [.int (xs (i + 1)), .int (sx_bI true)]) (rest := [.int (-1)]) ⟨hx, hb, hml, hown, hts⟩ (m_finishO l D cA H.size hm L cd n na sb α cm mk (xs (i + 1)) hx0 true) (cwV 2 hts (sx_GV wd_530 wd_531 wd_532 wd_5 wd_533) rfl rfl rfl (by decide +kernel) ⟨Nat.le_of_ble_eq_true rfl, Nat.le_of_ble_eq_true rfl⟩) (sx_preVw hK hPDc.left.1 hPDc.left.2 (va_recv hK.1 hPDc.left.1 (ci := 4) (q0 := 0) rfl rfl)) rfl rfl hl.1 rfl (lv_room (Nat.le_of_ble_eq_true rfl)) d_L_law_575 ⟨(show cells + 0 ≤ 600000 by omega), (show slots + 0 ≤ 7302250 by omega)⟩) hPDc hS hA (fun r_14 u_16 H locs hr_15 hPD hS => ?_)
        refine W.widen (k := cells) (n := slots) (Nat.le_refl _) (Nat.le_refl _) ?_
        subst hr_15
        have hPD := hPD.perm sx_swap3
        refine lv_icmp_eq (tgt := 649) hx hb d_L_law_578 (by decide) (fun c_17 => ?_) (fun c_17 => ?_)
        · exact kk n na sb α ab un sv sf sl acts (nI 0) cm mk g K _ _ _ _ (hJ) (sx_LW_of rfl rfl hPD) hS (by omega) (by omega)
        · exact absurd rfl c_17
  · refine lv_aload_n hx hb d_L_law_534 rfl (lv_at hl 2 rfl) ?_
    refine lv_aload_n hx hb d_L_law_535 rfl (lv_at hl 3 rfl) ?_
    refine lv_iload_n hx hb d_L_law_536 rfl (lv_at hl 0 rfl) ?_
    refine lv_iconst (v := nI 1) hx hb d_L_law_537 (by decide +kernel) ?_
    refine lv_iadd hx hb d_L_law_538 ?_
    refine sx_asi (y := nI (i + 1)) (nI_add i 1) ?_
    refine va_sld hx hb hX hbl hbA hS (vp_in_nI (show i + 1 < N by omega) (by omega)) d_L_law_539 ?_
    refine sx_asi (congrArg xs (nI_clamp (show i + 1 < 2 ^ 31 by omega))) ?_
    refine sx_asi ek ?_
    refine lv_aload_n hx hb d_L_law_540 rfl (lv_at hl 3 rfl) ?_
    refine lv_iload_n hx hb d_L_law_541 rfl (lv_at hl 0 rfl) ?_
    refine lv_iconst (v := nI 2) hx hb d_L_law_542 (by decide +kernel) ?_
    refine lv_iadd hx hb d_L_law_543 ?_
    refine sx_asi (y := nI (i + 2)) (nI_add i 2) ?_
    refine va_sld hx hb hX hbl hbA hS (vp_in_nI (show i + 2 < N by omega) (by omega)) d_L_law_544 ?_
    refine sx_asi (congrArg xs (nI_clamp (show i + 2 < 2 ^ 31 by omega))) ?_
    refine lv_if_eq (tgt := 552) hx hb d_L_law_545 (by decide) (fun c_18 => ?_) (fun c_18 => ?_)
    · refine lv_iconst (v := nI 0) hx hb d_L_law_552 (by decide +kernel) ?_
      refine sx_asi (y := sx_bI false) rfl ?_
      have hPDc : sx_PD D (fun q : Nat => s.heap.size ≤ q) ((wXAk cA h (g k) (nI L) (nI na) (sx_bI sb) (nI n) (α 1) (α 2) ab un sv sf sl acts (K k)) ++ (wMa cA hm L cd n na sb α cm mk ++ sx_rest cA g K k na)) H := by rw [sx_XAk_eq]; exact hPD.perm (sx_take hk)
      refine sx_callL (wc := (wXAk cA h (g k) (nI L) (nI na) (sx_bI sb) (nI n) (α 1) (α 2) ab un sv sf sl acts (K k))) (wr := wMa cA hm L cd n na sb α cm mk ++ sx_rest cA g K k na) (va_runV (As := [.int (nI k), .int (sx_bI false)]) (rest := []) ⟨hx, hb, hml, hown, hts⟩ (k_finish l D cA H.size h (g k) n na L sb α ab un sv sf sl acts k (K k) hI hk hRP hRW (hRA k hk).1 (hRA k hk).2 false) (cwV 2 hts (sx_GV wd_321 wd_322 wd_323 wd_1 wd_324) rfl rfl rfl (by decide +kernel) ⟨Nat.le_of_ble_eq_true rfl, Nat.le_of_ble_eq_true rfl⟩) (sx_preVw hK hPDc.left.1 hPDc.left.2 (va_recv hK.1 hPDc.left.1 (ci := 3) (q0 := 0) rfl rfl)) rfl rfl hl.1 rfl (lv_room (Nat.le_of_ble_eq_true rfl)) d_L_law_553 ⟨(show cells + 0 ≤ 600000 by omega), (show slots + 0 ≤ 7302250 by omega)⟩) hPDc hS hA (fun r_19 u_21 H locs hr_20 hPD hS => ?_)
      refine W.widen (k := cells) (n := slots) (Nat.le_refl _) (Nat.le_refl _) ?_
      obtain ⟨hr_20, hRA2, hRW2⟩ := hr_20
      subst hr_20
      rw [sx_XAk_eq] at hPD
      have hPD := hPD.perm (sx_give hk)
      refine lv_aload_n hx hb d_L_law_556 rfl (lv_at hl 1 rfl) ?_
      refine lv_aload_n hx hb d_L_law_557 rfl (lv_at hl 3 rfl) ?_
      refine lv_iload_n hx hb d_L_law_558 rfl (lv_at hl 0 rfl) ?_
      refine lv_iconst (v := nI 1) hx hb d_L_law_559 (by decide +kernel) ?_
      refine lv_iadd hx hb d_L_law_560 ?_
      refine sx_asi (y := nI (i + 1)) (nI_add i 1) ?_
      refine va_sld hx hb hX hbl hbA hS (vp_in_nI (show i + 1 < N by omega) (by omega)) d_L_law_561 ?_
      refine sx_asi (congrArg xs (nI_clamp (show i + 1 < 2 ^ 31 by omega))) ?_
      refine sx_asi ek ?_
      refine lv_aload_n hx hb d_L_law_562 rfl (lv_at hl 3 rfl) ?_
      refine lv_iload_n hx hb d_L_law_563 rfl (lv_at hl 0 rfl) ?_
      refine lv_iconst (v := nI 2) hx hb d_L_law_564 (by decide +kernel) ?_
      refine lv_iadd hx hb d_L_law_565 ?_
      refine sx_asi (y := nI (i + 2)) (nI_add i 2) ?_
      refine va_sld hx hb hX hbl hbA hS (vp_in_nI (show i + 2 < N by omega) (by omega)) d_L_law_566 ?_
      refine sx_asi (congrArg xs (nI_clamp (show i + 2 < 2 ^ 31 by omega))) ?_
      refine lv_if_eq (tgt := 574) hx hb d_L_law_567 (by decide) (fun c_22 => ?_) (fun c_22 => ?_)
      · refine lv_iconst (v := nI 0) hx hb d_L_law_574 (by decide +kernel) ?_
        refine sx_asi (y := sx_bI false) rfl ?_
        have hPDc : sx_PD D (fun q : Nat => s.heap.size ≤ q) ((wMa cA hm L cd n na sb α cm mk) ++ (wX cA h (nI L) (nI na) (sx_bI sb) (nI n) (α 1) (α 2) ab un u_21.2.1 u_21.2.2.1 u_21.2.2.2 acts ++ sx_pool cA g (fun b => if b = k then u_21.1 else K b) na)) H := hPD.perm sx_swap3
        refine sx_callL (wc := (wMa cA hm L cd n na sb α cm mk)) (wr := wX cA h (nI L) (nI na) (sx_bI sb) (nI n) (α 1) (α 2) ab un u_21.2.1 u_21.2.2.1 u_21.2.2.2 acts ++ sx_pool cA g (fun b => if b = k then u_21.1 else K b) na) (va_runV (As := [.int (nI k), .int (sx_bI false)]) (rest := [.int (sx_finA n α k false)]) ⟨hx, hb, hml, hown, hts⟩ (m_finish l D cA H.size hm L cd n na sb α cm mk hI k hk false) (cwV 2 hts (sx_GV wd_530 wd_531 wd_532 wd_5 wd_533) rfl rfl rfl (by decide +kernel) ⟨Nat.le_of_ble_eq_true rfl, Nat.le_of_ble_eq_true rfl⟩) (sx_preVw hK hPDc.left.1 hPDc.left.2 (va_recv hK.1 hPDc.left.1 (ci := 4) (q0 := 0) rfl rfl)) rfl rfl hl.1 rfl (lv_room (Nat.le_of_ble_eq_true rfl)) d_L_law_575 ⟨(show cells + 0 ≤ 600000 by omega), (show slots + 0 ≤ 7302250 by omega)⟩) hPDc hS hA (fun r_23 u_25 H locs hr_24 hPD hS => ?_)
        refine W.widen (k := cells) (n := slots) (Nat.le_refl _) (Nat.le_refl _) ?_
        subst hr_24
        have hPD := hPD.perm sx_swap3
        refine lv_icmp_eq (tgt := 649) hx hb d_L_law_578 (by decide) (fun c_26 => ?_) (fun c_26 => ?_)
        · exact kk n na sb (sx_finS n α k false) ab un u_21.2.1 u_21.2.2.1 u_21.2.2.2 acts (nI 0) u_25.1 u_25.2 g (fun b => if b = k then u_21.1 else K b) _ _ _ _ (sx_LJ_fin hJ (sx_INV_fin hI hk) sx_OF_fin hRA2 hRW2) (sx_LW_of sx_OF_fin.1.1 sx_OF_fin.1.2 hPD) hS (by omega) (by omega)
        · exact absurd rfl c_26
      · exact absurd c_18 c_22
    · refine lv_iconst (v := nI 1) hx hb d_L_law_548 (by decide +kernel) ?_
      refine lv_goto (tgt := 553) hx hb d_L_law_549 (by decide) ?_
      refine sx_asi (y := sx_bI true) rfl ?_
      have hPDc : sx_PD D (fun q : Nat => s.heap.size ≤ q) ((wXAk cA h (g k) (nI L) (nI na) (sx_bI sb) (nI n) (α 1) (α 2) ab un sv sf sl acts (K k)) ++ (wMa cA hm L cd n na sb α cm mk ++ sx_rest cA g K k na)) H := by rw [sx_XAk_eq]; exact hPD.perm (sx_take hk)
      refine sx_callL (wc := (wXAk cA h (g k) (nI L) (nI na) (sx_bI sb) (nI n) (α 1) (α 2) ab un sv sf sl acts (K k))) (wr := wMa cA hm L cd n na sb α cm mk ++ sx_rest cA g K k na) (va_runV (As := [.int (nI k), .int (sx_bI true)]) (rest := []) ⟨hx, hb, hml, hown, hts⟩ (k_finish l D cA H.size h (g k) n na L sb α ab un sv sf sl acts k (K k) hI hk hRP hRW (hRA k hk).1 (hRA k hk).2 true) (cwV 2 hts (sx_GV wd_321 wd_322 wd_323 wd_1 wd_324) rfl rfl rfl (by decide +kernel) ⟨Nat.le_of_ble_eq_true rfl, Nat.le_of_ble_eq_true rfl⟩) (sx_preVw hK hPDc.left.1 hPDc.left.2 (va_recv hK.1 hPDc.left.1 (ci := 3) (q0 := 0) rfl rfl)) rfl rfl hl.1 rfl (lv_room (Nat.le_of_ble_eq_true rfl)) d_L_law_553 ⟨(show cells + 0 ≤ 600000 by omega), (show slots + 0 ≤ 7302250 by omega)⟩) hPDc hS hA (fun r_27 u_29 H locs hr_28 hPD hS => ?_)
      refine W.widen (k := cells) (n := slots) (Nat.le_refl _) (Nat.le_refl _) ?_
      obtain ⟨hr_28, hRA2, hRW2⟩ := hr_28
      subst hr_28
      rw [sx_XAk_eq] at hPD
      have hPD := hPD.perm (sx_give hk)
      refine lv_aload_n hx hb d_L_law_556 rfl (lv_at hl 1 rfl) ?_
      refine lv_aload_n hx hb d_L_law_557 rfl (lv_at hl 3 rfl) ?_
      refine lv_iload_n hx hb d_L_law_558 rfl (lv_at hl 0 rfl) ?_
      refine lv_iconst (v := nI 1) hx hb d_L_law_559 (by decide +kernel) ?_
      refine lv_iadd hx hb d_L_law_560 ?_
      refine sx_asi (y := nI (i + 1)) (nI_add i 1) ?_
      refine va_sld hx hb hX hbl hbA hS (vp_in_nI (show i + 1 < N by omega) (by omega)) d_L_law_561 ?_
      refine sx_asi (congrArg xs (nI_clamp (show i + 1 < 2 ^ 31 by omega))) ?_
      refine sx_asi ek ?_
      refine lv_aload_n hx hb d_L_law_562 rfl (lv_at hl 3 rfl) ?_
      refine lv_iload_n hx hb d_L_law_563 rfl (lv_at hl 0 rfl) ?_
      refine lv_iconst (v := nI 2) hx hb d_L_law_564 (by decide +kernel) ?_
      refine lv_iadd hx hb d_L_law_565 ?_
      refine sx_asi (y := nI (i + 2)) (nI_add i 2) ?_
      refine va_sld hx hb hX hbl hbA hS (vp_in_nI (show i + 2 < N by omega) (by omega)) d_L_law_566 ?_
      refine sx_asi (congrArg xs (nI_clamp (show i + 2 < 2 ^ 31 by omega))) ?_
      refine lv_if_eq (tgt := 574) hx hb d_L_law_567 (by decide) (fun c_30 => ?_) (fun c_30 => ?_)
      · exact absurd c_30 c_18
      · refine lv_iconst (v := nI 1) hx hb d_L_law_570 (by decide +kernel) ?_
        refine lv_goto (tgt := 575) hx hb d_L_law_571 (by decide) ?_
        refine sx_asi (y := sx_bI true) rfl ?_
        have hPDc : sx_PD D (fun q : Nat => s.heap.size ≤ q) ((wMa cA hm L cd n na sb α cm mk) ++ (wX cA h (nI L) (nI na) (sx_bI sb) (nI n) (α 1) (α 2) ab un u_29.2.1 u_29.2.2.1 u_29.2.2.2 acts ++ sx_pool cA g (fun b => if b = k then u_29.1 else K b) na)) H := hPD.perm sx_swap3
        refine sx_callL (wc := (wMa cA hm L cd n na sb α cm mk)) (wr := wX cA h (nI L) (nI na) (sx_bI sb) (nI n) (α 1) (α 2) ab un u_29.2.1 u_29.2.2.1 u_29.2.2.2 acts ++ sx_pool cA g (fun b => if b = k then u_29.1 else K b) na) (va_runV (As := [.int (nI k), .int (sx_bI true)]) (rest := [.int (sx_finA n α k true)]) ⟨hx, hb, hml, hown, hts⟩ (m_finish l D cA H.size hm L cd n na sb α cm mk hI k hk true) (cwV 2 hts (sx_GV wd_530 wd_531 wd_532 wd_5 wd_533) rfl rfl rfl (by decide +kernel) ⟨Nat.le_of_ble_eq_true rfl, Nat.le_of_ble_eq_true rfl⟩) (sx_preVw hK hPDc.left.1 hPDc.left.2 (va_recv hK.1 hPDc.left.1 (ci := 4) (q0 := 0) rfl rfl)) rfl rfl hl.1 rfl (lv_room (Nat.le_of_ble_eq_true rfl)) d_L_law_575 ⟨(show cells + 0 ≤ 600000 by omega), (show slots + 0 ≤ 7302250 by omega)⟩) hPDc hS hA (fun r_31 u_33 H locs hr_32 hPD hS => ?_)
        refine W.widen (k := cells) (n := slots) (Nat.le_refl _) (Nat.le_refl _) ?_
        subst hr_32
        have hPD := hPD.perm sx_swap3
        refine lv_icmp_eq (tgt := 649) hx hb d_L_law_578 (by decide) (fun c_34 => ?_) (fun c_34 => ?_)
        · exact kk n na sb (sx_finS n α k true) ab un u_29.2.1 u_29.2.2.1 u_29.2.2.2 acts (nI 0) u_33.1 u_33.2 g (fun b => if b = k then u_29.1 else K b) _ _ _ _ (sx_LJ_fin hJ (sx_INV_fin hI hk) sx_OF_fin hRA2 hRW2) (sx_LW_of sx_OF_fin.1.1 sx_OF_fin.1.2 hPD) hS (by omega) (by omega)
        · exact absurd rfl c_34

set_option maxHeartbeats 4000000 in
set_option maxRecDepth 100000 in
theorem law_tried {p : Program} {l : Launch} {e : Env} {s : State} {m : MethodId} {below : List Frame} {meth : Method} {c : Code} {b N : Nat} {xs : Nat → Int32} {D : va_G} {cA : Nat → ClassId} {h hm : Nat → Nat} {L : Nat} {ls : Array Slot} {Q : State → Prop} (C0 : lw_At p s m meth c b N xs) (hN : N ≤ 2049) (hK : sx_K D cA s) (i : Nat) (hi : i + 4 ≤ N) (hl : lv_has ls 4 [(3, .int (nI i)), (2, .ref (hm 0)), (1, .ref (h 0)), (0, .ref b)]) (kk : sx_KO p l e s m below meth c D cA b h hm L ls Q) {n na : Nat} {sb : Bool} {α : sx_A} {ab un : Nat → Int64} {sv : Nat → Int32} {sf sl : Int64} {acts : Nat → Option Nat} {cd : Int32} {cm mk : Nat → Int32} {g : Nat → Nat → Nat} {K : Nat → sx_KA} {H : Heap} {locs : List Loc} {cells slots : Nat} (hJ : sx_LJ L n na α ab un sv sf sl acts g K) (hPD : sx_PD D (fun q : Nat => s.heap.size ≤ q) (sx_LW cA h hm L n na sb α ab un sv sf sl acts cd cm mk g K) H) (hS : va_S (fun q : Nat => s.heap.size ≤ q) s.heap H locs) (hc : cells ≤ 26 + 6 * na) (hsl : slots ≤ 2155 + 159 * na) : W p l e room_1 s m #[Value.ref b] below meth c H locs cells slots Q (F0 m 583 ls []) := by
  obtain ⟨hx, hb, hr, hml, hown, hts0, hX, hbl, hlocks, hgv⟩ := C0
  have hts : ∀ w ∈ sx_gw, w.before #[Value.ref b] s = true := fun w hw => hts0 w (sx_gw_tbl hw)
  have hA : ∀ q : Nat, s.heap.size ≤ q → (fun q : Nat => s.heap.size ≤ q) q := fun _ h => h
  have hbA : ¬ (fun q : Nat => s.heap.size ≤ q) b := Nat.not_le.mpr hbl
  obtain ⟨hI, hRP, hRW, hRA⟩ := id hJ
  have hna10 := hI.1.2.1
  have hPD : sx_PD D (fun q : Nat => s.heap.size ≤ q) (wX cA h (nI L) (nI na) (sx_bI sb) (nI n) (α 1) (α 2) ab un sv sf sl acts ++ (wMa cA hm L cd n na sb α cm mk ++ sx_pool cA g K na)) H := hPD
  rcases sx_range hna10 (xs (i + 1)) with hx0 | ⟨k, hk, ek⟩
  · refine lv_aload_n hx hb d_L_law_583 rfl (lv_at hl 2 rfl) ?_
    refine lv_aload_n hx hb d_L_law_584 rfl (lv_at hl 3 rfl) ?_
    refine lv_iload_n hx hb d_L_law_585 rfl (lv_at hl 0 rfl) ?_
    refine lv_iconst (v := nI 1) hx hb d_L_law_586 (by decide +kernel) ?_
    refine lv_iadd hx hb d_L_law_587 ?_
    refine sx_asi (y := nI (i + 1)) (nI_add i 1) ?_
    refine va_sld hx hb hX hbl hbA hS (vp_in_nI (show i + 1 < N by omega) (by omega)) d_L_law_588 ?_
    refine sx_asi (congrArg xs (nI_clamp (show i + 1 < 2 ^ 31 by omega))) ?_
    refine lv_aload_n hx hb d_L_law_589 rfl (lv_at hl 3 rfl) ?_
    refine lv_iload_n hx hb d_L_law_590 rfl (lv_at hl 0 rfl) ?_
    refine lv_iconst (v := nI 2) hx hb d_L_law_591 (by decide +kernel) ?_
    refine lv_iadd hx hb d_L_law_592 ?_
    refine sx_asi (y := nI (i + 2)) (nI_add i 2) ?_
    refine va_sld hx hb hX hbl hbA hS (vp_in_nI (show i + 2 < N by omega) (by omega)) d_L_law_593 ?_
    refine sx_asi (congrArg xs (nI_clamp (show i + 2 < 2 ^ 31 by omega))) ?_
    have hPDc : sx_PD D (fun q : Nat => s.heap.size ≤ q) ((wX cA h (nI L) (nI na) (sx_bI sb) (nI n) (α 1) (α 2) ab un sv sf sl acts) ++ (wMa cA hm L cd n na sb α cm mk ++ sx_pool cA g K na)) H := hPD
    refine vp_callSi (va_runV (As := [.int (xs (i + 1)), .int (xs (i + 2))]) (rest := []) ⟨hx, hb, hml, hown, hts⟩ (k_triedO l D cA h (nI L) na (sx_bI sb) (nI n) (α 1) (α 2) ab un sv sf sl acts (xs (i + 1)) hx0 (xs (i + 2))) (cwV 2 hts (sx_GV wd_347 wd_348 wd_349 wd_1 wd_350) rfl rfl rfl (by decide +kernel) ⟨Nat.le_of_ble_eq_true rfl, Nat.le_of_ble_eq_true rfl⟩) (sx_preV hK hPDc.left.1 (va_recv hK.1 hPDc.left.1 (ci := 3) (q0 := 0) rfl rfl)) rfl rfl hl.1 rfl (lv_room (Nat.le_of_ble_eq_true rfl)) d_L_law_594 ⟨(show cells + 0 ≤ 600000 by omega), (show slots + 0 ≤ 7302250 by omega)⟩).run (fun r_1 hr_2 => ?_)
    subst hr_2
    refine lv_aload_n hx hb d_L_law_597 rfl (lv_at hl 1 rfl) ?_
    refine lv_aload_n hx hb d_L_law_598 rfl (lv_at hl 3 rfl) ?_
    refine lv_iload_n hx hb d_L_law_599 rfl (lv_at hl 0 rfl) ?_
    refine lv_iconst (v := nI 1) hx hb d_L_law_600 (by decide +kernel) ?_
    refine lv_iadd hx hb d_L_law_601 ?_
    refine sx_asi (y := nI (i + 1)) (nI_add i 1) ?_
    refine va_sld hx hb hX hbl hbA hS (vp_in_nI (show i + 1 < N by omega) (by omega)) d_L_law_602 ?_
    refine sx_asi (congrArg xs (nI_clamp (show i + 1 < 2 ^ 31 by omega))) ?_
    refine lv_aload_n hx hb d_L_law_603 rfl (lv_at hl 3 rfl) ?_
    refine lv_iload_n hx hb d_L_law_604 rfl (lv_at hl 0 rfl) ?_
    refine lv_iconst (v := nI 2) hx hb d_L_law_605 (by decide +kernel) ?_
    refine lv_iadd hx hb d_L_law_606 ?_
    refine sx_asi (y := nI (i + 2)) (nI_add i 2) ?_
    refine va_sld hx hb hX hbl hbA hS (vp_in_nI (show i + 2 < N by omega) (by omega)) d_L_law_607 ?_
    refine sx_asi (congrArg xs (nI_clamp (show i + 2 < 2 ^ 31 by omega))) ?_
    have hPDc : sx_PD D (fun q : Nat => s.heap.size ≤ q) ((wMa cA hm L cd n na sb α cm mk) ++ (wX cA h (nI L) (nI na) (sx_bI sb) (nI n) (α 1) (α 2) ab un sv sf sl acts ++ sx_pool cA g K na)) H := hPD.perm sx_swap3
    refine sx_callL (wc := (wMa cA hm L cd n na sb α cm mk)) (wr := wX cA h (nI L) (nI na) (sx_bI sb) (nI n) (α 1) (α 2) ab un sv sf sl acts ++ sx_pool cA g K na) (va_runV (As := [.int (xs (i + 1)), .int (xs (i + 2))]) (rest := [.int (-1)]) ⟨hx, hb, hml, hown, hts⟩ (m_triedO l D cA H.size hm L cd n na sb α cm mk (xs (i + 1)) hx0 (xs (i + 2))) (cwV 2 hts (sx_GV wd_550 wd_551 wd_552 wd_5 wd_553) rfl rfl rfl (by decide +kernel) ⟨Nat.le_of_ble_eq_true rfl, Nat.le_of_ble_eq_true rfl⟩) (sx_preVw hK hPDc.left.1 hPDc.left.2 (va_recv hK.1 hPDc.left.1 (ci := 4) (q0 := 0) rfl rfl)) rfl rfl hl.1 rfl (lv_room (Nat.le_of_ble_eq_true rfl)) d_L_law_608 ⟨(show cells + 0 ≤ 600000 by omega), (show slots + 0 ≤ 7302250 by omega)⟩) hPDc hS hA (fun r_4 u_6 H locs hr_5 hPD hS => ?_)
    refine W.widen (k := cells) (n := slots) (Nat.le_refl _) (Nat.le_refl _) ?_
    subst hr_5
    have hPD := hPD.perm sx_swap3
    refine lv_icmp_eq (tgt := 649) hx hb d_L_law_611 (by decide) (fun c_7 => ?_) (fun c_7 => ?_)
    · exact kk n na sb α ab un sv sf sl acts (nI 0) cm mk g K _ _ _ _ (hJ) (sx_LW_of rfl rfl hPD) hS (by omega) (by omega)
    · exact absurd rfl c_7
  · refine lv_aload_n hx hb d_L_law_583 rfl (lv_at hl 2 rfl) ?_
    refine lv_aload_n hx hb d_L_law_584 rfl (lv_at hl 3 rfl) ?_
    refine lv_iload_n hx hb d_L_law_585 rfl (lv_at hl 0 rfl) ?_
    refine lv_iconst (v := nI 1) hx hb d_L_law_586 (by decide +kernel) ?_
    refine lv_iadd hx hb d_L_law_587 ?_
    refine sx_asi (y := nI (i + 1)) (nI_add i 1) ?_
    refine va_sld hx hb hX hbl hbA hS (vp_in_nI (show i + 1 < N by omega) (by omega)) d_L_law_588 ?_
    refine sx_asi (congrArg xs (nI_clamp (show i + 1 < 2 ^ 31 by omega))) ?_
    refine sx_asi ek ?_
    refine lv_aload_n hx hb d_L_law_589 rfl (lv_at hl 3 rfl) ?_
    refine lv_iload_n hx hb d_L_law_590 rfl (lv_at hl 0 rfl) ?_
    refine lv_iconst (v := nI 2) hx hb d_L_law_591 (by decide +kernel) ?_
    refine lv_iadd hx hb d_L_law_592 ?_
    refine sx_asi (y := nI (i + 2)) (nI_add i 2) ?_
    refine va_sld hx hb hX hbl hbA hS (vp_in_nI (show i + 2 < N by omega) (by omega)) d_L_law_593 ?_
    refine sx_asi (congrArg xs (nI_clamp (show i + 2 < 2 ^ 31 by omega))) ?_
    have hPDc : sx_PD D (fun q : Nat => s.heap.size ≤ q) ((wXAk cA h (g k) (nI L) (nI na) (sx_bI sb) (nI n) (α 1) (α 2) ab un sv sf sl acts (K k)) ++ (wMa cA hm L cd n na sb α cm mk ++ sx_rest cA g K k na)) H := by rw [sx_XAk_eq]; exact hPD.perm (sx_take hk)
    refine vp_callSi (va_runV (As := [.int (nI k), .int (xs (i + 2))]) (rest := []) ⟨hx, hb, hml, hown, hts⟩ (k_tried l D cA h (g k) n na L sb α ab un sv sf sl acts k (K k) hI hk hRP hRW (hRA k hk).1 (hRA k hk).2 (xs (i + 2))) (cwV 2 hts (sx_GV wd_347 wd_348 wd_349 wd_1 wd_350) rfl rfl rfl (by decide +kernel) ⟨Nat.le_of_ble_eq_true rfl, Nat.le_of_ble_eq_true rfl⟩) (sx_preV hK hPDc.left.1 (va_recv hK.1 hPDc.left.1 (ci := 3) (q0 := 0) rfl rfl)) rfl rfl hl.1 rfl (lv_room (Nat.le_of_ble_eq_true rfl)) d_L_law_594 ⟨(show cells + 0 ≤ 600000 by omega), (show slots + 0 ≤ 7302250 by omega)⟩).run (fun r_8 hr_9 => ?_)
    subst hr_9
    refine lv_aload_n hx hb d_L_law_597 rfl (lv_at hl 1 rfl) ?_
    refine lv_aload_n hx hb d_L_law_598 rfl (lv_at hl 3 rfl) ?_
    refine lv_iload_n hx hb d_L_law_599 rfl (lv_at hl 0 rfl) ?_
    refine lv_iconst (v := nI 1) hx hb d_L_law_600 (by decide +kernel) ?_
    refine lv_iadd hx hb d_L_law_601 ?_
    refine sx_asi (y := nI (i + 1)) (nI_add i 1) ?_
    refine va_sld hx hb hX hbl hbA hS (vp_in_nI (show i + 1 < N by omega) (by omega)) d_L_law_602 ?_
    refine sx_asi (congrArg xs (nI_clamp (show i + 1 < 2 ^ 31 by omega))) ?_
    refine sx_asi ek ?_
    refine lv_aload_n hx hb d_L_law_603 rfl (lv_at hl 3 rfl) ?_
    refine lv_iload_n hx hb d_L_law_604 rfl (lv_at hl 0 rfl) ?_
    refine lv_iconst (v := nI 2) hx hb d_L_law_605 (by decide +kernel) ?_
    refine lv_iadd hx hb d_L_law_606 ?_
    refine sx_asi (y := nI (i + 2)) (nI_add i 2) ?_
    refine va_sld hx hb hX hbl hbA hS (vp_in_nI (show i + 2 < N by omega) (by omega)) d_L_law_607 ?_
    refine sx_asi (congrArg xs (nI_clamp (show i + 2 < 2 ^ 31 by omega))) ?_
    have hPDc : sx_PD D (fun q : Nat => s.heap.size ≤ q) ((wMa cA hm L cd n na sb α cm mk) ++ (wX cA h (nI L) (nI na) (sx_bI sb) (nI n) (α 1) (α 2) ab un sv sf sl acts ++ sx_pool cA g K na)) H := hPD.perm sx_swap3
    refine sx_callL (wc := (wMa cA hm L cd n na sb α cm mk)) (wr := wX cA h (nI L) (nI na) (sx_bI sb) (nI n) (α 1) (α 2) ab un sv sf sl acts ++ sx_pool cA g K na) (va_runV (As := [.int (nI k), .int (xs (i + 2))]) (rest := [.int (sx_triA α k (xs (i + 2)))]) ⟨hx, hb, hml, hown, hts⟩ (m_tried l D cA H.size hm L cd n na sb α cm mk hI k hk (xs (i + 2))) (cwV 2 hts (sx_GV wd_550 wd_551 wd_552 wd_5 wd_553) rfl rfl rfl (by decide +kernel) ⟨Nat.le_of_ble_eq_true rfl, Nat.le_of_ble_eq_true rfl⟩) (sx_preVw hK hPDc.left.1 hPDc.left.2 (va_recv hK.1 hPDc.left.1 (ci := 4) (q0 := 0) rfl rfl)) rfl rfl hl.1 rfl (lv_room (Nat.le_of_ble_eq_true rfl)) d_L_law_608 ⟨(show cells + 0 ≤ 600000 by omega), (show slots + 0 ≤ 7302250 by omega)⟩) hPDc hS hA (fun r_11 u_13 H locs hr_12 hPD hS => ?_)
    refine W.widen (k := cells) (n := slots) (Nat.le_refl _) (Nat.le_refl _) ?_
    subst hr_12
    have hPD := hPD.perm sx_swap3
    refine lv_icmp_eq (tgt := 649) hx hb d_L_law_611 (by decide) (fun c_14 => ?_) (fun c_14 => ?_)
    · exact kk n na sb α ab un sv sf sl acts (nI 0) cm mk g K _ _ _ _ (hJ) (sx_LW_of rfl rfl hPD) hS (by omega) (by omega)
    · exact absurd rfl c_14

set_option maxHeartbeats 4000000 in
set_option maxRecDepth 100000 in
theorem law_about {p : Program} {l : Launch} {e : Env} {s : State} {m : MethodId} {below : List Frame} {meth : Method} {c : Code} {b N : Nat} {xs : Nat → Int32} {D : va_G} {cA : Nat → ClassId} {h hm : Nat → Nat} {L : Nat} {ls : Array Slot} {Q : State → Prop} (C0 : lw_At p s m meth c b N xs) (hN : N ≤ 2049) (hK : sx_K D cA s) (i : Nat) (hi : i + 4 ≤ N) (hl : lv_has ls 4 [(3, .int (nI i)), (2, .ref (hm 0)), (1, .ref (h 0)), (0, .ref b)]) (kk : sx_KO p l e s m below meth c D cA b h hm L ls Q) {n na : Nat} {sb : Bool} {α : sx_A} {ab un : Nat → Int64} {sv : Nat → Int32} {sf sl : Int64} {acts : Nat → Option Nat} {cd : Int32} {cm mk : Nat → Int32} {g : Nat → Nat → Nat} {K : Nat → sx_KA} {H : Heap} {locs : List Loc} {cells slots : Nat} (hJ : sx_LJ L n na α ab un sv sf sl acts g K) (hPD : sx_PD D (fun q : Nat => s.heap.size ≤ q) (sx_LW cA h hm L n na sb α ab un sv sf sl acts cd cm mk g K) H) (hS : va_S (fun q : Nat => s.heap.size ≤ q) s.heap H locs) (hc : cells ≤ 26 + 6 * na) (hsl : slots ≤ 2155 + 159 * na) : W p l e room_1 s m #[Value.ref b] below meth c H locs cells slots Q (F0 m 616 ls []) := by
  obtain ⟨hx, hb, hr, hml, hown, hts0, hX, hbl, hlocks, hgv⟩ := C0
  have hts : ∀ w ∈ sx_gw, w.before #[Value.ref b] s = true := fun w hw => hts0 w (sx_gw_tbl hw)
  have hA : ∀ q : Nat, s.heap.size ≤ q → (fun q : Nat => s.heap.size ≤ q) q := fun _ h => h
  have hbA : ¬ (fun q : Nat => s.heap.size ≤ q) b := Nat.not_le.mpr hbl
  obtain ⟨hI, hRP, hRW, hRA⟩ := id hJ
  have hna10 := hI.1.2.1
  have hPD : sx_PD D (fun q : Nat => s.heap.size ≤ q) (wX cA h (nI L) (nI na) (sx_bI sb) (nI n) (α 1) (α 2) ab un sv sf sl acts ++ (wMa cA hm L cd n na sb α cm mk ++ sx_pool cA g K na)) H := hPD
  rcases sx_range hna10 (xs (i + 1)) with hx0 | ⟨k, hk, ek⟩
  · refine lv_aload_n hx hb d_L_law_616 rfl (lv_at hl 2 rfl) ?_
    refine lv_aload_n hx hb d_L_law_617 rfl (lv_at hl 3 rfl) ?_
    refine lv_iload_n hx hb d_L_law_618 rfl (lv_at hl 0 rfl) ?_
    refine lv_iconst (v := nI 1) hx hb d_L_law_619 (by decide +kernel) ?_
    refine lv_iadd hx hb d_L_law_620 ?_
    refine sx_asi (y := nI (i + 1)) (nI_add i 1) ?_
    refine va_sld hx hb hX hbl hbA hS (vp_in_nI (show i + 1 < N by omega) (by omega)) d_L_law_621 ?_
    refine sx_asi (congrArg xs (nI_clamp (show i + 1 < 2 ^ 31 by omega))) ?_
    refine lv_aload_n hx hb d_L_law_622 rfl (lv_at hl 3 rfl) ?_
    refine lv_iload_n hx hb d_L_law_623 rfl (lv_at hl 0 rfl) ?_
    refine lv_iconst (v := nI 2) hx hb d_L_law_624 (by decide +kernel) ?_
    refine lv_iadd hx hb d_L_law_625 ?_
    refine sx_asi (y := nI (i + 2)) (nI_add i 2) ?_
    refine va_sld hx hb hX hbl hbA hS (vp_in_nI (show i + 2 < N by omega) (by omega)) d_L_law_626 ?_
    refine sx_asi (congrArg xs (nI_clamp (show i + 2 < 2 ^ 31 by omega))) ?_
    have hPDc : sx_PD D (fun q : Nat => s.heap.size ≤ q) ((wX cA h (nI L) (nI na) (sx_bI sb) (nI n) (α 1) (α 2) ab un sv sf sl acts) ++ (wMa cA hm L cd n na sb α cm mk ++ sx_pool cA g K na)) H := hPD
    refine vp_callSi (va_runV (As := [.int (xs (i + 1)), .int (xs (i + 2))]) (rest := []) ⟨hx, hb, hml, hown, hts⟩ (k_aboutO l D cA h (nI L) na (sx_bI sb) (nI n) (α 1) (α 2) ab un sv sf sl acts (xs (i + 1)) hx0 (xs (i + 2))) (cwV 2 hts (sx_GV wd_351 wd_352 wd_353 wd_1 wd_354) rfl rfl rfl (by decide +kernel) ⟨Nat.le_of_ble_eq_true rfl, Nat.le_of_ble_eq_true rfl⟩) (sx_preV hK hPDc.left.1 (va_recv hK.1 hPDc.left.1 (ci := 3) (q0 := 0) rfl rfl)) rfl rfl hl.1 rfl (lv_room (Nat.le_of_ble_eq_true rfl)) d_L_law_627 ⟨(show cells + 0 ≤ 600000 by omega), (show slots + 0 ≤ 7302250 by omega)⟩).run (fun r_1 hr_2 => ?_)
    subst hr_2
    refine lv_aload_n hx hb d_L_law_630 rfl (lv_at hl 1 rfl) ?_
    refine lv_aload_n hx hb d_L_law_631 rfl (lv_at hl 3 rfl) ?_
    refine lv_iload_n hx hb d_L_law_632 rfl (lv_at hl 0 rfl) ?_
    refine lv_iconst (v := nI 1) hx hb d_L_law_633 (by decide +kernel) ?_
    refine lv_iadd hx hb d_L_law_634 ?_
    refine sx_asi (y := nI (i + 1)) (nI_add i 1) ?_
    refine va_sld hx hb hX hbl hbA hS (vp_in_nI (show i + 1 < N by omega) (by omega)) d_L_law_635 ?_
    refine sx_asi (congrArg xs (nI_clamp (show i + 1 < 2 ^ 31 by omega))) ?_
    refine lv_aload_n hx hb d_L_law_636 rfl (lv_at hl 3 rfl) ?_
    refine lv_iload_n hx hb d_L_law_637 rfl (lv_at hl 0 rfl) ?_
    refine lv_iconst (v := nI 2) hx hb d_L_law_638 (by decide +kernel) ?_
    refine lv_iadd hx hb d_L_law_639 ?_
    refine sx_asi (y := nI (i + 2)) (nI_add i 2) ?_
    refine va_sld hx hb hX hbl hbA hS (vp_in_nI (show i + 2 < N by omega) (by omega)) d_L_law_640 ?_
    refine sx_asi (congrArg xs (nI_clamp (show i + 2 < 2 ^ 31 by omega))) ?_
    have hPDc : sx_PD D (fun q : Nat => s.heap.size ≤ q) ((wMa cA hm L cd n na sb α cm mk) ++ (wX cA h (nI L) (nI na) (sx_bI sb) (nI n) (α 1) (α 2) ab un sv sf sl acts ++ sx_pool cA g K na)) H := hPD.perm sx_swap3
    refine sx_callL (wc := (wMa cA hm L cd n na sb α cm mk)) (wr := wX cA h (nI L) (nI na) (sx_bI sb) (nI n) (α 1) (α 2) ab un sv sf sl acts ++ sx_pool cA g K na) (va_runV (As := [.int (xs (i + 1)), .int (xs (i + 2))]) (rest := [.int (-1)]) ⟨hx, hb, hml, hown, hts⟩ (m_aboutO l D cA H.size hm L cd n na sb α cm mk (xs (i + 1)) hx0 (xs (i + 2))) (cwV 2 hts (sx_GV wd_554 wd_555 wd_556 wd_5 wd_557) rfl rfl rfl (by decide +kernel) ⟨Nat.le_of_ble_eq_true rfl, Nat.le_of_ble_eq_true rfl⟩) (sx_preVw hK hPDc.left.1 hPDc.left.2 (va_recv hK.1 hPDc.left.1 (ci := 4) (q0 := 0) rfl rfl)) rfl rfl hl.1 rfl (lv_room (Nat.le_of_ble_eq_true rfl)) d_L_law_641 ⟨(show cells + 0 ≤ 600000 by omega), (show slots + 0 ≤ 7302250 by omega)⟩) hPDc hS hA (fun r_4 u_6 H locs hr_5 hPD hS => ?_)
    refine W.widen (k := cells) (n := slots) (Nat.le_refl _) (Nat.le_refl _) ?_
    subst hr_5
    have hPD := hPD.perm sx_swap3
    refine lv_icmp_eq (tgt := 649) hx hb d_L_law_644 (by decide) (fun c_7 => ?_) (fun c_7 => ?_)
    · exact kk n na sb α ab un sv sf sl acts (nI 0) cm mk g K _ _ _ _ (hJ) (sx_LW_of rfl rfl hPD) hS (by omega) (by omega)
    · exact absurd rfl c_7
  · refine lv_aload_n hx hb d_L_law_616 rfl (lv_at hl 2 rfl) ?_
    refine lv_aload_n hx hb d_L_law_617 rfl (lv_at hl 3 rfl) ?_
    refine lv_iload_n hx hb d_L_law_618 rfl (lv_at hl 0 rfl) ?_
    refine lv_iconst (v := nI 1) hx hb d_L_law_619 (by decide +kernel) ?_
    refine lv_iadd hx hb d_L_law_620 ?_
    refine sx_asi (y := nI (i + 1)) (nI_add i 1) ?_
    refine va_sld hx hb hX hbl hbA hS (vp_in_nI (show i + 1 < N by omega) (by omega)) d_L_law_621 ?_
    refine sx_asi (congrArg xs (nI_clamp (show i + 1 < 2 ^ 31 by omega))) ?_
    refine sx_asi ek ?_
    refine lv_aload_n hx hb d_L_law_622 rfl (lv_at hl 3 rfl) ?_
    refine lv_iload_n hx hb d_L_law_623 rfl (lv_at hl 0 rfl) ?_
    refine lv_iconst (v := nI 2) hx hb d_L_law_624 (by decide +kernel) ?_
    refine lv_iadd hx hb d_L_law_625 ?_
    refine sx_asi (y := nI (i + 2)) (nI_add i 2) ?_
    refine va_sld hx hb hX hbl hbA hS (vp_in_nI (show i + 2 < N by omega) (by omega)) d_L_law_626 ?_
    refine sx_asi (congrArg xs (nI_clamp (show i + 2 < 2 ^ 31 by omega))) ?_
    have hPDc : sx_PD D (fun q : Nat => s.heap.size ≤ q) ((wXAk cA h (g k) (nI L) (nI na) (sx_bI sb) (nI n) (α 1) (α 2) ab un sv sf sl acts (K k)) ++ (wMa cA hm L cd n na sb α cm mk ++ sx_rest cA g K k na)) H := by rw [sx_XAk_eq]; exact hPD.perm (sx_take hk)
    refine vp_callSi (va_runV (As := [.int (nI k), .int (xs (i + 2))]) (rest := []) ⟨hx, hb, hml, hown, hts⟩ (k_about l D cA h (g k) n na L sb α ab un sv sf sl acts k (K k) hI hk hRP hRW (hRA k hk).1 (hRA k hk).2 (xs (i + 2))) (cwV 2 hts (sx_GV wd_351 wd_352 wd_353 wd_1 wd_354) rfl rfl rfl (by decide +kernel) ⟨Nat.le_of_ble_eq_true rfl, Nat.le_of_ble_eq_true rfl⟩) (sx_preV hK hPDc.left.1 (va_recv hK.1 hPDc.left.1 (ci := 3) (q0 := 0) rfl rfl)) rfl rfl hl.1 rfl (lv_room (Nat.le_of_ble_eq_true rfl)) d_L_law_627 ⟨(show cells + 0 ≤ 600000 by omega), (show slots + 0 ≤ 7302250 by omega)⟩).run (fun r_8 hr_9 => ?_)
    subst hr_9
    refine lv_aload_n hx hb d_L_law_630 rfl (lv_at hl 1 rfl) ?_
    refine lv_aload_n hx hb d_L_law_631 rfl (lv_at hl 3 rfl) ?_
    refine lv_iload_n hx hb d_L_law_632 rfl (lv_at hl 0 rfl) ?_
    refine lv_iconst (v := nI 1) hx hb d_L_law_633 (by decide +kernel) ?_
    refine lv_iadd hx hb d_L_law_634 ?_
    refine sx_asi (y := nI (i + 1)) (nI_add i 1) ?_
    refine va_sld hx hb hX hbl hbA hS (vp_in_nI (show i + 1 < N by omega) (by omega)) d_L_law_635 ?_
    refine sx_asi (congrArg xs (nI_clamp (show i + 1 < 2 ^ 31 by omega))) ?_
    refine sx_asi ek ?_
    refine lv_aload_n hx hb d_L_law_636 rfl (lv_at hl 3 rfl) ?_
    refine lv_iload_n hx hb d_L_law_637 rfl (lv_at hl 0 rfl) ?_
    refine lv_iconst (v := nI 2) hx hb d_L_law_638 (by decide +kernel) ?_
    refine lv_iadd hx hb d_L_law_639 ?_
    refine sx_asi (y := nI (i + 2)) (nI_add i 2) ?_
    refine va_sld hx hb hX hbl hbA hS (vp_in_nI (show i + 2 < N by omega) (by omega)) d_L_law_640 ?_
    refine sx_asi (congrArg xs (nI_clamp (show i + 2 < 2 ^ 31 by omega))) ?_
    have hPDc : sx_PD D (fun q : Nat => s.heap.size ≤ q) ((wMa cA hm L cd n na sb α cm mk) ++ (wX cA h (nI L) (nI na) (sx_bI sb) (nI n) (α 1) (α 2) ab un sv sf sl acts ++ sx_pool cA g K na)) H := hPD.perm sx_swap3
    refine sx_callL (wc := (wMa cA hm L cd n na sb α cm mk)) (wr := wX cA h (nI L) (nI na) (sx_bI sb) (nI n) (α 1) (α 2) ab un sv sf sl acts ++ sx_pool cA g K na) (va_runV (As := [.int (nI k), .int (xs (i + 2))]) (rest := [.int (sx_aboA α k (xs (i + 2)))]) ⟨hx, hb, hml, hown, hts⟩ (m_about l D cA H.size hm L cd n na sb α cm mk hI k hk (xs (i + 2))) (cwV 2 hts (sx_GV wd_554 wd_555 wd_556 wd_5 wd_557) rfl rfl rfl (by decide +kernel) ⟨Nat.le_of_ble_eq_true rfl, Nat.le_of_ble_eq_true rfl⟩) (sx_preVw hK hPDc.left.1 hPDc.left.2 (va_recv hK.1 hPDc.left.1 (ci := 4) (q0 := 0) rfl rfl)) rfl rfl hl.1 rfl (lv_room (Nat.le_of_ble_eq_true rfl)) d_L_law_641 ⟨(show cells + 0 ≤ 600000 by omega), (show slots + 0 ≤ 7302250 by omega)⟩) hPDc hS hA (fun r_11 u_13 H locs hr_12 hPD hS => ?_)
    refine W.widen (k := cells) (n := slots) (Nat.le_refl _) (Nat.le_refl _) ?_
    subst hr_12
    have hPD := hPD.perm sx_swap3
    refine lv_icmp_eq (tgt := 649) hx hb d_L_law_644 (by decide) (fun c_14 => ?_) (fun c_14 => ?_)
    · exact kk n na sb α ab un sv sf sl acts (nI 0) cm mk g K _ _ _ _ (hJ) (sx_LW_of rfl rfl hPD) hS (by omega) (by omega)
    · exact absurd rfl c_14
