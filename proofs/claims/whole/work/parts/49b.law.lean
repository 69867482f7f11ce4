set_option maxHeartbeats 4000000 in
set_option maxRecDepth 100000 in
theorem law_declare {p : Program} {l : Launch} {e : Env} {s : State} {m : MethodId} {below : List Frame} {meth : Method} {c : Code} {b N : Nat} {xs : Nat → Int32} {D : va_G} {cA : Nat → ClassId} {h hm : Nat → Nat} {L : Nat} {ls : Array Slot} {Q : State → Prop} (C0 : lw_At p s m meth c b N xs) (hN : N ≤ 2049) (hK : sx_K D cA s) (i : Nat) (hi : i + 4 ≤ N) (hl : lv_has ls 4 [(3, .int (nI i)), (2, .ref (hm 0)), (1, .ref (h 0)), (0, .ref b)]) (kk : sx_KO p l e s m below meth c D cA b h hm L ls Q) {n na : Nat} {sb : Bool} {α : sx_A} {ab un : Nat → Int64} {sv : Nat → Int32} {sf sl : Int64} {acts : Nat → Option Nat} {cd : Int32} {cm mk : Nat → Int32} {g : Nat → Nat → Nat} {K : Nat → sx_KA} {H : Heap} {locs : List Loc} {cells slots : Nat} (hJ : sx_LJ L n na α ab un sv sf sl acts g K) (hPD : sx_PD D (fun q : Nat => s.heap.size ≤ q) (sx_LW cA h hm L n na sb α ab un sv sf sl acts cd cm mk g K) H) (hS : va_S (fun q : Nat => s.heap.size ≤ q) s.heap H locs) (hc : cells ≤ 26 + 6 * na) (hsl : slots ≤ 2155 + 159 * na) : W p l e room_1 s m #[Value.ref b] below meth c H locs cells slots Q (F0 m 220 ls []) := by
  obtain ⟨hx, hb, hr, hml, hown, hts0, hX, hbl, hlocks, hgv⟩ := C0
  have hts : ∀ w ∈ sx_gw, w.before #[Value.ref b] s = true := fun w hw => hts0 w (sx_gw_tbl hw)
  have hA : ∀ q : Nat, s.heap.size ≤ q → (fun q : Nat => s.heap.size ≤ q) q := fun _ h => h
  have hbA : ¬ (fun q : Nat => s.heap.size ≤ q) b := Nat.not_le.mpr hbl
  obtain ⟨hI, hRP, hRW, hRA⟩ := id hJ
  have hna10 := hI.1.2.1
  have hPD : sx_PD D (fun q : Nat => s.heap.size ≤ q) (wX cA h (nI L) (nI na) (sx_bI sb) (nI n) (α 1) (α 2) ab un sv sf sl acts ++ (wMa cA hm L cd n na sb α cm mk ++ sx_pool cA g K na)) H := hPD
  rcases sx_range hna10 (xs (i + 1)) with hx0 | ⟨k, hk, ek⟩
  · refine lv_aload_n hx hb d_L_law_220 rfl (lv_at hl 2 rfl) ?_
    refine lv_aload_n hx hb d_L_law_221 rfl (lv_at hl 3 rfl) ?_
    refine lv_iload_n hx hb d_L_law_222 rfl (lv_at hl 0 rfl) ?_
    refine lv_iconst (v := nI 1) hx hb d_L_law_223 (by decide +kernel) ?_
    refine lv_iadd hx hb d_L_law_224 ?_
    refine sx_asi (y := nI (i + 1)) (nI_add i 1) ?_
    refine va_sld hx hb hX hbl hbA hS (vp_in_nI (show i + 1 < N by omega) (by omega)) d_L_law_225 ?_
    refine sx_asi (congrArg xs (nI_clamp (show i + 1 < 2 ^ 31 by omega))) ?_
    refine lv_aload_n hx hb d_L_law_226 rfl (lv_at hl 3 rfl) ?_
    refine lv_iload_n hx hb d_L_law_227 rfl (lv_at hl 0 rfl) ?_
    refine lv_iconst (v := nI 2) hx hb d_L_law_228 (by decide +kernel) ?_
    refine lv_iadd hx hb d_L_law_229 ?_
    refine sx_asi (y := nI (i + 2)) (nI_add i 2) ?_
    refine va_sld hx hb hX hbl hbA hS (vp_in_nI (show i + 2 < N by omega) (by omega)) d_L_law_230 ?_
    refine sx_asi (congrArg xs (nI_clamp (show i + 2 < 2 ^ 31 by omega))) ?_
    refine lv_aload_n hx hb d_L_law_231 rfl (lv_at hl 3 rfl) ?_
    refine lv_iload_n hx hb d_L_law_232 rfl (lv_at hl 0 rfl) ?_
    refine lv_iconst (v := nI 3) hx hb d_L_law_233 (by decide +kernel) ?_
    refine lv_iadd hx hb d_L_law_234 ?_
    refine sx_asi (y := nI (i + 3)) (nI_add i 3) ?_
    refine va_sld hx hb hX hbl hbA hS (vp_in_nI (show i + 3 < N by omega) (by omega)) d_L_law_235 ?_
    refine sx_asi (congrArg xs (nI_clamp (show i + 3 < 2 ^ 31 by omega))) ?_
    refine lv_if_eq (tgt := 243) hx hb d_L_law_236 (by decide) (fun c_1 => ?_) (fun c_1 => ?_)
    · refine lv_iconst (v := nI 0) hx hb d_L_law_243 (by decide +kernel) ?_
      refine sx_asi (y := sx_bI false) rfl ?_
      have hPDc : sx_PD D (fun q : Nat => s.heap.size ≤ q) ((wX cA h (nI L) (nI na) (sx_bI sb) (nI n) (α 1) (α 2) ab un sv sf sl acts) ++ (wMa cA hm L cd n na sb α cm mk ++ sx_pool cA g K na)) H := hPD
      refine vp_callSi (va_runV (As := [.int (xs (i + 1)), .int (xs (i + 2)), .int (sx_bI false)]) (rest := []) ⟨hx, hb, hml, hown, hts⟩ (k_declareO l D cA h (nI L) na (sx_bI sb) (nI n) (α 1) (α 2) ab un sv sf sl acts (xs (i + 1)) hx0 (xs (i + 2)) false) (cwV 3 hts (sx_GV wd_208 wd_209 wd_210 wd_1 wd_211) rfl rfl rfl (by decide +kernel) ⟨Nat.le_of_ble_eq_true rfl, Nat.le_of_ble_eq_true rfl⟩) (sx_preV hK hPDc.left.1 (va_recv hK.1 hPDc.left.1 (ci := 3) (q0 := 0) rfl rfl)) rfl rfl hl.1 rfl (lv_room (Nat.le_of_ble_eq_true rfl)) d_L_law_244 ⟨(show cells + 0 ≤ 600000 by omega), (show slots + 0 ≤ 7302250 by omega)⟩).run (fun r_2 hr_3 => ?_)
      subst hr_3
      refine lv_aload_n hx hb d_L_law_247 rfl (lv_at hl 1 rfl) ?_
      refine lv_aload_n hx hb d_L_law_248 rfl (lv_at hl 3 rfl) ?_
      refine lv_iload_n hx hb d_L_law_249 rfl (lv_at hl 0 rfl) ?_
      refine lv_iconst (v := nI 1) hx hb d_L_law_250 (by decide +kernel) ?_
      refine lv_iadd hx hb d_L_law_251 ?_
      refine sx_asi (y := nI (i + 1)) (nI_add i 1) ?_
      refine va_sld hx hb hX hbl hbA hS (vp_in_nI (show i + 1 < N by omega) (by omega)) d_L_law_252 ?_
      refine sx_asi (congrArg xs (nI_clamp (show i + 1 < 2 ^ 31 by omega))) ?_
      refine lv_aload_n hx hb d_L_law_253 rfl (lv_at hl 3 rfl) ?_
      refine lv_iload_n hx hb d_L_law_254 rfl (lv_at hl 0 rfl) ?_
      refine lv_iconst (v := nI 2) hx hb d_L_law_255 (by decide +kernel) ?_
      refine lv_iadd hx hb d_L_law_256 ?_
      refine sx_asi (y := nI (i + 2)) (nI_add i 2) ?_
      refine va_sld hx hb hX hbl hbA hS (vp_in_nI (show i + 2 < N by omega) (by omega)) d_L_law_257 ?_
      refine sx_asi (congrArg xs (nI_clamp (show i + 2 < 2 ^ 31 by omega))) ?_
      refine lv_aload_n hx hb d_L_law_258 rfl (lv_at hl 3 rfl) ?_
      refine lv_iload_n hx hb d_L_law_259 rfl (lv_at hl 0 rfl) ?_
      refine lv_iconst (v := nI 3) hx hb d_L_law_260 (by decide +kernel) ?_
      refine lv_iadd hx hb d_L_law_261 ?_
      refine sx_asi (y := nI (i + 3)) (nI_add i 3) ?_
      refine va_sld hx hb hX hbl hbA hS (vp_in_nI (show i + 3 < N by omega) (by omega)) d_L_law_262 ?_
      refine sx_asi (congrArg xs (nI_clamp (show i + 3 < 2 ^ 31 by omega))) ?_
      refine lv_if_eq (tgt := 270) hx hb d_L_law_263 (by decide) (fun c_5 => ?_) (fun c_5 => ?_)
      · refine lv_iconst (v := nI 0) hx hb d_L_law_270 (by decide +kernel) ?_
        refine sx_asi (y := sx_bI false) rfl ?_
        have hPDc : sx_PD D (fun q : Nat => s.heap.size ≤ q) ((wMa cA hm L cd n na sb α cm mk) ++ (wX cA h (nI L) (nI na) (sx_bI sb) (nI n) (α 1) (α 2) ab un sv sf sl acts ++ sx_pool cA g K na)) H := hPD.perm sx_swap3
        refine sx_callL (wc := (wMa cA hm L cd n na sb α cm mk)) (wr := wX cA h (nI L) (nI na) (sx_bI sb) (nI n) (α 1) (α 2) ab un sv sf sl acts ++ sx_pool cA g K na) (va_runV (As := [.int (xs (i + 1)), .int (xs (i + 2)), .int (sx_bI false)]) (rest := [.int (-1)]) ⟨hx, hb, hml, hown, hts⟩ (m_declareO l D cA H.size hm L cd n na sb α cm mk (xs (i + 1)) hx0 (xs (i + 2)) false) (cwV 3 hts (sx_GV wd_459 wd_460 wd_461 wd_5 wd_462) rfl rfl rfl (by decide +kernel) ⟨Nat.le_of_ble_eq_true rfl, Nat.le_of_ble_eq_true rfl⟩) (sx_preVw hK hPDc.left.1 hPDc.left.2 (va_recv hK.1 hPDc.left.1 (ci := 4) (q0 := 0) rfl rfl)) rfl rfl hl.1 rfl (lv_room (Nat.le_of_ble_eq_true rfl)) d_L_law_271 ⟨(show cells + 0 ≤ 600000 by omega), (show slots + 0 ≤ 7302250 by omega)⟩) hPDc hS hA (fun r_6 u_8 H locs hr_7 hPD hS => ?_)
        refine W.widen (k := cells) (n := slots) (Nat.le_refl _) (Nat.le_refl _) ?_
        subst hr_7
        have hPD := hPD.perm sx_swap3
        refine lv_icmp_eq (tgt := 649) hx hb d_L_law_274 (by decide) (fun c_9 => ?_) (fun c_9 => ?_)
        · exact kk n na sb α ab un sv sf sl acts (nI 0) cm mk g K _ _ _ _ (hJ) (sx_LW_of rfl rfl hPD) hS (by omega) (by omega)
        · exact absurd rfl c_9
      · exact absurd c_1 c_5
    · refine lv_iconst (v := nI 1) hx hb d_L_law_239 (by decide +kernel) ?_
      refine lv_goto (tgt := 244) hx hb d_L_law_240 (by decide) ?_
      refine sx_asi (y := sx_bI true) rfl ?_
      have hPDc : sx_PD D (fun q : Nat => s.heap.size ≤ q) ((wX cA h (nI L) (nI na) (sx_bI sb) (nI n) (α 1) (α 2) ab un sv sf sl acts) ++ (wMa cA hm L cd n na sb α cm mk ++ sx_pool cA g K na)) H := hPD
      refine vp_callSi (va_runV (As := [.int (xs (i + 1)), .int (xs (i + 2)), .int (sx_bI true)]) (rest := []) ⟨hx, hb, hml, hown, hts⟩ (k_declareO l D cA h (nI L) na (sx_bI sb) (nI n) (α 1) (α 2) ab un sv sf sl acts (xs (i + 1)) hx0 (xs (i + 2)) true) (cwV 3 hts (sx_GV wd_208 wd_209 wd_210 wd_1 wd_211) rfl rfl rfl (by decide +kernel) ⟨Nat.le_of_ble_eq_true rfl, Nat.le_of_ble_eq_true rfl⟩) (sx_preV hK hPDc.left.1 (va_recv hK.1 hPDc.left.1 (ci := 3) (q0 := 0) rfl rfl)) rfl rfl hl.1 rfl (lv_room (Nat.le_of_ble_eq_true rfl)) d_L_law_244 ⟨(show cells + 0 ≤ 600000 by omega), (show slots + 0 ≤ 7302250 by omega)⟩).run (fun r_10 hr_11 => ?_)
      subst hr_11
      refine lv_aload_n hx hb d_L_law_247 rfl (lv_at hl 1 rfl) ?_
      refine lv_aload_n hx hb d_L_law_248 rfl (lv_at hl 3 rfl) ?_
      refine lv_iload_n hx hb d_L_law_249 rfl (lv_at hl 0 rfl) ?_
      refine lv_iconst (v := nI 1) hx hb d_L_law_250 (by decide +kernel) ?_
      refine lv_iadd hx hb d_L_law_251 ?_
      refine sx_asi (y := nI (i + 1)) (nI_add i 1) ?_
      refine va_sld hx hb hX hbl hbA hS (vp_in_nI (show i + 1 < N by omega) (by omega)) d_L_law_252 ?_
      refine sx_asi (congrArg xs (nI_clamp (show i + 1 < 2 ^ 31 by omega))) ?_
      refine lv_aload_n hx hb d_L_law_253 rfl (lv_at hl 3 rfl) ?_
      refine lv_iload_n hx hb d_L_law_254 rfl (lv_at hl 0 rfl) ?_
      refine lv_iconst (v := nI 2) hx hb d_L_law_255 (by decide +kernel) ?_
      refine lv_iadd hx hb d_L_law_256 ?_
      refine sx_asi (y := nI (i + 2)) (nI_add i 2) ?_
      refine va_sld hx hb hX hbl hbA hS (vp_in_nI (show i + 2 < N by omega) (by omega)) d_L_law_257 ?_
      refine sx_asi (congrArg xs (nI_clamp (show i + 2 < 2 ^ 31 by omega))) ?_
      refine lv_aload_n hx hb d_L_law_258 rfl (lv_at hl 3 rfl) ?_
      refine lv_iload_n hx hb d_L_law_259 rfl (lv_at hl 0 rfl) ?_
      refine lv_iconst (v := nI 3) hx hb d_L_law_260 (by decide +kernel) ?_
      refine lv_iadd hx hb d_L_law_261 ?_
      refine sx_asi (y := nI (i + 3)) (nI_add i 3) ?_
      refine va_sld hx hb hX hbl hbA hS (vp_in_nI (show i + 3 < N by omega) (by omega)) d_L_law_262 ?_
      refine sx_asi (congrArg xs (nI_clamp (show i + 3 < 2 ^ 31 by omega))) ?_
      refine lv_if_eq (tgt := 270) hx hb d_L_law_263 (by decide) (fun c_13 => ?_) (fun c_13 => ?_)
      · exact absurd c_13 c_1
      · refine lv_iconst (v := nI 1) hx hb d_L_law_266 (by decide +kernel) ?_
        refine lv_goto (tgt := 271) hx hb d_L_law_267 (by decide) ?_
        refine sx_asi (y := sx_bI true) rfl ?_
        have hPDc : sx_PD D (fun q : Nat => s.heap.size ≤ q) ((wMa cA hm L cd n na sb α cm mk) ++ (wX cA h (nI L) (nI na) (sx_bI sb) (nI n) (α 1) (α 2) ab un sv sf sl acts ++ sx_pool cA g K na)) H := hPD.perm sx_swap3
        refine sx_callL (wc := (wMa cA hm L cd n na sb α cm mk)) (wr := wX cA h (nI L) (nI na) (sx_bI sb) (nI n) (α 1) (α 2) ab un sv sf sl acts ++ sx_pool cA g K na) (va_runV (As := [.int (xs (i + 1)), .int (xs (i + 2)), .int (sx_bI true)]) (rest := [.int (-1)]) ⟨hx, hb, hml, hown, hts⟩ (m_declareO l D cA H.size hm L cd n na sb α cm mk (xs (i + 1)) hx0 (xs (i + 2)) true) (cwV 3 hts (sx_GV wd_459 wd_460 wd_461 wd_5 wd_462) rfl rfl rfl (by decide +kernel) ⟨Nat.le_of_ble_eq_true rfl, Nat.le_of_ble_eq_true rfl⟩) (sx_preVw hK hPDc.left.1 hPDc.left.2 (va_recv hK.1 hPDc.left.1 (ci := 4) (q0 := 0) rfl rfl)) rfl rfl hl.1 rfl (lv_room (Nat.le_of_ble_eq_true rfl)) d_L_law_271 ⟨(show cells + 0 ≤ 600000 by omega), (show slots + 0 ≤ 7302250 by omega)⟩) hPDc hS hA (fun r_14 u_16 H locs hr_15 hPD hS => ?_)
        refine W.widen (k := cells) (n := slots) (Nat.le_refl _) (Nat.le_refl _) ?_
        subst hr_15
        have hPD := hPD.perm sx_swap3
        refine lv_icmp_eq (tgt := 649) hx hb d_L_law_274 (by decide) (fun c_17 => ?_) (fun c_17 => ?_)
        · exact kk n na sb α ab un sv sf sl acts (nI 0) cm mk g K _ _ _ _ (hJ) (sx_LW_of rfl rfl hPD) hS (by omega) (by omega)
        · exact absurd rfl c_17
  · refine lv_aload_n hx hb d_L_law_220 rfl (lv_at hl 2 rfl) ?_
    refine lv_aload_n hx hb d_L_law_221 rfl (lv_at hl 3 rfl) ?_
    refine lv_iload_n hx hb d_L_law_222 rfl (lv_at hl 0 rfl) ?_
    refine lv_iconst (v := nI 1) hx hb d_L_law_223 (by decide +kernel) ?_
    refine lv_iadd hx hb d_L_law_224 ?_
    refine sx_asi (y := nI (i + 1)) (nI_add i 1) ?_
    refine va_sld hx hb hX hbl hbA hS (vp_in_nI (show i + 1 < N by omega) (by omega)) d_L_law_225 ?_
    refine sx_asi (congrArg xs (nI_clamp (show i + 1 < 2 ^ 31 by omega))) ?_
    refine sx_asi ek ?_
    refine lv_aload_n hx hb d_L_law_226 rfl (lv_at hl 3 rfl) ?_
    refine lv_iload_n hx hb d_L_law_227 rfl (lv_at hl 0 rfl) ?_
    refine lv_iconst (v := nI 2) hx hb d_L_law_228 (by decide +kernel) ?_
    refine lv_iadd hx hb d_L_law_229 ?_
    refine sx_asi (y := nI (i + 2)) (nI_add i 2) ?_
    refine va_sld hx hb hX hbl hbA hS (vp_in_nI (show i + 2 < N by omega) (by omega)) d_L_law_230 ?_
    refine sx_asi (congrArg xs (nI_clamp (show i + 2 < 2 ^ 31 by omega))) ?_
    refine lv_aload_n hx hb d_L_law_231 rfl (lv_at hl 3 rfl) ?_
    refine lv_iload_n hx hb d_L_law_232 rfl (lv_at hl 0 rfl) ?_
    refine lv_iconst (v := nI 3) hx hb d_L_law_233 (by decide +kernel) ?_
    refine lv_iadd hx hb d_L_law_234 ?_
    refine sx_asi (y := nI (i + 3)) (nI_add i 3) ?_
    refine va_sld hx hb hX hbl hbA hS (vp_in_nI (show i + 3 < N by omega) (by omega)) d_L_law_235 ?_
    refine sx_asi (congrArg xs (nI_clamp (show i + 3 < 2 ^ 31 by omega))) ?_
    refine lv_if_eq (tgt := 243) hx hb d_L_law_236 (by decide) (fun c_18 => ?_) (fun c_18 => ?_)
    · refine lv_iconst (v := nI 0) hx hb d_L_law_243 (by decide +kernel) ?_
      refine sx_asi (y := sx_bI false) rfl ?_
      have hPDc : sx_PD D (fun q : Nat => s.heap.size ≤ q) ((wXAk cA h (g k) (nI L) (nI na) (sx_bI sb) (nI n) (α 1) (α 2) ab un sv sf sl acts (K k)) ++ (wMa cA hm L cd n na sb α cm mk ++ sx_rest cA g K k na)) H := by rw [sx_XAk_eq]; exact hPD.perm (sx_take hk)
      refine sx_callL (wc := (wXAk cA h (g k) (nI L) (nI na) (sx_bI sb) (nI n) (α 1) (α 2) ab un sv sf sl acts (K k))) (wr := wMa cA hm L cd n na sb α cm mk ++ sx_rest cA g K k na) (va_runV (As := [.int (nI k), .int (xs (i + 2)), .int (sx_bI false)]) (rest := []) ⟨hx, hb, hml, hown, hts⟩ (k_declare l D cA H.size h (g k) n na L sb α ab un sv sf sl acts k (K k) hI hk hRP hRW (hRA k hk).1 (hRA k hk).2 (xs (i + 2)) false) (cwV 3 hts (sx_GV wd_208 wd_209 wd_210 wd_1 wd_211) rfl rfl rfl (by decide +kernel) ⟨Nat.le_of_ble_eq_true rfl, Nat.le_of_ble_eq_true rfl⟩) (sx_preVw hK hPDc.left.1 hPDc.left.2 (va_recv hK.1 hPDc.left.1 (ci := 3) (q0 := 0) rfl rfl)) rfl rfl hl.1 rfl (lv_room (Nat.le_of_ble_eq_true rfl)) d_L_law_244 ⟨(show cells + 0 ≤ 600000 by omega), (show slots + 0 ≤ 7302250 by omega)⟩) hPDc hS hA (fun r_19 u_21 H locs hr_20 hPD hS => ?_)
      refine W.widen (k := cells) (n := slots) (Nat.le_refl _) (Nat.le_refl _) ?_
      obtain ⟨hr_20, hRA2⟩ := hr_20
      subst hr_20
      rw [sx_XAk_eq] at hPD
      have hPD := hPD.perm (sx_give hk)
      refine lv_aload_n hx hb d_L_law_247 rfl (lv_at hl 1 rfl) ?_
      refine lv_aload_n hx hb d_L_law_248 rfl (lv_at hl 3 rfl) ?_
      refine lv_iload_n hx hb d_L_law_249 rfl (lv_at hl 0 rfl) ?_
      refine lv_iconst (v := nI 1) hx hb d_L_law_250 (by decide +kernel) ?_
      refine lv_iadd hx hb d_L_law_251 ?_
      refine sx_asi (y := nI (i + 1)) (nI_add i 1) ?_
      refine va_sld hx hb hX hbl hbA hS (vp_in_nI (show i + 1 < N by omega) (by omega)) d_L_law_252 ?_
      refine sx_asi (congrArg xs (nI_clamp (show i + 1 < 2 ^ 31 by omega))) ?_
      refine sx_asi ek ?_
      refine lv_aload_n hx hb d_L_law_253 rfl (lv_at hl 3 rfl) ?_
      refine lv_iload_n hx hb d_L_law_254 rfl (lv_at hl 0 rfl) ?_
      refine lv_iconst (v := nI 2) hx hb d_L_law_255 (by decide +kernel) ?_
      refine lv_iadd hx hb d_L_law_256 ?_
      refine sx_asi (y := nI (i + 2)) (nI_add i 2) ?_
      refine va_sld hx hb hX hbl hbA hS (vp_in_nI (show i + 2 < N by omega) (by omega)) d_L_law_257 ?_
      refine sx_asi (congrArg xs (nI_clamp (show i + 2 < 2 ^ 31 by omega))) ?_
      refine lv_aload_n hx hb d_L_law_258 rfl (lv_at hl 3 rfl) ?_
      refine lv_iload_n hx hb d_L_law_259 rfl (lv_at hl 0 rfl) ?_
      refine lv_iconst (v := nI 3) hx hb d_L_law_260 (by decide +kernel) ?_
      refine lv_iadd hx hb d_L_law_261 ?_
      refine sx_asi (y := nI (i + 3)) (nI_add i 3) ?_
      refine va_sld hx hb hX hbl hbA hS (vp_in_nI (show i + 3 < N by omega) (by omega)) d_L_law_262 ?_
      refine sx_asi (congrArg xs (nI_clamp (show i + 3 < 2 ^ 31 by omega))) ?_
      refine lv_if_eq (tgt := 270) hx hb d_L_law_263 (by decide) (fun c_22 => ?_) (fun c_22 => ?_)
      · refine lv_iconst (v := nI 0) hx hb d_L_law_270 (by decide +kernel) ?_
        refine sx_asi (y := sx_bI false) rfl ?_
        have hPDc : sx_PD D (fun q : Nat => s.heap.size ≤ q) ((wMa cA hm L cd n na sb α cm mk) ++ (wX cA h (nI L) (nI na) (sx_bI sb) (nI n) (α 1) (α 2) ab un sv sf sl acts ++ sx_pool cA g (fun b => if b = k then u_21 else K b) na)) H := hPD.perm sx_swap3
        refine sx_callL (wc := (wMa cA hm L cd n na sb α cm mk)) (wr := wX cA h (nI L) (nI na) (sx_bI sb) (nI n) (α 1) (α 2) ab un sv sf sl acts ++ sx_pool cA g (fun b => if b = k then u_21 else K b) na) (va_runV (As := [.int (nI k), .int (xs (i + 2)), .int (sx_bI false)]) (rest := [.int (sx_decA n α k (xs (i + 2)))]) ⟨hx, hb, hml, hown, hts⟩ (m_declare l D cA H.size hm L cd n na sb α cm mk hI k hk (xs (i + 2)) false) (cwV 3 hts (sx_GV wd_459 wd_460 wd_461 wd_5 wd_462) rfl rfl rfl (by decide +kernel) ⟨Nat.le_of_ble_eq_true rfl, Nat.le_of_ble_eq_true rfl⟩) (sx_preVw hK hPDc.left.1 hPDc.left.2 (va_recv hK.1 hPDc.left.1 (ci := 4) (q0 := 0) rfl rfl)) rfl rfl hl.1 rfl (lv_room (Nat.le_of_ble_eq_true rfl)) d_L_law_271 ⟨(show cells + 0 ≤ 600000 by omega), (show slots + 0 ≤ 7302250 by omega)⟩) hPDc hS hA (fun r_23 u_25 H locs hr_24 hPD hS => ?_)
        refine W.widen (k := cells) (n := slots) (Nat.le_refl _) (Nat.le_refl _) ?_
        subst hr_24
        have hPD := hPD.perm sx_swap3
        refine lv_icmp_eq (tgt := 649) hx hb d_L_law_274 (by decide) (fun c_26 => ?_) (fun c_26 => ?_)
        · have hOF : sx_OF α (sx_decS n α k (xs (i + 2)) false) k := sx_OF_dec hI hk
          exact kk n na sb (sx_decS n α k (xs (i + 2)) false) ab un sv sf sl acts (nI 0) cm mk g (fun b => if b = k then u_21 else K b) _ _ _ _ (sx_LJ_op hJ (sx_INV_dec hI hk) (sx_OF_dec hI hk) hRA2) (sx_LW_of hOF.1.1 hOF.1.2.1 hPD) hS (by omega) (by omega)
        · exact absurd rfl c_26
      · exact absurd c_18 c_22
    · refine lv_iconst (v := nI 1) hx hb d_L_law_239 (by decide +kernel) ?_
      refine lv_goto (tgt := 244) hx hb d_L_law_240 (by decide) ?_
      refine sx_asi (y := sx_bI true) rfl ?_
      have hPDc : sx_PD D (fun q : Nat => s.heap.size ≤ q) ((wXAk cA h (g k) (nI L) (nI na) (sx_bI sb) (nI n) (α 1) (α 2) ab un sv sf sl acts (K k)) ++ (wMa cA hm L cd n na sb α cm mk ++ sx_rest cA g K k na)) H := by rw [sx_XAk_eq]; exact hPD.perm (sx_take hk)
      refine sx_callL (wc := (wXAk cA h (g k) (nI L) (nI na) (sx_bI sb) (nI n) (α 1) (α 2) ab un sv sf sl acts (K k))) (wr := wMa cA hm L cd n na sb α cm mk ++ sx_rest cA g K k na) (va_runV (As := [.int (nI k), .int (xs (i + 2)), .int (sx_bI true)]) (rest := []) ⟨hx, hb, hml, hown, hts⟩ (k_declare l D cA H.size h (g k) n na L sb α ab un sv sf sl acts k (K k) hI hk hRP hRW (hRA k hk).1 (hRA k hk).2 (xs (i + 2)) true) (cwV 3 hts (sx_GV wd_208 wd_209 wd_210 wd_1 wd_211) rfl rfl rfl (by decide +kernel) ⟨Nat.le_of_ble_eq_true rfl, Nat.le_of_ble_eq_true rfl⟩) (sx_preVw hK hPDc.left.1 hPDc.left.2 (va_recv hK.1 hPDc.left.1 (ci := 3) (q0 := 0) rfl rfl)) rfl rfl hl.1 rfl (lv_room (Nat.le_of_ble_eq_true rfl)) d_L_law_244 ⟨(show cells + 0 ≤ 600000 by omega), (show slots + 0 ≤ 7302250 by omega)⟩) hPDc hS hA (fun r_27 u_29 H locs hr_28 hPD hS => ?_)
      refine W.widen (k := cells) (n := slots) (Nat.le_refl _) (Nat.le_refl _) ?_
      obtain ⟨hr_28, hRA2⟩ := hr_28
      subst hr_28
      rw [sx_XAk_eq] at hPD
      have hPD := hPD.perm (sx_give hk)
      refine lv_aload_n hx hb d_L_law_247 rfl (lv_at hl 1 rfl) ?_
      refine lv_aload_n hx hb d_L_law_248 rfl (lv_at hl 3 rfl) ?_
      refine lv_iload_n hx hb d_L_law_249 rfl (lv_at hl 0 rfl) ?_
      refine lv_iconst (v := nI 1) hx hb d_L_law_250 (by decide +kernel) ?_
      refine lv_iadd hx hb d_L_law_251 ?_
      refine sx_asi (y := nI (i + 1)) (nI_add i 1) ?_
      refine va_sld hx hb hX hbl hbA hS (vp_in_nI (show i + 1 < N by omega) (by omega)) d_L_law_252 ?_
      refine sx_asi (congrArg xs (nI_clamp (show i + 1 < 2 ^ 31 by omega))) ?_
      refine sx_asi ek ?_
      refine lv_aload_n hx hb d_L_law_253 rfl (lv_at hl 3 rfl) ?_
      refine lv_iload_n hx hb d_L_law_254 rfl (lv_at hl 0 rfl) ?_
      refine lv_iconst (v := nI 2) hx hb d_L_law_255 (by decide +kernel) ?_
      refine lv_iadd hx hb d_L_law_256 ?_
      refine sx_asi (y := nI (i + 2)) (nI_add i 2) ?_
      refine va_sld hx hb hX hbl hbA hS (vp_in_nI (show i + 2 < N by omega) (by omega)) d_L_law_257 ?_
      refine sx_asi (congrArg xs (nI_clamp (show i + 2 < 2 ^ 31 by omega))) ?_
      refine lv_aload_n hx hb d_L_law_258 rfl (lv_at hl 3 rfl) ?_
      refine lv_iload_n hx hb d_L_law_259 rfl (lv_at hl 0 rfl) ?_
      refine lv_iconst (v := nI 3) hx hb d_L_law_260 (by decide +kernel) ?_
      refine lv_iadd hx hb d_L_law_261 ?_
      refine sx_asi (y := nI (i + 3)) (nI_add i 3) ?_
      refine va_sld hx hb hX hbl hbA hS (vp_in_nI (show i + 3 < N by omega) (by omega)) d_L_law_262 ?_
      refine sx_asi (congrArg xs (nI_clamp (show i + 3 < 2 ^ 31 by omega))) ?_
      refine lv_if_eq (tgt := 270) hx hb d_L_law_263 (by decide) (fun c_30 => ?_) (fun c_30 => ?_)
      · exact absurd c_30 c_18
      · refine lv_iconst (v := nI 1) hx hb d_L_law_266 (by decide +kernel) ?_
        refine lv_goto (tgt := 271) hx hb d_L_law_267 (by decide) ?_
        refine sx_asi (y := sx_bI true) rfl ?_
        have hPDc : sx_PD D (fun q : Nat => s.heap.size ≤ q) ((wMa cA hm L cd n na sb α cm mk) ++ (wX cA h (nI L) (nI na) (sx_bI sb) (nI n) (α 1) (α 2) ab un sv sf sl acts ++ sx_pool cA g (fun b => if b = k then u_29 else K b) na)) H := hPD.perm sx_swap3
        refine sx_callL (wc := (wMa cA hm L cd n na sb α cm mk)) (wr := wX cA h (nI L) (nI na) (sx_bI sb) (nI n) (α 1) (α 2) ab un sv sf sl acts ++ sx_pool cA g (fun b => if b = k then u_29 else K b) na) (va_runV (As := [.int (nI k), .int (xs (i + 2)), .int (sx_bI true)]) (rest := [.int (sx_decA n α k (xs (i + 2)))]) ⟨hx, hb, hml, hown, hts⟩ (m_declare l D cA H.size hm L cd n na sb α cm mk hI k hk (xs (i + 2)) true) (cwV 3 hts (sx_GV wd_459 wd_460 wd_461 wd_5 wd_462) rfl rfl rfl (by decide +kernel) ⟨Nat.le_of_ble_eq_true rfl, Nat.le_of_ble_eq_true rfl⟩) (sx_preVw hK hPDc.left.1 hPDc.left.2 (va_recv hK.1 hPDc.left.1 (ci := 4) (q0 := 0) rfl rfl)) rfl rfl hl.1 rfl (lv_room (Nat.le_of_ble_eq_true rfl)) d_L_law_271 ⟨(show cells + 0 ≤ 600000 by omega), (show slots + 0 ≤ 7302250 by omega)⟩) hPDc hS hA (fun r_31 u_33 H locs hr_32 hPD hS => ?_)
        refine W.widen (k := cells) (n := slots) (Nat.le_refl _) (Nat.le_refl _) ?_
        subst hr_32
        have hPD := hPD.perm sx_swap3
        refine lv_icmp_eq (tgt := 649) hx hb d_L_law_274 (by decide) (fun c_34 => ?_) (fun c_34 => ?_)
        · have hOF : sx_OF α (sx_decS n α k (xs (i + 2)) true) k := sx_OF_dec hI hk
          exact kk n na sb (sx_decS n α k (xs (i + 2)) true) ab un sv sf sl acts (nI 0) cm mk g (fun b => if b = k then u_29 else K b) _ _ _ _ (sx_LJ_op hJ (sx_INV_dec hI hk) (sx_OF_dec hI hk) hRA2) (sx_LW_of hOF.1.1 hOF.1.2.1 hPD) hS (by omega) (by omega)
        · exact absurd rfl c_34

set_option maxHeartbeats 4000000 in
set_option maxRecDepth 100000 in
theorem law_begin {p : Program} {l : Launch} {e : Env} {s : State} {m : MethodId} {below : List Frame} {meth : Method} {c : Code} {b N : Nat} {xs : Nat → Int32} {D : va_G} {cA : Nat → ClassId} {h hm : Nat → Nat} {L : Nat} {ls : Array Slot} {Q : State → Prop} (C0 : lw_At p s m meth c b N xs) (hN : N ≤ 2049) (hK : sx_K D cA s) (i : Nat) (hi : i + 4 ≤ N) (hl : lv_has ls 4 [(3, .int (nI i)), (2, .ref (hm 0)), (1, .ref (h 0)), (0, .ref b)]) (kk : sx_KO p l e s m below meth c D cA b h hm L ls Q) {n na : Nat} {sb : Bool} {α : sx_A} {ab un : Nat → Int64} {sv : Nat → Int32} {sf sl : Int64} {acts : Nat → Option Nat} {cd : Int32} {cm mk : Nat → Int32} {g : Nat → Nat → Nat} {K : Nat → sx_KA} {H : Heap} {locs : List Loc} {cells slots : Nat} (hJ : sx_LJ L n na α ab un sv sf sl acts g K) (hPD : sx_PD D (fun q : Nat => s.heap.size ≤ q) (sx_LW cA h hm L n na sb α ab un sv sf sl acts cd cm mk g K) H) (hS : va_S (fun q : Nat => s.heap.size ≤ q) s.heap H locs) (hc : cells ≤ 26 + 6 * na) (hsl : slots ≤ 2155 + 159 * na) : W p l e room_1 s m #[Value.ref b] below meth c H locs cells slots Q (F0 m 316 ls []) := by
  obtain ⟨hx, hb, hr, hml, hown, hts0, hX, hbl, hlocks, hgv⟩ := C0
  have hts : ∀ w ∈ sx_gw, w.before #[Value.ref b] s = true := fun w hw => hts0 w (sx_gw_tbl hw)
  have hA : ∀ q : Nat, s.heap.size ≤ q → (fun q : Nat => s.heap.size ≤ q) q := fun _ h => h
  have hbA : ¬ (fun q : Nat => s.heap.size ≤ q) b := Nat.not_le.mpr hbl
  obtain ⟨hI, hRP, hRW, hRA⟩ := id hJ
  have hna10 := hI.1.2.1
  have hPD : sx_PD D (fun q : Nat => s.heap.size ≤ q) (wX cA h (nI L) (nI na) (sx_bI sb) (nI n) (α 1) (α 2) ab un sv sf sl acts ++ (wMa cA hm L cd n na sb α cm mk ++ sx_pool cA g K na)) H := hPD
  rcases sx_range hna10 (xs (i + 1)) with hx0 | ⟨k, hk, ek⟩
  · refine lv_aload_n hx hb d_L_law_316 rfl (lv_at hl 2 rfl) ?_
    refine lv_aload_n hx hb d_L_law_317 rfl (lv_at hl 3 rfl) ?_
    refine lv_iload_n hx hb d_L_law_318 rfl (lv_at hl 0 rfl) ?_
    refine lv_iconst (v := nI 1) hx hb d_L_law_319 (by decide +kernel) ?_
    refine lv_iadd hx hb d_L_law_320 ?_
    refine sx_asi (y := nI (i + 1)) (nI_add i 1) ?_
    refine va_sld hx hb hX hbl hbA hS (vp_in_nI (show i + 1 < N by omega) (by omega)) d_L_law_321 ?_
    refine sx_asi (congrArg xs (nI_clamp (show i + 1 < 2 ^ 31 by omega))) ?_
    have hPDc : sx_PD D (fun q : Nat => s.heap.size ≤ q) ((wX cA h (nI L) (nI na) (sx_bI sb) (nI n) (α 1) (α 2) ab un sv sf sl acts) ++ (wMa cA hm L cd n na sb α cm mk ++ sx_pool cA g K na)) H := hPD
    refine vp_callSi (va_runV (As := [.int (xs (i + 1))]) (rest := []) ⟨hx, hb, hml, hown, hts⟩ (k_beginO l D cA h (nI L) na (sx_bI sb) (nI n) (α 1) (α 2) ab un sv sf sl acts (xs (i + 1)) hx0 ) (cwV 1 hts (sx_GV wd_229 wd_230 wd_231 wd_1 wd_232) rfl rfl rfl (by decide +kernel) ⟨Nat.le_of_ble_eq_true rfl, Nat.le_of_ble_eq_true rfl⟩) (sx_preV hK hPDc.left.1 (va_recv hK.1 hPDc.left.1 (ci := 3) (q0 := 0) rfl rfl)) rfl rfl hl.1 rfl (lv_room (Nat.le_of_ble_eq_true rfl)) d_L_law_322 ⟨(show cells + 0 ≤ 600000 by omega), (show slots + 0 ≤ 7302250 by omega)⟩).run (fun r_1 hr_2 => ?_)
    subst hr_2
    refine lv_aload_n hx hb d_L_law_325 rfl (lv_at hl 1 rfl) ?_
    refine lv_aload_n hx hb d_L_law_326 rfl (lv_at hl 3 rfl) ?_
    refine lv_iload_n hx hb d_L_law_327 rfl (lv_at hl 0 rfl) ?_
    refine lv_iconst (v := nI 1) hx hb d_L_law_328 (by decide +kernel) ?_
    refine lv_iadd hx hb d_L_law_329 ?_
    refine sx_asi (y := nI (i + 1)) (nI_add i 1) ?_
    refine va_sld hx hb hX hbl hbA hS (vp_in_nI (show i + 1 < N by omega) (by omega)) d_L_law_330 ?_
    refine sx_asi (congrArg xs (nI_clamp (show i + 1 < 2 ^ 31 by omega))) ?_
    have hPDc : sx_PD D (fun q : Nat => s.heap.size ≤ q) ((wMa cA hm L cd n na sb α cm mk) ++ (wX cA h (nI L) (nI na) (sx_bI sb) (nI n) (α 1) (α 2) ab un sv sf sl acts ++ sx_pool cA g K na)) H := hPD.perm sx_swap3
    refine sx_callL (wc := (wMa cA hm L cd n na sb α cm mk)) (wr := wX cA h (nI L) (nI na) (sx_bI sb) (nI n) (α 1) (α 2) ab un sv sf sl acts ++ sx_pool cA g K na) (va_runV (As := [.int (xs (i + 1))]) (rest := [.int (-1)]) ⟨hx, hb, hml, hown, hts⟩ (m_beginO l D cA H.size hm L cd n na sb α cm mk (xs (i + 1)) hx0 ) (cwV 1 hts (sx_GV wd_471 wd_472 wd_473 wd_5 wd_474) rfl rfl rfl (by decide +kernel) ⟨Nat.le_of_ble_eq_true rfl, Nat.le_of_ble_eq_true rfl⟩) (sx_preVw hK hPDc.left.1 hPDc.left.2 (va_recv hK.1 hPDc.left.1 (ci := 4) (q0 := 0) rfl rfl)) rfl rfl hl.1 rfl (lv_room (Nat.le_of_ble_eq_true rfl)) d_L_law_331 ⟨(show cells + 0 ≤ 600000 by omega), (show slots + 0 ≤ 7302250 by omega)⟩) hPDc hS hA (fun r_4 u_6 H locs hr_5 hPD hS => ?_)
    refine W.widen (k := cells) (n := slots) (Nat.le_refl _) (Nat.le_refl _) ?_
    subst hr_5
    have hPD := hPD.perm sx_swap3
    refine lv_icmp_eq (tgt := 649) hx hb d_L_law_334 (by decide) (fun c_7 => ?_) (fun c_7 => ?_)
    · exact kk n na sb α ab un sv sf sl acts (nI 0) cm mk g K _ _ _ _ (hJ) (sx_LW_of rfl rfl hPD) hS (by omega) (by omega)
    · exact absurd rfl c_7
  · refine lv_aload_n hx hb d_L_law_316 rfl (lv_at hl 2 rfl) ?_
    refine lv_aload_n hx hb d_L_law_317 rfl (lv_at hl 3 rfl) ?_
    refine lv_iload_n hx hb d_L_law_318 rfl (lv_at hl 0 rfl) ?_
    refine lv_iconst (v := nI 1) hx hb d_L_law_319 (by decide +kernel) ?_
    refine lv_iadd hx hb d_L_law_320 ?_
    refine sx_asi (y := nI (i + 1)) (nI_add i 1) ?_
    refine va_sld hx hb hX hbl hbA hS (vp_in_nI (show i + 1 < N by omega) (by omega)) d_L_law_321 ?_
    refine sx_asi (congrArg xs (nI_clamp (show i + 1 < 2 ^ 31 by omega))) ?_
    refine sx_asi ek ?_
    have hPDc : sx_PD D (fun q : Nat => s.heap.size ≤ q) ((wXAk cA h (g k) (nI L) (nI na) (sx_bI sb) (nI n) (α 1) (α 2) ab un sv sf sl acts (K k)) ++ (wMa cA hm L cd n na sb α cm mk ++ sx_rest cA g K k na)) H := by rw [sx_XAk_eq]; exact hPD.perm (sx_take hk)
    refine sx_callL (wc := (wXAk cA h (g k) (nI L) (nI na) (sx_bI sb) (nI n) (α 1) (α 2) ab un sv sf sl acts (K k))) (wr := wMa cA hm L cd n na sb α cm mk ++ sx_rest cA g K k na) (va_runV (As := [.int (nI k)]) (rest := []) ⟨hx, hb, hml, hown, hts⟩ (k_begin l D cA H.size h (g k) n na L sb α ab un sv sf sl acts k (K k) hI hk hRP hRW (hRA k hk).1 (hRA k hk).2 ) (cwV 1 hts (sx_GV wd_229 wd_230 wd_231 wd_1 wd_232) rfl rfl rfl (by decide +kernel) ⟨Nat.le_of_ble_eq_true rfl, Nat.le_of_ble_eq_true rfl⟩) (sx_preVw hK hPDc.left.1 hPDc.left.2 (va_recv hK.1 hPDc.left.1 (ci := 3) (q0 := 0) rfl rfl)) rfl rfl hl.1 rfl (lv_room (Nat.le_of_ble_eq_true rfl)) d_L_law_322 ⟨(show cells + 0 ≤ 600000 by omega), (show slots + 0 ≤ 7302250 by omega)⟩) hPDc hS hA (fun r_8 u_10 H locs hr_9 hPD hS => ?_)
    refine W.widen (k := cells) (n := slots) (Nat.le_refl _) (Nat.le_refl _) ?_
    obtain ⟨hr_9, hRA2⟩ := hr_9
    subst hr_9
    rw [sx_XAk_eq] at hPD
    have hPD := hPD.perm (sx_give hk)
    refine lv_aload_n hx hb d_L_law_325 rfl (lv_at hl 1 rfl) ?_
    refine lv_aload_n hx hb d_L_law_326 rfl (lv_at hl 3 rfl) ?_
    refine lv_iload_n hx hb d_L_law_327 rfl (lv_at hl 0 rfl) ?_
    refine lv_iconst (v := nI 1) hx hb d_L_law_328 (by decide +kernel) ?_
    refine lv_iadd hx hb d_L_law_329 ?_
    refine sx_asi (y := nI (i + 1)) (nI_add i 1) ?_
    refine va_sld hx hb hX hbl hbA hS (vp_in_nI (show i + 1 < N by omega) (by omega)) d_L_law_330 ?_
    refine sx_asi (congrArg xs (nI_clamp (show i + 1 < 2 ^ 31 by omega))) ?_
    refine sx_asi ek ?_
    have hPDc : sx_PD D (fun q : Nat => s.heap.size ≤ q) ((wMa cA hm L cd n na sb α cm mk) ++ (wX cA h (nI L) (nI na) (sx_bI sb) (nI n) (α 1) (α 2) ab un sv sf sl acts ++ sx_pool cA g (fun b => if b = k then u_10 else K b) na)) H := hPD.perm sx_swap3
    refine sx_callL (wc := (wMa cA hm L cd n na sb α cm mk)) (wr := wX cA h (nI L) (nI na) (sx_bI sb) (nI n) (α 1) (α 2) ab un sv sf sl acts ++ sx_pool cA g (fun b => if b = k then u_10 else K b) na) (va_runV (As := [.int (nI k)]) (rest := [.int (sx_begA n α k)]) ⟨hx, hb, hml, hown, hts⟩ (m_begin l D cA H.size hm L cd n na sb α cm mk hI k hk ) (cwV 1 hts (sx_GV wd_471 wd_472 wd_473 wd_5 wd_474) rfl rfl rfl (by decide +kernel) ⟨Nat.le_of_ble_eq_true rfl, Nat.le_of_ble_eq_true rfl⟩) (sx_preVw hK hPDc.left.1 hPDc.left.2 (va_recv hK.1 hPDc.left.1 (ci := 4) (q0 := 0) rfl rfl)) rfl rfl hl.1 rfl (lv_room (Nat.le_of_ble_eq_true rfl)) d_L_law_331 ⟨(show cells + 0 ≤ 600000 by omega), (show slots + 0 ≤ 7302250 by omega)⟩) hPDc hS hA (fun r_11 u_13 H locs hr_12 hPD hS => ?_)
    refine W.widen (k := cells) (n := slots) (Nat.le_refl _) (Nat.le_refl _) ?_
    subst hr_12
    have hPD := hPD.perm sx_swap3
    refine lv_icmp_eq (tgt := 649) hx hb d_L_law_334 (by decide) (fun c_14 => ?_) (fun c_14 => ?_)
    · have hOF : sx_OF α (sx_begS n α k) k := sx_OF_beg
      exact kk n na sb (sx_begS n α k) ab un sv sf sl acts (nI 0) cm mk g (fun b => if b = k then u_10 else K b) _ _ _ _ (sx_LJ_op hJ (sx_INV_beg hI hk) (sx_OF_beg) hRA2) (sx_LW_of hOF.1.1 hOF.1.2.1 hPD) hS (by omega) (by omega)
    · exact absurd rfl c_14

set_option maxHeartbeats 4000000 in
set_option maxRecDepth 100000 in
theorem law_open {p : Program} {l : Launch} {e : Env} {s : State} {m : MethodId} {below : List Frame} {meth : Method} {c : Code} {b N : Nat} {xs : Nat → Int32} {D : va_G} {cA : Nat → ClassId} {h hm : Nat → Nat} {L : Nat} {ls : Array Slot} {Q : State → Prop} (C0 : lw_At p s m meth c b N xs) (hN : N ≤ 2049) (hK : sx_K D cA s) (i : Nat) (hi : i + 4 ≤ N) (hl : lv_has ls 4 [(3, .int (nI i)), (2, .ref (hm 0)), (1, .ref (h 0)), (0, .ref b)]) (kk : sx_KO p l e s m below meth c D cA b h hm L ls Q) {n na : Nat} {sb : Bool} {α : sx_A} {ab un : Nat → Int64} {sv : Nat → Int32} {sf sl : Int64} {acts : Nat → Option Nat} {cd : Int32} {cm mk : Nat → Int32} {g : Nat → Nat → Nat} {K : Nat → sx_KA} {H : Heap} {locs : List Loc} {cells slots : Nat} (hJ : sx_LJ L n na α ab un sv sf sl acts g K) (hPD : sx_PD D (fun q : Nat => s.heap.size ≤ q) (sx_LW cA h hm L n na sb α ab un sv sf sl acts cd cm mk g K) H) (hS : va_S (fun q : Nat => s.heap.size ≤ q) s.heap H locs) (hc : cells ≤ 26 + 6 * na) (hsl : slots ≤ 2155 + 159 * na) : W p l e room_1 s m #[Value.ref b] below meth c H locs cells slots Q (F0 m 339 ls []) := by
  obtain ⟨hx, hb, hr, hml, hown, hts0, hX, hbl, hlocks, hgv⟩ := C0
  have hts : ∀ w ∈ sx_gw, w.before #[Value.ref b] s = true := fun w hw => hts0 w (sx_gw_tbl hw)
  have hA : ∀ q : Nat, s.heap.size ≤ q → (fun q : Nat => s.heap.size ≤ q) q := fun _ h => h
  have hbA : ¬ (fun q : Nat => s.heap.size ≤ q) b := Nat.not_le.mpr hbl
  obtain ⟨hI, hRP, hRW, hRA⟩ := id hJ
  have hna10 := hI.1.2.1
  have hPD : sx_PD D (fun q : Nat => s.heap.size ≤ q) (wX cA h (nI L) (nI na) (sx_bI sb) (nI n) (α 1) (α 2) ab un sv sf sl acts ++ (wMa cA hm L cd n na sb α cm mk ++ sx_pool cA g K na)) H := hPD
  rcases sx_range hna10 (xs (i + 1)) with hx0 | ⟨k, hk, ek⟩
  · refine lv_aload_n hx hb d_L_law_339 rfl (lv_at hl 2 rfl) ?_
    refine lv_aload_n hx hb d_L_law_340 rfl (lv_at hl 3 rfl) ?_
    refine lv_iload_n hx hb d_L_law_341 rfl (lv_at hl 0 rfl) ?_
    refine lv_iconst (v := nI 1) hx hb d_L_law_342 (by decide +kernel) ?_
    refine lv_iadd hx hb d_L_law_343 ?_
    refine sx_asi (y := nI (i + 1)) (nI_add i 1) ?_
    refine va_sld hx hb hX hbl hbA hS (vp_in_nI (show i + 1 < N by omega) (by omega)) d_L_law_344 ?_
    refine sx_asi (congrArg xs (nI_clamp (show i + 1 < 2 ^ 31 by omega))) ?_
    refine lv_aload_n hx hb d_L_law_345 rfl (lv_at hl 3 rfl) ?_
    refine lv_iload_n hx hb d_L_law_346 rfl (lv_at hl 0 rfl) ?_
    refine lv_iconst (v := nI 2) hx hb d_L_law_347 (by decide +kernel) ?_
    refine lv_iadd hx hb d_L_law_348 ?_
    refine sx_asi (y := nI (i + 2)) (nI_add i 2) ?_
    refine va_sld hx hb hX hbl hbA hS (vp_in_nI (show i + 2 < N by omega) (by omega)) d_L_law_349 ?_
    refine sx_asi (congrArg xs (nI_clamp (show i + 2 < 2 ^ 31 by omega))) ?_
    have hPDc : sx_PD D (fun q : Nat => s.heap.size ≤ q) ((wX cA h (nI L) (nI na) (sx_bI sb) (nI n) (α 1) (α 2) ab un sv sf sl acts) ++ (wMa cA hm L cd n na sb α cm mk ++ sx_pool cA g K na)) H := hPD
    refine vp_callSi (va_runV (As := [.int (xs (i + 1)), .int (xs (i + 2))]) (rest := []) ⟨hx, hb, hml, hown, hts⟩ (k_openO l D cA h (nI L) na (sx_bI sb) (nI n) (α 1) (α 2) ab un sv sf sl acts (xs (i + 1)) hx0 (xs (i + 2))) (cwV 2 hts (sx_GV wd_262 wd_263 wd_264 wd_1 wd_265) rfl rfl rfl (by decide +kernel) ⟨Nat.le_of_ble_eq_true rfl, Nat.le_of_ble_eq_true rfl⟩) (sx_preV hK hPDc.left.1 (va_recv hK.1 hPDc.left.1 (ci := 3) (q0 := 0) rfl rfl)) rfl rfl hl.1 rfl (lv_room (Nat.le_of_ble_eq_true rfl)) d_L_law_350 ⟨(show cells + 0 ≤ 600000 by omega), (show slots + 0 ≤ 7302250 by omega)⟩).run (fun r_1 hr_2 => ?_)
    subst hr_2
    refine lv_aload_n hx hb d_L_law_353 rfl (lv_at hl 1 rfl) ?_
    refine lv_aload_n hx hb d_L_law_354 rfl (lv_at hl 3 rfl) ?_
    refine lv_iload_n hx hb d_L_law_355 rfl (lv_at hl 0 rfl) ?_
    refine lv_iconst (v := nI 1) hx hb d_L_law_356 (by decide +kernel) ?_
    refine lv_iadd hx hb d_L_law_357 ?_
    refine sx_asi (y := nI (i + 1)) (nI_add i 1) ?_
    refine va_sld hx hb hX hbl hbA hS (vp_in_nI (show i + 1 < N by omega) (by omega)) d_L_law_358 ?_
    refine sx_asi (congrArg xs (nI_clamp (show i + 1 < 2 ^ 31 by omega))) ?_
    refine lv_aload_n hx hb d_L_law_359 rfl (lv_at hl 3 rfl) ?_
    refine lv_iload_n hx hb d_L_law_360 rfl (lv_at hl 0 rfl) ?_
    refine lv_iconst (v := nI 2) hx hb d_L_law_361 (by decide +kernel) ?_
    refine lv_iadd hx hb d_L_law_362 ?_
    refine sx_asi (y := nI (i + 2)) (nI_add i 2) ?_
    refine va_sld hx hb hX hbl hbA hS (vp_in_nI (show i + 2 < N by omega) (by omega)) d_L_law_363 ?_
    refine sx_asi (congrArg xs (nI_clamp (show i + 2 < 2 ^ 31 by omega))) ?_
    have hPDc : sx_PD D (fun q : Nat => s.heap.size ≤ q) ((wMa cA hm L cd n na sb α cm mk) ++ (wX cA h (nI L) (nI na) (sx_bI sb) (nI n) (α 1) (α 2) ab un sv sf sl acts ++ sx_pool cA g K na)) H := hPD.perm sx_swap3
    refine sx_callL (wc := (wMa cA hm L cd n na sb α cm mk)) (wr := wX cA h (nI L) (nI na) (sx_bI sb) (nI n) (α 1) (α 2) ab un sv sf sl acts ++ sx_pool cA g K na) (va_runV (As := [.int (xs (i + 1)), .int (xs (i + 2))]) (rest := [.int (-1)]) ⟨hx, hb, hml, hown, hts⟩ (m_openO l D cA H.size hm L cd n na sb α cm mk (xs (i + 1)) hx0 (xs (i + 2))) (cwV 2 hts (sx_GV wd_479 wd_480 wd_481 wd_5 wd_482) rfl rfl rfl (by decide +kernel) ⟨Nat.le_of_ble_eq_true rfl, Nat.le_of_ble_eq_true rfl⟩) (sx_preVw hK hPDc.left.1 hPDc.left.2 (va_recv hK.1 hPDc.left.1 (ci := 4) (q0 := 0) rfl rfl)) rfl rfl hl.1 rfl (lv_room (Nat.le_of_ble_eq_true rfl)) d_L_law_364 ⟨(show cells + 0 ≤ 600000 by omega), (show slots + 0 ≤ 7302250 by omega)⟩) hPDc hS hA (fun r_4 u_6 H locs hr_5 hPD hS => ?_)
    refine W.widen (k := cells) (n := slots) (Nat.le_refl _) (Nat.le_refl _) ?_
    subst hr_5
    have hPD := hPD.perm sx_swap3
    refine lv_icmp_eq (tgt := 649) hx hb d_L_law_367 (by decide) (fun c_7 => ?_) (fun c_7 => ?_)
    · exact kk n na sb α ab un sv sf sl acts (nI 0) cm mk g K _ _ _ _ (hJ) (sx_LW_of rfl rfl hPD) hS (by omega) (by omega)
    · exact absurd rfl c_7
  · refine lv_aload_n hx hb d_L_law_339 rfl (lv_at hl 2 rfl) ?_
    refine lv_aload_n hx hb d_L_law_340 rfl (lv_at hl 3 rfl) ?_
    refine lv_iload_n hx hb d_L_law_341 rfl (lv_at hl 0 rfl) ?_
    refine lv_iconst (v := nI 1) hx hb d_L_law_342 (by decide +kernel) ?_
    refine lv_iadd hx hb d_L_law_343 ?_
    refine sx_asi (y := nI (i + 1)) (nI_add i 1) ?_
    refine va_sld hx hb hX hbl hbA hS (vp_in_nI (show i + 1 < N by omega) (by omega)) d_L_law_344 ?_
    refine sx_asi (congrArg xs (nI_clamp (show i + 1 < 2 ^ 31 by omega))) ?_
    refine sx_asi ek ?_
    refine lv_aload_n hx hb d_L_law_345 rfl (lv_at hl 3 rfl) ?_
    refine lv_iload_n hx hb d_L_law_346 rfl (lv_at hl 0 rfl) ?_
    refine lv_iconst (v := nI 2) hx hb d_L_law_347 (by decide +kernel) ?_
    refine lv_iadd hx hb d_L_law_348 ?_
    refine sx_asi (y := nI (i + 2)) (nI_add i 2) ?_
    refine va_sld hx hb hX hbl hbA hS (vp_in_nI (show i + 2 < N by omega) (by omega)) d_L_law_349 ?_
    refine sx_asi (congrArg xs (nI_clamp (show i + 2 < 2 ^ 31 by omega))) ?_
    have hPDc : sx_PD D (fun q : Nat => s.heap.size ≤ q) ((wXAk cA h (g k) (nI L) (nI na) (sx_bI sb) (nI n) (α 1) (α 2) ab un sv sf sl acts (K k)) ++ (wMa cA hm L cd n na sb α cm mk ++ sx_rest cA g K k na)) H := by rw [sx_XAk_eq]; exact hPD.perm (sx_take hk)
    refine sx_callL (wc := (wXAk cA h (g k) (nI L) (nI na) (sx_bI sb) (nI n) (α 1) (α 2) ab un sv sf sl acts (K k))) (wr := wMa cA hm L cd n na sb α cm mk ++ sx_rest cA g K k na) (va_runV (As := [.int (nI k), .int (xs (i + 2))]) (rest := []) ⟨hx, hb, hml, hown, hts⟩ (k_open l D cA H.size h (g k) n na L sb α ab un sv sf sl acts k (K k) hI hk hRP hRW (hRA k hk).1 (hRA k hk).2 (xs (i + 2))) (cwV 2 hts (sx_GV wd_262 wd_263 wd_264 wd_1 wd_265) rfl rfl rfl (by decide +kernel) ⟨Nat.le_of_ble_eq_true rfl, Nat.le_of_ble_eq_true rfl⟩) (sx_preVw hK hPDc.left.1 hPDc.left.2 (va_recv hK.1 hPDc.left.1 (ci := 3) (q0 := 0) rfl rfl)) rfl rfl hl.1 rfl (lv_room (Nat.le_of_ble_eq_true rfl)) d_L_law_350 ⟨(show cells + 0 ≤ 600000 by omega), (show slots + 0 ≤ 7302250 by omega)⟩) hPDc hS hA (fun r_8 u_10 H locs hr_9 hPD hS => ?_)
    refine W.widen (k := cells) (n := slots) (Nat.le_refl _) (Nat.le_refl _) ?_
    obtain ⟨hr_9, hRA2⟩ := hr_9
    subst hr_9
    rw [sx_XAk_eq] at hPD
    have hPD := hPD.perm (sx_give hk)
    refine lv_aload_n hx hb d_L_law_353 rfl (lv_at hl 1 rfl) ?_
    refine lv_aload_n hx hb d_L_law_354 rfl (lv_at hl 3 rfl) ?_
    refine lv_iload_n hx hb d_L_law_355 rfl (lv_at hl 0 rfl) ?_
    refine lv_iconst (v := nI 1) hx hb d_L_law_356 (by decide +kernel) ?_
    refine lv_iadd hx hb d_L_law_357 ?_
    refine sx_asi (y := nI (i + 1)) (nI_add i 1) ?_
    refine va_sld hx hb hX hbl hbA hS (vp_in_nI (show i + 1 < N by omega) (by omega)) d_L_law_358 ?_
    refine sx_asi (congrArg xs (nI_clamp (show i + 1 < 2 ^ 31 by omega))) ?_
    refine sx_asi ek ?_
    refine lv_aload_n hx hb d_L_law_359 rfl (lv_at hl 3 rfl) ?_
    refine lv_iload_n hx hb d_L_law_360 rfl (lv_at hl 0 rfl) ?_
    refine lv_iconst (v := nI 2) hx hb d_L_law_361 (by decide +kernel) ?_
    refine lv_iadd hx hb d_L_law_362 ?_
    refine sx_asi (y := nI (i + 2)) (nI_add i 2) ?_
    refine va_sld hx hb hX hbl hbA hS (vp_in_nI (show i + 2 < N by omega) (by omega)) d_L_law_363 ?_
    refine sx_asi (congrArg xs (nI_clamp (show i + 2 < 2 ^ 31 by omega))) ?_
    have hPDc : sx_PD D (fun q : Nat => s.heap.size ≤ q) ((wMa cA hm L cd n na sb α cm mk) ++ (wX cA h (nI L) (nI na) (sx_bI sb) (nI n) (α 1) (α 2) ab un sv sf sl acts ++ sx_pool cA g (fun b => if b = k then u_10 else K b) na)) H := hPD.perm sx_swap3
    refine sx_callL (wc := (wMa cA hm L cd n na sb α cm mk)) (wr := wX cA h (nI L) (nI na) (sx_bI sb) (nI n) (α 1) (α 2) ab un sv sf sl acts ++ sx_pool cA g (fun b => if b = k then u_10 else K b) na) (va_runV (As := [.int (nI k), .int (xs (i + 2))]) (rest := [.int (sx_openA n L α k (xs (i + 2)))]) ⟨hx, hb, hml, hown, hts⟩ (m_open l D cA H.size hm L cd n na sb α cm mk hI k hk (xs (i + 2))) (cwV 2 hts (sx_GV wd_479 wd_480 wd_481 wd_5 wd_482) rfl rfl rfl (by decide +kernel) ⟨Nat.le_of_ble_eq_true rfl, Nat.le_of_ble_eq_true rfl⟩) (sx_preVw hK hPDc.left.1 hPDc.left.2 (va_recv hK.1 hPDc.left.1 (ci := 4) (q0 := 0) rfl rfl)) rfl rfl hl.1 rfl (lv_room (Nat.le_of_ble_eq_true rfl)) d_L_law_364 ⟨(show cells + 0 ≤ 600000 by omega), (show slots + 0 ≤ 7302250 by omega)⟩) hPDc hS hA (fun r_11 u_13 H locs hr_12 hPD hS => ?_)
    refine W.widen (k := cells) (n := slots) (Nat.le_refl _) (Nat.le_refl _) ?_
    subst hr_12
    have hPD := hPD.perm sx_swap3
    refine lv_icmp_eq (tgt := 649) hx hb d_L_law_367 (by decide) (fun c_14 => ?_) (fun c_14 => ?_)
    · have hOF : sx_OF α (sx_openS n L α k (xs (i + 2))) k := sx_OF_open hI hk
      exact kk n na sb (sx_openS n L α k (xs (i + 2))) ab un sv sf sl acts (nI 0) cm mk g (fun b => if b = k then u_10 else K b) _ _ _ _ (sx_LJ_op hJ (sx_INV_open hI hk) (sx_OF_open hI hk) hRA2) (sx_LW_of hOF.1.1 hOF.1.2.1 hPD) hS (by omega) (by omega)
    · exact absurd rfl c_14

set_option maxHeartbeats 4000000 in
set_option maxRecDepth 100000 in
theorem law_write {p : Program} {l : Launch} {e : Env} {s : State} {m : MethodId} {below : List Frame} {meth : Method} {c : Code} {b N : Nat} {xs : Nat → Int32} {D : va_G} {cA : Nat → ClassId} {h hm : Nat → Nat} {L : Nat} {ls : Array Slot} {Q : State → Prop} (C0 : lw_At p s m meth c b N xs) (hN : N ≤ 2049) (hK : sx_K D cA s) (i : Nat) (hi : i + 4 ≤ N) (hl : lv_has ls 4 [(3, .int (nI i)), (2, .ref (hm 0)), (1, .ref (h 0)), (0, .ref b)]) (kk : sx_KO p l e s m below meth c D cA b h hm L ls Q) {n na : Nat} {sb : Bool} {α : sx_A} {ab un : Nat → Int64} {sv : Nat → Int32} {sf sl : Int64} {acts : Nat → Option Nat} {cd : Int32} {cm mk : Nat → Int32} {g : Nat → Nat → Nat} {K : Nat → sx_KA} {H : Heap} {locs : List Loc} {cells slots : Nat} (hJ : sx_LJ L n na α ab un sv sf sl acts g K) (hPD : sx_PD D (fun q : Nat => s.heap.size ≤ q) (sx_LW cA h hm L n na sb α ab un sv sf sl acts cd cm mk g K) H) (hS : va_S (fun q : Nat => s.heap.size ≤ q) s.heap H locs) (hc : cells ≤ 26 + 6 * na) (hsl : slots ≤ 2155 + 159 * na) : W p l e room_1 s m #[Value.ref b] below meth c H locs cells slots Q (F0 m 372 ls []) := by
  obtain ⟨hx, hb, hr, hml, hown, hts0, hX, hbl, hlocks, hgv⟩ := C0
  have hts : ∀ w ∈ sx_gw, w.before #[Value.ref b] s = true := fun w hw => hts0 w (sx_gw_tbl hw)
  have hA : ∀ q : Nat, s.heap.size ≤ q → (fun q : Nat => s.heap.size ≤ q) q := fun _ h => h
  have hbA : ¬ (fun q : Nat => s.heap.size ≤ q) b := Nat.not_le.mpr hbl
  obtain ⟨hI, hRP, hRW, hRA⟩ := id hJ
  have hna10 := hI.1.2.1
  have hPD : sx_PD D (fun q : Nat => s.heap.size ≤ q) (wX cA h (nI L) (nI na) (sx_bI sb) (nI n) (α 1) (α 2) ab un sv sf sl acts ++ (wMa cA hm L cd n na sb α cm mk ++ sx_pool cA g K na)) H := hPD
  rcases sx_range hna10 (xs (i + 1)) with hx0 | ⟨k, hk, ek⟩
  · refine lv_aload_n hx hb d_L_law_372 rfl (lv_at hl 2 rfl) ?_
    refine lv_aload_n hx hb d_L_law_373 rfl (lv_at hl 3 rfl) ?_
    refine lv_iload_n hx hb d_L_law_374 rfl (lv_at hl 0 rfl) ?_
    refine lv_iconst (v := nI 1) hx hb d_L_law_375 (by decide +kernel) ?_
    refine lv_iadd hx hb d_L_law_376 ?_
    refine sx_asi (y := nI (i + 1)) (nI_add i 1) ?_
    refine va_sld hx hb hX hbl hbA hS (vp_in_nI (show i + 1 < N by omega) (by omega)) d_L_law_377 ?_
    refine sx_asi (congrArg xs (nI_clamp (show i + 1 < 2 ^ 31 by omega))) ?_
    refine lv_aload_n hx hb d_L_law_378 rfl (lv_at hl 3 rfl) ?_
    refine lv_iload_n hx hb d_L_law_379 rfl (lv_at hl 0 rfl) ?_
    refine lv_iconst (v := nI 2) hx hb d_L_law_380 (by decide +kernel) ?_
    refine lv_iadd hx hb d_L_law_381 ?_
    refine sx_asi (y := nI (i + 2)) (nI_add i 2) ?_
    refine va_sld hx hb hX hbl hbA hS (vp_in_nI (show i + 2 < N by omega) (by omega)) d_L_law_382 ?_
    refine sx_asi (congrArg xs (nI_clamp (show i + 2 < 2 ^ 31 by omega))) ?_
    refine lv_aload_n hx hb d_L_law_383 rfl (lv_at hl 3 rfl) ?_
    refine lv_iload_n hx hb d_L_law_384 rfl (lv_at hl 0 rfl) ?_
    refine lv_iconst (v := nI 3) hx hb d_L_law_385 (by decide +kernel) ?_
    refine lv_iadd hx hb d_L_law_386 ?_
    refine sx_asi (y := nI (i + 3)) (nI_add i 3) ?_
    refine va_sld hx hb hX hbl hbA hS (vp_in_nI (show i + 3 < N by omega) (by omega)) d_L_law_387 ?_
    refine sx_asi (congrArg xs (nI_clamp (show i + 3 < 2 ^ 31 by omega))) ?_
    have hPDc : sx_PD D (fun q : Nat => s.heap.size ≤ q) ((wX cA h (nI L) (nI na) (sx_bI sb) (nI n) (α 1) (α 2) ab un sv sf sl acts) ++ (wMa cA hm L cd n na sb α cm mk ++ sx_pool cA g K na)) H := hPD
    refine vp_callSi (va_runV (As := [.int (xs (i + 1)), .int (xs (i + 2)), .int (xs (i + 3))]) (rest := []) ⟨hx, hb, hml, hown, hts⟩ (k_writeO l D cA h (nI L) na (sx_bI sb) (nI n) (α 1) (α 2) ab un sv sf sl acts (xs (i + 1)) hx0 (xs (i + 2)) (xs (i + 3))) (cwV 3 hts (sx_GV wd_280 wd_281 wd_282 wd_1 wd_283) rfl rfl rfl (by decide +kernel) ⟨Nat.le_of_ble_eq_true rfl, Nat.le_of_ble_eq_true rfl⟩) (sx_preV hK hPDc.left.1 (va_recv hK.1 hPDc.left.1 (ci := 3) (q0 := 0) rfl rfl)) rfl rfl hl.1 rfl (lv_room (Nat.le_of_ble_eq_true rfl)) d_L_law_388 ⟨(show cells + 0 ≤ 600000 by omega), (show slots + 0 ≤ 7302250 by omega)⟩).run (fun r_1 hr_2 => ?_)
    subst hr_2
    refine lv_aload_n hx hb d_L_law_391 rfl (lv_at hl 1 rfl) ?_
    refine lv_aload_n hx hb d_L_law_392 rfl (lv_at hl 3 rfl) ?_
    refine lv_iload_n hx hb d_L_law_393 rfl (lv_at hl 0 rfl) ?_
    refine lv_iconst (v := nI 1) hx hb d_L_law_394 (by decide +kernel) ?_
    refine lv_iadd hx hb d_L_law_395 ?_
    refine sx_asi (y := nI (i + 1)) (nI_add i 1) ?_
    refine va_sld hx hb hX hbl hbA hS (vp_in_nI (show i + 1 < N by omega) (by omega)) d_L_law_396 ?_
    refine sx_asi (congrArg xs (nI_clamp (show i + 1 < 2 ^ 31 by omega))) ?_
    refine lv_aload_n hx hb d_L_law_397 rfl (lv_at hl 3 rfl) ?_
    refine lv_iload_n hx hb d_L_law_398 rfl (lv_at hl 0 rfl) ?_
    refine lv_iconst (v := nI 2) hx hb d_L_law_399 (by decide +kernel) ?_
    refine lv_iadd hx hb d_L_law_400 ?_
    refine sx_asi (y := nI (i + 2)) (nI_add i 2) ?_
    refine va_sld hx hb hX hbl hbA hS (vp_in_nI (show i + 2 < N by omega) (by omega)) d_L_law_401 ?_
    refine sx_asi (congrArg xs (nI_clamp (show i + 2 < 2 ^ 31 by omega))) ?_
    refine lv_aload_n hx hb d_L_law_402 rfl (lv_at hl 3 rfl) ?_
    refine lv_iload_n hx hb d_L_law_403 rfl (lv_at hl 0 rfl) ?_
    refine lv_iconst (v := nI 3) hx hb d_L_law_404 (by decide +kernel) ?_
    refine lv_iadd hx hb d_L_law_405 ?_
    refine sx_asi (y := nI (i + 3)) (nI_add i 3) ?_
    refine va_sld hx hb hX hbl hbA hS (vp_in_nI (show i + 3 < N by omega) (by omega)) d_L_law_406 ?_
    refine sx_asi (congrArg xs (nI_clamp (show i + 3 < 2 ^ 31 by omega))) ?_
    have hPDc : sx_PD D (fun q : Nat => s.heap.size ≤ q) ((wMa cA hm L cd n na sb α cm mk) ++ (wX cA h (nI L) (nI na) (sx_bI sb) (nI n) (α 1) (α 2) ab un sv sf sl acts ++ sx_pool cA g K na)) H := hPD.perm sx_swap3
    refine sx_callL (wc := (wMa cA hm L cd n na sb α cm mk)) (wr := wX cA h (nI L) (nI na) (sx_bI sb) (nI n) (α 1) (α 2) ab un sv sf sl acts ++ sx_pool cA g K na) (va_runV (As := [.int (xs (i + 1)), .int (xs (i + 2)), .int (xs (i + 3))]) (rest := [.int (-1)]) ⟨hx, hb, hml, hown, hts⟩ (m_writeO l D cA H.size hm L cd n na sb α cm mk (xs (i + 1)) hx0 (xs (i + 2)) (xs (i + 3))) (cwV 3 hts (sx_GV wd_498 wd_499 wd_500 wd_5 wd_501) rfl rfl rfl (by decide +kernel) ⟨Nat.le_of_ble_eq_true rfl, Nat.le_of_ble_eq_true rfl⟩) (sx_preVw hK hPDc.left.1 hPDc.left.2 (va_recv hK.1 hPDc.left.1 (ci := 4) (q0 := 0) rfl rfl)) rfl rfl hl.1 rfl (lv_room (Nat.le_of_ble_eq_true rfl)) d_L_law_407 ⟨(show cells + 0 ≤ 600000 by omega), (show slots + 0 ≤ 7302250 by omega)⟩) hPDc hS hA (fun r_4 u_6 H locs hr_5 hPD hS => ?_)
    refine W.widen (k := cells) (n := slots) (Nat.le_refl _) (Nat.le_refl _) ?_
    subst hr_5
    have hPD := hPD.perm sx_swap3
    refine lv_icmp_eq (tgt := 649) hx hb d_L_law_410 (by decide) (fun c_7 => ?_) (fun c_7 => ?_)
    · exact kk n na sb α ab un sv sf sl acts (nI 0) cm mk g K _ _ _ _ (hJ) (sx_LW_of rfl rfl hPD) hS (by omega) (by omega)
    · exact absurd rfl c_7
  · refine lv_aload_n hx hb d_L_law_372 rfl (lv_at hl 2 rfl) ?_
    refine lv_aload_n hx hb d_L_law_373 rfl (lv_at hl 3 rfl) ?_
    refine lv_iload_n hx hb d_L_law_374 rfl (lv_at hl 0 rfl) ?_
    refine lv_iconst (v := nI 1) hx hb d_L_law_375 (by decide +kernel) ?_
    refine lv_iadd hx hb d_L_law_376 ?_
    refine sx_asi (y := nI (i + 1)) (nI_add i 1) ?_
    refine va_sld hx hb hX hbl hbA hS (vp_in_nI (show i + 1 < N by omega) (by omega)) d_L_law_377 ?_
    refine sx_asi (congrArg xs (nI_clamp (show i + 1 < 2 ^ 31 by omega))) ?_
    refine sx_asi ek ?_
    refine lv_aload_n hx hb d_L_law_378 rfl (lv_at hl 3 rfl) ?_
    refine lv_iload_n hx hb d_L_law_379 rfl (lv_at hl 0 rfl) ?_
    refine lv_iconst (v := nI 2) hx hb d_L_law_380 (by decide +kernel) ?_
    refine lv_iadd hx hb d_L_law_381 ?_
    refine sx_asi (y := nI (i + 2)) (nI_add i 2) ?_
    refine va_sld hx hb hX hbl hbA hS (vp_in_nI (show i + 2 < N by omega) (by omega)) d_L_law_382 ?_
    refine sx_asi (congrArg xs (nI_clamp (show i + 2 < 2 ^ 31 by omega))) ?_
    refine lv_aload_n hx hb d_L_law_383 rfl (lv_at hl 3 rfl) ?_
    refine lv_iload_n hx hb d_L_law_384 rfl (lv_at hl 0 rfl) ?_
    refine lv_iconst (v := nI 3) hx hb d_L_law_385 (by decide +kernel) ?_
    refine lv_iadd hx hb d_L_law_386 ?_
    refine sx_asi (y := nI (i + 3)) (nI_add i 3) ?_
    refine va_sld hx hb hX hbl hbA hS (vp_in_nI (show i + 3 < N by omega) (by omega)) d_L_law_387 ?_
    refine sx_asi (congrArg xs (nI_clamp (show i + 3 < 2 ^ 31 by omega))) ?_
    have hPDc : sx_PD D (fun q : Nat => s.heap.size ≤ q) ((wXAk cA h (g k) (nI L) (nI na) (sx_bI sb) (nI n) (α 1) (α 2) ab un sv sf sl acts (K k)) ++ (wMa cA hm L cd n na sb α cm mk ++ sx_rest cA g K k na)) H := by rw [sx_XAk_eq]; exact hPD.perm (sx_take hk)
    refine sx_callL (wc := (wXAk cA h (g k) (nI L) (nI na) (sx_bI sb) (nI n) (α 1) (α 2) ab un sv sf sl acts (K k))) (wr := wMa cA hm L cd n na sb α cm mk ++ sx_rest cA g K k na) (va_runV (As := [.int (nI k), .int (xs (i + 2)), .int (xs (i + 3))]) (rest := []) ⟨hx, hb, hml, hown, hts⟩ (k_write l D cA H.size h (g k) n na L sb α ab un sv sf sl acts k (K k) hI hk hRP hRW (hRA k hk).1 (hRA k hk).2 (xs (i + 2)) (xs (i + 3))) (cwV 3 hts (sx_GV wd_280 wd_281 wd_282 wd_1 wd_283) rfl rfl rfl (by decide +kernel) ⟨Nat.le_of_ble_eq_true rfl, Nat.le_of_ble_eq_true rfl⟩) (sx_preVw hK hPDc.left.1 hPDc.left.2 (va_recv hK.1 hPDc.left.1 (ci := 3) (q0 := 0) rfl rfl)) rfl rfl hl.1 rfl (lv_room (Nat.le_of_ble_eq_true rfl)) d_L_law_388 ⟨(show cells + 0 ≤ 600000 by omega), (show slots + 0 ≤ 7302250 by omega)⟩) hPDc hS hA (fun r_8 u_10 H locs hr_9 hPD hS => ?_)
    refine W.widen (k := cells) (n := slots) (Nat.le_refl _) (Nat.le_refl _) ?_
    obtain ⟨hr_9, hRA2⟩ := hr_9
    subst hr_9
    rw [sx_XAk_eq] at hPD
    have hPD := hPD.perm (sx_give hk)
    refine lv_aload_n hx hb d_L_law_391 rfl (lv_at hl 1 rfl) ?_
    refine lv_aload_n hx hb d_L_law_392 rfl (lv_at hl 3 rfl) ?_
    refine lv_iload_n hx hb d_L_law_393 rfl (lv_at hl 0 rfl) ?_
    refine lv_iconst (v := nI 1) hx hb d_L_law_394 (by decide +kernel) ?_
    refine lv_iadd hx hb d_L_law_395 ?_
    refine sx_asi (y := nI (i + 1)) (nI_add i 1) ?_
    refine va_sld hx hb hX hbl hbA hS (vp_in_nI (show i + 1 < N by omega) (by omega)) d_L_law_396 ?_
    refine sx_asi (congrArg xs (nI_clamp (show i + 1 < 2 ^ 31 by omega))) ?_
    refine sx_asi ek ?_
    refine lv_aload_n hx hb d_L_law_397 rfl (lv_at hl 3 rfl) ?_
    refine lv_iload_n hx hb d_L_law_398 rfl (lv_at hl 0 rfl) ?_
    refine lv_iconst (v := nI 2) hx hb d_L_law_399 (by decide +kernel) ?_
    refine lv_iadd hx hb d_L_law_400 ?_
    refine sx_asi (y := nI (i + 2)) (nI_add i 2) ?_
    refine va_sld hx hb hX hbl hbA hS (vp_in_nI (show i + 2 < N by omega) (by omega)) d_L_law_401 ?_
    refine sx_asi (congrArg xs (nI_clamp (show i + 2 < 2 ^ 31 by omega))) ?_
    refine lv_aload_n hx hb d_L_law_402 rfl (lv_at hl 3 rfl) ?_
    refine lv_iload_n hx hb d_L_law_403 rfl (lv_at hl 0 rfl) ?_
    refine lv_iconst (v := nI 3) hx hb d_L_law_404 (by decide +kernel) ?_
    refine lv_iadd hx hb d_L_law_405 ?_
    refine sx_asi (y := nI (i + 3)) (nI_add i 3) ?_
    refine va_sld hx hb hX hbl hbA hS (vp_in_nI (show i + 3 < N by omega) (by omega)) d_L_law_406 ?_
    refine sx_asi (congrArg xs (nI_clamp (show i + 3 < 2 ^ 31 by omega))) ?_
    have hPDc : sx_PD D (fun q : Nat => s.heap.size ≤ q) ((wMa cA hm L cd n na sb α cm mk) ++ (wX cA h (nI L) (nI na) (sx_bI sb) (nI n) (α 1) (α 2) ab un sv sf sl acts ++ sx_pool cA g (fun b => if b = k then u_10 else K b) na)) H := hPD.perm sx_swap3
    refine sx_callL (wc := (wMa cA hm L cd n na sb α cm mk)) (wr := wX cA h (nI L) (nI na) (sx_bI sb) (nI n) (α 1) (α 2) ab un sv sf sl acts ++ sx_pool cA g (fun b => if b = k then u_10 else K b) na) (va_runV (As := [.int (nI k), .int (xs (i + 2)), .int (xs (i + 3))]) (rest := [.int (sx_doA n L α k (xs (i + 2)) 0 (sx_wrO n α k (xs (i + 2)) (xs (i + 3))))]) ⟨hx, hb, hml, hown, hts⟩ (m_write l D cA H.size hm L cd n na sb α cm mk hI k hk (xs (i + 2)) (xs (i + 3))) (cwV 3 hts (sx_GV wd_498 wd_499 wd_500 wd_5 wd_501) rfl rfl rfl (by decide +kernel) ⟨Nat.le_of_ble_eq_true rfl, Nat.le_of_ble_eq_true rfl⟩) (sx_preVw hK hPDc.left.1 hPDc.left.2 (va_recv hK.1 hPDc.left.1 (ci := 4) (q0 := 0) rfl rfl)) rfl rfl hl.1 rfl (lv_room (Nat.le_of_ble_eq_true rfl)) d_L_law_407 ⟨(show cells + 0 ≤ 600000 by omega), (show slots + 0 ≤ 7302250 by omega)⟩) hPDc hS hA (fun r_11 u_13 H locs hr_12 hPD hS => ?_)
    refine W.widen (k := cells) (n := slots) (Nat.le_refl _) (Nat.le_refl _) ?_
    subst hr_12
    have hPD := hPD.perm sx_swap3
    refine lv_icmp_eq (tgt := 649) hx hb d_L_law_410 (by decide) (fun c_14 => ?_) (fun c_14 => ?_)
    · have hOF : sx_OF α (sx_do n L sb α k (xs (i + 2)) 0 (sx_wrO n α k (xs (i + 2)) (xs (i + 3))) (xs (i + 3))) k := sx_OF_do hI
      exact kk n na sb (sx_do n L sb α k (xs (i + 2)) 0 (sx_wrO n α k (xs (i + 2)) (xs (i + 3))) (xs (i + 3))) ab un sv sf sl acts (nI 0) cm mk g (fun b => if b = k then u_10 else K b) _ _ _ _ (sx_LJ_op hJ (sx_INV_write hI hk) (sx_OF_do hI) hRA2) (sx_LW_of hOF.1.1 hOF.1.2.1 hPD) hS (by omega) (by omega)
    · exact absurd rfl c_14
