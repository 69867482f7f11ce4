set_option maxHeartbeats 4000000 in
set_option maxRecDepth 100000 in
theorem law_path {p : Program} {l : Launch} {e : Env} {s : State} {m : MethodId} {below : List Frame} {meth : Method} {c : Code} {b N : Nat} {xs : Nat → Int32} {D : va_G} {cA : Nat → ClassId} {h hm : Nat → Nat} {L : Nat} {ls : Array Slot} {Q : State → Prop} (C0 : lw_At p s m meth c b N xs) (hN : N ≤ 2049) (hK : sx_K D cA s) (i : Nat) (hi : i + 4 ≤ N) (hl : lv_has ls 4 [(3, .int (nI i)), (2, .ref (hm 0)), (1, .ref (h 0)), (0, .ref b)]) (kk : sx_KO p l e s m below meth c D cA b h hm L ls Q) {n na : Nat} {sb : Bool} {α : sx_A} {ab un : Nat → Int64} {sv : Nat → Int32} {sf sl : Int64} {acts : Nat → Option Nat} {cd : Int32} {cm mk : Nat → Int32} {g : Nat → Nat → Nat} {K : Nat → sx_KA} {H : Heap} {locs : List Loc} {cells slots : Nat} (hJ : sx_LJ L n na α ab un sv sf sl acts g K) (hPD : sx_PD D (fun q : Nat => s.heap.size ≤ q) (sx_LW cA h hm L n na sb α ab un sv sf sl acts cd cm mk g K) H) (hS : va_S (fun q : Nat => s.heap.size ≤ q) s.heap H locs) (hc : cells ≤ 26 + 6 * na) (hsl : slots ≤ 2155 + 159 * na) : W p l e room_1 s m #[Value.ref b] below meth c H locs cells slots Q (F0 m 116 ls []) := by
  obtain ⟨hx, hb, hr, hml, hown, hts0, hX, hbl, hlocks, hgv⟩ := C0
  have hts : ∀ w ∈ sx_gw, w.before #[Value.ref b] s = true := fun w hw => hts0 w (sx_gw_tbl hw)
  have hA : ∀ q : Nat, s.heap.size ≤ q → (fun q : Nat => s.heap.size ≤ q) q := fun _ h => h
  have hbA : ¬ (fun q : Nat => s.heap.size ≤ q) b := Nat.not_le.mpr hbl
  obtain ⟨hI, hRP, hRW, hRA⟩ := id hJ
  have hna10 := hI.1.2.1
  have hPD : sx_PD D (fun q : Nat => s.heap.size ≤ q) (wX cA h (nI L) (nI na) (sx_bI sb) (nI n) (α 1) (α 2) ab un sv sf sl acts ++ (wMa cA hm L cd n na sb α cm mk ++ sx_pool cA g K na)) H := hPD
  refine lv_aload_n hx hb d_L_law_116 rfl (lv_at hl 2 rfl) ?_
  refine lv_aload_n hx hb d_L_law_117 rfl (lv_at hl 3 rfl) ?_
  refine lv_iload_n hx hb d_L_law_118 rfl (lv_at hl 0 rfl) ?_
  refine lv_iconst (v := nI 1) hx hb d_L_law_119 (by decide +kernel) ?_
  refine lv_iadd hx hb d_L_law_120 ?_
  refine sx_asi (y := nI (i + 1)) (nI_add i 1) ?_
  refine va_sld hx hb hX hbl hbA hS (vp_in_nI (show i + 1 < N by omega) (by omega)) d_L_law_121 ?_
  refine sx_asi (congrArg xs (nI_clamp (show i + 1 < 2 ^ 31 by omega))) ?_
  refine lv_aload_n hx hb d_L_law_122 rfl (lv_at hl 3 rfl) ?_
  refine lv_iload_n hx hb d_L_law_123 rfl (lv_at hl 0 rfl) ?_
  refine lv_iconst (v := nI 2) hx hb d_L_law_124 (by decide +kernel) ?_
  refine lv_iadd hx hb d_L_law_125 ?_
  refine sx_asi (y := nI (i + 2)) (nI_add i 2) ?_
  refine va_sld hx hb hX hbl hbA hS (vp_in_nI (show i + 2 < N by omega) (by omega)) d_L_law_126 ?_
  refine sx_asi (congrArg xs (nI_clamp (show i + 2 < 2 ^ 31 by omega))) ?_
  refine lv_i2c (v := sx_chr (xs (i + 2))) hx hb d_L_law_127 rfl ?_
  have hPDc : sx_PD D (fun q : Nat => s.heap.size ≤ q) ((wX cA h (nI L) (nI na) (sx_bI sb) (nI n) (α 1) (α 2) ab un sv sf sl acts) ++ (wMa cA hm L cd n na sb α cm mk ++ sx_pool cA g K na)) H := hPD
  refine sx_callL (wc := (wX cA h (nI L) (nI na) (sx_bI sb) (nI n) (α 1) (α 2) ab un sv sf sl acts)) (wr := wMa cA hm L cd n na sb α cm mk ++ sx_pool cA g K na) (va_runV (As := [.int (xs (i + 1)), .int (sx_chr (xs (i + 2)))]) (rest := []) ⟨hx, hb, hml, hown, hts⟩ (k_path l D cA H.size h (nI L) (nI na) (sx_bI sb) n na L α ab un sv sf sl acts hI hRP hRW (xs (i + 1)) (sx_chr (xs (i + 2))) (sx_chr_ok _)) (cwV 2 hts (sx_GV wd_88 wd_89 wd_90 wd_1 wd_91) rfl rfl rfl (by decide +kernel) ⟨Nat.le_of_ble_eq_true rfl, Nat.le_of_ble_eq_true rfl⟩) (sx_preVw hK hPDc.left.1 hPDc.left.2 (va_recv hK.1 hPDc.left.1 (ci := 3) (q0 := 0) rfl rfl)) rfl rfl hl.1 rfl (lv_room (Nat.le_of_ble_eq_true rfl)) d_L_law_128 ⟨(show cells + 0 ≤ 600000 by omega), (show slots + 0 ≤ 7302250 by omega)⟩) hPDc hS hA (fun r_1 u_3 H locs hr_2 hPD hS => ?_)
  refine W.widen (k := cells) (n := slots) (Nat.le_refl _) (Nat.le_refl _) ?_
  obtain ⟨hr_2, hRP2⟩ := hr_2
  subst hr_2
  refine lv_aload_n hx hb d_L_law_131 rfl (lv_at hl 1 rfl) ?_
  refine lv_aload_n hx hb d_L_law_132 rfl (lv_at hl 3 rfl) ?_
  refine lv_iload_n hx hb d_L_law_133 rfl (lv_at hl 0 rfl) ?_
  refine lv_iconst (v := nI 1) hx hb d_L_law_134 (by decide +kernel) ?_
  refine lv_iadd hx hb d_L_law_135 ?_
  refine sx_asi (y := nI (i + 1)) (nI_add i 1) ?_
  refine va_sld hx hb hX hbl hbA hS (vp_in_nI (show i + 1 < N by omega) (by omega)) d_L_law_136 ?_
  refine sx_asi (congrArg xs (nI_clamp (show i + 1 < 2 ^ 31 by omega))) ?_
  refine lv_aload_n hx hb d_L_law_137 rfl (lv_at hl 3 rfl) ?_
  refine lv_iload_n hx hb d_L_law_138 rfl (lv_at hl 0 rfl) ?_
  refine lv_iconst (v := nI 2) hx hb d_L_law_139 (by decide +kernel) ?_
  refine lv_iadd hx hb d_L_law_140 ?_
  refine sx_asi (y := nI (i + 2)) (nI_add i 2) ?_
  refine va_sld hx hb hX hbl hbA hS (vp_in_nI (show i + 2 < N by omega) (by omega)) d_L_law_141 ?_
  refine sx_asi (congrArg xs (nI_clamp (show i + 2 < 2 ^ 31 by omega))) ?_
  refine lv_i2c (v := sx_chr (xs (i + 2))) hx hb d_L_law_142 rfl ?_
  have hPDc : sx_PD D (fun q : Nat => s.heap.size ≤ q) ((wMa cA hm L cd n na sb α cm mk) ++ (wX cA h (nI L) (nI na) (sx_bI sb) (nI (sx_pathN n α (xs (i + 1)) (sx_chr (xs (i + 2))))) (sx_pathS n α (xs (i + 1)) (sx_chr (xs (i + 2))) 1) (sx_pathS n α (xs (i + 1)) (sx_chr (xs (i + 2))) 2) u_3.1 u_3.2 sv sf sl acts ++ sx_pool cA g K na)) H := hPD.perm sx_swap3
  refine sx_callL (wc := (wMa cA hm L cd n na sb α cm mk)) (wr := wX cA h (nI L) (nI na) (sx_bI sb) (nI (sx_pathN n α (xs (i + 1)) (sx_chr (xs (i + 2))))) (sx_pathS n α (xs (i + 1)) (sx_chr (xs (i + 2))) 1) (sx_pathS n α (xs (i + 1)) (sx_chr (xs (i + 2))) 2) u_3.1 u_3.2 sv sf sl acts ++ sx_pool cA g K na) (va_runV (As := [.int (xs (i + 1)), .int (sx_chr (xs (i + 2)))]) (rest := [.int (sx_pathA n α (xs (i + 1)) (sx_chr (xs (i + 2))))]) ⟨hx, hb, hml, hown, hts⟩ (m_path l D cA H.size hm L cd n na sb α cm mk hI (xs (i + 1)) (sx_chr (xs (i + 2)))) (cwV 2 hts (sx_GV wd_428 wd_429 wd_430 wd_5 wd_431) rfl rfl rfl (by decide +kernel) ⟨Nat.le_of_ble_eq_true rfl, Nat.le_of_ble_eq_true rfl⟩) (sx_preVw hK hPDc.left.1 hPDc.left.2 (va_recv hK.1 hPDc.left.1 (ci := 4) (q0 := 0) rfl rfl)) rfl rfl hl.1 rfl (lv_room (Nat.le_of_ble_eq_true rfl)) d_L_law_143 ⟨(show cells + 0 ≤ 600000 by omega), (show slots + 0 ≤ 7302250 by omega)⟩) hPDc hS hA (fun r_4 u_6 H locs hr_5 hPD hS => ?_)
  refine W.widen (k := cells) (n := slots) (Nat.le_refl _) (Nat.le_refl _) ?_
  subst hr_5
  have hPD := hPD.perm sx_swap3
  refine lv_icmp_eq (tgt := 649) hx hb d_L_law_146 (by decide) (fun c_7 => ?_) (fun c_7 => ?_)
  · exact kk (sx_pathN n α (xs (i + 1)) (sx_chr (xs (i + 2)))) na sb (sx_pathS n α (xs (i + 1)) (sx_chr (xs (i + 2)))) u_3.1 u_3.2 sv sf sl acts (nI 0) cm mk g K _ _ _ _ (sx_LJ_path hJ hRP2) (sx_LW_of rfl rfl hPD) hS (by omega) (by omega)
  · exact absurd rfl c_7

set_option maxHeartbeats 4000000 in
set_option maxRecDepth 100000 in
theorem law_file {p : Program} {l : Launch} {e : Env} {s : State} {m : MethodId} {below : List Frame} {meth : Method} {c : Code} {b N : Nat} {xs : Nat → Int32} {D : va_G} {cA : Nat → ClassId} {h hm : Nat → Nat} {L : Nat} {ls : Array Slot} {Q : State → Prop} (C0 : lw_At p s m meth c b N xs) (hN : N ≤ 2049) (hK : sx_K D cA s) (i : Nat) (hi : i + 4 ≤ N) (hl : lv_has ls 4 [(3, .int (nI i)), (2, .ref (hm 0)), (1, .ref (h 0)), (0, .ref b)]) (kk : sx_KO p l e s m below meth c D cA b h hm L ls Q) {n na : Nat} {sb : Bool} {α : sx_A} {ab un : Nat → Int64} {sv : Nat → Int32} {sf sl : Int64} {acts : Nat → Option Nat} {cd : Int32} {cm mk : Nat → Int32} {g : Nat → Nat → Nat} {K : Nat → sx_KA} {H : Heap} {locs : List Loc} {cells slots : Nat} (hJ : sx_LJ L n na α ab un sv sf sl acts g K) (hPD : sx_PD D (fun q : Nat => s.heap.size ≤ q) (sx_LW cA h hm L n na sb α ab un sv sf sl acts cd cm mk g K) H) (hS : va_S (fun q : Nat => s.heap.size ≤ q) s.heap H locs) (hc : cells ≤ 26 + 6 * na) (hsl : slots ≤ 2155 + 159 * na) : W p l e room_1 s m #[Value.ref b] below meth c H locs cells slots Q (F0 m 151 ls []) := by
  obtain ⟨hx, hb, hr, hml, hown, hts0, hX, hbl, hlocks, hgv⟩ := C0
  have hts : ∀ w ∈ sx_gw, w.before #[Value.ref b] s = true := fun w hw => hts0 w (sx_gw_tbl hw)
  have hA : ∀ q : Nat, s.heap.size ≤ q → (fun q : Nat => s.heap.size ≤ q) q := fun _ h => h
  have hbA : ¬ (fun q : Nat => s.heap.size ≤ q) b := Nat.not_le.mpr hbl
  obtain ⟨hI, hRP, hRW, hRA⟩ := id hJ
  have hna10 := hI.1.2.1
  have hPD : sx_PD D (fun q : Nat => s.heap.size ≤ q) (wX cA h (nI L) (nI na) (sx_bI sb) (nI n) (α 1) (α 2) ab un sv sf sl acts ++ (wMa cA hm L cd n na sb α cm mk ++ sx_pool cA g K na)) H := hPD
  refine lv_aload_n hx hb d_L_law_151 rfl (lv_at hl 2 rfl) ?_
  refine lv_aload_n hx hb d_L_law_152 rfl (lv_at hl 3 rfl) ?_
  refine lv_iload_n hx hb d_L_law_153 rfl (lv_at hl 0 rfl) ?_
  refine lv_iconst (v := nI 1) hx hb d_L_law_154 (by decide +kernel) ?_
  refine lv_iadd hx hb d_L_law_155 ?_
  refine sx_asi (y := nI (i + 1)) (nI_add i 1) ?_
  refine va_sld hx hb hX hbl hbA hS (vp_in_nI (show i + 1 < N by omega) (by omega)) d_L_law_156 ?_
  refine sx_asi (congrArg xs (nI_clamp (show i + 1 < 2 ^ 31 by omega))) ?_
  refine lv_aload_n hx hb d_L_law_157 rfl (lv_at hl 3 rfl) ?_
  refine lv_iload_n hx hb d_L_law_158 rfl (lv_at hl 0 rfl) ?_
  refine lv_iconst (v := nI 2) hx hb d_L_law_159 (by decide +kernel) ?_
  refine lv_iadd hx hb d_L_law_160 ?_
  refine sx_asi (y := nI (i + 2)) (nI_add i 2) ?_
  refine va_sld hx hb hX hbl hbA hS (vp_in_nI (show i + 2 < N by omega) (by omega)) d_L_law_161 ?_
  refine sx_asi (congrArg xs (nI_clamp (show i + 2 < 2 ^ 31 by omega))) ?_
  have hPDc : sx_PD D (fun q : Nat => s.heap.size ≤ q) ((wX cA h (nI L) (nI na) (sx_bI sb) (nI n) (α 1) (α 2) ab un sv sf sl acts) ++ (wMa cA hm L cd n na sb α cm mk ++ sx_pool cA g K na)) H := hPD
  refine sx_callL (wc := (wX cA h (nI L) (nI na) (sx_bI sb) (nI n) (α 1) (α 2) ab un sv sf sl acts)) (wr := wMa cA hm L cd n na sb α cm mk ++ sx_pool cA g K na) (va_runV (As := [.int (xs (i + 1)), .int (xs (i + 2))]) (rest := []) ⟨hx, hb, hml, hown, hts⟩ (k_file l D cA H.size h (nI L) (nI na) (sx_bI sb) n na L α ab un sv sf sl acts hI hRP hRW (xs (i + 1)) (xs (i + 2))) (cwV 2 hts (sx_GV wd_112 wd_113 wd_114 wd_1 wd_115) rfl rfl rfl (by decide +kernel) ⟨Nat.le_of_ble_eq_true rfl, Nat.le_of_ble_eq_true rfl⟩) (sx_preVw hK hPDc.left.1 hPDc.left.2 (va_recv hK.1 hPDc.left.1 (ci := 3) (q0 := 0) rfl rfl)) rfl rfl hl.1 rfl (lv_room (Nat.le_of_ble_eq_true rfl)) d_L_law_162 ⟨(show cells + 0 ≤ 600000 by omega), (show slots + 0 ≤ 7302250 by omega)⟩) hPDc hS hA (fun r_1 u_3 H locs hr_2 hPD hS => ?_)
  refine W.widen (k := cells) (n := slots) (Nat.le_refl _) (Nat.le_refl _) ?_
  obtain ⟨hr_2, hRW2⟩ := hr_2
  subst hr_2
  refine lv_aload_n hx hb d_L_law_165 rfl (lv_at hl 1 rfl) ?_
  refine lv_aload_n hx hb d_L_law_166 rfl (lv_at hl 3 rfl) ?_
  refine lv_iload_n hx hb d_L_law_167 rfl (lv_at hl 0 rfl) ?_
  refine lv_iconst (v := nI 1) hx hb d_L_law_168 (by decide +kernel) ?_
  refine lv_iadd hx hb d_L_law_169 ?_
  refine sx_asi (y := nI (i + 1)) (nI_add i 1) ?_
  refine va_sld hx hb hX hbl hbA hS (vp_in_nI (show i + 1 < N by omega) (by omega)) d_L_law_170 ?_
  refine sx_asi (congrArg xs (nI_clamp (show i + 1 < 2 ^ 31 by omega))) ?_
  refine lv_aload_n hx hb d_L_law_171 rfl (lv_at hl 3 rfl) ?_
  refine lv_iload_n hx hb d_L_law_172 rfl (lv_at hl 0 rfl) ?_
  refine lv_iconst (v := nI 2) hx hb d_L_law_173 (by decide +kernel) ?_
  refine lv_iadd hx hb d_L_law_174 ?_
  refine sx_asi (y := nI (i + 2)) (nI_add i 2) ?_
  refine va_sld hx hb hX hbl hbA hS (vp_in_nI (show i + 2 < N by omega) (by omega)) d_L_law_175 ?_
  refine sx_asi (congrArg xs (nI_clamp (show i + 2 < 2 ^ 31 by omega))) ?_
  have hPDc : sx_PD D (fun q : Nat => s.heap.size ≤ q) ((wMa cA hm L cd n na sb α cm mk) ++ (wX cA h (nI L) (nI na) (sx_bI sb) (nI n) (α 1) (α 2) ab un u_3.1 u_3.2.1 u_3.2.2 acts ++ sx_pool cA g K na)) H := hPD.perm sx_swap3
  refine sx_callL (wc := (wMa cA hm L cd n na sb α cm mk)) (wr := wX cA h (nI L) (nI na) (sx_bI sb) (nI n) (α 1) (α 2) ab un u_3.1 u_3.2.1 u_3.2.2 acts ++ sx_pool cA g K na) (va_runV (As := [.int (xs (i + 1)), .int (xs (i + 2))]) (rest := [.int (sx_bI (sx_fileA n α (xs (i + 1)) (xs (i + 2))))]) ⟨hx, hb, hml, hown, hts⟩ (m_file l D cA H.size hm L cd n na sb α cm mk hI (xs (i + 1)) (xs (i + 2))) (cwV 2 hts (sx_GV wd_443 wd_444 wd_445 wd_5 wd_446) rfl rfl rfl (by decide +kernel) ⟨Nat.le_of_ble_eq_true rfl, Nat.le_of_ble_eq_true rfl⟩) (sx_preVw hK hPDc.left.1 hPDc.left.2 (va_recv hK.1 hPDc.left.1 (ci := 4) (q0 := 0) rfl rfl)) rfl rfl hl.1 rfl (lv_room (Nat.le_of_ble_eq_true rfl)) d_L_law_176 ⟨(show cells + 0 ≤ 600000 by omega), (show slots + 0 ≤ 7302250 by omega)⟩) hPDc hS hA (fun r_4 u_6 H locs hr_5 hPD hS => ?_)
  refine W.widen (k := cells) (n := slots) (Nat.le_refl _) (Nat.le_refl _) ?_
  subst hr_5
  have hPD := hPD.perm sx_swap3
  refine lv_icmp_eq (tgt := 649) hx hb d_L_law_179 (by decide) (fun c_7 => ?_) (fun c_7 => ?_)
  · exact kk n na sb (sx_fileS n α (xs (i + 1)) (xs (i + 2))) ab un u_3.1 u_3.2.1 u_3.2.2 acts (nI 0) cm mk g K _ _ _ _ (sx_LJ_file hJ hRW2) (sx_LW_of sx_file12.1 sx_file12.2 hPD) hS (by omega) (by omega)
  · exact absurd rfl c_7

set_option maxHeartbeats 4000000 in
set_option maxRecDepth 100000 in
theorem law_source {p : Program} {l : Launch} {e : Env} {s : State} {m : MethodId} {below : List Frame} {meth : Method} {c : Code} {b N : Nat} {xs : Nat → Int32} {D : va_G} {cA : Nat → ClassId} {h hm : Nat → Nat} {L : Nat} {ls : Array Slot} {Q : State → Prop} (C0 : lw_At p s m meth c b N xs) (hN : N ≤ 2049) (hK : sx_K D cA s) (i : Nat) (hi : i + 4 ≤ N) (hl : lv_has ls 4 [(3, .int (nI i)), (2, .ref (hm 0)), (1, .ref (h 0)), (0, .ref b)]) (kk : sx_KO p l e s m below meth c D cA b h hm L ls Q) {n na : Nat} {sb : Bool} {α : sx_A} {ab un : Nat → Int64} {sv : Nat → Int32} {sf sl : Int64} {acts : Nat → Option Nat} {cd : Int32} {cm mk : Nat → Int32} {g : Nat → Nat → Nat} {K : Nat → sx_KA} {H : Heap} {locs : List Loc} {cells slots : Nat} (hJ : sx_LJ L n na α ab un sv sf sl acts g K) (hPD : sx_PD D (fun q : Nat => s.heap.size ≤ q) (sx_LW cA h hm L n na sb α ab un sv sf sl acts cd cm mk g K) H) (hS : va_S (fun q : Nat => s.heap.size ≤ q) s.heap H locs) (hc : cells ≤ 26 + 6 * na) (hsl : slots ≤ 2155 + 159 * na) : W p l e room_1 s m #[Value.ref b] below meth c H locs cells slots Q (F0 m 184 ls []) := by
  obtain ⟨hx, hb, hr, hml, hown, hts0, hX, hbl, hlocks, hgv⟩ := C0
  have hts : ∀ w ∈ sx_gw, w.before #[Value.ref b] s = true := fun w hw => hts0 w (sx_gw_tbl hw)
  have hA : ∀ q : Nat, s.heap.size ≤ q → (fun q : Nat => s.heap.size ≤ q) q := fun _ h => h
  have hbA : ¬ (fun q : Nat => s.heap.size ≤ q) b := Nat.not_le.mpr hbl
  obtain ⟨hI, hRP, hRW, hRA⟩ := id hJ
  have hna10 := hI.1.2.1
  have hPD : sx_PD D (fun q : Nat => s.heap.size ≤ q) (wX cA h (nI L) (nI na) (sx_bI sb) (nI n) (α 1) (α 2) ab un sv sf sl acts ++ (wMa cA hm L cd n na sb α cm mk ++ sx_pool cA g K na)) H := hPD
  refine lv_aload_n hx hb d_L_law_184 rfl (lv_at hl 2 rfl) ?_
  refine lv_aload_n hx hb d_L_law_185 rfl (lv_at hl 3 rfl) ?_
  refine lv_iload_n hx hb d_L_law_186 rfl (lv_at hl 0 rfl) ?_
  refine lv_iconst (v := nI 1) hx hb d_L_law_187 (by decide +kernel) ?_
  refine lv_iadd hx hb d_L_law_188 ?_
  refine sx_asi (y := nI (i + 1)) (nI_add i 1) ?_
  refine va_sld hx hb hX hbl hbA hS (vp_in_nI (show i + 1 < N by omega) (by omega)) d_L_law_189 ?_
  refine sx_asi (congrArg xs (nI_clamp (show i + 1 < 2 ^ 31 by omega))) ?_
  have hPDc : sx_PD D (fun q : Nat => s.heap.size ≤ q) ((wX cA h (nI L) (nI na) (sx_bI sb) (nI n) (α 1) (α 2) ab un sv sf sl acts) ++ (wMa cA hm L cd n na sb α cm mk ++ sx_pool cA g K na)) H := hPD
  refine vp_callSi (va_runV (As := [.int (xs (i + 1))]) (rest := []) ⟨hx, hb, hml, hown, hts⟩ (k_source l D cA h (nI L) (nI na) (sx_bI sb) n na L α ab un sv sf sl acts hI hRP hRW (xs (i + 1))) (cwV 1 hts (sx_GV wd_139 wd_140 wd_141 wd_1 wd_142) rfl rfl rfl (by decide +kernel) ⟨Nat.le_of_ble_eq_true rfl, Nat.le_of_ble_eq_true rfl⟩) (sx_preV hK hPDc.left.1 (va_recv hK.1 hPDc.left.1 (ci := 3) (q0 := 0) rfl rfl)) rfl rfl hl.1 rfl (lv_room (Nat.le_of_ble_eq_true rfl)) d_L_law_190 ⟨(show cells + 0 ≤ 600000 by omega), (show slots + 0 ≤ 7302250 by omega)⟩).run (fun r_1 hr_2 => ?_)
  subst hr_2
  refine lv_aload_n hx hb d_L_law_193 rfl (lv_at hl 1 rfl) ?_
  refine lv_aload_n hx hb d_L_law_194 rfl (lv_at hl 3 rfl) ?_
  refine lv_iload_n hx hb d_L_law_195 rfl (lv_at hl 0 rfl) ?_
  refine lv_iconst (v := nI 1) hx hb d_L_law_196 (by decide +kernel) ?_
  refine lv_iadd hx hb d_L_law_197 ?_
  refine sx_asi (y := nI (i + 1)) (nI_add i 1) ?_
  refine va_sld hx hb hX hbl hbA hS (vp_in_nI (show i + 1 < N by omega) (by omega)) d_L_law_198 ?_
  refine sx_asi (congrArg xs (nI_clamp (show i + 1 < 2 ^ 31 by omega))) ?_
  have hPDc : sx_PD D (fun q : Nat => s.heap.size ≤ q) ((wMa cA hm L cd n na sb α cm mk) ++ (wX cA h (nI L) (nI na) (sx_bI sb) (nI n) (α 1) (α 2) ab un sv sf sl acts ++ sx_pool cA g K na)) H := hPD.perm sx_swap3
  refine sx_callL (wc := (wMa cA hm L cd n na sb α cm mk)) (wr := wX cA h (nI L) (nI na) (sx_bI sb) (nI n) (α 1) (α 2) ab un sv sf sl acts ++ sx_pool cA g K na) (va_runV (As := [.int (xs (i + 1))]) (rest := [.int (sx_srcA n α (xs (i + 1)))]) ⟨hx, hb, hml, hown, hts⟩ (m_source l D cA H.size hm L cd n na sb α cm mk hI (xs (i + 1))) (cwV 1 hts (sx_GV wd_451 wd_452 wd_453 wd_5 wd_454) rfl rfl rfl (by decide +kernel) ⟨Nat.le_of_ble_eq_true rfl, Nat.le_of_ble_eq_true rfl⟩) (sx_preVw hK hPDc.left.1 hPDc.left.2 (va_recv hK.1 hPDc.left.1 (ci := 4) (q0 := 0) rfl rfl)) rfl rfl hl.1 rfl (lv_room (Nat.le_of_ble_eq_true rfl)) d_L_law_199 ⟨(show cells + 0 ≤ 600000 by omega), (show slots + 0 ≤ 7302250 by omega)⟩) hPDc hS hA (fun r_4 u_6 H locs hr_5 hPD hS => ?_)
  refine W.widen (k := cells) (n := slots) (Nat.le_refl _) (Nat.le_refl _) ?_
  subst hr_5
  have hPD := hPD.perm sx_swap3
  refine lv_icmp_eq (tgt := 649) hx hb d_L_law_202 (by decide) (fun c_7 => ?_) (fun c_7 => ?_)
  · exact kk n na sb α ab un sv sf sl acts (nI 0) cm mk g K _ _ _ _ (hJ) (sx_LW_of rfl rfl hPD) hS (by omega) (by omega)
  · exact absurd rfl c_7

set_option maxHeartbeats 4000000 in
set_option maxRecDepth 100000 in
theorem law_action {p : Program} {l : Launch} {e : Env} {s : State} {m : MethodId} {below : List Frame} {meth : Method} {c : Code} {b N : Nat} {xs : Nat → Int32} {D : va_G} {cA : Nat → ClassId} {h hm : Nat → Nat} {L : Nat} {ls : Array Slot} {Q : State → Prop} (C0 : lw_At p s m meth c b N xs) (hN : N ≤ 2049) (hK : sx_K D cA s) (i : Nat) (hi : i + 4 ≤ N) (hl : lv_has ls 4 [(3, .int (nI i)), (2, .ref (hm 0)), (1, .ref (h 0)), (0, .ref b)]) (kk : sx_KO p l e s m below meth c D cA b h hm L ls Q) {n na : Nat} {sb : Bool} {α : sx_A} {ab un : Nat → Int64} {sv : Nat → Int32} {sf sl : Int64} {acts : Nat → Option Nat} {cd : Int32} {cm mk : Nat → Int32} {g : Nat → Nat → Nat} {K : Nat → sx_KA} {H : Heap} {locs : List Loc} {cells slots : Nat} (hJ : sx_LJ L n na α ab un sv sf sl acts g K) (hPD : sx_PD D (fun q : Nat => s.heap.size ≤ q) (sx_LW cA h hm L n na sb α ab un sv sf sl acts cd cm mk g K) H) (hS : va_S (fun q : Nat => s.heap.size ≤ q) s.heap H locs) (hc : cells ≤ 26 + 6 * na) (hsl : slots ≤ 2155 + 159 * na) : W p l e room_1 s m #[Value.ref b] below meth c H locs cells slots Q (F0 m 207 ls []) := by
  obtain ⟨hx, hb, hr, hml, hown, hts0, hX, hbl, hlocks, hgv⟩ := C0
  have hts : ∀ w ∈ sx_gw, w.before #[Value.ref b] s = true := fun w hw => hts0 w (sx_gw_tbl hw)
  have hA : ∀ q : Nat, s.heap.size ≤ q → (fun q : Nat => s.heap.size ≤ q) q := fun _ h => h
  have hbA : ¬ (fun q : Nat => s.heap.size ≤ q) b := Nat.not_le.mpr hbl
  obtain ⟨hI, hRP, hRW, hRA⟩ := id hJ
  have hna10 := hI.1.2.1
  have hPD : sx_PD D (fun q : Nat => s.heap.size ≤ q) (wX cA h (nI L) (nI na) (sx_bI sb) (nI n) (α 1) (α 2) ab un sv sf sl acts ++ (wMa cA hm L cd n na sb α cm mk ++ sx_pool cA g K na)) H := hPD
  rcases Nat.lt_or_ge na 10 with hna9 | hna9
  · have ha9 : sx_actA na = nI na ∧ sx_actN na = na + 1 := by unfold sx_actA sx_actN; rw [sx_beq_f (by omega)]; exact ⟨rfl, rfl⟩
    refine lv_aload_n hx hb d_L_law_207 rfl (lv_at hl 2 rfl) ?_
    have hPDc : sx_PD D (fun q : Nat => s.heap.size ≤ q) ((wX cA h (nI L) (nI na) (sx_bI sb) (nI n) (α 1) (α 2) ab un sv sf sl acts) ++ (wMa cA hm L cd n na sb α cm mk ++ sx_pool cA g K na)) H := hPD
    refine sx_callL (wc := (wX cA h (nI L) (nI na) (sx_bI sb) (nI n) (α 1) (α 2) ab un sv sf sl acts)) (wr := wMa cA hm L cd n na sb α cm mk ++ sx_pool cA g K na) (va_runV (As := []) (rest := []) ⟨hx, hb, hml, hown, hts⟩ (k_action l D cA H.size h (nI L) na (sx_bI sb) (nI n) (α 1) (α 2) ab un sv sf sl acts hna9) (cwV 0 hts (sx_GV wd_148 wd_149 wd_150 wd_1 wd_151) rfl rfl rfl (by decide +kernel) ⟨Nat.le_of_ble_eq_true rfl, Nat.le_of_ble_eq_true rfl⟩) (sx_preVw hK hPDc.left.1 hPDc.left.2 (va_recv hK.1 hPDc.left.1 (ci := 3) (q0 := 0) rfl rfl)) rfl rfl hl.1 rfl (lv_room (Nat.le_of_ble_eq_true rfl)) d_L_law_208 ⟨(show cells + 6 ≤ 600000 by omega), (show slots + 159 ≤ 7302250 by omega)⟩) hPDc hS hA (fun r_1 u_3 H locs hr_2 hPD hS => ?_)
    subst hr_2
    rw [sx_K0_eq] at hPD
    have hPD := hPD.perm sx_push
    refine W.widen (k := cells + 6) (n := slots + 159) (Nat.le_refl _) (Nat.le_refl _) ?_
    refine lv_aload_n hx hb d_L_law_211 rfl (lv_at hl 1 rfl) ?_
    have hPDc : sx_PD D (fun q : Nat => s.heap.size ≤ q) ((wMa cA hm L cd n na sb α cm mk) ++ (wX cA h (nI L) (nI (na + 1)) (sx_bI sb) (nI n) (α 1) (α 2) ab un sv sf sl (va_up acts na (some (u_3 0))) ++ sx_pool cA (fun b => if b = na then u_3 else g b) (fun b => if b = na then sx_K0 else K b) (na + 1))) H := hPD.perm sx_swap3
    refine sx_callL (wc := (wMa cA hm L cd n na sb α cm mk)) (wr := wX cA h (nI L) (nI (na + 1)) (sx_bI sb) (nI n) (α 1) (α 2) ab un sv sf sl (va_up acts na (some (u_3 0))) ++ sx_pool cA (fun b => if b = na then u_3 else g b) (fun b => if b = na then sx_K0 else K b) (na + 1)) (va_runV (As := []) (rest := [.int (nI na)]) ⟨hx, hb, hml, hown, hts⟩ (m_action l D cA H.size hm L cd n na sb α cm mk hna10) (cwV 0 hts (sx_GV wd_455 wd_456 wd_457 wd_5 wd_458) rfl rfl rfl (by decide +kernel) ⟨Nat.le_of_ble_eq_true rfl, Nat.le_of_ble_eq_true rfl⟩) (sx_preVw hK hPDc.left.1 hPDc.left.2 (va_recv hK.1 hPDc.left.1 (ci := 4) (q0 := 0) rfl rfl)) rfl rfl hl.1 rfl (lv_room (Nat.le_of_ble_eq_true rfl)) d_L_law_212 ⟨(show cells + 6 + 0 ≤ 600000 by omega), (show slots + 159 + 0 ≤ 7302250 by omega)⟩) hPDc hS hA (fun r_4 u_6 H locs hr_5 hPD hS => ?_)
    refine W.widen (k := cells + 6) (n := slots + 159) (Nat.le_refl _) (Nat.le_refl _) ?_
    obtain ⟨ea1, ea2⟩ := ha9
    rw [ea1] at hr_5
    subst hr_5
    rw [ea2] at hPD
    have hPD := hPD.perm sx_swap3
    refine lv_icmp_eq (tgt := 649) hx hb d_L_law_215 (by decide) (fun c_7 => ?_) (fun c_7 => ?_)
    · exact kk n (na + 1) sb α ab un sv sf sl (va_up acts na (some (u_3 0))) (nI 0) cm mk (fun b => if b = na then u_3 else g b) (fun b => if b = na then sx_K0 else K b) _ _ _ _ (sx_LJ_act hJ hna9) (sx_LW_of rfl rfl hPD) hS (by omega) (by omega)
    · exact absurd rfl c_7
  · have hna9 : na = 10 := by omega
    have ha9 : sx_actA na = -1 ∧ sx_actN na = na := by rw [hna9]; exact ⟨rfl, rfl⟩
    refine lv_aload_n hx hb d_L_law_207 rfl (lv_at hl 2 rfl) ?_
    have hPDc : sx_PD D (fun q : Nat => s.heap.size ≤ q) ((wX cA h (nI L) (nI na) (sx_bI sb) (nI n) (α 1) (α 2) ab un sv sf sl acts) ++ (wMa cA hm L cd n na sb α cm mk ++ sx_pool cA g K na)) H := hPD
    refine vp_callSi (va_runV (As := []) (rest := []) ⟨hx, hb, hml, hown, hts⟩ (k_actionF l D cA h (nI L) na (sx_bI sb) (nI n) (α 1) (α 2) ab un sv sf sl acts hna9) (cwV 0 hts (sx_GV wd_148 wd_149 wd_150 wd_1 wd_151) rfl rfl rfl (by decide +kernel) ⟨Nat.le_of_ble_eq_true rfl, Nat.le_of_ble_eq_true rfl⟩) (sx_preV hK hPDc.left.1 (va_recv hK.1 hPDc.left.1 (ci := 3) (q0 := 0) rfl rfl)) rfl rfl hl.1 rfl (lv_room (Nat.le_of_ble_eq_true rfl)) d_L_law_208 ⟨(show cells + 0 ≤ 600000 by omega), (show slots + 0 ≤ 7302250 by omega)⟩).run (fun r_8 hr_9 => ?_)
    subst hr_9
    refine lv_aload_n hx hb d_L_law_211 rfl (lv_at hl 1 rfl) ?_
    have hPDc : sx_PD D (fun q : Nat => s.heap.size ≤ q) ((wMa cA hm L cd n na sb α cm mk) ++ (wX cA h (nI L) (nI na) (sx_bI sb) (nI n) (α 1) (α 2) ab un sv sf sl acts ++ sx_pool cA g K na)) H := hPD.perm sx_swap3
    refine sx_callL (wc := (wMa cA hm L cd n na sb α cm mk)) (wr := wX cA h (nI L) (nI na) (sx_bI sb) (nI n) (α 1) (α 2) ab un sv sf sl acts ++ sx_pool cA g K na) (va_runV (As := []) (rest := [.int (-1)]) ⟨hx, hb, hml, hown, hts⟩ (m_action l D cA H.size hm L cd n na sb α cm mk hna10) (cwV 0 hts (sx_GV wd_455 wd_456 wd_457 wd_5 wd_458) rfl rfl rfl (by decide +kernel) ⟨Nat.le_of_ble_eq_true rfl, Nat.le_of_ble_eq_true rfl⟩) (sx_preVw hK hPDc.left.1 hPDc.left.2 (va_recv hK.1 hPDc.left.1 (ci := 4) (q0 := 0) rfl rfl)) rfl rfl hl.1 rfl (lv_room (Nat.le_of_ble_eq_true rfl)) d_L_law_212 ⟨(show cells + 0 ≤ 600000 by omega), (show slots + 0 ≤ 7302250 by omega)⟩) hPDc hS hA (fun r_11 u_13 H locs hr_12 hPD hS => ?_)
    refine W.widen (k := cells) (n := slots) (Nat.le_refl _) (Nat.le_refl _) ?_
    obtain ⟨ea1, ea2⟩ := ha9
    rw [ea1] at hr_12
    subst hr_12
    rw [ea2] at hPD
    have hPD := hPD.perm sx_swap3
    refine lv_icmp_eq (tgt := 649) hx hb d_L_law_215 (by decide) (fun c_14 => ?_) (fun c_14 => ?_)
    · exact kk n na sb α ab un sv sf sl acts (nI 0) cm mk g K _ _ _ _ (hJ) (sx_LW_of rfl rfl hPD) hS (by omega) (by omega)
    · exact absurd rfl c_14

set_option maxHeartbeats 4000000 in
set_option maxRecDepth 100000 in
theorem law_strict {p : Program} {l : Launch} {e : Env} {s : State} {m : MethodId} {below : List Frame} {meth : Method} {c : Code} {b N : Nat} {xs : Nat → Int32} {D : va_G} {cA : Nat → ClassId} {h hm : Nat → Nat} {L : Nat} {ls : Array Slot} {Q : State → Prop} (C0 : lw_At p s m meth c b N xs) (hN : N ≤ 2049) (hK : sx_K D cA s) (i : Nat) (hi : i + 4 ≤ N) (hl : lv_has ls 4 [(3, .int (nI i)), (2, .ref (hm 0)), (1, .ref (h 0)), (0, .ref b)]) (kk : sx_KO p l e s m below meth c D cA b h hm L ls Q) {n na : Nat} {sb : Bool} {α : sx_A} {ab un : Nat → Int64} {sv : Nat → Int32} {sf sl : Int64} {acts : Nat → Option Nat} {cd : Int32} {cm mk : Nat → Int32} {g : Nat → Nat → Nat} {K : Nat → sx_KA} {H : Heap} {locs : List Loc} {cells slots : Nat} (hJ : sx_LJ L n na α ab un sv sf sl acts g K) (hPD : sx_PD D (fun q : Nat => s.heap.size ≤ q) (sx_LW cA h hm L n na sb α ab un sv sf sl acts cd cm mk g K) H) (hS : va_S (fun q : Nat => s.heap.size ≤ q) s.heap H locs) (hc : cells ≤ 26 + 6 * na) (hsl : slots ≤ 2155 + 159 * na) : W p l e room_1 s m #[Value.ref b] below meth c H locs cells slots Q (F0 m 279 ls []) := by
  obtain ⟨hx, hb, hr, hml, hown, hts0, hX, hbl, hlocks, hgv⟩ := C0
  have hts : ∀ w ∈ sx_gw, w.before #[Value.ref b] s = true := fun w hw => hts0 w (sx_gw_tbl hw)
  have hA : ∀ q : Nat, s.heap.size ≤ q → (fun q : Nat => s.heap.size ≤ q) q := fun _ h => h
  have hbA : ¬ (fun q : Nat => s.heap.size ≤ q) b := Nat.not_le.mpr hbl
  obtain ⟨hI, hRP, hRW, hRA⟩ := id hJ
  have hna10 := hI.1.2.1
  have hPD : sx_PD D (fun q : Nat => s.heap.size ≤ q) (wX cA h (nI L) (nI na) (sx_bI sb) (nI n) (α 1) (α 2) ab un sv sf sl acts ++ (wMa cA hm L cd n na sb α cm mk ++ sx_pool cA g K na)) H := hPD
  refine lv_aload_n hx hb d_L_law_279 rfl (lv_at hl 2 rfl) ?_
  refine lv_aload_n hx hb d_L_law_280 rfl (lv_at hl 3 rfl) ?_
  refine lv_iload_n hx hb d_L_law_281 rfl (lv_at hl 0 rfl) ?_
  refine lv_iconst (v := nI 1) hx hb d_L_law_282 (by decide +kernel) ?_
  refine lv_iadd hx hb d_L_law_283 ?_
  refine sx_asi (y := nI (i + 1)) (nI_add i 1) ?_
  refine va_sld hx hb hX hbl hbA hS (vp_in_nI (show i + 1 < N by omega) (by omega)) d_L_law_284 ?_
  refine sx_asi (congrArg xs (nI_clamp (show i + 1 < 2 ^ 31 by omega))) ?_
  refine lv_if_eq (tgt := 292) hx hb d_L_law_285 (by decide) (fun c_1 => ?_) (fun c_1 => ?_)
  · refine lv_iconst (v := nI 0) hx hb d_L_law_292 (by decide +kernel) ?_
    refine sx_asi (y := sx_bI false) rfl ?_
    have hPDc : sx_PD D (fun q : Nat => s.heap.size ≤ q) ((wX cA h (nI L) (nI na) (sx_bI sb) (nI n) (α 1) (α 2) ab un sv sf sl acts) ++ (wMa cA hm L cd n na sb α cm mk ++ sx_pool cA g K na)) H := hPD
    refine sx_callLv (wc := (wX cA h (nI L) (nI na) (sx_bI sb) (nI n) (α 1) (α 2) ab un sv sf sl acts)) (wr := wMa cA hm L cd n na sb α cm mk ++ sx_pool cA g K na) (va_runV (As := [.int (sx_bI false)]) (rest := []) ⟨hx, hb, hml, hown, hts⟩ (k_strict l D cA H.size h (nI L) (nI na) (sx_bI sb) (nI n) (α 1) (α 2) ab un sv sf sl acts false) (cwV 1 hts (sx_GV wd_225 wd_226 wd_227 wd_1 wd_228) rfl rfl rfl (by decide +kernel) ⟨Nat.le_of_ble_eq_true rfl, Nat.le_of_ble_eq_true rfl⟩) (sx_preVw hK hPDc.left.1 hPDc.left.2 (va_recv hK.1 hPDc.left.1 (ci := 3) (q0 := 0) rfl rfl)) rfl rfl hl.1 rfl (lv_room (Nat.le_of_ble_eq_true rfl)) d_L_law_293 ⟨(show cells + 0 ≤ 600000 by omega), (show slots + 0 ≤ 7302250 by omega)⟩) hPDc hS hA (fun u_4 H locs hr_3 hPD hS => ?_)
    refine W.widen (k := cells) (n := slots) (Nat.le_refl _) (Nat.le_refl _) ?_
    refine lv_aload_n hx hb d_L_law_296 rfl (lv_at hl 1 rfl) ?_
    refine lv_aload_n hx hb d_L_law_297 rfl (lv_at hl 3 rfl) ?_
    refine lv_iload_n hx hb d_L_law_298 rfl (lv_at hl 0 rfl) ?_
    refine lv_iconst (v := nI 1) hx hb d_L_law_299 (by decide +kernel) ?_
    refine lv_iadd hx hb d_L_law_300 ?_
    refine sx_asi (y := nI (i + 1)) (nI_add i 1) ?_
    refine va_sld hx hb hX hbl hbA hS (vp_in_nI (show i + 1 < N by omega) (by omega)) d_L_law_301 ?_
    refine sx_asi (congrArg xs (nI_clamp (show i + 1 < 2 ^ 31 by omega))) ?_
    refine lv_if_eq (tgt := 309) hx hb d_L_law_302 (by decide) (fun c_5 => ?_) (fun c_5 => ?_)
    · refine lv_iconst (v := nI 0) hx hb d_L_law_309 (by decide +kernel) ?_
      refine sx_asi (y := sx_bI false) rfl ?_
      have hPDc : sx_PD D (fun q : Nat => s.heap.size ≤ q) ((wMa cA hm L cd n na sb α cm mk) ++ (wX cA h (nI L) (nI na) (sx_bI false) (nI n) (α 1) (α 2) ab un sv sf sl acts ++ sx_pool cA g K na)) H := hPD.perm sx_swap3
      refine sx_callLv (wc := (wMa cA hm L cd n na sb α cm mk)) (wr := wX cA h (nI L) (nI na) (sx_bI false) (nI n) (α 1) (α 2) ab un sv sf sl acts ++ sx_pool cA g K na) (va_runV (As := [.int (sx_bI false)]) (rest := []) ⟨hx, hb, hml, hown, hts⟩ (m_strict l D cA H.size hm L cd n na sb α cm mk false) (cwV 1 hts (sx_GV wd_467 wd_468 wd_469 wd_5 wd_470) rfl rfl rfl (by decide +kernel) ⟨Nat.le_of_ble_eq_true rfl, Nat.le_of_ble_eq_true rfl⟩) (sx_preVw hK hPDc.left.1 hPDc.left.2 (va_recv hK.1 hPDc.left.1 (ci := 4) (q0 := 0) rfl rfl)) rfl rfl hl.1 rfl (lv_room (Nat.le_of_ble_eq_true rfl)) d_L_law_310 ⟨(show cells + 0 ≤ 600000 by omega), (show slots + 0 ≤ 7302250 by omega)⟩) hPDc hS hA (fun u_8 H locs hr_7 hPD hS => ?_)
      refine W.widen (k := cells) (n := slots) (Nat.le_refl _) (Nat.le_refl _) ?_
      have hPD := hPD.perm sx_swap3
      refine lv_goto (tgt := 649) hx hb d_L_law_313 (by decide) ?_
      exact kk n na false α ab un sv sf sl acts (nI 0) cm mk g K _ _ _ _ (hJ) (sx_LW_of rfl rfl hPD) hS (by omega) (by omega)
    · exact absurd c_1 c_5
  · refine lv_iconst (v := nI 1) hx hb d_L_law_288 (by decide +kernel) ?_
    refine lv_goto (tgt := 293) hx hb d_L_law_289 (by decide) ?_
    refine sx_asi (y := sx_bI true) rfl ?_
    have hPDc : sx_PD D (fun q : Nat => s.heap.size ≤ q) ((wX cA h (nI L) (nI na) (sx_bI sb) (nI n) (α 1) (α 2) ab un sv sf sl acts) ++ (wMa cA hm L cd n na sb α cm mk ++ sx_pool cA g K na)) H := hPD
    refine sx_callLv (wc := (wX cA h (nI L) (nI na) (sx_bI sb) (nI n) (α 1) (α 2) ab un sv sf sl acts)) (wr := wMa cA hm L cd n na sb α cm mk ++ sx_pool cA g K na) (va_runV (As := [.int (sx_bI true)]) (rest := []) ⟨hx, hb, hml, hown, hts⟩ (k_strict l D cA H.size h (nI L) (nI na) (sx_bI sb) (nI n) (α 1) (α 2) ab un sv sf sl acts true) (cwV 1 hts (sx_GV wd_225 wd_226 wd_227 wd_1 wd_228) rfl rfl rfl (by decide +kernel) ⟨Nat.le_of_ble_eq_true rfl, Nat.le_of_ble_eq_true rfl⟩) (sx_preVw hK hPDc.left.1 hPDc.left.2 (va_recv hK.1 hPDc.left.1 (ci := 3) (q0 := 0) rfl rfl)) rfl rfl hl.1 rfl (lv_room (Nat.le_of_ble_eq_true rfl)) d_L_law_293 ⟨(show cells + 0 ≤ 600000 by omega), (show slots + 0 ≤ 7302250 by omega)⟩) hPDc hS hA (fun u_11 H locs hr_10 hPD hS => ?_)
    refine W.widen (k := cells) (n := slots) (Nat.le_refl _) (Nat.le_refl _) ?_
    refine lv_aload_n hx hb d_L_law_296 rfl (lv_at hl 1 rfl) ?_
    refine lv_aload_n hx hb d_L_law_297 rfl (lv_at hl 3 rfl) ?_
    refine lv_iload_n hx hb d_L_law_298 rfl (lv_at hl 0 rfl) ?_
    refine lv_iconst (v := nI 1) hx hb d_L_law_299 (by decide +kernel) ?_
    refine lv_iadd hx hb d_L_law_300 ?_
    refine sx_asi (y := nI (i + 1)) (nI_add i 1) ?_
    refine va_sld hx hb hX hbl hbA hS (vp_in_nI (show i + 1 < N by omega) (by omega)) d_L_law_301 ?_
    refine sx_asi (congrArg xs (nI_clamp (show i + 1 < 2 ^ 31 by omega))) ?_
    refine lv_if_eq (tgt := 309) hx hb d_L_law_302 (by decide) (fun c_12 => ?_) (fun c_12 => ?_)
    · exact absurd c_12 c_1
    · refine lv_iconst (v := nI 1) hx hb d_L_law_305 (by decide +kernel) ?_
      refine lv_goto (tgt := 310) hx hb d_L_law_306 (by decide) ?_
      refine sx_asi (y := sx_bI true) rfl ?_
      have hPDc : sx_PD D (fun q : Nat => s.heap.size ≤ q) ((wMa cA hm L cd n na sb α cm mk) ++ (wX cA h (nI L) (nI na) (sx_bI true) (nI n) (α 1) (α 2) ab un sv sf sl acts ++ sx_pool cA g K na)) H := hPD.perm sx_swap3
      refine sx_callLv (wc := (wMa cA hm L cd n na sb α cm mk)) (wr := wX cA h (nI L) (nI na) (sx_bI true) (nI n) (α 1) (α 2) ab un sv sf sl acts ++ sx_pool cA g K na) (va_runV (As := [.int (sx_bI true)]) (rest := []) ⟨hx, hb, hml, hown, hts⟩ (m_strict l D cA H.size hm L cd n na sb α cm mk true) (cwV 1 hts (sx_GV wd_467 wd_468 wd_469 wd_5 wd_470) rfl rfl rfl (by decide +kernel) ⟨Nat.le_of_ble_eq_true rfl, Nat.le_of_ble_eq_true rfl⟩) (sx_preVw hK hPDc.left.1 hPDc.left.2 (va_recv hK.1 hPDc.left.1 (ci := 4) (q0 := 0) rfl rfl)) rfl rfl hl.1 rfl (lv_room (Nat.le_of_ble_eq_true rfl)) d_L_law_310 ⟨(show cells + 0 ≤ 600000 by omega), (show slots + 0 ≤ 7302250 by omega)⟩) hPDc hS hA (fun u_15 H locs hr_14 hPD hS => ?_)
      refine W.widen (k := cells) (n := slots) (Nat.le_refl _) (Nat.le_refl _) ?_
      have hPD := hPD.perm sx_swap3
      refine lv_goto (tgt := 649) hx hb d_L_law_313 (by decide) ?_
      exact kk n na true α ab un sv sf sl acts (nI 0) cm mk g K _ _ _ _ (hJ) (sx_LW_of rfl rfl hPD) hS (by omega) (by omega)
