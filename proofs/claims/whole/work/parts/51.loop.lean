set_option maxHeartbeats 4000000 in
set_option maxRecDepth 100000 in
theorem law_loop {p : Program} {l : Launch} {e : Env} {s : State} {m : MethodId} {below : List Frame} {meth : Method} {c : Code} {b N : Nat} {xs : Nat → Int32} {D : va_G} {cA : Nat → ClassId} {h hm : Nat → Nat} {L : Nat} (C0 : lw_At p s m meth c b N xs) (hN : N ≤ 2049) (hK : sx_K D cA s) : ∀ (f i : Nat), i ≤ N + 4 → N + 5 ≤ i + f → ∀ (n na : Nat) (sb : Bool) (α : sx_A) (ab un : Nat → Int64) (sv : Nat → Int32) (sf sl : Int64) (acts : Nat → Option Nat) (cd : Int32) (cm mk : Nat → Int32) (g : Nat → Nat → Nat) (K : Nat → sx_KA) (H : Heap) (locs : List Loc) (cells slots : Nat) (ls : Array Slot), sx_LJ L n na α ab un sv sf sl acts g K → sx_PD D (fun q : Nat => s.heap.size ≤ q) (sx_LW cA h hm L n na sb α ab un sv sf sl acts cd cm mk g K) H → va_S (fun q : Nat => s.heap.size ≤ q) s.heap H locs → cells ≤ 26 + 6 * na → slots ≤ 2155 + 159 * na → lv_has ls 4 [(3, .int (nI i)), (2, .ref (hm 0)), (1, .ref (h 0)), (0, .ref b)] → W p l e room_1 s m #[Value.ref b] below meth c H locs cells slots (lw_Z below #[Value.ref b] s) (F0 m 28 ls []) := by
  obtain ⟨hx, hb, hr, hml, hown, hts0, hX, hbl, hlocks, hgv⟩ := id C0
  have hbA : ¬ (fun q : Nat => s.heap.size ≤ q) b := Nat.not_le.mpr hbl
  intro f
  induction f with
  | zero => intro i h1 h2; omega
  | succ f ih =>
    intro i hi1 hi2 n na sb α ab un sv sf sl acts cd cm mk g K H locs cells slots ls hJ hPD hS hc hsl hl
    refine lv_iload_n hx hb d_L_law_28 rfl (lv_at hl 0 rfl) ?_
    refine lv_aload_n hx hb d_L_law_29 rfl (lv_at hl 3 rfl) ?_
    refine va_slen hx hb hX hbl hbA hS d_L_law_30 ?_
    refine sx_asi (y := nI N) rfl ?_
    refine lv_iconst (v := nI 4) hx hb d_L_law_31 (by decide +kernel) ?_
    refine lv_isub hx hb d_L_law_32 ?_
    refine lv_icmp_gt (tgt := 655) hx hb d_L_law_33 (by decide) (fun c_1 => ?_) (fun c_1 => ?_)
    · refine lv_iconst (v := 1) hx hb d_L_law_655 (by decide +kernel) ?_
      refine va_forget (fun q hq => hS.2.2 q hq) ?_
      have hna10 := hJ.1.1.2.1
      refine W.widen (k := 600000) (n := 7302250) (by omega) (by omega) ?_
      exact lw_ret hx hb hr hlocks d_L_law_656
    · have hi4 : i + 4 ≤ N := Nat.not_lt.mp (fun z => c_1 ((sx_gt4 hi1 hN).mpr z))
      have kk : sx_KO p l e s m below meth c D cA b h hm L ls (lw_Z below #[Value.ref b] s) := by
        intro n na sb α ab un sv sf sl acts cd cm mk g K H locs cells slots hJ hPD hS hc hsl
        refine lv_iinc (v := nI (i + 4)) (lv' := [(3, .int (nI (i + 4))), (2, .ref (hm 0)), (1, .ref (h 0)), (0, .ref b)]) hx hb d_L_law_649 hl (k := 0) rfl (nI_add i 4) (by decide) rfl (fun ls hl => ?_)
        refine lv_goto (tgt := 28) hx hb d_L_law_652 (by decide) ?_
        exact ih (i + 4) (by omega) (by omega) n na sb α ab un sv sf sl acts cd cm mk g K H locs cells slots ls hJ hPD hS hc hsl hl
      refine lv_aload_n hx hb d_L_law_36 rfl (lv_at hl 3 rfl) ?_
      refine lv_iload_n hx hb d_L_law_37 rfl (lv_at hl 0 rfl) ?_
      refine va_sld hx hb hX hbl hbA hS (vp_in_nI (show i < N by omega) (by omega)) d_L_law_38 ?_
      refine lv_bipush (v := nI 15) hx hb d_L_law_39 (by decide +kernel) ?_
      refine lv_iand hx hb d_L_law_41 ?_
      obtain ⟨j, hj, ej⟩ := sx_and15 (xs (nI i).toNatClampNeg)
      refine sx_asi ej ?_
      rcases (show j = 0 ∨ j = 1 ∨ j = 2 ∨ j = 3 ∨ j = 4 ∨ j = 5 ∨ j = 6 ∨ j = 7 ∨ j = 8 ∨ j = 9 ∨ j = 10 ∨ j = 11 ∨ j = 12 ∨ j = 13 ∨ j = 14 ∨ j = 15 by omega) with rfl | rfl | rfl | rfl | rfl | rfl | rfl | rfl | rfl | rfl | rfl | rfl | rfl | rfl | rfl | rfl
      · refine lv_tableIn (tgt := 116) (off := 74) hx hb d_L_law_42 (by decide) (by decide) (by decide +kernel) (by decide) ?_
        exact law_path C0 hN hK i hi4 hl kk hJ hPD hS hc hsl
      · refine lv_tableIn (tgt := 151) (off := 109) hx hb d_L_law_42 (by decide) (by decide) (by decide +kernel) (by decide) ?_
        exact law_file C0 hN hK i hi4 hl kk hJ hPD hS hc hsl
      · refine lv_tableIn (tgt := 184) (off := 142) hx hb d_L_law_42 (by decide) (by decide) (by decide +kernel) (by decide) ?_
        exact law_source C0 hN hK i hi4 hl kk hJ hPD hS hc hsl
      · refine lv_tableIn (tgt := 207) (off := 165) hx hb d_L_law_42 (by decide) (by decide) (by decide +kernel) (by decide) ?_
        exact law_action C0 hN hK i hi4 hl kk hJ hPD hS hc hsl
      · refine lv_tableIn (tgt := 220) (off := 178) hx hb d_L_law_42 (by decide) (by decide) (by decide +kernel) (by decide) ?_
        exact law_declare C0 hN hK i hi4 hl kk hJ hPD hS hc hsl
      · refine lv_tableIn (tgt := 279) (off := 237) hx hb d_L_law_42 (by decide) (by decide) (by decide +kernel) (by decide) ?_
        exact law_strict C0 hN hK i hi4 hl kk hJ hPD hS hc hsl
      · refine lv_tableIn (tgt := 316) (off := 274) hx hb d_L_law_42 (by decide) (by decide) (by decide +kernel) (by decide) ?_
        exact law_begin C0 hN hK i hi4 hl kk hJ hPD hS hc hsl
      · refine lv_tableIn (tgt := 339) (off := 297) hx hb d_L_law_42 (by decide) (by decide) (by decide +kernel) (by decide) ?_
        exact law_open C0 hN hK i hi4 hl kk hJ hPD hS hc hsl
      · refine lv_tableIn (tgt := 372) (off := 330) hx hb d_L_law_42 (by decide) (by decide) (by decide +kernel) (by decide) ?_
        exact law_write C0 hN hK i hi4 hl kk hJ hPD hS hc hsl
      · refine lv_tableIn (tgt := 415) (off := 373) hx hb d_L_law_42 (by decide) (by decide) (by decide +kernel) (by decide) ?_
        exact law_link C0 hN hK i hi4 hl kk hJ hPD hS hc hsl
      · refine lv_tableIn (tgt := 458) (off := 416) hx hb d_L_law_42 (by decide) (by decide) (by decide +kernel) (by decide) ?_
        exact law_remove C0 hN hK i hi4 hl kk hJ hPD hS hc hsl
      · refine lv_tableIn (tgt := 491) (off := 449) hx hb d_L_law_42 (by decide) (by decide) (by decide +kernel) (by decide) ?_
        exact law_list C0 hN hK i hi4 hl kk hJ hPD hS hc hsl
      · refine lv_tableIn (tgt := 534) (off := 492) hx hb d_L_law_42 (by decide) (by decide) (by decide +kernel) (by decide) ?_
        exact law_finish C0 hN hK i hi4 hl kk hJ hPD hS hc hsl
      · refine lv_tableIn (tgt := 583) (off := 541) hx hb d_L_law_42 (by decide) (by decide) (by decide +kernel) (by decide) ?_
        exact law_tried C0 hN hK i hi4 hl kk hJ hPD hS hc hsl
      · refine lv_tableIn (tgt := 616) (off := 574) hx hb d_L_law_42 (by decide) (by decide) (by decide +kernel) (by decide) ?_
        exact law_about C0 hN hK i hi4 hl kk hJ hPD hS hc hsl
      · refine lv_tableOut (tgt := 649) hx hb d_L_law_42 (Or.inr (by decide)) (by decide) ?_
        exact kk n na sb α ab un sv sf sl acts cd cm mk g K H locs cells slots hJ hPD hS hc hsl
