set_option maxHeartbeats 4000000 in
set_option maxRecDepth 100000 in
theorem whole_start {p : Program} {e : Env} {s : State} {m : MethodId} {below : List Frame} {meth : Method} {c : Code} (l : Launch) {b L : Nat} {xs : Nat → Int32} (hL : L ≤ 2049) (C0 : lw_At p s m meth c b L xs) : W p l e room_1 s m #[Value.ref b] below meth c s.heap [] 0 0 (lw_Z below #[Value.ref b] s) (entryFrame m ([Value.ref b] : List Value).toArray 4) := by
  obtain ⟨N, eN⟩ : ∃ N : Nat, N = L := ⟨_, rfl⟩
  subst eN
  have hN := hL
  obtain ⟨hx, hb, hr, hml, hown, hts0, hX, hbl, hlocks, hgv⟩ := id C0
  have hts : ∀ w ∈ sx_gw, w.before #[Value.ref b] s = true := fun w hw => hts0 w (sx_gw_tbl hw)
  have hA : ∀ q : Nat, s.heap.size ≤ q → (fun q : Nat => s.heap.size ≤ q) q := fun _ h => h
  have hbA : ¬ (fun q : Nat => s.heap.size ≤ q) b := Nat.not_le.mpr hbl
  obtain ⟨D, cA, hK⟩ := sx_K_of hts0
  obtain ⟨x, hx9⟩ : ∃ x : Int32, x = if 0 < N then xs 0 else 0 := ⟨_, rfl⟩
  have hS : va_S (fun q : Nat => s.heap.size ≤ q) s.heap s.heap [] := va_S.rf
  have hP : va_P D vwCl [] s.heap := fun k q h => by simp at h
  have hD : va_D (fun q : Nat => s.heap.size ≤ q) [] := ⟨fun i j p q h => by simp at h, fun k q h => by simp at h⟩
  have hl := lv_entry ([.ref b]) (n := 4) (Nat.le_of_ble_eq_true rfl)
  rw [lg_entry_eq]
  generalize (lg_sl ([.ref b]) ++ List.replicate (4 - (lg_sl ([.ref b])).length) Slot.unset).toArray = ls at hl ⊢
  have hl : lv_has ls 4 [(0, .ref b)] := hl
  refine va_new (ci := 3) (fs := [.int 0, .null, .null, .null, .int 0, .int 0]) (C := R_X) (T := T_X) (N := 6) hx hb hts iw_X t_X o_X hown (hts _ wd_9) (hts _ wd_10) (hts _ wd_1) hK.1 hP hD hS hA rfl sx_df_X (Nat.le_of_ble_eq_true rfl) (Nat.le_of_ble_eq_true rfl) d_L_law_0 (fun q H hP hD hS => ?_)
  have hPD : sx_PD D (fun q : Nat => s.heap.size ≤ q) ([(q, .inr (3, [.int 0, .null, .null, .null, .int 0, .int 0]))] ++ []) H := ⟨hP, hD⟩
  refine W.widen (k := 1) (n := 6) (by decide) (by decide) ?_
  refine lv_dup hx hb d_L_law_3 rfl ?_
  refine lv_aload_n hx hb d_L_law_4 rfl (lv_at hl 0 rfl) ?_
  refine lv_iconst (v := nI 0) hx hb d_L_law_5 (by decide +kernel) ?_
  refine vp_callSi (va_runS (As := [.ref b, .int (nI 0)]) (rest := [.ref q, .ref q]) ⟨hx, hb, hml, hown, hts⟩ (k_cell l b N xs hN) (va_cwS 2 hts (sx_GS wd_355 wd_356 wd_0 wd_357) rfl rfl rfl (by decide +kernel) ⟨Nat.le_of_ble_eq_true rfl, Nat.le_of_ble_eq_true rfl⟩) ⟨fun a U g mk q => ⟨q.1, va_X.moved (u := U) (U := U.calling g mk a) (Vm.Alike.refl U.vm) q.2.1, q.2.2⟩, fun U hU hW => ⟨rfl, by rw [hU]; exact (hX.kept (hS.2.1 b hbl hbA)).moved hW.alike, by rw [hU]; exact Nat.lt_of_lt_of_le hbl hS.1⟩⟩ rfl rfl hl.1 rfl (lv_room (Nat.le_of_ble_eq_true rfl)) d_L_law_6 ⟨Nat.le_of_ble_eq_true rfl, Nat.le_of_ble_eq_true rfl⟩).run (fun r hr9 => ?_)
  have hr9 := (hr9.trans hx9.symm).symm
  subst hr9
  refine sx_callLv (wc := [(q, .inr (3, [.int 0, .null, .null, .null, .int 0, .int 0]))]) (wr := []) (va_runI (As := [.int x]) (rest := [.ref q]) ⟨hx, hb, hml, hown, hts⟩ (k_Xinit l D cA H.size q x) (cwI 1 hts (sx_GI wd_13) rfl rfl rfl (hts _ wd_1) (hts _ wd_11) (hts _ wd_12) rfl (by decide +kernel) ⟨Nat.le_of_ble_eq_true rfl, Nat.le_of_ble_eq_true rfl⟩) (sx_preSw hK hPD.left.1 hPD.left.2) rfl rfl hl.1 rfl (lv_room (Nat.le_of_ble_eq_true rfl)) d_L_law_9 ⟨Nat.le_of_ble_eq_true rfl, Nat.le_of_ble_eq_true rfl⟩) hPD hS hA (fun u H locs hu hPD2 hS => ?_)
  subst hu
  rw [List.append_nil] at hPD2
  have hPD := hPD2
  refine W.widen (k := 9) (n := 324) (by decide) (by decide) ?_
  refine lv_astore_n (lv' := [(1, .ref (u 0)), (0, .ref b)]) hx hb d_L_law_12 rfl hl (by decide) rfl (fun ls hl => ?_)
  have hP := hPD.1
  have hD := hPD.2
  refine va_new (ci := 4) (fs := [.int 0, .int 0, .int 0, .int 0, .int 0, .null, .null, .null, .null, .null, .null, .null, .null, .null, .null, .null, .null, .null, .null, .null, .null]) (C := R_M) (T := T_M) (N := 21) hx hb hts iw_M t_M o_M hown (hts _ wd_358) (hts _ wd_359) (hts _ wd_5) hK.1 hP hD hS hA rfl sx_df_M (Nat.le_of_ble_eq_true rfl) (Nat.le_of_ble_eq_true rfl) d_L_law_13 (fun q H hP hD hS => ?_)
  have hPD : sx_PD D (fun q : Nat => s.heap.size ≤ q) ([(q, .inr (4, [.int 0, .int 0, .int 0, .int 0, .int 0, .null, .null, .null, .null, .null, .null, .null, .null, .null, .null, .null, .null, .null, .null, .null, .null]))] ++ wX cA u (nI (sx_lim x)) 0 0 (nI 1) (upd (fun _ => 0) 0 (-1)) (fun _ => 0) (vp_updL (fun _ => 0) 0 (sx_on 0)) (vp_updL (fun _ => 0) 0 (sx_on 0)) (fun _ => 0) 0 0 (fun _ => none)) H := sx_PD.perm ⟨hP, hD⟩ List.perm_append_comm
  refine W.widen (k := 10) (n := 345) (by decide) (by decide) ?_
  refine lv_dup hx hb d_L_law_16 rfl ?_
  refine lv_aload_n hx hb d_L_law_17 rfl (lv_at hl 1 rfl) ?_
  refine lv_iconst (v := nI 0) hx hb d_L_law_18 (by decide +kernel) ?_
  refine vp_callSi (va_runS (As := [.ref b, .int (nI 0)]) (rest := [.ref q, .ref q]) ⟨hx, hb, hml, hown, hts⟩ (k_cell l b N xs hN) (va_cwS 2 hts (sx_GS wd_355 wd_356 wd_0 wd_357) rfl rfl rfl (by decide +kernel) ⟨Nat.le_of_ble_eq_true rfl, Nat.le_of_ble_eq_true rfl⟩) ⟨fun a U g mk q => ⟨q.1, va_X.moved (u := U) (U := U.calling g mk a) (Vm.Alike.refl U.vm) q.2.1, q.2.2⟩, fun U hU hW => ⟨rfl, by rw [hU]; exact (hX.kept (hS.2.1 b hbl hbA)).moved hW.alike, by rw [hU]; exact Nat.lt_of_lt_of_le hbl hS.1⟩⟩ rfl rfl hl.1 rfl (lv_room (Nat.le_of_ble_eq_true rfl)) d_L_law_19 ⟨Nat.le_of_ble_eq_true rfl, Nat.le_of_ble_eq_true rfl⟩).run (fun r hr9 => ?_)
  have hr9 := (hr9.trans hx9.symm).symm
  subst hr9
  refine sx_callLv (wc := [(q, .inr (4, [.int 0, .int 0, .int 0, .int 0, .int 0, .null, .null, .null, .null, .null, .null, .null, .null, .null, .null, .null, .null, .null, .null, .null, .null]))]) (wr := wX cA u (nI (sx_lim x)) 0 0 (nI 1) (upd (fun _ => 0) 0 (-1)) (fun _ => 0) (vp_updL (fun _ => 0) 0 (sx_on 0)) (vp_updL (fun _ => 0) 0 (sx_on 0)) (fun _ => 0) 0 0 (fun _ => none)) (va_runI (As := [.int x]) (rest := [.ref q]) ⟨hx, hb, hml, hown, hts⟩ (k_Minit l D cA H.size q x) (cwI 1 hts (sx_GI wd_362) rfl rfl rfl (hts _ wd_5) (hts _ wd_360) (hts _ wd_361) rfl (by decide +kernel) ⟨Nat.le_of_ble_eq_true rfl, Nat.le_of_ble_eq_true rfl⟩) (sx_preSw hK hPD.left.1 hPD.left.2) rfl rfl hl.1 rfl (lv_room (Nat.le_of_ble_eq_true rfl)) d_L_law_22 ⟨Nat.le_of_ble_eq_true rfl, Nat.le_of_ble_eq_true rfl⟩) hPD hS hA (fun v H locs hu hPD2 hS => ?_)
  subst hu
  have hPD := hPD2.perm List.perm_append_comm
  refine W.widen (k := 26) (n := 2155) (by decide) (by decide) ?_
  refine lv_astore_n (lv' := [(2, .ref (v 0)), (1, .ref (u 0)), (0, .ref b)]) hx hb d_L_law_25 rfl hl (by decide) rfl (fun ls hl => ?_)
  refine lv_iconst (v := nI 1) hx hb d_L_law_26 (by decide +kernel) ?_
  refine lv_istore_n (lv' := [(3, .int (nI 1)), (2, .ref (v 0)), (1, .ref (u 0)), (0, .ref b)]) hx hb d_L_law_27 rfl hl (by decide) rfl (fun ls hl => ?_)
  exact law_loop C0 hN hK (N + 4) 1 (by omega) (by omega) _ _ _ _ _ _ _ _ _ _ _ _ _ (fun _ _ => 0) (fun _ => sx_K0) _ _ _ _ ls (sx_LJ_0 x) (by rw [sx_LW_0]; exact hPD) hS (by decide) (by decide) hl
