set_option maxHeartbeats 4000000 in
set_option maxRecDepth 100000 in
theorem k_declareO (l : Launch) (D : va_G) (cA : Nat → ClassId) (h : Nat → Nat) (lim : Int32) (na : Nat) (sn cnt : Int32) (par ltr : Nat → Int32) (ab un : Nat → Int64) (sv : Nat → Int32) (sf sl : Int64) (acts : Nat → Option Nat) (x : Int32) (hx0 : sx_has na x = false) (p : Int32) (ob : Bool) : Met l y_X_declare w_X_declare ({ frames := 1, cells := 0, slots := 0, locals := 21 }) (sx_Pr D cA [.ref (h 0), .int x, .int p, .int (sx_bI ob)] (wX cA h lim (nI na) sn cnt par ltr ab un sv sf sl acts)) (vp_Si (fun r => r = -1)) 0 0 (fun _ => False) := by
  refine Met.ofW (cc := b_X_declare) (maxL := 5) (ret := (some .int)) (by decide) rfl ?_
  intro pG eG s m args below meth cG s₁ B hml hv
  obtain ⟨rfl, hP, hK⟩ := hv
  have hx := B.exec
  have hb := B.bytes
  have hr := B.returns
  have hts0 := atoms_spec (ws := w_X_declare) B.pre
  have hts : ∀ w ∈ sx_gw, w.before _ s = true := fun w h => hts0 w (List.mem_cons_of_mem _ h)
  have hown : s.vm.findClass R_X = some m.cls := findClass_of_methodNamed B.named
  have hlocks := B.notSynchronized
  have hl := lv_entry ([.ref (h 0), .int x, .int p, .int (sx_bI ob)]) (n := 5) (Nat.le_of_ble_eq_true rfl)
  rw [lg_entry_eq]
  generalize (lg_sl ([.ref (h 0), .int x, .int p, .int (sx_bI ob)]) ++ List.replicate (5 - (lg_sl ([.ref (h 0), .int x, .int p, .int (sx_bI ob)])).length) Slot.unset).toArray = ls at hl ⊢
  have hl : lv_has ls 5 [(0, .ref (h 0)), (1, .int x), (2, .int p), (3, .int (sx_bI ob))] := hl
  refine lv_aload_n hx hb d_X_declare_0 rfl (lv_at hl 0 rfl) ?_
  refine lv_iload_n hx hb d_X_declare_1 rfl (lv_at hl 1 rfl) ?_
  have hPc : va_P D vwCl (wQ cA h lim (nI na) sn acts) s.heap := hP.sub [0, 8] rfl
  refine va_csq (va_runV (As := [.int x]) (rest := []) ⟨hx, hb, hml, hown, hts⟩ (k_actAtN l D cA h lim na sn acts x hx0) (cwV 1 hts (sx_GV wd_212 wd_214 ws_0 wd_1 wd_215) rfl rfl rfl (by decide +kernel) ⟨Nat.le_of_ble_eq_true rfl, Nat.le_of_ble_eq_true rfl⟩) (sx_preV hK hPc (va_recv hK.1 hPc (ci := 3) (q0 := 0) rfl rfl)) rfl rfl hl.1 rfl (lv_room (Nat.le_of_ble_eq_true rfl)) d_X_declare_2 ⟨Nat.le_of_ble_eq_true rfl, Nat.le_of_ble_eq_true rfl⟩).run (fun r_2 hr_1 => ?_)
  subst hr_1
  refine sx_asv (y := .null) rfl ?_
  refine lv_astoreN (lv' := [(4, .null), (0, .ref (h 0)), (1, .int x), (2, .int p), (3, .int (sx_bI ob))]) hx hb d_X_declare_5 hl (by decide) rfl (fun ls hl => ?_)
  refine lv_aloadN hx hb d_X_declare_7 (lv_at hl 0 rfl) ?_
  refine lv_ifnullN (tgt := 27) hx hb d_X_declare_9 (by decide) ?_
  refine lv_iconst (v := (-1)) hx hb d_X_declare_27 (by decide +kernel) ?_
  exact W.iret (v := (-1)) hx hb hr (fun t ht hW => ⟨(-1), rfl, rfl, ht⟩) (fun _ h => by cases h) d_X_declare_28

set_option maxHeartbeats 4000000 in
set_option maxRecDepth 100000 in
theorem k_beginO (l : Launch) (D : va_G) (cA : Nat → ClassId) (h : Nat → Nat) (lim : Int32) (na : Nat) (sn cnt : Int32) (par ltr : Nat → Int32) (ab un : Nat → Int64) (sv : Nat → Int32) (sf sl : Int64) (acts : Nat → Option Nat) (x : Int32) (hx0 : sx_has na x = false) : Met l y_X_begin w_X_begin ({ frames := 1, cells := 0, slots := 0, locals := 21 }) (sx_Pr D cA [.ref (h 0), .int x] (wX cA h lim (nI na) sn cnt par ltr ab un sv sf sl acts)) (vp_Si (fun r => r = -1)) 0 0 (fun _ => False) := by
  refine Met.ofW (cc := b_X_begin) (maxL := 3) (ret := (some .int)) (by decide) rfl ?_
  intro pG eG s m args below meth cG s₁ B hml hv
  obtain ⟨rfl, hP, hK⟩ := hv
  have hx := B.exec
  have hb := B.bytes
  have hr := B.returns
  have hts0 := atoms_spec (ws := w_X_begin) B.pre
  have hts : ∀ w ∈ sx_gw, w.before _ s = true := fun w h => hts0 w (List.mem_cons_of_mem _ h)
  have hown : s.vm.findClass R_X = some m.cls := findClass_of_methodNamed B.named
  have hlocks := B.notSynchronized
  have hl := lv_entry ([.ref (h 0), .int x]) (n := 3) (Nat.le_of_ble_eq_true rfl)
  rw [lg_entry_eq]
  generalize (lg_sl ([.ref (h 0), .int x]) ++ List.replicate (3 - (lg_sl ([.ref (h 0), .int x])).length) Slot.unset).toArray = ls at hl ⊢
  have hl : lv_has ls 3 [(0, .ref (h 0)), (1, .int x)] := hl
  refine lv_aload_n hx hb d_X_begin_0 rfl (lv_at hl 0 rfl) ?_
  refine lv_iload_n hx hb d_X_begin_1 rfl (lv_at hl 1 rfl) ?_
  have hPc : va_P D vwCl (wQ cA h lim (nI na) sn acts) s.heap := hP.sub [0, 8] rfl
  refine va_csq (va_runV (As := [.int x]) (rest := []) ⟨hx, hb, hml, hown, hts⟩ (k_actAtN l D cA h lim na sn acts x hx0) (cwV 1 hts (sx_GV wd_212 wd_214 ws_0 wd_1 wd_215) rfl rfl rfl (by decide +kernel) ⟨Nat.le_of_ble_eq_true rfl, Nat.le_of_ble_eq_true rfl⟩) (sx_preV hK hPc (va_recv hK.1 hPc (ci := 3) (q0 := 0) rfl rfl)) rfl rfl hl.1 rfl (lv_room (Nat.le_of_ble_eq_true rfl)) d_X_begin_2 ⟨Nat.le_of_ble_eq_true rfl, Nat.le_of_ble_eq_true rfl⟩).run (fun r_2 hr_1 => ?_)
  subst hr_1
  refine sx_asv (y := .null) rfl ?_
  refine lv_astore_nN (lv' := [(2, .null), (0, .ref (h 0)), (1, .int x)]) hx hb d_X_begin_5 rfl hl (by decide) rfl (fun ls hl => ?_)
  refine lv_aload_nN hx hb d_X_begin_6 rfl (lv_at hl 0 rfl) ?_
  refine lv_ifnullN (tgt := 17) hx hb d_X_begin_7 (by decide) ?_
  refine lv_iconst (v := (-1)) hx hb d_X_begin_17 (by decide +kernel) ?_
  exact W.iret (v := (-1)) hx hb hr (fun t ht hW => ⟨(-1), rfl, rfl, ht⟩) (fun _ h => by cases h) d_X_begin_18

set_option maxHeartbeats 4000000 in
set_option maxRecDepth 100000 in
theorem k_openO (l : Launch) (D : va_G) (cA : Nat → ClassId) (h : Nat → Nat) (lim : Int32) (na : Nat) (sn cnt : Int32) (par ltr : Nat → Int32) (ab un : Nat → Int64) (sv : Nat → Int32) (sf sl : Int64) (acts : Nat → Option Nat) (x : Int32) (hx0 : sx_has na x = false) (p : Int32) : Met l y_X_open w_X_open ({ frames := 2, cells := 0, slots := 0, locals := 43 }) (sx_Pr D cA [.ref (h 0), .int x, .int p] (wX cA h lim (nI na) sn cnt par ltr ab un sv sf sl acts)) (vp_Si (fun r => r = -1)) 0 0 (fun _ => False) := by
  refine Met.ofW (cc := b_X_open) (maxL := 5) (ret := (some .int)) (by decide) rfl ?_
  intro pG eG s m args below meth cG s₁ B hml hv
  obtain ⟨rfl, hP, hK⟩ := hv
  have hx := B.exec
  have hb := B.bytes
  have hr := B.returns
  have hts0 := atoms_spec (ws := w_X_open) B.pre
  have hts : ∀ w ∈ sx_gw, w.before _ s = true := fun w h => hts0 w (List.mem_cons_of_mem _ h)
  have hown : s.vm.findClass R_X = some m.cls := findClass_of_methodNamed B.named
  have hlocks := B.notSynchronized
  have hl := lv_entry ([.ref (h 0), .int x, .int p]) (n := 5) (Nat.le_of_ble_eq_true rfl)
  rw [lg_entry_eq]
  generalize (lg_sl ([.ref (h 0), .int x, .int p]) ++ List.replicate (5 - (lg_sl ([.ref (h 0), .int x, .int p])).length) Slot.unset).toArray = ls at hl ⊢
  have hl : lv_has ls 5 [(0, .ref (h 0)), (1, .int x), (2, .int p)] := hl
  refine lv_aload_n hx hb d_X_open_0 rfl (lv_at hl 0 rfl) ?_
  refine lv_iload_n hx hb d_X_open_1 rfl (lv_at hl 1 rfl) ?_
  have hPc : va_P D vwCl (wQ cA h lim (nI na) sn acts) s.heap := hP.sub [0, 8] rfl
  refine va_csq (va_runV (As := [.int x]) (rest := []) ⟨hx, hb, hml, hown, hts⟩ (k_runO l D cA h lim na sn acts x hx0) (cwV 1 hts (sx_GV wd_266 wd_268 ws_4 wd_1 wd_269) rfl rfl rfl (by decide +kernel) ⟨Nat.le_of_ble_eq_true rfl, Nat.le_of_ble_eq_true rfl⟩) (sx_preV hK hPc (va_recv hK.1 hPc (ci := 3) (q0 := 0) rfl rfl)) rfl rfl hl.1 rfl (lv_room (Nat.le_of_ble_eq_true rfl)) d_X_open_2 ⟨Nat.le_of_ble_eq_true rfl, Nat.le_of_ble_eq_true rfl⟩).run (fun r_2 hr_1 => ?_)
  subst hr_1
  refine sx_asv (y := .null) rfl ?_
  refine lv_astore_nN (lv' := [(3, .null), (0, .ref (h 0)), (1, .int x), (2, .int p)]) hx hb d_X_open_5 rfl hl (by decide) rfl (fun ls hl => ?_)
  refine lv_aload_nN hx hb d_X_open_6 rfl (lv_at hl 0 rfl) ?_
  refine lv_ifnullN (tgt := 21) hx hb d_X_open_7 (by decide) ?_
  refine lv_iconst (v := (-1)) hx hb d_X_open_21 (by decide +kernel) ?_
  exact W.iret (v := (-1)) hx hb hr (fun t ht hW => ⟨(-1), rfl, rfl, ht⟩) (fun _ h => by cases h) d_X_open_22

set_option maxHeartbeats 4000000 in
set_option maxRecDepth 100000 in
theorem k_writeO (l : Launch) (D : va_G) (cA : Nat → ClassId) (h : Nat → Nat) (lim : Int32) (na : Nat) (sn cnt : Int32) (par ltr : Nat → Int32) (ab un : Nat → Int64) (sv : Nat → Int32) (sf sl : Int64) (acts : Nat → Option Nat) (x : Int32) (hx0 : sx_has na x = false) (p ct : Int32) : Met l y_X_write w_X_write ({ frames := 2, cells := 0, slots := 0, locals := 43 }) (sx_Pr D cA [.ref (h 0), .int x, .int p, .int ct] (wX cA h lim (nI na) sn cnt par ltr ab un sv sf sl acts)) (vp_Si (fun r => r = -1)) 0 0 (fun _ => False) := by
  refine Met.ofW (cc := b_X_write) (maxL := 5) (ret := (some .int)) (by decide) rfl ?_
  intro pG eG s m args below meth cG s₁ B hml hv
  obtain ⟨rfl, hP, hK⟩ := hv
  have hx := B.exec
  have hb := B.bytes
  have hr := B.returns
  have hts0 := atoms_spec (ws := w_X_write) B.pre
  have hts : ∀ w ∈ sx_gw, w.before _ s = true := fun w h => hts0 w (List.mem_cons_of_mem _ h)
  have hown : s.vm.findClass R_X = some m.cls := findClass_of_methodNamed B.named
  have hlocks := B.notSynchronized
  have hl := lv_entry ([.ref (h 0), .int x, .int p, .int ct]) (n := 5) (Nat.le_of_ble_eq_true rfl)
  rw [lg_entry_eq]
  generalize (lg_sl ([.ref (h 0), .int x, .int p, .int ct]) ++ List.replicate (5 - (lg_sl ([.ref (h 0), .int x, .int p, .int ct])).length) Slot.unset).toArray = ls at hl ⊢
  have hl : lv_has ls 5 [(0, .ref (h 0)), (1, .int x), (2, .int p), (3, .int ct)] := hl
  refine lv_aload_n hx hb d_X_write_0 rfl (lv_at hl 0 rfl) ?_
  refine lv_iload_n hx hb d_X_write_1 rfl (lv_at hl 1 rfl) ?_
  have hPc : va_P D vwCl (wQ cA h lim (nI na) sn acts) s.heap := hP.sub [0, 8] rfl
  refine va_csq (va_runV (As := [.int x]) (rest := []) ⟨hx, hb, hml, hown, hts⟩ (k_runO l D cA h lim na sn acts x hx0) (cwV 1 hts (sx_GV wd_266 wd_268 ws_4 wd_1 wd_269) rfl rfl rfl (by decide +kernel) ⟨Nat.le_of_ble_eq_true rfl, Nat.le_of_ble_eq_true rfl⟩) (sx_preV hK hPc (va_recv hK.1 hPc (ci := 3) (q0 := 0) rfl rfl)) rfl rfl hl.1 rfl (lv_room (Nat.le_of_ble_eq_true rfl)) d_X_write_2 ⟨Nat.le_of_ble_eq_true rfl, Nat.le_of_ble_eq_true rfl⟩).run (fun r_2 hr_1 => ?_)
  subst hr_1
  refine sx_asv (y := .null) rfl ?_
  refine lv_astoreN (lv' := [(4, .null), (0, .ref (h 0)), (1, .int x), (2, .int p), (3, .int ct)]) hx hb d_X_write_5 hl (by decide) rfl (fun ls hl => ?_)
  refine lv_aloadN hx hb d_X_write_7 (lv_at hl 0 rfl) ?_
  refine lv_ifnullN (tgt := 23) hx hb d_X_write_9 (by decide) ?_
  refine lv_iconst (v := (-1)) hx hb d_X_write_23 (by decide +kernel) ?_
  exact W.iret (v := (-1)) hx hb hr (fun t ht hW => ⟨(-1), rfl, rfl, ht⟩) (fun _ h => by cases h) d_X_write_24

set_option maxHeartbeats 4000000 in
set_option maxRecDepth 100000 in
theorem k_linkO (l : Launch) (D : va_G) (cA : Nat → ClassId) (h : Nat → Nat) (lim : Int32) (na : Nat) (sn cnt : Int32) (par ltr : Nat → Int32) (ab un : Nat → Int64) (sv : Nat → Int32) (sf sl : Int64) (acts : Nat → Option Nat) (x : Int32) (hx0 : sx_has na x = false) (p to : Int32) : Met l y_X_link w_X_link ({ frames := 2, cells := 0, slots := 0, locals := 43 }) (sx_Pr D cA [.ref (h 0), .int x, .int p, .int to] (wX cA h lim (nI na) sn cnt par ltr ab un sv sf sl acts)) (vp_Si (fun r => r = -1)) 0 0 (fun _ => False) := by
  refine Met.ofW (cc := b_X_link) (maxL := 7) (ret := (some .int)) (by decide) rfl ?_
  intro pG eG s m args below meth cG s₁ B hml hv
  obtain ⟨rfl, hP, hK⟩ := hv
  have hx := B.exec
  have hb := B.bytes
  have hr := B.returns
  have hts0 := atoms_spec (ws := w_X_link) B.pre
  have hts : ∀ w ∈ sx_gw, w.before _ s = true := fun w h => hts0 w (List.mem_cons_of_mem _ h)
  have hown : s.vm.findClass R_X = some m.cls := findClass_of_methodNamed B.named
  have hlocks := B.notSynchronized
  have hl := lv_entry ([.ref (h 0), .int x, .int p, .int to]) (n := 7) (Nat.le_of_ble_eq_true rfl)
  rw [lg_entry_eq]
  generalize (lg_sl ([.ref (h 0), .int x, .int p, .int to]) ++ List.replicate (7 - (lg_sl ([.ref (h 0), .int x, .int p, .int to])).length) Slot.unset).toArray = ls at hl ⊢
  have hl : lv_has ls 7 [(0, .ref (h 0)), (1, .int x), (2, .int p), (3, .int to)] := hl
  refine lv_aload_n hx hb d_X_link_0 rfl (lv_at hl 0 rfl) ?_
  refine lv_iload_n hx hb d_X_link_1 rfl (lv_at hl 1 rfl) ?_
  have hPc : va_P D vwCl (wQ cA h lim (nI na) sn acts) s.heap := hP.sub [0, 8] rfl
  refine va_csq (va_runV (As := [.int x]) (rest := []) ⟨hx, hb, hml, hown, hts⟩ (k_runO l D cA h lim na sn acts x hx0) (cwV 1 hts (sx_GV wd_266 wd_268 ws_4 wd_1 wd_269) rfl rfl rfl (by decide +kernel) ⟨Nat.le_of_ble_eq_true rfl, Nat.le_of_ble_eq_true rfl⟩) (sx_preV hK hPc (va_recv hK.1 hPc (ci := 3) (q0 := 0) rfl rfl)) rfl rfl hl.1 rfl (lv_room (Nat.le_of_ble_eq_true rfl)) d_X_link_2 ⟨Nat.le_of_ble_eq_true rfl, Nat.le_of_ble_eq_true rfl⟩).run (fun r_2 hr_1 => ?_)
  subst hr_1
  refine sx_asv (y := .null) rfl ?_
  refine lv_astoreN (lv' := [(4, .null), (0, .ref (h 0)), (1, .int x), (2, .int p), (3, .int to)]) hx hb d_X_link_5 hl (by decide) rfl (fun ls hl => ?_)
  refine lv_aloadN hx hb d_X_link_7 (lv_at hl 0 rfl) ?_
  refine lv_ifnullN (tgt := 34) hx hb d_X_link_9 (by decide) ?_
  refine lv_iconst (v := (-1)) hx hb d_X_link_34 (by decide +kernel) ?_
  exact W.iret (v := (-1)) hx hb hr (fun t ht hW => ⟨(-1), rfl, rfl, ht⟩) (fun _ h => by cases h) d_X_link_35

set_option maxHeartbeats 4000000 in
set_option maxRecDepth 100000 in
theorem k_removeO (l : Launch) (D : va_G) (cA : Nat → ClassId) (h : Nat → Nat) (lim : Int32) (na : Nat) (sn cnt : Int32) (par ltr : Nat → Int32) (ab un : Nat → Int64) (sv : Nat → Int32) (sf sl : Int64) (acts : Nat → Option Nat) (x : Int32) (hx0 : sx_has na x = false) (p : Int32) : Met l y_X_remove w_X_remove ({ frames := 2, cells := 0, slots := 0, locals := 43 }) (sx_Pr D cA [.ref (h 0), .int x, .int p] (wX cA h lim (nI na) sn cnt par ltr ab un sv sf sl acts)) (vp_Si (fun r => r = -1)) 0 0 (fun _ => False) := by
  refine Met.ofW (cc := b_X_remove) (maxL := 4) (ret := (some .int)) (by decide) rfl ?_
  intro pG eG s m args below meth cG s₁ B hml hv
  obtain ⟨rfl, hP, hK⟩ := hv
  have hx := B.exec
  have hb := B.bytes
  have hr := B.returns
  have hts0 := atoms_spec (ws := w_X_remove) B.pre
  have hts : ∀ w ∈ sx_gw, w.before _ s = true := fun w h => hts0 w (List.mem_cons_of_mem _ h)
  have hown : s.vm.findClass R_X = some m.cls := findClass_of_methodNamed B.named
  have hlocks := B.notSynchronized
  have hl := lv_entry ([.ref (h 0), .int x, .int p]) (n := 4) (Nat.le_of_ble_eq_true rfl)
  rw [lg_entry_eq]
  generalize (lg_sl ([.ref (h 0), .int x, .int p]) ++ List.replicate (4 - (lg_sl ([.ref (h 0), .int x, .int p])).length) Slot.unset).toArray = ls at hl ⊢
  have hl : lv_has ls 4 [(0, .ref (h 0)), (1, .int x), (2, .int p)] := hl
  refine lv_aload_n hx hb d_X_remove_0 rfl (lv_at hl 0 rfl) ?_
  refine lv_iload_n hx hb d_X_remove_1 rfl (lv_at hl 1 rfl) ?_
  have hPc : va_P D vwCl (wQ cA h lim (nI na) sn acts) s.heap := hP.sub [0, 8] rfl
  refine va_csq (va_runV (As := [.int x]) (rest := []) ⟨hx, hb, hml, hown, hts⟩ (k_runO l D cA h lim na sn acts x hx0) (cwV 1 hts (sx_GV wd_266 wd_268 ws_4 wd_1 wd_269) rfl rfl rfl (by decide +kernel) ⟨Nat.le_of_ble_eq_true rfl, Nat.le_of_ble_eq_true rfl⟩) (sx_preV hK hPc (va_recv hK.1 hPc (ci := 3) (q0 := 0) rfl rfl)) rfl rfl hl.1 rfl (lv_room (Nat.le_of_ble_eq_true rfl)) d_X_remove_2 ⟨Nat.le_of_ble_eq_true rfl, Nat.le_of_ble_eq_true rfl⟩).run (fun r_2 hr_1 => ?_)
  subst hr_1
  refine sx_asv (y := .null) rfl ?_
  refine lv_astore_nN (lv' := [(3, .null), (0, .ref (h 0)), (1, .int x), (2, .int p)]) hx hb d_X_remove_5 rfl hl (by decide) rfl (fun ls hl => ?_)
  refine lv_aload_nN hx hb d_X_remove_6 rfl (lv_at hl 0 rfl) ?_
  refine lv_ifnullN (tgt := 21) hx hb d_X_remove_7 (by decide) ?_
  refine lv_iconst (v := (-1)) hx hb d_X_remove_21 (by decide +kernel) ?_
  exact W.iret (v := (-1)) hx hb hr (fun t ht hW => ⟨(-1), rfl, rfl, ht⟩) (fun _ h => by cases h) d_X_remove_22

set_option maxHeartbeats 4000000 in
set_option maxRecDepth 100000 in
theorem k_listO (l : Launch) (D : va_G) (cA : Nat → ClassId) (h : Nat → Nat) (lim : Int32) (na : Nat) (sn cnt : Int32) (par ltr : Nat → Int32) (ab un : Nat → Int64) (sv : Nat → Int32) (sf sl : Int64) (acts : Nat → Option Nat) (x : Int32) (hx0 : sx_has na x = false) (p ii : Int32) : Met l y_X_list w_X_list ({ frames := 2, cells := 0, slots := 0, locals := 43 }) (sx_Pr D cA [.ref (h 0), .int x, .int p, .int ii] (wX cA h lim (nI na) sn cnt par ltr ab un sv sf sl acts)) (vp_Si (fun r => r = -1)) 0 0 (fun _ => False) := by
  refine Met.ofW (cc := b_X_list) (maxL := 5) (ret := (some .int)) (by decide) rfl ?_
  intro pG eG s m args below meth cG s₁ B hml hv
  obtain ⟨rfl, hP, hK⟩ := hv
  have hx := B.exec
  have hb := B.bytes
  have hr := B.returns
  have hts0 := atoms_spec (ws := w_X_list) B.pre
  have hts : ∀ w ∈ sx_gw, w.before _ s = true := fun w h => hts0 w (List.mem_cons_of_mem _ h)
  have hown : s.vm.findClass R_X = some m.cls := findClass_of_methodNamed B.named
  have hlocks := B.notSynchronized
  have hl := lv_entry ([.ref (h 0), .int x, .int p, .int ii]) (n := 5) (Nat.le_of_ble_eq_true rfl)
  rw [lg_entry_eq]
  generalize (lg_sl ([.ref (h 0), .int x, .int p, .int ii]) ++ List.replicate (5 - (lg_sl ([.ref (h 0), .int x, .int p, .int ii])).length) Slot.unset).toArray = ls at hl ⊢
  have hl : lv_has ls 5 [(0, .ref (h 0)), (1, .int x), (2, .int p), (3, .int ii)] := hl
  refine lv_aload_n hx hb d_X_list_0 rfl (lv_at hl 0 rfl) ?_
  refine lv_iload_n hx hb d_X_list_1 rfl (lv_at hl 1 rfl) ?_
  have hPc : va_P D vwCl (wQ cA h lim (nI na) sn acts) s.heap := hP.sub [0, 8] rfl
  refine va_csq (va_runV (As := [.int x]) (rest := []) ⟨hx, hb, hml, hown, hts⟩ (k_runO l D cA h lim na sn acts x hx0) (cwV 1 hts (sx_GV wd_266 wd_268 ws_4 wd_1 wd_269) rfl rfl rfl (by decide +kernel) ⟨Nat.le_of_ble_eq_true rfl, Nat.le_of_ble_eq_true rfl⟩) (sx_preV hK hPc (va_recv hK.1 hPc (ci := 3) (q0 := 0) rfl rfl)) rfl rfl hl.1 rfl (lv_room (Nat.le_of_ble_eq_true rfl)) d_X_list_2 ⟨Nat.le_of_ble_eq_true rfl, Nat.le_of_ble_eq_true rfl⟩).run (fun r_2 hr_1 => ?_)
  subst hr_1
  refine sx_asv (y := .null) rfl ?_
  refine lv_astoreN (lv' := [(4, .null), (0, .ref (h 0)), (1, .int x), (2, .int p), (3, .int ii)]) hx hb d_X_list_5 hl (by decide) rfl (fun ls hl => ?_)
  refine lv_aloadN hx hb d_X_list_7 (lv_at hl 0 rfl) ?_
  refine lv_ifnullN (tgt := 23) hx hb d_X_list_9 (by decide) ?_
  refine lv_iconst (v := (-1)) hx hb d_X_list_23 (by decide +kernel) ?_
  exact W.iret (v := (-1)) hx hb hr (fun t ht hW => ⟨(-1), rfl, rfl, ht⟩) (fun _ h => by cases h) d_X_list_24

set_option maxHeartbeats 4000000 in
set_option maxRecDepth 100000 in
theorem k_finishO (l : Launch) (D : va_G) (cA : Nat → ClassId) (h : Nat → Nat) (lim : Int32) (na : Nat) (sn cnt : Int32) (par ltr : Nat → Int32) (ab un : Nat → Int64) (sv : Nat → Int32) (sf sl : Int64) (acts : Nat → Option Nat) (x : Int32) (hx0 : sx_has na x = false) (fl : Bool) : Met l y_X_finish w_X_finish ({ frames := 2, cells := 0, slots := 0, locals := 43 }) (sx_Pr D cA [.ref (h 0), .int x, .int (sx_bI fl)] (wX cA h lim (nI na) sn cnt par ltr ab un sv sf sl acts)) (vp_Si (fun r => r = -1)) 0 0 (fun _ => False) := by
  refine Met.ofW (cc := b_X_finish) (maxL := 5) (ret := (some .int)) (by decide) rfl ?_
  intro pG eG s m args below meth cG s₁ B hml hv
  obtain ⟨rfl, hP, hK⟩ := hv
  have hx := B.exec
  have hb := B.bytes
  have hr := B.returns
  have hts0 := atoms_spec (ws := w_X_finish) B.pre
  have hts : ∀ w ∈ sx_gw, w.before _ s = true := fun w h => hts0 w (List.mem_cons_of_mem _ h)
  have hown : s.vm.findClass R_X = some m.cls := findClass_of_methodNamed B.named
  have hlocks := B.notSynchronized
  have hl := lv_entry ([.ref (h 0), .int x, .int (sx_bI fl)]) (n := 5) (Nat.le_of_ble_eq_true rfl)
  rw [lg_entry_eq]
  generalize (lg_sl ([.ref (h 0), .int x, .int (sx_bI fl)]) ++ List.replicate (5 - (lg_sl ([.ref (h 0), .int x, .int (sx_bI fl)])).length) Slot.unset).toArray = ls at hl ⊢
  have hl : lv_has ls 5 [(0, .ref (h 0)), (1, .int x), (2, .int (sx_bI fl))] := hl
  refine lv_aload_n hx hb d_X_finish_0 rfl (lv_at hl 0 rfl) ?_
  refine lv_iload_n hx hb d_X_finish_1 rfl (lv_at hl 1 rfl) ?_
  have hPc : va_P D vwCl (wQ cA h lim (nI na) sn acts) s.heap := hP.sub [0, 8] rfl
  refine va_csq (va_runV (As := [.int x]) (rest := []) ⟨hx, hb, hml, hown, hts⟩ (k_runO l D cA h lim na sn acts x hx0) (cwV 1 hts (sx_GV wd_266 wd_268 ws_4 wd_1 wd_269) rfl rfl rfl (by decide +kernel) ⟨Nat.le_of_ble_eq_true rfl, Nat.le_of_ble_eq_true rfl⟩) (sx_preV hK hPc (va_recv hK.1 hPc (ci := 3) (q0 := 0) rfl rfl)) rfl rfl hl.1 rfl (lv_room (Nat.le_of_ble_eq_true rfl)) d_X_finish_2 ⟨Nat.le_of_ble_eq_true rfl, Nat.le_of_ble_eq_true rfl⟩).run (fun r_2 hr_1 => ?_)
  subst hr_1
  refine sx_asv (y := .null) rfl ?_
  refine lv_astore_nN (lv' := [(3, .null), (0, .ref (h 0)), (1, .int x), (2, .int (sx_bI fl))]) hx hb d_X_finish_5 rfl hl (by decide) rfl (fun ls hl => ?_)
  refine lv_aload_nN hx hb d_X_finish_6 rfl (lv_at hl 0 rfl) ?_
  refine lv_ifnonnullN hx hb d_X_finish_7 ?_
  refine lv_iconst (v := (-1)) hx hb d_X_finish_10 (by decide +kernel) ?_
  exact W.iret (v := (-1)) hx hb hr (fun t ht hW => ⟨(-1), rfl, rfl, ht⟩) (fun _ h => by cases h) d_X_finish_11

set_option maxHeartbeats 4000000 in
set_option maxRecDepth 100000 in
theorem k_triedO (l : Launch) (D : va_G) (cA : Nat → ClassId) (h : Nat → Nat) (lim : Int32) (na : Nat) (sn cnt : Int32) (par ltr : Nat → Int32) (ab un : Nat → Int64) (sv : Nat → Int32) (sf sl : Int64) (acts : Nat → Option Nat) (x : Int32) (hx0 : sx_has na x = false) (ii : Int32) : Met l y_X_tried w_X_tried ({ frames := 1, cells := 0, slots := 0, locals := 21 }) (sx_Pr D cA [.ref (h 0), .int x, .int ii] (wX cA h lim (nI na) sn cnt par ltr ab un sv sf sl acts)) (vp_Si (fun r => r = -1)) 0 0 (fun _ => False) := by
  refine Met.ofW (cc := b_X_tried) (maxL := 4) (ret := (some .int)) (by decide) rfl ?_
  intro pG eG s m args below meth cG s₁ B hml hv
  obtain ⟨rfl, hP, hK⟩ := hv
  have hx := B.exec
  have hb := B.bytes
  have hr := B.returns
  have hts0 := atoms_spec (ws := w_X_tried) B.pre
  have hts : ∀ w ∈ sx_gw, w.before _ s = true := fun w h => hts0 w (List.mem_cons_of_mem _ h)
  have hown : s.vm.findClass R_X = some m.cls := findClass_of_methodNamed B.named
  have hlocks := B.notSynchronized
  have hl := lv_entry ([.ref (h 0), .int x, .int ii]) (n := 4) (Nat.le_of_ble_eq_true rfl)
  rw [lg_entry_eq]
  generalize (lg_sl ([.ref (h 0), .int x, .int ii]) ++ List.replicate (4 - (lg_sl ([.ref (h 0), .int x, .int ii])).length) Slot.unset).toArray = ls at hl ⊢
  have hl : lv_has ls 4 [(0, .ref (h 0)), (1, .int x), (2, .int ii)] := hl
  refine lv_aload_n hx hb d_X_tried_0 rfl (lv_at hl 0 rfl) ?_
  refine lv_iload_n hx hb d_X_tried_1 rfl (lv_at hl 1 rfl) ?_
  have hPc : va_P D vwCl (wQ cA h lim (nI na) sn acts) s.heap := hP.sub [0, 8] rfl
  refine va_csq (va_runV (As := [.int x]) (rest := []) ⟨hx, hb, hml, hown, hts⟩ (k_actAtN l D cA h lim na sn acts x hx0) (cwV 1 hts (sx_GV wd_212 wd_214 ws_0 wd_1 wd_215) rfl rfl rfl (by decide +kernel) ⟨Nat.le_of_ble_eq_true rfl, Nat.le_of_ble_eq_true rfl⟩) (sx_preV hK hPc (va_recv hK.1 hPc (ci := 3) (q0 := 0) rfl rfl)) rfl rfl hl.1 rfl (lv_room (Nat.le_of_ble_eq_true rfl)) d_X_tried_2 ⟨Nat.le_of_ble_eq_true rfl, Nat.le_of_ble_eq_true rfl⟩).run (fun r_2 hr_1 => ?_)
  subst hr_1
  refine sx_asv (y := .null) rfl ?_
  refine lv_astore_nN (lv' := [(3, .null), (0, .ref (h 0)), (1, .int x), (2, .int ii)]) hx hb d_X_tried_5 rfl hl (by decide) rfl (fun ls hl => ?_)
  refine lv_aload_nN hx hb d_X_tried_6 rfl (lv_at hl 0 rfl) ?_
  refine lv_ifnullN (tgt := 22) hx hb d_X_tried_7 (by decide) ?_
  refine lv_iconst (v := (-1)) hx hb d_X_tried_22 (by decide +kernel) ?_
  exact W.iret (v := (-1)) hx hb hr (fun t ht hW => ⟨(-1), rfl, rfl, ht⟩) (fun _ h => by cases h) d_X_tried_23

set_option maxHeartbeats 4000000 in
set_option maxRecDepth 100000 in
theorem k_aboutO (l : Launch) (D : va_G) (cA : Nat → ClassId) (h : Nat → Nat) (lim : Int32) (na : Nat) (sn cnt : Int32) (par ltr : Nat → Int32) (ab un : Nat → Int64) (sv : Nat → Int32) (sf sl : Int64) (acts : Nat → Option Nat) (x : Int32) (hx0 : sx_has na x = false) (ww : Int32) : Met l y_X_about w_X_about ({ frames := 1, cells := 0, slots := 0, locals := 21 }) (sx_Pr D cA [.ref (h 0), .int x, .int ww] (wX cA h lim (nI na) sn cnt par ltr ab un sv sf sl acts)) (vp_Si (fun r => r = -1)) 0 0 (fun _ => False) := by
  refine Met.ofW (cc := b_X_about) (maxL := 4) (ret := (some .int)) (by decide) rfl ?_
  intro pG eG s m args below meth cG s₁ B hml hv
  obtain ⟨rfl, hP, hK⟩ := hv
  have hx := B.exec
  have hb := B.bytes
  have hr := B.returns
  have hts0 := atoms_spec (ws := w_X_about) B.pre
  have hts : ∀ w ∈ sx_gw, w.before _ s = true := fun w h => hts0 w (List.mem_cons_of_mem _ h)
  have hown : s.vm.findClass R_X = some m.cls := findClass_of_methodNamed B.named
  have hlocks := B.notSynchronized
  have hl := lv_entry ([.ref (h 0), .int x, .int ww]) (n := 4) (Nat.le_of_ble_eq_true rfl)
  rw [lg_entry_eq]
  generalize (lg_sl ([.ref (h 0), .int x, .int ww]) ++ List.replicate (4 - (lg_sl ([.ref (h 0), .int x, .int ww])).length) Slot.unset).toArray = ls at hl ⊢
  have hl : lv_has ls 4 [(0, .ref (h 0)), (1, .int x), (2, .int ww)] := hl
  refine lv_aload_n hx hb d_X_about_0 rfl (lv_at hl 0 rfl) ?_
  refine lv_iload_n hx hb d_X_about_1 rfl (lv_at hl 1 rfl) ?_
  have hPc : va_P D vwCl (wQ cA h lim (nI na) sn acts) s.heap := hP.sub [0, 8] rfl
  refine va_csq (va_runV (As := [.int x]) (rest := []) ⟨hx, hb, hml, hown, hts⟩ (k_actAtN l D cA h lim na sn acts x hx0) (cwV 1 hts (sx_GV wd_212 wd_214 ws_0 wd_1 wd_215) rfl rfl rfl (by decide +kernel) ⟨Nat.le_of_ble_eq_true rfl, Nat.le_of_ble_eq_true rfl⟩) (sx_preV hK hPc (va_recv hK.1 hPc (ci := 3) (q0 := 0) rfl rfl)) rfl rfl hl.1 rfl (lv_room (Nat.le_of_ble_eq_true rfl)) d_X_about_2 ⟨Nat.le_of_ble_eq_true rfl, Nat.le_of_ble_eq_true rfl⟩).run (fun r_2 hr_1 => ?_)
  subst hr_1
  refine sx_asv (y := .null) rfl ?_
  refine lv_astore_nN (lv' := [(3, .null), (0, .ref (h 0)), (1, .int x), (2, .int ww)]) hx hb d_X_about_5 rfl hl (by decide) rfl (fun ls hl => ?_)
  refine lv_aload_nN hx hb d_X_about_6 rfl (lv_at hl 0 rfl) ?_
  refine lv_ifnonnullN hx hb d_X_about_7 ?_
  refine lv_iconst (v := (-1)) hx hb d_X_about_10 (by decide +kernel) ?_
  exact W.iret (v := (-1)) hx hb hr (fun t ht hW => ⟨(-1), rfl, rfl, ht⟩) (fun _ h => by cases h) d_X_about_11
