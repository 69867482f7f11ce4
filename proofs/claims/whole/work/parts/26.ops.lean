/-! The calls' answers and states, outcome by outcome; how the class's Action goes with the new state. -/
theorem sx_open_no {n L : Nat} {α : sx_A} {a : Nat} {p : Int32} (h : sx_ok n α a p 0 = false) : sx_openA n L α a p = -1 ∧ sx_openS n L α a p = α := by
  obtain ⟨e1, e2, e3⟩ := sx_may_no (L := L) h
  unfold sx_openA sx_openS
  rw [e1, e2, e3]; exact ⟨rfl, rfl⟩
theorem sx_open_lim {n L : Nat} {α : sx_A} {a : Nat} {p : Int32} (h : sx_ok n α a p 0 = true) (e : α 6 a = nI L) : sx_openA n L α a p = -9 ∧ sx_openS n L α a p = sx_st α 13 a 1 := by
  obtain ⟨e1, e2, e3⟩ := sx_may_lim h e
  unfold sx_openA sx_openS
  rw [e1, e2, e3]; exact ⟨rfl, rfl⟩
theorem sx_open_old {n L j : Nat} {α : sx_A} {a : Nat} (hj : j < 2 ^ 31) (h : sx_ok n α a (nI j) 0 = true) (e : ¬ α 6 a = nI L) (hk : ¬ sx_lead α a j = 0 ∨ sx_nt α a j = true) : sx_openA n L α a (nI j) = sx_lead α a j ∧ sx_openS n L α a (nI j) = sx_st α 6 a (α 6 a + 1) := by
  obtain ⟨e1, e2, e3⟩ := sx_may_go h e
  have hb : (decide (0 < sx_lead α a j) || sx_nt α a j) = true := by
    rcases hk with q | q
    · have : 0 < sx_lead α a j := by
        by_cases c : 0 < sx_lead α a j
        · exact c
        · exact absurd (sx_tri c (sx_ld_ok _ _ _)) q
      rw [decide_eq_true this]; rfl
    · rw [q]; simp
  unfold sx_openA sx_openS
  rw [e1, e3, nI_clamp hj, hb]; exact ⟨rfl, rfl⟩
theorem sx_open_new {n L j : Nat} {α : sx_A} {a : Nat} (hj : j < 2 ^ 31) (h : sx_ok n α a (nI j) 0 = true) (e : ¬ α 6 a = nI L) (hk : sx_lead α a j = 0) (hq : sx_nt α a j = false) : sx_openA n L α a (nI j) = sx_lead α a j ∧ sx_openS n L α a (nI j) = sx_st (sx_st (sx_st α 6 a (α 6 a + 1)) 9 (60 * a + sx_tN α a) (nI j)) 8 a (α 8 a + 1) := by
  obtain ⟨e1, e2, e3⟩ := sx_may_go h e
  have hb : (decide (0 < sx_lead α a j) || sx_nt α a j) = false := by rw [hk, hq]; decide
  unfold sx_openA sx_openS
  rw [e1, nI_clamp hj, hb]; exact ⟨rfl, rfl⟩
theorem sx_do_no {n L : Nat} {sb ok : Bool} {α : sx_A} {a : Nat} {p q v : Int32} (h : sx_ok n α a p q = false) : sx_doA n L α a p q ok = -1 ∧ sx_do n L sb α a p q ok v = α := by
  obtain ⟨e1, e2, e3⟩ := sx_may_no (L := L) h
  unfold sx_doA sx_do
  rw [e1, e2, e3]; exact ⟨rfl, rfl⟩
theorem sx_do_lim {n L : Nat} {sb ok : Bool} {α : sx_A} {a : Nat} {p q v : Int32} (h : sx_ok n α a p q = true) (e : α 6 a = nI L) : sx_doA n L α a p q ok = -9 ∧ sx_do n L sb α a p q ok v = sx_st α 13 a 1 := by
  obtain ⟨e1, e2, e3⟩ := sx_may_lim h e
  unfold sx_doA sx_do
  rw [e1, e2, e3]; exact ⟨rfl, rfl⟩
theorem sx_do_ref {n L : Nat} {sb ok : Bool} {α : sx_A} {a : Nat} {p q v : Int32} (h : sx_ok n α a p q = true) (e : ¬ α 6 a = nI L) (hk : ok = false) : sx_doA n L α a p q ok = nI 0 ∧ sx_do n L sb α a p q ok v = sx_ref sb (sx_st α 6 a (α 6 a + 1)) a := by
  obtain ⟨e1, e2, e3⟩ := sx_may_go h e
  unfold sx_doA sx_do
  rw [e1, hk]; exact ⟨rfl, rfl⟩
theorem sx_do_yes {n L j : Nat} {sb ok : Bool} {α : sx_A} {a : Nat} {q v : Int32} (hj : j < 2 ^ 31) (h : sx_ok n α a (nI j) q = true) (e : ¬ α 6 a = nI L) (hk : ok = true) : sx_doA n L α a (nI j) q ok = nI 1 ∧ sx_do n L sb α a (nI j) q ok v = sx_st (sx_st α 6 a (α 6 a + 1)) 10 (60 * a + j) v := by
  obtain ⟨e1, e2, e3⟩ := sx_may_go h e
  unfold sx_doA sx_do
  rw [e1, hk, nI_clamp hj]; exact ⟨rfl, rfl⟩
theorem sx_list_no {n L : Nat} {α : sx_A} {a : Nat} {p i : Int32} (h : sx_ok n α a p 0 = false) : sx_listA n L α a p i = -1 ∧ sx_mayS n L α a p 0 = α := by
  obtain ⟨e1, e2, e3⟩ := sx_may_no (L := L) h
  unfold sx_listA
  rw [e1, e2, e3]; exact ⟨rfl, rfl⟩
theorem sx_list_lim {n L : Nat} {α : sx_A} {a : Nat} {p i : Int32} (h : sx_ok n α a p 0 = true) (e : α 6 a = nI L) : sx_listA n L α a p i = -9 ∧ sx_mayS n L α a p 0 = sx_st α 13 a 1 := by
  obtain ⟨e1, e2, e3⟩ := sx_may_lim h e
  unfold sx_listA
  rw [e1, e2, e3]; exact ⟨rfl, rfl⟩
theorem sx_list_go {n L : Nat} {α : sx_A} {a : Nat} {p i : Int32} (h : sx_ok n α a p 0 = true) (e : ¬ α 6 a = nI L) : sx_listA n L α a p i = sx_pick (sx_lq n α a p) 58 65 i ∧ sx_mayS n L α a p 0 = sx_st α 6 a (α 6 a + 1) := by
  obtain ⟨e1, e2, e3⟩ := sx_may_go h e
  unfold sx_listA
  rw [e1, e3]; exact ⟨rfl, rfl⟩
/-! -/
theorem sx_op1 {α : sx_A} {a o : Nat} (e6 : nI o = α 6 a) : nI (o + 1) = sx_st α 6 a (α 6 a + 1) 6 a := by rw [sx_at, ← e6, nI_1]
theorem sx_wd_st {α : sx_A} {a p : Nat} {v : Int32} : sx_wd_ (sx_st α 10 (60 * a + p) v) a = upd (sx_wd_ α a) p v := by
  funext j
  unfold sx_wd_ upd
  by_cases e : j = p
  · subst e; rw [if_pos rfl, sx_at]
  · rw [if_neg e, sx_off (by omega)]
theorem sx_ref_br {α : sx_A} {a : Nat} {sb b : Bool} (e : sx_bI b = α 13 a) (hb : b = sx_fb α 13 a) : (bif sb then 1 else sx_bI b : Int32) = sx_ref sb (sx_st α 6 a (α 6 a + 1)) a 13 a := by
  have h : sx_ref sb (sx_st α 6 a (α 6 a + 1)) a 13 a = sx_bI (!decide (α 13 a = 0) || sb) := sx_at
  rw [h]
  show _ = sx_bI (sx_fb α 13 a || sb)
  rw [← hb]
  cases sb <;> cases b <;> rfl
theorem sx_ref_rf {α : sx_A} {a : Nat} {sb : Bool} : α 7 a + 1 = sx_ref sb (sx_st α 6 a (α 6 a + 1)) a 7 a := by
  show _ = sx_st (sx_st α 6 a (α 6 a + 1)) 7 a (α 7 a + 1) 7 a
  rw [sx_at]
theorem sx_ref_op {α : sx_A} {a o : Nat} {sb : Bool} (e6 : nI o = α 6 a) : nI (o + 1) = sx_ref sb (sx_st α 6 a (α 6 a + 1)) a 6 a := sx_op1 e6
theorem sx_note_tp {α : sx_A} {a t j : Nat} {tp : Nat → Int32} {v w : Int32} (h : ∀ i, i < 60 → tp i = α 9 (60 * a + i)) : ∀ i, i < 60 → upd tp t (nI j) i = sx_st (sx_st (sx_st α 6 a v) 9 (60 * a + t) (nI j)) 8 a w 9 (60 * a + i) := fun i hi => by
  show _ = sx_st (sx_st α 6 a v) 9 (60 * a + t) (nI j) 9 (60 * a + i)
  unfold upd
  by_cases e : i = t
  · subst e; rw [if_pos rfl, sx_at]
  · rw [if_neg e, sx_off (by omega)]; exact h i hi
theorem sx_note_ts {α : sx_A} {a j : Nat} {ts : Int64} {v : Int32} (ht : sx_tN α a < 60) (e8 : nI (sx_tN α a) = α 8 a) (hj : j < 60) (h : ∀ i, i < 64 → sx_bt ts i = sx_nt α a i) : ∀ i, i < 64 → sx_bt (ts ||| sx_on j) i = sx_nt (sx_st (sx_st (sx_st α 6 a v) 9 (60 * a + sx_tN α a) (nI j)) 8 a (α 8 a + 1)) a i := fun i hi => by
  rw [sx_bt_or, h i hi, sx_bt_on hi (by omega)]
  have e1 : sx_tN (sx_st (sx_st (sx_st α 6 a v) 9 (60 * a + sx_tN α a) (nI j)) 8 a (α 8 a + 1)) a = sx_tN α a + 1 := by
    show (sx_st (sx_st (sx_st α 6 a v) 9 (60 * a + sx_tN α a) (nI j)) 8 a (α 8 a + 1) 8 a).toNatClampNeg = _
    rw [sx_at, ← e8, nI_1, nI_clamp (by omega)]
  unfold sx_nt
  rw [e1]
  simp only [sx_any]
  have e2 : ∀ k, sx_st (sx_st (sx_st α 6 a v) 9 (60 * a + sx_tN α a) (nI j)) 8 a (α 8 a + 1) 9 k = sx_st (sx_st α 6 a v) 9 (60 * a + sx_tN α a) (nI j) 9 k := fun _ => rfl
  congr 1
  · refine sx_any_congr fun k hk => ?_
    rw [e2, sx_off (by omega)]
    rfl
  · rw [e2, sx_at]
    exact decide_eq_decide.mpr ⟨fun z => by rw [z], fun z => ((nI_eq (by omega) (by omega)).mp z).symm⟩
theorem sx_dec_DO {α : sx_A} {a d : Nat} {dp out : Nat → Int32} {p w : Int32} {o : Bool} (hd : d < 12) (h : sx_DO α a dp out) : sx_DO (sx_st (sx_st (sx_st α 5 (12 * a + d) p) 11 (12 * a + d) (sx_bI o)) 4 a w) a (upd dp d p) (upd out d (sx_bI o)) := fun k hk => by
  constructor
  · show _ = sx_st α 5 (12 * a + d) p 5 (12 * a + k)
    unfold upd
    by_cases e : k = d
    · subst e; rw [if_pos rfl, sx_at]
    · rw [if_neg e, sx_off (by omega)]; exact (h k hk).1
  · show _ = sx_st (sx_st α 5 (12 * a + d) p) 11 (12 * a + d) (sx_bI o) 11 (12 * a + k)
    unfold upd
    by_cases e : k = d
    · subst e; rw [if_pos rfl, sx_at]
    · rw [if_neg e, sx_off (by omega)]; exact (h k hk).2
theorem sx_beg_W {n na L : Nat} {α : sx_A} {a : Nat} {sv wv : Nat → Int32} {sf sl x : Int64} (hI : sx_INV n na L α) (hS : sx_RW (α 3) sv sf sl) (hx : ∀ j, j < 64 → sx_bt x j = (decide (j < n) && sx_isD α a false j)) (w : Nat → Int32) (hw : ∀ j, j < 60 → w j = sx_nw n α a j) : sx_RW w (va_cpy sv wv 0 0 60) (sf &&& x) 0 := by
  have hn := hI.1.1.2
  obtain ⟨s1, s2, s3⟩ := hI.2.2.2.2.1
  have hnw : ∀ j, sx_nw n α a j = bif decide (j < n) && sx_isD α a false j then α 3 j else 0 := fun j => by unfold sx_nw; rw [sx_blt]
  refine ⟨fun j hj => ?_, fun j hj => ?_, fun j hj z => ?_, fun j hj q hq z => ?_⟩
  · rw [sx_bt_and, hS.1 j hj, hx j hj]
    by_cases c : j < 60
    · rw [hw j c, hnw, decide_eq_true c]
      cases (decide (j < n) && sx_isD α a false j) with
      | true => simp
      | false => simp
    · rw [decide_eq_false c]; rfl
  · rw [sx_bt_0]
    by_cases c : j < 60
    · rw [hw j c, decide_eq_false (sx_nw_ok hI).1, Bool.and_false]
    · rw [decide_eq_false c]; rfl
  · rw [hw j hj, hnw] at z
    rw [hw j hj, hnw, pk_cpy_in (Nat.zero_le _) (by omega)]
    cases e : (decide (j < n) && sx_isD α a false j) with
    | true =>
      rw [e] at z
      rw [cond_true, show 0 + (j - 0) = j by omega]
      exact hS.2.2.1 j hj z
    | false => rw [e] at z; exact absurd z (show ¬ (0 : Int32) < 0 by decide)
  · rw [hw j hj] at z
    have := (sx_lk (q := q) (by omega)).1
    rw [← z] at this
    exact absurd this (sx_nw_ok hI).1
theorem sx_wrow_at {n : Nat} {α : sx_A} {a j : Nat} (hj : j < 60) : sx_wrow n α a 60 (60 * a + j) = sx_nw n α a j := by
  have b1 : Nat.ble (60 * a) (60 * a + j) = true := Nat.ble_eq_true_of_le (by omega)
  have b2 : Nat.blt (60 * a + j) (60 * a + 60) = true := by simp only [Nat.blt]; exact Nat.ble_eq_true_of_le (by omega)
  simp only [sx_wrow, b1, b2, Bool.and_self, cond_true, Nat.add_sub_cancel_left]
theorem sx_beg_cnt {n na L : Nat} {α : sx_A} {a : Nat} {w v : Nat → Int32} {f l : Int64} (hI : sx_INV n na L α) (h : sx_RW w v f l) (hw : ∀ j, j < 60 → w j = sx_nw n α a j) : sx_cnt (sx_bt (f ||| l)) 64 = sx_cnt (fun p => decide (0 < sx_nw n α a p)) 60 := by
  rw [sx_cnt_0 (m := 60) (k := 64) (by omega) (fun j a b => by rw [sx_RW_tk h b, decide_eq_false (show ¬ j < 60 by omega)]; rfl)]
  refine sx_cnt_congr fun k hk => ?_
  rw [sx_RW_tk h (by omega), decide_eq_true hk, Bool.true_and, hw k hk]
  by_cases c : 0 < sx_nw n α a k
  · have : ¬ sx_nw n α a k = 0 := fun z => by rw [z] at c; exact absurd c (by decide)
    rw [decide_eq_true c, decide_eq_false this]; rfl
  · rw [decide_eq_false c, decide_eq_true (sx_tri c (sx_nw_ok hI).1)]; rfl
theorem sx_ge1 {c : Int32} (h : ¬ c < nI 1) : 0 < c := by
  rw [Int32.lt_iff_toInt_lt] at h ⊢
  rw [sx_i0]
  have : (nI 1).toInt = 1 := by decide
  omega
theorem sx_lq_eq {n na L : Nat} {α : sx_A} {a : Nat} {ab un : Nat → Int64} {v : Nat → Int32} {f l : Int64} {p : Int32} {c : Nat} (hI : sx_INV n na L α) (ha : a < na) (hR : sx_RP n (α 1) ab un) (hW : sx_RW (sx_wd_ α a) v f l) : sx_any (sx_lsF n α un p (f ||| l) c) n = sx_lq n α a p c := by
  have hn := hI.1.1.2
  have h0 : α 10 (60 * a + 0) = 0 := ((sx_INV_A hI ha).2.2.2.2.1 0 (by omega)).2 (Or.inl rfl)
  unfold sx_lq
  rw [← sx_list_q (t := sx_hu n α a) hI]
  refine sx_any_congr fun k hk => ?_
  unfold sx_lsF
  congr 2
  cases e : sx_hu n α a k with
  | false => rw [decide_eq_true ((sx_hu_iff hR hn hk h0 hW).mpr e)]; rfl
  | true => rw [decide_eq_false (fun z => by rw [(sx_hu_iff hR hn hk h0 hW).mp z] at e; cases e)]; rfl
theorem sx_fin2 {x r v : Int32} {β γ : sx_A} {a : Nat} {u : sx_KA} (h : r = v ∧ β = γ) (hv : x = v) (hP : sx_RA γ a u) : x = r ∧ sx_RA β a u := ⟨by rw [h.1]; exact hv, by rw [h.2]; exact hP⟩
theorem sx_W_op {α : sx_A} {a : Nat} {x : Int32} : sx_wd_ (sx_st α 6 a x) a = sx_wd_ α a := rfl
theorem sx_W_put {α : sx_A} {a j : Nat} {x c : Int32} {v : Nat → Int32} {f l : Int64} (h : sx_RW (sx_wd_ α a) v f l) (hj : j < 60) (hc : 0 < c) : sx_RW (sx_wd_ (sx_st (sx_st α 6 a x) 10 (60 * a + j) c) a) (upd v j c) ((f &&& (sx_on j ^^^ (-1))) ||| sx_on j) (l &&& (sx_on j ^^^ (-1))) := by
  rw [sx_wd_st, sx_W_op]; exact sx_RW_put h hj hc
theorem sx_W_link {α : sx_A} {a j q : Nat} {x : Int32} {v : Nat → Int32} {f l : Int64} (h : sx_RW (sx_wd_ α a) v f l) (hj : j < 60) (hq : q < 60) : sx_RW (sx_wd_ (sx_st (sx_st α 6 a x) 10 (60 * a + j) (-1 - nI q)) a) (upd v j (nI q)) (f &&& (sx_on j ^^^ (-1))) ((l &&& (sx_on j ^^^ (-1))) ||| sx_on j) := by
  rw [sx_wd_st, sx_W_op]; exact sx_RW_link h hj hq
theorem sx_W_away {α : sx_A} {a j : Nat} {x : Int32} {v : Nat → Int32} {f l : Int64} (h : sx_RW (sx_wd_ α a) v f l) (hj : j < 60) : sx_RW (sx_wd_ (sx_st (sx_st α 6 a x) 10 (60 * a + j) 0) a) v (f &&& (sx_on j ^^^ (-1))) (l &&& (sx_on j ^^^ (-1))) := by
  rw [sx_wd_st, sx_W_op]; exact sx_RW_away h hj
theorem sx_RA_w {α : sx_A} {a j o : Nat} {v : Int32} {dp : Nat → Int32} {out : Nat → Int32} {dc : Int32} {th : Int32} {hw : Int32} {br : Int32} {rf : Int32} {tp : Nat → Int32} {tc : Int32} {ts : Int64} {wv : Nat → Int32} {wf : Int64} {wl : Int64} (h0 : sx_DO α a dp out) (h1 : ∀ j, j < 60 → tp j = α 9 (60 * a + j)) (h2 : ∀ j, j < 64 → sx_bt ts j = sx_nt α a j) (h3 : sx_RW (sx_wd_ (sx_st (sx_st α 6 a (α 6 a + 1)) 10 (60 * a + j) v) a) wv wf wl) (e4 : dc = α 4 a) (e12 : th = α 12 a) (e14 : hw = α 14 a) (e13 : br = α 13 a) (e6 : nI o = α 6 a) (e7 : rf = α 7 a) (e8 : tc = α 8 a) : sx_RA (sx_st (sx_st α 6 a (α 6 a + 1)) 10 (60 * a + j) v) a (sx_kA dp out dc th hw br (nI (o + 1)) rf tp tc ts wv wf wl) := ⟨h0, h1, h2, h3, e4, e12, e14, e13, sx_op1 e6, e7, e8⟩
