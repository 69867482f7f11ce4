/-! declare, begin, finish, tried, about: outcome by outcome -/
theorem sx_dec_no {n : Nat} {α : sx_A} {a : Nat} {p : Int32} {o : Bool} (h : sx_decO n α a p = false) : sx_decA n α a p = -1 ∧ sx_decS n α a p o = α := by
  unfold sx_decA sx_decS; rw [h]; exact ⟨rfl, rfl⟩
theorem sx_dec_t {n j : Nat} {α : sx_A} {a : Nat} {o : Bool} (hj : j < 2 ^ 31) (h : sx_decO n α a (nI j) = true) (ht : sx_decT α a j = true) : sx_decA n α a (nI j) = -2 ∧ sx_decS n α a (nI j) o = α := by
  unfold sx_decA sx_decS; rw [h, nI_clamp hj, ht]; exact ⟨rfl, rfl⟩
theorem sx_dec_y {n j : Nat} {α : sx_A} {a : Nat} {o : Bool} (hj : j < 2 ^ 31) (h : sx_decO n α a (nI j) = true) (ht : sx_decT α a j = false) : sx_decA n α a (nI j) = nI 1 ∧ sx_decS n α a (nI j) o = sx_st (sx_st (sx_st α 5 (12 * a + sx_dN α a) (nI j)) 11 (12 * a + sx_dN α a) (sx_bI o)) 4 a (α 4 a + 1) := by
  unfold sx_decA sx_decS; rw [h, nI_clamp hj, ht]; exact ⟨rfl, rfl⟩
theorem sx_decO_p {n : Nat} {α : sx_A} {a : Nat} {p : Int32} (h : sx_has n p = false) : sx_decO n α a p = false := by unfold sx_decO; rw [h]; rfl
theorem sx_decO_0 {n : Nat} {α : sx_A} {a : Nat} {p : Int32} (h : p = 0) : sx_decO n α a p = false := by unfold sx_decO; rw [decide_eq_true h]; simp
theorem sx_decO_f {n : Nat} {α : sx_A} {a : Nat} {p : Int32} (h : α 4 a = 12) : sx_decO n α a p = false := by unfold sx_decO; rw [decide_eq_true h]; simp
theorem sx_decO_w {n : Nat} {α : sx_A} {a : Nat} {p : Int32} (h : sx_fb α 12 a = true) : sx_decO n α a p = false := by
  unfold sx_decO; unfold sx_fb at h
  have : decide (α 12 a = 0) = false := by simpa using h
  rw [this]; simp
theorem sx_decO_t {n : Nat} {α : sx_A} {a : Nat} {p : Int32} (h1 : sx_has n p = true) (h2 : ¬ p = 0) (h3 : ¬ α 4 a = 12) (h4 : sx_fb α 12 a = false) : sx_decO n α a p = true := by
  unfold sx_decO; unfold sx_fb at h4
  have : decide (α 12 a = 0) = true := by simpa using h4
  rw [h1, this, decide_eq_false h2, decide_eq_false h3]; rfl
theorem sx_RA_dec {α : sx_A} {a : Nat} {pv w : Int32} {o : Bool} {dp : Nat → Int32} {out : Nat → Int32} {dc : Int32} {th : Int32} {hw : Int32} {br : Int32} {ops : Int32} {rf : Int32} {tp : Nat → Int32} {tc : Int32} {ts : Int64} {wv : Nat → Int32} {wf : Int64} {wl : Int64} (hd : sx_dN α a < 12) (h0 : sx_DO α a dp out) (h1 : ∀ j, j < 60 → tp j = α 9 (60 * a + j)) (h2 : ∀ j, j < 64 → sx_bt ts j = sx_nt α a j) (h3 : sx_RW (sx_wd_ α a) wv wf wl) (e4 : dc = w) (e12 : th = α 12 a) (e14 : hw = α 14 a) (e13 : br = α 13 a) (e6 : ops = α 6 a) (e7 : rf = α 7 a) (e8 : tc = α 8 a) : sx_RA (sx_st (sx_st (sx_st α 5 (12 * a + sx_dN α a) pv) 11 (12 * a + sx_dN α a) (sx_bI o)) 4 a w) a (sx_kA (upd dp (sx_dN α a) pv) (upd out (sx_dN α a) (sx_bI o)) dc th hw br ops rf tp tc ts wv wf wl) := ⟨sx_dec_DO hd h0, h1, h2, h3, e4.trans sx_at.symm, e12, e14, e13, e6, e7, e8⟩
theorem sx_beg_no {n : Nat} {α : sx_A} {a : Nat} (h : sx_fb α 12 a = true) : sx_begA n α a = -1 ∧ sx_begS n α a = α := by
  unfold sx_begA sx_begS sx_begO; unfold sx_fb at h
  have : decide (α 12 a = 0) = false := by simpa using h
  rw [this]; exact ⟨rfl, rfl⟩
theorem sx_beg_l {n : Nat} {α : sx_A} {a : Nat} (h : sx_fb α 12 a = false) (hl : sx_lack n α a = true) : sx_begA n α a = -2 ∧ sx_begS n α a = α := by
  unfold sx_begA sx_begS sx_begO; unfold sx_fb at h
  have : decide (α 12 a = 0) = true := by simpa using h
  rw [this, hl]; exact ⟨rfl, rfl⟩
theorem sx_beg_y {n : Nat} {α : sx_A} {a : Nat} (h : sx_fb α 12 a = false) (hl : sx_lack n α a = false) : sx_begA n α a = nI (sx_cnt (fun p => decide (0 < sx_nw n α a p)) 60) ∧ sx_begS n α a = sx_st (sx_st (sx_st (sx_st (sx_st (sx_st (sx_row α 10 (sx_wrow n α a 60)) 12 a 1) 14 a 1) 13 a 0) 6 a 0) 7 a 0) 8 a 0 := by
  unfold sx_begA sx_begS sx_begO; unfold sx_fb at h
  have : decide (α 12 a = 0) = true := by simpa using h
  rw [this, hl]; exact ⟨rfl, rfl⟩
theorem sx_RA_beg {α : sx_A} {a : Nat} {r : Nat → Int32} {dp out tp wv : Nat → Int32} {dc : Int32} {wf wl : Int64} (h0 : sx_DO α a dp out) (h1 : ∀ j, j < 60 → tp j = α 9 (60 * a + j)) (h3 : sx_RW (fun j => r (60 * a + j)) wv wf wl) (e4 : dc = α 4 a) : sx_RA (sx_st (sx_st (sx_st (sx_st (sx_st (sx_st (sx_row α 10 r) 12 a 1) 14 a 1) 13 a 0) 6 a 0) 7 a 0) 8 a 0) a (sx_kA dp out dc (nI 1) (nI 1) (nI 0) (nI 0) (nI 0) tp (nI 0) 0 wv wf wl) := by
  generalize hβ : sx_row α 10 r = β
  have b10 : β 10 = r := by rw [← hβ]; exact sx_row_eq
  have b5 : β 5 = α 5 := by rw [← hβ]; exact sx_row_ne (by decide)
  have b11 : β 11 = α 11 := by rw [← hβ]; exact sx_row_ne (by decide)
  have b9 : β 9 = α 9 := by rw [← hβ]; exact sx_row_ne (by decide)
  have b4 : β 4 = α 4 := by rw [← hβ]; exact sx_row_ne (by decide)
  have c0 : sx_DO β a dp out := fun k hk => by rw [b5, b11]; exact h0 k hk
  have c1 : ∀ j, j < 60 → tp j = β 9 (60 * a + j) := fun j hj => by rw [b9]; exact h1 j hj
  have c3 : sx_RW (sx_wd_ β a) wv wf wl := by unfold sx_wd_; rw [b10]; exact h3
  refine ⟨c0, c1, fun j _ => ?_, c3, by rw [e4, ← b4]; rfl, (by rw [sx_st_ne (show (12 : Nat) ≠ 8 by decide), sx_st_ne (show (12 : Nat) ≠ 7 by decide), sx_st_ne (show (12 : Nat) ≠ 6 by decide), sx_st_ne (show (12 : Nat) ≠ 13 by decide), sx_st_ne (show (12 : Nat) ≠ 14 by decide)]; exact sx_at.symm), (by rw [sx_st_ne (show (14 : Nat) ≠ 8 by decide), sx_st_ne (show (14 : Nat) ≠ 7 by decide), sx_st_ne (show (14 : Nat) ≠ 6 by decide), sx_st_ne (show (14 : Nat) ≠ 13 by decide)]; exact sx_at.symm), (by rw [sx_st_ne (show (13 : Nat) ≠ 8 by decide), sx_st_ne (show (13 : Nat) ≠ 7 by decide), sx_st_ne (show (13 : Nat) ≠ 6 by decide)]; exact sx_at.symm), (by rw [sx_st_ne (show (6 : Nat) ≠ 8 by decide), sx_st_ne (show (6 : Nat) ≠ 7 by decide)]; exact sx_at.symm), (by rw [sx_st_ne (show (7 : Nat) ≠ 8 by decide)]; exact sx_at.symm), sx_at.symm⟩
  show sx_bt 0 j = _
  rw [sx_bt_0]
  unfold sx_nt sx_tN
  rw [sx_at]
  rfl
theorem sx_fin_no {n : Nat} {α : sx_A} {a : Nat} {f : Bool} (h : sx_fb α 12 a = false) : sx_finA n α a f = -1 ∧ sx_finS n α a f = α := by
  unfold sx_finA sx_finS; unfold sx_fb at h
  have : decide (α 12 a = 0) = true := by simpa using h
  rw [this]; exact ⟨rfl, rfl⟩
theorem sx_fin_f {n : Nat} {α : sx_A} {a : Nat} {f : Bool} (h : sx_fb α 12 a = true) (hf : f = true) : sx_finA n α a f = nI 0 ∧ sx_finS n α a f = sx_st α 12 a 0 := by
  unfold sx_finA sx_finS sx_finO; unfold sx_fb at h
  have : decide (α 12 a = 0) = false := by simpa using h
  rw [this, hf]; exact ⟨rfl, rfl⟩
theorem sx_fin_b {n : Nat} {α : sx_A} {a : Nat} {f : Bool} (h : sx_fb α 12 a = true) (hf : f = false) (hb : sx_fb α 13 a = true) : sx_finA n α a f = -2 ∧ sx_finS n α a f = sx_st α 12 a 0 := by
  unfold sx_finA sx_finS sx_finO; unfold sx_fb at h hb
  have h1 : decide (α 12 a = 0) = false := by simpa using h
  have h2 : decide (α 13 a = 0) = false := by simpa using hb
  rw [h1, hf, h2]; exact ⟨rfl, rfl⟩
theorem sx_fin_l {n : Nat} {α : sx_A} {a : Nat} {f : Bool} (h : sx_fb α 12 a = true) (hf : f = false) (hb : sx_fb α 13 a = false) (hl : ¬ sx_fl n α a (sx_dN α a) 0 0 = 0) : sx_finA n α a f = sx_fl n α a (sx_dN α a) 0 0 ∧ sx_finS n α a f = sx_st α 12 a 0 := by
  unfold sx_finA sx_finS sx_finO; unfold sx_fb at h hb
  have h1 : decide (α 12 a = 0) = false := by simpa using h
  have h2 : decide (α 13 a = 0) = true := by simpa using hb
  rw [h1, hf, h2, decide_eq_false hl]; exact ⟨rfl, rfl⟩
theorem sx_fin_g {n : Nat} {α : sx_A} {a : Nat} {f : Bool} (h : sx_fb α 12 a = true) (hf : f = false) (hb : sx_fb α 13 a = false) (hl : sx_fl n α a (sx_dN α a) 0 0 = 0) : sx_finA n α a f = (bif sx_cl n α a then -3 else bif sx_way n α a then -4 else sx_finC n α a) ∧ sx_finS n α a f = sx_st (bif !sx_cl n α a && !sx_way n α a then sx_row α 3 (sx_srow n α a n) else α) 12 a 0 := by
  unfold sx_finA sx_finS sx_finO; unfold sx_fb at h hb
  have h1 : decide (α 12 a = 0) = false := by simpa using h
  have h2 : decide (α 13 a = 0) = true := by simpa using hb
  rw [h1, hf, h2, decide_eq_true hl]; exact ⟨rfl, rfl⟩
theorem sx_RA_th {α : sx_A} {a : Nat} {dp : Nat → Int32} {out : Nat → Int32} {dc : Int32} {hw : Int32} {br : Int32} {ops : Int32} {rf : Int32} {tp : Nat → Int32} {tc : Int32} {ts : Int64} {wv : Nat → Int32} {wf : Int64} {wl : Int64} (h0 : sx_DO α a dp out) (h1 : ∀ j, j < 60 → tp j = α 9 (60 * a + j)) (h2 : ∀ j, j < 64 → sx_bt ts j = sx_nt α a j) (h3 : sx_RW (sx_wd_ α a) wv wf wl) (e4 : dc = α 4 a) (e14 : hw = α 14 a) (e13 : br = α 13 a) (e6 : ops = α 6 a) (e7 : rf = α 7 a) (e8 : tc = α 8 a) : sx_RA (sx_st α 12 a 0) a (sx_kA dp out dc (nI 0) hw br ops rf tp tc ts wv wf wl) := ⟨h0, h1, h2, h3, e4, sx_at.symm, e14, e13, e6, e7, e8⟩
theorem sx_fin3 {x r v : Int32} {β γ : sx_A} {a : Nat} {u : sx_KA × (Nat → Int32) × Int64 × Int64} (h : r = v ∧ β = γ) (hv : x = v) (hP : sx_RA γ a u.1) (hS : sx_RW (γ 3) u.2.1 u.2.2.1 u.2.2.2) : x = r ∧ sx_RA β a u.1 ∧ sx_RW (β 3) u.2.1 u.2.2.1 u.2.2.2 := ⟨by rw [h.1]; exact hv, by rw [h.2]; exact hP, by rw [h.2]; exact hS⟩
theorem sx_row3 {n : Nat} {α : sx_A} {a : Nat} {b : Bool} : (sx_st (bif b then sx_row α 3 (sx_srow n α a n) else α) 12 a 0) 3 = bif b then sx_srow n α a n else α 3 := by cases b <;> rfl
theorem sx_RA_row {α : sx_A} {a : Nat} {b : Bool} {r : Nat → Int32} {k : sx_KA} (h : sx_RA (sx_st α 12 a 0) a k) : sx_RA (sx_st (bif b then sx_row α 3 r else α) 12 a 0) a k := by
  cases b with
  | false => exact h
  | true =>
    obtain ⟨h0, h1, h2, h3, e4, e12, e14, e13, e6, e7, e8⟩ := h
    show sx_RA (sx_st (sx_row α 3 r) 12 a 0) a k
    generalize hβ : sx_row α 3 r = β
    have q : ∀ i, i ≠ 3 → β i = α i := fun i hi => by rw [← hβ]; exact sx_row_ne hi
    have s : ∀ i, i ≠ 3 → sx_st β 12 a 0 i = sx_st α 12 a 0 i := fun i hi => by
      by_cases e : i = 12
      · subst e; rw [sx_st_eq, sx_st_eq, q 12 (by decide)]
      · rw [sx_st_ne e, sx_st_ne e, q i hi]
    refine ⟨fun k hk => by rw [s 5 (by decide), s 11 (by decide)]; exact h0 k hk, fun j hj => by rw [s 9 (by decide)]; exact h1 j hj, fun j hj => by rw [h2 j hj]; unfold sx_nt sx_tN; rw [s 9 (by decide), s 8 (by decide)], ?_, by rw [s 4 (by decide)]; exact e4, by rw [s 12 (by decide)]; exact e12, by rw [s 14 (by decide)]; exact e14, by rw [s 13 (by decide)]; exact e13, by rw [s 6 (by decide)]; exact e6, by rw [s 7 (by decide)]; exact e7, by rw [s 8 (by decide)]; exact e8⟩
    have : sx_wd_ (sx_st β 12 a 0) a = sx_wd_ (sx_st α 12 a 0) a := by unfold sx_wd_; rw [s 10 (by decide)]
    rw [this]; exact h3
theorem sx_tri_n {α : sx_A} {a : Nat} {i : Int32} (h : i < 0 ∨ ¬ i < nI (sx_tN α a)) : sx_triA α a i = -1 := by
  have : sx_has (sx_tN α a) i = false := by
    unfold sx_has
    rcases h with h | h
    · rw [decide_eq_false (fun z => z h)]; rfl
    · rw [decide_eq_false h, Bool.and_false]
  unfold sx_triA; rw [this]; rfl
theorem sx_tri_y {α : sx_A} {a : Nat} {i : Int32} (ht : sx_tN α a ≤ 60) (h : ¬ i < 0) (h2 : i < nI (sx_tN α a)) : ∃ j, j < sx_tN α a ∧ i = nI j := sx_has_t (by omega) (by unfold sx_has; rw [decide_eq_true h, decide_eq_true h2]; rfl)
theorem sx_tri_j {α : sx_A} {a j : Nat} (ht : sx_tN α a ≤ 60) (hj : j < sx_tN α a) : sx_triA α a (nI j) = α 9 (60 * a + j) := by
  unfold sx_triA; rw [sx_has_nI (by omega) hj, nI_clamp (by omega)]; rfl
