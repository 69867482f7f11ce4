/-! An Action's state as one thing; how it goes with the tables. Written by wip/whole/gen/tmpl2.py. -/
def wQ (cA : Nat → ClassId) (h : Nat → Nat) (lim : Int32) (ac : Int32) (sn : Int32) (acts : Nat → Option Nat) : va_W := [(h 0, .inr (3, [.int lim, .ref (h 1), .ref (h 6), .ref (h 8), .int ac, .int sn])), (h 8, .inl (cA 4, 10, .inr (.inr (.inr (.inr acts)))))]
abbrev sx_KA : Type := (Nat → Nat → Int32) × (Nat → Int64)
def sx_kA (dp : Nat → Int32) (out : Nat → Int32) (dc : Int32) (th : Int32) (hw : Int32) (br : Int32) (ops : Int32) (rf : Int32) (tp : Nat → Int32) (tc : Int32) (ts : Int64) (wv : Nat → Int32) (wf : Int64) (wl : Int64) : sx_KA := (fun i => match i with
  | 0 => dp
  | 1 => out
  | 2 => tp
  | 3 => wv
  | _ => fun j => match j with
    | 0 => dc
    | 1 => th
    | 2 => hw
    | 3 => br
    | 4 => ops
    | 5 => rf
    | _ => tc, fun i => match i with
  | 0 => ts
  | 1 => wf
  | _ => wl)
def wAk (cA : Nat → ClassId) (g : Nat → Nat) (k : sx_KA) : va_W := wA cA (g 0) (g 1) (g 2) (g 3) (g 4) (g 5) (k.1 0) (k.1 1) (k.1 4 0) (k.1 4 1) (k.1 4 2) (k.1 4 3) (k.1 4 4) (k.1 4 5) (k.1 2) (k.1 4 6) (k.2 0) (k.1 3) (k.2 1) (k.2 2)
def wXAk (cA : Nat → ClassId) (h g : Nat → Nat) (lim : Int32) (ac : Int32) (sn : Int32) (cnt : Int32) (par : Nat → Int32) (ltr : Nat → Int32) (ab : Nat → Int64) (un : Nat → Int64) (sv : Nat → Int32) (sf : Int64) (sl : Int64) (acts : Nat → Option Nat) (k : sx_KA) : va_W := wXA cA h g lim ac sn cnt par ltr ab un sv sf sl acts (k.1 0) (k.1 1) (k.1 4 0) (k.1 4 1) (k.1 4 2) (k.1 4 3) (k.1 4 4) (k.1 4 5) (k.1 2) (k.1 4 6) (k.2 0) (k.1 3) (k.2 1) (k.2 2)
def sx_fb (α : sx_A) (i a : Nat) : Bool := !decide (α i a = 0)
def sx_oN (α : sx_A) (a : Nat) : Nat := (α 6 a).toNatClampNeg
def sx_RA (α : sx_A) (a : Nat) (k : sx_KA) : Prop := sx_DO α a (k.1 0) (k.1 1) ∧ (∀ j, j < 60 → k.1 2 j = α 9 (60 * a + j)) ∧ (∀ j, j < 64 → sx_bt (k.2 0) j = sx_nt α a j) ∧ sx_RW (sx_wd_ α a) (k.1 3) (k.2 1) (k.2 2) ∧ k.1 4 0 = α 4 a ∧ k.1 4 1 = α 12 a ∧ k.1 4 2 = α 14 a ∧ k.1 4 3 = α 13 a ∧ k.1 4 4 = α 6 a ∧ k.1 4 5 = α 7 a ∧ k.1 4 6 = α 8 a
theorem sx_fb_ok {α : sx_A} {i a : Nat} (h : ∃ b, α i a = sx_bI b) : sx_bI (sx_fb α i a) = α i a := by
  obtain ⟨b, e⟩ := h
  unfold sx_fb
  rw [e]
  cases b <;> rfl
theorem sx_oN_ok {n L : Nat} {α : sx_A} {a : Nat} (h : sx_ACT n L α a) (hL : L ≤ 500) : sx_oN α a ≤ L ∧ nI (sx_oN α a) = α 6 a := by
  obtain ⟨o, o1, o2⟩ := h.2.2.1
  have : sx_oN α a = o := by unfold sx_oN; rw [o2, nI_clamp (by omega)]
  rw [this]; exact ⟨o1, o2.symm⟩
theorem sx_XA_eq {cA : Nat → ClassId} {h g : Nat → Nat} {lim : Int32} {ac : Int32} {sn : Int32} {cnt : Int32} {par : Nat → Int32} {ltr : Nat → Int32} {ab : Nat → Int64} {un : Nat → Int64} {sv : Nat → Int32} {sf : Int64} {sl : Int64} {acts : Nat → Option Nat} {n L : Nat} {α : sx_A} {a : Nat} {k : sx_KA} (hA : sx_ACT n L α a) (hL : L ≤ 500) (hR : sx_RA α a k) : wXAk cA h g lim ac sn cnt par ltr ab un sv sf sl acts k = wXA cA h g lim ac sn cnt par ltr ab un sv sf sl acts (k.1 0) (k.1 1) (nI (sx_dN α a)) (sx_bI (sx_fb α 12 a)) (sx_bI (sx_fb α 14 a)) (sx_bI (sx_fb α 13 a)) (nI (sx_oN α a)) (α 7 a) (k.1 2) (nI (sx_tN α a)) (k.2 0) (k.1 3) (k.2 1) (k.2 2) := by
  obtain ⟨-, -, -, -, e0, e1, e2, e3, e4, e5, e6⟩ := hR
  unfold wXAk
  rw [e0, e1, e2, e3, e4, e5, e6, sx_fb_ok hA.2.2.2.2.2.1, sx_fb_ok hA.2.2.2.2.2.2.1, sx_fb_ok hA.2.2.2.2.2.2.2, (sx_oN_ok hA hL).2, ← (sx_dN_ok hA).2, ← (sx_tN_ok hA).2]
theorem sx_RA_of {α : sx_A} {a : Nat} {dp : Nat → Int32} {out : Nat → Int32} {dc : Int32} {th : Int32} {hw : Int32} {br : Int32} {ops : Int32} {rf : Int32} {tp : Nat → Int32} {tc : Int32} {ts : Int64} {wv : Nat → Int32} {wf : Int64} {wl : Int64} (h0 : sx_DO α a dp out) (h1 : ∀ j, j < 60 → tp j = α 9 (60 * a + j)) (h2 : ∀ j, j < 64 → sx_bt ts j = sx_nt α a j) (h3 : sx_RW (sx_wd_ α a) wv wf wl) (e4 : dc = α 4 a) (e12 : th = α 12 a) (e14 : hw = α 14 a) (e13 : br = α 13 a) (e6 : ops = α 6 a) (e7 : rf = α 7 a) (e8 : tc = α 8 a) : sx_RA α a (sx_kA dp out dc th hw br ops rf tp tc ts wv wf wl) := ⟨h0, h1, h2, h3, e4, e12, e14, e13, e6, e7, e8⟩
theorem sx_may_no {n L : Nat} {α : sx_A} {a : Nat} {p q : Int32} (h : sx_ok n α a p q = false) : sx_mayB n L α a p q = false ∧ sx_may n L α a p q = -1 ∧ sx_mayS n L α a p q = α := by
  unfold sx_mayB sx_may sx_mayS
  rw [h]; exact ⟨rfl, rfl, rfl⟩
theorem sx_may_lim {n L : Nat} {α : sx_A} {a : Nat} {p q : Int32} (h : sx_ok n α a p q = true) (e : α 6 a = nI L) : sx_mayB n L α a p q = false ∧ sx_may n L α a p q = -9 ∧ sx_mayS n L α a p q = sx_st α 13 a 1 := by
  unfold sx_mayB sx_may sx_mayS
  rw [h, decide_eq_true e]; exact ⟨rfl, rfl, rfl⟩
theorem sx_may_go {n L : Nat} {α : sx_A} {a : Nat} {p q : Int32} (h : sx_ok n α a p q = true) (e : ¬ α 6 a = nI L) : sx_mayB n L α a p q = true ∧ sx_may n L α a p q = 0 ∧ sx_mayS n L α a p q = sx_st α 6 a (α 6 a + 1) := by
  unfold sx_mayB sx_may sx_mayS
  rw [h, decide_eq_false e]; exact ⟨rfl, rfl, rfl⟩
theorem sx_ok_th {n : Nat} {α : sx_A} {a : Nat} {p q : Int32} (h : sx_fb α 12 a = false) : sx_ok n α a p q = false := by
  unfold sx_ok; unfold sx_fb at h; rw [h]; rfl
theorem sx_ok_p {n : Nat} {α : sx_A} {a : Nat} {p q : Int32} (h : sx_has n p = false) : sx_ok n α a p q = false := by
  unfold sx_ok; rw [h]; simp
theorem sx_ok_q {n : Nat} {α : sx_A} {a : Nat} {p q : Int32} (h : sx_has n q = false) : sx_ok n α a p q = false := by
  unfold sx_ok; rw [h]; simp
theorem sx_ok_t {n : Nat} {α : sx_A} {a : Nat} {p q : Int32} (h : sx_fb α 12 a = true) (h1 : sx_has n p = true) (h2 : sx_has n q = true) : sx_ok n α a p q = true := by
  unfold sx_ok; unfold sx_fb at h; rw [h, h1, h2]; rfl
theorem sx_has0 {n : Nat} (h1 : 1 ≤ n) (hn : n ≤ 60) : sx_has n 0 = true := sx_has_nI (j := 0) (by omega) h1
