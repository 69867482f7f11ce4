/-! The reference's tables: what its helpers' loops say. -/
def wMa (cA : Nat → ClassId) (h : Nat → Nat) (L : Nat) (cd : Int32) (n na : Nat) (sb : Bool) (α : sx_A) (cm mk : Nat → Int32) : va_W := wM cA h (nI L) cd (nI n) (nI na) (sx_bI sb) (α 1) (α 2) (α 3) cm (α 4) (α 5) (α 6) (α 7) (α 8) (α 9) (α 10) (α 11) (α 12) (α 13) (α 14) mk
theorem sx_low_1 {c : Int32} (h : c < nI 65) : c = sx_low c := by
  unfold sx_low
  rw [if_neg (fun z => absurd h (Int32.not_lt.mpr z.1))]
theorem sx_low_2 {c : Int32} (h : nI 90 < c) : c = sx_low c := by
  unfold sx_low
  rw [if_neg (fun z => absurd h (Int32.not_lt.mpr z.2))]
theorem sx_low_3 {c : Int32} (h1 : ¬ c < nI 65) (h2 : ¬ nI 90 < c) : c + nI 32 = sx_low c := by
  unfold sx_low
  rw [if_pos ⟨Int32.not_lt.mp h1, Int32.not_lt.mp h2⟩]
  rfl
theorem sx_ch_s1 {α : sx_A} {p c : Int32} {i : Nat} (h0 : 0 < i) (e1 : α 1 i = p) (e2 : α 2 i = c) : nI i = sx_ch α p c (i + 1) := by
  show _ = (if 0 < i ∧ α 1 i = p ∧ α 2 i = c then nI i else sx_ch α p c i)
  rw [if_pos ⟨h0, e1, e2⟩]
theorem sx_ch_s0 {α : sx_A} {p c g : Int32} {i : Nat} (hg : g = sx_ch α p c i) (e : ¬ (α 1 i = p ∧ α 2 i = c)) : g = sx_ch α p c (i + 1) := by
  show _ = (if 0 < i ∧ α 1 i = p ∧ α 2 i = c then nI i else sx_ch α p c i)
  rw [if_neg (fun z => e z.2)]; exact hg
theorem sx_ch_1 {α : sx_A} {p c : Int32} : -1 = sx_ch α p c 1 := by
  show _ = (if 0 < 0 ∧ α 1 0 = p ∧ α 2 0 = c then nI 0 else -1)
  rw [if_neg (fun z => absurd z.1 (by decide))]
def sx_pd : Nat → Int32
  | 0 => -1
  | j + 1 => nI j
def sx_Ux (par : Nat → Int32) (q : Nat) : Nat → Bool
  | 0 => false
  | j + 1 => sx_U par j q
theorem sx_PO_pd {n : Nat} {par : Nat → Int32} {j : Nat} (h : sx_PO n par) (hn : n ≤ 60) (hj : j < n) : ∃ y, y ≤ j ∧ par j = sx_pd y ∧ ∀ b, sx_U par j b = (Nat.beq j b || sx_Ux par b y) := by
  rcases Nat.eq_zero_or_pos j with e | e
  · subst e
    exact ⟨0, Nat.le_refl 0, h.1, fun b => by rw [sx_U_0]; exact (Bool.or_false _).symm⟩
  · obtain ⟨i, hi, e2⟩ := h.2 j e hj
    exact ⟨i + 1, hi, e2, fun b => sx_U_step h (by omega) e hj hi e2⟩
theorem sx_pd_0 {x : Nat} (hx : x ≤ 60) (h : sx_pd x = -1) : x = 0 := by
  cases x with
  | zero => rfl
  | succ j => exact absurd h (sx_nI_m1 (by omega))
theorem sx_pd_s {x : Nat} (h : ¬ sx_pd x = -1) : ∃ j, x = j + 1 := by
  cases x with
  | zero => exact absurd rfl h
  | succ j => exact ⟨j, rfl⟩
theorem sx_beq_f {a b : Nat} (h : ¬ a = b) : Nat.beq a b = false := by rw [sx_beq]; exact decide_eq_false h
theorem sx_beq_t {a b : Nat} (h : a = b) : Nat.beq a b = true := by rw [sx_beq]; exact decide_eq_true h
theorem sx_blt0 {i : Nat} (h : 0 < i) : Nat.blt 0 i = true := by rw [sx_blt]; exact decide_eq_true h
theorem sx_anyS_1 {f : Nat → Bool} {k : Nat} {b : Bool} (hJ : b = sx_any f k) (h : b = true) : true = sx_any f (k + 1) := by
  show _ = (sx_any f k || f k)
  rw [← hJ, h]; rfl
theorem sx_anyS_2 {f : Nat → Bool} {k : Nat} (h : f k = true) : true = sx_any f (k + 1) := by
  show _ = (sx_any f k || f k)
  rw [h, Bool.or_true]
theorem sx_anyS_0 {f : Nat → Bool} {k : Nat} {b : Bool} (hJ : b = sx_any f k) (hb : b = false) (h : f k = false) : false = sx_any f (k + 1) := by
  show _ = (sx_any f k || f k)
  rw [← hJ, hb, h]; rfl
theorem sx_or1 {f : Nat → Bool} {k : Nat} {g b : Bool} (hJ : b = (g || sx_any f k)) (h : b = true) : true = (g || sx_any f (k + 1)) := by
  show _ = (g || (sx_any f k || f k))
  rw [← Bool.or_assoc, ← hJ, h]; rfl
theorem sx_or2 {f : Nat → Bool} {k : Nat} {g : Bool} (h : f k = true) : true = (g || sx_any f (k + 1)) := by
  show _ = (g || (sx_any f k || f k))
  rw [h, Bool.or_true, Bool.or_true]
theorem sx_or0 {f : Nat → Bool} {k : Nat} {g b : Bool} (hJ : b = (g || sx_any f k)) (hb : b = false) (h : f k = false) : false = (g || sx_any f (k + 1)) := by
  show _ = (g || (sx_any f k || f k))
  rw [← Bool.or_assoc, ← hJ, hb, h]; rfl
theorem sx_isW_0 {n : Nat} {α : sx_A} {a p : Nat} (h : sx_isD α a true p = false) (hz : sx_z n α = -1) : sx_isW n α a p = false := by
  unfold sx_isW
  rw [h, decide_eq_true hz]; rfl
theorem sx_isW_k {n : Nat} {α : sx_A} {a p k : Nat} (h : sx_isD α a true p = false) (hk : k < 2 ^ 31) (ek : sx_z n α = nI k) : sx_isW n α a p = (!Nat.beq p k && (sx_U (α 1) p k && !sx_isD α a false p)) := by
  unfold sx_isW
  rw [h, ek, nI_clamp hk, decide_eq_false (sx_nI_m1 hk)]; rfl
theorem sx_isW_1 {n : Nat} {α : sx_A} {a p : Nat} (h : sx_isD α a true p = true) : sx_isW n α a p = true := by
  unfold sx_isW
  rw [h]; rfl
theorem sx_goal (q : Nat) : -1 - (-1 - nI q) = nI q := by
  apply Int32.toBitVec_inj.mp
  simp only [Int32.toBitVec_sub]
  bv_omega
theorem sx_ld_f {w : Nat → Int32} {m : Nat} {x : Int32} (h : 0 ≤ x ∨ m = 0) : sx_ld w m x = if 0 < x then x else 0 := by
  cases m with
  | zero => rfl
  | succ m =>
    show (if x < 0 then _ else _) = _
    rcases h with h | h
    · rw [if_neg (Int32.not_lt.mpr h)]
    · omega
theorem sx_ld_0 {w : Nat → Int32} {m : Nat} {x : Int32} (h : 0 ≤ x ∨ m = 0) (h0 : x ≤ 0) : nI 0 = sx_ld w m x := by
  rw [sx_ld_f h, if_neg (Int32.not_lt.mpr h0)]; rfl
theorem sx_ld_1 {w : Nat → Int32} {m : Nat} {x : Int32} (h : 0 ≤ x ∨ m = 0) (h0 : ¬ x ≤ 0) : x = sx_ld w m x := by
  rw [sx_ld_f h, if_pos (Int32.not_le.mp h0)]
theorem sx_ld_s {w : Nat → Int32} {f q : Nat} {y : Int32} (hf : f < 4) (hq : q < 60) (hx : ¬ 0 ≤ -1 - nI q) (hy : y = w q) : sx_ld w (4 - f) (-1 - nI q) = sx_ld w (4 - (f + 1)) y := by
  obtain ⟨m, e⟩ : ∃ m, 4 - f = m + 1 := ⟨3 - f, by omega⟩
  rw [e, show 4 - (f + 1) = m by omega]
  show (if -1 - nI q < 0 then sx_ld w m (w (-1 - (-1 - nI q)).toNatClampNeg) else _) = _
  rw [if_pos (Int32.not_le.mp hx), sx_goal, nI_clamp (by omega), hy]
theorem sx_anyR {F : Nat → Bool} {b : Bool} {k m : Nat} (hJ : b = sx_any F k) (e : k = m) : sx_bI b = sx_bI (sx_any F m) := by rw [hJ, e]
