/-! The worlds: cells of a PathTree, a Store, an Action, the SandboxTree (with one Action), the reference. Written by wip/whole/gen/tmpl.py. -/
def wP (cA : Nat → ClassId) (o : Nat) (a1 : Nat) (a2 : Nat) (a3 : Nat) (a4 : Nat) (cnt : Int32) (par : Nat → Int32) (ltr : Nat → Int32) (ab : Nat → Int64) (un : Nat → Int64) : va_W := [(o, .inr (1, [.ref a1, .ref a2, .ref a3, .ref a4, .int cnt])), (a1, .inl (cA 0, 60, .inl par)), (a2, .inl (cA 2, 60, .inl ltr)), (a3, .inl (cA 3, 60, .inr (.inl ab))), (a4, .inl (cA 3, 60, .inr (.inl un)))]
def wS (cA : Nat → ClassId) (o : Nat) (a1 : Nat) (v : Nat → Int32) (f : Int64) (l : Int64) : va_W := [(o, .inr (2, [.ref a1, .long f, .long l])), (a1, .inl (cA 0, 60, .inl v))]
def wSS (cA : Nat → ClassId) (o : Nat) (a1 : Nat) (o2 : Nat) (a2 : Nat) (v : Nat → Int32) (f : Int64) (l : Int64) (v2 : Nat → Int32) (f2 : Int64) (l2 : Int64) : va_W := [(o, .inr (2, [.ref a1, .long f, .long l])), (a1, .inl (cA 0, 60, .inl v)), (o2, .inr (2, [.ref a2, .long f2, .long l2])), (a2, .inl (cA 0, 60, .inl v2))]
def wA (cA : Nat → ClassId) (g0 : Nat) (g1 : Nat) (g2 : Nat) (g3 : Nat) (g4 : Nat) (g5 : Nat) (dp : Nat → Int32) (out : Nat → Int32) (dc : Int32) (th : Int32) (hw : Int32) (br : Int32) (ops : Int32) (rf : Int32) (tp : Nat → Int32) (tc : Int32) (ts : Int64) (wv : Nat → Int32) (wf : Int64) (wl : Int64) : va_W := [(g0, .inr (0, [.ref g1, .ref g2, .int dc, .ref g3, .int th, .int hw, .int br, .int ops, .int rf, .ref g5, .int tc, .long ts])), (g1, .inl (cA 0, 12, .inl dp)), (g2, .inl (cA 1, 12, .inl out)), (g3, .inr (2, [.ref g4, .long wf, .long wl])), (g4, .inl (cA 0, 60, .inl wv)), (g5, .inl (cA 0, 60, .inl tp))]
def wX (cA : Nat → ClassId) (h : Nat → Nat) (lim : Int32) (ac : Int32) (sn : Int32) (cnt : Int32) (par : Nat → Int32) (ltr : Nat → Int32) (ab : Nat → Int64) (un : Nat → Int64) (sv : Nat → Int32) (sf : Int64) (sl : Int64) (acts : Nat → Option Nat) : va_W := [(h 0, .inr (3, [.int lim, .ref (h 1), .ref (h 6), .ref (h 8), .int ac, .int sn])), (h 1, .inr (1, [.ref (h 2), .ref (h 3), .ref (h 4), .ref (h 5), .int cnt])), (h 2, .inl (cA 0, 60, .inl par)), (h 3, .inl (cA 2, 60, .inl ltr)), (h 4, .inl (cA 3, 60, .inr (.inl ab))), (h 5, .inl (cA 3, 60, .inr (.inl un))), (h 6, .inr (2, [.ref (h 7), .long sf, .long sl])), (h 7, .inl (cA 0, 60, .inl sv)), (h 8, .inl (cA 4, 10, .inr (.inr (.inr (.inr acts)))))]
def wXA (cA : Nat → ClassId) (h : Nat → Nat) (g : Nat → Nat) (lim : Int32) (ac : Int32) (sn : Int32) (cnt : Int32) (par : Nat → Int32) (ltr : Nat → Int32) (ab : Nat → Int64) (un : Nat → Int64) (sv : Nat → Int32) (sf : Int64) (sl : Int64) (acts : Nat → Option Nat) (dp : Nat → Int32) (out : Nat → Int32) (dc : Int32) (th : Int32) (hw : Int32) (br : Int32) (ops : Int32) (rf : Int32) (tp : Nat → Int32) (tc : Int32) (ts : Int64) (wv : Nat → Int32) (wf : Int64) (wl : Int64) : va_W := [(h 0, .inr (3, [.int lim, .ref (h 1), .ref (h 6), .ref (h 8), .int ac, .int sn])), (h 1, .inr (1, [.ref (h 2), .ref (h 3), .ref (h 4), .ref (h 5), .int cnt])), (h 2, .inl (cA 0, 60, .inl par)), (h 3, .inl (cA 2, 60, .inl ltr)), (h 4, .inl (cA 3, 60, .inr (.inl ab))), (h 5, .inl (cA 3, 60, .inr (.inl un))), (h 6, .inr (2, [.ref (h 7), .long sf, .long sl])), (h 7, .inl (cA 0, 60, .inl sv)), (h 8, .inl (cA 4, 10, .inr (.inr (.inr (.inr acts))))), (g 0, .inr (0, [.ref (g 1), .ref (g 2), .int dc, .ref (g 3), .int th, .int hw, .int br, .int ops, .int rf, .ref (g 5), .int tc, .long ts])), (g 1, .inl (cA 0, 12, .inl dp)), (g 2, .inl (cA 1, 12, .inl out)), (g 3, .inr (2, [.ref (g 4), .long wf, .long wl])), (g 4, .inl (cA 0, 60, .inl wv)), (g 5, .inl (cA 0, 60, .inl tp))]
def wM (cA : Nat → ClassId) (h : Nat → Nat) (most : Int32) (code : Int32) (paths : Int32) (actions : Int32) (isStrict : Int32) (parent : Nat → Int32) (letter : Nat → Int32) (source : Nat → Int32) (come : Nat → Int32) (declared : Nat → Int32) (declaredPath : Nat → Int32) (operations : Nat → Int32) (refusals : Nat → Int32) (triedMany : Nat → Int32) (tried : Nat → Int32) (world : Nat → Int32) (isOutput : Nat → Int32) (isThere : Nat → Int32) (isBroken : Nat → Int32) (wasThere : Nat → Int32) (marked : Nat → Int32) : va_W := [(h 0, .inr (4, [.int most, .int code, .int paths, .int actions, .int isStrict, .ref (h 1), .ref (h 2), .ref (h 3), .ref (h 4), .ref (h 5), .ref (h 6), .ref (h 7), .ref (h 8), .ref (h 9), .ref (h 10), .ref (h 11), .ref (h 12), .ref (h 13), .ref (h 14), .ref (h 15), .ref (h 16)])), (h 1, .inl (cA 0, 60, .inl parent)), (h 2, .inl (cA 0, 60, .inl letter)), (h 3, .inl (cA 0, 60, .inl source)), (h 4, .inl (cA 0, 60, .inl come)), (h 5, .inl (cA 0, 10, .inl declared)), (h 6, .inl (cA 0, 120, .inl declaredPath)), (h 7, .inl (cA 0, 10, .inl operations)), (h 8, .inl (cA 0, 10, .inl refusals)), (h 9, .inl (cA 0, 10, .inl triedMany)), (h 10, .inl (cA 0, 600, .inl tried)), (h 11, .inl (cA 0, 600, .inl world)), (h 12, .inl (cA 1, 120, .inl isOutput)), (h 13, .inl (cA 1, 10, .inl isThere)), (h 14, .inl (cA 1, 10, .inl isBroken)), (h 15, .inl (cA 1, 10, .inl wasThere)), (h 16, .inl (cA 1, 60, .inl marked))]
theorem sx_P0 {D : va_G} {cl : List vw_C} {H : Heap} : va_P D cl [] H := fun k q h => by simp at h
theorem sx_n0 {n : Nat} (hn : n < 2 ^ 31) (h : nI n = 0) : n = 0 := (nI_eq hn (by decide)).mp (h.trans nI_0.symm)
theorem sx_nle {n : Nat} (hn : n < 2 ^ 31) (h : nI n ≤ 0) : n = 0 := by
  rw [← nI_0] at h
  have := (nI_leI hn (by decide)).mp h
  omega
theorem sx_pgt {n : Nat} (hn : n < 2 ^ 31) (h : 0 < nI n) : 0 < n := by
  rw [← nI_0] at h
  exact (nI_ltI (by decide) hn).mp h
theorem sx_ngt {n : Nat} (hn : n < 2 ^ 31) (h : ¬ 0 < nI n) : n = 0 := by
  rw [← nI_0] at h
  have := Nat.not_lt.mp (fun z => h ((nI_ltI (by decide) hn).mpr z))
  omega
theorem sx_nne {n : Nat} (_ : n < 2 ^ 31) (h : ¬ nI n = 0) : 0 < n := by
  rcases Nat.eq_zero_or_pos n with z | z
  · subst z; exact absurd nI_0 h
  · exact z
theorem sx_ple {n : Nat} (hn : n < 2 ^ 31) (h : ¬ nI n ≤ 0) : 0 < n := by
  rw [← nI_0] at h
  have := Nat.not_le.mp (fun z => h ((nI_leI hn (by decide)).mpr z))
  exact this
theorem sx_has_f1 {n : Nat} {p : Int32} (h : p < 0) : sx_has n p = false := by simp [sx_has, h]
theorem sx_has_f2 {n : Nat} {p : Int32} (h : nI n ≤ p) : sx_has n p = false := by
  have : ¬ p < nI n := Int32.not_lt.mpr h
  simp [sx_has, this]
theorem sx_has_tt {n : Nat} {p : Int32} (h1 : ¬ p < 0) (h : ¬ nI n ≤ p) : sx_has n p = true := by
  have : p < nI n := Int32.not_le.mp h
  simp [sx_has, this, h1]
theorem sx_has_rg {n : Nat} {p : Int32} (hn : n < 2 ^ 31) (h : sx_has n p = false) : ¬ ∃ j, j < n ∧ p = nI j := fun ⟨j, a, b⟩ => by
  rw [b, sx_has_nI hn a] at h; cases h
theorem sx_b1 {b : Bool} (h : b = true) : nI 1 = sx_bI b := by rw [h]; rfl
theorem sx_b0 {b : Bool} (h : b = false) : nI 0 = sx_bI b := by rw [h]; rfl
theorem sx_all_s {P : Nat → Prop} {i : Nat} (h : ∀ k, 0 < k → k < i → P k) (hi : P i) : ∀ k, 0 < k → k < i + 1 → P k := fun k a b => by
  by_cases e : k = i
  · subst e; exact hi
  · exact h k a (by omega)
theorem sx_any_s {f : Nat → Bool} {i : Nat} (h : sx_any f i = false) (hi : f i = false) : sx_any f (i + 1) = false := by simp only [sx_any, h, hi, Bool.or_self]
theorem sx_ch_none {n : Nat} {α : sx_A} {p c : Int32} (hn : n < 2 ^ 31) (h : ∀ k, 0 < k → k < n → ¬ (α 1 k = p ∧ α 2 k = c)) : sx_ch α p c n = -1 := by
  rcases sx_ch_ok (α := α) (p := p) (c := c) n hn with ⟨e, _⟩ | ⟨k, a, b, c1, d, _⟩
  · exact e
  · exact absurd ⟨c1, d⟩ (h k a b)
theorem sx_ch_some {n k : Nat} {α : sx_A} {p c : Int32} (hn : n < 2 ^ 31) (hD : sx_DI n α) (h0 : 0 < k) (hk : k < n) (e1 : α 1 k = p) (e2 : α 2 k = c) : sx_ch α p c n = nI k := by
  subst e1; subst e2; exact sx_ch_at hn hD h0 hk
theorem sx_isL_t1 {c : Int32} (h1 : ¬ c < nI 97) (h2 : c ≤ nI 122) : sx_isL c = true := by
  have a : 97 ≤ c := Int32.not_lt.mp h1
  have b : c ≤ 122 := h2
  simp [sx_isL, a, b]
theorem sx_isL_t2 {c : Int32} (h1 : ¬ c < nI 65) (h2 : ¬ nI 90 < c) : sx_isL c = true := by
  have a : 65 ≤ c := Int32.not_lt.mp h1
  have b : c ≤ 90 := Int32.not_lt.mp h2
  simp [sx_isL, a, b]
theorem sx_isL_f {c : Int32} (h1 : c < nI 97 ∨ ¬ c ≤ nI 122) (h2 : c < nI 65 ∨ nI 90 < c) : sx_isL c = false := by
  have a : (decide (97 ≤ c) && decide (c ≤ 122)) = false := by
    rcases h1 with h | h
    · rw [decide_eq_false (show ¬ 97 ≤ c from Int32.not_le.mpr h)]; rfl
    · rw [decide_eq_false (show ¬ c ≤ 122 from h), Bool.and_false]
  have b : (decide (65 ≤ c) && decide (c ≤ 90)) = false := by
    rcases h2 with h | h
    · rw [decide_eq_false (show ¬ 65 ≤ c from Int32.not_le.mpr h)]; rfl
    · rw [decide_eq_false (show ¬ c ≤ 90 from Int32.not_le.mpr h), Bool.and_false]
  unfold sx_isL
  rw [a, b]; rfl
theorem sx_holdsN {w : Int64} {j : Nat} (hj : j < 64) (h : ¬ w &&& sx_on j = 0) : sx_bt w j = true := by
  cases e : sx_bt w j with
  | true => rfl
  | false => exact absurd ((sx_holds hj).mpr e) h
