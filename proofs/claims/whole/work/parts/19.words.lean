/-! Letters, clashes, listing. -/
theorem sx_isL_nat {c : Int32} (h : sx_isL c = true) : ∃ k : Nat, (65 ≤ k ∧ k < 123) ∧ c = nI k := by
  simp only [sx_isL, Bool.or_eq_true, Bool.and_eq_true, decide_eq_true_eq, Int32.le_iff_toInt_le] at h
  have e1 : (97 : Int32).toInt = 97 := by decide
  have e2 : (122 : Int32).toInt = 122 := by decide
  have e3 : (65 : Int32).toInt = 65 := by decide
  have e4 : (90 : Int32).toInt = 90 := by decide
  rw [e1, e2, e3, e4] at h
  have h0 : ¬ c < 0 := by rw [Int32.lt_iff_toInt_lt, sx_i0]; omega
  obtain ⟨k, hk, rfl⟩ := nI_of h0
  rw [nI_toInt hk] at h
  exact ⟨k, by omega, rfl⟩
/-- the twin of a letter: its case changed -/
def sx_tw (c : Int32) : Int32 := ((c ^^^ 32).toUInt32 % 65536).toInt32
theorem sx_tw_all : ∀ k, k < 123 → sx_isL (nI k) = true → sx_isL (sx_tw (nI k)) = true ∧ sx_tw (nI k) ≠ nI k ∧ sx_low (sx_tw (nI k)) = sx_low (nI k) := by decide +kernel
theorem sx_low_tab : (List.range 123).all (fun k => (List.range 123).all (fun m => (!sx_isL (nI k) || !sx_isL (nI m)) || (!decide (sx_low (nI k) = sx_low (nI m)) || (decide (k = m) || decide (nI m = sx_tw (nI k)))))) = true := by decide +kernel
theorem sx_low_all (k : Nat) (hk : k < 123) (m : Nat) (hm : m < 123) (h1 : sx_isL (nI k) = true) (h2 : sx_isL (nI m) = true) (e : sx_low (nI k) = sx_low (nI m)) : k = m ∨ nI m = sx_tw (nI k) := by
  have a := List.all_eq_true.mp (List.all_eq_true.mp sx_low_tab k (List.mem_range.mpr hk)) m (List.mem_range.mpr hm)
  rw [h1, h2, decide_eq_true e] at a
  simpa using a
theorem sx_tw_ok {c : Int32} (h : sx_isL c = true) : sx_isL (sx_tw c) = true ∧ sx_tw c ≠ c ∧ sx_low (sx_tw c) = sx_low c := by
  obtain ⟨k, k1, rfl⟩ := sx_isL_nat h
  exact sx_tw_all k k1.2 h
theorem sx_low_ok {c d : Int32} (h : sx_isL c = true) (h2 : sx_isL d = true) (e : sx_low c = sx_low d) : c = d ∨ d = sx_tw c := by
  obtain ⟨k, k1, rfl⟩ := sx_isL_nat h
  obtain ⟨m, m1, rfl⟩ := sx_isL_nat h2
  rcases sx_low_all k k1.2 m m1.2 h h2 e with q | q
  · exact Or.inl (by rw [q])
  · exact Or.inr q
/-- the only path with this parent and letter -/
theorem sx_ch_at {n k : Nat} {α : sx_A} (hn : n < 2 ^ 31) (hD : sx_DI n α) (h0 : 0 < k) (hk : k < n) : sx_ch α (α 1 k) (α 2 k) n = nI k := by
  rcases sx_ch_ok (α := α) (p := α 1 k) (c := α 2 k) n hn with ⟨_, b⟩ | ⟨i, a, b, c, d, f⟩
  · exact absurd ⟨rfl, rfl⟩ (b k h0 hk)
  · rw [f, hD i k a b h0 hk c d]
theorem sx_clash {n na L : Nat} {α : sx_A} {w : Int64} {t : Nat → Bool} (h : sx_INV n na L α) (ht : ∀ k, k < n → sx_bt w k = t k) :
    sx_any (fun p => Nat.blt 0 p && (sx_bt w p && (!decide (sx_ch α (α 1 p) (sx_tw (α 2 p)) n = -1) && sx_bt w (sx_ch α (α 1 p) (sx_tw (α 2 p)) n).toNatClampNeg))) n
      = sx_any (fun p => Nat.blt 0 p && sx_any (fun k => Nat.blt 0 k && ((t p && t k) && (decide (α 1 p = α 1 k) && decide (sx_low (α 2 p) = sx_low (α 2 k))))) p) n := by
  have hn := sx_INV_n h
  have hL : sx_LT n α := h.2.2.1
  have hD : sx_DI n α := h.2.2.2.1
  have iff : ∀ a b : Bool, (a = true ↔ b = true) → a = b := fun a b => by cases a <;> cases b <;> simp
  apply iff
  rw [sx_any_t, sx_any_t]
  simp only [Bool.and_eq_true, Bool.not_eq_true', decide_eq_false_iff_not, sx_blt, decide_eq_true_eq]
  constructor
  · rintro ⟨p, hp, p0, b1, b2, b3⟩
    rcases sx_ch_ok (α := α) (p := α 1 p) (c := sx_tw (α 2 p)) n hn with ⟨e, _⟩ | ⟨k, k0, k1, k2, k3, k4⟩
    · exact absurd e b2
    · rw [k4, nI_clamp (by omega)] at b3
      have tw := sx_tw_ok (hL p p0 hp)
      rw [ht p hp] at b1
      rw [ht k k1] at b3
      have hne : k ≠ p := fun z => by subst z; exact tw.2.1 k3.symm
      rcases Nat.lt_or_ge k p with q | q
      · exact ⟨p, hp, p0, sx_any_t.mpr ⟨k, q, by simp only [Bool.and_eq_true, sx_blt, decide_eq_true_eq]; exact ⟨k0, ⟨b1, b3⟩, k2.symm, by rw [k3, tw.2.2]⟩⟩⟩
      · exact ⟨k, k1, k0, sx_any_t.mpr ⟨p, by omega, by simp only [Bool.and_eq_true, sx_blt, decide_eq_true_eq]; exact ⟨p0, ⟨b3, b1⟩, k2, by rw [k3, tw.2.2]⟩⟩⟩
  · rintro ⟨p, hp, p0, e⟩
    obtain ⟨k, k1, e⟩ := sx_any_t.mp e
    simp only [Bool.and_eq_true, sx_blt, decide_eq_true_eq] at e
    obtain ⟨k0, ⟨b1, b2⟩, e1, e2⟩ := e
    have hk : k < n := by omega
    rcases sx_low_ok (hL p p0 hp) (hL k k0 hk) e2 with q | q
    · have := hD p k p0 hp k0 hk e1 q
      omega
    · have hc := sx_ch_at hn hD k0 hk
      rw [← e1, q] at hc
      refine ⟨p, hp, p0, by rw [ht p hp]; exact b1, ?_, ?_⟩
      · rw [hc]; exact sx_nI_m1 (by omega)
      · rw [hc, nI_clamp (by omega), ht k hk]; exact b2
/-- the letters in a folder -/
theorem sx_list_q {n na L : Nat} {α : sx_A} {p : Int32} {c : Nat} {t : Nat → Bool} (h : sx_INV n na L α) :
    sx_any (fun k => Nat.blt 0 k && ((decide (α 1 k = p) && decide (α 2 k = nI c)) && t k)) n = (!decide (sx_ch α p (nI c) n = -1) && t (sx_ch α p (nI c) n).toNatClampNeg) := by
  have hn := sx_INV_n h
  have hD : sx_DI n α := h.2.2.2.1
  rcases sx_ch_ok (α := α) (p := p) (c := nI c) n hn with ⟨e, b⟩ | ⟨k, k0, k1, k2, k3, k4⟩
  · rw [e, decide_eq_true rfl, Bool.not_true, Bool.false_and, sx_any_f]
    intro k hk
    by_cases z : 0 < k
    · have := b k z hk
      by_cases y : α 1 k = p
      · have : ¬ α 2 k = nI c := fun x => this ⟨y, x⟩
        simp [this]
      · simp [y]
    · simp [sx_blt, z]
  · rw [k4, decide_eq_false (sx_nI_m1 (by omega)), nI_clamp (by omega), Bool.not_false, Bool.true_and]
    cases e : t k with
    | true => exact sx_any_t.mpr ⟨k, k1, by simp [sx_blt, k0, k2, k3, e]⟩
    | false =>
      rw [sx_any_f]
      intro i hi
      by_cases z : (0 < i ∧ α 1 i = p) ∧ α 2 i = nI c
      · have := hD i k z.1.1 hi k0 k1 (z.1.2.trans k2.symm) (z.2.trans k3.symm)
        rw [this, e, Bool.and_false, Bool.and_false]
      · by_cases y : 0 < i <;> by_cases x : α 1 i = p <;> by_cases u : α 2 i = nI c <;> simp [sx_blt, y, x, u] <;> exact absurd ⟨⟨y, x⟩, u⟩ z
