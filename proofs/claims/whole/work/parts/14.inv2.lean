/-! The invariant is kept by every call. -/
theorem sx_at {α : sx_A} {i x : Nat} {v : Int32} : sx_st α i x v i x = v := by rw [sx_st_eq]; exact pk_us
theorem sx_off {α : sx_A} {i x y : Nat} {v : Int32} (h : y ≠ x) : sx_st α i x v i y = α i y := by rw [sx_st_eq]; exact pk_un h
theorem sx_ACT_6 {n L o : Nat} {α : sx_A} {a : Nat} (h : sx_ACT n L α a) (ho : o ≤ L) : sx_ACT n L (sx_st α 6 a (nI o)) a := ⟨h.1, h.2.1, ⟨o, ho, sx_at⟩, h.2.2.2.1, h.2.2.2.2.1, h.2.2.2.2.2.1, h.2.2.2.2.2.2.1, h.2.2.2.2.2.2.2⟩
theorem sx_ACT_7 {n L : Nat} {α : sx_A} {a : Nat} {v : Int32} (h : sx_ACT n L α a) : sx_ACT n L (sx_st α 7 a v) a := ⟨h.1, h.2.1, h.2.2.1, h.2.2.2.1, h.2.2.2.2.1, h.2.2.2.2.2.1, h.2.2.2.2.2.2.1, h.2.2.2.2.2.2.2⟩
theorem sx_ACT_12 {n L : Nat} {α : sx_A} {a : Nat} {b : Bool} (h : sx_ACT n L α a) : sx_ACT n L (sx_st α 12 a (sx_bI b)) a := ⟨h.1, h.2.1, h.2.2.1, h.2.2.2.1, h.2.2.2.2.1, ⟨b, sx_at⟩, h.2.2.2.2.2.2.1, h.2.2.2.2.2.2.2⟩
theorem sx_ACT_13 {n L : Nat} {α : sx_A} {a : Nat} {b : Bool} (h : sx_ACT n L α a) : sx_ACT n L (sx_st α 13 a (sx_bI b)) a := ⟨h.1, h.2.1, h.2.2.1, h.2.2.2.1, h.2.2.2.2.1, h.2.2.2.2.2.1, ⟨b, sx_at⟩, h.2.2.2.2.2.2.2⟩
theorem sx_ACT_14 {n L : Nat} {α : sx_A} {a : Nat} {b : Bool} (h : sx_ACT n L α a) : sx_ACT n L (sx_st α 14 a (sx_bI b)) a := ⟨h.1, h.2.1, h.2.2.1, h.2.2.2.1, h.2.2.2.2.1, h.2.2.2.2.2.1, h.2.2.2.2.2.2.1, ⟨b, sx_at⟩⟩
theorem sx_ACT_80 {n L : Nat} {α : sx_A} {a : Nat} (h : sx_ACT n L α a) : sx_ACT n L (sx_st α 8 a 0) a := ⟨h.1, h.2.1, h.2.2.1, ⟨0, by omega, sx_at, fun k hk => absurd hk (Nat.not_lt_zero k), fun i k hi => absurd hi (Nat.not_lt_zero i)⟩, h.2.2.2.2.1, h.2.2.2.2.2.1, h.2.2.2.2.2.2.1, h.2.2.2.2.2.2.2⟩
theorem sx_ACT_10 {n L p : Nat} {α : sx_A} {a : Nat} {v : Int32} (h : sx_ACT n L α a) (hp : 1 ≤ p) (hpn : p < n) (hv : v < 0 → ∃ q, q < n ∧ v = -1 - nI q) : sx_ACT n L (sx_st α 10 (60 * a + p) v) a := by
  refine ⟨h.1, h.2.1, h.2.2.1, h.2.2.2.1, fun j hj => ?_, h.2.2.2.2.2.1, h.2.2.2.2.2.2.1, h.2.2.2.2.2.2.2⟩
  by_cases e : j = p
  · subst e
    rw [sx_at]
    exact ⟨hv, fun z => by omega⟩
  · rw [sx_off (show 60 * a + j ≠ 60 * a + p by omega)]
    exact h.2.2.2.2.1 j hj
theorem sx_nI_inj {i k : Nat} (hi : i < 2 ^ 31) (hk : k < 2 ^ 31) (h : nI i = nI k) : i = k := (nI_eq hi hk).mp h
/-- so many different numbers below m are at most m -/
theorem sx_pigeon : ∀ (m t : Nat) (f : Nat → Nat), (∀ i, i < t → f i < m) → (∀ i k, i < t → k < t → f i = f k → i = k) → t ≤ m := by
  intro m
  induction m with
  | zero =>
    intro t f h _
    cases t with
    | zero => exact Nat.le_refl 0
    | succ t => exact absurd (h 0 (by omega)) (Nat.not_lt_zero _)
  | succ m ih =>
    intro t f h hi
    by_cases e : ∃ k, k < t ∧ f k = m
    · obtain ⟨k, k1, k2⟩ := e
      cases t with
      | zero => omega
      | succ t =>
        have := ih t (fun i => if i < k then f i else f (i + 1)) (fun i hit => by
            by_cases c : i < k
            · simp only [c, if_true]
              have a1 := h i (by omega)
              have a2 : f i ≠ m := fun z => by have := hi i k (by omega) k1 (z.trans k2.symm); omega
              omega
            · simp only [c, if_false]
              have a1 := h (i + 1) (by omega)
              have a2 : f (i + 1) ≠ m := fun z => by have := hi (i + 1) k (by omega) k1 (z.trans k2.symm); omega
              omega) (fun i j hit hjt z => by
            by_cases c : i < k <;> by_cases d : j < k <;> simp only [c, d, if_true, if_false] at z
            · exact hi i j (by omega) (by omega) z
            · have := hi i (j + 1) (by omega) (by omega) z; omega
            · have := hi (i + 1) j (by omega) (by omega) z; omega
            · have := hi (i + 1) (j + 1) (by omega) (by omega) z; omega)
        omega
    · have := ih t f (fun i hit => by
        have a1 := h i hit
        have a2 : f i ≠ m := fun z => e ⟨i, hit, z⟩
        omega) hi
      omega
/-- a path that isn't noted yet can be noted: there is room -/
theorem sx_room {n L : Nat} {α : sx_A} {a p : Nat} (hn : n ≤ 60) (h : sx_ACT n L α a) (hp : p < n) (hq : sx_nt α a p = false) : sx_tN α a < 60 := by
  obtain ⟨t, t1, t2, t3, t4⟩ := h.2.2.2.1
  have ht : sx_tN α a = t := by unfold sx_tN; rw [t2, nI_clamp (by omega)]
  unfold sx_nt at hq
  rw [ht] at hq ⊢
  rw [sx_any_f] at hq
  have := sx_pigeon n (t + 1) (fun i => if i < t then (α 9 (60 * a + i)).toNatClampNeg else p) (fun i hi => by
      by_cases c : i < t
      · simp only [c, if_true]
        obtain ⟨q, q1, q2⟩ := t3 i c
        rw [q2, nI_clamp (by omega)]; exact q1
      · simp only [c, if_false]; exact hp) (fun i k hi hk z => by
      by_cases c : i < t <;> by_cases d : k < t <;> simp only [c, d, if_true, if_false] at z
      · obtain ⟨q, q1, q2⟩ := t3 i c
        obtain ⟨r, r1, r2⟩ := t3 k d
        rw [q2, r2, nI_clamp (by omega), nI_clamp (by omega)] at z
        exact t4 i k c d (by rw [q2, r2, z])
      · obtain ⟨q, q1, q2⟩ := t3 i c
        rw [q2, nI_clamp (by omega)] at z
        have := hq i c
        rw [q2, z] at this
        simp at this
      · obtain ⟨q, q1, q2⟩ := t3 k d
        rw [q2, nI_clamp (by omega)] at z
        have := hq k d
        rw [q2, ← z] at this
        simp at this
      · omega)
  omega
theorem sx_ACT_9 {n L p : Nat} {α : sx_A} {a : Nat} (hn : n ≤ 60) (h : sx_ACT n L α a) (hp : p < n) (hq : sx_nt α a p = false) : sx_ACT n L (sx_st (sx_st α 9 (60 * a + sx_tN α a) (nI p)) 8 a (α 8 a + 1)) a := by
  have hr := sx_room hn h hp hq
  obtain ⟨t, t1, t2, t3, t4⟩ := h.2.2.2.1
  have ht : sx_tN α a = t := by unfold sx_tN; rw [t2, nI_clamp (by omega)]
  unfold sx_nt at hq
  rw [ht] at hq hr ⊢
  rw [sx_any_f] at hq
  have e9 : ∀ k, (sx_st (sx_st α 9 (60 * a + t) (nI p)) 8 a (α 8 a + 1)) 9 k = sx_st α 9 (60 * a + t) (nI p) 9 k := fun k => rfl
  refine ⟨h.1, h.2.1, h.2.2.1, ⟨t + 1, by omega, by rw [sx_at, t2, nI_1], fun k hk => ?_, fun i k hi hk z => ?_⟩, h.2.2.2.2.1, h.2.2.2.2.2.1, h.2.2.2.2.2.2.1, h.2.2.2.2.2.2.2⟩
  · rw [e9]
    by_cases e : k = t
    · subst e; exact ⟨p, hp, sx_at⟩
    · rw [sx_off (by omega)]; exact t3 k (by omega)
  · rw [e9, e9] at z
    by_cases c : i = t <;> by_cases d : k = t
    · omega
    · subst c
      rw [sx_at, sx_off (by omega)] at z
      have := hq k (by omega)
      rw [← z] at this
      simp at this
    · subst d
      rw [sx_at, sx_off (by omega)] at z
      have := hq i (by omega)
      rw [z] at this
      simp at this
    · rw [sx_off (by omega), sx_off (by omega)] at z
      exact t4 i k (by omega) (by omega) z
theorem sx_INV_n {n na L : Nat} {α : sx_A} (h : sx_INV n na L α) : n < 2 ^ 31 := by have := h.1.1.2; omega
theorem sx_U0 {n : Nat} {par : Nat → Int32} (h : sx_PO n par) (hn : n < 2 ^ 31) {a : Nat} (h0 : 0 < n) (ha : 1 ≤ a) : sx_U par 0 a = false := by
  cases e : sx_U par 0 a with
  | false => rfl
  | true => have := sx_U_le h hn 0 h0 e; omega
theorem sx_dp_ok {n L : Nat} {α : sx_A} {a k : Nat} (hn : n < 2 ^ 31) (h : sx_ACT n L α a) (hk : k < sx_dN α a) : 1 ≤ sx_dp α a k ∧ sx_dp α a k < n ∧ α 5 (12 * a + k) = nI (sx_dp α a k) := by
  obtain ⟨d, d1, d2, d3⟩ := h.1
  have hd : sx_dN α a = d := by unfold sx_dN; rw [d2, nI_clamp (by omega)]
  obtain ⟨p, p1, p2, p3⟩ := d3 k (by omega)
  unfold sx_dp
  rw [p3, nI_clamp (by omega)]
  exact ⟨p1, p2, rfl⟩
theorem sx_dN_ok {n L : Nat} {α : sx_A} {a : Nat} (h : sx_ACT n L α a) : sx_dN α a ≤ 12 ∧ α 4 a = nI (sx_dN α a) := by
  obtain ⟨d, d1, d2, d3⟩ := h.1
  have hd : sx_dN α a = d := by unfold sx_dN; rw [d2, nI_clamp (by omega)]
  rw [hd]; exact ⟨d1, d2⟩
theorem sx_tN_ok {n L : Nat} {α : sx_A} {a : Nat} (h : sx_ACT n L α a) : sx_tN α a ≤ 60 ∧ α 8 a = nI (sx_tN α a) := by
  obtain ⟨d, d1, d2, d3⟩ := h.2.2.2.1
  have hd : sx_tN α a = d := by unfold sx_tN; rw [d2, nI_clamp (by omega)]
  rw [hd]; exact ⟨d1, d2⟩
theorem sx_isD0 {n L : Nat} {α : sx_A} {a : Nat} {o : Bool} (h1 : sx_PO n (α 1)) (hn : n < 2 ^ 31) (h0 : 0 < n) (h : sx_ACT n L α a) : sx_isD α a o 0 = false := by
  unfold sx_isD
  rw [sx_any_f]
  intro k hk
  rw [sx_U0 h1 hn h0 (sx_dp_ok hn h hk).1, Bool.and_false]
theorem sx_ch_ok {α : sx_A} {p c : Int32} : ∀ m, m < 2 ^ 31 → (sx_ch α p c m = -1 ∧ (∀ k, 0 < k → k < m → ¬ (α 1 k = p ∧ α 2 k = c))) ∨ ∃ k, 0 < k ∧ k < m ∧ α 1 k = p ∧ α 2 k = c ∧ sx_ch α p c m = nI k := by
  intro m
  induction m with
  | zero => exact fun _ => Or.inl ⟨rfl, fun k _ h => absurd h (Nat.not_lt_zero k)⟩
  | succ m ih =>
    intro hm
    by_cases e : 0 < m ∧ α 1 m = p ∧ α 2 m = c
    · exact Or.inr ⟨m, e.1, by omega, e.2.1, e.2.2, by simp only [sx_ch, if_pos e]⟩
    · have e2 : sx_ch α p c (m + 1) = sx_ch α p c m := by simp only [sx_ch, if_neg e]
      rw [e2]
      rcases ih (by omega) with ⟨a, b⟩ | ⟨k, a, b, c1, d, f⟩
      · refine Or.inl ⟨a, fun k h1 h2 => ?_⟩
        by_cases q : k = m
        · subst q; exact fun z => e ⟨h1, z⟩
        · exact b k h1 (by omega)
      · exact Or.inr ⟨k, a, by omega, c1, d, f⟩
theorem sx_nI_m1 {k : Nat} (h : k < 2 ^ 31) : nI k ≠ -1 := by
  intro e
  have := congrArg Int32.toInt e
  rw [nI_toInt h] at this
  have h2 : (-1 : Int32).toInt = -1 := by decide
  omega
theorem sx_z0 {n L : Nat} {α : sx_A} {a : Nat} (h1 : sx_PO n (α 1)) (hn : n < 2 ^ 31) (h0 : 0 < n) (h : sx_ACT n L α a) : sx_isW n α a 0 = false := by
  unfold sx_isW
  rw [sx_isD0 h1 hn h0 h, Bool.false_or]
  rcases sx_ch_ok (α := α) (p := 0) (c := 122) n hn with ⟨e, _⟩ | ⟨k, k1, k2, _, _, e⟩
  · have : sx_z n α = -1 := e
    rw [this]; rfl
  · have : sx_z n α = nI k := e
    rw [this, nI_clamp (by omega), sx_U0 h1 hn h0 k1]
    simp
