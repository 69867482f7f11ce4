/-! What always holds of the tables. -/
def sx_ACT (n L : Nat) (α : sx_A) (a : Nat) : Prop :=
  (∃ d, d ≤ 12 ∧ α 4 a = nI d ∧ ∀ k, k < d → ∃ p, 1 ≤ p ∧ p < n ∧ α 5 (12 * a + k) = nI p) ∧
  (∀ k, k < 12 → ∃ b, α 11 (12 * a + k) = sx_bI b) ∧
  (∃ o, o ≤ L ∧ α 6 a = nI o) ∧
  (∃ t, t ≤ 60 ∧ α 8 a = nI t ∧ (∀ k, k < t → ∃ p, p < n ∧ α 9 (60 * a + k) = nI p) ∧ ∀ i k, i < t → k < t → α 9 (60 * a + i) = α 9 (60 * a + k) → i = k) ∧
  (∀ j, j < 60 → (α 10 (60 * a + j) < 0 → ∃ q, q < n ∧ α 10 (60 * a + j) = -1 - nI q) ∧ (j = 0 ∨ n ≤ j → α 10 (60 * a + j) = 0)) ∧
  (∃ b, α 12 a = sx_bI b) ∧ (∃ b, α 13 a = sx_bI b) ∧ ∃ b, α 14 a = sx_bI b
def sx_FR (α : sx_A) (a : Nat) : Prop :=
  (α 4 a = 0 ∧ α 6 a = 0 ∧ α 7 a = 0 ∧ α 8 a = 0 ∧ α 12 a = 0 ∧ α 13 a = 0 ∧ α 14 a = 0) ∧ (∀ k, k < 12 → α 5 (12 * a + k) = 0 ∧ α 11 (12 * a + k) = 0) ∧ ∀ j, j < 60 → α 9 (60 * a + j) = 0 ∧ α 10 (60 * a + j) = 0
/-- the two tables say the same of an action -/
def sx_AG (α α' : sx_A) (a : Nat) : Prop :=
  (α' 4 a = α 4 a ∧ α' 6 a = α 6 a ∧ α' 7 a = α 7 a ∧ α' 8 a = α 8 a ∧ α' 12 a = α 12 a ∧ α' 13 a = α 13 a ∧ α' 14 a = α 14 a) ∧ (∀ k, k < 12 → α' 5 (12 * a + k) = α 5 (12 * a + k) ∧ α' 11 (12 * a + k) = α 11 (12 * a + k)) ∧ ∀ j, j < 60 → α' 9 (60 * a + j) = α 9 (60 * a + j) ∧ α' 10 (60 * a + j) = α 10 (60 * a + j)
def sx_LT (n : Nat) (α : sx_A) : Prop := ∀ k, 1 ≤ k → k < n → sx_isL (α 2 k) = true
def sx_DI (n : Nat) (α : sx_A) : Prop := ∀ i k, 1 ≤ i → i < n → 1 ≤ k → k < n → α 1 i = α 1 k → α 2 i = α 2 k → i = k
def sx_SR (n : Nat) (s : Nat → Int32) : Prop := (∀ j, ¬ s j < 0) ∧ s 0 = 0 ∧ ∀ j, n ≤ j → s j = 0
def sx_INV (n na L : Nat) (α : sx_A) : Prop := ((1 ≤ n ∧ n ≤ 60) ∧ na ≤ 10 ∧ 1 ≤ L ∧ L ≤ 500) ∧ sx_PO n (α 1) ∧ sx_LT n α ∧ sx_DI n α ∧ sx_SR n (α 3) ∧ (∀ a, a < 10 → sx_ACT n L α a) ∧ ∀ a, na ≤ a → a < 10 → sx_FR α a
theorem sx_ACT_ag {n n' L : Nat} {α α' : sx_A} {a : Nat} (hn : n ≤ n') (hw : ∀ j, j < 60 → n' ≤ j → α 10 (60 * a + j) = 0) (g : sx_AG α α' a) (h : sx_ACT n L α a) : sx_ACT n' L α' a := by
  obtain ⟨⟨g4, g6, g7, g8, g12, g13, g14⟩, gk, gj⟩ := g
  obtain ⟨⟨d, d1, d2, d3⟩, hk, ⟨o, o1, o2⟩, ⟨t, t1, t2, t3, t4⟩, hj, ⟨b1, e1⟩, ⟨b2, e2⟩, ⟨b3, e3⟩⟩ := h
  refine ⟨⟨d, d1, by rw [g4, d2], fun k hk => ?_⟩, fun k h => ?_, ⟨o, o1, by rw [g6, o2]⟩, ⟨t, t1, by rw [g8, t2], fun k h => ?_, fun i k hi hk e => ?_⟩, fun j h => ⟨fun z => ?_, fun z => ?_⟩, ⟨b1, by rw [g12, e1]⟩, ⟨b2, by rw [g13, e2]⟩, ⟨b3, by rw [g14, e3]⟩⟩
  · obtain ⟨p, p1, p2, p3⟩ := d3 k hk
    exact ⟨p, p1, by omega, by rw [(gk k (by omega)).1, p3]⟩
  · obtain ⟨b, e⟩ := hk k h
    exact ⟨b, by rw [(gk k h).2, e]⟩
  · obtain ⟨p, p1, p2⟩ := t3 k h
    exact ⟨p, by omega, by rw [(gj k (by omega)).1, p2]⟩
  · rw [(gj i (by omega)).1, (gj k (by omega)).1] at e
    exact t4 i k hi hk e
  · rw [(gj j h).2] at z ⊢
    obtain ⟨q, q1, q2⟩ := (hj j h).1 z
    exact ⟨q, by omega, q2⟩
  · rw [(gj j h).2]
    rcases z with z | z
    · exact (hj j h).2 (Or.inl z)
    · exact hw j h z
theorem sx_FR_ag {α α' : sx_A} {a : Nat} (g : sx_AG α α' a) (h : sx_FR α a) : sx_FR α' a := by
  obtain ⟨⟨g4, g6, g7, g8, g12, g13, g14⟩, gk, gj⟩ := g
  obtain ⟨⟨h4, h6, h7, h8, h12, h13, h14⟩, hk, hj⟩ := h
  exact ⟨⟨by rw [g4, h4], by rw [g6, h6], by rw [g7, h7], by rw [g8, h8], by rw [g12, h12], by rw [g13, h13], by rw [g14, h14]⟩, fun k h => ⟨by rw [(gk k h).1, (hk k h).1], by rw [(gk k h).2, (hk k h).2]⟩, fun j h => ⟨by rw [(gj j h).1, (hj j h).1], by rw [(gj j h).2, (hj j h).2]⟩⟩
theorem sx_AG_rf (α : sx_A) (a : Nat) : sx_AG α α a := ⟨⟨rfl, rfl, rfl, rfl, rfl, rfl, rfl⟩, fun _ _ => ⟨rfl, rfl⟩, fun _ _ => ⟨rfl, rfl⟩⟩
theorem sx_AG_tr {α β γ : sx_A} {a : Nat} (g : sx_AG α β a) (h : sx_AG β γ a) : sx_AG α γ a := by
  obtain ⟨⟨g4, g6, g7, g8, g12, g13, g14⟩, gk, gj⟩ := g
  obtain ⟨⟨h4, h6, h7, h8, h12, h13, h14⟩, hk, hj⟩ := h
  exact ⟨⟨h4.trans g4, h6.trans g6, h7.trans g7, h8.trans g8, h12.trans g12, h13.trans g13, h14.trans g14⟩, fun k z => ⟨(hk k z).1.trans (gk k z).1, (hk k z).2.trans (gk k z).2⟩, fun j z => ⟨(hj j z).1.trans (gj j z).1, (hj j z).2.trans (gj j z).2⟩⟩
/-- a write at one place of one table: which places of an action it leaves -/
theorem sx_AG_st {α : sx_A} {i x a : Nat} {v : Int32} (h1 : i = 4 ∨ i = 6 ∨ i = 7 ∨ i = 8 ∨ i = 12 ∨ i = 13 ∨ i = 14 → x ≠ a) (h2 : i = 5 ∨ i = 11 → ∀ k, k < 12 → x ≠ 12 * a + k) (h3 : i = 9 ∨ i = 10 → ∀ j, j < 60 → x ≠ 60 * a + j) : sx_AG α (sx_st α i x v) a := by
  have key : ∀ (r q : Nat), (i = r → x ≠ q) → sx_st α i x v r q = α r q := by
    intro r q h
    by_cases e : r = i
    · subst e
      rw [sx_st_eq]
      exact pk_un (fun z => h rfl z.symm)
    · rw [sx_st_ne e]
  exact ⟨⟨key 4 a (fun e => h1 (by omega)), key 6 a (fun e => h1 (by omega)), key 7 a (fun e => h1 (by omega)), key 8 a (fun e => h1 (by omega)), key 12 a (fun e => h1 (by omega)), key 13 a (fun e => h1 (by omega)), key 14 a (fun e => h1 (by omega))⟩,
    fun k h => ⟨key 5 _ (fun e => h2 (by omega) k h), key 11 _ (fun e => h2 (by omega) k h)⟩, fun j h => ⟨key 9 _ (fun e => h3 (by omega) j h), key 10 _ (fun e => h3 (by omega) j h)⟩⟩
/-- a write of action b's leaves the others -/
theorem sx_AG_one {α : sx_A} {i x a b : Nat} {v : Int32} (hab : a ≠ b) (h1 : i = 4 ∨ i = 6 ∨ i = 7 ∨ i = 8 ∨ i = 12 ∨ i = 13 ∨ i = 14 → x = b) (h2 : i = 5 ∨ i = 11 → ∃ k, k < 12 ∧ x = 12 * b + k) (h3 : i = 9 ∨ i = 10 → ∃ j, j < 60 ∧ x = 60 * b + j) : sx_AG α (sx_st α i x v) a := by
  refine sx_AG_st (fun e => ?_) (fun e k hk => ?_) (fun e j hj => ?_)
  · have q := h1 e; clear h1 h2 h3; omega
  · obtain ⟨z, z1, z2⟩ := h2 e; clear h1 h2 h3; omega
  · obtain ⟨z, z1, z2⟩ := h3 e; clear h1 h2 h3; omega
theorem sx_row_eq {α : sx_A} {i : Nat} {f : Nat → Int32} : sx_row α i f i = f := by
  have h : Nat.beq i i = true := Nat.beq_refl i
  simp only [sx_row, h, cond_true]
theorem sx_row_ne {α : sx_A} {i k : Nat} {f : Nat → Int32} (h : k ≠ i) : sx_row α i f k = α k := by
  have hb : Nat.beq k i = false := by
    cases hq : Nat.beq k i with
    | false => rfl
    | true => exact absurd (Nat.eq_of_beq_eq_true hq) h
  simp only [sx_row, hb, cond_false]
/-- the parts that only path and the source's calls change are as they were -/
theorem sx_INV_act {n na L : Nat} {α α' : sx_A} {a : Nat} (h : sx_INV n na L α) (ha : a < na) (e1 : α' 1 = α 1) (e2 : α' 2 = α 2) (e3 : sx_SR n (α' 3)) (g : ∀ b, b ≠ a → b < 10 → sx_AG α α' b) (hA : sx_ACT n L α' a) : sx_INV n na L α' := by
  obtain ⟨h0, h1, h2, h3, h4, h5, h6⟩ := h
  refine ⟨h0, by rw [e1]; exact h1, fun k a b => by rw [e2]; exact h2 k a b, fun i k a b c d x y => by rw [e1] at x; rw [e2] at y; exact h3 i k a b c d x y, e3, fun b hb => ?_, fun b hb hb2 => sx_FR_ag (g b (by omega) hb2) (h6 b hb hb2)⟩
  by_cases e : b = a
  · subst e; exact hA
  · exact sx_ACT_ag (Nat.le_refl n) (fun j z1 z2 => ((h5 b hb).2.2.2.2.1 j z1).2 (Or.inr z2)) (g b e hb) (h5 b hb)
