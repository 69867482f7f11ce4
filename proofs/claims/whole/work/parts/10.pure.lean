/-! Pure words: booleans as ints, ranges, 'any', counting; the state of the system as a table of ints. -/
abbrev sx_A : Type := Nat → Nat → Int32
def sx_st (α : sx_A) (i j : Nat) (v : Int32) : sx_A := fun k => bif Nat.beq k i then upd (α i) j v else α k
theorem sx_st_eq {α : sx_A} {i j : Nat} {v : Int32} : sx_st α i j v i = upd (α i) j v := by
  have h : Nat.beq i i = true := Nat.beq_refl i
  simp only [sx_st, h, cond_true]
theorem sx_st_ne {α : sx_A} {i j k : Nat} {v : Int32} (h : k ≠ i) : sx_st α i j v k = α k := by
  have hb : Nat.beq k i = false := by
    cases hq : Nat.beq k i with
    | false => rfl
    | true => exact absurd (Nat.eq_of_beq_eq_true hq) h
  simp only [sx_st, hb, cond_false]
def sx_bI (b : Bool) : Int32 := bif b then 1 else 0
theorem sx_bI0 {b : Bool} (h : sx_bI b = 0) : b = false := by
  cases b with
  | false => rfl
  | true => exact absurd h (by decide)
theorem sx_bIn {b : Bool} (h : ¬ sx_bI b = 0) : b = true := by
  cases b with
  | true => rfl
  | false => exact absurd rfl h
theorem sx_bI0' {b : Bool} : sx_bI b = 0 ↔ b = false := ⟨sx_bI0, fun h => by rw [h]; rfl⟩
theorem sx_bI1' {b : Bool} : sx_bI b = 1 ↔ b = true := ⟨fun h => by cases b with | true => rfl | false => exact absurd h (by decide), fun h => by rw [h]; rfl⟩
theorem sx_bI_inj {a b : Bool} (h : sx_bI a = sx_bI b) : a = b := by cases a <;> cases b <;> first | rfl | exact absurd h (by decide)
theorem sx_bI_nar (b : Bool) : narrow .boolean (.int (sx_bI b)) = .int (sx_bI b) := by cases b <;> rfl
theorem sx_bI_fit (b : Bool) : fits .boolean (.int (sx_bI b)) = true := by cases b <;> rfl
theorem sx_bI_vnar (b : Bool) : vp_nar .boolean (sx_bI b) = sx_bI b := by cases b <;> rfl
def sx_has (n : Nat) (p : Int32) : Bool := decide (¬ p < 0) && decide (p < nI n)
theorem sx_has_t {n : Nat} {p : Int32} (hn : n < 2 ^ 31) (h : sx_has n p = true) : ∃ j : Nat, j < n ∧ p = nI j := by
  simp only [sx_has, Bool.and_eq_true, decide_eq_true_eq] at h
  obtain ⟨j, hj, rfl⟩ := nI_of h.1
  exact ⟨j, (nI_ltI hj hn).mp h.2, rfl⟩
theorem sx_has_nI {n j : Nat} (hn : n < 2 ^ 31) (h : j < n) : sx_has n (nI j) = true := by
  simp only [sx_has, Bool.and_eq_true, decide_eq_true_eq]
  exact ⟨nI_pos (by omega), (nI_ltI (by omega) hn).mpr h⟩
def sx_any (f : Nat → Bool) : Nat → Bool
  | 0 => false
  | k + 1 => sx_any f k || f k
theorem sx_any_t {f : Nat → Bool} {m : Nat} : sx_any f m = true ↔ ∃ k, k < m ∧ f k = true := by
  induction m with
  | zero => exact ⟨fun h => (by cases h), fun ⟨k, h, _⟩ => absurd h (Nat.not_lt_zero k)⟩
  | succ m ih =>
    simp only [sx_any, Bool.or_eq_true, ih]
    constructor
    · rintro (⟨k, h1, h2⟩ | h)
      · exact ⟨k, by omega, h2⟩
      · exact ⟨m, by omega, h⟩
    · rintro ⟨k, h1, h2⟩
      by_cases e : k = m
      · subst e; exact Or.inr h2
      · exact Or.inl ⟨k, by omega, h2⟩
theorem sx_any_f {f : Nat → Bool} {m : Nat} : sx_any f m = false ↔ ∀ k, k < m → f k = false := by
  constructor
  · intro h k hk
    cases e : f k with
    | false => rfl
    | true => rw [sx_any_t.mpr ⟨k, hk, e⟩] at h; cases h
  · intro h
    cases e : sx_any f m with
    | false => rfl
    | true =>
      obtain ⟨k, h1, h2⟩ := sx_any_t.mp e
      rw [h k h1] at h2; cases h2
theorem sx_any_congr {f g : Nat → Bool} {m : Nat} (h : ∀ k, k < m → f k = g k) : sx_any f m = sx_any g m := by
  induction m with
  | zero => rfl
  | succ m ih => simp only [sx_any]; rw [ih (fun k hk => h k (by omega)), h m (by omega)]
theorem sx_any_mono {f : Nat → Bool} {m k : Nat} (hk : m ≤ k) (h : sx_any f m = true) : sx_any f k = true := by
  obtain ⟨j, h1, h2⟩ := sx_any_t.mp h
  exact sx_any_t.mpr ⟨j, by omega, h2⟩
def sx_cnt (f : Nat → Bool) : Nat → Nat
  | 0 => 0
  | k + 1 => sx_cnt f k + (bif f k then 1 else 0)
theorem sx_cnt_le (f : Nat → Bool) (m : Nat) : sx_cnt f m ≤ m := by
  induction m with
  | zero => exact Nat.le_refl 0
  | succ m ih => simp only [sx_cnt]; cases f m <;> simp <;> omega
theorem sx_cnt_congr {f g : Nat → Bool} {m : Nat} (h : ∀ k, k < m → f k = g k) : sx_cnt f m = sx_cnt g m := by
  induction m with
  | zero => rfl
  | succ m ih => simp only [sx_cnt]; rw [ih (fun k hk => h k (by omega)), h m (by omega)]
theorem sx_cnt_0 {f : Nat → Bool} {m k : Nat} (hk : m ≤ k) (h : ∀ j, m ≤ j → j < k → f j = false) : sx_cnt f k = sx_cnt f m := by
  induction k with
  | zero => rw [show m = 0 by omega]
  | succ k ih =>
    by_cases e : m = k + 1
    · rw [e]
    · simp only [sx_cnt]
      rw [ih (by omega) (fun j a b => h j a (by omega)), h k (by omega) (by omega)]
      rfl
/-! The tree: PATH p is UNDER a. -/
def sx_un (par : Nat → Int32) (a : Nat) : Nat → Nat → Bool
  | 0, p => Nat.beq p a
  | f + 1, p => Nat.beq p a || (Nat.blt 0 p && sx_un par a f (par p).toNatClampNeg)
def sx_U (par : Nat → Int32) (p a : Nat) : Bool := sx_un par a p p
def sx_PO (n : Nat) (par : Nat → Int32) : Prop := par 0 = -1 ∧ ∀ k, 1 ≤ k → k < n → ∃ j, j < k ∧ par k = nI j
theorem sx_un_fuel {n : Nat} {par : Nat → Int32} {a : Nat} (h : sx_PO n par) (hn : n < 2 ^ 31) : ∀ p, p < n → ∀ f, p ≤ f → sx_un par a f p = sx_un par a p p := by
  intro p
  induction p using Nat.strongRecOn with
  | ind p ih =>
    intro hp f hf
    cases p with
    | zero =>
      cases f with
      | zero => rfl
      | succ f => simp [sx_un, Nat.blt, Nat.ble]
    | succ p =>
      cases f with
      | zero => omega
      | succ f =>
        obtain ⟨j, h1, h2⟩ := h.2 (p + 1) (by omega) hp
        simp only [sx_un]
        rw [h2, nI_clamp (by omega), ih j h1 (by omega) f (by omega), ih j h1 (by omega) p (by omega)]
theorem sx_U_0 (par : Nat → Int32) (a : Nat) : sx_U par 0 a = Nat.beq 0 a := rfl
theorem sx_U_step {n : Nat} {par : Nat → Int32} {p j a : Nat} (h : sx_PO n par) (hn : n < 2 ^ 31) (hp : 1 ≤ p) (hpn : p < n) (hj : j < p) (e : par p = nI j) : sx_U par p a = (Nat.beq p a || sx_U par j a) := by
  cases p with
  | zero => omega
  | succ p =>
    have hb : Nat.blt 0 (p + 1) = true := by simp [Nat.blt, Nat.ble]
    simp only [sx_U, sx_un]
    rw [e, nI_clamp (by omega), hb, Bool.true_and, sx_un_fuel h hn j (by omega) p (by omega)]
theorem sx_U_self (par : Nat → Int32) (p : Nat) : sx_U par p p = true := by
  cases p with
  | zero => rfl
  | succ p => simp [sx_U, sx_un]
theorem sx_U_le {n : Nat} {par : Nat → Int32} {a : Nat} (h : sx_PO n par) (hn : n < 2 ^ 31) : ∀ p, p < n → sx_U par p a = true → a ≤ p := by
  intro p
  induction p using Nat.strongRecOn with
  | ind p ih =>
    intro hp hu
    cases p with
    | zero =>
      rw [sx_U_0] at hu
      have := Nat.eq_of_beq_eq_true hu
      omega
    | succ p =>
      obtain ⟨j, h1, h2⟩ := h.2 (p + 1) (by omega) hp
      rw [sx_U_step h hn (by omega) hp h1 h2, Bool.or_eq_true] at hu
      rcases hu with hu | hu
      · have := Nat.eq_of_beq_eq_true hu
        omega
      · have := ih j h1 (by omega) hu
        omega
/-- a new path leaves the old ones as they are -/
theorem sx_un_old {n : Nat} {par par' : Nat → Int32} {a : Nat} (h : sx_PO n par) (hn : n < 2 ^ 31) (he : ∀ k, k < n → par' k = par k) : ∀ p, p < n → ∀ f, p ≤ f → sx_un par' a f p = sx_un par a f p := by
  intro p
  induction p using Nat.strongRecOn with
  | ind p ih =>
    intro hp f hf
    cases f with
    | zero => rfl
    | succ f =>
      cases p with
      | zero => simp [sx_un, Nat.blt, Nat.ble]
      | succ p =>
        obtain ⟨j, h1, h2⟩ := h.2 (p + 1) (by omega) hp
        simp only [sx_un]
        rw [he (p + 1) hp, h2, nI_clamp (by omega), ih j h1 (by omega) f (by omega)]
theorem sx_U_old {n : Nat} {par par' : Nat → Int32} {p a : Nat} (h : sx_PO n par) (hn : n < 2 ^ 31) (he : ∀ k, k < n → par' k = par k) (hp : p < n) : sx_U par' p a = sx_U par p a := sx_un_old h hn he p hp p (Nat.le_refl p)
