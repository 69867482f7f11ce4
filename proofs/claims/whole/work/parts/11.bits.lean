/-! Sets of paths as words: bit j of a long. -/
theorem sx_inj {a b : Int64} (h : a.toBitVec = b.toBitVec) : a = b := Int64.toBitVec_inj.mp h
def sx_nat (f : Nat → Bool) : Nat → Nat
  | 0 => 0
  | k + 1 => sx_nat f k ||| (bif f k then 2 ^ k else 0)
theorem sx_nat_tb (f : Nat → Bool) (m j : Nat) : (sx_nat f m).testBit j = (decide (j < m) && f j) := by
  induction m with
  | zero => simp [sx_nat]
  | succ m ih =>
    simp only [sx_nat, Nat.testBit_or, ih]
    by_cases e : j = m
    · subst e
      cases f j <;> simp [Nat.testBit_two_pow]
    · have h1 : (bif f m then 2 ^ m else 0 : Nat).testBit j = false := by
        cases f m <;> simp [Nat.testBit_two_pow, Ne.symm e]
      have h2 : decide (j < m) = decide (j < m + 1) := decide_eq_decide.mpr (by omega)
      rw [h1, Bool.or_false, h2]
def sx_lw (f : Nat → Bool) : Int64 := lN (sx_nat f 64)
def sx_bt (w : Int64) (j : Nat) : Bool := w.toBitVec.getLsbD j
theorem sx_bt_lw {f : Nat → Bool} {j : Nat} (hj : j < 64) : sx_bt (sx_lw f) j = f j := by
  show (BitVec.ofNat 64 (sx_nat f 64)).getLsbD j = f j
  rw [BitVec.getLsbD_ofNat, sx_nat_tb]
  simp [hj]
theorem sx_ext {a b : Int64} (h : ∀ j, j < 64 → sx_bt a j = sx_bt b j) : a = b := sx_inj (BitVec.eq_of_getLsbD_eq h)
theorem sx_lw_of {w : Int64} {f : Nat → Bool} (h : ∀ j, j < 64 → sx_bt w j = f j) : w = sx_lw f := sx_ext fun j hj => by rw [h j hj, sx_bt_lw hj]
theorem sx_lw_congr {f g : Nat → Bool} (h : ∀ j, j < 64 → f j = g j) : sx_lw f = sx_lw g := sx_ext fun j hj => by rw [sx_bt_lw hj, sx_bt_lw hj, h j hj]
theorem sx_bt_and (a b : Int64) (j : Nat) : sx_bt (a &&& b) j = (sx_bt a j && sx_bt b j) := by
  unfold sx_bt
  rw [Int64.toBitVec_and, BitVec.getLsbD_and]
theorem sx_bt_or (a b : Int64) (j : Nat) : sx_bt (a ||| b) j = (sx_bt a j || sx_bt b j) := by
  unfold sx_bt
  rw [Int64.toBitVec_or, BitVec.getLsbD_or]
theorem sx_bt_not (a : Int64) {j : Nat} (hj : j < 64) : sx_bt (a ^^^ (-1)) j = !sx_bt a j := by
  have e : (-1 : Int64).toBitVec = BitVec.allOnes 64 := by decide
  unfold sx_bt
  rw [Int64.toBitVec_xor, e, BitVec.getLsbD_xor, BitVec.getLsbD_allOnes]
  simp [hj]
theorem sx_bt_0 (j : Nat) : sx_bt 0 j = false := by
  have e : (0 : Int64).toBitVec = 0#64 := by decide
  unfold sx_bt
  rw [e, BitVec.getLsbD_zero]
def sx_on (j : Nat) : Int64 := (1 : Int64) <<< ((nI j).toInt64 &&& 63)
theorem sx_sh : ∀ k, k < 64 → ((1 : Int64) <<< ((nI k).toInt64 &&& 63)).toBitVec = BitVec.twoPow 64 k := by decide +kernel
theorem sx_bt_on {i j : Nat} (hi : i < 64) (hj : j < 64) : sx_bt (sx_on j) i = decide (i = j) := by
  unfold sx_bt sx_on
  rw [sx_sh j hj, BitVec.getLsbD_twoPow]
  by_cases e : i = j
  · subst e; simp [hi]
  · have e2 : ¬ j = i := fun h => e h.symm
    simp [e, e2]
theorem sx_w0 {w : Int64} : w = 0 ↔ ∀ j, j < 64 → sx_bt w j = false := by
  constructor
  · intro h j _; rw [h, sx_bt_0]
  · intro h; exact sx_ext fun j hj => by rw [h j hj, sx_bt_0]
theorem sx_wne {w : Int64} (h : ¬ w = 0) : ∃ j, j < 64 ∧ sx_bt w j = true := by
  by_cases e : ∃ j, j < 64 ∧ sx_bt w j = true
  · exact e
  · refine absurd (sx_w0.mpr fun j hj => ?_) h
    cases q : sx_bt w j with
    | false => rfl
    | true => exact absurd ⟨j, hj, q⟩ e
theorem sx_holds {w : Int64} {j : Nat} (hj : j < 64) : w &&& sx_on j = 0 ↔ sx_bt w j = false := by
  rw [sx_w0]
  constructor
  · intro h
    have := h j hj
    rw [sx_bt_and, sx_bt_on hj hj] at this
    simpa using this
  · intro h i hi
    rw [sx_bt_and, sx_bt_on hi hj]
    by_cases e : i = j
    · subst e; rw [h]; rfl
    · simp [e]
theorem sx_cmp0 {x y : Int64} : lg_cmp x y = 0 ↔ x = y := lg_cmp_eq x y
