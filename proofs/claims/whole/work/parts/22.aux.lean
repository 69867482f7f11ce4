/-! Small rows that the walks use. -/
theorem sx_ch_pos {n : Nat} {α : sx_A} {p c : Int32} (hn : n < 2 ^ 31) (h : ¬ sx_ch α p c n = -1) : ∃ k, 0 < k ∧ k < n ∧ sx_ch α p c n = nI k := by
  rcases sx_ch_ok (α := α) (p := p) (c := c) n hn with ⟨e, _⟩ | ⟨k, a, b, _, _, f⟩
  · exact absurd e h
  · exact ⟨k, a, b, f⟩
theorem sx_above_t {n i : Nat} {par : Nat → Int32} {ab un : Nat → Int64} {w all : Int64} (h : sx_RP n par ab un) (hi : i < n) (hw : sx_bt w i = true) (hJ : ∀ q, q < 64 → sx_bt all q = sx_any (fun k => sx_bt w k && sx_U par k q) i) : ∀ q, q < 64 → sx_bt (all ||| ab i) q = sx_any (fun k => sx_bt w k && sx_U par k q) (i + 1) := fun q hq => by
  rw [sx_bt_or, hJ q hq, h.1 i hi q hq]
  simp only [sx_any, hw, Bool.true_and]
theorem sx_above_f {i : Nat} {par : Nat → Int32} {w all : Int64} (hw : sx_bt w i = false) (hJ : ∀ q, q < 64 → sx_bt all q = sx_any (fun k => sx_bt w k && sx_U par k q) i) : ∀ q, q < 64 → sx_bt all q = sx_any (fun k => sx_bt w k && sx_U par k q) (i + 1) := fun q hq => by
  rw [hJ q hq]
  simp only [sx_any, hw, Bool.false_and, Bool.or_false]
def sx_clF (n : Nat) (α : sx_A) (w : Int64) : Nat → Bool := fun p => Nat.blt 0 p && (sx_bt w p && (!decide (sx_ch α (α 1 p) (sx_tw (α 2 p)) n = -1) && sx_bt w (sx_ch α (α 1 p) (sx_tw (α 2 p)) n).toNatClampNeg))
theorem sx_clF_t {n i k : Nat} {α : sx_A} {w : Int64} (hn : n < 2 ^ 31) (hi : 0 < i) (h1 : sx_bt w i = true) (hk : k < n) (ek : sx_ch α (α 1 i) (sx_tw (α 2 i)) n = nI k) (h2 : sx_bt w k = true) : sx_clF n α w i = true := by
  unfold sx_clF
  rw [ek, nI_clamp (by omega), h1, h2, sx_blt, decide_eq_true hi, decide_eq_false (sx_nI_m1 (by omega))]
  rfl
theorem sx_clF_f1 {n i : Nat} {α : sx_A} {w : Int64} (h : sx_bt w i = false) : sx_clF n α w i = false := by unfold sx_clF; rw [h]; simp
theorem sx_clF_f2 {n i : Nat} {α : sx_A} {w : Int64} (h : sx_ch α (α 1 i) (sx_tw (α 2 i)) n = -1) : sx_clF n α w i = false := by unfold sx_clF; rw [h]; simp
theorem sx_clF_f3 {n i k : Nat} {α : sx_A} {w : Int64} (hn : n < 2 ^ 31) (hk : k < n) (ek : sx_ch α (α 1 i) (sx_tw (α 2 i)) n = nI k) (h : sx_bt w k = false) : sx_clF n α w i = false := by
  unfold sx_clF
  rw [ek, nI_clamp (by omega), h]; simp
def sx_lsF (n : Nat) (α : sx_A) (un : Nat → Int64) (pp : Int32) (w : Int64) (c : Nat) : Nat → Bool := fun k => Nat.blt 0 k && ((decide (α 1 k = pp) && decide (α 2 k = nI c)) && !decide (un k &&& w = 0))
theorem sx_ls_no {n x : Nat} {α : sx_A} {un : Nat → Int64} {pp : Int32} {w codes : Int64} (hx : ¬ α 1 x = pp ∨ un x &&& w = 0) (hJ : ∀ b, b < 64 → sx_bt codes b = sx_any (sx_lsF n α un pp w (65 + b)) x) : ∀ b, b < 64 → sx_bt codes b = sx_any (sx_lsF n α un pp w (65 + b)) (x + 1) := fun b hb => by
  rw [hJ b hb]
  simp only [sx_any]
  have : sx_lsF n α un pp w (65 + b) x = false := by
    unfold sx_lsF
    rcases hx with h | h <;> simp [h]
  rw [this, Bool.or_false]
theorem sx_ls_yes {n x c : Nat} {α : sx_A} {un : Nat → Int64} {pp : Int32} {w codes : Int64} (h0 : 0 < x) (h1 : α 1 x = pp) (hu : ¬ un x &&& w = 0) (hc : 65 ≤ c) (hc2 : c < 123) (ec : α 2 x = nI c) (hJ : ∀ b, b < 64 → sx_bt codes b = sx_any (sx_lsF n α un pp w (65 + b)) x) : ∀ b, b < 64 → sx_bt (codes ||| sx_on (c - 65)) b = sx_any (sx_lsF n α un pp w (65 + b)) (x + 1) := fun b hb => by
  rw [sx_bt_or, hJ b hb, sx_bt_on hb (by omega)]
  simp only [sx_any]
  congr 1
  unfold sx_lsF
  rw [sx_blt, decide_eq_true h0, decide_eq_true h1, decide_eq_false hu, ec]
  simp only [Bool.true_and, Bool.not_false, Bool.and_true]
  exact decide_eq_decide.mpr ⟨fun e => by rw [e]; congr 1; omega, fun e => by have := (nI_eq (by omega) (by omega)).mp e; omega⟩
theorem sx_pick_step {q : Nat → Bool} {d : Nat} {i : Int32} (h : d < 58) : sx_pick q (58 - d) (65 + d) i = bif q (65 + d) then (if i = 0 then nI (65 + d) else sx_pick q (58 - (d + 1)) (65 + (d + 1)) (i - 1)) else sx_pick q (58 - (d + 1)) (65 + (d + 1)) i := by
  rw [show 58 - d = (58 - (d + 1)) + 1 by omega]
  rfl
theorem sx_sub1 (i : Int32) (b : Nat) : i - nI b - 1 = i - nI (b + 1) := by
  rw [← nI_1]
  apply Int32.toBitVec_inj.mp
  simp only [Int32.toBitVec_sub, Int32.toBitVec_add]
  bv_omega
theorem sx_sub_0 {i x : Int32} : i - x = 0 ↔ x = i := by
  constructor
  · intro h
    have := congrArg Int32.toBitVec h
    rw [Int32.toBitVec_sub] at this
    apply Int32.toBitVec_inj.mp
    have h0 : (0 : Int32).toBitVec = 0#32 := by decide
    rw [h0] at this
    bv_omega
  · intro h
    subst h
    apply Int32.toBitVec_inj.mp
    rw [Int32.toBitVec_sub]
    have h0 : (0 : Int32).toBitVec = 0#32 := by decide
    rw [h0]
    bv_omega
theorem sx_sub_z (i : Int32) : i - nI 0 = i := by
  apply Int32.toBitVec_inj.mp
  rw [Int32.toBitVec_sub]
  have h0 : (nI 0).toBitVec = 0#32 := by decide
  rw [h0]
  bv_omega
theorem sx_lR_no {v : Nat → Int32} {f l : Int64} {k : Nat} {x : Int32} (h : sx_has 60 x = false) : sx_lR v f l k x = 0 := by
  cases k with
  | zero => rfl
  | succ k => simp only [sx_lR, h, cond_false]
theorem sx_lR_file {v : Nat → Int32} {f l : Int64} {k j : Nat} (hj : j < 60) (h : sx_bt f j = true) : sx_lR v f l (k + 1) (nI j) = v j := by
  simp only [sx_lR]
  rw [sx_has_nI (by decide) hj, nI_clamp (by omega), h]
  rfl
theorem sx_lR_none {v : Nat → Int32} {f l : Int64} {k j : Nat} (hj : j < 60) (h : sx_bt f j = false) (h2 : sx_bt l j = false) : sx_lR v f l k (nI j) = 0 := by
  cases k with
  | zero => rfl
  | succ k =>
    simp only [sx_lR]
    rw [sx_has_nI (by decide) hj, nI_clamp (by omega), h, h2]
    rfl
theorem sx_lR_link {v : Nat → Int32} {f l : Int64} {k j : Nat} (hj : j < 60) (h : sx_bt f j = false) (h2 : sx_bt l j = true) : sx_lR v f l (k + 1) (nI j) = sx_lR v f l k (v j) := by
  simp only [sx_lR]
  rw [sx_has_nI (by decide) hj, nI_clamp (by omega), h, h2]
  rfl
