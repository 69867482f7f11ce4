/-! A store: words of files and links, values; w: what is at each path. -/
def sx_RW (w v : Nat → Int32) (f l : Int64) : Prop := (∀ j, j < 64 → sx_bt f j = (decide (j < 60) && decide (0 < w j))) ∧ (∀ j, j < 64 → sx_bt l j = (decide (j < 60) && decide (w j < 0))) ∧ (∀ j, j < 60 → 0 < w j → v j = w j) ∧ ∀ j, j < 60 → ∀ q, q < 60 → w j = -1 - nI q → v j = nI q
theorem sx_pos_neg {x : Int32} (h : 0 < x) : ¬ x < 0 := fun z => Int32.lt_irrefl (Int32.lt_trans h z)
theorem sx_i0 : (0 : Int32).toInt = 0 := by decide
theorem sx_i1 : (1 : Int32).toInt = 1 := by decide
theorem sx_im1 : (-1 : Int32).toInt = -1 := by decide
theorem sx_tri {x : Int32} (h1 : ¬ 0 < x) (h2 : ¬ x < 0) : x = 0 := by
  rw [Int32.lt_iff_toInt_lt, sx_i0] at h1 h2
  exact Int32.toInt_inj.mp (by rw [sx_i0]; omega)
theorem sx_lk {q : Nat} (h : q < 2 ^ 30) : (-1 - nI q : Int32) < 0 ∧ ¬ 0 < (-1 - nI q : Int32) ∧ (-1 - (-1 - nI q) : Int32) = nI q := by
  have e : (-1 - nI q : Int32).toInt = -1 - (q : Int) := by
    rw [Int32.toInt_sub, sx_im1, nI_toInt (by omega)]
    simp only [Int.bmod]
    omega
  have l1 : (-1 - nI q : Int32) < 0 := by rw [Int32.lt_iff_toInt_lt, e, sx_i0]; omega
  refine ⟨l1, fun z => sx_pos_neg z l1, Int32.toInt_inj.mp ?_⟩
  rw [Int32.toInt_sub, e, sx_im1, nI_toInt (by omega)]
  simp only [Int.bmod]
  omega
theorem sx_lk_inj {q r : Nat} (hq : q < 2 ^ 30) (hr : r < 2 ^ 30) (h : (-1 - nI q : Int32) = -1 - nI r) : q = r := by
  have := congrArg (fun x : Int32 => -1 - x) h
  simp only [(sx_lk hq).2.2, (sx_lk hr).2.2] at this
  exact (nI_eq (by omega) (by omega)).mp this
theorem sx_RW_tk {w v : Nat → Int32} {f l : Int64} (h : sx_RW w v f l) {j : Nat} (hj : j < 64) : sx_bt (f ||| l) j = (decide (j < 60) && !decide (w j = 0)) := by
  rw [sx_bt_or, h.1 j hj, h.2.1 j hj]
  cases decide (j < 60) with
  | false => rfl
  | true =>
    simp only [Bool.true_and]
    by_cases a : 0 < w j
    · rw [decide_eq_true a, Bool.true_or]
      have : ¬ w j = 0 := fun z => by rw [z] at a; exact absurd a (by decide)
      rw [decide_eq_false this]; rfl
    · rw [decide_eq_false a, Bool.false_or]
      by_cases b : w j < 0
      · have : ¬ w j = 0 := fun z => by rw [z] at b; exact absurd b (by decide)
        rw [decide_eq_true b, decide_eq_false this]; rfl
      · rw [decide_eq_false b, decide_eq_true (sx_tri a b)]; rfl
theorem sx_RW_away {w v : Nat → Int32} {f l : Int64} {p : Nat} (h : sx_RW w v f l) (hp : p < 60) : sx_RW (upd w p 0) v (f &&& (sx_on p ^^^ (-1))) (l &&& (sx_on p ^^^ (-1))) := by
  obtain ⟨h1, h2, h3, h4⟩ := h
  refine ⟨fun j hj => ?_, fun j hj => ?_, fun j hj z => ?_, fun j hj q hq z => ?_⟩
  · rw [sx_bt_and, sx_bt_not _ hj, sx_bt_on hj (by omega), h1 j hj]
    unfold upd
    by_cases e : j = p
    · subst e; simp
    · simp [e]
  · rw [sx_bt_and, sx_bt_not _ hj, sx_bt_on hj (by omega), h2 j hj]
    unfold upd
    by_cases e : j = p
    · subst e; simp
    · simp [e]
  · unfold upd at z ⊢
    by_cases e : j = p
    · rw [if_pos e] at z; exact absurd z (by decide)
    · rw [if_neg e] at z ⊢; exact h3 j hj z
  · unfold upd at z
    by_cases e : j = p
    · rw [if_pos e] at z
      have := (sx_lk (q := q) (by omega)).1
      rw [← z] at this; exact absurd this (by decide)
    · rw [if_neg e] at z; exact h4 j hj q hq z
theorem sx_RW_put {w v : Nat → Int32} {f l : Int64} {p : Nat} {c : Int32} (h : sx_RW w v f l) (hp : p < 60) (hc : 0 < c) : sx_RW (upd w p c) (upd v p c) ((f &&& (sx_on p ^^^ (-1))) ||| sx_on p) (l &&& (sx_on p ^^^ (-1))) := by
  obtain ⟨h1, h2, h3, h4⟩ := h
  refine ⟨fun j hj => ?_, fun j hj => ?_, fun j hj z => ?_, fun j hj q hq z => ?_⟩
  · rw [sx_bt_or, sx_bt_and, sx_bt_not _ hj, sx_bt_on hj (by omega), h1 j hj]
    unfold upd
    by_cases e : j = p
    · subst e; simp [hp, hc]
    · simp [e]
  · rw [sx_bt_and, sx_bt_not _ hj, sx_bt_on hj (by omega), h2 j hj]
    unfold upd
    by_cases e : j = p
    · subst e; simp [sx_pos_neg hc]
    · simp [e]
  · unfold upd at z ⊢
    by_cases e : j = p
    · rw [if_pos e, if_pos e]
    · rw [if_neg e] at z; rw [if_neg e, if_neg e]; exact h3 j hj z
  · unfold upd at z ⊢
    by_cases e : j = p
    · rw [if_pos e] at z
      have := (sx_lk (q := q) (by omega)).1
      rw [← z] at this; exact absurd this (sx_pos_neg hc)
    · rw [if_neg e] at z; rw [if_neg e]; exact h4 j hj q hq z
theorem sx_RW_link {w v : Nat → Int32} {f l : Int64} {p r : Nat} (h : sx_RW w v f l) (hp : p < 60) (hr : r < 60) : sx_RW (upd w p (-1 - nI r)) (upd v p (nI r)) (f &&& (sx_on p ^^^ (-1))) ((l &&& (sx_on p ^^^ (-1))) ||| sx_on p) := by
  obtain ⟨h1, h2, h3, h4⟩ := h
  obtain ⟨k1, k2, k3⟩ := sx_lk (q := r) (by omega)
  refine ⟨fun j hj => ?_, fun j hj => ?_, fun j hj z => ?_, fun j hj q hq z => ?_⟩
  · rw [sx_bt_and, sx_bt_not _ hj, sx_bt_on hj (by omega), h1 j hj]
    unfold upd
    by_cases e : j = p
    · subst e; simp [k2]
    · simp [e]
  · rw [sx_bt_or, sx_bt_and, sx_bt_not _ hj, sx_bt_on hj (by omega), h2 j hj]
    unfold upd
    by_cases e : j = p
    · subst e; simp [hp, k1]
    · simp [e]
  · unfold upd at z ⊢
    by_cases e : j = p
    · rw [if_pos e] at z; exact absurd z k2
    · rw [if_neg e] at z; rw [if_neg e, if_neg e]; exact h3 j hj z
  · unfold upd at z ⊢
    by_cases e : j = p
    · rw [if_pos e] at z; rw [if_pos e, sx_lk_inj (by omega) (by omega) z]
    · rw [if_neg e] at z; rw [if_neg e]; exact h4 j hj q hq z
/-- what leadsTo answers: at most so many steps -/
def sx_lR (v : Nat → Int32) (f l : Int64) : Nat → Int32 → Int32
  | 0, _ => 0
  | k + 1, x => bif sx_has 60 x then (bif sx_bt f x.toNatClampNeg then v x.toNatClampNeg else (bif sx_bt l x.toNatClampNeg then sx_lR v f l k (v x.toNatClampNeg) else 0)) else 0
theorem sx_lR_ld {w v : Nat → Int32} {f l : Int64} (h : sx_RW w v f l) (hl : ∀ j, j < 60 → w j < 0 → ∃ q, q < 60 ∧ w j = -1 - nI q) : ∀ k p, p < 60 → sx_lR v f l (k + 1) (nI p) = sx_ld w k (w p) := by
  obtain ⟨h1, h2, h3, h4⟩ := h
  intro k
  induction k with
  | zero =>
    intro p hp
    simp only [sx_lR, sx_ld]
    rw [sx_has_nI (by omega) hp, nI_clamp (by omega), cond_true, h1 p (by omega), decide_eq_true hp, Bool.true_and]
    by_cases c : 0 < w p
    · rw [decide_eq_true c, cond_true, if_pos c]; exact h3 p hp c
    · rw [decide_eq_false c, cond_false, if_neg c]
      cases sx_bt l p <;> rfl
  | succ k ih =>
    intro p hp
    have e : sx_lR v f l (k + 1 + 1) (nI p) = bif sx_has 60 (nI p) then (bif sx_bt f (nI p).toNatClampNeg then v (nI p).toNatClampNeg else (bif sx_bt l (nI p).toNatClampNeg then sx_lR v f l (k + 1) (v (nI p).toNatClampNeg) else 0)) else 0 := rfl
    rw [e, sx_has_nI (by omega) hp, nI_clamp (by omega), cond_true, h1 p (by omega), h2 p (by omega), decide_eq_true hp, Bool.true_and, Bool.true_and]
    simp only [sx_ld]
    by_cases c : 0 < w p
    · rw [decide_eq_true c, cond_true, if_neg (sx_pos_neg c), if_pos c]; exact h3 p hp c
    · rw [decide_eq_false c, cond_false]
      by_cases d : w p < 0
      · obtain ⟨q, q1, q2⟩ := hl p hp d
        rw [decide_eq_true d, cond_true, if_pos d, h4 p hp q q1 q2, ih q q1, q2, (sx_lk (by omega)).2.2, nI_clamp (by omega)]
      · rw [decide_eq_false d, cond_false, if_neg d, if_neg c]
/-- leadsTo in a store without links -/
theorem sx_lR_src {w v : Nat → Int32} {f l : Int64} (h : sx_RW w v f l) {p : Nat} (hp : p < 60) (hs : ∀ j, ¬ w j < 0) : sx_lR v f l 5 (nI p) = w p := by
  rw [sx_lR_ld h (fun j _ z => absurd z (hs j)) 4 p hp]
  simp only [sx_ld]
  rw [if_neg (hs p)]
  by_cases c : 0 < w p
  · rw [if_pos c]
  · rw [if_neg c, sx_tri c (hs p)]
