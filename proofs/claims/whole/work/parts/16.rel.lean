/-! How the class holds the tree, and what its words say. -/
def sx_RP (n : Nat) (par : Nat → Int32) (ab un : Nat → Int64) : Prop :=
  (∀ p, p < n → ∀ q, q < 64 → sx_bt (ab p) q = sx_U par p q) ∧ (∀ q, q < n → ∀ p, p < 64 → sx_bt (un q) p = (Nat.blt p n && sx_U par p q)) ∧ ∀ q, n ≤ q → q < 60 → un q = 0
def sx_unG (un : Nat → Int64) (w : Int64) (n i : Nat) : Nat → Int64 := fun q => bif Nat.blt q i && sx_bt w q then un q ||| sx_on n else un q
theorem sx_blt {a b : Nat} : Nat.blt a b = decide (a < b) := by
  by_cases h : a < b
  · rw [decide_eq_true h]; simp only [Nat.blt]; exact Nat.ble_eq_true_of_le h
  · rw [decide_eq_false h]
    cases c : Nat.blt a b with
    | false => rfl
    | true => exact absurd (Nat.le_of_ble_eq_true c) h
theorem sx_beq {a b : Nat} : Nat.beq a b = decide (a = b) := by
  by_cases h : a = b
  · subst h; simp
  · rw [decide_eq_false h]
    cases c : Nat.beq a b with
    | false => rfl
    | true => exact absurd (Nat.eq_of_beq_eq_true c) h
theorem sx_unG_0 (un : Nat → Int64) (w : Int64) (n : Nat) : sx_unG un w n 0 = un := by
  funext q
  simp [sx_unG, sx_blt]
theorem sx_unG_t {un : Nat → Int64} {w : Int64} {n i : Nat} (h : sx_bt w i = true) : vp_updL (sx_unG un w n i) i (sx_unG un w n i i ||| sx_on n) = sx_unG un w n (i + 1) := by
  funext q
  unfold vp_updL sx_unG
  by_cases e : q = i
  · subst e; simp [sx_blt, h]
  · rw [if_neg e]
    have e2 : decide (q < i) = decide (q < i + 1) := decide_eq_decide.mpr (by omega)
    rw [sx_blt, sx_blt, e2]
theorem sx_unG_f {un : Nat → Int64} {w : Int64} {n i : Nat} (h : sx_bt w i = false) : sx_unG un w n i = sx_unG un w n (i + 1) := by
  funext q
  unfold sx_unG
  by_cases e : q = i
  · subst e; simp [h]
  · have e2 : decide (q < i) = decide (q < i + 1) := decide_eq_decide.mpr (by omega)
    rw [sx_blt, sx_blt, e2]
theorem sx_PO_add {n j : Nat} {par : Nat → Int32} (h : sx_PO n par) (h1 : 1 ≤ n) (hj : j < n) : sx_PO (n + 1) (upd par n (nI j)) := by
  refine ⟨by rw [pk_un (by omega)]; exact h.1, fun k a b => ?_⟩
  by_cases e : k = n
  · subst e; exact ⟨j, hj, pk_us⟩
  · rw [pk_un e]; exact h.2 k a (by omega)
theorem sx_U_new {n j : Nat} {par : Nat → Int32} (h : sx_PO n par) (hn : n < 60) (h1 : 1 ≤ n) (hj : j < n) (p q : Nat) (hp : p < n + 1) : sx_U (upd par n (nI j)) p q = if p = n then (Nat.beq n q || sx_U par j q) else sx_U par p q := by
  have he : ∀ k, k < n → upd par n (nI j) k = par k := fun k hk => pk_un (by omega)
  by_cases e : p = n
  · subst e
    rw [if_pos rfl, sx_U_step (sx_PO_add h h1 hj) (by omega) h1 (by omega) hj pk_us, sx_U_old h (by omega) he hj]
  · rw [if_neg e, sx_U_old h (by omega) he (by omega)]
theorem sx_RP_add {n j : Nat} {par : Nat → Int32} {ab un : Nat → Int64} (h : sx_RP n par ab un) (hP : sx_PO n par) (hn : n < 60) (h1 : 1 ≤ n) (hj : j < n) : sx_RP (n + 1) (upd par n (nI j)) (vp_updL ab n (ab j ||| sx_on n)) (sx_unG un (ab j ||| sx_on n) n (n + 1)) := by
  obtain ⟨r1, r2, r3⟩ := h
  have hw : ∀ q, q < 64 → sx_bt (ab j ||| sx_on n) q = (sx_U par j q || decide (q = n)) := fun q hq => by
    rw [sx_bt_or, sx_bt_on hq (by omega), r1 j hj q hq]
  refine ⟨fun p hp q hq => ?_, fun q hq p hp => ?_, fun q a b => ?_⟩
  · rw [sx_U_new hP hn h1 hj p q hp]
    unfold vp_updL
    by_cases e : p = n
    · subst e
      rw [if_pos rfl, if_pos rfl, hw q hq, sx_beq, Bool.or_comm]
      congr 1
      exact decide_eq_decide.mpr ⟨fun h => h.symm, fun h => h.symm⟩
    · rw [if_neg e, if_neg e]
      exact r1 p (by omega) q hq
  · have hq1 : Nat.blt q (n + 1) = true := by rw [sx_blt]; exact decide_eq_true hq
    unfold sx_unG
    rw [hq1, Bool.true_and, hw q (by omega)]
    by_cases e : q = n
    · subst e
      rw [decide_eq_true (rfl : q = q), Bool.or_true, cond_true, sx_bt_or, sx_bt_on hp (by omega), r3 q (Nat.le_refl q) (by omega), sx_bt_0, Bool.false_or, sx_blt]
      by_cases c : p < q + 1
      · rw [decide_eq_true c, Bool.true_and, sx_U_new hP hn h1 hj p q c]
        by_cases d : p = q
        · subst d; simp
        · rw [if_neg d, decide_eq_false d]
          cases f : sx_U par p q with
          | false => rfl
          | true => have := sx_U_le hP (by omega) p (by omega) f; omega
      · rw [decide_eq_false c, decide_eq_false (show ¬ p = q by omega)]; rfl
    · rw [decide_eq_false e, Bool.or_false]
      have hqn : q < n := by omega
      have key : sx_bt (bif sx_U par j q then un q ||| sx_on n else un q) p = ((decide (p < n) && sx_U par p q) || (sx_U par j q && decide (p = n))) := by
        cases f : sx_U par j q with
        | false => rw [cond_false, r2 q hqn p hp, sx_blt]; simp
        | true => rw [cond_true, sx_bt_or, r2 q hqn p hp, sx_bt_on hp (by omega), sx_blt]; simp
      rw [key, sx_blt]
      by_cases c : p < n + 1
      · rw [decide_eq_true c, Bool.true_and, sx_U_new hP hn h1 hj p q c]
        by_cases d : p = n
        · subst d
          have : ¬ p = q := fun z => e z.symm
          rw [if_pos rfl, sx_beq, decide_eq_false this]
          simp
        · rw [if_neg d, decide_eq_false d, decide_eq_true (show p < n by omega)]; simp
      · rw [decide_eq_false c, decide_eq_false (show ¬ p < n by omega), decide_eq_false (show ¬ p = n by omega)]; simp
  · unfold sx_unG
    have hq1 : Nat.blt q (n + 1) = false := by rw [sx_blt]; exact decide_eq_false (by omega)
    rw [hq1, Bool.false_and, cond_false]
    exact r3 q (by omega) b
/-- something that is taken is in the way of p -/
theorem sx_way_iff {n p : Nat} {par : Nat → Int32} {ab un : Nat → Int64} {w : Int64} {t : Nat → Bool} (h : sx_RP n par ab un) (hn : n ≤ 60) (hp : p < n) (ht : ∀ k, k < 64 → sx_bt w k = t k) (h0 : t 0 = false) (hb : ∀ k, n ≤ k → k < 64 → t k = false) :
    (((ab p ||| un p) &&& (sx_on p ^^^ (-1))) &&& w = 0) ↔ sx_any (fun k => (Nat.blt 0 k && !Nat.beq k p) && (t k && (sx_U par k p || sx_U par p k))) n = false := by
  obtain ⟨r1, r2, r3⟩ := h
  have key : ∀ k, k < 64 → sx_bt (((ab p ||| un p) &&& (sx_on p ^^^ (-1))) &&& w) k = (((sx_U par p k || (decide (k < n) && sx_U par k p)) && !decide (k = p)) && t k) := fun k hk => by
    rw [sx_bt_and, sx_bt_and, sx_bt_or, sx_bt_not _ hk, sx_bt_on hk (by omega), r1 p hp k hk, r2 p hp k hk, ht k hk, sx_blt]
  rw [sx_w0, sx_any_f]
  constructor
  · intro z k hk
    have := z k (by omega)
    rw [key k (by omega), decide_eq_true hk] at this
    rw [sx_beq]
    revert this
    cases sx_U par p k <;> cases sx_U par k p <;> cases decide (k = p) <;> cases t k <;> simp
  · intro z k hk
    rw [key k hk]
    by_cases c : k < n
    · have := z k c
      rw [sx_beq, sx_blt] at this
      rw [decide_eq_true c]
      by_cases d : 0 < k
      · rw [decide_eq_true d] at this
        revert this
        cases sx_U par p k <;> cases sx_U par k p <;> cases decide (k = p) <;> cases t k <;> simp
      · rw [show k = 0 by omega, h0, Bool.and_false]
    · rw [hb k (by omega) hk, Bool.and_false]
/-- something is taken under o -/
theorem sx_und_iff {n o : Nat} {par : Nat → Int32} {ab un : Nat → Int64} {w : Int64} {t : Nat → Bool} (h : sx_RP n par ab un) (hn : n ≤ 60) (ho : o < n) (ht : ∀ k, k < 64 → sx_bt w k = t k) (h0 : t 0 = false) :
    (un o &&& w = 0) ↔ sx_any (fun k => Nat.blt 0 k && (t k && sx_U par k o)) n = false := by
  obtain ⟨r1, r2, r3⟩ := h
  have key : ∀ k, k < 64 → sx_bt (un o &&& w) k = ((decide (k < n) && sx_U par k o) && t k) := fun k hk => by
    rw [sx_bt_and, r2 o ho k hk, ht k hk, sx_blt]
  rw [sx_w0, sx_any_f]
  constructor
  · intro z k hk
    have := z k (by omega)
    rw [key k (by omega), decide_eq_true hk] at this
    revert this
    cases sx_U par k o <;> cases t k <;> simp
  · intro z k hk
    rw [key k hk]
    by_cases c : k < n
    · have := z k c
      rw [sx_blt] at this
      rw [decide_eq_true c]
      by_cases d : 0 < k
      · rw [decide_eq_true d] at this
        revert this
        cases sx_U par k o <;> cases t k <;> simp
      · rw [show k = 0 by omega, h0, Bool.and_false]
    · rw [decide_eq_false c]; rfl
