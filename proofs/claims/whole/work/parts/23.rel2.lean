/-! What the class's words say, in the words of the specification. -/
def sx_DO (α : sx_A) (a : Nat) (dp out : Nat → Int32) : Prop := ∀ k, k < 12 → dp k = α 5 (12 * a + k) ∧ out k = α 11 (12 * a + k)
def sx_wd_ (α : sx_A) (a : Nat) : Nat → Int32 := fun j => α 10 (60 * a + j)
theorem sx_uD_t {n k : Nat} {α : sx_A} {a : Nat} {ab un : Nat → Int64} {all : Int64} {o : Bool} (hR : sx_RP n (α 1) ab un) (hd : sx_dp α a k < n) (ho : α 11 (12 * a + k) = sx_bI o) (hJ : ∀ j, j < 64 → sx_bt all j = (decide (j < n) && sx_any (fun k => decide (α 11 (12 * a + k) = sx_bI o) && sx_U (α 1) j (sx_dp α a k)) k)) :
    ∀ j, j < 64 → sx_bt (all ||| un (sx_dp α a k)) j = (decide (j < n) && sx_any (fun k => decide (α 11 (12 * a + k) = sx_bI o) && sx_U (α 1) j (sx_dp α a k)) (k + 1)) := fun j hj => by
  rw [sx_bt_or, hJ j hj, hR.2.1 _ hd j hj, sx_blt]
  simp only [sx_any, decide_eq_true ho, Bool.true_and]
  cases decide (j < n) <;> simp
theorem sx_uD_f {n k : Nat} {α : sx_A} {a : Nat} {all : Int64} {o : Bool} (ho : ¬ α 11 (12 * a + k) = sx_bI o) (hJ : ∀ j, j < 64 → sx_bt all j = (decide (j < n) && sx_any (fun k => decide (α 11 (12 * a + k) = sx_bI o) && sx_U (α 1) j (sx_dp α a k)) k)) :
    ∀ j, j < 64 → sx_bt all j = (decide (j < n) && sx_any (fun k => decide (α 11 (12 * a + k) = sx_bI o) && sx_U (α 1) j (sx_dp α a k)) (k + 1)) := fun j hj => by
  rw [hJ j hj]
  simp only [sx_any, decide_eq_false ho, Bool.false_and, Bool.or_false]
def sx_scr (n : Nat) (α : sx_A) (a p : Nat) : Bool := (!decide (sx_z n α = -1) && !Nat.beq p (sx_z n α).toNatClampNeg) && (sx_U (α 1) p (sx_z n α).toNatClampNeg && !sx_isD α a false p)
theorem sx_scr_0 {n : Nat} {α : sx_A} {a : Nat} (h : sx_z n α = -1) : ∀ j, j < 64 → sx_bt 0 j = (decide (j < n) && sx_scr n α a j) := fun j _ => by
  unfold sx_scr
  rw [sx_bt_0, h]; simp
theorem sx_scr_1 {n k : Nat} {α : sx_A} {a : Nat} {ab un : Nat → Int64} {x : Int64} (hR : sx_RP n (α 1) ab un) (hn : n ≤ 60) (hk : k < n) (h : sx_z n α = nI k) (hx : ∀ j, j < 64 → sx_bt x j = (decide (j < n) && sx_isD α a false j)) : ∀ j, j < 64 → sx_bt ((un k &&& (sx_on k ^^^ (-1))) &&& (x ^^^ (-1))) j = (decide (j < n) && sx_scr n α a j) := fun j hj => by
  unfold sx_scr
  rw [h, nI_clamp (by omega), decide_eq_false (sx_nI_m1 (by omega)), sx_bt_and, sx_bt_and, sx_bt_not _ hj, sx_bt_not _ hj, sx_bt_on hj (by omega), hR.2.1 k hk j hj, hx j hj, sx_blt, sx_beq]
  cases decide (j < n) <;> cases sx_U (α 1) j k <;> cases decide (j = k) <;> cases sx_isD α a false j <;> rfl
theorem sx_wr_ok {n : Nat} {α : sx_A} {a : Nat} {x y : Int64} (hx : ∀ j, j < 64 → sx_bt x j = (decide (j < n) && sx_isD α a true j)) (hy : ∀ j, j < 64 → sx_bt y j = (decide (j < n) && sx_scr n α a j)) : ∀ j, j < 64 → sx_bt (x ||| y) j = (decide (j < n) && sx_isW n α a j) := fun j hj => by
  rw [sx_bt_or, hx j hj, hy j hj, ← Bool.and_or_distrib_left]
  rfl
theorem sx_srcT {n : Nat} {s v : Nat → Int32} {f l : Int64} (hs : sx_SR n s) (h : sx_RW s v f l) : ∀ k, k < 64 → sx_bt (f ||| l) k = (decide (k < 60) && decide (0 < s k)) := fun k hk => by
  rw [sx_RW_tk h hk]
  congr 1
  by_cases c : 0 < s k
  · have : ¬ s k = 0 := fun z => by rw [z] at c; exact absurd c (by decide)
    rw [decide_eq_true c, decide_eq_false this]; rfl
  · rw [decide_eq_false c, decide_eq_true (sx_tri c (hs.1 k))]; rfl
theorem sx_hasS_iff {n o : Nat} {α : sx_A} {ab un : Nat → Int64} {v : Nat → Int32} {f l : Int64} (hR : sx_RP n (α 1) ab un) (hn : n ≤ 60) (ho : o < n) (hs : sx_SR n (α 3)) (h : sx_RW (α 3) v f l) : un o &&& (f ||| l) = 0 ↔ sx_hasS n α o = false := by
  rw [sx_und_iff hR hn ho (sx_srcT hs h) (by rw [hs.2.1]; decide)]
  unfold sx_hasS
  rw [sx_any_congr (g := fun p => Nat.blt 0 p && (decide (0 < α 3 p) && sx_U (α 1) p o)) (fun k hk => by rw [decide_eq_true (show k < 60 by omega), Bool.true_and])]
theorem sx_hu_iff {n o : Nat} {α : sx_A} {a : Nat} {ab un : Nat → Int64} {v : Nat → Int32} {f l : Int64} (hR : sx_RP n (α 1) ab un) (hn : n ≤ 60) (ho : o < n) (h0 : α 10 (60 * a + 0) = 0) (h : sx_RW (sx_wd_ α a) v f l) : un o &&& (f ||| l) = 0 ↔ sx_hu n α a o = false := by
  rw [sx_und_iff hR hn ho (fun k hk => sx_RW_tk h hk) (by show (decide (0 < 60) && !decide (α 10 (60 * a + 0) = 0)) = false; rw [h0]; decide)]
  unfold sx_hu
  rw [sx_any_congr (g := fun k => Nat.blt 0 k && (!decide (α 10 (60 * a + k) = 0) && sx_U (α 1) k o)) (fun k hk => by rw [decide_eq_true (show k < 60 by omega), Bool.true_and]; rfl)]
theorem sx_inS_iff {n p : Nat} {α : sx_A} {ab un : Nat → Int64} {v : Nat → Int32} {f l : Int64} (hR : sx_RP n (α 1) ab un) (hn : n ≤ 60) (hp : p < n) (hs : sx_SR n (α 3)) (h : sx_RW (α 3) v f l) : ((ab p ||| un p) &&& (sx_on p ^^^ (-1))) &&& (f ||| l) = 0 ↔ sx_inS n α p = false := by
  rw [sx_way_iff hR hn hp (sx_srcT hs h) (by rw [hs.2.1]; decide) (fun k a _ => by rw [hs.2.2 k a]; simp)]
  unfold sx_inS
  rw [sx_any_congr (g := fun k => (Nat.blt 0 k && !Nat.beq k p) && (decide (0 < α 3 k) && (sx_U (α 1) k p || sx_U (α 1) p k))) (fun k hk => by rw [decide_eq_true (show k < 60 by omega), Bool.true_and])]
theorem sx_inW_iff {n p : Nat} {α : sx_A} {a : Nat} {ab un : Nat → Int64} {v : Nat → Int32} {f l : Int64} (hR : sx_RP n (α 1) ab un) (hn : n ≤ 60) (hp : p < n) (h0 : ∀ j, j < 60 → (j = 0 ∨ n ≤ j) → α 10 (60 * a + j) = 0) (h : sx_RW (sx_wd_ α a) v f l) : ((ab p ||| un p) &&& (sx_on p ^^^ (-1))) &&& (f ||| l) = 0 ↔ sx_inW n α a p = false := by
  rw [sx_way_iff hR hn hp (fun k hk => sx_RW_tk h hk) (by show (decide (0 < 60) && !decide (α 10 (60 * a + 0) = 0)) = false; rw [h0 0 (by omega) (Or.inl rfl)]; decide) (fun k b _ => by
    by_cases c : k < 60
    · show (decide (k < 60) && !decide (α 10 (60 * a + k) = 0)) = false
      rw [h0 k c (Or.inr b)]; simp
    · rw [decide_eq_false c]; rfl)]
  unfold sx_inW
  rw [sx_any_congr (g := fun k => (Nat.blt 0 k && !Nat.beq k p) && (!decide (α 10 (60 * a + k) = 0) && (sx_U (α 1) k p || sx_U (α 1) p k))) (fun k hk => by rw [decide_eq_true (show k < 60 by omega), Bool.true_and]; rfl)]
theorem sx_way_bit {n p q : Nat} {par : Nat → Int32} {ab un : Nat → Int64} (hR : sx_RP n par ab un) (hn : n ≤ 60) (hp : p < n) (hq : q < n) : sx_bt (((ab p ||| un p) &&& (sx_on p ^^^ (-1))) ||| sx_on p) q = (sx_U par p q || sx_U par q p) := by
  rw [sx_bt_or, sx_bt_and, sx_bt_or, sx_bt_not _ (by omega), sx_bt_on (by omega) (by omega), hR.1 p hp q (by omega), hR.2.1 p hp q (by omega), sx_blt, decide_eq_true hq]
  by_cases e : q = p
  · subst e; rw [sx_U_self]; simp
  · rw [decide_eq_false e]; simp
theorem sx_wl60 {n na L : Nat} {α : sx_A} {a : Nat} (h : sx_INV n na L α) (ha : a < na) : ∀ j, j < 60 → sx_wd_ α a j < 0 → ∃ q, q < 60 ∧ sx_wd_ α a j = -1 - nI q := fun j hj z => by
  obtain ⟨q, q1, q2⟩ := ((sx_INV_A h ha).2.2.2.2.1 j hj).1 z
  exact ⟨q, by have := h.1.1.2; omega, q2⟩
theorem sx_lead_eq {n na L : Nat} {α : sx_A} {a p : Nat} {v : Nat → Int32} {f l : Int64} (h : sx_INV n na L α) (ha : a < na) (hp : p < 60) (hW : sx_RW (sx_wd_ α a) v f l) : sx_lR v f l 5 (nI p) = sx_lead α a p := sx_lR_ld hW (sx_wl60 h ha) 4 p hp
theorem sx_loose_eq {n na L : Nat} {α : sx_A} {a o : Nat} {ab un : Nat → Int64} {v : Nat → Int32} {f l : Int64} (h : sx_INV n na L α) (ha : a < na) (hR : sx_RP n (α 1) ab un) (ho : o < n) (hW : sx_RW (sx_wd_ α a) v f l) :
    sx_any (fun p => sx_bt (l &&& un o) p && decide (sx_lR v f l 5 (nI p) = 0)) 60 = sx_loose n α a o := by
  have hn := h.1.1.2
  have h0 : α 10 (60 * a + 0) = 0 := ((sx_INV_A h ha).2.2.2.2.1 0 (by omega)).2 (Or.inl rfl)
  have key : ∀ p, p < 60 → (sx_bt (l &&& un o) p && decide (sx_lR v f l 5 (nI p) = 0)) = ((decide (α 10 (60 * a + p) < 0) && (decide (p < n) && sx_U (α 1) p o)) && decide (sx_lead α a p = 0)) := fun p hp => by
    rw [sx_bt_and, hW.2.1 p (by omega), hR.2.1 o ho p (by omega), sx_lead_eq h ha hp hW, decide_eq_true hp, Bool.true_and, sx_blt]
    rfl
  rw [sx_any_congr key]
  have iff : ∀ a b : Bool, (a = true ↔ b = true) → a = b := fun a b => by cases a <;> cases b <;> simp
  apply iff
  unfold sx_loose
  rw [sx_any_t, sx_any_t]
  simp only [Bool.and_eq_true, sx_blt, decide_eq_true_eq]
  constructor
  · rintro ⟨p, hp, ⟨a1, a2, a3⟩, a4⟩
    refine ⟨p, a2, ?_, a1, a3, a4⟩
    rcases Nat.eq_zero_or_pos p with z | z
    · subst z; rw [h0] at a1; exact absurd a1 (by decide)
    · exact z
  · rintro ⟨p, hp, a0, a1, a3, a4⟩
    exact ⟨p, by omega, ⟨a1, hp, a3⟩, a4⟩
theorem sx_fl_step {n : Nat} {α : sx_A} {a d k pl : Nat} (h : k < d) : sx_fl n α a (d - k) k pl = bif decide (α 11 (12 * a + k) = 0) then sx_fl n α a (d - (k + 1)) (k + 1) pl else (bif sx_hu n α a (sx_dp α a k) then (bif sx_loose n α a (sx_dp α a k) then -11 - 2 * nI pl else sx_fl n α a (d - (k + 1)) (k + 1) (pl + 1)) else -10 - 2 * nI pl) := by
  rw [show d - k = (d - (k + 1)) + 1 by omega]
  rfl
theorem sx_two (pl : Nat) : nI (2 * pl) = 2 * nI pl := (pk_mul 2 pl).symm
theorem sx_nf {b : Bool} (h : ¬ b = false) : b = true := by cases b with | true => rfl | false => exact absurd rfl h
