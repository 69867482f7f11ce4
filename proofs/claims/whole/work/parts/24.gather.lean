/-! Counting bits; gathering. -/
def sx_shr (x : Int64) (k : Nat) : Int64 := (x.toUInt64 >>> ((nI k).toInt64.toUInt64 &&& Int64.toUInt64 63)).toInt64
theorem sx_lN_tb (n : Nat) : (lN n).toBitVec = BitVec.ofNat 64 n := rfl
theorem sx_lN_tn {n : Nat} (h : n < 2 ^ 64) : (lN n).toBitVec.toNat = n := by rw [sx_lN_tb, BitVec.toNat_ofNat, Nat.mod_eq_of_lt h]
theorem sx_lN_of (x : Int64) : ∃ n, n < 2 ^ 64 ∧ x = lN n := ⟨x.toBitVec.toNat, x.toBitVec.isLt, sx_inj (by rw [sx_lN_tb]; simp)⟩
theorem sx_shc : ∀ k, k < 64 → ((nI k).toInt64.toUInt64 &&& Int64.toUInt64 63) = UInt64.ofNat k := by decide +kernel
theorem sx_shr_ok {n k : Nat} (hn : n < 2 ^ 64) (hk : k < 64) : sx_shr (lN n) k = lN (n / 2 ^ k) := by
  unfold sx_shr
  rw [sx_shc k hk]
  apply sx_inj
  apply BitVec.eq_of_toNat_eq
  show ((lN n).toUInt64 >>> UInt64.ofNat k).toNat = (BitVec.ofNat 64 _).toNat
  have h1 : (UInt64.ofNat k).toNat = k := by
    show (BitVec.ofNat 64 k).toNat = k
    rw [BitVec.toNat_ofNat, Nat.mod_eq_of_lt (by omega)]
  have h2 : (lN n).toUInt64.toNat = n := sx_lN_tn hn
  rw [UInt64.toNat_shiftRight, h1, h2, Nat.mod_eq_of_lt hk, Nat.shiftRight_eq_div_pow, BitVec.toNat_ofNat, Nat.mod_eq_of_lt (Nat.lt_of_le_of_lt (Nat.div_le_self _ _) hn)]
theorem sx_lN_and {a b : Nat} (ha : a < 2 ^ 64) (hb : b < 2 ^ 64) : lN a &&& lN b = lN (a &&& b) := by
  apply sx_inj
  rw [Int64.toBitVec_and, sx_lN_tb, sx_lN_tb, sx_lN_tb]
  apply BitVec.eq_of_toNat_eq
  rw [BitVec.toNat_and, BitVec.toNat_ofNat, BitVec.toNat_ofNat, BitVec.toNat_ofNat, Nat.mod_eq_of_lt ha, Nat.mod_eq_of_lt hb, Nat.mod_eq_of_lt (Nat.and_lt_two_pow _ hb)]
theorem sx_m1c : (6148914691236517205 : Int64) = lN (sx_m 85 8) := by decide +kernel
theorem sx_m2c : (3689348814741910323 : Int64) = lN (sx_m 51 8) := by decide +kernel
theorem sx_m3c : (1085102592571150095 : Int64) = lN (sx_m 15 8) := by decide +kernel
theorem sx_bitcount {w i1 i2 i3 i4 i5 i6 : Int64} (e1 : i1 = w - (sx_shr w 1 &&& 6148914691236517205)) (e2 : i2 = (i1 &&& 3689348814741910323) + (sx_shr i1 2 &&& 3689348814741910323)) (e3 : i3 = (i2 + sx_shr i2 4) &&& 1085102592571150095) (e4 : i4 = i3 + sx_shr i3 8) (e5 : i5 = i4 + sx_shr i4 16) (e6 : i6 = i5 + sx_shr i5 32) : i6.toInt32 &&& nI 127 = nI (sx_cnt (sx_bt w) 64) := by
  obtain ⟨x, hx, rfl⟩ := sx_lN_of w
  have v1 : sx_m 85 8 = 6148914691236517205 := by decide +kernel
  have v2 : sx_m 51 8 = 3689348814741910323 := by decide +kernel
  have v3 : sx_m 15 8 = 1085102592571150095 := by decide +kernel
  obtain ⟨y1, d1⟩ : ∃ y, y = sx_s1 8 x := ⟨_, rfl⟩
  obtain ⟨y2, d2⟩ : ∃ y, y = sx_s2 8 y1 := ⟨_, rfl⟩
  obtain ⟨y3, d3⟩ : ∃ y, y = sx_s3 8 y2 := ⟨_, rfl⟩
  have f1 : i1 = lN y1 := by
    have le : (x / 2) &&& sx_m 85 8 ≤ x / 2 := Nat.and_le_left
    rw [e1, sx_shr_ok hx (by decide), sx_m1c, sx_lN_and (by omega) (by omega), lN_sub (Nat.le_trans le (by omega)), d1]
    rfl
  have b1 : y1 < 2 ^ 64 := by rw [d1]; unfold sx_s1; omega
  have f2 : i2 = lN y2 := by
    rw [e2, f1, sx_m2c, sx_lN_and b1 (by omega), sx_shr_ok b1 (by decide), sx_lN_and (by omega) (by omega), lN_add, d2]
    rfl
  have b2 : y2 ≤ 7378697629483820646 := by
    rw [d2]
    unfold sx_s2
    have l1 : y1 &&& sx_m 51 8 ≤ sx_m 51 8 := Nat.and_le_right
    have l2 : (y1 / 4) &&& sx_m 51 8 ≤ sx_m 51 8 := Nat.and_le_right
    rw [v2] at l1 l2 ⊢
    omega
  have f3 : i3 = lN y3 := by
    rw [e3, f2, sx_shr_ok (by omega) (by decide), lN_add, sx_m3c, sx_lN_and (by omega) (by omega), d3]
    rfl
  have b3 : y3 ≤ 1085102592571150095 := by
    rw [d3]
    unfold sx_s3
    have l1 : (y2 + y2 / 16) &&& sx_m 15 8 ≤ sx_m 15 8 := Nat.and_le_right
    rw [v3] at l1 ⊢
    exact l1
  have f4 : i4 = lN (y3 + y3 / 256) := by rw [e4, f3, sx_shr_ok (by omega) (by decide), lN_add]
  obtain ⟨y4, d4⟩ : ∃ y, y = y3 + y3 / 256 := ⟨_, rfl⟩
  rw [← d4] at f4
  have f5 : i5 = lN (y4 + y4 / 65536) := by rw [e5, f4, sx_shr_ok (by omega) (by decide), lN_add]
  obtain ⟨y5, d5⟩ : ∃ y, y = y4 + y4 / 65536 := ⟨_, rfl⟩
  rw [← d5] at f5
  have f6 : i6 = lN (y5 + y5 / 4294967296) := by rw [e6, f5, sx_shr_ok (by omega) (by decide), lN_add]
  have hf : sx_fin y3 = y5 + y5 / 4294967296 := by unfold sx_fin; rw [← d4, ← d5]
  have hp := sx_pop x hx
  rw [← d1, ← d2, ← d3, hf] at hp
  rw [f6, lN_i, pk_and (nI (y5 + y5 / 4294967296)) 7 (by decide)]
  congr 1
  have ht : (nI (y5 + y5 / 4294967296)).toBitVec.toNat = (y5 + y5 / 4294967296) % 2 ^ 32 := by
    show (BitVec.ofNat 32 _).toNat = _
    rw [BitVec.toNat_ofNat]
  rw [ht]
  have hc : sx_cnt (sx_bt (lN x)) 64 = sx_cnt (fun j => x.testBit j) 64 := sx_cnt_congr fun k hk => by
    show (BitVec.ofNat 64 x).getLsbD k = x.testBit k
    rw [BitVec.getLsbD_ofNat]
    simp [hk]
  rw [hc, ← hp]
  omega
/-! gathering -/
theorem sx_cmI {n : Nat} {α : sx_A} {a p : Nat} : sx_cm n α a p = ((decide (0 < p) && decide (p < n)) && sx_isD α a true p) := by unfold sx_cm; rw [sx_blt, sx_blt]
theorem sx_srow_1 {n : Nat} {α : sx_A} {a : Nat} : sx_srow n α a 1 = α 3 := by
  funext p
  unfold sx_srow
  rw [sx_cmI, sx_blt]
  by_cases e : p = 0
  · subst e; simp
  · rw [decide_eq_false (show ¬ p < 1 by omega)]; rfl
theorem sx_srow_e {n m : Nat} {α : sx_A} {a : Nat} (h : n ≤ m) : sx_srow n α a m = sx_srow n α a n := by
  funext p
  unfold sx_srow
  rw [sx_cmI, sx_blt, sx_blt]
  by_cases e : p < n
  · rw [decide_eq_true e, decide_eq_true (show p < m by omega)]
  · rw [decide_eq_false e]; simp
theorem sx_srow_t {n i : Nat} {α : sx_A} {a : Nat} (h : sx_cm n α a i = true) : upd (sx_srow n α a i) i (sx_lead α a i) = sx_srow n α a (i + 1) := by
  funext p
  unfold upd sx_srow
  rw [sx_blt, sx_blt]
  by_cases e : p = i
  · subst e; simp [h]
  · rw [if_neg e]
    have : decide (p < i) = decide (p < i + 1) := decide_eq_decide.mpr (by omega)
    rw [this]
theorem sx_srow_f {n i : Nat} {α : sx_A} {a : Nat} (h : sx_cm n α a i = false) : sx_srow n α a i = sx_srow n α a (i + 1) := by
  funext p
  unfold sx_srow
  rw [sx_blt, sx_blt]
  by_cases e : p = i
  · subst e; simp [h]
  · have : decide (p < i) = decide (p < i + 1) := decide_eq_decide.mpr (by omega)
    rw [this]
theorem sx_neg_ne {c : Int32} {b pl : Nat} (hc : c.toInt = -(b : Int)) (h0 : 0 < b) (hb : b < 100) (hp : pl ≤ 12) : ¬ c - 2 * nI pl = 0 := by
  intro h
  have e : (2 * nI pl : Int32) = nI (2 * pl) := (sx_two pl).symm
  rw [e] at h
  have := congrArg Int32.toInt h
  rw [Int32.toInt_sub, hc, nI_toInt (by omega), sx_i0] at this
  simp only [Int.bmod] at this
  omega
theorem sx_fl_ok {n : Nat} {α : sx_A} {a : Nat} : ∀ (m k pl : Nat), pl + m ≤ 12 → sx_fl n α a m k pl = 0 → ∀ z, k ≤ z → z < k + m → ¬ α 11 (12 * a + z) = 0 → sx_loose n α a (sx_dp α a z) = false := by
  intro m
  induction m with
  | zero => intro k pl _ _ z h1 h2; omega
  | succ m ih =>
    intro k pl hpl h z h1 h2 h3
    simp only [sx_fl] at h
    by_cases e : α 11 (12 * a + k) = 0
    · rw [decide_eq_true e, cond_true] at h
      have : z ≠ k := fun q => by subst q; exact h3 e
      exact ih (k + 1) pl (by omega) h z (by omega) (by omega) h3
    · rw [decide_eq_false e, cond_false] at h
      cases c : sx_hu n α a (sx_dp α a k) with
      | false =>
        rw [c, cond_false] at h
        exact absurd h (sx_neg_ne (b := 10) (by decide) (by omega) (by omega) (by omega))
      | true =>
        rw [c, cond_true] at h
        cases d : sx_loose n α a (sx_dp α a k) with
        | true =>
          rw [d, cond_true] at h
          exact absurd h (sx_neg_ne (b := 11) (by decide) (by omega) (by omega) (by omega))
        | false =>
          rw [d, cond_false] at h
          by_cases q : z = k
          · subst q; exact d
          · exact ih (k + 1) (pl + 1) (by omega) h z (by omega) (by omega) h3
theorem sx_lead0 {α : sx_A} {a p : Nat} (h : α 10 (60 * a + p) = 0) : sx_lead α a p = 0 := by
  unfold sx_lead
  rw [h]
  rfl
/-- where nothing is loose, what is there leads to a file -/
theorem sx_lead_pos {n na L : Nat} {α : sx_A} {a p : Nat} (h : sx_INV n na L α) (ha : a < na) (hf : sx_fl n α a (sx_dN α a) 0 0 = 0) (hp : p < n) (hD : sx_isD α a true p = true) (hw : ¬ α 10 (60 * a + p) = 0) : 0 < sx_lead α a p := by
  have hA := sx_INV_A h ha
  obtain ⟨hd, -⟩ := sx_dN_ok hA
  have hpos : ¬ sx_lead α a p < 0 := sx_ld_ok _ _ _
  by_cases c : 0 < sx_lead α a p
  · exact c
  · have e0 := sx_tri c hpos
    exfalso
    by_cases q : α 10 (60 * a + p) < 0
    · unfold sx_isD at hD
      obtain ⟨k, hk, hk2⟩ := sx_any_t.mp hD
      rw [Bool.and_eq_true, decide_eq_true_eq] at hk2
      have hne : ¬ α 11 (12 * a + k) = 0 := by rw [hk2.1]; decide
      have hl := sx_fl_ok (sx_dN α a) 0 0 (by omega) hf k (by omega) (by omega) hne
      unfold sx_loose at hl
      rw [sx_any_f] at hl
      have := hl p hp
      have hp0 : 0 < p := by
        rcases Nat.eq_zero_or_pos p with z | z
        · subst z; exact absurd ((hA.2.2.2.2.1 0 (by omega)).2 (Or.inl rfl)) hw
        · exact z
      rw [sx_blt, decide_eq_true hp0, decide_eq_true q, hk2.2, decide_eq_true e0] at this
      cases this
    · have hgt : 0 < α 10 (60 * a + p) := by
        by_cases z : 0 < α 10 (60 * a + p)
        · exact z
        · exact absurd (sx_tri z q) hw
      unfold sx_lead at e0
      simp only [sx_ld] at e0
      rw [if_neg q, if_pos hgt] at e0
      exact hw e0
theorem sx_com_bit {n na L : Nat} {α : sx_A} {a : Nat} {rp : Int64} {v : Nat → Int32} {f l : Int64} (h : sx_INV n na L α) (ha : a < na) (hr : ∀ j, j < 64 → sx_bt rp j = (decide (j < n) && sx_isD α a true j)) (hW : sx_RW (sx_wd_ α a) v f l) : ∀ j, j < 64 → sx_bt (rp &&& (f ||| l)) j = (sx_cm n α a j && !decide (α 10 (60 * a + j) = 0)) := fun j hj => by
  have hn := h.1.1.2
  rw [sx_bt_and, hr j hj, sx_RW_tk hW hj, sx_cmI]
  show ((decide (j < n) && sx_isD α a true j) && (decide (j < 60) && !decide (α 10 (60 * a + j) = 0))) = _
  by_cases c : j < n
  · rw [decide_eq_true c, decide_eq_true (show j < 60 by omega)]
    by_cases d : 0 < j
    · rw [decide_eq_true d]; simp
    · rw [show j = 0 by omega, ((sx_INV_A h ha).2.2.2.2.1 0 (by omega)).2 (Or.inl rfl)]; simp
  · rw [decide_eq_false c]; simp
theorem sx_mk_eq {n na L : Nat} {α : sx_A} {a : Nat} {cm : Int64} (h : sx_INV n na L α) (hc : ∀ j, j < 64 → sx_bt cm j = (sx_cm n α a j && !decide (α 10 (60 * a + j) = 0))) (q : Nat) : sx_any (fun k => sx_bt cm k && sx_U (α 1) k q) n = sx_mk n α a q := by
  have hn := h.1.1.2
  unfold sx_mk
  refine sx_any_congr fun k hk => ?_
  rw [hc k (by omega), sx_cmI, decide_eq_true hk, sx_blt]
  cases decide (0 < k) <;> cases sx_isD α a true k <;> cases decide (α 10 (60 * a + k) = 0) <;> rfl
theorem sx_way_eq {n na L : Nat} {α : sx_A} {a : Nat} {ca rp : Int64} {v : Nat → Int32} {f l : Int64} (h : sx_INV n na L α) (hca : ∀ q, q < 64 → sx_bt ca q = sx_mk n α a q) (hr : ∀ j, j < 64 → sx_bt rp j = (decide (j < n) && sx_isD α a true j)) (hS : sx_RW (α 3) v f l) : ca &&& ((f ||| l) &&& (rp ^^^ (-1))) = 0 ↔ sx_way n α a = false := by
  have hn := h.1.1.2
  have hs : sx_SR n (α 3) := h.2.2.2.2.1
  unfold sx_way
  rw [sx_w0, sx_any_f]
  constructor
  · intro z k hk
    have := z k (by omega)
    rw [sx_bt_and, sx_bt_and, sx_bt_not _ (by omega), hca k (by omega), hr k (by omega), sx_srcT hs hS k (by omega), decide_eq_true hk, decide_eq_true (show k < 60 by omega)] at this
    revert this
    cases sx_mk n α a k <;> cases sx_isD α a true k <;> cases decide (0 < α 3 k) <;> simp
  · intro z k hk
    rw [sx_bt_and, sx_bt_and, sx_bt_not _ hk, hca k hk, hr k hk, sx_srcT hs hS k hk]
    by_cases c : k < n
    · have := z k c
      rw [sx_blt] at this
      by_cases d : 0 < k
      · rw [decide_eq_true d] at this
        rw [decide_eq_true c]
        revert this
        cases sx_mk n α a k <;> cases sx_isD α a true k <;> cases decide (0 < α 3 k) <;> simp
      · rw [show k = 0 by omega, hs.2.1]; simp
    · rw [hs.2.2 k (by omega)]; simp
theorem sx_cnt_com {n na L : Nat} {α : sx_A} {a : Nat} {cm : Int64} (h : sx_INV n na L α) (ha : a < na) (hf : sx_fl n α a (sx_dN α a) 0 0 = 0) (hc : ∀ j, j < 64 → sx_bt cm j = (sx_cm n α a j && !decide (α 10 (60 * a + j) = 0))) : sx_cnt (sx_bt cm) 64 = sx_cnt (fun p => sx_cm n α a p && decide (0 < sx_lead α a p)) n := by
  have hn := h.1.1.2
  rw [sx_cnt_0 (m := n) (k := 64) (by omega) (fun j a b => by rw [hc j b, sx_cmI, decide_eq_false (show ¬ j < n by omega)]; simp)]
  refine sx_cnt_congr fun k hk => ?_
  rw [hc k (by omega)]
  cases e : sx_cm n α a k with
  | false => rfl
  | true =>
    rw [sx_cmI] at e
    simp only [Bool.and_eq_true] at e
    rw [Bool.true_and, Bool.true_and]
    by_cases d : α 10 (60 * a + k) = 0
    · rw [decide_eq_true d, sx_lead0 d]; rfl
    · rw [decide_eq_false d, decide_eq_true (sx_lead_pos h ha hf hk e.2 d)]; rfl
