theorem sx_AG_s {α : sx_A} {i a b : Nat} {v : Int32} (hab : b ≠ a) (hi : i ≠ 5 ∧ i ≠ 11 ∧ i ≠ 9 ∧ i ≠ 10) : sx_AG α (sx_st α i a v) b := sx_AG_one hab (fun _ => rfl) (fun e => by omega) (fun e => by omega)
theorem sx_AG_k {α : sx_A} {i a b k : Nat} {v : Int32} (hab : b ≠ a) (hk : k < 12) (hi : i = 5 ∨ i = 11) : sx_AG α (sx_st α i (12 * a + k) v) b := sx_AG_one hab (fun e => by omega) (fun _ => ⟨k, hk, rfl⟩) (fun e => by omega)
theorem sx_AG_j {α : sx_A} {i a b j : Nat} {v : Int32} (hab : b ≠ a) (hj : j < 60) (hi : i = 9 ∨ i = 10) : sx_AG α (sx_st α i (60 * a + j) v) b := sx_AG_one hab (fun e => by omega) (fun e => by omega) (fun _ => ⟨j, hj, rfl⟩)
theorem sx_INV_A {n na L : Nat} {α : sx_A} {a : Nat} (h : sx_INV n na L α) (ha : a < na) : sx_ACT n L α a := h.2.2.2.2.2.1 a (by have := h.1.2.1; omega)
theorem sx_op_lt {n na L : Nat} {α : sx_A} {a : Nat} (h : sx_INV n na L α) (ha : a < na) (e : ¬ α 6 a = nI L) : ∃ o, o < L ∧ α 6 a = nI o := by
  obtain ⟨o, o1, o2⟩ := (sx_INV_A h ha).2.2.1
  refine ⟨o, ?_, o2⟩
  rcases Nat.lt_or_ge o L with q | q
  · exact q
  · rw [show o = L by omega] at o2
    exact absurd o2 e
theorem sx_ACT_op {n na L : Nat} {α : sx_A} {a : Nat} (h : sx_INV n na L α) (ha : a < na) (e : ¬ α 6 a = nI L) : sx_ACT n L (sx_st α 6 a (α 6 a + 1)) a := by
  obtain ⟨o, o1, o2⟩ := sx_op_lt h ha e
  rw [o2, nI_1]
  exact sx_ACT_6 (sx_INV_A h ha) o1
theorem sx_INV_op {n na L : Nat} {α : sx_A} {a : Nat} (h : sx_INV n na L α) (ha : a < na) (e : ¬ α 6 a = nI L) : sx_INV n na L (sx_st α 6 a (α 6 a + 1)) :=
  sx_INV_act h ha rfl rfl h.2.2.2.2.1 (fun b hb _ => sx_AG_s hb (by omega)) (sx_ACT_op h ha e)
theorem sx_INV_mayS {n na L : Nat} {α : sx_A} {a : Nat} {p q : Int32} (h : sx_INV n na L α) (ha : a < na) : sx_INV n na L (sx_mayS n L α a p q) := by
  unfold sx_mayS
  cases e1 : sx_ok n α a p q with
  | false => exact h
  | true =>
    by_cases e2 : α 6 a = nI L
    · rw [decide_eq_true e2]
      exact sx_INV_act h ha rfl rfl h.2.2.2.2.1 (fun b hb _ => sx_AG_s hb (by omega)) (sx_ACT_13 (b := true) (sx_INV_A h ha))
    · rw [decide_eq_false e2]
      exact sx_INV_op h ha e2
theorem sx_mayB_t {n L : Nat} {α : sx_A} {a : Nat} {p q : Int32} (h : sx_mayB n L α a p q = true) : (¬ α 12 a = 0) ∧ sx_has n p = true ∧ sx_has n q = true ∧ ¬ α 6 a = nI L := by
  simp only [sx_mayB, sx_ok, Bool.and_eq_true, Bool.not_eq_true', decide_eq_false_iff_not] at h
  exact ⟨h.1.1, h.1.2.1, h.1.2.2, h.2⟩
theorem sx_INV_do {n na L : Nat} {sb ok : Bool} {α : sx_A} {a : Nat} {p q v : Int32} (h : sx_INV n na L α) (ha : a < na) (hok : ok = true → sx_isW n α a p.toNatClampNeg = true) (hv : sx_mayB n L α a p q = true → ok = true → v < 0 → ∃ k, k < n ∧ v = -1 - nI k) : sx_INV n na L (sx_do n L sb α a p q ok v) := by
  have hn := sx_INV_n h
  unfold sx_do
  cases e1 : sx_mayB n L α a p q with
  | false => exact sx_INV_mayS h ha
  | true =>
    obtain ⟨m1, m2, m3, m4⟩ := sx_mayB_t e1
    have h1 := sx_INV_op h ha m4
    cases e2 : ok with
    | false =>
      refine sx_INV_act h1 ha rfl rfl h1.2.2.2.2.1 (fun b hb _ => sx_AG_tr (sx_AG_s hb (by omega)) (sx_AG_s hb (by omega))) ?_
      exact sx_ACT_13 (sx_ACT_7 (sx_INV_A h1 ha))
    | true =>
      obtain ⟨j, j1, rfl⟩ := sx_has_t hn m2
      have hj := hok e2
      rw [nI_clamp (by omega)] at hj
      have hj0 : 1 ≤ j := by
        rcases Nat.eq_zero_or_pos j with z | z
        · subst z
          rw [sx_z0 h.2.1 hn (by omega) (sx_INV_A h ha)] at hj
          cases hj
        · exact z
      show sx_INV n na L (sx_st (sx_st α 6 a (α 6 a + 1)) 10 (60 * a + (nI j).toNatClampNeg) v)
      rw [nI_clamp (by omega)]
      have := h.1.1.2
      exact sx_INV_act h1 ha rfl rfl h1.2.2.2.2.1 (fun b hb _ => sx_AG_j hb (by omega) (by omega)) (sx_ACT_10 (sx_INV_A h1 ha) hj0 j1 (hv e1 e2))
theorem sx_INV_write {n na L : Nat} {sb : Bool} {α : sx_A} {a : Nat} {p c : Int32} (h : sx_INV n na L α) (ha : a < na) : sx_INV n na L (sx_do n L sb α a p 0 (sx_wrO n α a p c) c) := by
  refine sx_INV_do h ha (fun e => ?_) (fun _ e z => ?_)
  · simp only [sx_wrO, Bool.and_eq_true] at e
    exact e.1.1
  · simp only [sx_wrO, Bool.and_eq_true, Bool.not_eq_true', decide_eq_false_iff_not] at e
    have e2 := e.2
    rw [Int32.lt_iff_toInt_lt] at e2 z
    have i1 : (1 : Int32).toInt = 1 := by decide
    have i0 : (0 : Int32).toInt = 0 := by decide
    omega
theorem sx_INV_link {n na L : Nat} {sb : Bool} {α : sx_A} {a : Nat} {p q : Int32} (h : sx_INV n na L α) (ha : a < na) : sx_INV n na L (sx_do n L sb α a p q (sx_lkO n α a p q) (-1 - q)) := by
  refine sx_INV_do h ha (fun e => ?_) (fun e _ _ => ?_)
  · simp only [sx_lkO, Bool.and_eq_true] at e
    exact e.1.1
  · obtain ⟨k, k1, rfl⟩ := sx_has_t (sx_INV_n h) (sx_mayB_t e).2.2.1
    exact ⟨k, k1, rfl⟩
theorem sx_INV_remove {n na L : Nat} {sb : Bool} {α : sx_A} {a : Nat} {p : Int32} (h : sx_INV n na L α) (ha : a < na) : sx_INV n na L (sx_do n L sb α a p 0 (sx_rmO n α a p) 0) := by
  refine sx_INV_do h ha (fun e => ?_) (fun _ _ z => absurd z (by decide))
  simp only [sx_rmO, Bool.and_eq_true] at e
  exact e.1
theorem sx_INV_open {n na L : Nat} {α : sx_A} {a : Nat} {p : Int32} (h : sx_INV n na L α) (ha : a < na) : sx_INV n na L (sx_openS n L α a p) := by
  have hn := sx_INV_n h
  unfold sx_openS
  cases e1 : sx_mayB n L α a p 0 with
  | false => exact sx_INV_mayS h ha
  | true =>
    cases e2 : (decide (0 < sx_lead α a p.toNatClampNeg) || sx_nt α a p.toNatClampNeg) with
    | true => exact sx_INV_mayS h ha
    | false =>
      obtain ⟨m1, m2, m3, m4⟩ := sx_mayB_t e1
      have h1 := sx_INV_op h ha m4
      obtain ⟨j, j1, rfl⟩ := sx_has_t hn m2
      simp only [Bool.or_eq_false_iff] at e2
      have e3 := e2.2
      rw [nI_clamp (by omega)] at e3
      have hn60 := h.1.1.2
      have hr : sx_tN α a < 60 := sx_room hn60 (sx_INV_A h ha) j1 e3
      exact sx_INV_act h1 ha rfl rfl h1.2.2.2.2.1 (fun b hb _ => sx_AG_tr (sx_AG_j hb hr (by omega)) (sx_AG_s hb (by omega))) (sx_ACT_9 hn60 (sx_INV_A h1 ha) j1 e3)
theorem sx_INV_dec {n na L : Nat} {α : sx_A} {a : Nat} {p : Int32} {o : Bool} (h : sx_INV n na L α) (ha : a < na) : sx_INV n na L (sx_decS n α a p o) := by
  have hn := sx_INV_n h
  have hA := sx_INV_A h ha
  obtain ⟨hd1, hd2⟩ := sx_dN_ok hA
  unfold sx_decS
  cases e : (sx_decO n α a p && !sx_decT α a p.toNatClampNeg) with
  | false => exact h
  | true =>
    simp only [sx_decO, Bool.and_eq_true, Bool.not_eq_true', decide_eq_false_iff_not] at e
    obtain ⟨⟨⟨e1, e2⟩, e3, -⟩, -⟩ := e
    obtain ⟨j, j1, rfl⟩ := sx_has_t hn e1
    have hj0 : 1 ≤ j := by
      rcases Nat.eq_zero_or_pos j with z | z
      · subst z; exact absurd rfl e2
      · exact z
    have hd : sx_dN α a < 12 := by
      rcases Nat.lt_or_ge (sx_dN α a) 12 with q | q
      · exact q
      · rw [show sx_dN α a = 12 by omega] at hd2
        exact absurd hd2 e3
    show sx_INV n na L (sx_st (sx_st (sx_st α 5 (12 * a + sx_dN α a) (nI j)) 11 (12 * a + sx_dN α a) (sx_bI o)) 4 a (α 4 a + 1))
    refine sx_INV_act h ha rfl rfl h.2.2.2.2.1 (fun b hb _ => sx_AG_tr (sx_AG_tr (sx_AG_k hb hd (by omega)) (sx_AG_k hb hd (by omega))) (sx_AG_s hb (by omega))) ?_
    generalize hdd : sx_dN α a = d at hd hd2 hd1 ⊢
    refine ⟨⟨d + 1, by omega, by rw [hd2, nI_1]; exact sx_at, fun k hk => ?_⟩, fun k hk => ?_, hA.2.2.1, hA.2.2.2.1, hA.2.2.2.2.1, hA.2.2.2.2.2.1, hA.2.2.2.2.2.2.1, hA.2.2.2.2.2.2.2⟩
    · show ∃ p, 1 ≤ p ∧ p < n ∧ sx_st α 5 (12 * a + d) (nI j) 5 (12 * a + k) = nI p
      by_cases c : k = d
      · subst c; exact ⟨j, hj0, j1, sx_at⟩
      · rw [sx_off (by omega)]
        obtain ⟨q1, q2, q3⟩ := sx_dp_ok hn hA (show k < sx_dN α a by omega)
        exact ⟨_, q1, q2, q3⟩
    · show ∃ b, sx_st (sx_st α 5 (12 * a + d) (nI j)) 11 (12 * a + d) (sx_bI o) 11 (12 * a + k) = sx_bI b
      by_cases c : k = d
      · subst c; exact ⟨o, sx_at⟩
      · rw [sx_off (by omega)]
        exact hA.2.1 k hk
theorem sx_nw_ok {n na L : Nat} {α : sx_A} {a p : Nat} (h : sx_INV n na L α) : ¬ sx_nw n α a p < 0 ∧ (p = 0 ∨ n ≤ p → sx_nw n α a p = 0) := by
  obtain ⟨s1, s2, s3⟩ := h.2.2.2.2.1
  unfold sx_nw
  cases e : (Nat.blt p n && sx_isD α a false p) with
  | false => exact ⟨(show ¬ (0 : Int32) < 0 by decide), fun _ => rfl⟩
  | true =>
    refine ⟨s1 p, fun z => ?_⟩
    rcases z with z | z
    · subst z; exact s2
    · exact s3 p z
theorem sx_INV_beg {n na L : Nat} {α : sx_A} {a : Nat} (h : sx_INV n na L α) (ha : a < na) : sx_INV n na L (sx_begS n α a) := by
  have hA := sx_INV_A h ha
  unfold sx_begS
  cases e : sx_begO n α a with
  | false => exact h
  | true =>
    have h10 : ∀ j, j < 60 → sx_wrow n α a 60 (60 * a + j) = sx_nw n α a j := by
      intro j hj
      have b1 : Nat.ble (60 * a) (60 * a + j) = true := Nat.ble_eq_true_of_le (by omega)
      have b2 : Nat.blt (60 * a + j) (60 * a + 60) = true := by simp only [Nat.blt]; exact Nat.ble_eq_true_of_le (by omega)
      simp only [sx_wrow, b1, b2, Bool.and_self, cond_true, Nat.add_sub_cancel_left]
    have hoth : ∀ b j, b ≠ a → j < 60 → sx_wrow n α a 60 (60 * b + j) = α 10 (60 * b + j) := by
      intro b j hb hj
      have b1 : (Nat.ble (60 * a) (60 * b + j) && Nat.blt (60 * b + j) (60 * a + 60)) = false := by
        cases c : (Nat.ble (60 * a) (60 * b + j) && Nat.blt (60 * b + j) (60 * a + 60)) with
        | false => rfl
        | true =>
          simp only [Bool.and_eq_true, Nat.blt] at c
          have c1 := Nat.le_of_ble_eq_true c.1
          have c2 := Nat.le_of_ble_eq_true c.2
          omega
      simp only [sx_wrow, b1, cond_false]
    have hrow : sx_ACT n L (sx_row α 10 (sx_wrow n α a 60)) a := by
      refine ⟨hA.1, hA.2.1, hA.2.2.1, hA.2.2.2.1, fun j hj => ?_, hA.2.2.2.2.2.1, hA.2.2.2.2.2.2.1, hA.2.2.2.2.2.2.2⟩
      show (sx_wrow n α a 60 (60 * a + j) < 0 → ∃ q, q < n ∧ sx_wrow n α a 60 (60 * a + j) = -1 - nI q) ∧ (j = 0 ∨ n ≤ j → sx_wrow n α a 60 (60 * a + j) = 0)
      rw [h10 j hj]
      exact ⟨fun z => absurd z (sx_nw_ok h).1, (sx_nw_ok h).2⟩
    have hag : ∀ b, b ≠ a → sx_AG α (sx_row α 10 (sx_wrow n α a 60)) b := fun b hb => ⟨⟨rfl, rfl, rfl, rfl, rfl, rfl, rfl⟩, fun _ _ => ⟨rfl, rfl⟩, fun j hj => ⟨rfl, hoth b j hb hj⟩⟩
    refine sx_INV_act h ha rfl rfl h.2.2.2.2.1 (fun b hb _ => sx_AG_tr (sx_AG_tr (sx_AG_tr (sx_AG_tr (sx_AG_tr (sx_AG_tr (hag b hb) (sx_AG_s hb (by omega))) (sx_AG_s hb (by omega))) (sx_AG_s hb (by omega))) (sx_AG_s hb (by omega))) (sx_AG_s hb (by omega))) (sx_AG_s hb (by omega))) ?_
    exact sx_ACT_80 (sx_ACT_7 (sx_ACT_6 (o := 0) (sx_ACT_13 (b := false) (sx_ACT_14 (b := true) (sx_ACT_12 (b := true) hrow))) (by omega)))
theorem sx_ld_ok (w : Nat → Int32) : ∀ (f : Nat) (x : Int32), ¬ sx_ld w f x < 0 := by
  intro f
  induction f with
  | zero =>
    intro x
    simp only [sx_ld]
    split
    · next h => exact fun z => Int32.lt_irrefl (Int32.lt_trans h z)
    · decide
  | succ f ih =>
    intro x
    simp only [sx_ld]
    split
    · exact ih _
    · split
      · next h => exact fun z => Int32.lt_irrefl (Int32.lt_trans h z)
      · decide
theorem sx_srow_ok {n na L : Nat} {α : sx_A} {a : Nat} (h : sx_INV n na L α) : sx_SR n (sx_srow n α a n) := by
  obtain ⟨s1, s2, s3⟩ := h.2.2.2.2.1
  refine ⟨fun j => ?_, ?_, fun j hj => ?_⟩
  · unfold sx_srow
    cases e : (Nat.blt j n && sx_cm n α a j) with
    | false => exact s1 j
    | true => exact sx_ld_ok _ _ _
  · unfold sx_srow sx_cm
    have : Nat.blt 0 0 = false := rfl
    simp only [this, Bool.false_and, Bool.and_false, cond_false]
    exact s2
  · unfold sx_srow
    have : Nat.blt j n = false := by
      cases c : Nat.blt j n with
      | false => rfl
      | true => have := Nat.le_of_ble_eq_true c; omega
    simp only [this, Bool.false_and, cond_false]
    exact s3 j hj
theorem sx_INV_fin {n na L : Nat} {α : sx_A} {a : Nat} {f : Bool} (h : sx_INV n na L α) (ha : a < na) : sx_INV n na L (sx_finS n α a f) := by
  have hA := sx_INV_A h ha
  unfold sx_finS
  cases e : decide (α 12 a = 0) with
  | true => exact h
  | false =>
    cases e2 : sx_finO n α a f with
    | false => exact sx_INV_act h ha rfl rfl h.2.2.2.2.1 (fun b hb _ => sx_AG_s hb (by omega)) (sx_ACT_12 (b := false) hA)
    | true =>
      have hrow : sx_ACT n L (sx_row α 3 (sx_srow n α a n)) a := hA
      exact sx_INV_act h ha rfl rfl (sx_srow_ok h) (fun b hb _ => sx_AG_tr (show sx_AG α (sx_row α 3 (sx_srow n α a n)) b from sx_AG_rf α b) (sx_AG_s hb (by omega))) (sx_ACT_12 (b := false) hrow)
theorem sx_INV_file {n na L : Nat} {α : sx_A} {p c : Int32} (h : sx_INV n na L α) : sx_INV n na L (sx_fileS n α p c) := by
  have hn := sx_INV_n h
  unfold sx_fileS
  cases e : sx_fileA n α p c with
  | false => exact h
  | true =>
    simp only [sx_fileA, Bool.and_eq_true, Bool.not_eq_true', decide_eq_false_iff_not] at e
    obtain ⟨⟨e1, e2, e3⟩, -⟩ := e
    obtain ⟨j, j1, rfl⟩ := sx_has_t hn e1
    rw [nI_clamp (by omega)]
    have hj0 : 1 ≤ j := by
      rcases Nat.eq_zero_or_pos j with z | z
      · subst z; exact absurd rfl e2
      · exact z
    obtain ⟨h0, h1, h2, h3, ⟨s1, s2, s3⟩, h5, h6⟩ := h
    refine ⟨h0, h1, h2, h3, ⟨fun i => ?_, ?_, fun i hi => ?_⟩, h5, h6⟩
    · by_cases z : i = j
      · subst z; show ¬ sx_st α 3 i c 3 i < 0; rw [sx_at]; exact e3
      · show ¬ sx_st α 3 j c 3 i < 0; rw [sx_off z]; exact s1 i
    · show sx_st α 3 j c 3 0 = 0; rw [sx_off (by omega)]; exact s2
    · show sx_st α 3 j c 3 i = 0; rw [sx_off (by omega)]; exact s3 i hi
theorem sx_INV_action {n na L : Nat} {α : sx_A} (h : sx_INV n na L α) : sx_INV n (sx_actN na) L α := by
  unfold sx_actN
  cases e : Nat.beq na 10 with
  | true => exact h
  | false =>
    have hne : na ≠ 10 := fun z => by subst z; cases e
    obtain ⟨⟨h0, h0a, h0b⟩, h1, h2, h3, h4, h5, h6⟩ := h
    exact ⟨⟨h0, by show na + 1 ≤ 10; omega, h0b⟩, h1, h2, h3, h4, h5, fun a ha hb => h6 a (by have ha : na + 1 ≤ a := ha; omega) hb⟩
theorem sx_INV_path {n na L : Nat} {α : sx_A} {p c : Int32} (h : sx_INV n na L α) : sx_INV (sx_pathN n α p c) na L (sx_pathS n α p c) := by
  have hn := sx_INV_n h
  unfold sx_pathN sx_pathS
  cases e : sx_new n α p c with
  | false => exact h
  | true =>
    simp only [sx_new, Bool.and_eq_true, Bool.not_eq_true', decide_eq_true_eq] at e
    obtain ⟨⟨e1, e2⟩, e3, e4⟩ := e
    obtain ⟨j, j1, rfl⟩ := sx_has_t hn e1
    have hne : n ≠ 60 := fun z => by subst z; cases e4
    have hch : ∀ k, 0 < k → k < n → ¬ (α 1 k = nI j ∧ α 2 k = c) := by
      rcases sx_ch_ok (α := α) (p := nI j) (c := c) n hn with ⟨_, b⟩ | ⟨k, k1, k2, _, _, k5⟩
      · exact b
      · rw [e3] at k5; exact absurd k5.symm (sx_nI_m1 (by omega))
    obtain ⟨⟨⟨h0, h00⟩, h0b⟩, h1, h2, h3, ⟨s1, s2, s3⟩, h5, h6⟩ := h
    have r1 : ∀ k, k < n → (sx_st (sx_st α 1 n (nI j)) 2 n c) 1 k = α 1 k := fun k hk => by show sx_st α 1 n (nI j) 1 k = α 1 k; exact sx_off (by omega)
    have r2 : ∀ k, k < n → (sx_st (sx_st α 1 n (nI j)) 2 n c) 2 k = α 2 k := fun k hk => by show sx_st (sx_st α 1 n (nI j)) 2 n c 2 k = α 2 k; exact sx_off (by omega)
    have q1 : (sx_st (sx_st α 1 n (nI j)) 2 n c) 1 n = nI j := by show sx_st α 1 n (nI j) 1 n = nI j; exact sx_at
    have q2 : (sx_st (sx_st α 1 n (nI j)) 2 n c) 2 n = c := sx_at
    show sx_INV (n + 1) na L (sx_st (sx_st α 1 n (nI j)) 2 n c)
    generalize hβ : sx_st (sx_st α 1 n (nI j)) 2 n c = β at r1 r2 q1 q2 ⊢
    have hag : ∀ a, sx_AG α β a := fun a => by rw [← hβ]; exact sx_AG_rf α a
    have h3r : β 3 = α 3 := by rw [← hβ]; rfl
    refine ⟨⟨⟨by omega, by omega⟩, h0b⟩, ⟨by rw [r1 0 (by omega)]; exact h1.1, fun k a b => ?_⟩, fun k a b => ?_, fun i k a b x d u w => ?_, ⟨by rw [h3r]; exact s1, by rw [h3r]; exact s2, fun i hi => by rw [h3r]; exact s3 i (by omega)⟩, fun a ha => sx_ACT_ag (by omega) (fun i z1 z2 => ((h5 a ha).2.2.2.2.1 i z1).2 (Or.inr (by omega))) (hag a) (h5 a ha), fun a ha hb => sx_FR_ag (hag a) (h6 a ha hb)⟩
    · by_cases z : k = n
      · subst z; exact ⟨j, j1, q1⟩
      · rw [r1 k (by omega)]; exact h1.2 k a (by omega)
    · by_cases z : k = n
      · subst z; rw [q2]; exact e2
      · rw [r2 k (by omega)]; exact h2 k a (by omega)
    · by_cases z : i = n <;> by_cases z2 : k = n
      · omega
      · subst z
        rw [q1, r1 k (by omega)] at u
        rw [q2, r2 k (by omega)] at w
        exact absurd ⟨u.symm, w.symm⟩ (hch k (by omega) (by omega))
      · subst z2
        rw [q1, r1 i (by omega)] at u
        rw [q2, r2 i (by omega)] at w
        exact absurd ⟨u, w⟩ (hch i (by omega) (by omega))
      · rw [r1 i (by omega), r1 k (by omega)] at u
        rw [r2 i (by omega), r2 k (by omega)] at w
        exact h3 i k a (by omega) x (by omega) u w
def sx_A0 : sx_A := sx_st (fun _ _ => 0) 1 0 (-1)
theorem sx_INV_0 {L : Nat} (h1 : 1 ≤ L) (h2 : L ≤ 500) : sx_INV 1 0 L sx_A0 := by
  refine ⟨⟨⟨by omega, by omega⟩, by omega, h1, h2⟩, ⟨sx_at, fun k a b => by omega⟩, fun k a b => by omega, fun i k a b => by omega, ⟨fun j => (show ¬ (0 : Int32) < 0 by decide), rfl, fun j _ => rfl⟩, fun a ha => ?_, fun a _ _ => ⟨⟨rfl, rfl, rfl, rfl, rfl, rfl, rfl⟩, fun _ _ => ⟨rfl, rfl⟩, fun _ _ => ⟨rfl, rfl⟩⟩⟩
  exact ⟨⟨0, by omega, rfl, fun k hk => absurd hk (Nat.not_lt_zero k)⟩, fun k _ => ⟨false, rfl⟩, ⟨0, by omega, rfl⟩, ⟨0, by omega, rfl, fun k hk => absurd hk (Nat.not_lt_zero k), fun i k hi => absurd hi (Nat.not_lt_zero i)⟩, fun j _ => ⟨fun z => absurd z (by show ¬ (0 : Int32) < 0; decide), fun _ => rfl⟩, ⟨false, rfl⟩, ⟨false, rfl⟩, ⟨false, rfl⟩⟩
