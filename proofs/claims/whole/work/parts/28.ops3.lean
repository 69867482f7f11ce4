/-! path, file, source: outcome by outcome -/
theorem sx_path_no {n : Nat} {α : sx_A} {p c : Int32} (h : sx_has n p = false ∨ sx_isL c = false) : sx_pathA n α p c = -1 ∧ sx_pathN n α p c = n ∧ sx_pathS n α p c = α := by
  have e : (sx_has n p && sx_isL c) = false := by rcases h with h | h <;> rw [h] <;> simp
  unfold sx_pathA sx_pathN sx_pathS sx_new
  rw [e]; exact ⟨rfl, rfl, rfl⟩
theorem sx_path_old {n : Nat} {α : sx_A} {p c : Int32} (h1 : sx_has n p = true) (h2 : sx_isL c = true) (hc : ¬ sx_ch α p c n = -1) : sx_pathA n α p c = sx_ch α p c n ∧ sx_pathN n α p c = n ∧ sx_pathS n α p c = α := by
  unfold sx_pathA sx_pathN sx_pathS sx_new
  rw [h1, h2, decide_eq_false hc]; exact ⟨rfl, rfl, rfl⟩
theorem sx_path_full {n : Nat} {α : sx_A} {p c : Int32} (h1 : sx_has n p = true) (h2 : sx_isL c = true) (hc : sx_ch α p c n = -1) (hn : n = 60) : sx_pathA n α p c = -1 ∧ sx_pathN n α p c = n ∧ sx_pathS n α p c = α := by
  subst hn
  unfold sx_pathA sx_pathN sx_pathS sx_new
  rw [h1, h2, decide_eq_true hc]; exact ⟨hc, rfl, rfl⟩
theorem sx_path_new {n : Nat} {α : sx_A} {p c : Int32} (h1 : sx_has n p = true) (h2 : sx_isL c = true) (hc : sx_ch α p c n = -1) (hn : n < 60) : sx_pathA n α p c = nI n ∧ sx_pathN n α p c = n + 1 ∧ sx_pathS n α p c = sx_st (sx_st α 1 n p) 2 n c := by
  have hb : Nat.beq n 60 = false := by rw [sx_beq]; exact decide_eq_false (by omega)
  unfold sx_pathA sx_pathN sx_pathS sx_new
  rw [h1, h2, decide_eq_true hc, hb]; exact ⟨rfl, rfl, rfl⟩
theorem sx_path_rows {n : Nat} {α : sx_A} {p c : Int32} : sx_st (sx_st α 1 n p) 2 n c 1 = upd (α 1) n p ∧ sx_st (sx_st α 1 n p) 2 n c 2 = upd (α 2) n c := ⟨by rw [sx_st_ne (by decide), sx_st_eq], by rw [sx_st_eq, sx_st_ne (by decide)]⟩
theorem sx_file_no {n : Nat} {α : sx_A} {p c : Int32} (h : sx_fileA n α p c = false) : sx_bI (sx_fileA n α p c) = nI 0 ∧ sx_fileS n α p c = α := by
  unfold sx_fileS; rw [h]; exact ⟨rfl, rfl⟩
theorem sx_file_y {n j : Nat} {α : sx_A} {c : Int32} (hj : j < 2 ^ 31) (h : sx_fileA n α (nI j) c = true) : sx_bI (sx_fileA n α (nI j) c) = nI 1 ∧ sx_fileS n α (nI j) c = sx_st α 3 j c := by
  unfold sx_fileS; rw [h, nI_clamp hj]; exact ⟨rfl, rfl⟩
theorem sx_fileA_h {n : Nat} {α : sx_A} {p c : Int32} (h : sx_has n p = false) : sx_fileA n α p c = false := by unfold sx_fileA; rw [h]; rfl
theorem sx_fileA_0 {n : Nat} {α : sx_A} {p c : Int32} (h : p = 0) : sx_fileA n α p c = false := by unfold sx_fileA; rw [decide_eq_true h]; simp
theorem sx_fileA_c {n : Nat} {α : sx_A} {p c : Int32} (h : ¬ 0 ≤ c) : sx_fileA n α p c = false := by unfold sx_fileA; rw [decide_eq_true (Int32.not_le.mp h)]; simp
theorem sx_fileA_w {n j : Nat} {α : sx_A} {c : Int32} (hj : j < 2 ^ 31) (h : sx_inS n α j = true) : sx_fileA n α (nI j) c = false := by unfold sx_fileA; rw [nI_clamp hj, h]; simp
theorem sx_fileA_t {n j : Nat} {α : sx_A} {c : Int32} (hn : n < 2 ^ 31) (hj : j < n) (h0 : 0 < j) (hc : 0 ≤ c) (h : sx_inS n α j = false) : sx_fileA n α (nI j) c = true := by
  unfold sx_fileA
  rw [sx_has_nI hn hj, nI_clamp (by omega), h, decide_eq_false (nI_ne0 h0 (by omega)), decide_eq_false (Int32.not_lt.mpr hc)]
  rfl
theorem sx_file3 {α : sx_A} {j : Nat} {c : Int32} : sx_st α 3 j c 3 = upd (α 3) j c := sx_st_eq
theorem sx_ge_pos {c : Int32} (h : 0 ≤ c) (h2 : ¬ c = 0) : 0 < c := by
  by_cases z : 0 < c
  · exact z
  · exact absurd (sx_tri z (Int32.not_lt.mpr h)) h2
