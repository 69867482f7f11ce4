/-! Made cells: their classes' numbers; what a new object holds. -/
theorem sx_nA {D : va_G} {cA : Nat → ClassId} {s : State} {c : ClassId} {ty : FieldType} (i : Nat) (h : sx_K D cA s) (hB : va_K D vwCl (sx_ty cA ++ [(c, ty)]) s) (hi : (sx_ty cA)[i]? = some (cA i, ty)) : c = cA i := by
  have h1 := (h.1.2 i _ hi).2
  have h2 := (hB.2 5 (c, ty) rfl).2
  cases ty with
  | object C =>
    obtain ⟨_, _, _, _, _, q1⟩ := h1
    obtain ⟨_, _, _, _, _, q2⟩ := h2
    exact Option.some.inj (q2.symm.trans q1)
  | _ => exact Option.some.inj (Eq.trans (Eq.symm h2) h1)
theorem sx_nA0 {D : va_G} {cA : Nat → ClassId} {s : State} {c : ClassId} (h : sx_K D cA s) (hB : va_K D vwCl (sx_ty cA ++ [(c, .int)]) s) : c = cA 0 := sx_nA 0 h hB rfl
theorem sx_nA1 {D : va_G} {cA : Nat → ClassId} {s : State} {c : ClassId} (h : sx_K D cA s) (hB : va_K D vwCl (sx_ty cA ++ [(c, .boolean)]) s) : c = cA 1 := sx_nA 1 h hB rfl
theorem sx_nA2 {D : va_G} {cA : Nat → ClassId} {s : State} {c : ClassId} (h : sx_K D cA s) (hB : va_K D vwCl (sx_ty cA ++ [(c, .char)]) s) : c = cA 2 := sx_nA 2 h hB rfl
theorem sx_nA3 {D : va_G} {cA : Nat → ClassId} {s : State} {c : ClassId} (h : sx_K D cA s) (hB : va_K D vwCl (sx_ty cA ++ [(c, .long)]) s) : c = cA 3 := sx_nA 3 h hB rfl
theorem sx_nA4 {D : va_G} {cA : Nat → ClassId} {s : State} {c : ClassId} (h : sx_K D cA s) (hB : va_K D vwCl (sx_ty cA ++ [(c, .object "SandboxTree$Action")]) s) : c = cA 4 := sx_nA 4 h hB rfl
def sx_lim (x : Int32) : Nat := if x < 1 then 1 else if 500 < x then 500 else x.toNatClampNeg
theorem sx_lim_le (x : Int32) : 1 ≤ sx_lim x ∧ sx_lim x ≤ 500 := by
  unfold sx_lim
  by_cases h1 : x < 1
  · rw [if_pos h1]; omega
  · rw [if_neg h1]
    by_cases h2 : 500 < x
    · rw [if_pos h2]; omega
    · rw [if_neg h2]
      rw [Int32.lt_iff_toInt_lt, sx_i1] at h1
      have e5 : (500 : Int32).toInt = 500 := by decide
      rw [Int32.lt_iff_toInt_lt, e5] at h2
      show 1 ≤ x.toInt.toNat ∧ x.toInt.toNat ≤ 500
      omega
theorem sx_lim_mid {x : Int32} (h1 : ¬ x < 1) (h2 : ¬ 500 < x) : nI x.toNatClampNeg = x := by
  have h0 : ¬ x < 0 := fun z => h1 (Int32.lt_trans z (by decide))
  obtain ⟨j, hj, rfl⟩ := nI_of h0
  rw [nI_clamp hj]
theorem sx_lim_X (x : Int32) : (if (1 : Int32) < (if x < 500 then x else 500) then (if x < 500 then x else 500) else 1) = nI (sx_lim x) := by
  have e5 : (500 : Int32).toInt = 500 := by decide
  unfold sx_lim
  by_cases h1 : x < 1
  · rw [if_pos h1]
    have a : x < 500 := Int32.lt_trans h1 (by decide)
    rw [if_pos a]
    have b : ¬ 1 < x := fun z => Int32.lt_irrefl (Int32.lt_trans h1 z)
    rw [if_neg b]; rfl
  · rw [if_neg h1]
    by_cases h2 : 500 < x
    · rw [if_pos h2]
      have a : ¬ x < 500 := fun z => Int32.lt_irrefl (Int32.lt_trans h2 z)
      rw [if_neg a, if_pos (by decide)]; rfl
    · rw [if_neg h2, sx_lim_mid h1 h2]
      by_cases a : x < 500
      · rw [if_pos a]
        by_cases b : 1 < x
        · rw [if_pos b]
        · rw [if_neg b]
          rw [Int32.lt_iff_toInt_lt, sx_i1] at h1 b
          exact Int32.toInt_inj.mp (by rw [sx_i1]; omega)
      · rw [if_neg a, if_pos (by decide)]
        rw [Int32.lt_iff_toInt_lt, e5] at h2 a
        exact Int32.toInt_inj.mp (by rw [e5]; omega)
theorem sx_df_A : ∀ j, j < 12 → defaultValue (t_A j) = vp_V [.null, .null, .int 0, .null, .int 0, .int 0, .int 0, .int 0, .int 0, .null, .int 0, .long 0] j := by decide +kernel
theorem sx_df_P : ∀ j, j < 5 → defaultValue (t_P j) = vp_V [.null, .null, .null, .null, .int 0] j := by decide +kernel
theorem sx_df_S : ∀ j, j < 3 → defaultValue (t_S j) = vp_V [.null, .long 0, .long 0] j := by decide +kernel
theorem sx_df_X : ∀ j, j < 6 → defaultValue (t_X j) = vp_V [.int 0, .null, .null, .null, .int 0, .int 0] j := by decide +kernel
theorem sx_df_M : ∀ j, j < 21 → defaultValue (t_M j) = vp_V [.int 0, .int 0, .int 0, .int 0, .int 0, .null, .null, .null, .null, .null, .null, .null, .null, .null, .null, .null, .null, .null, .null, .null, .null] j := by decide +kernel
theorem sx_lim_a {x : Int32} (h : ¬ nI 1 ≤ x) : nI 1 = nI (sx_lim x) := by
  have h1 : x < 1 := Int32.not_le.mp h
  unfold sx_lim; rw [if_pos h1]
theorem sx_lim_b {x : Int32} (h : nI 1 ≤ x) (h2 : ¬ x ≤ nI 500) : nI 500 = nI (sx_lim x) := by
  have a : ¬ x < 1 := Int32.not_lt.mpr h
  have b : 500 < x := Int32.not_le.mp h2
  unfold sx_lim; rw [if_neg a, if_pos b]
theorem sx_lim_c {x : Int32} (h : nI 1 ≤ x) (h2 : x ≤ nI 500) : x = nI (sx_lim x) := by
  have a : ¬ x < 1 := Int32.not_lt.mpr h
  have b : ¬ 500 < x := Int32.not_lt.mpr h2
  unfold sx_lim; rw [if_neg a, if_neg b]; exact (sx_lim_mid a b).symm
