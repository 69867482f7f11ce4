/-! Long.bitCount: the number of bits. -/
def sx_g1 (b : Nat) : Nat := b - ((b / 2) &&& 85)
def sx_g2 (y : Nat) : Nat := (y &&& 51) + ((y / 4) &&& 51)
def sx_g3 (y : Nat) : Nat := (y + y / 16) % 16
def sx_G (b : Nat) : Nat := sx_g3 (sx_g2 (sx_g1 b))
def sx_m (c : Nat) : Nat → Nat
  | 0 => 0
  | k + 1 => c + 256 * sx_m c k
def sx_s1 (k x : Nat) : Nat := x - ((x / 2) &&& sx_m 85 k)
def sx_s2 (k y : Nat) : Nat := (y &&& sx_m 51 k) + ((y / 4) &&& sx_m 51 k)
def sx_s3 (k y : Nat) : Nat := (y + y / 16) &&& sx_m 15 k
theorem sx_and256 (A μ m : Nat) (hμ : μ < 256) : A &&& (μ + 256 * m) = ((A % 256) &&& μ) + 256 * ((A / 256) &&& m) := by
  have h1 : (A &&& (μ + 256 * m)) % 2 ^ 8 = (A % 2 ^ 8) &&& ((μ + 256 * m) % 2 ^ 8) := Nat.and_mod_two_pow
  have h2 : (A &&& (μ + 256 * m)) / 2 ^ 8 = (A / 2 ^ 8) &&& ((μ + 256 * m) / 2 ^ 8) := Nat.and_div_two_pow
  rw [show (μ + 256 * m) % 2 ^ 8 = μ by omega] at h1
  rw [show (μ + 256 * m) / 2 ^ 8 = m by omega] at h2
  have e : (2 : Nat) ^ 8 = 256 := by decide
  rw [e] at h1 h2
  rw [← h1, ← h2]
  omega
theorem sx_andlow (A μ s : Nat) (hμ : μ < 2 ^ s) : A &&& μ = (A % 2 ^ s) &&& μ := by
  have h1 : (A &&& μ) % 2 ^ s = (A % 2 ^ s) &&& (μ % 2 ^ s) := Nat.and_mod_two_pow
  rw [Nat.mod_eq_of_lt hμ, Nat.mod_eq_of_lt (Nat.lt_of_le_of_lt Nat.and_le_right hμ)] at h1
  exact h1
theorem sx_s1_s (k b y : Nat) (hb : b < 256) : sx_s1 (k + 1) (b + 256 * y) = sx_g1 b + 256 * sx_s1 k y := by
  unfold sx_s1 sx_g1
  rw [show sx_m 85 (k + 1) = 85 + 256 * sx_m 85 k from rfl, sx_and256 _ 85 _ (by decide), sx_andlow _ 85 7 (by decide), show (b + 256 * y) / 2 % 256 % 2 ^ 7 = b / 2 by omega, show (b + 256 * y) / 2 / 256 = y / 2 by omega]
  have h1 : (b / 2) &&& 85 ≤ b / 2 := Nat.and_le_left
  have h2 : (y / 2) &&& sx_m 85 k ≤ y / 2 := Nat.and_le_left
  generalize (b / 2) &&& 85 = u at h1 ⊢
  generalize (y / 2) &&& sx_m 85 k = v at h2 ⊢
  omega
theorem sx_s2_s (k b y : Nat) (hb : b < 256) : sx_s2 (k + 1) (b + 256 * y) = sx_g2 b + 256 * sx_s2 k y := by
  unfold sx_s2 sx_g2
  rw [show sx_m 51 (k + 1) = 51 + 256 * sx_m 51 k from rfl, sx_and256 _ 51 _ (by decide), sx_and256 _ 51 _ (by decide), sx_andlow ((b + 256 * y) / 4 % 256) 51 6 (by decide), show (b + 256 * y) / 4 % 256 % 2 ^ 6 = b / 4 by omega, show (b + 256 * y) / 4 / 256 = y / 4 by omega, show (b + 256 * y) % 256 = b by omega, show (b + 256 * y) / 256 = y by omega]
  omega
theorem sx_s3_s (k c y : Nat) (hc : c ≤ 68) (hy : y % 16 ≤ 4) : sx_s3 (k + 1) (c + 256 * y) = sx_g3 c + 256 * sx_s3 k y := by
  unfold sx_s3 sx_g3
  rw [show sx_m 15 (k + 1) = 15 + 256 * sx_m 15 k from rfl, sx_and256 _ 15 _ (by decide), show (c + 256 * y + (c + 256 * y) / 16) / 256 = y + y / 16 by omega]
  have h : (c + 256 * y + (c + 256 * y) / 16) % 256 &&& 15 = (c + c / 16) % 16 := by
    rw [show (15 : Nat) = 2 ^ 4 - 1 from rfl, Nat.and_two_pow_sub_one_eq_mod]
    omega
  rw [h]
theorem sx_byte : ∀ b, b < 256 → sx_g1 b < 256 ∧ sx_g2 (sx_g1 b) ≤ 68 ∧ sx_g2 (sx_g1 b) % 16 ≤ 4 ∧ sx_G b = sx_cnt (fun j => b.testBit j) 8 := by decide +kernel
theorem sx_nib (k x : Nat) : sx_s2 k (sx_s1 k x) % 16 ≤ 4 := by
  cases k with
  | zero => simp [sx_s2, sx_m]
  | succ k =>
    have e : x = x % 256 + 256 * (x / 256) := by omega
    have hb := sx_byte (x % 256) (by omega)
    rw [e, sx_s1_s k _ _ (by omega), sx_s2_s k _ _ hb.1]
    have := hb.2.2.1
    omega
theorem sx_F_s (k b y : Nat) (hb : b < 256) : sx_s3 (k + 1) (sx_s2 (k + 1) (sx_s1 (k + 1) (b + 256 * y))) = sx_G b + 256 * sx_s3 k (sx_s2 k (sx_s1 k y)) := by
  have h := sx_byte b hb
  rw [sx_s1_s k b y hb, sx_s2_s k _ _ h.1, sx_s3_s k _ _ h.2.1 (sx_nib k y)]
  rfl
theorem sx_cnt_add (f : Nat → Bool) (a b : Nat) : sx_cnt f (a + b) = sx_cnt f a + sx_cnt (fun j => f (a + j)) b := by
  induction b with
  | zero => rfl
  | succ b ih =>
    show sx_cnt f (a + b) + (bif f (a + b) then 1 else 0) = _
    rw [ih]
    simp only [sx_cnt]
    omega
theorem sx_cnt_byte (x m : Nat) : sx_cnt (fun j => x.testBit j) (8 + m) = sx_G (x % 256) + sx_cnt (fun j => (x / 256).testBit j) m := by
  rw [sx_cnt_add, (sx_byte (x % 256) (by omega)).2.2.2]
  congr 1
  · refine sx_cnt_congr fun k hk => ?_
    rw [show (256 : Nat) = 2 ^ 8 from rfl, Nat.testBit_mod_two_pow]
    simp [hk]
  · refine sx_cnt_congr fun k hk => ?_
    rw [show (256 : Nat) = 2 ^ 8 from rfl, Nat.testBit_div_two_pow, Nat.add_comm]
theorem sx_G_le (b : Nat) (hb : b < 256) : sx_G b ≤ 8 := by
  rw [(sx_byte b hb).2.2.2]
  exact sx_cnt_le _ 8
def sx_fin (y : Nat) : Nat := ((y + y / 256) + (y + y / 256) / 65536) + ((y + y / 256) + (y + y / 256) / 65536) / 4294967296
theorem sx_sum8 (p0 p1 p2 p3 p4 p5 p6 p7 : Nat) (g0 : p0 ≤ 8) (g1 : p1 ≤ 8) (g2 : p2 ≤ 8) (g3 : p3 ≤ 8) (g4 : p4 ≤ 8) (g5 : p5 ≤ 8) (g6 : p6 ≤ 8) (g7 : p7 ≤ 8) : sx_fin (p0 + 256 * (p1 + 256 * (p2 + 256 * (p3 + 256 * (p4 + 256 * (p5 + 256 * (p6 + 256 * (p7 + 256 * 0)))))))) % 128 = p0 + (p1 + (p2 + (p3 + (p4 + (p5 + (p6 + (p7 + 0))))))) := by
  unfold sx_fin
  obtain ⟨y, hy⟩ : ∃ y, y = p0 + 256 * (p1 + 256 * (p2 + 256 * (p3 + 256 * (p4 + 256 * (p5 + 256 * (p6 + 256 * (p7 + 256 * 0))))))) := ⟨_, rfl⟩
  rw [← hy]
  have e1 : y / 256 = p1 + 256 * (p2 + 256 * (p3 + 256 * (p4 + 256 * (p5 + 256 * (p6 + 256 * p7))))) := by omega
  rw [e1]
  obtain ⟨v, hv⟩ : ∃ v, v = (p4 + p5) + 256 * (p5 + p6) + 65536 * (p6 + p7) + 16777216 * p7 := ⟨_, rfl⟩
  obtain ⟨t, ht⟩ : ∃ t, t = (p2 + p3) + 256 * (p3 + p4) + 65536 * v := ⟨_, rfl⟩
  obtain ⟨u, hu⟩ : ∃ u, u = y + (p1 + 256 * (p2 + 256 * (p3 + 256 * (p4 + 256 * (p5 + 256 * (p6 + 256 * p7)))))) := ⟨_, rfl⟩
  rw [← hu]
  have e2 : u = (p0 + p1) + 256 * (p1 + p2) + 65536 * t := by omega
  have e3 : u / 65536 = t := by clear e1 hu hy ht hv; omega
  rw [e3]
  obtain ⟨z, hz⟩ : ∃ z, z = (p4 + p5 + p6 + p7) + 256 * (p5 + p6 + p7) + 65536 * (p6 + p7) + 16777216 * p7 := ⟨_, rfl⟩
  obtain ⟨w, hw⟩ : ∃ w, w = u + t := ⟨_, rfl⟩
  rw [← hw]
  have e4 : w = (p0 + p1 + p2 + p3) + 256 * (p1 + p2 + p3 + p4) + 65536 * (p2 + p3 + p4 + p5) + 16777216 * (p3 + p4 + p5 + p6) + 4294967296 * z := by omega
  have e5 : w / 4294967296 = z := by clear e1 e2 e3 hu hy ht hv hw hz; omega
  rw [e5]
  clear e1 e2 e3 hu hy ht hv hw e5
  omega
theorem sx_pop (x : Nat) (hx : x < 2 ^ 64) : sx_fin (sx_s3 8 (sx_s2 8 (sx_s1 8 x))) % 128 = sx_cnt (fun j => x.testBit j) 64 := by
  have cut : ∀ z : Nat, z = z % 256 + 256 * (z / 256) := fun z => by omega
  have step : ∀ k z, sx_s3 (k + 1) (sx_s2 (k + 1) (sx_s1 (k + 1) z)) = sx_G (z % 256) + 256 * sx_s3 k (sx_s2 k (sx_s1 k (z / 256))) := fun k z => by
    have := sx_F_s k (z % 256) (z / 256) (by omega)
    rw [← cut z] at this
    exact this
  have z0 : ∀ z, sx_s3 0 (sx_s2 0 (sx_s1 0 z)) = 0 := fun z => by simp [sx_s3, sx_m]
  rw [show (64 : Nat) = 8 + (8 + (8 + (8 + (8 + (8 + (8 + (8 + 0))))))) from rfl, sx_cnt_byte, sx_cnt_byte, sx_cnt_byte, sx_cnt_byte, sx_cnt_byte, sx_cnt_byte, sx_cnt_byte, sx_cnt_byte]
  rw [step 7, step 6, step 5, step 4, step 3, step 2, step 1, step 0, z0]
  exact sx_sum8 _ _ _ _ _ _ _ _ (sx_G_le _ (by omega)) (sx_G_le _ (by omega)) (sx_G_le _ (by omega)) (sx_G_le _ (by omega)) (sx_G_le _ (by omega)) (sx_G_le _ (by omega)) (sx_G_le _ (by omega)) (sx_G_le _ (by omega))
