/-! The law's cases: what stands behind one. -/
def sx_chr (x : Int32) : Int32 := (x.toUInt32 % 65536).toInt32
theorem sx_chr_ok (x : Int32) : vp_nar .char (sx_chr x) = sx_chr x := by
  show ((x.toUInt32 % 65536) % 65536).toInt32 = (x.toUInt32 % 65536).toInt32
  congr 1
  apply UInt32.toNat_inj.mp
  simp [UInt32.toNat_mod]
theorem sx_range {na : Nat} (h : na ≤ 10) (x : Int32) : sx_has na x = false ∨ ∃ k, k < na ∧ x = nI k := by
  cases e : sx_has na x with
  | false => exact Or.inl rfl
  | true => exact Or.inr (sx_has_t (by omega) e)
def sx_KO (p : Program) (l : Launch) (e : Env) (s : State) (m : MethodId) (below : List Frame) (meth : Method) (c : Code) (D : va_G) (cA : Nat → ClassId) (b : Nat) (h hm : Nat → Nat) (L : Nat) (ls : Array Slot) (Q : State → Prop) : Prop :=
  ∀ (n na : Nat) (sb : Bool) (α : sx_A) (ab un : Nat → Int64) (sv : Nat → Int32) (sf sl : Int64) (acts : Nat → Option Nat) (cd : Int32) (cm mk : Nat → Int32) (g : Nat → Nat → Nat) (K : Nat → sx_KA) (H : Heap) (locs : List Loc) (cells slots : Nat),
    sx_LJ L n na α ab un sv sf sl acts g K → sx_PD D (fun q : Nat => s.heap.size ≤ q) (sx_LW cA h hm L n na sb α ab un sv sf sl acts cd cm mk g K) H → va_S (fun q : Nat => s.heap.size ≤ q) s.heap H locs → cells ≤ 26 + 6 * na → slots ≤ 2155 + 159 * na →
    W p l e room_1 s m #[Value.ref b] below meth c H locs cells slots Q (F0 m 649 ls [])
theorem sx_LW_of {D : va_G} {A : Nat → Prop} {H : Heap} {cA : Nat → ClassId} {h hm : Nat → Nat} {L n na : Nat} {sb : Bool} {α : sx_A} {ab un : Nat → Int64} {sv : Nat → Int32} {sf sl : Int64} {acts : Nat → Option Nat} {cd : Int32} {cm mk : Nat → Int32} {g : Nat → Nat → Nat} {K : Nat → sx_KA} {p1 p2 : Nat → Int32} (e1 : α 1 = p1) (e2 : α 2 = p2) (hPD : sx_PD D A (wX cA h (nI L) (nI na) (sx_bI sb) (nI n) p1 p2 ab un sv sf sl acts ++ (wMa cA hm L cd n na sb α cm mk ++ sx_pool cA g K na)) H) : sx_PD D A (sx_LW cA h hm L n na sb α ab un sv sf sl acts cd cm mk g K) H := by
  unfold sx_LW; rw [e1, e2]; exact hPD
theorem sx_K0_eq {cA : Nat → ClassId} {h u : Nat → Nat} {lim ac sn cnt : Int32} {par ltr : Nat → Int32} {ab un : Nat → Int64} {sv : Nat → Int32} {sf sl : Int64} {acts : Nat → Option Nat} : wXA cA h u lim ac sn cnt par ltr ab un sv sf sl acts (fun _ => 0) (fun _ => 0) 0 0 0 0 0 0 (fun _ => 0) 0 0 (fun _ => 0) 0 0 = wX cA h lim ac sn cnt par ltr ab un sv sf sl acts ++ wAk cA u sx_K0 := rfl
