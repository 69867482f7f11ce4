/-! The law's world: the cells of both sides, and those of every action made so far. -/
theorem sx_P_mem {D : va_G} {cl : List vw_C} {ws ws' : va_W} {H : Heap} (h : va_P D cl ws H) (hs : ∀ q, q ∈ ws' → q ∈ ws) : va_P D cl ws' H := fun k q hk => by
  obtain ⟨i, hi⟩ := List.getElem?_of_mem (hs q (List.mem_of_getElem? hk))
  exact h i q hi
theorem sx_D_nd {A : Nat → Prop} {ws : va_W} : va_D A ws ↔ (ws.map Prod.fst).Nodup ∧ ∀ q, q ∈ ws → A q.1 := by
  constructor
  · intro h
    refine ⟨List.pairwise_iff_getElem.mpr (fun i j hi hj hij e => ?_), fun q hq => ?_⟩
    · have hi' : i < ws.length := by rw [List.length_map] at hi; exact hi
      have hj' : j < ws.length := by rw [List.length_map] at hj; exact hj
      rw [List.getElem_map, List.getElem_map] at e
      have := h.1 i j ws[i] ws[j] (List.getElem?_eq_getElem hi') (List.getElem?_eq_getElem hj') e
      omega
    · obtain ⟨i, hi⟩ := List.getElem?_of_mem hq
      exact h.2 i q hi
  · intro h
    refine ⟨fun i j x y hx hy e => ?_, fun k q hk => h.2 q (List.mem_of_getElem? hk)⟩
    obtain ⟨hi, rfl⟩ := List.getElem?_eq_some_iff.mp hx
    obtain ⟨hj, rfl⟩ := List.getElem?_eq_some_iff.mp hy
    have key : ∀ a b : Nat, (ha : a < ws.length) → (hb : b < ws.length) → a < b → ws[a].1 ≠ ws[b].1 := fun a b ha hb hab => by
      have := List.pairwise_iff_getElem.mp h.1 a b (by rw [List.length_map]; exact ha) (by rw [List.length_map]; exact hb) hab
      rw [List.getElem_map, List.getElem_map] at this
      exact this
    rcases Nat.lt_trichotomy i j with q | q | q
    · exact absurd e (key i j hi hj q)
    · exact q
    · exact absurd e.symm (key j i hj hi q)
def sx_PD (D : va_G) (A : Nat → Prop) (ws : va_W) (H : Heap) : Prop := va_P D vwCl ws H ∧ va_D A ws
theorem sx_PD.perm {D : va_G} {A : Nat → Prop} {ws ws' : va_W} {H : Heap} (h : sx_PD D A ws H) (hp : ws.Perm ws') : sx_PD D A ws' H :=
  ⟨sx_P_mem h.1 (fun q hq => hp.mem_iff.mpr hq), sx_D_nd.mpr ⟨(hp.map Prod.fst).nodup_iff.mp (sx_D_nd.mp h.2).1, fun q hq => (sx_D_nd.mp h.2).2 q (hp.mem_iff.mpr hq)⟩⟩
theorem sx_PD.left {D : va_G} {A : Nat → Prop} {w1 w2 : va_W} {H : Heap} (h : sx_PD D A (w1 ++ w2) H) : sx_PD D A w1 H := by
  refine ⟨sx_P_mem h.1 (fun q hq => List.mem_append_left _ hq), sx_D_nd.mpr ⟨?_, fun q hq => (sx_D_nd.mp h.2).2 q (List.mem_append_left _ hq)⟩⟩
  have := (sx_D_nd.mp h.2).1
  rw [List.map_append] at this
  exact (List.nodup_append.mp this).1
theorem sx_rangeC (w : va_W) : (List.range w.length).map (fun i => w[i]?) = w.map some := by
  apply List.ext_getElem
  · simp
  · intro i h1 h2
    simp at h1 h2 ⊢
section SXL
variable {p : Program} {l : Launch} {e : Env} {R : Room} {s : State} {m : MethodId} {args : Array Value} {below : List Frame} {meth : Method} {c : Code} {H : Heap} {locs : List Loc} {cells slots : Nat} {Q : State → Prop}
variable {pc : Nat} {ls : Array Slot} {rest st0 : List Value} {a : Array Value} {A0 : Nat → Prop} {H0 : Heap} {mc ms : Nat} {D : va_G} {wc wr : va_W}
theorem sx_freeL (hD : sx_PD D A0 (wc ++ wr) H) (hS : va_S A0 H0 H locs) (hA : ∀ q, H0.size ≤ q → A0 q) : ∀ q, va_A wc H.size q → A0 q := by
  intro q h
  rcases h with ⟨k, e, h⟩ | h
  · exact (sx_D_nd.mp hD.2).2 (q, e) (List.mem_append_left _ (List.mem_of_getElem? h))
  · exact hA q (Nat.le_trans hS.1 h)
theorem sx_joinL {H1 : Heap} {w1 : va_W} (h : sx_PD D A0 (wc ++ wr) H) (hF : ∀ q, va_A wc H.size q → A0 q) (hk : ∀ q : Nat, q < H.size → ¬ va_A wc H.size q → H1[q]? = H[q]?) (hP1 : va_P D vwCl w1 H1) (hD1 : va_D (va_A wc H.size) w1) : sx_PD D A0 (w1 ++ wr) H1 := by
  have := va_joinQ (wr := []) h.1 h.2 (List.range wc.length) [] (sx_rangeC wc) rfl rfl (fun i hi => by cases hi) hk hF hP1 hD1
  exact this
theorem sx_callL {S : Type} {post : Int32 → S → Prop} {w1 : S → va_W} (hr : va_Run p l e R s m args below meth c H locs cells slots mc ms (F0 m pc ls st0) rest (va_Qi post (sx_Bw D wc H.size w1) (va_A wc H.size) a) (va_A wc H.size)) (hPD : sx_PD D A0 (wc ++ wr) H) (hS : va_S A0 H0 H locs) (hA : ∀ q, H0.size ≤ q → A0 q)
    (kk : ∀ (r : Int32) (u : S) (H1 : Heap) (locs1 : List Loc), post r u → sx_PD D A0 (w1 u ++ wr) H1 → va_S A0 H0 H1 locs1 → W p l e R s m args below meth c H1 locs1 (cells + mc) (slots + ms) Q (F0 m (pc + 3) ls (.int r :: rest))) : W p l e R s m args below meth c H locs cells slots Q (F0 m pc ls st0) := by
  have hF := sx_freeL hPD hS hA
  refine va_calli hr hS (fun q _ h => hF q h) hF (fun r u t H1 locs1 ht _ hw hB _ hk hS1 => ?_)
  obtain ⟨hP1, hD1⟩ := hB
  rw [ht] at hP1
  exact kk r u H1 locs1 hw (sx_joinL hPD hF hk hP1 hD1) hS1
theorem sx_callLv {S : Type} {post : S → Prop} {w1 : S → va_W} (hr : va_Run p l e R s m args below meth c H locs cells slots mc ms (F0 m pc ls st0) rest (va_Qv post (sx_Bw D wc H.size w1) (va_A wc H.size) a) (va_A wc H.size)) (hPD : sx_PD D A0 (wc ++ wr) H) (hS : va_S A0 H0 H locs) (hA : ∀ q, H0.size ≤ q → A0 q)
    (kk : ∀ (u : S) (H1 : Heap) (locs1 : List Loc), post u → sx_PD D A0 (w1 u ++ wr) H1 → va_S A0 H0 H1 locs1 → W p l e R s m args below meth c H1 locs1 (cells + mc) (slots + ms) Q (F0 m (pc + 3) ls rest)) : W p l e R s m args below meth c H locs cells slots Q (F0 m pc ls st0) := by
  have hF := sx_freeL hPD hS hA
  refine va_callv hr hS (fun q _ h => hF q h) hF (fun u t H1 locs1 ht _ hw hB _ hk hS1 => ?_)
  obtain ⟨hP1, hD1⟩ := hB
  rw [ht] at hP1
  exact kk u H1 locs1 hw (sx_joinL hPD hF hk hP1 hD1) hS1
end SXL
def sx_pool (cA : Nat → ClassId) (g : Nat → Nat → Nat) (K : Nat → sx_KA) : Nat → va_W
  | 0 => []
  | k + 1 => sx_pool cA g K k ++ wAk cA (g k) (K k)
def sx_rest (cA : Nat → ClassId) (g : Nat → Nat → Nat) (K : Nat → sx_KA) (a : Nat) : Nat → va_W
  | 0 => []
  | k + 1 => sx_rest cA g K a k ++ (if k = a then [] else wAk cA (g k) (K k))
theorem sx_rest_all {cA : Nat → ClassId} {g : Nat → Nat → Nat} {K : Nat → sx_KA} {a : Nat} : ∀ na, na ≤ a → sx_rest cA g K a na = sx_pool cA g K na := by
  intro na
  induction na with
  | zero => intro _; rfl
  | succ k ih =>
    intro h
    show sx_rest cA g K a k ++ (if k = a then [] else wAk cA (g k) (K k)) = sx_pool cA g K k ++ wAk cA (g k) (K k)
    rw [ih (by omega), if_neg (by omega)]
theorem sx_pool_perm {cA : Nat → ClassId} {g : Nat → Nat → Nat} {K : Nat → sx_KA} {a : Nat} : ∀ na, a < na → (sx_pool cA g K na).Perm (wAk cA (g a) (K a) ++ sx_rest cA g K a na) := by
  intro na
  induction na with
  | zero => intro h; omega
  | succ k ih =>
    intro h
    show (sx_pool cA g K k ++ wAk cA (g k) (K k)).Perm (wAk cA (g a) (K a) ++ (sx_rest cA g K a k ++ (if k = a then [] else wAk cA (g k) (K k))))
    by_cases e : k = a
    · subst e
      rw [if_pos rfl, List.append_nil, sx_rest_all k (Nat.le_refl k)]
      exact List.perm_append_comm
    · rw [if_neg e, ← List.append_assoc]
      exact (ih (by omega)).append_right _
theorem sx_rest_up {cA : Nat → ClassId} {g : Nat → Nat → Nat} {K : Nat → sx_KA} {a : Nat} {k' : sx_KA} : ∀ na, sx_rest cA g (fun b => if b = a then k' else K b) a na = sx_rest cA g K a na := by
  intro na
  induction na with
  | zero => rfl
  | succ k ih =>
    show sx_rest cA g (fun b => if b = a then k' else K b) a k ++ _ = sx_rest cA g K a k ++ _
    rw [ih]
    by_cases e : k = a
    · rw [if_pos e, if_pos e]
    · rw [if_neg e, if_neg e]
      show _ ++ wAk cA (g k) (if k = a then k' else K k) = _
      rw [if_neg e]
theorem sx_pool_old {cA : Nat → ClassId} {g g' : Nat → Nat → Nat} {K K' : Nat → sx_KA} : ∀ na, (∀ k, k < na → g' k = g k ∧ K' k = K k) → sx_pool cA g' K' na = sx_pool cA g K na := by
  intro na
  induction na with
  | zero => intro _; rfl
  | succ k ih =>
    intro h
    show sx_pool cA g' K' k ++ wAk cA (g' k) (K' k) = _
    rw [ih (fun j hj => h j (by omega)), (h k (by omega)).1, (h k (by omega)).2]; rfl
theorem sx_XAk_eq {cA : Nat → ClassId} {h g : Nat → Nat} {lim ac sn cnt : Int32} {par ltr : Nat → Int32} {ab un : Nat → Int64} {sv : Nat → Int32} {sf sl : Int64} {acts : Nat → Option Nat} {k : sx_KA} : wXAk cA h g lim ac sn cnt par ltr ab un sv sf sl acts k = wX cA h lim ac sn cnt par ltr ab un sv sf sl acts ++ wAk cA g k := rfl
/-- both sides and the pool -/
def sx_LW (cA : Nat → ClassId) (h hm : Nat → Nat) (L n na : Nat) (sb : Bool) (α : sx_A) (ab un : Nat → Int64) (sv : Nat → Int32) (sf sl : Int64) (acts : Nat → Option Nat) (cd : Int32) (cm mk : Nat → Int32) (g : Nat → Nat → Nat) (K : Nat → sx_KA) : va_W :=
  wX cA h (nI L) (nI na) (sx_bI sb) (nI n) (α 1) (α 2) ab un sv sf sl acts ++ (wMa cA hm L cd n na sb α cm mk ++ sx_pool cA g K na)
def sx_LJ (L n na : Nat) (α : sx_A) (ab un : Nat → Int64) (sv : Nat → Int32) (sf sl : Int64) (acts : Nat → Option Nat) (g : Nat → Nat → Nat) (K : Nat → sx_KA) : Prop :=
  sx_INV n na L α ∧ sx_RP n (α 1) ab un ∧ sx_RW (α 3) sv sf sl ∧ ∀ a, a < na → sx_RA α a (K a) ∧ acts a = some (g a 0)
/-- X, M, pool to M, X, pool and back -/
theorem sx_swap3 {X M P : va_W} : (X ++ (M ++ P)).Perm (M ++ (X ++ P)) := by
  rw [← List.append_assoc, ← List.append_assoc]
  exact List.perm_append_comm.append_right _
theorem sx_take {cA : Nat → ClassId} {g : Nat → Nat → Nat} {K : Nat → sx_KA} {a na : Nat} {X M : va_W} (ha : a < na) : (X ++ (M ++ sx_pool cA g K na)).Perm ((X ++ wAk cA (g a) (K a)) ++ (M ++ sx_rest cA g K a na)) := by
  rw [List.append_assoc]
  refine List.Perm.append_left X ?_
  refine ((sx_pool_perm na ha).append_left M).trans ?_
  exact sx_swap3
theorem sx_give {cA : Nat → ClassId} {g : Nat → Nat → Nat} {K : Nat → sx_KA} {k' : sx_KA} {a na : Nat} {X M : va_W} (ha : a < na) : ((X ++ wAk cA (g a) k') ++ (M ++ sx_rest cA g K a na)).Perm (X ++ (M ++ sx_pool cA g (fun b => if b = a then k' else K b) na)) := by
  have := (sx_take (cA := cA) (g := g) (K := fun b => if b = a then k' else K b) (X := X) (M := M) ha).symm
  rw [sx_rest_up, if_pos rfl] at this
  exact this
theorem sx_RW_60 {w w' v : Nat → Int32} {f l : Int64} (e : ∀ j, j < 60 → w' j = w j) (h : sx_RW w v f l) : sx_RW w' v f l := by
  obtain ⟨h1, h2, h3, h4⟩ := h
  refine ⟨fun j hj => ?_, fun j hj => ?_, fun j hj z => ?_, fun j hj q hq z => ?_⟩
  · rw [h1 j hj]
    by_cases c : j < 60
    · rw [e j c]
    · rw [decide_eq_false c, Bool.false_and, Bool.false_and]
  · rw [h2 j hj]
    by_cases c : j < 60
    · rw [e j c]
    · rw [decide_eq_false c, Bool.false_and, Bool.false_and]
  · rw [e j hj] at z ⊢; exact h3 j hj z
  · rw [e j hj] at z; exact h4 j hj q hq z
theorem sx_RA_ag {α α' : sx_A} {a : Nat} {k : sx_KA} (ht : sx_tN α a ≤ 60) (g : sx_AG α α' a) (h : sx_RA α a k) : sx_RA α' a k := by
  obtain ⟨⟨g4, g6, g7, g8, g12, g13, g14⟩, gk, gj⟩ := g
  obtain ⟨h0, h1, h2, h3, e0, e1, e2, e3, e4, e5, e6⟩ := h
  refine ⟨fun i hi => ⟨by rw [(gk i hi).1]; exact (h0 i hi).1, by rw [(gk i hi).2]; exact (h0 i hi).2⟩, fun j hj => by rw [(gj j hj).1]; exact h1 j hj, fun j hj => ?_, ?_, by rw [g4]; exact e0, by rw [g12]; exact e1, by rw [g14]; exact e2, by rw [g13]; exact e3, by rw [g6]; exact e4, by rw [g7]; exact e5, by rw [g8]; exact e6⟩
  · rw [h2 j hj]
    unfold sx_nt
    have et : sx_tN α' a = sx_tN α a := by unfold sx_tN; rw [g8]
    rw [et]
    exact sx_any_congr (fun z hz => by rw [(gj z (by omega)).1])
  · exact sx_RW_60 (fun j hj => (gj j hj).2) h3
def sx_OF (α α' : sx_A) (a : Nat) : Prop := (α' 1 = α 1 ∧ α' 2 = α 2 ∧ α' 3 = α 3) ∧ ∀ b, b ≠ a → sx_AG α α' b
theorem sx_OF_rf (α : sx_A) (a : Nat) : sx_OF α α a := ⟨⟨rfl, rfl, rfl⟩, fun b _ => sx_AG_rf α b⟩
theorem sx_OF_mayS {n L : Nat} {α : sx_A} {a : Nat} {p q : Int32} : sx_OF α (sx_mayS n L α a p q) a := by
  unfold sx_mayS
  cases sx_ok n α a p q with
  | false => exact sx_OF_rf α a
  | true => cases decide (α 6 a = nI L) with
    | true => exact ⟨⟨rfl, rfl, rfl⟩, fun b hb => sx_AG_s hb (by omega)⟩
    | false => exact ⟨⟨rfl, rfl, rfl⟩, fun b hb => sx_AG_s hb (by omega)⟩
theorem sx_OF_do {n na L : Nat} {sb ok : Bool} {α : sx_A} {a : Nat} {p q v : Int32} (h : sx_INV n na L α) : sx_OF α (sx_do n L sb α a p q ok v) a := by
  have hn := sx_INV_n h
  unfold sx_do
  cases e1 : sx_mayB n L α a p q with
  | false => exact sx_OF_mayS
  | true =>
    obtain ⟨m1, m2, m3, m4⟩ := sx_mayB_t e1
    cases ok with
    | false => exact ⟨⟨rfl, rfl, rfl⟩, fun b hb => sx_AG_tr (sx_AG_s hb (by omega)) (sx_AG_tr (sx_AG_s hb (by omega)) (sx_AG_s hb (by omega)))⟩
    | true =>
      obtain ⟨j, j1, rfl⟩ := sx_has_t hn m2
      have := h.1.1.2
      show sx_OF α (sx_st (sx_st α 6 a (α 6 a + 1)) 10 (60 * a + (nI j).toNatClampNeg) v) a
      rw [nI_clamp (by omega)]
      exact ⟨⟨rfl, rfl, rfl⟩, fun b hb => sx_AG_tr (sx_AG_s hb (by omega)) (sx_AG_j hb (by omega) (by omega))⟩
theorem sx_OF_open {n na L : Nat} {α : sx_A} {a : Nat} {p : Int32} (h : sx_INV n na L α) (ha : a < na) : sx_OF α (sx_openS n L α a p) a := by
  have hn := sx_INV_n h
  unfold sx_openS
  cases e1 : sx_mayB n L α a p 0 with
  | false => exact sx_OF_mayS
  | true =>
    cases e2 : (decide (0 < sx_lead α a p.toNatClampNeg) || sx_nt α a p.toNatClampNeg) with
    | true => exact sx_OF_mayS
    | false =>
      obtain ⟨m1, m2, m3, m4⟩ := sx_mayB_t e1
      obtain ⟨j, j1, rfl⟩ := sx_has_t hn m2
      simp only [Bool.or_eq_false_iff] at e2
      have e3 := e2.2
      rw [nI_clamp (by omega)] at e3
      have hr : sx_tN α a < 60 := sx_room h.1.1.2 (sx_INV_A h ha) j1 e3
      exact ⟨⟨rfl, rfl, rfl⟩, fun b hb => sx_AG_tr (sx_AG_s hb (by omega)) (sx_AG_tr (sx_AG_j hb hr (by omega)) (sx_AG_s hb (by omega)))⟩
theorem sx_OF_dec {n na L : Nat} {α : sx_A} {a : Nat} {p : Int32} {o : Bool} (h : sx_INV n na L α) (ha : a < na) : sx_OF α (sx_decS n α a p o) a := by
  have hn := sx_INV_n h
  obtain ⟨hd1, hd2⟩ := sx_dN_ok (sx_INV_A h ha)
  unfold sx_decS
  cases e : (sx_decO n α a p && !sx_decT α a p.toNatClampNeg) with
  | false => exact sx_OF_rf α a
  | true =>
    simp only [sx_decO, Bool.and_eq_true, Bool.not_eq_true', decide_eq_false_iff_not] at e
    obtain ⟨⟨⟨e1, e2⟩, e3, -⟩, -⟩ := e
    have hd : sx_dN α a < 12 := by
      rcases Nat.lt_or_ge (sx_dN α a) 12 with q | q
      · exact q
      · rw [show sx_dN α a = 12 by omega] at hd2
        exact absurd hd2 e3
    exact ⟨⟨rfl, rfl, rfl⟩, fun b hb => sx_AG_tr (sx_AG_tr (sx_AG_k hb hd (by omega)) (sx_AG_k hb hd (by omega))) (sx_AG_s hb (by omega))⟩
theorem sx_AG_wrow {n : Nat} {α : sx_A} {a b : Nat} (hb : b ≠ a) : sx_AG α (sx_row α 10 (sx_wrow n α a 60)) b := by
  refine ⟨⟨rfl, rfl, rfl, rfl, rfl, rfl, rfl⟩, fun _ _ => ⟨rfl, rfl⟩, fun j hj => ⟨rfl, ?_⟩⟩
  show sx_wrow n α a 60 (60 * b + j) = α 10 (60 * b + j)
  unfold sx_wrow
  rw [sx_ble, sx_blt]
  have : (decide (60 * a ≤ 60 * b + j) && decide (60 * b + j < 60 * a + 60)) = false := by
    rcases Nat.lt_or_gt_of_ne hb with q | q
    · rw [decide_eq_false (show ¬ 60 * a ≤ 60 * b + j by omega)]; rfl
    · rw [decide_eq_false (show ¬ 60 * b + j < 60 * a + 60 by omega), Bool.and_false]
  rw [this]; rfl
theorem sx_OF_beg {n : Nat} {α : sx_A} {a : Nat} : sx_OF α (sx_begS n α a) a := by
  unfold sx_begS
  cases sx_begO n α a with
  | false => exact sx_OF_rf α a
  | true => exact ⟨⟨rfl, rfl, rfl⟩, fun b hb => sx_AG_tr (sx_AG_wrow hb) (sx_AG_tr (sx_AG_s hb (by omega)) (sx_AG_tr (sx_AG_s hb (by omega)) (sx_AG_tr (sx_AG_s hb (by omega)) (sx_AG_tr (sx_AG_s hb (by omega)) (sx_AG_tr (sx_AG_s hb (by omega)) (sx_AG_s hb (by omega)))))))⟩
theorem sx_OF_fin {n : Nat} {α : sx_A} {a : Nat} {f : Bool} : (sx_finS n α a f 1 = α 1 ∧ sx_finS n α a f 2 = α 2) ∧ ∀ b, b ≠ a → sx_AG α (sx_finS n α a f) b := by
  unfold sx_finS
  cases decide (α 12 a = 0) with
  | true => exact ⟨⟨rfl, rfl⟩, fun b _ => sx_AG_rf α b⟩
  | false =>
    cases sx_finO n α a f with
    | false => exact ⟨⟨rfl, rfl⟩, fun b hb => sx_AG_s hb (by omega)⟩
    | true => exact ⟨⟨rfl, rfl⟩, fun b hb => sx_AG_tr (β := sx_row α 3 (sx_srow n α a n)) ⟨⟨rfl, rfl, rfl, rfl, rfl, rfl, rfl⟩, fun _ _ => ⟨rfl, rfl⟩, fun _ _ => ⟨rfl, rfl⟩⟩ (sx_AG_s hb (by omega))⟩
theorem sx_LJ_op {L n na : Nat} {α α' : sx_A} {ab un : Nat → Int64} {sv : Nat → Int32} {sf sl : Int64} {acts : Nat → Option Nat} {g : Nat → Nat → Nat} {K : Nat → sx_KA} {a : Nat} {k' : sx_KA} (hJ : sx_LJ L n na α ab un sv sf sl acts g K) (hI : sx_INV n na L α') (hO : sx_OF α α' a) (hR : sx_RA α' a k') : sx_LJ L n na α' ab un sv sf sl acts g (fun b => if b = a then k' else K b) := by
  obtain ⟨j1, j2, j3, j4⟩ := hJ
  obtain ⟨⟨e1, e2, e3⟩, hg⟩ := hO
  refine ⟨hI, by rw [e1]; exact j2, by rw [e3]; exact j3, fun b hb => ⟨?_, (j4 b hb).2⟩⟩
  show sx_RA α' b (if b = a then k' else K b)
  by_cases e : b = a
  · rw [if_pos e, e]; exact hR
  · rw [if_neg e]
    exact sx_RA_ag (sx_tN_ok (sx_INV_A j1 hb)).1 (hg b e) (j4 b hb).1
theorem sx_LJ_fin {L n na : Nat} {α α' : sx_A} {ab un : Nat → Int64} {sv sv' : Nat → Int32} {sf sl sf' sl' : Int64} {acts : Nat → Option Nat} {g : Nat → Nat → Nat} {K : Nat → sx_KA} {a : Nat} {k' : sx_KA} (hJ : sx_LJ L n na α ab un sv sf sl acts g K) (hI : sx_INV n na L α') (hO : (α' 1 = α 1 ∧ α' 2 = α 2) ∧ ∀ b, b ≠ a → sx_AG α α' b) (hR : sx_RA α' a k') (hS : sx_RW (α' 3) sv' sf' sl') : sx_LJ L n na α' ab un sv' sf' sl' acts g (fun b => if b = a then k' else K b) := by
  obtain ⟨j1, j2, j3, j4⟩ := hJ
  obtain ⟨⟨e1, e2⟩, hg⟩ := hO
  refine ⟨hI, by rw [e1]; exact j2, hS, fun b hb => ⟨?_, (j4 b hb).2⟩⟩
  show sx_RA α' b (if b = a then k' else K b)
  by_cases e : b = a
  · rw [if_pos e, e]; exact hR
  · rw [if_neg e]
    exact sx_RA_ag (sx_tN_ok (sx_INV_A j1 hb)).1 (hg b e) (j4 b hb).1
theorem sx_AG_path {n : Nat} {α : sx_A} {p c : Int32} {b : Nat} : sx_AG α (sx_pathS n α p c) b := by
  unfold sx_pathS
  cases sx_new n α p c with
  | false => exact sx_AG_rf α b
  | true => exact ⟨⟨rfl, rfl, rfl, rfl, rfl, rfl, rfl⟩, fun _ _ => ⟨rfl, rfl⟩, fun _ _ => ⟨rfl, rfl⟩⟩
theorem sx_AG_file {n : Nat} {α : sx_A} {p c : Int32} {b : Nat} : sx_AG α (sx_fileS n α p c) b := by
  unfold sx_fileS
  cases sx_fileA n α p c with
  | false => exact sx_AG_rf α b
  | true => exact ⟨⟨rfl, rfl, rfl, rfl, rfl, rfl, rfl⟩, fun _ _ => ⟨rfl, rfl⟩, fun _ _ => ⟨rfl, rfl⟩⟩
theorem sx_path3 {n : Nat} {α : sx_A} {p c : Int32} : sx_pathS n α p c 3 = α 3 := by
  unfold sx_pathS
  cases sx_new n α p c <;> rfl
theorem sx_file12 {n : Nat} {α : sx_A} {p c : Int32} : sx_fileS n α p c 1 = α 1 ∧ sx_fileS n α p c 2 = α 2 := by
  unfold sx_fileS
  cases sx_fileA n α p c <;> exact ⟨rfl, rfl⟩
theorem sx_LJ_path {L n na : Nat} {α : sx_A} {ab un ab' un' : Nat → Int64} {sv : Nat → Int32} {sf sl : Int64} {acts : Nat → Option Nat} {g : Nat → Nat → Nat} {K : Nat → sx_KA} {p c : Int32} (hJ : sx_LJ L n na α ab un sv sf sl acts g K) (hR : sx_RP (sx_pathN n α p c) (sx_pathS n α p c 1) ab' un') : sx_LJ L (sx_pathN n α p c) na (sx_pathS n α p c) ab' un' sv sf sl acts g K := by
  obtain ⟨j1, j2, j3, j4⟩ := hJ
  exact ⟨sx_INV_path j1, hR, by rw [sx_path3]; exact j3, fun b hb => ⟨sx_RA_ag (sx_tN_ok (sx_INV_A j1 hb)).1 sx_AG_path (j4 b hb).1, (j4 b hb).2⟩⟩
theorem sx_LJ_file {L n na : Nat} {α : sx_A} {ab un : Nat → Int64} {sv sv' : Nat → Int32} {sf sl sf' sl' : Int64} {acts : Nat → Option Nat} {g : Nat → Nat → Nat} {K : Nat → sx_KA} {p c : Int32} (hJ : sx_LJ L n na α ab un sv sf sl acts g K) (hS : sx_RW (sx_fileS n α p c 3) sv' sf' sl') : sx_LJ L n na (sx_fileS n α p c) ab un sv' sf' sl' acts g K := by
  obtain ⟨j1, j2, j3, j4⟩ := hJ
  exact ⟨sx_INV_file j1, by rw [sx_file12.1]; exact j2, hS, fun b hb => ⟨sx_RA_ag (sx_tN_ok (sx_INV_A j1 hb)).1 sx_AG_file (j4 b hb).1, (j4 b hb).2⟩⟩
def sx_K0 : sx_KA := sx_kA (fun _ => 0) (fun _ => 0) 0 0 0 0 0 0 (fun _ => 0) 0 0 (fun _ => 0) 0 0
theorem sx_RW_0 {w v : Nat → Int32} (h : ∀ j, j < 60 → w j = 0) : sx_RW w v 0 0 := by
  refine ⟨fun j hj => ?_, fun j hj => ?_, fun j hj z => ?_, fun j hj q hq z => ?_⟩
  · rw [sx_bt_0]
    by_cases c : j < 60
    · rw [h j c]; simp
    · rw [decide_eq_false c]; rfl
  · rw [sx_bt_0]
    by_cases c : j < 60
    · rw [h j c]; simp
    · rw [decide_eq_false c]; rfl
  · rw [h j hj] at z; exact absurd z (by decide)
  · rw [h j hj] at z
    exfalso
    have h1 := congrArg (fun x => -1 - x) z
    rw [sx_goal] at h1
    exact sx_nI_m1 (show q < 2 ^ 31 by omega) h1.symm
theorem sx_RA_0 {α : sx_A} {a : Nat} (h : sx_FR α a) : sx_RA α a sx_K0 := by
  obtain ⟨⟨f4, f6, f7, f8, f12, f13, f14⟩, fk, fj⟩ := h
  refine ⟨fun k hk => ⟨(fk k hk).1.symm, (fk k hk).2.symm⟩, fun j hj => (fj j hj).1.symm, fun j hj => ?_, sx_RW_0 (fun j hj => (fj j hj).2), f4.symm, f12.symm, f14.symm, f13.symm, f6.symm, f7.symm, f8.symm⟩
  show sx_bt 0 j = sx_nt α a j
  rw [sx_bt_0]
  unfold sx_nt sx_tN
  rw [f8]; rfl
theorem sx_LJ_act {L n na : Nat} {α : sx_A} {ab un : Nat → Int64} {sv : Nat → Int32} {sf sl : Int64} {acts : Nat → Option Nat} {g : Nat → Nat → Nat} {K : Nat → sx_KA} {u : Nat → Nat} (hJ : sx_LJ L n na α ab un sv sf sl acts g K) (hna : na < 10) : sx_LJ L n (na + 1) α ab un sv sf sl (va_up acts na (some (u 0))) (fun b => if b = na then u else g b) (fun b => if b = na then sx_K0 else K b) := by
  obtain ⟨j1, j2, j3, j4⟩ := hJ
  have hI : sx_INV n (na + 1) L α := by
    have := sx_INV_action j1
    unfold sx_actN at this
    rw [sx_beq_f (by omega)] at this
    exact this
  refine ⟨hI, j2, j3, fun b hb => ?_⟩
  show sx_RA α b (if b = na then sx_K0 else K b) ∧ va_up acts na (some (u 0)) b = some ((if b = na then u else g b) 0)
  by_cases e : b = na
  · rw [if_pos e, if_pos e, e, va_up_self]
    exact ⟨sx_RA_0 (j1.2.2.2.2.2.2 na (Nat.le_refl _) hna), rfl⟩
  · rw [if_neg e, if_neg e, va_up_ne _ _ e]
    exact j4 b (by omega)
theorem sx_push {cA : Nat → ClassId} {g : Nat → Nat → Nat} {K : Nat → sx_KA} {u : Nat → Nat} {k' : sx_KA} {na : Nat} {X M : va_W} : ((X ++ wAk cA u k') ++ (M ++ sx_pool cA g K na)).Perm (X ++ (M ++ sx_pool cA (fun b => if b = na then u else g b) (fun b => if b = na then k' else K b) (na + 1))) := by
  have e1 : sx_pool cA (fun b => if b = na then u else g b) (fun b => if b = na then k' else K b) (na + 1) = sx_pool cA g K na ++ wAk cA u k' := by
    show sx_pool cA (fun b => if b = na then u else g b) (fun b => if b = na then k' else K b) na ++ wAk cA (if na = na then u else g na) (if na = na then k' else K na) = _
    rw [if_pos rfl, if_pos rfl, sx_pool_old na (fun k hk => ⟨if_neg (by omega), if_neg (by omega)⟩)]
  rw [e1, List.append_assoc]
  refine List.Perm.append_left X ?_
  have := List.perm_append_comm (l₁ := wAk cA u k') (l₂ := M ++ sx_pool cA g K na)
  rw [List.append_assoc] at this
  exact this
