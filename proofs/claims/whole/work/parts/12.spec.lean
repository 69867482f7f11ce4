/-! What each call answers and does, of the state (n paths, na actions, L the limit, sb strict, α the tables:
1 parent, 2 letter, 3 source, 4 declared, 5 declared paths (12 a + k), 6 operations, 7 refusals, 8 how many tried, 9 tried (60 a + k),
10 world (60 a + p: above 0 a file, below 0 a link to - 1 - x), 11 is output (12 a + k), 12 is there, 13 is broken, 14 was there). -/
def sx_row (α : sx_A) (i : Nat) (f : Nat → Int32) : sx_A := fun k => bif Nat.beq k i then f else α k
def sx_dN (α : sx_A) (a : Nat) : Nat := (α 4 a).toNatClampNeg
def sx_tN (α : sx_A) (a : Nat) : Nat := (α 8 a).toNatClampNeg
def sx_dp (α : sx_A) (a k : Nat) : Nat := (α 5 (12 * a + k)).toNatClampNeg
def sx_ch (α : sx_A) (p c : Int32) : Nat → Int32
  | 0 => -1
  | k + 1 => if 0 < k ∧ α 1 k = p ∧ α 2 k = c then nI k else sx_ch α p c k
def sx_isL (c : Int32) : Bool := (decide (97 ≤ c) && decide (c ≤ 122)) || (decide (65 ≤ c) && decide (c ≤ 90))
def sx_new (n : Nat) (α : sx_A) (p c : Int32) : Bool := (sx_has n p && sx_isL c) && (decide (sx_ch α p c n = -1) && !Nat.beq n 60)
def sx_pathA (n : Nat) (α : sx_A) (p c : Int32) : Int32 := bif sx_has n p && sx_isL c then (bif decide (sx_ch α p c n = -1) && !Nat.beq n 60 then nI n else sx_ch α p c n) else -1
def sx_pathN (n : Nat) (α : sx_A) (p c : Int32) : Nat := bif sx_new n α p c then n + 1 else n
def sx_pathS (n : Nat) (α : sx_A) (p c : Int32) : sx_A := bif sx_new n α p c then sx_st (sx_st α 1 n p) 2 n c else α
def sx_inS (n : Nat) (α : sx_A) (p : Nat) : Bool := sx_any (fun k => (Nat.blt 0 k && !Nat.beq k p) && (decide (0 < α 3 k) && (sx_U (α 1) k p || sx_U (α 1) p k))) n
def sx_fileA (n : Nat) (α : sx_A) (p c : Int32) : Bool := (sx_has n p && (!decide (p = 0) && !decide (c < 0))) && !sx_inS n α p.toNatClampNeg
def sx_fileS (n : Nat) (α : sx_A) (p c : Int32) : sx_A := bif sx_fileA n α p c then sx_st α 3 p.toNatClampNeg c else α
def sx_srcA (n : Nat) (α : sx_A) (p : Int32) : Int32 := bif sx_has n p then α 3 p.toNatClampNeg else 0
def sx_actA (na : Nat) : Int32 := bif Nat.beq na 10 then -1 else nI na
def sx_actN (na : Nat) : Nat := bif Nat.beq na 10 then na else na + 1
def sx_decT (α : sx_A) (a p : Nat) : Bool := sx_any (fun k => sx_U (α 1) p (sx_dp α a k) || sx_U (α 1) (sx_dp α a k) p) (sx_dN α a)
def sx_decO (n : Nat) (α : sx_A) (a : Nat) (p : Int32) : Bool := (sx_has n p && !decide (p = 0)) && (!decide (α 4 a = 12) && decide (α 12 a = 0))
def sx_decA (n : Nat) (α : sx_A) (a : Nat) (p : Int32) : Int32 := bif sx_decO n α a p then (bif sx_decT α a p.toNatClampNeg then -2 else 1) else -1
def sx_decS (n : Nat) (α : sx_A) (a : Nat) (p : Int32) (o : Bool) : sx_A := bif sx_decO n α a p && !sx_decT α a p.toNatClampNeg then sx_st (sx_st (sx_st α 5 (12 * a + sx_dN α a) p) 11 (12 * a + sx_dN α a) (sx_bI o)) 4 a (α 4 a + 1) else α
def sx_isD (α : sx_A) (a : Nat) (o : Bool) (p : Nat) : Bool := sx_any (fun k => decide (α 11 (12 * a + k) = sx_bI o) && sx_U (α 1) p (sx_dp α a k)) (sx_dN α a)
def sx_z (n : Nat) (α : sx_A) : Int32 := sx_ch α 0 122 n
def sx_isW (n : Nat) (α : sx_A) (a p : Nat) : Bool := sx_isD α a true p || ((!decide (sx_z n α = -1) && !Nat.beq p (sx_z n α).toNatClampNeg) && (sx_U (α 1) p (sx_z n α).toNatClampNeg && !sx_isD α a false p))
def sx_hasS (n : Nat) (α : sx_A) (o : Nat) : Bool := sx_any (fun p => Nat.blt 0 p && (decide (0 < α 3 p) && sx_U (α 1) p o)) n
def sx_lack (n : Nat) (α : sx_A) (a : Nat) : Bool := sx_any (fun k => decide (α 11 (12 * a + k) = 0) && !sx_hasS n α (sx_dp α a k)) (sx_dN α a)
def sx_nw (n : Nat) (α : sx_A) (a p : Nat) : Int32 := bif Nat.blt p n && sx_isD α a false p then α 3 p else 0
def sx_begO (n : Nat) (α : sx_A) (a : Nat) : Bool := decide (α 12 a = 0) && !sx_lack n α a
def sx_begA (n : Nat) (α : sx_A) (a : Nat) : Int32 := bif decide (α 12 a = 0) then (bif sx_lack n α a then -2 else nI (sx_cnt (fun p => decide (0 < sx_nw n α a p)) 60)) else -1
def sx_wrow (n : Nat) (α : sx_A) (a m : Nat) : Nat → Int32 := fun j => bif Nat.ble (60 * a) j && Nat.blt j (60 * a + m) then sx_nw n α a (j - 60 * a) else α 10 j
def sx_begS (n : Nat) (α : sx_A) (a : Nat) : sx_A := bif sx_begO n α a then sx_st (sx_st (sx_st (sx_st (sx_st (sx_st (sx_row α 10 (sx_wrow n α a 60)) 12 a 1) 14 a 1) 13 a 0) 6 a 0) 7 a 0) 8 a 0 else α
def sx_ld (w : Nat → Int32) : Nat → Int32 → Int32
  | 0, x => if 0 < x then x else 0
  | f + 1, x => if x < 0 then sx_ld w f (w (-1 - x).toNatClampNeg) else if 0 < x then x else 0
def sx_lead (α : sx_A) (a p : Nat) : Int32 := sx_ld (fun j => α 10 (60 * a + j)) 4 (α 10 (60 * a + p))
def sx_ok (n : Nat) (α : sx_A) (a : Nat) (p q : Int32) : Bool := !decide (α 12 a = 0) && (sx_has n p && sx_has n q)
def sx_may (n L : Nat) (α : sx_A) (a : Nat) (p q : Int32) : Int32 := bif sx_ok n α a p q then (bif decide (α 6 a = nI L) then -9 else 0) else -1
def sx_mayB (n L : Nat) (α : sx_A) (a : Nat) (p q : Int32) : Bool := sx_ok n α a p q && !decide (α 6 a = nI L)
def sx_mayS (n L : Nat) (α : sx_A) (a : Nat) (p q : Int32) : sx_A := bif sx_ok n α a p q then (bif decide (α 6 a = nI L) then sx_st α 13 a 1 else sx_st α 6 a (α 6 a + 1)) else α
def sx_nt (α : sx_A) (a p : Nat) : Bool := sx_any (fun k => decide (α 9 (60 * a + k) = nI p)) (sx_tN α a)
def sx_openA (n L : Nat) (α : sx_A) (a : Nat) (p : Int32) : Int32 := bif sx_mayB n L α a p 0 then sx_lead α a p.toNatClampNeg else sx_may n L α a p 0
def sx_openS (n L : Nat) (α : sx_A) (a : Nat) (p : Int32) : sx_A := bif sx_mayB n L α a p 0 && !(decide (0 < sx_lead α a p.toNatClampNeg) || sx_nt α a p.toNatClampNeg) then sx_st (sx_st (sx_st α 6 a (α 6 a + 1)) 9 (60 * a + sx_tN α a) p) 8 a (α 8 a + 1) else sx_mayS n L α a p 0
def sx_inW (n : Nat) (α : sx_A) (a p : Nat) : Bool := sx_any (fun k => (Nat.blt 0 k && !Nat.beq k p) && (!decide (α 10 (60 * a + k) = 0) && (sx_U (α 1) k p || sx_U (α 1) p k))) n
def sx_ref (sb : Bool) (α : sx_A) (a : Nat) : sx_A := sx_st (sx_st α 7 a (α 7 a + 1)) 13 a (sx_bI (!decide (α 13 a = 0) || sb))
def sx_do (n L : Nat) (sb : Bool) (α : sx_A) (a : Nat) (p q : Int32) (ok : Bool) (v : Int32) : sx_A := bif sx_mayB n L α a p q then (bif ok then sx_st (sx_st α 6 a (α 6 a + 1)) 10 (60 * a + p.toNatClampNeg) v else sx_ref sb (sx_st α 6 a (α 6 a + 1)) a) else sx_mayS n L α a p q
def sx_doA (n L : Nat) (α : sx_A) (a : Nat) (p q : Int32) (ok : Bool) : Int32 := bif sx_mayB n L α a p q then sx_bI ok else sx_may n L α a p q
def sx_wrO (n : Nat) (α : sx_A) (a : Nat) (p c : Int32) : Bool := (sx_isW n α a p.toNatClampNeg && !sx_inW n α a p.toNatClampNeg) && !decide (c < 1)
def sx_lkO (n : Nat) (α : sx_A) (a : Nat) (p q : Int32) : Bool := (sx_isW n α a p.toNatClampNeg && !sx_inW n α a p.toNatClampNeg) && (sx_isW n α a q.toNatClampNeg || sx_isD α a false q.toNatClampNeg)
def sx_rmO (n : Nat) (α : sx_A) (a : Nat) (p : Int32) : Bool := sx_isW n α a p.toNatClampNeg && !decide (α 10 (60 * a + p.toNatClampNeg) = 0)
def sx_hu (n : Nat) (α : sx_A) (a o : Nat) : Bool := sx_any (fun k => Nat.blt 0 k && (!decide (α 10 (60 * a + k) = 0) && sx_U (α 1) k o)) n
def sx_lq (n : Nat) (α : sx_A) (a : Nat) (p : Int32) (c : Nat) : Bool := !decide (sx_ch α p (nI c) n = -1) && sx_hu n α a (sx_ch α p (nI c) n).toNatClampNeg
def sx_pick (q : Nat → Bool) : Nat → Nat → Int32 → Int32
  | 0, _, _ => 0
  | m + 1, c, i => bif q c then (if i = 0 then nI c else sx_pick q m (c + 1) (i - 1)) else sx_pick q m (c + 1) i
def sx_listA (n L : Nat) (α : sx_A) (a : Nat) (p i : Int32) : Int32 := bif sx_mayB n L α a p 0 then sx_pick (sx_lq n α a p) 58 65 i else sx_may n L α a p 0
def sx_loose (n : Nat) (α : sx_A) (a o : Nat) : Bool := sx_any (fun p => Nat.blt 0 p && (decide (α 10 (60 * a + p) < 0) && (sx_U (α 1) p o && decide (sx_lead α a p = 0)))) n
def sx_fl (n : Nat) (α : sx_A) (a : Nat) : Nat → Nat → Nat → Int32
  | 0, _, _ => 0
  | m + 1, k, pl => bif decide (α 11 (12 * a + k) = 0) then sx_fl n α a m (k + 1) pl else (bif sx_hu n α a (sx_dp α a k) then (bif sx_loose n α a (sx_dp α a k) then -11 - 2 * nI pl else sx_fl n α a m (k + 1) (pl + 1)) else -10 - 2 * nI pl)
def sx_mk (n : Nat) (α : sx_A) (a q : Nat) : Bool := sx_any (fun k => Nat.blt 0 k && ((!decide (α 10 (60 * a + k) = 0) && sx_isD α a true k) && sx_U (α 1) k q)) n
def sx_low (c : Int32) : Int32 := if 65 ≤ c ∧ c ≤ 90 then c + 32 else c
def sx_cl (n : Nat) (α : sx_A) (a : Nat) : Bool := sx_any (fun p => Nat.blt 0 p && sx_any (fun k => Nat.blt 0 k && ((sx_mk n α a p && sx_mk n α a k) && (decide (α 1 p = α 1 k) && decide (sx_low (α 2 p) = sx_low (α 2 k))))) p) n
def sx_way (n : Nat) (α : sx_A) (a : Nat) : Bool := sx_any (fun p => Nat.blt 0 p && (sx_mk n α a p && (decide (0 < α 3 p) && !sx_isD α a true p))) n
def sx_cm (n : Nat) (α : sx_A) (a p : Nat) : Bool := (Nat.blt 0 p && Nat.blt p n) && sx_isD α a true p
def sx_finC (n : Nat) (α : sx_A) (a : Nat) : Int32 := nI (sx_cnt (fun p => sx_cm n α a p && decide (0 < sx_lead α a p)) n)
def sx_finA (n : Nat) (α : sx_A) (a : Nat) (failed : Bool) : Int32 := bif decide (α 12 a = 0) then -1 else bif failed then 0 else bif !decide (α 13 a = 0) then -2 else bif !decide (sx_fl n α a (sx_dN α a) 0 0 = 0) then sx_fl n α a (sx_dN α a) 0 0 else bif sx_cl n α a then -3 else bif sx_way n α a then -4 else sx_finC n α a
def sx_finO (n : Nat) (α : sx_A) (a : Nat) (failed : Bool) : Bool := (!failed && decide (α 13 a = 0)) && (decide (sx_fl n α a (sx_dN α a) 0 0 = 0) && (!sx_cl n α a && !sx_way n α a))
def sx_srow (n : Nat) (α : sx_A) (a m : Nat) : Nat → Int32 := fun p => bif Nat.blt p m && sx_cm n α a p then sx_lead α a p else α 3 p
def sx_finS (n : Nat) (α : sx_A) (a : Nat) (failed : Bool) : sx_A := bif decide (α 12 a = 0) then α else sx_st (bif sx_finO n α a failed then sx_row α 3 (sx_srow n α a n) else α) 12 a 0
def sx_triA (α : sx_A) (a : Nat) (i : Int32) : Int32 := bif sx_has (sx_tN α a) i then α 9 (60 * a + i.toNatClampNeg) else -1
def sx_aboA (α : sx_A) (a : Nat) (w : Int32) : Int32 := if w = 0 then (bif decide (α 12 a = 0) then 0 else 1) else bif decide (α 14 a = 0) then -1 else if w = 1 then α 6 a else if w = 2 then α 7 a else if w = 3 then (bif decide (α 13 a = 0) then 0 else 1) else -1
