/-! ===== the state: rows of natural numbers; the cells that hold them ===== -/
def up (f : Nat → Nat) (k v : Nat) : Nat → Nat := fun j => if j = k then v else f j
theorem up_eq (f : Nat → Nat) (k v : Nat) : up f k v k = v := if_pos rfl
theorem up_ne {f : Nat → Nat} {k v j : Nat} (h : ¬ j = k) : up f k v j = f j := if_neg h
theorem up_by (f ix : Nat → Nat) (hix : ∀ i j, ix i = ix j → i = j) (k v : Nat) : upd (fun i => nI (f (ix i))) k (nI v) = fun i => nI (up f (ix k) v (ix i)) := by
  funext i
  unfold upd up
  by_cases h : i = k
  · subst h; rw [if_pos rfl, if_pos rfl]
  · rw [if_neg h, if_neg (fun q => h (hix i k q))]
theorem up_row (f : Nat → Nat) (k v : Nat) : upd (fun i => nI (f i)) k (nI v) = fun i => nI (up f k v i) := up_by f (fun i => i) (fun _ _ h => h) k v
/-- a row of ints, a row of longs -/
def aI (cI : ClassId) (x n : Nat) (f : Nat → Nat) : va_W := [(x, .inl (cI, n, .inl (fun k => nI (f k))))]
def aJ (cJ : ClassId) (x n : Nat) (f : Nat → Int64) : va_W := [(x, .inl (cJ, n, .inr (.inl f)))]
theorem aI_set (cI : ClassId) (x n : Nat) (f : Nat → Nat) (k v : Nat) : (aI cI x n f).set 0 (x, .inl (cI, n, .inl (upd (fun k => nI (f k)) k (nI v)))) = aI cI x n (up f k v) := by
  rw [up_row]; rfl
theorem aJ_set (cJ : ClassId) (x n : Nat) (f : Nat → Int64) (k : Nat) (v : Int64) : (aJ cJ x n f).set 0 (x, .inl (cJ, n, .inr (.inl (vp_updL f k v)))) = aJ cJ x n (vp_updL f k v) := rfl
/-- the reference's places: 0 to 6 numbers, 7 + 4 a .. mothers, 39 + 3 c .. children; in a row G: number j at 8 j, of mother a kind 8 a + 1, out + 2, secret + 3, silent + 4, of child c grip 8 c + 5, on + 6, flung + 7 -/
def mk (k : Nat) : Nat := if k < 7 then 8 * k else if k < 39 then 8 * ((k - 7) / 4) + 1 + (k - 7) % 4 else 8 * ((k - 39) / 3) + 5 + (k - 39) % 3
theorem mk_inj (i j : Nat) (h : mk i = mk j) : i = j := by
  unfold mk at h
  repeat' split at h
  all_goals omega
theorem mk_m {a w : Nat} (ha : a < 8) (hw : w < 4) : mk (7 + 4 * a + w) = 8 * a + 1 + w := by
  unfold mk
  rw [if_neg (by omega), if_pos (by omega)]
  omega
theorem mk_c {c w : Nat} (hw : w < 3) : mk (39 + 3 * c + w) = 8 * c + 5 + w := by
  unfold mk
  rw [if_neg (by omega), if_neg (by omega)]
  omega
def mR (cI : ClassId) (x : Nat) (G : Nat → Nat) : va_W := [(x, .inl (cI, 57, .inl (fun k => nI (G (mk k)))))]
theorem mR_set (cI : ClassId) (x : Nat) (G : Nat → Nat) (k v : Nat) : (mR cI x G).set 0 (x, .inl (cI, 57, .inl (upd (fun k => nI (G (mk k))) k (nI v)))) = mR cI x (up G (mk k) v) := by
  rw [up_by G mk mk_inj]; rfl
/-- a Green at the addresses g, its numbers as the row G -/
def gW (cI : ClassId) (g : Nat → Nat) (G : Nat → Nat) : va_W := [(g 0, .inr (0, [.int (nI (G 0)), .int (nI (G 8)), .int (nI (G 16)), .int (nI (G 24)), .int (nI (G 32)), .int (nI (G 40)), .ref (g 1), .ref (g 2), .ref (g 3), .ref (g 4), .int (nI (G 48)), .ref (g 5), .ref (g 6), .ref (g 7)])), (g 1, .inl (cI, 8, .inl (fun i => nI (G (8 * i + 1))))), (g 2, .inl (cI, 8, .inl (fun i => nI (G (8 * i + 2))))), (g 3, .inl (cI, 8, .inl (fun i => nI (G (8 * i + 3))))), (g 4, .inl (cI, 8, .inl (fun i => nI (G (8 * i + 4))))), (g 5, .inl (cI, 6, .inl (fun i => nI (G (8 * i + 5))))), (g 6, .inl (cI, 6, .inl (fun i => nI (G (8 * i + 6))))), (g 7, .inl (cI, 6, .inl (fun i => nI (G (8 * i + 7)))))]
theorem gW_s0 (cI : ClassId) (g : Nat → Nat) (G : Nat → Nat) (v : Nat) : (gW cI g G).set 0 (g 0, .inr (0, [.int (nI (G 0)), .int (nI (G 8)), .int (nI (G 16)), .int (nI (G 24)), .int (nI (G 32)), .int (nI (G 40)), .ref (g 1), .ref (g 2), .ref (g 3), .ref (g 4), .int (nI (G 48)), .ref (g 5), .ref (g 6), .ref (g 7)].set 0 (.int (nI v)))) = gW cI g (up G 0 v) := by
  have e0 : up G 0 v 8 = G 8 := up_ne (by decide)
  have e1 : up G 0 v 16 = G 16 := up_ne (by decide)
  have e2 : up G 0 v 24 = G 24 := up_ne (by decide)
  have e3 : up G 0 v 32 = G 32 := up_ne (by decide)
  have e4 : up G 0 v 40 = G 40 := up_ne (by decide)
  have e5 : up G 0 v 48 = G 48 := up_ne (by decide)
  have e6 : ∀ i : Nat, up G 0 v (8 * i + 1) = G (8 * i + 1) := fun i => up_ne (by omega)
  have e7 : ∀ i : Nat, up G 0 v (8 * i + 2) = G (8 * i + 2) := fun i => up_ne (by omega)
  have e8 : ∀ i : Nat, up G 0 v (8 * i + 3) = G (8 * i + 3) := fun i => up_ne (by omega)
  have e9 : ∀ i : Nat, up G 0 v (8 * i + 4) = G (8 * i + 4) := fun i => up_ne (by omega)
  have e10 : ∀ i : Nat, up G 0 v (8 * i + 5) = G (8 * i + 5) := fun i => up_ne (by omega)
  have e11 : ∀ i : Nat, up G 0 v (8 * i + 6) = G (8 * i + 6) := fun i => up_ne (by omega)
  have e12 : ∀ i : Nat, up G 0 v (8 * i + 7) = G (8 * i + 7) := fun i => up_ne (by omega)
  simp only [gW, up_eq, e0, e1, e2, e3, e4, e5, e6, e7, e8, e9, e10, e11, e12, List.set]
theorem gW_s8 (cI : ClassId) (g : Nat → Nat) (G : Nat → Nat) (v : Nat) : (gW cI g G).set 0 (g 0, .inr (0, [.int (nI (G 0)), .int (nI (G 8)), .int (nI (G 16)), .int (nI (G 24)), .int (nI (G 32)), .int (nI (G 40)), .ref (g 1), .ref (g 2), .ref (g 3), .ref (g 4), .int (nI (G 48)), .ref (g 5), .ref (g 6), .ref (g 7)].set 1 (.int (nI v)))) = gW cI g (up G 8 v) := by
  have e0 : up G 8 v 0 = G 0 := up_ne (by decide)
  have e1 : up G 8 v 16 = G 16 := up_ne (by decide)
  have e2 : up G 8 v 24 = G 24 := up_ne (by decide)
  have e3 : up G 8 v 32 = G 32 := up_ne (by decide)
  have e4 : up G 8 v 40 = G 40 := up_ne (by decide)
  have e5 : up G 8 v 48 = G 48 := up_ne (by decide)
  have e6 : ∀ i : Nat, up G 8 v (8 * i + 1) = G (8 * i + 1) := fun i => up_ne (by omega)
  have e7 : ∀ i : Nat, up G 8 v (8 * i + 2) = G (8 * i + 2) := fun i => up_ne (by omega)
  have e8 : ∀ i : Nat, up G 8 v (8 * i + 3) = G (8 * i + 3) := fun i => up_ne (by omega)
  have e9 : ∀ i : Nat, up G 8 v (8 * i + 4) = G (8 * i + 4) := fun i => up_ne (by omega)
  have e10 : ∀ i : Nat, up G 8 v (8 * i + 5) = G (8 * i + 5) := fun i => up_ne (by omega)
  have e11 : ∀ i : Nat, up G 8 v (8 * i + 6) = G (8 * i + 6) := fun i => up_ne (by omega)
  have e12 : ∀ i : Nat, up G 8 v (8 * i + 7) = G (8 * i + 7) := fun i => up_ne (by omega)
  simp only [gW, up_eq, e0, e1, e2, e3, e4, e5, e6, e7, e8, e9, e10, e11, e12, List.set]
theorem gW_s16 (cI : ClassId) (g : Nat → Nat) (G : Nat → Nat) (v : Nat) : (gW cI g G).set 0 (g 0, .inr (0, [.int (nI (G 0)), .int (nI (G 8)), .int (nI (G 16)), .int (nI (G 24)), .int (nI (G 32)), .int (nI (G 40)), .ref (g 1), .ref (g 2), .ref (g 3), .ref (g 4), .int (nI (G 48)), .ref (g 5), .ref (g 6), .ref (g 7)].set 2 (.int (nI v)))) = gW cI g (up G 16 v) := by
  have e0 : up G 16 v 0 = G 0 := up_ne (by decide)
  have e1 : up G 16 v 8 = G 8 := up_ne (by decide)
  have e2 : up G 16 v 24 = G 24 := up_ne (by decide)
  have e3 : up G 16 v 32 = G 32 := up_ne (by decide)
  have e4 : up G 16 v 40 = G 40 := up_ne (by decide)
  have e5 : up G 16 v 48 = G 48 := up_ne (by decide)
  have e6 : ∀ i : Nat, up G 16 v (8 * i + 1) = G (8 * i + 1) := fun i => up_ne (by omega)
  have e7 : ∀ i : Nat, up G 16 v (8 * i + 2) = G (8 * i + 2) := fun i => up_ne (by omega)
  have e8 : ∀ i : Nat, up G 16 v (8 * i + 3) = G (8 * i + 3) := fun i => up_ne (by omega)
  have e9 : ∀ i : Nat, up G 16 v (8 * i + 4) = G (8 * i + 4) := fun i => up_ne (by omega)
  have e10 : ∀ i : Nat, up G 16 v (8 * i + 5) = G (8 * i + 5) := fun i => up_ne (by omega)
  have e11 : ∀ i : Nat, up G 16 v (8 * i + 6) = G (8 * i + 6) := fun i => up_ne (by omega)
  have e12 : ∀ i : Nat, up G 16 v (8 * i + 7) = G (8 * i + 7) := fun i => up_ne (by omega)
  simp only [gW, up_eq, e0, e1, e2, e3, e4, e5, e6, e7, e8, e9, e10, e11, e12, List.set]
theorem gW_s24 (cI : ClassId) (g : Nat → Nat) (G : Nat → Nat) (v : Nat) : (gW cI g G).set 0 (g 0, .inr (0, [.int (nI (G 0)), .int (nI (G 8)), .int (nI (G 16)), .int (nI (G 24)), .int (nI (G 32)), .int (nI (G 40)), .ref (g 1), .ref (g 2), .ref (g 3), .ref (g 4), .int (nI (G 48)), .ref (g 5), .ref (g 6), .ref (g 7)].set 3 (.int (nI v)))) = gW cI g (up G 24 v) := by
  have e0 : up G 24 v 0 = G 0 := up_ne (by decide)
  have e1 : up G 24 v 8 = G 8 := up_ne (by decide)
  have e2 : up G 24 v 16 = G 16 := up_ne (by decide)
  have e3 : up G 24 v 32 = G 32 := up_ne (by decide)
  have e4 : up G 24 v 40 = G 40 := up_ne (by decide)
  have e5 : up G 24 v 48 = G 48 := up_ne (by decide)
  have e6 : ∀ i : Nat, up G 24 v (8 * i + 1) = G (8 * i + 1) := fun i => up_ne (by omega)
  have e7 : ∀ i : Nat, up G 24 v (8 * i + 2) = G (8 * i + 2) := fun i => up_ne (by omega)
  have e8 : ∀ i : Nat, up G 24 v (8 * i + 3) = G (8 * i + 3) := fun i => up_ne (by omega)
  have e9 : ∀ i : Nat, up G 24 v (8 * i + 4) = G (8 * i + 4) := fun i => up_ne (by omega)
  have e10 : ∀ i : Nat, up G 24 v (8 * i + 5) = G (8 * i + 5) := fun i => up_ne (by omega)
  have e11 : ∀ i : Nat, up G 24 v (8 * i + 6) = G (8 * i + 6) := fun i => up_ne (by omega)
  have e12 : ∀ i : Nat, up G 24 v (8 * i + 7) = G (8 * i + 7) := fun i => up_ne (by omega)
  simp only [gW, up_eq, e0, e1, e2, e3, e4, e5, e6, e7, e8, e9, e10, e11, e12, List.set]
theorem gW_s32 (cI : ClassId) (g : Nat → Nat) (G : Nat → Nat) (v : Nat) : (gW cI g G).set 0 (g 0, .inr (0, [.int (nI (G 0)), .int (nI (G 8)), .int (nI (G 16)), .int (nI (G 24)), .int (nI (G 32)), .int (nI (G 40)), .ref (g 1), .ref (g 2), .ref (g 3), .ref (g 4), .int (nI (G 48)), .ref (g 5), .ref (g 6), .ref (g 7)].set 4 (.int (nI v)))) = gW cI g (up G 32 v) := by
  have e0 : up G 32 v 0 = G 0 := up_ne (by decide)
  have e1 : up G 32 v 8 = G 8 := up_ne (by decide)
  have e2 : up G 32 v 16 = G 16 := up_ne (by decide)
  have e3 : up G 32 v 24 = G 24 := up_ne (by decide)
  have e4 : up G 32 v 40 = G 40 := up_ne (by decide)
  have e5 : up G 32 v 48 = G 48 := up_ne (by decide)
  have e6 : ∀ i : Nat, up G 32 v (8 * i + 1) = G (8 * i + 1) := fun i => up_ne (by omega)
  have e7 : ∀ i : Nat, up G 32 v (8 * i + 2) = G (8 * i + 2) := fun i => up_ne (by omega)
  have e8 : ∀ i : Nat, up G 32 v (8 * i + 3) = G (8 * i + 3) := fun i => up_ne (by omega)
  have e9 : ∀ i : Nat, up G 32 v (8 * i + 4) = G (8 * i + 4) := fun i => up_ne (by omega)
  have e10 : ∀ i : Nat, up G 32 v (8 * i + 5) = G (8 * i + 5) := fun i => up_ne (by omega)
  have e11 : ∀ i : Nat, up G 32 v (8 * i + 6) = G (8 * i + 6) := fun i => up_ne (by omega)
  have e12 : ∀ i : Nat, up G 32 v (8 * i + 7) = G (8 * i + 7) := fun i => up_ne (by omega)
  simp only [gW, up_eq, e0, e1, e2, e3, e4, e5, e6, e7, e8, e9, e10, e11, e12, List.set]
theorem gW_s40 (cI : ClassId) (g : Nat → Nat) (G : Nat → Nat) (v : Nat) : (gW cI g G).set 0 (g 0, .inr (0, [.int (nI (G 0)), .int (nI (G 8)), .int (nI (G 16)), .int (nI (G 24)), .int (nI (G 32)), .int (nI (G 40)), .ref (g 1), .ref (g 2), .ref (g 3), .ref (g 4), .int (nI (G 48)), .ref (g 5), .ref (g 6), .ref (g 7)].set 5 (.int (nI v)))) = gW cI g (up G 40 v) := by
  have e0 : up G 40 v 0 = G 0 := up_ne (by decide)
  have e1 : up G 40 v 8 = G 8 := up_ne (by decide)
  have e2 : up G 40 v 16 = G 16 := up_ne (by decide)
  have e3 : up G 40 v 24 = G 24 := up_ne (by decide)
  have e4 : up G 40 v 32 = G 32 := up_ne (by decide)
  have e5 : up G 40 v 48 = G 48 := up_ne (by decide)
  have e6 : ∀ i : Nat, up G 40 v (8 * i + 1) = G (8 * i + 1) := fun i => up_ne (by omega)
  have e7 : ∀ i : Nat, up G 40 v (8 * i + 2) = G (8 * i + 2) := fun i => up_ne (by omega)
  have e8 : ∀ i : Nat, up G 40 v (8 * i + 3) = G (8 * i + 3) := fun i => up_ne (by omega)
  have e9 : ∀ i : Nat, up G 40 v (8 * i + 4) = G (8 * i + 4) := fun i => up_ne (by omega)
  have e10 : ∀ i : Nat, up G 40 v (8 * i + 5) = G (8 * i + 5) := fun i => up_ne (by omega)
  have e11 : ∀ i : Nat, up G 40 v (8 * i + 6) = G (8 * i + 6) := fun i => up_ne (by omega)
  have e12 : ∀ i : Nat, up G 40 v (8 * i + 7) = G (8 * i + 7) := fun i => up_ne (by omega)
  simp only [gW, up_eq, e0, e1, e2, e3, e4, e5, e6, e7, e8, e9, e10, e11, e12, List.set]
theorem gW_s48 (cI : ClassId) (g : Nat → Nat) (G : Nat → Nat) (v : Nat) : (gW cI g G).set 0 (g 0, .inr (0, [.int (nI (G 0)), .int (nI (G 8)), .int (nI (G 16)), .int (nI (G 24)), .int (nI (G 32)), .int (nI (G 40)), .ref (g 1), .ref (g 2), .ref (g 3), .ref (g 4), .int (nI (G 48)), .ref (g 5), .ref (g 6), .ref (g 7)].set 10 (.int (nI v)))) = gW cI g (up G 48 v) := by
  have e0 : up G 48 v 0 = G 0 := up_ne (by decide)
  have e1 : up G 48 v 8 = G 8 := up_ne (by decide)
  have e2 : up G 48 v 16 = G 16 := up_ne (by decide)
  have e3 : up G 48 v 24 = G 24 := up_ne (by decide)
  have e4 : up G 48 v 32 = G 32 := up_ne (by decide)
  have e5 : up G 48 v 40 = G 40 := up_ne (by decide)
  have e6 : ∀ i : Nat, up G 48 v (8 * i + 1) = G (8 * i + 1) := fun i => up_ne (by omega)
  have e7 : ∀ i : Nat, up G 48 v (8 * i + 2) = G (8 * i + 2) := fun i => up_ne (by omega)
  have e8 : ∀ i : Nat, up G 48 v (8 * i + 3) = G (8 * i + 3) := fun i => up_ne (by omega)
  have e9 : ∀ i : Nat, up G 48 v (8 * i + 4) = G (8 * i + 4) := fun i => up_ne (by omega)
  have e10 : ∀ i : Nat, up G 48 v (8 * i + 5) = G (8 * i + 5) := fun i => up_ne (by omega)
  have e11 : ∀ i : Nat, up G 48 v (8 * i + 6) = G (8 * i + 6) := fun i => up_ne (by omega)
  have e12 : ∀ i : Nat, up G 48 v (8 * i + 7) = G (8 * i + 7) := fun i => up_ne (by omega)
  simp only [gW, up_eq, e0, e1, e2, e3, e4, e5, e6, e7, e8, e9, e10, e11, e12, List.set]
theorem gW_r1 (cI : ClassId) (g : Nat → Nat) (G : Nat → Nat) (x v : Nat) : (gW cI g G).set 1 (g 1, .inl (cI, 8, .inl (upd (fun i => nI (G (8 * i + 1))) x (nI v)))) = gW cI g (up G (8 * x + 1) v) := by
  have e0 : up G (8 * x + 1) v 0 = G 0 := up_ne (by omega)
  have e1 : up G (8 * x + 1) v 8 = G 8 := up_ne (by omega)
  have e2 : up G (8 * x + 1) v 16 = G 16 := up_ne (by omega)
  have e3 : up G (8 * x + 1) v 24 = G 24 := up_ne (by omega)
  have e4 : up G (8 * x + 1) v 32 = G 32 := up_ne (by omega)
  have e5 : up G (8 * x + 1) v 40 = G 40 := up_ne (by omega)
  have e6 : up G (8 * x + 1) v 48 = G 48 := up_ne (by omega)
  have e7 : ∀ i : Nat, up G (8 * x + 1) v (8 * i + 2) = G (8 * i + 2) := fun i => up_ne (by omega)
  have e8 : ∀ i : Nat, up G (8 * x + 1) v (8 * i + 3) = G (8 * i + 3) := fun i => up_ne (by omega)
  have e9 : ∀ i : Nat, up G (8 * x + 1) v (8 * i + 4) = G (8 * i + 4) := fun i => up_ne (by omega)
  have e10 : ∀ i : Nat, up G (8 * x + 1) v (8 * i + 5) = G (8 * i + 5) := fun i => up_ne (by omega)
  have e11 : ∀ i : Nat, up G (8 * x + 1) v (8 * i + 6) = G (8 * i + 6) := fun i => up_ne (by omega)
  have e12 : ∀ i : Nat, up G (8 * x + 1) v (8 * i + 7) = G (8 * i + 7) := fun i => up_ne (by omega)
  rw [up_by G (fun i => 8 * i + 1) (fun i j h => by omega) x v]
  simp only [gW, e0, e1, e2, e3, e4, e5, e6, e7, e8, e9, e10, e11, e12, List.set]
theorem gW_r2 (cI : ClassId) (g : Nat → Nat) (G : Nat → Nat) (x v : Nat) : (gW cI g G).set 2 (g 2, .inl (cI, 8, .inl (upd (fun i => nI (G (8 * i + 2))) x (nI v)))) = gW cI g (up G (8 * x + 2) v) := by
  have e0 : up G (8 * x + 2) v 0 = G 0 := up_ne (by omega)
  have e1 : up G (8 * x + 2) v 8 = G 8 := up_ne (by omega)
  have e2 : up G (8 * x + 2) v 16 = G 16 := up_ne (by omega)
  have e3 : up G (8 * x + 2) v 24 = G 24 := up_ne (by omega)
  have e4 : up G (8 * x + 2) v 32 = G 32 := up_ne (by omega)
  have e5 : up G (8 * x + 2) v 40 = G 40 := up_ne (by omega)
  have e6 : up G (8 * x + 2) v 48 = G 48 := up_ne (by omega)
  have e7 : ∀ i : Nat, up G (8 * x + 2) v (8 * i + 1) = G (8 * i + 1) := fun i => up_ne (by omega)
  have e8 : ∀ i : Nat, up G (8 * x + 2) v (8 * i + 3) = G (8 * i + 3) := fun i => up_ne (by omega)
  have e9 : ∀ i : Nat, up G (8 * x + 2) v (8 * i + 4) = G (8 * i + 4) := fun i => up_ne (by omega)
  have e10 : ∀ i : Nat, up G (8 * x + 2) v (8 * i + 5) = G (8 * i + 5) := fun i => up_ne (by omega)
  have e11 : ∀ i : Nat, up G (8 * x + 2) v (8 * i + 6) = G (8 * i + 6) := fun i => up_ne (by omega)
  have e12 : ∀ i : Nat, up G (8 * x + 2) v (8 * i + 7) = G (8 * i + 7) := fun i => up_ne (by omega)
  rw [up_by G (fun i => 8 * i + 2) (fun i j h => by omega) x v]
  simp only [gW, e0, e1, e2, e3, e4, e5, e6, e7, e8, e9, e10, e11, e12, List.set]
theorem gW_r3 (cI : ClassId) (g : Nat → Nat) (G : Nat → Nat) (x v : Nat) : (gW cI g G).set 3 (g 3, .inl (cI, 8, .inl (upd (fun i => nI (G (8 * i + 3))) x (nI v)))) = gW cI g (up G (8 * x + 3) v) := by
  have e0 : up G (8 * x + 3) v 0 = G 0 := up_ne (by omega)
  have e1 : up G (8 * x + 3) v 8 = G 8 := up_ne (by omega)
  have e2 : up G (8 * x + 3) v 16 = G 16 := up_ne (by omega)
  have e3 : up G (8 * x + 3) v 24 = G 24 := up_ne (by omega)
  have e4 : up G (8 * x + 3) v 32 = G 32 := up_ne (by omega)
  have e5 : up G (8 * x + 3) v 40 = G 40 := up_ne (by omega)
  have e6 : up G (8 * x + 3) v 48 = G 48 := up_ne (by omega)
  have e7 : ∀ i : Nat, up G (8 * x + 3) v (8 * i + 1) = G (8 * i + 1) := fun i => up_ne (by omega)
  have e8 : ∀ i : Nat, up G (8 * x + 3) v (8 * i + 2) = G (8 * i + 2) := fun i => up_ne (by omega)
  have e9 : ∀ i : Nat, up G (8 * x + 3) v (8 * i + 4) = G (8 * i + 4) := fun i => up_ne (by omega)
  have e10 : ∀ i : Nat, up G (8 * x + 3) v (8 * i + 5) = G (8 * i + 5) := fun i => up_ne (by omega)
  have e11 : ∀ i : Nat, up G (8 * x + 3) v (8 * i + 6) = G (8 * i + 6) := fun i => up_ne (by omega)
  have e12 : ∀ i : Nat, up G (8 * x + 3) v (8 * i + 7) = G (8 * i + 7) := fun i => up_ne (by omega)
  rw [up_by G (fun i => 8 * i + 3) (fun i j h => by omega) x v]
  simp only [gW, e0, e1, e2, e3, e4, e5, e6, e7, e8, e9, e10, e11, e12, List.set]
theorem gW_r4 (cI : ClassId) (g : Nat → Nat) (G : Nat → Nat) (x v : Nat) : (gW cI g G).set 4 (g 4, .inl (cI, 8, .inl (upd (fun i => nI (G (8 * i + 4))) x (nI v)))) = gW cI g (up G (8 * x + 4) v) := by
  have e0 : up G (8 * x + 4) v 0 = G 0 := up_ne (by omega)
  have e1 : up G (8 * x + 4) v 8 = G 8 := up_ne (by omega)
  have e2 : up G (8 * x + 4) v 16 = G 16 := up_ne (by omega)
  have e3 : up G (8 * x + 4) v 24 = G 24 := up_ne (by omega)
  have e4 : up G (8 * x + 4) v 32 = G 32 := up_ne (by omega)
  have e5 : up G (8 * x + 4) v 40 = G 40 := up_ne (by omega)
  have e6 : up G (8 * x + 4) v 48 = G 48 := up_ne (by omega)
  have e7 : ∀ i : Nat, up G (8 * x + 4) v (8 * i + 1) = G (8 * i + 1) := fun i => up_ne (by omega)
  have e8 : ∀ i : Nat, up G (8 * x + 4) v (8 * i + 2) = G (8 * i + 2) := fun i => up_ne (by omega)
  have e9 : ∀ i : Nat, up G (8 * x + 4) v (8 * i + 3) = G (8 * i + 3) := fun i => up_ne (by omega)
  have e10 : ∀ i : Nat, up G (8 * x + 4) v (8 * i + 5) = G (8 * i + 5) := fun i => up_ne (by omega)
  have e11 : ∀ i : Nat, up G (8 * x + 4) v (8 * i + 6) = G (8 * i + 6) := fun i => up_ne (by omega)
  have e12 : ∀ i : Nat, up G (8 * x + 4) v (8 * i + 7) = G (8 * i + 7) := fun i => up_ne (by omega)
  rw [up_by G (fun i => 8 * i + 4) (fun i j h => by omega) x v]
  simp only [gW, e0, e1, e2, e3, e4, e5, e6, e7, e8, e9, e10, e11, e12, List.set]
theorem gW_r5 (cI : ClassId) (g : Nat → Nat) (G : Nat → Nat) (x v : Nat) : (gW cI g G).set 5 (g 5, .inl (cI, 6, .inl (upd (fun i => nI (G (8 * i + 5))) x (nI v)))) = gW cI g (up G (8 * x + 5) v) := by
  have e0 : up G (8 * x + 5) v 0 = G 0 := up_ne (by omega)
  have e1 : up G (8 * x + 5) v 8 = G 8 := up_ne (by omega)
  have e2 : up G (8 * x + 5) v 16 = G 16 := up_ne (by omega)
  have e3 : up G (8 * x + 5) v 24 = G 24 := up_ne (by omega)
  have e4 : up G (8 * x + 5) v 32 = G 32 := up_ne (by omega)
  have e5 : up G (8 * x + 5) v 40 = G 40 := up_ne (by omega)
  have e6 : up G (8 * x + 5) v 48 = G 48 := up_ne (by omega)
  have e7 : ∀ i : Nat, up G (8 * x + 5) v (8 * i + 1) = G (8 * i + 1) := fun i => up_ne (by omega)
  have e8 : ∀ i : Nat, up G (8 * x + 5) v (8 * i + 2) = G (8 * i + 2) := fun i => up_ne (by omega)
  have e9 : ∀ i : Nat, up G (8 * x + 5) v (8 * i + 3) = G (8 * i + 3) := fun i => up_ne (by omega)
  have e10 : ∀ i : Nat, up G (8 * x + 5) v (8 * i + 4) = G (8 * i + 4) := fun i => up_ne (by omega)
  have e11 : ∀ i : Nat, up G (8 * x + 5) v (8 * i + 6) = G (8 * i + 6) := fun i => up_ne (by omega)
  have e12 : ∀ i : Nat, up G (8 * x + 5) v (8 * i + 7) = G (8 * i + 7) := fun i => up_ne (by omega)
  rw [up_by G (fun i => 8 * i + 5) (fun i j h => by omega) x v]
  simp only [gW, e0, e1, e2, e3, e4, e5, e6, e7, e8, e9, e10, e11, e12, List.set]
theorem gW_r6 (cI : ClassId) (g : Nat → Nat) (G : Nat → Nat) (x v : Nat) : (gW cI g G).set 6 (g 6, .inl (cI, 6, .inl (upd (fun i => nI (G (8 * i + 6))) x (nI v)))) = gW cI g (up G (8 * x + 6) v) := by
  have e0 : up G (8 * x + 6) v 0 = G 0 := up_ne (by omega)
  have e1 : up G (8 * x + 6) v 8 = G 8 := up_ne (by omega)
  have e2 : up G (8 * x + 6) v 16 = G 16 := up_ne (by omega)
  have e3 : up G (8 * x + 6) v 24 = G 24 := up_ne (by omega)
  have e4 : up G (8 * x + 6) v 32 = G 32 := up_ne (by omega)
  have e5 : up G (8 * x + 6) v 40 = G 40 := up_ne (by omega)
  have e6 : up G (8 * x + 6) v 48 = G 48 := up_ne (by omega)
  have e7 : ∀ i : Nat, up G (8 * x + 6) v (8 * i + 1) = G (8 * i + 1) := fun i => up_ne (by omega)
  have e8 : ∀ i : Nat, up G (8 * x + 6) v (8 * i + 2) = G (8 * i + 2) := fun i => up_ne (by omega)
  have e9 : ∀ i : Nat, up G (8 * x + 6) v (8 * i + 3) = G (8 * i + 3) := fun i => up_ne (by omega)
  have e10 : ∀ i : Nat, up G (8 * x + 6) v (8 * i + 4) = G (8 * i + 4) := fun i => up_ne (by omega)
  have e11 : ∀ i : Nat, up G (8 * x + 6) v (8 * i + 5) = G (8 * i + 5) := fun i => up_ne (by omega)
  have e12 : ∀ i : Nat, up G (8 * x + 6) v (8 * i + 7) = G (8 * i + 7) := fun i => up_ne (by omega)
  rw [up_by G (fun i => 8 * i + 6) (fun i j h => by omega) x v]
  simp only [gW, e0, e1, e2, e3, e4, e5, e6, e7, e8, e9, e10, e11, e12, List.set]
theorem gW_r7 (cI : ClassId) (g : Nat → Nat) (G : Nat → Nat) (x v : Nat) : (gW cI g G).set 7 (g 7, .inl (cI, 6, .inl (upd (fun i => nI (G (8 * i + 7))) x (nI v)))) = gW cI g (up G (8 * x + 7) v) := by
  have e0 : up G (8 * x + 7) v 0 = G 0 := up_ne (by omega)
  have e1 : up G (8 * x + 7) v 8 = G 8 := up_ne (by omega)
  have e2 : up G (8 * x + 7) v 16 = G 16 := up_ne (by omega)
  have e3 : up G (8 * x + 7) v 24 = G 24 := up_ne (by omega)
  have e4 : up G (8 * x + 7) v 32 = G 32 := up_ne (by omega)
  have e5 : up G (8 * x + 7) v 40 = G 40 := up_ne (by omega)
  have e6 : up G (8 * x + 7) v 48 = G 48 := up_ne (by omega)
  have e7 : ∀ i : Nat, up G (8 * x + 7) v (8 * i + 1) = G (8 * i + 1) := fun i => up_ne (by omega)
  have e8 : ∀ i : Nat, up G (8 * x + 7) v (8 * i + 2) = G (8 * i + 2) := fun i => up_ne (by omega)
  have e9 : ∀ i : Nat, up G (8 * x + 7) v (8 * i + 3) = G (8 * i + 3) := fun i => up_ne (by omega)
  have e10 : ∀ i : Nat, up G (8 * x + 7) v (8 * i + 4) = G (8 * i + 4) := fun i => up_ne (by omega)
  have e11 : ∀ i : Nat, up G (8 * x + 7) v (8 * i + 5) = G (8 * i + 5) := fun i => up_ne (by omega)
  have e12 : ∀ i : Nat, up G (8 * x + 7) v (8 * i + 6) = G (8 * i + 6) := fun i => up_ne (by omega)
  rw [up_by G (fun i => 8 * i + 7) (fun i j h => by omega) x v]
  simp only [gW, e0, e1, e2, e3, e4, e5, e6, e7, e8, e9, e10, e11, e12, List.set]
/-- the reference's own cell: R: 0 isKept, 1 taped, 2 token, 3 begin, 4 at, 5 value, 6 bad -/
def mH (mo : Nat → Nat) (R : Nat → Nat) : va_W := [(mo 0, .inr (4, [.ref (mo 1), .ref (mo 2), .ref (mo 3), .int (nI (R 0)), .ref (mo 4), .ref (mo 5), .int (nI (R 1)), .int (nI (R 2)), .int (nI (R 3)), .int (nI (R 4)), .int (nI (R 5)), .int (nI (R 6)), .ref (mo 6), .ref (mo 7), .ref (mo 8)]))]
theorem mH_s0 (mo : Nat → Nat) (R : Nat → Nat) (v : Nat) : (mH mo R).set 0 (mo 0, .inr (4, [.ref (mo 1), .ref (mo 2), .ref (mo 3), .int (nI (R 0)), .ref (mo 4), .ref (mo 5), .int (nI (R 1)), .int (nI (R 2)), .int (nI (R 3)), .int (nI (R 4)), .int (nI (R 5)), .int (nI (R 6)), .ref (mo 6), .ref (mo 7), .ref (mo 8)].set 3 (.int (nI v)))) = mH mo (up R 0 v) := by
  have e0 : up R 0 v 1 = R 1 := up_ne (by decide)
  have e1 : up R 0 v 2 = R 2 := up_ne (by decide)
  have e2 : up R 0 v 3 = R 3 := up_ne (by decide)
  have e3 : up R 0 v 4 = R 4 := up_ne (by decide)
  have e4 : up R 0 v 5 = R 5 := up_ne (by decide)
  have e5 : up R 0 v 6 = R 6 := up_ne (by decide)
  simp only [mH, up_eq, e0, e1, e2, e3, e4, e5, List.set]
theorem mH_s1 (mo : Nat → Nat) (R : Nat → Nat) (v : Nat) : (mH mo R).set 0 (mo 0, .inr (4, [.ref (mo 1), .ref (mo 2), .ref (mo 3), .int (nI (R 0)), .ref (mo 4), .ref (mo 5), .int (nI (R 1)), .int (nI (R 2)), .int (nI (R 3)), .int (nI (R 4)), .int (nI (R 5)), .int (nI (R 6)), .ref (mo 6), .ref (mo 7), .ref (mo 8)].set 6 (.int (nI v)))) = mH mo (up R 1 v) := by
  have e0 : up R 1 v 0 = R 0 := up_ne (by decide)
  have e1 : up R 1 v 2 = R 2 := up_ne (by decide)
  have e2 : up R 1 v 3 = R 3 := up_ne (by decide)
  have e3 : up R 1 v 4 = R 4 := up_ne (by decide)
  have e4 : up R 1 v 5 = R 5 := up_ne (by decide)
  have e5 : up R 1 v 6 = R 6 := up_ne (by decide)
  simp only [mH, up_eq, e0, e1, e2, e3, e4, e5, List.set]
theorem mH_s2 (mo : Nat → Nat) (R : Nat → Nat) (v : Nat) : (mH mo R).set 0 (mo 0, .inr (4, [.ref (mo 1), .ref (mo 2), .ref (mo 3), .int (nI (R 0)), .ref (mo 4), .ref (mo 5), .int (nI (R 1)), .int (nI (R 2)), .int (nI (R 3)), .int (nI (R 4)), .int (nI (R 5)), .int (nI (R 6)), .ref (mo 6), .ref (mo 7), .ref (mo 8)].set 7 (.int (nI v)))) = mH mo (up R 2 v) := by
  have e0 : up R 2 v 0 = R 0 := up_ne (by decide)
  have e1 : up R 2 v 1 = R 1 := up_ne (by decide)
  have e2 : up R 2 v 3 = R 3 := up_ne (by decide)
  have e3 : up R 2 v 4 = R 4 := up_ne (by decide)
  have e4 : up R 2 v 5 = R 5 := up_ne (by decide)
  have e5 : up R 2 v 6 = R 6 := up_ne (by decide)
  simp only [mH, up_eq, e0, e1, e2, e3, e4, e5, List.set]
theorem mH_s3 (mo : Nat → Nat) (R : Nat → Nat) (v : Nat) : (mH mo R).set 0 (mo 0, .inr (4, [.ref (mo 1), .ref (mo 2), .ref (mo 3), .int (nI (R 0)), .ref (mo 4), .ref (mo 5), .int (nI (R 1)), .int (nI (R 2)), .int (nI (R 3)), .int (nI (R 4)), .int (nI (R 5)), .int (nI (R 6)), .ref (mo 6), .ref (mo 7), .ref (mo 8)].set 8 (.int (nI v)))) = mH mo (up R 3 v) := by
  have e0 : up R 3 v 0 = R 0 := up_ne (by decide)
  have e1 : up R 3 v 1 = R 1 := up_ne (by decide)
  have e2 : up R 3 v 2 = R 2 := up_ne (by decide)
  have e3 : up R 3 v 4 = R 4 := up_ne (by decide)
  have e4 : up R 3 v 5 = R 5 := up_ne (by decide)
  have e5 : up R 3 v 6 = R 6 := up_ne (by decide)
  simp only [mH, up_eq, e0, e1, e2, e3, e4, e5, List.set]
theorem mH_s4 (mo : Nat → Nat) (R : Nat → Nat) (v : Nat) : (mH mo R).set 0 (mo 0, .inr (4, [.ref (mo 1), .ref (mo 2), .ref (mo 3), .int (nI (R 0)), .ref (mo 4), .ref (mo 5), .int (nI (R 1)), .int (nI (R 2)), .int (nI (R 3)), .int (nI (R 4)), .int (nI (R 5)), .int (nI (R 6)), .ref (mo 6), .ref (mo 7), .ref (mo 8)].set 9 (.int (nI v)))) = mH mo (up R 4 v) := by
  have e0 : up R 4 v 0 = R 0 := up_ne (by decide)
  have e1 : up R 4 v 1 = R 1 := up_ne (by decide)
  have e2 : up R 4 v 2 = R 2 := up_ne (by decide)
  have e3 : up R 4 v 3 = R 3 := up_ne (by decide)
  have e4 : up R 4 v 5 = R 5 := up_ne (by decide)
  have e5 : up R 4 v 6 = R 6 := up_ne (by decide)
  simp only [mH, up_eq, e0, e1, e2, e3, e4, e5, List.set]
theorem mH_s5 (mo : Nat → Nat) (R : Nat → Nat) (v : Nat) : (mH mo R).set 0 (mo 0, .inr (4, [.ref (mo 1), .ref (mo 2), .ref (mo 3), .int (nI (R 0)), .ref (mo 4), .ref (mo 5), .int (nI (R 1)), .int (nI (R 2)), .int (nI (R 3)), .int (nI (R 4)), .int (nI (R 5)), .int (nI (R 6)), .ref (mo 6), .ref (mo 7), .ref (mo 8)].set 10 (.int (nI v)))) = mH mo (up R 5 v) := by
  have e0 : up R 5 v 0 = R 0 := up_ne (by decide)
  have e1 : up R 5 v 1 = R 1 := up_ne (by decide)
  have e2 : up R 5 v 2 = R 2 := up_ne (by decide)
  have e3 : up R 5 v 3 = R 3 := up_ne (by decide)
  have e4 : up R 5 v 4 = R 4 := up_ne (by decide)
  have e5 : up R 5 v 6 = R 6 := up_ne (by decide)
  simp only [mH, up_eq, e0, e1, e2, e3, e4, e5, List.set]
theorem mH_s6 (mo : Nat → Nat) (R : Nat → Nat) (v : Nat) : (mH mo R).set 0 (mo 0, .inr (4, [.ref (mo 1), .ref (mo 2), .ref (mo 3), .int (nI (R 0)), .ref (mo 4), .ref (mo 5), .int (nI (R 1)), .int (nI (R 2)), .int (nI (R 3)), .int (nI (R 4)), .int (nI (R 5)), .int (nI (R 6)), .ref (mo 6), .ref (mo 7), .ref (mo 8)].set 11 (.int (nI v)))) = mH mo (up R 6 v) := by
  have e0 : up R 6 v 0 = R 0 := up_ne (by decide)
  have e1 : up R 6 v 1 = R 1 := up_ne (by decide)
  have e2 : up R 6 v 2 = R 2 := up_ne (by decide)
  have e3 : up R 6 v 3 = R 3 := up_ne (by decide)
  have e4 : up R 6 v 4 = R 4 := up_ne (by decide)
  have e5 : up R 6 v 5 = R 5 := up_ne (by decide)
  simp only [mH, up_eq, e0, e1, e2, e3, e4, e5, List.set]
/-- the class's own cell -/
def xH (x : Nat) (la ta ka tp sh : Nat → Nat) (fi ik : Nat) : va_W := [(x, .inr (3, [.ref (la 0), .ref (ta 0), .ref (ka 0), .int (nI ik), .ref (tp 0), .ref (sh 0), .ref fi]))]
/-- the tape: R: 0 length, 1 sort, 2 start, 3 behind, 4 number -/
def tW (cI : ClassId) (tp : Nat → Nat) (Tp R : Nat → Nat) : va_W := [(tp 0, .inr (2, [.ref (tp 1), .int (nI (R 0)), .int (nI (R 1)), .int (nI (R 2)), .int (nI (R 3)), .int (nI (R 4))])), (tp 1, .inl (cI, 120, .inl (fun k => nI (Tp k))))]
theorem tW_s0 (cI : ClassId) (tp : Nat → Nat) (Tp R : Nat → Nat) (v : Nat) : (tW cI tp Tp R).set 0 (tp 0, .inr (2, [.ref (tp 1), .int (nI (R 0)), .int (nI (R 1)), .int (nI (R 2)), .int (nI (R 3)), .int (nI (R 4))].set 1 (.int (nI v)))) = tW cI tp Tp (up R 0 v) := by
  have e0 : up R 0 v 1 = R 1 := up_ne (by decide)
  have e1 : up R 0 v 2 = R 2 := up_ne (by decide)
  have e2 : up R 0 v 3 = R 3 := up_ne (by decide)
  have e3 : up R 0 v 4 = R 4 := up_ne (by decide)
  simp only [tW, up_eq, e0, e1, e2, e3, List.set]
theorem tW_s1 (cI : ClassId) (tp : Nat → Nat) (Tp R : Nat → Nat) (v : Nat) : (tW cI tp Tp R).set 0 (tp 0, .inr (2, [.ref (tp 1), .int (nI (R 0)), .int (nI (R 1)), .int (nI (R 2)), .int (nI (R 3)), .int (nI (R 4))].set 2 (.int (nI v)))) = tW cI tp Tp (up R 1 v) := by
  have e0 : up R 1 v 0 = R 0 := up_ne (by decide)
  have e1 : up R 1 v 2 = R 2 := up_ne (by decide)
  have e2 : up R 1 v 3 = R 3 := up_ne (by decide)
  have e3 : up R 1 v 4 = R 4 := up_ne (by decide)
  simp only [tW, up_eq, e0, e1, e2, e3, List.set]
theorem tW_s2 (cI : ClassId) (tp : Nat → Nat) (Tp R : Nat → Nat) (v : Nat) : (tW cI tp Tp R).set 0 (tp 0, .inr (2, [.ref (tp 1), .int (nI (R 0)), .int (nI (R 1)), .int (nI (R 2)), .int (nI (R 3)), .int (nI (R 4))].set 3 (.int (nI v)))) = tW cI tp Tp (up R 2 v) := by
  have e0 : up R 2 v 0 = R 0 := up_ne (by decide)
  have e1 : up R 2 v 1 = R 1 := up_ne (by decide)
  have e2 : up R 2 v 3 = R 3 := up_ne (by decide)
  have e3 : up R 2 v 4 = R 4 := up_ne (by decide)
  simp only [tW, up_eq, e0, e1, e2, e3, List.set]
theorem tW_s3 (cI : ClassId) (tp : Nat → Nat) (Tp R : Nat → Nat) (v : Nat) : (tW cI tp Tp R).set 0 (tp 0, .inr (2, [.ref (tp 1), .int (nI (R 0)), .int (nI (R 1)), .int (nI (R 2)), .int (nI (R 3)), .int (nI (R 4))].set 4 (.int (nI v)))) = tW cI tp Tp (up R 3 v) := by
  have e0 : up R 3 v 0 = R 0 := up_ne (by decide)
  have e1 : up R 3 v 1 = R 1 := up_ne (by decide)
  have e2 : up R 3 v 2 = R 2 := up_ne (by decide)
  have e3 : up R 3 v 4 = R 4 := up_ne (by decide)
  simp only [tW, up_eq, e0, e1, e2, e3, List.set]
theorem tW_s4 (cI : ClassId) (tp : Nat → Nat) (Tp R : Nat → Nat) (v : Nat) : (tW cI tp Tp R).set 0 (tp 0, .inr (2, [.ref (tp 1), .int (nI (R 0)), .int (nI (R 1)), .int (nI (R 2)), .int (nI (R 3)), .int (nI (R 4))].set 5 (.int (nI v)))) = tW cI tp Tp (up R 4 v) := by
  have e0 : up R 4 v 0 = R 0 := up_ne (by decide)
  have e1 : up R 4 v 1 = R 1 := up_ne (by decide)
  have e2 : up R 4 v 2 = R 2 := up_ne (by decide)
  have e3 : up R 4 v 3 = R 3 := up_ne (by decide)
  simp only [tW, up_eq, e0, e1, e2, e3, List.set]
theorem tW_r1 (cI : ClassId) (tp : Nat → Nat) (Tp R : Nat → Nat) (k v : Nat) : (tW cI tp Tp R).set 1 (tp 1, .inl (cI, 120, .inl (upd (fun k => nI (Tp k)) k (nI v)))) = tW cI tp (up Tp k v) R := by
  rw [up_row]; rfl
/-- the sheets: widths B, lengths Z, numbers C -/
def sW (cI cJ : ClassId) (sh : Nat → Nat) (B Z : Nat → Nat) (C : Nat → Int64) : va_W := [(sh 0, .inr (1, [.ref (sh 1), .ref (sh 2), .ref (sh 3)])), (sh 1, .inl (cI, 4, .inl (fun k => nI (B k)))), (sh 2, .inl (cI, 4, .inl (fun k => nI (Z k)))), (sh 3, .inl (cJ, 160, .inr (.inl C)))]
theorem sW_r1 (cI cJ : ClassId) (sh : Nat → Nat) (B Z : Nat → Nat) (C : Nat → Int64) (k v : Nat) : (sW cI cJ sh B Z C).set 1 (sh 1, .inl (cI, 4, .inl (upd (fun k => nI (B k)) k (nI v)))) = sW cI cJ sh (up B k v) (Z) C := by
  rw [up_row]; rfl
theorem sW_r2 (cI cJ : ClassId) (sh : Nat → Nat) (B Z : Nat → Nat) (C : Nat → Int64) (k v : Nat) : (sW cI cJ sh B Z C).set 2 (sh 2, .inl (cI, 4, .inl (upd (fun k => nI (Z k)) k (nI v)))) = sW cI cJ sh (B) (up Z k v) C := by
  rw [up_row]; rfl
theorem sW_r3 (cI cJ : ClassId) (sh : Nat → Nat) (B Z : Nat → Nat) (C : Nat → Int64) (k : Nat) (v : Int64) : (sW cI cJ sh B Z C).set 3 (sh 3, .inl (cJ, 160, .inr (.inl (vp_updL C k v)))) = sW cI cJ sh B Z (vp_updL C k v) := rfl
/-- a row's numbers beyond its end are nobody's -/
theorem vp_cell_ext {cA : ClassId} {n : Nat} {f g : Nat → Int32} (h : ∀ k, k < n → f k = g k) : vp_cell cA (n, .inl f) = vp_cell cA (n, .inl g) := by
  rw [vp_cell_i, vp_cell_i]
  unfold arrV
  congr 2
  funext j
  exact congrArg Value.int (h j.val j.isLt)
theorem vp_cell_extL {cA : ClassId} {n : Nat} {f g : Nat → Int64} (h : ∀ k, k < n → f k = g k) : vp_cell cA (n, .inr (.inl f)) = vp_cell cA (n, .inr (.inl g)) := by
  rw [vp_cell_l, vp_cell_l]
  unfold arrV
  congr 2
  funext j
  exact congrArg Value.long (h j.val j.isLt)
theorem sg_cell {D : va_G} {cl : List vw_C} {A : Nat → Prop} {H0 H : Heap} {locs : List Loc} {ss : List va_W} (hW : Wo D cl A H0 H locs ss) (i j : Nat) {seg : va_W} {a : Nat} {e e' : va_E} (hi : ss[i]? = some seg) (he : seg[j]? = some (a, e)) (hx : ∀ H, va_at D cl (a, e) H → va_at D cl (a, e') H) {seg' : va_W} (hs : seg.set j (a, e') = seg') {ss' : List va_W} (hss : ss.set i seg' = ss') : Wo D cl A H0 H locs ss' := by
  obtain ⟨q0, h1, h2⟩ := sg_at ss i j seg _ hi he
  subst hss; subst hs
  refine ⟨?_, ?_, hW.2.2⟩
  · rw [← h2]
    exact hW.1.set hW.2.1 h1 (hx _ (hW.1 q0 _ h1)) (fun q _ => rfl)
  · rw [← h2]
    exact hW.2.1.set h1
theorem sg_fn {D : va_G} {cl : List vw_C} {A : Nat → Prop} {H0 H : Heap} {locs : List Loc} {ss : List va_W} (hW : Wo D cl A H0 H locs ss) (i j : Nat) {seg : va_W} {a n : Nat} {cA : ClassId} {f g : Nat → Int32} (hi : ss[i]? = some seg) (he : seg[j]? = some (a, .inl (cA, n, .inl f))) (hx : ∀ k, k < n → f k = g k) {seg' : va_W} (hs : seg.set j (a, .inl (cA, n, .inl g)) = seg') {ss' : List va_W} (hss : ss.set i seg' = ss') : Wo D cl A H0 H locs ss' :=
  sg_cell hW i j hi he (fun H h => by show H[a]? = some (vp_cell _ _); rw [← vp_cell_ext hx]; exact h) hs hss
theorem sg_fnL {D : va_G} {cl : List vw_C} {A : Nat → Prop} {H0 H : Heap} {locs : List Loc} {ss : List va_W} (hW : Wo D cl A H0 H locs ss) (i j : Nat) {seg : va_W} {a n : Nat} {cA : ClassId} {f g : Nat → Int64} (hi : ss[i]? = some seg) (he : seg[j]? = some (a, .inl (cA, n, .inr (.inl f)))) (hx : ∀ k, k < n → f k = g k) {seg' : va_W} (hs : seg.set j (a, .inl (cA, n, .inr (.inl g))) = seg') {ss' : List va_W} (hss : ss.set i seg' = ss') : Wo D cl A H0 H locs ss' :=
  sg_cell hW i j hi he (fun H h => by show H[a]? = some (vp_cell _ _); rw [← vp_cell_extL hx]; exact h) hs hss
