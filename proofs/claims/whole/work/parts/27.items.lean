/-! ===== the tape's items: (1, the place behind, the green) or (0, the place whose token can't stand, _) ===== -/
def motO (T : Nat → Nat) (L p : Nat) (G : Nat → Nat) (k sc : Nat) : Nat × Nat × (Nat → Nat) := if kT T L p = 7 then (1, eT T L p, addM G k sc 1) else (1, p, addM G k sc 0)
def motS (T : Nat → Nat) (L p : Nat) (G : Nat → Nat) (k : Nat) : Nat × Nat × (Nat → Nat) := if 8 ≤ G 40 then (0, p, G) else if kT T L (eT T L p) = 6 then (if sT T L (eT T L (eT T L p)) = 2 ∧ nT T L (eT T L (eT T L p)) ≤ 99 then motO T L (eT T L (eT T L (eT T L p))) G k (nT T L (eT T L (eT T L p))) else (0, eT T L (eT T L p), G)) else motO T L (eT T L p) G k 10
def chiO (T : Nat → Nat) (L p : Nat) (G : Nat → Nat) (gr : Nat) : Nat × Nat × (Nat → Nat) := if kT T L p = 9 then (1, eT T L p, addC G gr 1) else (1, p, addC G gr 0)
def chiS (T : Nat → Nat) (L p : Nat) (G : Nat → Nat) : Nat × Nat × (Nat → Nat) := if 6 ≤ G 48 then (0, p, G) else if sT T L (eT T L p) = 2 ∧ nT T L (eT T L p) ≤ 200 then chiO T L (eT T L (eT T L p)) G (nT T L (eT T L p)) else (0, eT T L p, G)
def wetB (g n : Nat) : Nat := g ||| 2 ^ n
def dryB (g n : Nat) : Nat := g - g / 2 ^ n % 2 * 2 ^ n
def raiS (T : Nat → Nat) (L p : Nat) (G : Nat → Nat) (wet : Nat) : Nat × Nat × (Nat → Nat) := if sT T L (eT T L p) = 2 ∧ nT T L (eT T L p) ≤ 4 then (1, eT T L (eT T L p), up G 8 (if wet = 1 then wetB (G 8) (nT T L (eT T L p)) else dryB (G 8) (nT T L (eT T L p)))) else (0, eT T L p, G)
def hevS (T : Nat → Nat) (L p : Nat) (G : Nat → Nat) : Nat × Nat × (Nat → Nat) := if sT T L (eT T L p) = 2 ∧ 1 ≤ nT T L (eT T L p) ∧ nT T L (eT T L p) ≤ 50 then (1, eT T L (eT T L p), up G 16 (nT T L (eT T L p))) else (0, eT T L p, G)
def itemS (T : Nat → Nat) (L p : Nat) (G : Nat → Nat) : Nat × Nat × (Nat → Nat) := if kT T L p ≤ 5 then motS T L p G (kT T L p) else if kT T L p = 8 then chiS T L p G else if kT T L p = 10 then raiS T L p G 1 else if kT T L p = 11 then raiS T L p G 0 else if kT T L p = 12 then hevS T L p G else (0, p, G)
/-- all items: (1, how many, the green) or (0, where the fault begins, _) -/
def parS (T : Nat → Nat) (L : Nat) : Nat → Nat → (Nat → Nat) → Nat → Nat × Nat × (Nat → Nat)
  | 0, p, G, _ => (0, bT T L p, G)
  | f + 1, p, G, n => if (itemS T L p G).1 = 0 then (0, bT T L (itemS T L p G).2.1, G) else if sT T L (itemS T L p G).2.1 = 0 then (1, n, (itemS T L p G).2.2) else if sT T L (itemS T L p G).2.1 = 3 then parS T L f (eT T L (itemS T L p G).2.1) (itemS T L p G).2.2 (n + 1) else (0, bT T L (itemS T L p G).2.1, G)
def greenV (T : Nat → Nat) (L : Nat) (G : Nat → Nat) : Int32 := if (parS T L 120 0 G 1).1 = 0 then (-1) - nI (parS T L 120 0 G 1).2.1 else nI (parS T L 120 0 G 1).2.1
def greenG (T : Nat → Nat) (L : Nat) (G : Nat → Nat) : Nat → Nat := if (parS T L 120 0 G 1).1 = 0 then G else (parS T L 120 0 G 1).2.2
