/-! ===== the tape: tokens, from the place behind the last one ===== -/
def srtN (b : Nat) : Nat := if 97 ≤ b ∧ b ≤ 122 then 1 else if 48 ≤ b ∧ b ≤ 57 then 2 else if b = 59 then 3 else 4
theorem srtN_in (b : Nat) : 1 ≤ srtN b ∧ srtN b ≤ 4 := by unfold srtN; (repeat' split) <;> omega
/-- where the token begins, its sort, its end, its number -/
def bT (T : Nat → Nat) (L p : Nat) : Nat := seek (fun q => decide (¬ T q = 32)) (L - p) p
def sT (T : Nat → Nat) (L p : Nat) : Nat := if bT T L p < L then srtN (T (bT T L p)) else 0
def runT (T : Nat → Nat) (L s b : Nat) : Nat := seek (fun q => decide (¬ srtN (T q) = s)) (L - b) b
def eT (T : Nat → Nat) (L p : Nat) : Nat := if sT T L p = 1 ∨ sT T L p = 2 then runT T L (sT T L p) (bT T L p) else if sT T L p = 0 then bT T L p else bT T L p + 1
def numC (T : Nat → Nat) (b : Nat) : Nat → Nat
  | 0 => 0
  | k + 1 => min 1000 (10 * numC T b k + T (b + k) - 48)
def numM (T : Nat → Nat) (b : Nat) : Nat → Nat
  | 0 => 0
  | k + 1 => if 999 < numM T b k then numM T b k else 10 * numM T b k + T (b + k) - 48
def nT (T : Nat → Nat) (L p : Nat) : Nat := if sT T L p = 2 then numC T (bT T L p) (eT T L p - bT T L p) else 0
def mT (T : Nat → Nat) (L p : Nat) : Nat := if sT T L p = 2 then numM T (bT T L p) (eT T L p - bT T L p) else 0
theorem seek_in (P : Nat → Bool) : ∀ (n i : Nat), i ≤ seek P n i ∧ seek P n i ≤ i + n
  | 0, i => ⟨Nat.le_refl _, Nat.le_refl _⟩
  | n + 1, i => by
    have ih := seek_in P n (i + 1)
    show i ≤ (if P i then i else seek P n (i + 1)) ∧ (if P i then i else seek P n (i + 1)) ≤ i + (n + 1)
    split <;> omega
theorem seek_before {P : Nat → Bool} : ∀ (n i k : Nat), i ≤ k → k < seek P n i → P k = false
  | 0, i, k, h1, h2 => by exfalso; have : k < i := h2; omega
  | n + 1, i, k, h1, h2 => by
    have h3 : k < (if P i then i else seek P n (i + 1)) := h2
    by_cases q : P i = true
    · rw [if_pos q] at h3; omega
    · rw [if_neg q] at h3
      by_cases r : k = i
      · rw [r]; exact Bool.eq_false_iff.mpr q
      · exact seek_before n (i + 1) k (by omega) h3
theorem bT_in (T : Nat → Nat) {L p : Nat} (h : p ≤ L) : p ≤ bT T L p ∧ bT T L p ≤ L := by
  have := seek_in (fun q => decide (¬ T q = 32)) (L - p) p
  unfold bT; omega
theorem sT_le (T : Nat → Nat) (L p : Nat) : sT T L p ≤ 4 := by
  have := srtN_in (T (bT T L p)); unfold sT; split <;> omega
theorem sT_0 {T : Nat → Nat} {L p : Nat} (h : p ≤ L) : sT T L p = 0 ↔ bT T L p = L := by
  have h1 := srtN_in (T (bT T L p)); have h2 := bT_in T h
  unfold sT; split <;> omega
theorem eT_in (T : Nat → Nat) {L p : Nat} (h : p ≤ L) : bT T L p ≤ eT T L p ∧ eT T L p ≤ L := by
  have h1 := bT_in T h; have h0 := sT_0 (T := T) h
  have h2 := seek_in (fun q => decide (¬ srtN (T q) = sT T L p)) (L - bT T L p) (bT T L p)
  unfold eT runT
  split
  · omega
  · split <;> omega
/-- a token that isn't the end takes a byte -/
theorem eT_gt {T : Nat → Nat} {L p : Nat} (h : p ≤ L) (hs : ¬ sT T L p = 0) : bT T L p < eT T L p := by
  have h1 := bT_in T h; have h0 := sT_0 (T := T) h
  have hb : bT T L p < L := by omega
  have es : sT T L p = srtN (T (bT T L p)) := if_pos hb
  unfold eT runT
  split
  · rw [seek_f hb (decide_eq_false (by rw [es]; exact fun q => q rfl))]
    have h2 := seek_in (fun q => decide (¬ srtN (T q) = sT T L p)) (L - (bT T L p + 1)) (bT T L p + 1)
    omega
  · (try split) <;> omega
theorem eT_run {T : Nat → Nat} {L p k : Nat} (hs : sT T L p = 1 ∨ sT T L p = 2) (h1 : bT T L p ≤ k) (h2 : k < eT T L p) : srtN (T k) = sT T L p := by
  unfold eT at h2; rw [if_pos hs] at h2
  have := seek_before _ _ _ h1 h2
  exact Decidable.not_not.mp (of_decide_eq_false this)
theorem numC_le (T : Nat → Nat) (b : Nat) : ∀ k, numC T b k ≤ 1000
  | 0 => Nat.zero_le _
  | k + 1 => Nat.min_le_left _ _
theorem numCM {T : Nat → Nat} {b : Nat} : ∀ k, (∀ i, i < k → 48 ≤ T (b + i) ∧ T (b + i) ≤ 57) → (numC T b k ≤ 999 ∧ numM T b k = numC T b k) ∨ (999 < numC T b k ∧ 999 < numM T b k ∧ numM T b k ≤ 9999)
  | 0, _ => Or.inl ⟨Nat.zero_le _, rfl⟩
  | k + 1, h => by
    have ih := numCM k (fun i hi => h i (by omega))
    have hd := h k (Nat.lt_succ_self k)
    show (min 1000 (10 * numC T b k + T (b + k) - 48) ≤ 999 ∧ (if 999 < numM T b k then numM T b k else 10 * numM T b k + T (b + k) - 48) = min 1000 (10 * numC T b k + T (b + k) - 48)) ∨ (999 < min 1000 (10 * numC T b k + T (b + k) - 48) ∧ 999 < (if 999 < numM T b k then numM T b k else 10 * numM T b k + T (b + k) - 48) ∧ (if 999 < numM T b k then numM T b k else 10 * numM T b k + T (b + k) - 48) ≤ 9999)
    rcases ih with ⟨a, e⟩ | ⟨a, e, f⟩
    · rw [if_neg (by omega), e]; omega
    · rw [if_pos e]; omega
