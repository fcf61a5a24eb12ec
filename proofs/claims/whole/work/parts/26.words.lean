/-! ===== the tape's words ===== -/
def nmL : List (List Nat) := [[109, 111, 116, 104, 101, 114], [97, 117, 110, 116], [103, 111, 115, 115, 105, 112], [109, 114, 115], [103, 114, 97, 110], [98, 114, 105, 100, 101], [115, 101, 99, 114, 101, 116], [111, 117, 116], [99, 104, 105, 108, 100], [111, 110], [114, 97, 105, 110], [100, 114, 121], [104, 101, 97, 118, 121]]
def nmC (w i : Nat) : Nat := (nmL.getD w []).getD i 0
def lnC (w : Nat) : Nat := (nmL.getD w []).length
def isNm (T : Nat → Nat) (b n w : Nat) : Bool := decide (n ≤ 7 ∧ (n = 7 ∨ nmC w n = 0) ∧ ∀ i, i < n → nmC w i = T (b + i))
def wdN (T : Nat → Nat) (b n : Nat) : Nat := if seek (isNm T b n) 13 0 < 13 then seek (isNm T b n) 13 0 else 23
def kT (T : Nat → Nat) (L p : Nat) : Nat := if sT T L p = 0 then 22 else if sT T L p = 1 then wdN T (bT T L p) (eT T L p - bT T L p) else if sT T L p = 2 then 20 else if sT T L p = 3 then 21 else 23
/-- the word w stands there -/
def isWd (T : Nat → Nat) (b n w : Nat) : Prop := n = lnC w ∧ ∀ i, i < lnC w → T (b + i) = nmC w i
theorem nm_tab : ∀ w, w < 13 → lnC w ≤ 6 ∧ (∀ i, i < 8 → (nmC w i = 0 ↔ lnC w ≤ i)) := by decide +kernel
theorem nm_two : ∀ w, w < 13 → ∀ v, v < 13 → lnC w = lnC v → (∀ i, i < 6 → nmC w i = nmC v i) → w = v := by decide +kernel
theorem isNm_iff {T : Nat → Nat} {b n w : Nat} (hw : w < 13) (hn : ∀ i, i < n → ¬ T (b + i) = 0) : isNm T b n w = true ↔ isWd T b n w := by
  have ht := nm_tab w hw
  unfold isNm isWd
  rw [decide_eq_true_iff]
  constructor
  · rintro ⟨h7, h0, hc⟩
    have hl : n ≤ lnC w := by
      rcases Nat.lt_or_ge (lnC w) n with q | q
      · exfalso
        have h1 := (ht.2 (lnC w) (by omega)).mpr (Nat.le_refl _)
        exact hn _ q ((hc _ q).symm.trans h1)
      · exact q
    have hg : lnC w ≤ n := by
      rcases h0 with q | q
      · omega
      · exact (ht.2 n (by omega)).mp q
    have e : n = lnC w := by omega
    exact ⟨e, fun i hi => (hc i (by omega)).symm⟩
  · rintro ⟨e, hc⟩
    refine ⟨by omega, Or.inr ((ht.2 n (by omega)).mpr (by omega)), fun i hi => (hc i (by omega)).symm⟩
theorem isWd_one {T : Nat → Nat} {b n w v : Nat} (hw : w < 13) (hv : v < 13) (h : isWd T b n w) (g : isWd T b n v) : w = v := by
  have t1 := nm_tab w hw
  have t2 := nm_tab v hv
  have e : lnC w = lnC v := h.1.symm.trans g.1
  refine nm_two w hw v hv e (fun i hi => ?_)
  rcases Nat.lt_or_ge i (lnC w) with q | q
  · rw [← h.2 i q, g.2 i (by omega)]
  · rw [(t1.2 i (by omega)).mpr q, (t2.2 i (by omega)).mpr (by omega)]
theorem seek_at {P : Nat → Bool} : ∀ (n i : Nat), seek P n i < i + n → P (seek P n i) = true
  | 0, i, h => absurd (show i < i + 0 from h) (by omega)
  | n + 1, i, h => by
    have h1 : (if P i then i else seek P n (i + 1)) < i + (n + 1) := h
    show P (if P i then i else seek P n (i + 1)) = true
    by_cases q : P i = true
    · rw [if_pos q]; exact q
    · rw [if_neg q] at h1 ⊢; exact seek_at n (i + 1) (by omega)
theorem wdN_iff {T : Nat → Nat} {b n w : Nat} (hw : w < 13) (hn : ∀ i, i < n → ¬ T (b + i) = 0) : wdN T b n = w ↔ isWd T b n w := by
  have hi := seek_in (isNm T b n) 13 0
  unfold wdN
  constructor
  · intro h
    split at h
    · next q =>
      rw [← isNm_iff hw hn, ← h]
      exact seek_at 13 0 (by omega)
    · omega
  · intro h
    have hb : isNm T b n w = true := (isNm_iff hw hn).mpr h
    have hx : seek (isNm T b n) (13 - 0) 0 = w := seek_first (e := 13) hw hb w 0 (by omega) (by omega) (fun g _ hg => by
      rcases Bool.eq_false_or_eq_true (isNm T b n g) with r | r
      · exact absurd (isWd_one (by omega) hw ((isNm_iff (by omega) hn).mp r) h) (by omega)
      · exact r)
    have hx : seek (isNm T b n) 13 0 = w := hx
    rw [hx, if_pos hw]
