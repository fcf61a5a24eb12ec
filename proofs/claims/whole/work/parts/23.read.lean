/-- two greens that differ in one mother's kind and secret alone -/
def Am (a : Nat) (A B : Nat → Nat) : Prop := ∀ k, ¬ k = 8 * a + 1 → ¬ k = 8 * a + 3 → A k = B k
theorem Am.oC {a : Nat} {A B : Nat → Nat} (h : Am a A B) : outC A = outC B := by
  unfold outC
  rw [h 40 (by omega) (by omega)]
  exact sumN_cong (fun i _ => h _ (by omega) (by omega))
theorem Am.night {a : Nat} {A B : Nat → Nat} (h : Am a A B) : nightN A = nightN B := by
  unfold nightN; rw [h 0 (by omega) (by omega)]
theorem Am.keeps {a n : Nat} {A B : Nat → Nat} (h : Am a A B) (hn : ¬ n = a) : keepsN A n = keepsN B n := by
  unfold keepsN
  rw [h (8 * n + 1) (by omega) (by omega), h (8 * n + 2) (by omega) (by omega), h (8 * n + 3) (by omega) (by omega), h (8 * n + 4) (by omega) (by omega), h.oC, h.night]
theorem Am.speaks {a n : Nat} {A B : Nat → Nat} (h : Am a A B) (hn : ¬ n = a) : speaksN A n = speaksN B n := by
  unfold speaksN
  rw [h (8 * n + 1) (by omega) (by omega), h (8 * n + 2) (by omega) (by omega), h (8 * n + 4) (by omega) (by omega), h 24 (by omega) (by omega), h.oC, h.night]
theorem Am.pT {a : Nat} {A B : Nat → Nat} (h : Am a A B) (ho : ¬ A (8 * a + 2) = 1) : ∀ n, pushTo A n = pushTo B n
  | 0 => rfl
  | n + 1 => by
    show pushTo A n + (if A (8 * n + 2) = 1 then keepsN A n else 0) = pushTo B n + (if B (8 * n + 2) = 1 then keepsN B n else 0)
    rw [h.pT ho n, ← h (8 * n + 2) (by omega) (by omega)]
    by_cases q : n = a
    · rw [q, if_neg ho, if_neg ho]
    · rw [h.keeps q]
theorem Am.speed {a : Nat} {A B : Nat → Nat} (h : Am a A B) (ho : ¬ A (8 * a + 2) = 1) : speedN A = speedN B := by
  unfold speedN pushN wetN weightN onC
  rw [h 24 (by omega) (by omega), h 0 (by omega) (by omega), h 8 (by omega) (by omega), h 40 (by omega) (by omega), h.pT ho, h 16 (by omega) (by omega), h 48 (by omega) (by omega), sumN_cong (f := fun i => A (8 * i + 6)) (g := fun i => B (8 * i + 6)) (fun i _ => h _ (by omega) (by omega))]
theorem Am.upd {a : Nat} {A B : Nat → Nat} (h : Am a A B) (k v : Nat) : Am a (up A k v) (up B k v) := by
  intro q h1 h2
  unfold up
  split
  · rfl
  · exact h q h1 h2
theorem Am.spin {a : Nat} {A B : Nat → Nat} (h : Am a A B) (ho : ¬ A (8 * a + 2) = 1) : Am a (spinG A) (spinG B) := by
  unfold spinG
  rw [h.speed ho, h 32 (by omega) (by omega)]
  exact (h.upd _ _).upd _ _
theorem Am.grips {a : Nat} {A B : Nat → Nat} (h : Am a A B) : Am a (gripsG A) (gripsG B) := by
  intro k h1 h2
  unfold gripsG
  rw [h 48 (by omega) (by omega)]
  by_cases q : k % 8 < 5
  · rw [grips_keep _ _ q, grips_keep _ _ q]; exact h k h1 h2
  · have ek : k = 8 * (k / 8) + k % 8 := by omega
    rw [ek, gripsTo_at _ _ (by omega), gripsTo_at _ _ (by omega)]
    split
    · exact hold_cong (h 24 (by omega) (by omega)) (h _ (by omega) (by omega)) (h _ (by omega) (by omega)) (h _ (by omega) (by omega)) (by omega)
    · exact h _ (by omega) (by omega)
theorem talkF_2 (A : Nat → Nat) (n a : Nat) : talkF A n (8 * a + 2) = A (8 * a + 2) := by
  unfold talkF
  (repeat' split) <;> first | rfl | (rw [up_ne (by omega), up_ne (by omega)]) | (rw [up_ne (by omega)])
theorem Am.talk {a : Nat} {A B : Nat → Nat} (h : Am a A B) (ho : ¬ A (8 * a + 2) = 1) (n : Nat) : Am a (talkF A n) (talkF B n) := by
  unfold talkF
  rw [← h (8 * n + 2) (by omega) (by omega)]
  by_cases q : n = a
  · rw [q, if_neg ho, if_neg ho]; exact h
  · rw [h.speaks q, h (8 * n + 3) (by omega) (by omega), h (8 * n + 4) (by omega) (by omega), h (8 * n + 1) (by omega) (by omega)]
    split
    · split
      · exact (h.upd _ _).upd _ _
      · exact h.upd _ _
    · exact h
theorem Am.tT {a : Nat} {A B : Nat → Nat} (h : Am a A B) (ho : ¬ A (8 * a + 2) = 1) : ∀ n, Am a (talkTo A n) (talkTo B n) ∧ ¬ talkTo A n (8 * a + 2) = 1
  | 0 => ⟨h, ho⟩
  | n + 1 => by
    have ih := h.tT ho n
    refine ⟨ih.1.talk ih.2 n, ?_⟩
    show ¬ talkF (talkTo A n) n (8 * a + 2) = 1
    rw [talkF_2]; exact ih.2
theorem Am.step {a : Nat} {A B : Nat → Nat} (h : Am a A B) (ho : ¬ A (8 * a + 2) = 1) : Am a (stepG A) (stepG B) ∧ ¬ stepG A (8 * a + 2) = 1 := by
  have h1 := (h.spin ho).grips
  have o1 : ¬ gripsG (spinG A) (8 * a + 2) = 1 := by
    unfold gripsG; rw [grips_keep _ _ (by omega), spin_keep A _ (by omega) (by omega)]; exact ho
  have h2 := h1.tT o1 (gripsG (spinG A) 40)
  have h3 : Am a (talkG (gripsG (spinG A))) (talkG (gripsG (spinG B))) := by
    unfold talkG; rw [← h1 40 (by omega) (by omega)]; exact h2.1
  refine ⟨?_, ?_⟩
  · unfold stepG tickG
    rw [h3 0 (by omega) (by omega)]
    exact h3.upd _ _
  · unfold stepG tickG
    rw [up_ne (by omega)]; exact h2.2
theorem Am.steps {a : Nat} {A B : Nat → Nat} (h : Am a A B) (ho : ¬ A (8 * a + 2) = 1) : ∀ n, Am a (stepN A n) (stepN B n) ∧ ¬ stepN A n (8 * a + 2) = 1
  | 0 => ⟨h, ho⟩
  | n + 1 => (h.steps ho n).1.step (h.steps ho n).2
def bkB (K : Nat → Nat) (C : Nat → Int64) (j : Nat) : Nat → Nat
  | 0 => 1
  | i + 1 => if bkB K C j i = 1 ∧ C (j * 40 + i) = (nI (stepN K i 24)).toInt64 then 1 else 0
theorem bkB_le (K : Nat → Nat) (C : Nat → Int64) (j : Nat) : ∀ i, bkB K C j i ≤ 1
  | 0 => Nat.le_refl _
  | i + 1 => by show (if _ then 1 else 0) ≤ 1; split <;> omega
theorem bkB_1 {K : Nat → Nat} {C : Nat → Int64} {j i : Nat} (h : bkB K C j i = 1) (q : C (j * 40 + i) = (nI (stepN K i 24)).toInt64) : bkB K C j (i + 1) = 1 := if_pos ⟨h, q⟩
theorem bkB_no {K : Nat → Nat} {C : Nat → Int64} {j i : Nat} (q : ¬ C (j * 40 + i) = (nI (stepN K i 24)).toInt64) : bkB K C j (i + 1) = 0 := if_neg (fun h => q h.2)
theorem bkB_0 {K : Nat → Nat} {C : Nat → Int64} {j i : Nat} (h : bkB K C j i = 0) : bkB K C j (i + 1) = 0 := if_neg (fun q => by omega)
theorem bkB_off {K : Nat → Nat} {C : Nat → Int64} {j i : Nat} (h : bkB K C j i = 0) : ∀ n, bkB K C j (i + n) = 0
  | 0 => h
  | n + 1 => bkB_0 (bkB_off h n)
theorem bkB_ne {K : Nat → Nat} {C : Nat → Int64} {j i z : Nat} (hz : i < z) (q : ¬ C (j * 40 + i) = (nI (stepN K i 24)).toInt64) : bkB K C j z = 0 := by
  have := bkB_off (bkB_no q) (z - (i + 1)); rw [show i + 1 + (z - (i + 1)) = z by omega] at this; exact this
theorem bkB_am {a : Nat} {A B : Nat → Nat} (h : Am a A B) (ho : ¬ A (8 * a + 2) = 1) (C : Nat → Int64) (j : Nat) : ∀ i, bkB A C j i = bkB B C j i
  | 0 => rfl
  | i + 1 => by
    show (if bkB A C j i = 1 ∧ C (j * 40 + i) = (nI (stepN A i 24)).toInt64 then 1 else 0) = (if bkB B C j i = 1 ∧ C (j * 40 + i) = (nI (stepN B i 24)).toInt64 then 1 else 0)
    rw [bkB_am h ho C j i, (h.steps ho i).1 24 (by omega) (by omega)]
theorem stepN_pred (K : Nat → Nat) {i : Nat} (h : ¬ i = 0) : stepG (stepN K (i - 1)) = stepN K i := by
  cases i with
  | zero => exact absurd rfl h
  | succ n => rfl
def tlG (G : Nat → Nat) (a k q : Nat) : Nat → Nat := up (up G (8 * a + 1) k) (8 * a + 3) q
def readN (G : Nat → Nat) (C : Nat → Int64) (a j z : Nat) : Nat → Nat
  | 0 => 0
  | i + 1 => readN G C a j z i + bkB (up (up G (8 * a + 1) (i / 100)) (8 * a + 3) (i % 100)) C j z
theorem readN_le (G : Nat → Nat) (C : Nat → Int64) (a j z : Nat) : ∀ i, readN G C a j z i ≤ i
  | 0 => Nat.le_refl _
  | i + 1 => by have := readN_le G C a j z i; have h2 := bkB_le (up (up G (8 * a + 1) (i / 100)) (8 * a + 3) (i % 100)) C j z; show readN G C a j z i + bkB _ C j z ≤ _; omega
theorem readN_off {G : Nat → Nat} {C : Nat → Int64} {a j z : Nat} (ho : ¬ G (8 * a + 2) = 1) : ∀ i, readN G C a j z i = i * bkB (up (up G (8 * a + 1) 0) (8 * a + 3) 0) C j z
  | 0 => (Nat.zero_mul _).symm
  | i + 1 => by
    show readN G C a j z i + bkB _ C j z = _
    rw [readN_off ho i, bkB_am (a := a) (A := up (up G (8 * a + 1) (i / 100)) (8 * a + 3) (i % 100)) (B := up (up G (8 * a + 1) 0) (8 * a + 3) 0) (fun k h1 h2 => by rw [up_ne h2, up_ne h1, up_ne h2, up_ne h1]) (by rw [up_ne (by omega), up_ne (by omega)]; exact ho)]
    exact (Nat.succ_mul _ _).symm
theorem readN_600 {G : Nat → Nat} {C : Nat → Int64} {a j z : Nat} (ho : ¬ G (8 * a + 2) = 1) (h : bkB (up (up G (8 * a + 1) 0) (8 * a + 3) 0) C j z = 1) : readN G C a j z 600 = 600 := by rw [readN_off ho, h]
theorem readN_000 {G : Nat → Nat} {C : Nat → Int64} {a j z : Nat} (ho : ¬ G (8 * a + 2) = 1) (h : bkB (up (up G (8 * a + 1) 0) (8 * a + 3) 0) C j z = 0) : readN G C a j z 600 = 0 := by rw [readN_off ho, h]
def readV (G B Z : Nat → Nat) (C : Nat → Int64) (a m : Int) : Int32 := if 0 ≤ a ∧ a ≤ 3 then (if B a.toNat = 0 then -1000000006 else if 0 ≤ m ∧ m < G 40 then nI (readN G C m.toNat a.toNat (Z a.toNat) 600) else -1000000001) else -1000000001
def readF (G B F : Nat → Nat) (a m : Int) : Nat → Nat := if 0 ≤ a ∧ a ≤ 3 then (if B a.toNat = 0 then fnd F 5 else if 0 ≤ m ∧ m < G 40 then F else fnd F 0) else fnd F 0
