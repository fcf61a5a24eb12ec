/-! ===== a firmer grip holds as well: the least grip may be halved towards ===== -/
def Ag (c : Nat) (A B : Nat → Nat) : Prop := ∀ k, ¬ k = 8 * c + 5 → A k = B k
theorem outC_cong {A B : Nat → Nat} (h : ∀ k, ¬ k % 8 = 5 → A k = B k) : outC A = outC B := by
  unfold outC
  rw [h 40 (by decide)]
  exact sumN_cong (fun i _ => h _ (by omega))
theorem nightN_cong {A B : Nat → Nat} (h : ∀ k, ¬ k % 8 = 5 → A k = B k) : nightN A = nightN B := by
  unfold nightN; rw [h 0 (by decide)]
theorem keepsN_cong {A B : Nat → Nat} (h : ∀ k, ¬ k % 8 = 5 → A k = B k) (a : Nat) : keepsN A a = keepsN B a := by
  unfold keepsN
  rw [h (8 * a + 1) (by omega), h (8 * a + 2) (by omega), h (8 * a + 3) (by omega), h (8 * a + 4) (by omega), outC_cong h, nightN_cong h]
theorem speaksN_cong {A B : Nat → Nat} (h : ∀ k, ¬ k % 8 = 5 → A k = B k) (a : Nat) : speaksN A a = speaksN B a := by
  unfold speaksN
  rw [h (8 * a + 1) (by omega), h (8 * a + 2) (by omega), h (8 * a + 4) (by omega), h 24 (by decide), outC_cong h, nightN_cong h]
theorem pushTo_cong {A B : Nat → Nat} (h : ∀ k, ¬ k % 8 = 5 → A k = B k) : ∀ n, pushTo A n = pushTo B n
  | 0 => rfl
  | n + 1 => by
    show pushTo A n + (if A (8 * n + 2) = 1 then keepsN A n else 0) = pushTo B n + (if B (8 * n + 2) = 1 then keepsN B n else 0)
    rw [pushTo_cong h n, h (8 * n + 2) (by omega), keepsN_cong h]
theorem pushN_cong {A B : Nat → Nat} (h : ∀ k, ¬ k % 8 = 5 → A k = B k) : pushN A = pushN B := by
  unfold pushN wetN
  rw [h 0 (by decide), h 8 (by decide), h 40 (by decide), pushTo_cong h]
theorem weightN_cong {A B : Nat → Nat} (h : ∀ k, ¬ k % 8 = 5 → A k = B k) : weightN A = weightN B := by
  unfold weightN onC
  rw [h 16 (by decide), h 48 (by decide), sumN_cong (f := fun i => A (8 * i + 6)) (g := fun i => B (8 * i + 6)) (fun i _ => h _ (by omega))]
theorem speedN_cong {A B : Nat → Nat} (h : ∀ k, ¬ k % 8 = 5 → A k = B k) : speedN A = speedN B := by
  unfold speedN
  rw [h 24 (by decide), pushN_cong h, weightN_cong h]
theorem Ag.five {c : Nat} {A B : Nat → Nat} (h : Ag c A B) : ∀ k, ¬ k % 8 = 5 → A k = B k := fun k hk => h k (by omega)
theorem talkF_ag {c a : Nat} {A B : Nat → Nat} (h : Ag c A B) : Ag c (talkF A a) (talkF B a) := by
  intro k hk
  unfold talkF
  rw [speaksN_cong h.five a, h (8 * a + 2) (by omega), h (8 * a + 3) (by omega), h (8 * a + 4) (by omega), h (8 * a + 1) (by omega)]
  split
  · split
    · unfold up; split
      · rfl
      · split
        · rfl
        · exact h k hk
    · unfold up; split
      · rfl
      · exact h k hk
  · exact h k hk
theorem talkTo_ag {c : Nat} {A B : Nat → Nat} (h : Ag c A B) : ∀ n, Ag c (talkTo A n) (talkTo B n)
  | 0 => h
  | n + 1 => talkF_ag (talkTo_ag h n)
theorem spin_ag {c : Nat} {A B : Nat → Nat} (h : Ag c A B) : Ag c (spinG A) (spinG B) := by
  intro k hk
  unfold spinG
  rw [speedN_cong h.five, h 32 (by omega)]
  unfold up
  split
  · rfl
  · split
    · rfl
    · exact h k hk
/-- a minute, of two greens that differ in one child's grip alone, if the one who holds less firmly holds -/
theorem step_ag {c : Nat} {A B : Nat → Nat} (h : Ag c A B) (hc : c < A 48) (hg : A (8 * c + 5) ≤ B (8 * c + 5)) (hh : ¬ A (8 * c + 6) = 1 ∨ speedN A ≤ A (8 * c + 5)) : Ag c (stepG A) (stepG B) ∧ stepG A (8 * c + 5) ≤ stepG B (8 * c + 5) := by
  have hS := spin_ag h
  have h48 : A 48 = B 48 := h 48 (by omega)
  have hcB : c < B 48 := by omega
  have sA5 := spin_keep A (8 * c + 5) (by omega) (by omega)
  have sB5 := spin_keep B (8 * c + 5) (by omega) (by omega)
  have sA6 := spin_keep A (8 * c + 6) (by omega) (by omega)
  have sB6 := spin_keep B (8 * c + 6) (by omega) (by omega)
  have e6 : A (8 * c + 6) = B (8 * c + 6) := h _ (by omega)
  have e24 : spinG A 24 = spinG B 24 := hS 24 (by omega)
  have s24 := spin_24 A
  -- the child itself
  have own : holdF (spinG A) c (8 * c + 6) = holdF (spinG B) c (8 * c + 6) ∧ holdF (spinG A) c (8 * c + 7) = holdF (spinG B) c (8 * c + 7) ∧ holdF (spinG A) c (8 * c + 5) ≤ holdF (spinG B) c (8 * c + 5) := by
    have e7 := hS (8 * c + 7) (by omega)
    have e6' := hS (8 * c + 6) (by omega)
    unfold holdF
    by_cases q : A (8 * c + 6) = 1
    · have q2 : speedN A ≤ A (8 * c + 5) := by rcases hh with w | w; exact absurd q w; exact w
      rw [if_pos (by omega : spinG A (8 * c + 6) = 1), if_pos (by omega : spinG B (8 * c + 6) = 1), if_neg (by omega : ¬ spinG A (8 * c + 5) < spinG A 24), if_neg (by omega : ¬ spinG B (8 * c + 5) < spinG B 24), e24]
      by_cases q3 : 30 < spinG B 24
      · rw [if_pos q3, if_pos q3, up_ne (by omega), up_ne (by omega), up_ne (by omega), up_ne (by omega), up_eq, up_eq]
        exact ⟨e6', e7, by omega⟩
      · rw [if_neg q3, if_neg q3]; exact ⟨e6', e7, by omega⟩
    · rw [if_neg (by omega : ¬ spinG A (8 * c + 6) = 1), if_neg (by omega : ¬ spinG B (8 * c + 6) = 1)]
      exact ⟨e6', e7, by omega⟩
  -- the children
  have hT : Ag c (gripsG (spinG A)) (gripsG (spinG B)) := by
    intro k hk
    unfold gripsG
    rw [hS 48 (by omega)]
    by_cases q : k % 8 < 5
    · rw [grips_keep _ _ q, grips_keep _ _ q]; exact hS k hk
    · have ek : k = 8 * (k / 8) + k % 8 := by omega
      rw [ek, gripsTo_at _ _ (by omega), gripsTo_at _ _ (by omega)]
      by_cases q2 : k / 8 < spinG B 48
      · rw [if_pos q2, if_pos q2]
        by_cases q3 : k / 8 = c
        · rw [q3]
          rcases (show k % 8 = 6 ∨ k % 8 = 7 by omega) with r | r <;> rw [r]
          · exact own.1
          · exact own.2.1
        · exact hold_cong e24 (hS _ (by omega)) (hS _ (by omega)) (hS _ (by omega)) (by omega)
      · rw [if_neg q2, if_neg q2]; exact hS _ (by omega)
  have hU : Ag c (talkG (gripsG (spinG A))) (talkG (gripsG (spinG B))) := by
    unfold talkG
    rw [hT 40 (by omega)]
    exact talkTo_ag hT _
  refine ⟨?_, ?_⟩
  · intro k hk
    unfold stepG tickG
    rw [hU 0 (by omega)]
    unfold up
    split
    · rfl
    · exact hU k hk
  · rw [step_child A c hc (r := 5) (by omega), step_child B c hcB (r := 5) (by omega)]
    exact own.2.2
theorem stepN_ag {b : Nat} {c : Nat} {A B : Nat → Nat} (h : Ag c A B) (hA : OkG b A) (hc : c < A 48) (hg : A (8 * c + 5) ≤ B (8 * c + 5)) (h9 : A (8 * c + 7) < 9999) : ∀ n, stepN A n (8 * c + 7) = A (8 * c + 7) → Ag c (stepN A n) (stepN B n) ∧ stepN A n (8 * c + 5) ≤ stepN B n (8 * c + 5)
  | 0, _ => ⟨h, hg⟩
  | n + 1, e => by
    have hc' : c < stepN A n 48 := by rw [stepN_48]; exact hc
    have m1 := stepN_fl hA hc n
    have m2 := step_fl (stepN_ok hA n) hc'
    have e' : stepG (stepN A n) (8 * c + 7) = A (8 * c + 7) := e
    have ih := stepN_ag h hA hc hg h9 n (by omega)
    refine step_ag ih.1 hc' ih.2 ?_
    by_cases q : stepN A n (8 * c + 6) = 1
    · rcases step_on hc' q with w | w
      · rw [w.2.2] at e'; omega
      · exact Or.inr w.1
    · exact Or.inl q
/-- who holds with one grip holds with every greater one -/
theorem firm_mono {b : Nat} {G : Nat → Nat} (h : OkG b G) {c : Nat} (hc : c < G 48) (h9 : G (8 * c + 7) < 9999) {g g' n : Nat} (hg : g ≤ g') (hg' : g' ≤ 200) (e : stepN (up G (8 * c + 5) g) n (8 * c + 7) = G (8 * c + 7)) : stepN (up G (8 * c + 5) g') n (8 * c + 7) = G (8 * c + 7) := by
  have e7 : up G (8 * c + 5) g (8 * c + 7) = G (8 * c + 7) := up_ne (by omega)
  have ha : Ag c (up G (8 * c + 5) g) (up G (8 * c + 5) g') := fun k hk => by rw [up_ne hk, up_ne hk]
  have r := stepN_ag (c := c) ha (h.r5 (a := c) (v := g) (by omega)) (by rw [up_ne (by omega)]; exact hc) (by rw [up_eq, up_eq]; exact hg) (by rw [e7]; exact h9) n (by rw [e7]; exact e)
  rw [← r.1 (8 * c + 7) (by omega)]; exact e
theorem seek_first {p : Nat → Bool} {e h : Nat} (hh : h < e) (hp : p h = true) : ∀ (k i : Nat), h - i = k → i ≤ h → (∀ g, i ≤ g → g < h → p g = false) → seek p (e - i) i = h
  | 0, i, hk, hi, _ => by rw [show i = h by omega]; exact seek_t hh hp
  | k + 1, i, hk, hi, hf => by
    rw [seek_f (by omega) (hf i (Nat.le_refl i) (by omega))]
    exact seek_first hh hp k (i + 1) (by omega) (by omega) (fun g g1 g2 => hf g (by omega) g2)
def holdN (G : Nat → Nat) (c g n : Nat) : Nat := if stepN (up G (8 * c + 5) g) n (8 * c + 7) = G (8 * c + 7) then 1 else 0
theorem holdN_le (G : Nat → Nat) (c g n : Nat) : holdN G c g n ≤ 1 := by unfold holdN; split <;> omega
theorem holdN_mono {b : Nat} {G : Nat → Nat} (h : OkG b G) {c : Nat} (hc : c < G 48) (h9 : G (8 * c + 7) < 9999) {g g' n : Nat} (hg : g ≤ g') (hg' : g' ≤ 200) (e : ¬ holdN G c g n = 0) : holdN G c g' n = 1 := by
  unfold holdN at e ⊢
  by_cases q : stepN (up G (8 * c + 5) g) n (8 * c + 7) = G (8 * c + 7)
  · rw [if_pos (firm_mono h hc h9 hg hg' q)]
  · rw [if_neg q] at e; exact absurd rfl e
theorem holdN_dec (G : Nat → Nat) (c g n : Nat) : decide (stepN (up G (8 * c + 5) g) n (8 * c + 7) = G (8 * c + 7)) = decide (holdN G c g n = 1) := by
  unfold holdN
  by_cases q : stepN (up G (8 * c + 5) g) n (8 * c + 7) = G (8 * c + 7)
  · rw [if_pos q]; simp [q]
  · rw [if_neg q]; simp [q]
theorem firmR_is {G : Nat → Nat} {c n h : Nat} (hh : h ≤ 200) (h1 : holdN G c h n = 1) (h0 : ∀ g, g < h → holdN G c g n = 0) : firmR G c n = h := by
  unfold firmR
  exact seek_first (e := 201) (by omega) (by show decide _ = true; rw [holdN_dec, h1]; rfl) (h - 0) 0 rfl (Nat.zero_le _) (fun g _ g2 => by show decide _ = false; rw [holdN_dec, h0 g g2]; rfl)
theorem firmR_none {b : Nat} {G : Nat → Nat} (h : OkG b G) {c : Nat} (hc : c < G 48) (h9 : G (8 * c + 7) < 9999) {n : Nat} (h0 : holdN G c 200 n = 0) : firmR G c n = 201 := by
  unfold firmR
  refine seek_none (e := 201) 201 0 rfl (Nat.zero_le _) (fun g _ g2 => ?_)
  show decide _ = false
  rw [holdN_dec]
  have hle := holdN_le G c g n
  by_cases q : holdN G c g n = 0
  · rw [q]; rfl
  · have := holdN_mono h hc h9 (g := g) (g' := 200) (n := n) (by omega) (Nat.le_refl _) q
    omega
theorem ab_abs {a b : Nat} (ha : a < 2 ^ 30) (hB : b < 2 ^ 30) : (if (0 : Int32) ≤ nI a - nI b then nI a - nI b else 0 - (nI a - nI b)) = nI (absD a b) := by
  have e := pk_sub_toInt ha hB
  by_cases q : b ≤ a
  · rw [if_pos (zz_le.mpr (by rw [e, zz_0]; omega)), ab_pos q]
  · rw [if_neg (fun z => by have := zz_le.mp z; rw [e, zz_0] at this; omega), ← ab_neg (by omega), Int32.zero_sub]
def lstN (o : Nat) : Nat := if o = 0 then 9 else bitsN (o - 1)
