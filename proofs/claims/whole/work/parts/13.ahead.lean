/-! ===== looking ahead: searches, and what a minute does to a child ===== -/
def seek (p : Nat → Bool) : Nat → Nat → Nat
  | 0, i => i
  | f + 1, i => if p i then i else seek p f (i + 1)
theorem seek_t {p : Nat → Bool} {e i : Nat} (h : i < e) (hp : p i = true) : seek p (e - i) i = i := by
  rw [show e - i = (e - i - 1) + 1 by omega]
  show (if p i then i else seek p (e - i - 1) (i + 1)) = i
  rw [if_pos hp]
theorem seek_f {p : Nat → Bool} {e i : Nat} (h : i < e) (hp : p i = false) : seek p (e - i) i = seek p (e - (i + 1)) (i + 1) := by
  rw [show e - i = (e - (i + 1)) + 1 by omega]
  show (if p i then i else seek p (e - (i + 1)) (i + 1)) = _
  rw [if_neg (by rw [hp]; decide)]
theorem seek_e (p : Nat → Bool) {e i : Nat} (h : i = e) : seek p (e - i) i = e := by
  subst h; rw [Nat.sub_self]; rfl
theorem seek_none {p : Nat → Bool} {e : Nat} : ∀ (k i : Nat), e - i = k → i ≤ e → (∀ j, i ≤ j → j < e → p j = false) → seek p (e - i) i = e
  | 0, i, hk, hi, _ => seek_e p (by omega)
  | k + 1, i, hk, hi, h => by
    rw [seek_f (by omega) (h i (Nat.le_refl i) (by omega))]
    exact seek_none k (i + 1) (by omega) (by omega) (fun j h1 h2 => h j (by omega) h2)
def skV (r lim : Nat) : Int32 := if r ≤ lim then nI r else -1000000004
def skF (F : Nat → Nat) (r lim : Nat) : Nat → Nat := if r ≤ lim then F else fnd F 3
theorem hold_own {G : Nat → Nat} {c k : Nat} {r : Nat} (hr : 5 ≤ r ∧ r ≤ 7) (h : ¬ k = c) : holdF G k (8 * c + r) = G (8 * c + r) := hold_keep _ _ _ (by omega) (by omega) (by omega)
/-- holding is each child's own: it looks at the speed and at its own numbers -/
theorem hold_cong {G K : Nat → Nat} {c : Nat} (h24 : G 24 = K 24) (h5 : G (8 * c + 5) = K (8 * c + 5)) (h6 : G (8 * c + 6) = K (8 * c + 6)) (h7 : G (8 * c + 7) = K (8 * c + 7)) {r : Nat} (hr : 5 ≤ r ∧ r ≤ 7) : holdF G c (8 * c + r) = holdF K c (8 * c + r) := by
  have e : G (8 * c + r) = K (8 * c + r) := by
    rcases (show r = 5 ∨ r = 6 ∨ r = 7 by omega) with q | q | q <;> subst q <;> assumption
  unfold holdF
  rw [h24, h5, h6, h7]
  repeat' split
  all_goals first | exact e | skip
  all_goals (unfold up; repeat' split)
  all_goals first | rfl | exact e
theorem gripsTo_at (G : Nat → Nat) (c : Nat) {r : Nat} (hr : 5 ≤ r ∧ r ≤ 7) : ∀ n, gripsTo G n (8 * c + r) = if c < n then holdF G c (8 * c + r) else G (8 * c + r)
  | 0 => by rw [if_neg (by omega)]; rfl
  | n + 1 => by
    show holdF (gripsTo G n) n (8 * c + r) = _
    by_cases h : n = c
    · subst h
      rw [if_pos (by omega)]
      refine hold_cong (grips_keep G 24 (by decide) n) ?_ ?_ ?_ hr
      · rw [gripsTo_at G n (by omega) n, if_neg (by omega)]
      · rw [gripsTo_at G n (by omega) n, if_neg (by omega)]
      · rw [gripsTo_at G n (by omega) n, if_neg (by omega)]
    · rw [hold_own hr h, gripsTo_at G c hr n]
      by_cases h2 : c < n
      · rw [if_pos h2, if_pos (by omega)]
      · rw [if_neg h2, if_neg (by omega)]
theorem spin_keep (G : Nat → Nat) (k : Nat) (h1 : ¬ k = 24) (h2 : ¬ k = 32) : spinG G k = G k := by
  unfold spinG; rw [up_ne h2, up_ne h1]
theorem spin_24 (G : Nat → Nat) : spinG G 24 = speedN G := by
  unfold spinG; rw [up_ne (by decide), up_eq]
/-- what a minute does to child c -/
theorem step_child (G : Nat → Nat) (c : Nat) (hc : c < G 48) {r : Nat} (hr : 5 ≤ r ∧ r ≤ 7) : stepG G (8 * c + r) = holdF (spinG G) c (8 * c + r) := by
  unfold stepG tickG talkG gripsG
  rw [up_ne (by omega), talk_keep _ _ (by omega) (by omega), gripsTo_at _ _ hr, if_pos (by rw [spin_keep G 48 (by decide) (by decide)]; exact hc)]
theorem step_48 (G : Nat → Nat) : stepG G 48 = G 48 := by
  unfold stepG tickG talkG gripsG
  rw [up_ne (by decide), talk_keep _ _ (by decide) (by decide), grips_keep _ _ (by decide), spin_keep G 48 (by decide) (by decide)]
theorem step_40 (G : Nat → Nat) : stepG G 40 = G 40 := by
  unfold stepG tickG talkG gripsG
  rw [up_ne (by decide), talk_keep _ _ (by decide) (by decide), grips_keep _ _ (by decide), spin_keep G 40 (by decide) (by decide)]
theorem stepN_48 (G : Nat → Nat) : ∀ n, stepN G n 48 = G 48
  | 0 => rfl
  | n + 1 => (step_48 _).trans (stepN_48 G n)
theorem stepN_40 (G : Nat → Nat) : ∀ n, stepN G n 40 = G 40
  | 0 => rfl
  | n + 1 => (step_40 _).trans (stepN_40 G n)
/-- one that isn't on it stays as it is -/
theorem step_off {G : Nat → Nat} {c : Nat} (hc : c < G 48) (h : ¬ G (8 * c + 6) = 1) {r : Nat} (hr : 5 ≤ r ∧ r ≤ 7) : stepG G (8 * c + r) = G (8 * c + r) := by
  rw [step_child G c hc hr]
  unfold holdF
  rw [if_neg (by rw [spin_keep G _ (by omega) (by omega)]; exact h), spin_keep G _ (by omega) (by omega)]
/-- one that is on it is flung, or holds -/
theorem step_on {G : Nat → Nat} {c : Nat} (hc : c < G 48) (h : G (8 * c + 6) = 1) :
    (G (8 * c + 5) < speedN G ∧ stepG G (8 * c + 6) = 0 ∧ stepG G (8 * c + 7) = min 9999 (G (8 * c + 7) + 1)) ∨ (speedN G ≤ G (8 * c + 5) ∧ stepG G (8 * c + 6) = 1 ∧ stepG G (8 * c + 7) = G (8 * c + 7)) := by
  have e5 := spin_keep G (8 * c + 5) (by omega) (by omega)
  have e6 := spin_keep G (8 * c + 6) (by omega) (by omega)
  have e7 := spin_keep G (8 * c + 7) (by omega) (by omega)
  have e24 := spin_24 G
  rw [step_child G c hc (r := 6) (by omega), step_child G c hc (r := 7) (by omega)]
  unfold holdF
  rw [if_pos (by rw [e6]; exact h), e24, e5]
  by_cases q : G (8 * c + 5) < speedN G
  · rw [if_pos q, up_ne (by omega), up_eq, up_eq, e7]
    exact Or.inl ⟨q, rfl, rfl⟩
  · rw [if_neg q]
    refine Or.inr ⟨by omega, ?_, ?_⟩
    · split
      · rw [up_ne (by omega), e6, h]
      · rw [e6, h]
    · split
      · rw [up_ne (by omega), e7]
      · rw [e7]
theorem stepN_off {G : Nat → Nat} {c : Nat} (hc : c < G 48) {i : Nat} (h : ¬ stepN G i (8 * c + 6) = 1) {r : Nat} (hr : 5 ≤ r ∧ r ≤ 7) : ∀ k, stepN G (i + k) (8 * c + r) = stepN G i (8 * c + r)
  | 0 => rfl
  | k + 1 => by
    have h6 := stepN_off hc h (r := 6) (by omega) k
    show stepG (stepN G (i + k)) (8 * c + r) = _
    rw [step_off (by rw [stepN_48]; exact hc) (by rw [h6]; exact h) hr, stepN_off hc h hr k]
theorem step_fl {b : Nat} {G : Nat → Nat} (h : OkG b G) {c : Nat} (hc : c < G 48) : G (8 * c + 7) ≤ stepG G (8 * c + 7) := by
  by_cases q : G (8 * c + 6) = 1
  · have := h.c c (by have := h.s; omega)
    rcases step_on hc q with w | w
    · rw [w.2.2]; omega
    · rw [w.2.2]; exact Nat.le_refl _
  · rw [step_off hc q (by omega)]; exact Nat.le_refl _
theorem stepN_fl {b : Nat} {G : Nat → Nat} (h : OkG b G) {c : Nat} (hc : c < G 48) : ∀ n, G (8 * c + 7) ≤ stepN G n (8 * c + 7)
  | 0 => Nat.le_refl _
  | n + 1 => Nat.le_trans (stepN_fl h hc n) (step_fl (stepN_ok h n) (by rw [stepN_48]; exact hc))
theorem sumN_le_of {f g : Nat → Nat} : ∀ {n : Nat}, (∀ i, i < n → f i ≤ g i) → sumN f n ≤ sumN g n
  | 0, _ => Nat.le_refl _
  | n + 1, h => Nat.add_le_add (sumN_le_of (n := n) (fun i hi => h i (by omega))) (h n (by omega))
theorem stepN_flC {b : Nat} {G : Nat → Nat} (h : OkG b G) (n : Nat) : flC G ≤ flC (stepN G n) := by
  unfold flC
  rw [stepN_48]
  exact sumN_le_of (fun i hi => stepN_fl h hi n)
/-- descriptions -/
def onV (G : Nat → Nat) (n w : Int) : Int32 := if 0 ≤ n ∧ n ≤ 200 ∧ 0 ≤ w ∧ w ≤ 2 then (if w = 0 then nI (stepN G n.toNat 24) else if w = 1 then nI (stepN G n.toNat 32) else nI (onS (stepN G n.toNat))) else -1000000001
def onF (F : Nat → Nat) (n w : Int) : Nat → Nat := if 0 ≤ n ∧ n ≤ 200 ∧ 0 ≤ w ∧ w ≤ 2 then F else fnd F 0
def thenV (G : Nat → Nat) (a n w : Int) : Int32 := if 0 ≤ a ∧ a < G 40 ∧ 0 ≤ n ∧ n ≤ 200 ∧ 0 ≤ w ∧ w ≤ 1 then (if w = 0 then nI (stepN G n.toNat (8 * a.toNat + 3)) else nI (stepN G n.toNat (8 * a.toNat + 4))) else -1000000001
def thenF (G F : Nat → Nat) (a n w : Int) : Nat → Nat := if 0 ≤ a ∧ a < G 40 ∧ 0 ≤ n ∧ n ≤ 200 ∧ 0 ≤ w ∧ w ≤ 1 then F else fnd F 0
def quickV (G : Nat → Nat) (z : Int) : Int32 := if 0 ≤ z ∧ z ≤ 200 then skV (seek (fun i => decide (z.toNat ≤ stepN G i 24)) 201 0) 200 else -1000000001
def quickF (G F : Nat → Nat) (z : Int) : Nat → Nat := if 0 ≤ z ∧ z ≤ 200 then skF F (seek (fun i => decide (z.toNat ≤ stepN G i 24)) 201 0) 200 else fnd F 0
def standsV (G : Nat → Nat) : Int32 := skV (seek (fun i => decide (stepN G i 24 = 0)) 201 0) 200
def standsF (G F : Nat → Nat) : Nat → Nat := skF F (seek (fun i => decide (stepN G i 24 = 0)) 201 0) 200
def flungV (G : Nat → Nat) (a : Int) : Int32 := if 0 ≤ a ∧ a < G 48 then skV (seek (fun i => decide (¬ stepN G i (8 * a.toNat + 7) = G (8 * a.toNat + 7))) 200 1) 200 else -1000000001
def flungF (G F : Nat → Nat) (a : Int) : Nat → Nat := if 0 ≤ a ∧ a < G 48 then skF F (seek (fun i => decide (¬ stepN G i (8 * a.toNat + 7) = G (8 * a.toNat + 7))) 200 1) 200 else fnd F 0
def sendSt (G : Nat → Nat) (n : Nat) : Nat → Nat × Nat
  | 0 => (0, 0)
  | k + 1 => if G (8 * k + 2) = 1 then (if (sendSt G n k).1 = 0 ∨ stepN (moveM G k 0) n 32 < (sendSt G n k).2 then (k + 1, stepN (moveM G k 0) n 32) else sendSt G n k) else sendSt G n k
def sendV (G : Nat → Nat) (z : Int) : Int32 := if 1 ≤ z ∧ z ≤ 60 then orV (sendSt G z.toNat (G 40)).1 else -1000000001
def sendF (G F : Nat → Nat) (z : Int) : Nat → Nat := if 1 ≤ z ∧ z ≤ 60 then orF F (sendSt G z.toNat (G 40)).1 else fnd F 0
/-- the best so far, and one more than its worth -/
def kindSt (G : Nat → Nat) (a n : Nat) : Nat → Nat × Nat
  | 0 => (0, 0)
  | k + 1 => if (kindSt G a n k).2 < stepN (up G (8 * a + 1) k) n 32 + 1 then (k, stepN (up G (8 * a + 1) k) n 32 + 1) else kindSt G a n k
def kindV (G : Nat → Nat) (a z : Int) : Int32 := if 0 ≤ a ∧ a < G 40 ∧ 1 ≤ z ∧ z ≤ 60 then nI (kindSt G a.toNat z.toNat 6).1 else -1000000001
def kindF (G F : Nat → Nat) (a z : Int) : Nat → Nat := if 0 ≤ a ∧ a < G 40 ∧ 1 ≤ z ∧ z ≤ 60 then F else fnd F 0
def firmR (G : Nat → Nat) (c n : Nat) : Nat := seek (fun g => decide (stepN (up G (8 * c + 5) g) n (8 * c + 7) = G (8 * c + 7))) 201 0
def firmV (G : Nat → Nat) (a z : Int) : Int32 := if 0 ≤ a ∧ a < G 48 ∧ 1 ≤ z ∧ z ≤ 60 then skV (firmR G a.toNat z.toNat) 200 else -1000000001
def firmF (G F : Nat → Nat) (a z : Int) : Nat → Nat := if 0 ≤ a ∧ a < G 48 ∧ 1 ≤ z ∧ z ≤ 60 then skF F (firmR G a.toNat z.toNat) 200 else fnd F 0
def heavyR (G : Nat → Nat) (n : Nat) : Nat := seek (fun h => decide (flC (stepN (up G 16 h) n) = flC G)) 50 1
def heavyV (G : Nat → Nat) (z : Int) : Int32 := if 1 ≤ z ∧ z ≤ 60 then skV (heavyR G z.toNat) 50 else -1000000001
def heavyF (G F : Nat → Nat) (z : Int) : Nat → Nat := if 1 ≤ z ∧ z ≤ 60 then skF F (heavyR G z.toNat) 50 else fnd F 0
def fewSt (G : Nat → Nat) (v : Nat) : Nat → Nat
  | 0 => 0
  | t + 1 => if t &&& outS G = 0 ∧ (fewSt G v t = 0 ∨ bitsN t < bitsN (fewSt G v t - 1)) ∧ v ≤ pushN (comeG G t) then t + 1 else fewSt G v t
def fewestV (G : Nat → Nat) (z : Int) : Int32 := if 0 ≤ z ∧ z ≤ 9999 then orV (fewSt G z.toNat (2 ^ G 40)) else -1000000001
def fewestF (G F : Nat → Nat) (z : Int) : Nat → Nat := if 0 ≤ z ∧ z ≤ 9999 then orF F (fewSt G z.toNat (2 ^ G 40)) else fnd F 0
def absD (a b : Nat) : Nat := if a ≤ b then b - a else a - b
def weathD (G : Nat → Nat) (n k : Nat) : Nat := absD (stepN (up G 8 (G 8 ^^^ 1 * 2 ^ k)) n 32) (stepN G n 32)
def weathSt (G : Nat → Nat) (n : Nat) : Nat → Nat × Nat
  | 0 => (0, 0)
  | k + 1 => if (weathSt G n k).2 < weathD G n k + 1 then (k, weathD G n k + 1) else weathSt G n k
def weatherV (G : Nat → Nat) (z : Int) : Int32 := if 1 ≤ z ∧ z ≤ 60 then nI (weathSt G z.toNat 5).1 else -1000000001
def weatherF (F : Nat → Nat) (z : Int) : Nat → Nat := if 1 ≤ z ∧ z ≤ 60 then F else fnd F 0
/-- which, and one more than how much -/
def deepSt (G : Nat → Nat) : Nat → Nat × Nat
  | 0 => (0, 0)
  | a + 1 => if G (8 * a + 2) = 1 ∧ (deepSt G a).2 < keepsN G a + 1 then (a + 1, keepsN G a + 1) else deepSt G a
def deepestV (G : Nat → Nat) (z : Int) : Int32 := if 0 ≤ z ∧ z ≤ 200 then orV (deepSt (stepN G z.toNat) (G 40)).1 else -1000000001
def deepestF (G F : Nat → Nat) (z : Int) : Nat → Nat := if 0 ≤ z ∧ z ≤ 200 then orF F (deepSt (stepN G z.toNat) (G 40)).1 else fnd F 0
