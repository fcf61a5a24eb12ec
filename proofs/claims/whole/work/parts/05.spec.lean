/-! ===== what it is: the document's section 1 over rows of natural numbers ===== -/
def sumN (f : Nat → Nat) : Nat → Nat
  | 0 => 0
  | n + 1 => sumN f n + f n
def setN (f : Nat → Nat) : Nat → Nat
  | 0 => 0
  | n + 1 => setN f n + f n * 2 ^ n
def inN (x : Int32) (n : Nat) : Nat := if 0 ≤ x.toInt ∧ x.toInt < n then 1 else 0
def outC (G : Nat → Nat) : Nat := sumN (fun i => G (8 * i + 2)) (G 40)
def outS (G : Nat → Nat) : Nat := setN (fun i => G (8 * i + 2)) (G 40)
def onC (G : Nat → Nat) : Nat := sumN (fun i => G (8 * i + 6)) (G 48)
def onS (G : Nat → Nat) : Nat := setN (fun i => G (8 * i + 6)) (G 48)
def flC (G : Nat → Nat) : Nat := sumN (fun i => G (8 * i + 7)) (G 48)
def nightN (G : Nat → Nat) : Nat := if 40 ≤ G 0 % 50 then 1 else 0
def wetN (G : Nat → Nat) : Nat := G 8 / 2 ^ (G 0 % 50 / 10) % 2
def weightN (G : Nat → Nat) : Nat := G 16 + 2 * onC G
def keepK (k s t o n : Nat) : Nat :=
  if k = 1 then s / 2 + t else if k = 2 then (if o = 0 then 0 else s / 5 + t) else if k = 3 then 2 * s else if k = 4 then (if n = 0 then s / 2 + t else s / 2 + t + 10) else if k = 5 then (if o = 0 then 0 else s / 5 + t) + 3 * o else s / 5 + t
def speakK (k t o n sp : Nat) : Nat :=
  if k = 1 then (if 15 ≤ t then 1 else 0) else if k = 2 then (if 3 ≤ t ∧ 0 < o then 1 else 0) else if k = 3 then 0 else if k = 4 then (if 15 ≤ t ∧ n = 0 then 1 else 0) else if k = 5 then (if (3 ≤ t ∧ 0 < o) ∨ 100 < sp then 1 else 0) else (if 9 ≤ t then 1 else 0)
def tellK (k : Nat) : Nat := if k = 1 then 2 else if k = 2 then 6 else if k = 3 then 0 else if k = 4 then 2 else if k = 5 then 7 else 3
def keepsN (G : Nat → Nat) (a : Nat) : Nat := keepK (G (8 * a + 1)) (G (8 * a + 3)) (G (8 * a + 4)) (outC G - G (8 * a + 2)) (nightN G)
def speaksN (G : Nat → Nat) (a : Nat) : Nat := speakK (G (8 * a + 1)) (G (8 * a + 4)) (outC G - G (8 * a + 2)) (nightN G) (G 24)
def pushTo (G : Nat → Nat) : Nat → Nat
  | 0 => 0
  | n + 1 => pushTo G n + if G (8 * n + 2) = 1 then keepsN G n else 0
def pushN (G : Nat → Nat) : Nat := if wetN G = 1 then 0 else pushTo G (G 40)
def speedN (G : Nat → Nat) : Nat := min 200 (G 24 + pushN G / weightN G - max 1 (G 24 / 10))
def spinG (G : Nat → Nat) : Nat → Nat := up (up G 24 (speedN G)) 32 (min 999999 (G 32 + speedN G))
def holdF (G : Nat → Nat) (c : Nat) : Nat → Nat :=
  if G (8 * c + 6) = 1 then (if G (8 * c + 5) < G 24 then up (up G (8 * c + 6) 0) (8 * c + 7) (min 9999 (G (8 * c + 7) + 1)) else if 30 < G 24 then up G (8 * c + 5) (G (8 * c + 5) - 1) else G) else G
def gripsTo (G : Nat → Nat) : Nat → Nat → Nat
  | 0 => G
  | n + 1 => holdF (gripsTo G n) n
def talkF (G : Nat → Nat) (a : Nat) : Nat → Nat :=
  if G (8 * a + 2) = 1 then (if speaksN G a = 1 then up (up G (8 * a + 3) (G (8 * a + 3) - tellK (G (8 * a + 1)))) (8 * a + 4) 0 else up G (8 * a + 4) (min 999 (G (8 * a + 4) + 1))) else G
def talkTo (G : Nat → Nat) : Nat → Nat → Nat
  | 0 => G
  | n + 1 => talkF (talkTo G n) n
def gripsG (G : Nat → Nat) : Nat → Nat := gripsTo G (G 48)
def talkG (G : Nat → Nat) : Nat → Nat := talkTo G (G 40)
def tickG (G : Nat → Nat) : Nat → Nat := up G 0 (G 0 + 1)
def stepG (G : Nat → Nat) : Nat → Nat := tickG (talkG (gripsG (spinG G)))
def stepN (G : Nat → Nat) : Nat → Nat → Nat
  | 0 => G
  | n + 1 => stepG (stepN G n)
/-- what always holds of a row, the minute up to b -/
def OkG (b : Nat) (G : Nat → Nat) : Prop :=
  (G 0 ≤ b ∧ G 8 ≤ 31 ∧ 1 ≤ G 16 ∧ G 16 ≤ 50 ∧ G 24 ≤ 200 ∧ G 32 ≤ 999999 ∧ G 40 ≤ 8 ∧ G 48 ≤ 6) ∧ (∀ i, i < 8 → G (8 * i + 1) ≤ 5 ∧ G (8 * i + 2) ≤ 1 ∧ G (8 * i + 3) ≤ 99 ∧ G (8 * i + 4) ≤ 999) ∧ ∀ i, i < 6 → G (8 * i + 5) ≤ 200 ∧ G (8 * i + 6) ≤ 1 ∧ G (8 * i + 7) ≤ 9999
theorem OkG.s {b : Nat} {G : Nat → Nat} (h : OkG b G) : G 0 ≤ b ∧ G 8 ≤ 31 ∧ 1 ≤ G 16 ∧ G 16 ≤ 50 ∧ G 24 ≤ 200 ∧ G 32 ≤ 999999 ∧ G 40 ≤ 8 ∧ G 48 ≤ 6 := h.1
theorem OkG.m {b : Nat} {G : Nat → Nat} (h : OkG b G) (i : Nat) (hi : i < 8) : G (8 * i + 1) ≤ 5 ∧ G (8 * i + 2) ≤ 1 ∧ G (8 * i + 3) ≤ 99 ∧ G (8 * i + 4) ≤ 999 := h.2.1 i hi
theorem OkG.c {b : Nat} {G : Nat → Nat} (h : OkG b G) (i : Nat) (hi : i < 6) : G (8 * i + 5) ≤ 200 ∧ G (8 * i + 6) ≤ 1 ∧ G (8 * i + 7) ≤ 9999 := h.2.2 i hi
theorem sumN_le {f : Nat → Nat} {b : Nat} : ∀ {n : Nat}, (∀ i, i < n → f i ≤ b) → sumN f n ≤ n * b
  | 0, _ => Nat.zero_le _
  | n + 1, h => by
    have h1 := sumN_le (n := n) (fun i hi => h i (by omega))
    have h2 := h n (by omega)
    show sumN f n + f n ≤ (n + 1) * b
    rw [Nat.succ_mul]; omega
theorem sumN_ge {f : Nat → Nat} : ∀ {n : Nat} (i : Nat), i < n → f i ≤ sumN f n
  | 0, i, h => absurd h (Nat.not_lt_zero i)
  | n + 1, i, h => by
    show f i ≤ sumN f n + f n
    rcases Nat.lt_succ_iff_lt_or_eq.mp h with q | q
    · have := sumN_ge (f := f) i q; omega
    · subst q; omega
theorem sumN_cong {f g : Nat → Nat} : ∀ {n : Nat}, (∀ i, i < n → f i = g i) → sumN f n = sumN g n
  | 0, _ => rfl
  | n + 1, h => by
    show sumN f n + f n = sumN g n + g n
    rw [sumN_cong (n := n) (fun i hi => h i (by omega)), h n (by omega)]
theorem setN_lt {f : Nat → Nat} : ∀ {n : Nat}, (∀ i, i < n → f i ≤ 1) → setN f n < 2 ^ n
  | 0, _ => by show 0 < 1; decide
  | n + 1, h => by
    have h1 := setN_lt (n := n) (fun i hi => h i (by omega))
    have h2 := h n (by omega)
    show setN f n + f n * 2 ^ n < 2 ^ (n + 1)
    rw [Nat.pow_succ]
    have : f n * 2 ^ n ≤ 1 * 2 ^ n := Nat.mul_le_mul_right _ h2
    omega
theorem setN_cong {f g : Nat → Nat} : ∀ {n : Nat}, (∀ i, i < n → f i = g i) → setN f n = setN g n
  | 0, _ => rfl
  | n + 1, h => by
    show setN f n + f n * 2 ^ n = setN g n + g n * 2 ^ n
    rw [setN_cong (n := n) (fun i hi => h i (by omega)), h n (by omega)]
theorem setN_or {f : Nat → Nat} {n : Nat} (h : ∀ i, i < n → f i ≤ 1) : setN f n ||| f n * 2 ^ n = setN f (n + 1) := by
  show setN f n ||| f n * 2 ^ n = setN f n + f n * 2 ^ n
  have h1 := setN_lt (n := n) h
  rw [Nat.or_comm, Nat.mul_comm, ← Nat.two_pow_add_eq_or_of_lt h1, Nat.add_comm]
theorem pow8 {n : Nat} (h : n ≤ 8) : 2 ^ n ≤ 256 := Nat.pow_le_pow_right (by decide) h
