/-! ===== what it is: the document's section 1 over rows of natural numbers ===== -/
def sumN (f : Nat → Nat) : Nat → Nat
  | 0 => 0
  | n + 1 => sumN f n + f n
def setN (f : Nat → Nat) : Nat → Nat
  | 0 => 0
  | n + 1 => setN f n + f n * 2 ^ n
def inN (x : Int32) (n : Nat) : Nat := if 0 ≤ x.toInt ∧ x.toInt < n then 1 else 0
def outC (G : Nat → Nat) : Nat := sumN (fun i => G (8 * i + 2)) (G 40)
def outS (G : Nat → Nat) : Nat := setN (fun i => G (8 * i + 2)) (G 40)
def onC (G : Nat → Nat) : Nat := sumN (fun i => G (8 * i + 6)) (G 48)
def onS (G : Nat → Nat) : Nat := setN (fun i => G (8 * i + 6)) (G 48)
def flC (G : Nat → Nat) : Nat := sumN (fun i => G (8 * i + 7)) (G 48)
def nightN (G : Nat → Nat) : Nat := if 40 ≤ G 0 % 50 then 1 else 0
def wetN (G : Nat → Nat) : Nat := G 8 / 2 ^ (G 0 % 50 / 10) % 2
def weightN (G : Nat → Nat) : Nat := G 16 + 2 * onC G
def keepK (k s t o n : Nat) : Nat :=
  if k = 1 then s / 2 + t else if k = 2 then (if o = 0 then 0 else s / 5 + t) else if k = 3 then 2 * s else if k = 4 then (if n = 0 then s / 2 + t else s / 2 + t + 10) else if k = 5 then (if o = 0 then 0 else s / 5 + t) + 3 * o else s / 5 + t
def speakK (k t o n sp : Nat) : Nat :=
  if k = 1 then (if 15 ≤ t then 1 else 0) else if k = 2 then (if 3 ≤ t ∧ 0 < o then 1 else 0) else if k = 3 then 0 else if k = 4 then (if 15 ≤ t ∧ n = 0 then 1 else 0) else if k = 5 then (if (3 ≤ t ∧ 0 < o) ∨ 100 < sp then 1 else 0) else (if 9 ≤ t then 1 else 0)
def tellK (k : Nat) : Nat := if k = 1 then 2 else if k = 2 then 6 else if k = 3 then 0 else if k = 4 then 2 else if k = 5 then 7 else 3
def keepsN (G : Nat → Nat) (a : Nat) : Nat := keepK (G (8 * a + 1)) (G (8 * a + 3)) (G (8 * a + 4)) (outC G - G (8 * a + 2)) (nightN G)
def speaksN (G : Nat → Nat) (a : Nat) : Nat := speakK (G (8 * a + 1)) (G (8 * a + 4)) (outC G - G (8 * a + 2)) (nightN G) (G 24)
def pushTo (G : Nat → Nat) : Nat → Nat
  | 0 => 0
  | n + 1 => pushTo G n + if G (8 * n + 2) = 1 then keepsN G n else 0
def pushN (G : Nat → Nat) : Nat := if wetN G = 1 then 0 else pushTo G (G 40)
def speedN (G : Nat → Nat) : Nat := min 200 (G 24 + pushN G / weightN G - max 1 (G 24 / 10))
def spinG (G : Nat → Nat) : Nat → Nat := up (up G 24 (speedN G)) 32 (min 999999 (G 32 + speedN G))
def holdF (G : Nat → Nat) (c : Nat) : Nat → Nat :=
  if G (8 * c + 6) = 1 then (if G (8 * c + 5) < G 24 then up (up G (8 * c + 6) 0) (8 * c + 7) (min 9999 (G (8 * c + 7) + 1)) else if 30 < G 24 then up G (8 * c + 5) (G (8 * c + 5) - 1) else G) else G
def gripsTo (G : Nat → Nat) : Nat → Nat → Nat
  | 0 => G
  | n + 1 => holdF (gripsTo G n) n
def talkF (G : Nat → Nat) (a : Nat) : Nat → Nat :=
  if G (8 * a + 2) = 1 then (if speaksN G a = 1 then up (up G (8 * a + 3) (G (8 * a + 3) - tellK (G (8 * a + 1)))) (8 * a + 4) 0 else up G (8 * a + 4) (min 999 (G (8 * a + 4) + 1))) else G
def talkTo (G : Nat → Nat) : Nat → Nat → Nat
  | 0 => G
  | n + 1 => talkF (talkTo G n) n
def gripsG (G : Nat → Nat) : Nat → Nat := gripsTo G (G 48)
def talkG (G : Nat → Nat) : Nat → Nat := talkTo G (G 40)
def tickG (G : Nat → Nat) : Nat → Nat := up G 0 (G 0 + 1)
def stepG (G : Nat → Nat) : Nat → Nat := tickG (talkG (gripsG (spinG G)))
def stepN (G : Nat → Nat) : Nat → Nat → Nat
  | 0 => G
  | n + 1 => stepG (stepN G n)
/-- what always holds of a row, the minute up to b -/
def OkG (b : Nat) (G : Nat → Nat) : Prop :=
  (G 0 ≤ b ∧ G 8 ≤ 31 ∧ 1 ≤ G 16 ∧ G 16 ≤ 50 ∧ G 24 ≤ 200 ∧ G 32 ≤ 999999 ∧ G 40 ≤ 8 ∧ G 48 ≤ 6) ∧ (∀ i, i < 8 → G (8 * i + 1) ≤ 5 ∧ G (8 * i + 2) ≤ 1 ∧ G (8 * i + 3) ≤ 99 ∧ G (8 * i + 4) ≤ 999) ∧ ∀ i, i < 6 → G (8 * i + 5) ≤ 200 ∧ G (8 * i + 6) ≤ 1 ∧ G (8 * i + 7) ≤ 9999
theorem OkG.s {b : Nat} {G : Nat → Nat} (h : OkG b G) : G 0 ≤ b ∧ G 8 ≤ 31 ∧ 1 ≤ G 16 ∧ G 16 ≤ 50 ∧ G 24 ≤ 200 ∧ G 32 ≤ 999999 ∧ G 40 ≤ 8 ∧ G 48 ≤ 6 := h.1
theorem OkG.m {b : Nat} {G : Nat → Nat} (h : OkG b G) (i : Nat) (hi : i < 8) : G (8 * i + 1) ≤ 5 ∧ G (8 * i + 2) ≤ 1 ∧ G (8 * i + 3) ≤ 99 ∧ G (8 * i + 4) ≤ 999 := h.2.1 i hi
theorem OkG.c {b : Nat} {G : Nat → Nat} (h : OkG b G) (i : Nat) (hi : i < 6) : G (8 * i + 5) ≤ 200 ∧ G (8 * i + 6) ≤ 1 ∧ G (8 * i + 7) ≤ 9999 := h.2.2 i hi
theorem sumN_le {f : Nat → Nat} {b : Nat} : ∀ {n : Nat}, (∀ i, i < n → f i ≤ b) → sumN f n ≤ n * b
  | 0, _ => Nat.zero_le _
  | n + 1, h => by
    have h1 := sumN_le (n := n) (fun i hi => h i (by omega))
    have h2 := h n (by omega)
    show sumN f n + f n ≤ (n + 1) * b
    rw [Nat.succ_mul]; omega
theorem sumN_ge {f : Nat → Nat} : ∀ {n : Nat} (i : Nat), i < n → f i ≤ sumN f n
  | 0, i, h => absurd h (Nat.not_lt_zero i)
  | n + 1, i, h => by
    show f i ≤ sumN f n + f n
    rcases Nat.lt_succ_iff_lt_or_eq.mp h with q | q
    · have := sumN_ge (f := f) i q; omega
    · subst q; omega
theorem sumN_cong {f g : Nat → Nat} : ∀ {n : Nat}, (∀ i, i < n → f i = g i) → sumN f n = sumN g n
  | 0, _ => rfl
  | n + 1, h => by
    show sumN f n + f n = sumN g n + g n
    rw [sumN_cong (n := n) (fun i hi => h i (by omega)), h n (by omega)]
theorem setN_lt {f : Nat → Nat} : ∀ {n : Nat}, (∀ i, i < n → f i ≤ 1) → setN f n < 2 ^ n
  | 0, _ => by show 0 < 1; decide
  | n + 1, h => by
    have h1 := setN_lt (n := n) (fun i hi => h i (by omega))
    have h2 := h n (by omega)
    show setN f n + f n * 2 ^ n < 2 ^ (n + 1)
    rw [Nat.pow_succ]
    have : f n * 2 ^ n ≤ 1 * 2 ^ n := Nat.mul_le_mul_right _ h2
    omega
theorem setN_cong {f g : Nat → Nat} : ∀ {n : Nat}, (∀ i, i < n → f i = g i) → setN f n = setN g n
  | 0, _ => rfl
  | n + 1, h => by
    show setN f n + f n * 2 ^ n = setN g n + g n * 2 ^ n
    rw [setN_cong (n := n) (fun i hi => h i (by omega)), h n (by omega)]
theorem setN_or {f : Nat → Nat} {n : Nat} (h : ∀ i, i < n → f i ≤ 1) : setN f n ||| f n * 2 ^ n = setN f (n + 1) := by
  show setN f n ||| f n * 2 ^ n = setN f n + f n * 2 ^ n
  have h1 := setN_lt (n := n) h
  rw [Nat.or_comm, Nat.mul_comm, ← Nat.two_pow_add_eq_or_of_lt h1, Nat.add_comm]
theorem pow8 {n : Nat} (h : n ≤ 8) : 2 ^ n ≤ 256 := Nat.pow_le_pow_right (by decide) h
theorem OkG.put {b : Nat} {G : Nat → Nat} {key v : Nat} (h : OkG b G) (v0 : key = 0 → v ≤ b) (v8 : key = 8 → v ≤ 31) (v16 : key = 16 → 1 ≤ v ∧ v ≤ 50) (v24 : key = 24 → v ≤ 200) (v32 : key = 32 → v ≤ 999999) (v40 : key = 40 → v ≤ 8) (v48 : key = 48 → v ≤ 6) (v1 : key % 8 = 1 → v ≤ 5) (v2 : key % 8 = 2 → v ≤ 1) (v3 : key % 8 = 3 → v ≤ 99) (v4 : key % 8 = 4 → v ≤ 999) (v5 : key % 8 = 5 → v ≤ 200) (v6 : key % 8 = 6 → v ≤ 1) (v7 : key % 8 = 7 → v ≤ 9999) : OkG b (up G key v) := by
  obtain ⟨⟨s1, s2, s3, s4, s5, s6, s7, s8⟩, hm, hc⟩ := h
  have go : ∀ (j lim : Nat), G j ≤ lim → (key = j → v ≤ lim) → up G key v j ≤ lim := fun j lim h1 h2 => by
    by_cases q : j = key
    · subst q; rw [up_eq]; exact h2 rfl
    · rw [up_ne q]; exact h1
  refine ⟨⟨go 0 _ s1 v0, go 8 _ s2 v8, ?_, go 16 _ s4 (fun q => (v16 q).2), go 24 _ s5 v24, go 32 _ s6 v32, go 40 _ s7 v40, go 48 _ s8 v48⟩, fun i hi => ⟨go _ _ (hm i hi).1 (fun q => v1 (by rw [q]; omega)), go _ _ (hm i hi).2.1 (fun q => v2 (by rw [q]; omega)), go _ _ (hm i hi).2.2.1 (fun q => v3 (by rw [q]; omega)), go _ _ (hm i hi).2.2.2 (fun q => v4 (by rw [q]; omega))⟩, fun i hi => ⟨go _ _ (hc i hi).1 (fun q => v5 (by rw [q]; omega)), go _ _ (hc i hi).2.1 (fun q => v6 (by rw [q]; omega)), go _ _ (hc i hi).2.2 (fun q => v7 (by rw [q]; omega))⟩⟩
  by_cases q : 16 = key
  · subst q; rw [up_eq]; exact (v16 rfl).1
  · rw [up_ne q]; exact s3
theorem OkG.s0 {b : Nat} {G : Nat → Nat} {v : Nat} (h : OkG b G) (hv : v ≤ b) : OkG b (up G 0 v) := h.put (fun _ => hv) (fun q => absurd q (by decide)) (fun q => absurd q (by decide)) (fun q => absurd q (by decide)) (fun q => absurd q (by decide)) (fun q => absurd q (by decide)) (fun q => absurd q (by decide)) (fun q => absurd q (by decide)) (fun q => absurd q (by decide)) (fun q => absurd q (by decide)) (fun q => absurd q (by decide)) (fun q => absurd q (by decide)) (fun q => absurd q (by decide)) (fun q => absurd q (by decide))
theorem OkG.s8 {b : Nat} {G : Nat → Nat} {v : Nat} (h : OkG b G) (hv : v ≤ 31) : OkG b (up G 8 v) := h.put (fun q => absurd q (by decide)) (fun _ => hv) (fun q => absurd q (by decide)) (fun q => absurd q (by decide)) (fun q => absurd q (by decide)) (fun q => absurd q (by decide)) (fun q => absurd q (by decide)) (fun q => absurd q (by decide)) (fun q => absurd q (by decide)) (fun q => absurd q (by decide)) (fun q => absurd q (by decide)) (fun q => absurd q (by decide)) (fun q => absurd q (by decide)) (fun q => absurd q (by decide))
theorem OkG.s16 {b : Nat} {G : Nat → Nat} {v : Nat} (h : OkG b G) (hv : 1 ≤ v ∧ v ≤ 50) : OkG b (up G 16 v) := h.put (fun q => absurd q (by decide)) (fun q => absurd q (by decide)) (fun _ => hv) (fun q => absurd q (by decide)) (fun q => absurd q (by decide)) (fun q => absurd q (by decide)) (fun q => absurd q (by decide)) (fun q => absurd q (by decide)) (fun q => absurd q (by decide)) (fun q => absurd q (by decide)) (fun q => absurd q (by decide)) (fun q => absurd q (by decide)) (fun q => absurd q (by decide)) (fun q => absurd q (by decide))
theorem OkG.s24 {b : Nat} {G : Nat → Nat} {v : Nat} (h : OkG b G) (hv : v ≤ 200) : OkG b (up G 24 v) := h.put (fun q => absurd q (by decide)) (fun q => absurd q (by decide)) (fun q => absurd q (by decide)) (fun _ => hv) (fun q => absurd q (by decide)) (fun q => absurd q (by decide)) (fun q => absurd q (by decide)) (fun q => absurd q (by decide)) (fun q => absurd q (by decide)) (fun q => absurd q (by decide)) (fun q => absurd q (by decide)) (fun q => absurd q (by decide)) (fun q => absurd q (by decide)) (fun q => absurd q (by decide))
theorem OkG.s32 {b : Nat} {G : Nat → Nat} {v : Nat} (h : OkG b G) (hv : v ≤ 999999) : OkG b (up G 32 v) := h.put (fun q => absurd q (by decide)) (fun q => absurd q (by decide)) (fun q => absurd q (by decide)) (fun q => absurd q (by decide)) (fun _ => hv) (fun q => absurd q (by decide)) (fun q => absurd q (by decide)) (fun q => absurd q (by decide)) (fun q => absurd q (by decide)) (fun q => absurd q (by decide)) (fun q => absurd q (by decide)) (fun q => absurd q (by decide)) (fun q => absurd q (by decide)) (fun q => absurd q (by decide))
theorem OkG.s40 {b : Nat} {G : Nat → Nat} {v : Nat} (h : OkG b G) (hv : v ≤ 8) : OkG b (up G 40 v) := h.put (fun q => absurd q (by decide)) (fun q => absurd q (by decide)) (fun q => absurd q (by decide)) (fun q => absurd q (by decide)) (fun q => absurd q (by decide)) (fun _ => hv) (fun q => absurd q (by decide)) (fun q => absurd q (by decide)) (fun q => absurd q (by decide)) (fun q => absurd q (by decide)) (fun q => absurd q (by decide)) (fun q => absurd q (by decide)) (fun q => absurd q (by decide)) (fun q => absurd q (by decide))
theorem OkG.s48 {b : Nat} {G : Nat → Nat} {v : Nat} (h : OkG b G) (hv : v ≤ 6) : OkG b (up G 48 v) := h.put (fun q => absurd q (by decide)) (fun q => absurd q (by decide)) (fun q => absurd q (by decide)) (fun q => absurd q (by decide)) (fun q => absurd q (by decide)) (fun q => absurd q (by decide)) (fun _ => hv) (fun q => absurd q (by decide)) (fun q => absurd q (by decide)) (fun q => absurd q (by decide)) (fun q => absurd q (by decide)) (fun q => absurd q (by decide)) (fun q => absurd q (by decide)) (fun q => absurd q (by decide))
theorem OkG.r1 {b : Nat} {G : Nat → Nat} {a v : Nat} (h : OkG b G) (hv : v ≤ 5) : OkG b (up G (8 * a + 1) v) := h.put (fun q => absurd q (by omega)) (fun q => absurd q (by omega)) (fun q => absurd q (by omega)) (fun q => absurd q (by omega)) (fun q => absurd q (by omega)) (fun q => absurd q (by omega)) (fun q => absurd q (by omega)) (fun _ => hv) (fun q => absurd q (by omega)) (fun q => absurd q (by omega)) (fun q => absurd q (by omega)) (fun q => absurd q (by omega)) (fun q => absurd q (by omega)) (fun q => absurd q (by omega))
theorem OkG.r2 {b : Nat} {G : Nat → Nat} {a v : Nat} (h : OkG b G) (hv : v ≤ 1) : OkG b (up G (8 * a + 2) v) := h.put (fun q => absurd q (by omega)) (fun q => absurd q (by omega)) (fun q => absurd q (by omega)) (fun q => absurd q (by omega)) (fun q => absurd q (by omega)) (fun q => absurd q (by omega)) (fun q => absurd q (by omega)) (fun q => absurd q (by omega)) (fun _ => hv) (fun q => absurd q (by omega)) (fun q => absurd q (by omega)) (fun q => absurd q (by omega)) (fun q => absurd q (by omega)) (fun q => absurd q (by omega))
theorem OkG.r3 {b : Nat} {G : Nat → Nat} {a v : Nat} (h : OkG b G) (hv : v ≤ 99) : OkG b (up G (8 * a + 3) v) := h.put (fun q => absurd q (by omega)) (fun q => absurd q (by omega)) (fun q => absurd q (by omega)) (fun q => absurd q (by omega)) (fun q => absurd q (by omega)) (fun q => absurd q (by omega)) (fun q => absurd q (by omega)) (fun q => absurd q (by omega)) (fun q => absurd q (by omega)) (fun _ => hv) (fun q => absurd q (by omega)) (fun q => absurd q (by omega)) (fun q => absurd q (by omega)) (fun q => absurd q (by omega))
theorem OkG.r4 {b : Nat} {G : Nat → Nat} {a v : Nat} (h : OkG b G) (hv : v ≤ 999) : OkG b (up G (8 * a + 4) v) := h.put (fun q => absurd q (by omega)) (fun q => absurd q (by omega)) (fun q => absurd q (by omega)) (fun q => absurd q (by omega)) (fun q => absurd q (by omega)) (fun q => absurd q (by omega)) (fun q => absurd q (by omega)) (fun q => absurd q (by omega)) (fun q => absurd q (by omega)) (fun q => absurd q (by omega)) (fun _ => hv) (fun q => absurd q (by omega)) (fun q => absurd q (by omega)) (fun q => absurd q (by omega))
theorem OkG.r5 {b : Nat} {G : Nat → Nat} {a v : Nat} (h : OkG b G) (hv : v ≤ 200) : OkG b (up G (8 * a + 5) v) := h.put (fun q => absurd q (by omega)) (fun q => absurd q (by omega)) (fun q => absurd q (by omega)) (fun q => absurd q (by omega)) (fun q => absurd q (by omega)) (fun q => absurd q (by omega)) (fun q => absurd q (by omega)) (fun q => absurd q (by omega)) (fun q => absurd q (by omega)) (fun q => absurd q (by omega)) (fun q => absurd q (by omega)) (fun _ => hv) (fun q => absurd q (by omega)) (fun q => absurd q (by omega))
theorem OkG.r6 {b : Nat} {G : Nat → Nat} {a v : Nat} (h : OkG b G) (hv : v ≤ 1) : OkG b (up G (8 * a + 6) v) := h.put (fun q => absurd q (by omega)) (fun q => absurd q (by omega)) (fun q => absurd q (by omega)) (fun q => absurd q (by omega)) (fun q => absurd q (by omega)) (fun q => absurd q (by omega)) (fun q => absurd q (by omega)) (fun q => absurd q (by omega)) (fun q => absurd q (by omega)) (fun q => absurd q (by omega)) (fun q => absurd q (by omega)) (fun q => absurd q (by omega)) (fun _ => hv) (fun q => absurd q (by omega))
theorem OkG.r7 {b : Nat} {G : Nat → Nat} {a v : Nat} (h : OkG b G) (hv : v ≤ 9999) : OkG b (up G (8 * a + 7) v) := h.put (fun q => absurd q (by omega)) (fun q => absurd q (by omega)) (fun q => absurd q (by omega)) (fun q => absurd q (by omega)) (fun q => absurd q (by omega)) (fun q => absurd q (by omega)) (fun q => absurd q (by omega)) (fun q => absurd q (by omega)) (fun q => absurd q (by omega)) (fun q => absurd q (by omega)) (fun q => absurd q (by omega)) (fun q => absurd q (by omega)) (fun q => absurd q (by omega)) (fun _ => hv)
theorem OkG.mono {b b' : Nat} {G : Nat → Nat} (h : OkG b G) (hb : b ≤ b') : OkG b' G := ⟨⟨Nat.le_trans h.1.1 hb, h.1.2⟩, h.2⟩
theorem keepK_le {k s t o n : Nat} (hs : s ≤ 99) (ht : t ≤ 999) (ho : o ≤ 8) : keepK k s t o n ≤ 1100 := by
  unfold keepK; repeat' split
  all_goals omega
theorem speakK_le (k t o n sp : Nat) : speakK k t o n sp ≤ 1 := by
  unfold speakK; repeat' split
  all_goals omega
theorem tellK_le (k : Nat) : tellK k ≤ 7 := by
  unfold tellK; repeat' split
  all_goals omega
theorem outC_le {b : Nat} {G : Nat → Nat} (h : OkG b G) : outC G ≤ 8 := by
  have h1 : sumN (fun i => G (8 * i + 2)) (G 40) ≤ G 40 * 1 := sumN_le (fun i hi => (h.m i (by have := h.s; omega)).2.1)
  have := h.s
  unfold outC; omega
theorem outC_ge {G : Nat → Nat} {i : Nat} (hi : i < G 40) : G (8 * i + 2) ≤ outC G := sumN_ge (f := fun i => G (8 * i + 2)) i hi
theorem onC_le {b : Nat} {G : Nat → Nat} (h : OkG b G) : onC G ≤ 6 := by
  have h1 : sumN (fun i => G (8 * i + 6)) (G 48) ≤ G 48 * 1 := sumN_le (fun i hi => (h.c i (by have := h.s; omega)).2.1)
  have := h.s
  unfold onC; omega
theorem flC_le {b : Nat} {G : Nat → Nat} (h : OkG b G) : flC G ≤ 59994 := by
  have h1 : sumN (fun i => G (8 * i + 7)) (G 48) ≤ G 48 * 9999 := sumN_le (fun i hi => (h.c i (by have := h.s; omega)).2.2)
  have := h.s
  unfold flC; omega
theorem nightN_le (G : Nat → Nat) : nightN G ≤ 1 := by unfold nightN; split <;> omega
theorem wetN_le (G : Nat → Nat) : wetN G ≤ 1 := by unfold wetN; omega
theorem weightN_in {b : Nat} {G : Nat → Nat} (h : OkG b G) : 1 ≤ weightN G ∧ weightN G ≤ 62 := by
  have := h.s; have := onC_le h
  unfold weightN; omega
theorem keepsN_le {b : Nat} {G : Nat → Nat} (h : OkG b G) {a : Nat} (ha : a < 8) : keepsN G a ≤ 1100 := by
  have h1 := h.m a ha; have h2 := outC_le h
  exact keepK_le h1.2.2.1 h1.2.2.2 (by omega)
theorem pushTo_le {b : Nat} {G : Nat → Nat} (h : OkG b G) : ∀ n, n ≤ 8 → pushTo G n ≤ n * 1100
  | 0, _ => Nat.zero_le _
  | n + 1, hn => by
    have h1 := pushTo_le h n (by omega)
    have h2 := keepsN_le h (a := n) (by omega)
    have h3 : (if G (8 * n + 2) = 1 then keepsN G n else 0) ≤ 1100 := by
      split
      · exact h2
      · exact Nat.zero_le _
    rw [Nat.succ_mul]
    exact Nat.add_le_add h1 h3
theorem pushN_le {b : Nat} {G : Nat → Nat} (h : OkG b G) : pushN G ≤ 8800 := by
  have h1 := pushTo_le h (G 40) (by have := h.s; omega)
  have := h.s
  unfold pushN; split <;> omega
theorem speedN_le (G : Nat → Nat) : speedN G ≤ 200 := Nat.min_le_left _ _
theorem spin_ok {b : Nat} {G : Nat → Nat} (h : OkG b G) : OkG b (spinG G) :=
  (h.s24 (speedN_le G)).s32 (Nat.min_le_left _ _)
theorem hold_ok {b : Nat} {G : Nat → Nat} (h : OkG b G) {c : Nat} (hc : c < 6) : OkG b (holdF G c) := by
  have h1 := h.c c hc
  unfold holdF
  repeat' split
  · exact (h.r6 (by omega)).r7 (Nat.min_le_left _ _)
  · exact h.r5 (by omega)
  · exact h
  · exact h
theorem hold_keep (G : Nat → Nat) (c k : Nat) (h1 : ¬ k = 8 * c + 5) (h2 : ¬ k = 8 * c + 6) (h3 : ¬ k = 8 * c + 7) : holdF G c k = G k := by
  unfold holdF
  repeat' split
  · rw [up_ne h3, up_ne h2]
  · rw [up_ne h1]
  · rfl
  · rfl
theorem grips_keep (G : Nat → Nat) (k : Nat) (h : k % 8 < 5) : ∀ n, gripsTo G n k = G k
  | 0 => rfl
  | n + 1 => by
    show holdF (gripsTo G n) n k = G k
    rw [hold_keep _ _ _ (by omega) (by omega) (by omega), grips_keep G k h n]
theorem gripsTo_ok {b : Nat} {G : Nat → Nat} (h : OkG b G) : ∀ n, n ≤ 6 → OkG b (gripsTo G n)
  | 0, _ => h
  | n + 1, hn => hold_ok (gripsTo_ok h n (by omega)) (by omega)
theorem grips_ok {b : Nat} {G : Nat → Nat} (h : OkG b G) : OkG b (gripsG G) := gripsTo_ok h _ (by have := h.s; omega)
theorem talkF_ok {b : Nat} {G : Nat → Nat} (h : OkG b G) {a : Nat} (ha : a < 8) : OkG b (talkF G a) := by
  have h1 := h.m a ha
  unfold talkF
  repeat' split
  · exact (h.r3 (by omega)).r4 (by omega)
  · exact h.r4 (Nat.min_le_left _ _)
  · exact h
theorem talkF_keep (G : Nat → Nat) (a k : Nat) (h1 : ¬ k = 8 * a + 3) (h2 : ¬ k = 8 * a + 4) : talkF G a k = G k := by
  unfold talkF
  repeat' split
  · rw [up_ne h2, up_ne h1]
  · rw [up_ne h2]
  · rfl
theorem talk_keep (G : Nat → Nat) (k : Nat) (h : ¬ k % 8 = 3) (h' : ¬ k % 8 = 4) : ∀ n, talkTo G n k = G k
  | 0 => rfl
  | n + 1 => by
    show talkF (talkTo G n) n k = G k
    rw [talkF_keep _ _ _ (by omega) (by omega), talk_keep G k h h' n]
theorem talkTo_ok {b : Nat} {G : Nat → Nat} (h : OkG b G) : ∀ n, n ≤ 8 → OkG b (talkTo G n)
  | 0, _ => h
  | n + 1, hn => talkF_ok (talkTo_ok h n (by omega)) (by omega)
theorem talk_ok {b : Nat} {G : Nat → Nat} (h : OkG b G) : OkG b (talkG G) := talkTo_ok h _ (by have := h.s; omega)
theorem talk_out (G : Nat → Nat) (n : Nat) : outC (talkTo G n) = outC G := by
  unfold outC
  rw [talk_keep G 40 (by decide) (by decide) n]
  exact sumN_cong (fun i _ => talk_keep G _ (by omega) (by omega) n)
theorem talk_night (G : Nat → Nat) (n : Nat) : nightN (talkTo G n) = nightN G := by
  unfold nightN
  rw [talk_keep G 0 (by decide) (by decide) n]
theorem tick_ok {b : Nat} {G : Nat → Nat} (h : OkG b G) : OkG (b + 1) (tickG G) := (h.mono (Nat.le_succ b)).s0 (Nat.succ_le_succ h.s.1)
theorem step_ok {b : Nat} {G : Nat → Nat} (h : OkG b G) : OkG (b + 1) (stepG G) := tick_ok (talk_ok (grips_ok (spin_ok h)))
theorem stepN_ok {b : Nat} {G : Nat → Nat} (h : OkG b G) : ∀ n, OkG (b + n) (stepN G n)
  | 0 => h
  | n + 1 => step_ok (stepN_ok h n)
