/-! ===== what always holds between the calls ===== -/
def FL (n : Nat) (G : Nat → Nat) : Prop := ∀ c, c < 6 → G (8 * c + 7) ≤ n
theorem FL.mono {n k : Nat} {G : Nat → Nat} (h : FL n G) (hk : n ≤ k) : FL k G := fun c hc => Nat.le_trans (h c hc) hk
theorem FL.put {n : Nat} {G : Nat → Nat} {key v : Nat} (h : FL n G) (hk : ¬ key % 8 = 7) : FL n (up G key v) := fun c hc => by
  rw [up_ne (by omega)]; exact h c hc
theorem FL.nil {n : Nat} {G : Nat → Nat} {key : Nat} (h : FL n G) : FL n (up G key 0) := fun c hc => by
  by_cases q : 8 * c + 7 = key
  · rw [q, up_eq]; exact Nat.zero_le _
  · rw [up_ne q]; exact h c hc
theorem step_any (G : Nat → Nat) (c : Nat) {r : Nat} (hr : 5 ≤ r ∧ r ≤ 7) : stepG G (8 * c + r) = if c < G 48 then holdF (spinG G) c (8 * c + r) else G (8 * c + r) := by
  unfold stepG tickG talkG gripsG
  rw [up_ne (by omega), talk_keep _ _ (by omega) (by omega), gripsTo_at _ _ hr, spin_keep G 48 (by decide) (by decide)]
  split
  · rfl
  · exact spin_keep G _ (by omega) (by omega)
theorem fl_hold (K : Nat → Nat) (c : Nat) : holdF K c (8 * c + 7) + holdF K c (8 * c + 6) ≤ K (8 * c + 7) + K (8 * c + 6) := by
  unfold holdF
  split
  · next h =>
    split
    · rw [up_eq, up_ne (show ¬ 8 * c + 6 = 8 * c + 7 by omega), up_eq]; omega
    · split
      · rw [up_ne (show ¬ 8 * c + 7 = 8 * c + 5 by omega), up_ne (show ¬ 8 * c + 6 = 8 * c + 5 by omega)]; exact Nat.le_refl _
      · exact Nat.le_refl _
  · exact Nat.le_refl _
theorem fl_step (G : Nat → Nat) (c : Nat) : stepG G (8 * c + 7) + stepG G (8 * c + 6) ≤ G (8 * c + 7) + G (8 * c + 6) := by
  rw [step_any G c (r := 7) (by omega), step_any G c (r := 6) (by omega)]
  by_cases h : c < G 48
  · rw [if_pos h, if_pos h]
    have h1 := fl_hold (spinG G) c
    rw [spin_keep G (8 * c + 7) (by omega) (by omega), spin_keep G (8 * c + 6) (by omega) (by omega)] at h1
    exact h1
  · rw [if_neg h, if_neg h]; exact Nat.le_refl _
theorem fl_stepN (G : Nat → Nat) (c : Nat) : ∀ n, stepN G n (8 * c + 7) + stepN G n (8 * c + 6) ≤ G (8 * c + 7) + G (8 * c + 6)
  | 0 => Nat.le_refl _
  | n + 1 => Nat.le_trans (fl_step (stepN G n) c) (fl_stepN G c n)
theorem FL.steps {n b : Nat} {G : Nat → Nat} (h : FL n G) (hG : OkG b G) (k : Nat) : FL (n + 1) (stepN G k) := fun c hc => by
  have h1 := fl_stepN G c k
  have h2 := h c hc
  have h3 := (hG.c c hc).2.1
  omega
theorem step_0 (G : Nat → Nat) : stepG G 0 = G 0 + 1 := by
  unfold stepG tickG talkG gripsG
  rw [up_eq, talk_keep _ _ (by decide) (by decide), grips_keep _ _ (by decide), spin_keep G 0 (by decide) (by decide)]
theorem stepN_0 (G : Nat → Nat) : ∀ n, stepN G n 0 = G 0 + n
  | 0 => rfl
  | n + 1 => by
    show stepG (stepN G n) 0 = _
    rw [step_0, stepN_0 G n]; rfl
def GI (n : Nat) (G : Nat → Nat) : Prop := OkG 99999 G ∧ FL n G
theorem GI.nx {n : Nat} {G : Nat → Nat} (h : GI n G) : GI (n + 1) G := ⟨h.1, h.2.mono (Nat.le_succ n)⟩
theorem gi_iron {n : Nat} {G : Nat → Nat} (h : GI n G) (w z : Int) : GI (n + 1) (ironG G w z) := by
  unfold ironG
  split
  · exact ⟨h.1.s16 (by omega), (h.nx.2).put (by decide)⟩
  · split
    · exact ⟨h.1.s24 (by omega), (h.nx.2).put (by decide)⟩
    · exact h.nx
theorem gi_rain {n : Nat} {G : Nat → Nat} (h : GI n G) (z : Int) : GI (n + 1) (rainG G z) := by
  unfold rainG
  split
  · exact ⟨h.1.s8 (by omega), (h.nx.2).put (by decide)⟩
  · exact h.nx
theorem fl_addM {n : Nat} {G : Nat → Nat} (h : FL n G) (k sc o : Nat) : FL n (addM G k sc o) := ((((h.put (by omega)).put (by omega)).put (by omega)).put (by omega)).put (by decide)
theorem fl_addC {n : Nat} {G : Nat → Nat} (h : FL n G) (gr o : Nat) : FL n (addC G gr o) := (((h.put (by omega)).put (by omega)).nil).put (by decide)
theorem gi_mother {n : Nat} {G : Nat → Nat} (h : GI n G) (z : Int) : GI (n + 1) (motherG G z) := by
  unfold motherG
  split
  · next q => exact ⟨addM_ok h.1 q.2.2 (by omega) (by decide) (by decide), fl_addM h.nx.2 _ _ _⟩
  · exact h.nx
theorem gi_set {n : Nat} {G : Nat → Nat} (h : GI n G) (a w z : Int) : GI (n + 1) (setG G a w z) := by
  unfold setG
  split
  · exact ⟨h.1.r3 (by omega), (h.nx.2).put (by omega)⟩
  · split
    · exact ⟨h.1.r4 (by omega), (h.nx.2).put (by omega)⟩
    · exact h.nx
theorem gi_out {n : Nat} {G : Nat → Nat} (h : GI n G) (a z : Int) : GI (n + 1) (outG G a z) := by
  unfold outG
  split
  · exact ⟨moveM_ok h.1 (by omega), ((h.nx.2).put (by omega)).put (by omega)⟩
  · exact h.nx
theorem gi_turn {n : Nat} {G : Nat → Nat} (h : GI n G) (a z : Int) : GI (n + 1) (turnG G a z) := by
  unfold turnG
  split
  · exact ⟨h.1.r1 (by omega), (h.nx.2).put (by omega)⟩
  · exact h.nx
theorem gi_child {n : Nat} {G : Nat → Nat} (h : GI n G) (z : Int) : GI (n + 1) (childG G z) := by
  unfold childG
  split
  · next q => exact ⟨addC_ok h.1 q.2.2 (by omega) (by decide), fl_addC h.nx.2 _ _⟩
  · exact h.nx
theorem gi_grip {n : Nat} {G : Nat → Nat} (h : GI n G) (a z : Int) : GI (n + 1) (gripG G a z) := by
  unfold gripG
  split
  · exact ⟨h.1.r5 (by omega), (h.nx.2).put (by omega)⟩
  · exact h.nx
theorem gi_ride {n : Nat} {G : Nat → Nat} (h : GI n G) (a z : Int) : GI (n + 1) (rideG G a z) := by
  unfold rideG
  split
  · exact ⟨h.1.r6 (by omega), (h.nx.2).put (by omega)⟩
  · exact h.nx
theorem gi_minutes {n : Nat} {G : Nat → Nat} (h : GI n G) (z : Int) : GI (n + 1) (minutesG G z) := by
  unfold minutesG
  split
  · next q =>
    have h1 := stepN_ok h.1 z.toNat
    refine ⟨⟨⟨?_, h1.1.2⟩, h1.2⟩, h.2.steps h.1 _⟩
    rw [stepN_0]; omega
  · exact h.nx
theorem gi_lays {n : Nat} {G B Z : Nat → Nat} {C : Nat → Int64} (h : GI n G) (a : Int) : GI (n + 1) (laysG G B Z C a) := by
  unfold laysG
  split
  · exact ⟨lyG_ok h.1 C _ _, fun c hc => by rw [lyG_keep G C _ _ (by omega)]; exact h.nx.2 c hc⟩
  · exact h.nx
theorem fl_item {n : Nat} {G : Nat → Nat} (h : FL n G) (T : Nat → Nat) (L p : Nat) : FL n (itemS T L p G).2.2 := by
  unfold itemS motS motO chiS chiO raiS hevS
  (repeat' split) <;> first | exact h | exact fl_addM h _ _ _ | exact fl_addC h _ _ | exact h.put (by decide)
theorem fl_par {n : Nat} (T : Nat → Nat) (L : Nat) : ∀ (f p : Nat) (G : Nat → Nat) (k : Nat), FL n G → FL n (parS T L f p G k).2.2
  | 0, _, _, _, h => h
  | f + 1, p, G, k, h => by
    unfold parS
    split
    · exact h
    · split
      · exact fl_item h T L p
      · split
        · exact fl_par T L f _ _ _ (fl_item h T L p)
        · exact h
theorem gi_green {n : Nat} {T G : Nat → Nat} {L : Nat} (h : GI n G) (hL : L ≤ 120) : GI (n + 1) (greenG T L G) := by
  have h1 := parS_01 (T := T) hL 120 0 G 1 (Nat.zero_le _) h.1
  unfold greenG
  split
  · exact h.nx
  · next q =>
    rcases h1 with z | z
    · exact absurd z.1 q
    · exact ⟨z.2.2, fl_par T L _ _ _ _ h.nx.2⟩
theorem fd_lt {T : Nat → Nat} (h : ∀ i, T i < 256) (tn : Nat) (v : Int32) (y : Nat) : ∀ (k i : Nat), fdT T tn v y k i < 256
  | 0, i => h i
  | k + 1, i => by
    show up (fdT T tn v y k) (tn + k) (byteN v (y - 1 - k)) i < 256
    by_cases q : i = tn + k
    · rw [q, up_eq]; exact Nat.mod_lt _ (by decide)
    · rw [up_ne q]; exact fd_lt h tn v y k i
theorem feed_lt {T : Nat → Nat} (h : ∀ i, T i < 256) (L : Nat) (v : Int32) (z : Int) (i : Nat) : feedT T L v z i < 256 := by
  unfold feedT
  split
  · exact fd_lt h _ _ _ _ _
  · exact h i
theorem feedN_le {L : Nat} (h : L ≤ 120) (z : Int) : feedN L z ≤ 120 := by
  unfold feedN
  split <;> omega
theorem OkS.sheet {B Z : Nat → Nat} (h : OkS B Z) (a w z : Int) : OkS (sheetB B a w z) (sheetZ Z a w z) := by
  intro j hj
  have hh := h j hj
  unfold sheetB sheetZ
  constructor
  · split
    · by_cases q : j = a.toNat
      · rw [q, up_eq]; omega
      · rw [up_ne q]; exact hh.1
    · exact hh.1
  · split
    · split
      · by_cases q : j = a.toNat
        · rw [q, up_eq]; omega
        · rw [up_ne q]; exact hh.2
      · by_cases q : j = a.toNat
        · rw [q, up_eq]; omega
        · rw [up_ne q]; exact hh.2
    · exact hh.2
def LI (n ik L : Nat) (G K M T Rt R B Z : Nat → Nat) : Prop :=
  GI n G ∧ (ik = 0 ∨ (ik = 1 ∧ M = K ∧ GI n K)) ∧ (Rt 0 = L ∧ R 1 = L ∧ R 0 = ik ∧ L ≤ 120) ∧ (∀ i, T i < 256) ∧ OkS B Z
section LIs
variable {n ik L : Nat} {G K M T Rt R B Z : Nat → Nat}
theorem LI.kp (h : LI n ik L G K M T Rt R B Z) : ik = 0 ∨ (ik = 1 ∧ M = K ∧ GI (n + 1) K) := by
  rcases h.2.1 with q | q
  · exact Or.inl q
  · exact Or.inr ⟨q.1, q.2.1, q.2.2.nx⟩
theorem LI.ik1 (h : LI n ik L G K M T Rt R B Z) : ik ≤ 1 := by
  rcases h.2.1 with q | q <;> omega
theorem LI.g (h : LI n ik L G K M T Rt R B Z) {G' : Nat → Nat} (hg : GI (n + 1) G') : LI (n + 1) ik L G' K M T Rt R B Z := ⟨hg, h.kp, h.2.2⟩
theorem LI.nx (h : LI n ik L G K M T Rt R B Z) : LI (n + 1) ik L G K M T Rt R B Z := h.g h.1.nx
theorem LI.sh (h : LI n ik L G K M T Rt R B Z) {B' Z' : Nat → Nat} (hs : OkS B' Z') : LI (n + 1) ik L G K M T Rt R B' Z' := ⟨h.1.nx, h.kp, h.2.2.1, h.2.2.2.1, hs⟩
theorem LI.tp (h : LI n ik L G K M T Rt R B Z) {G' T' Rt' R' : Nat → Nat} {L' : Nat} (hg : GI (n + 1) G') (h1 : Rt' 0 = L') (h2 : R' 1 = L') (h3 : R' 0 = R 0) (h4 : L' ≤ 120) (h5 : ∀ i, T' i < 256) : LI (n + 1) ik L' G' K M T' Rt' R' B Z := ⟨hg, h.kp, ⟨h1, h2, h3.trans h.2.2.1.2.2.1, h4⟩, h5, h.2.2.2.2⟩
theorem LI.im (h : LI n ik L G K M T Rt R B Z) : LI (n + 1) 1 L G G G T Rt (up R 0 1) B Z := ⟨h.1.nx, Or.inr ⟨rfl, rfl, h.1.nx⟩, ⟨h.2.2.1.1, (up_ne (by decide)).trans h.2.2.1.2.1, up_eq _ _ _, h.2.2.1.2.2.2⟩, h.2.2.2⟩
theorem LI.te (h : LI n ik L G K M T Rt R B Z) : LI (n + 1) 0 L G K M T Rt (up R 0 0) B Z := ⟨h.1.nx, Or.inl rfl, ⟨h.2.2.1.1, (up_ne (by decide)).trans h.2.2.1.2.1, up_eq _ _ _, h.2.2.1.2.2.2⟩, h.2.2.2⟩
theorem LI.fl9 (h : LI n ik L G K M T Rt R B Z) (hn : n ≤ 600) : ∀ c, c < 6 → G (8 * c + 7) < 9999 := fun c hc => by
  have := h.1.2 c hc; omega
end LIs
theorem LI_0 : LI 0 0 0 GZ GZ ZR ZR ZR ZR ZR ZR :=
  ⟨⟨⟨by decide, fun i hi => by have h1 : GZ (8 * i + 1) = 0 := up_ne (by omega); have h2 : GZ (8 * i + 2) = 0 := up_ne (by omega); have h3 : GZ (8 * i + 3) = 0 := up_ne (by omega); have h4 : GZ (8 * i + 4) = 0 := up_ne (by omega); omega, fun i hi => by have h1 : GZ (8 * i + 5) = 0 := up_ne (by omega); have h2 : GZ (8 * i + 6) = 0 := up_ne (by omega); have h3 : GZ (8 * i + 7) = 0 := up_ne (by omega); omega⟩, fun c hc => by have h3 : GZ (8 * c + 7) = 0 := up_ne (by omega); omega⟩, Or.inl rfl, ⟨rfl, rfl, rfl, Nat.zero_le _⟩, fun _ => (by decide : (0 : Nat) < 256), fun j _ => ⟨Nat.zero_le _, Nat.zero_le _⟩⟩
