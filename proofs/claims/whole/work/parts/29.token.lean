theorem qX3_byteAt : yX3_byteAt.cls = RX3 ∧ yX3_byteAt.cls ≠ "java/lang/invoke/MethodHandle" ∧ yX3_byteAt.cls ≠ "java/lang/invoke/VarHandle" ∧ (parseMethodDescriptor yX3_byteAt.desc).map (fun d => d.parameters.length) = some 1 := by decide +kernel
theorem qX3_sortOf : yX3_sortOf.cls ≠ "java/lang/invoke/MethodHandle" ∧ yX3_sortOf.cls ≠ "java/lang/invoke/VarHandle" ∧ (parseMethodDescriptor yX3_sortOf.desc).map (fun d => d.parameters.length) = some 1 := by decide +kernel
theorem qJ0_length_8abf5 : yJ0_length_8abf5.cls = RJ0 ∧ yJ0_length_8abf5.cls ≠ "java/lang/invoke/MethodHandle" ∧ yJ0_length_8abf5.cls ≠ "java/lang/invoke/VarHandle" ∧ (parseMethodDescriptor yJ0_length_8abf5.desc).map (fun d => d.parameters.length) = some 0 := by decide +kernel
theorem qJ0_charAt_5068e : yJ0_charAt_5068e.cls = RJ0 ∧ yJ0_charAt_5068e.cls ≠ "java/lang/invoke/MethodHandle" ∧ yJ0_charAt_5068e.cls ≠ "java/lang/invoke/VarHandle" ∧ (parseMethodDescriptor yJ0_charAt_5068e.desc).map (fun d => d.parameters.length) = some 1 := by decide +kernel
theorem qX3_advance : yX3_advance.cls = RX3 ∧ yX3_advance.cls ≠ "java/lang/invoke/MethodHandle" ∧ yX3_advance.cls ≠ "java/lang/invoke/VarHandle" ∧ (parseMethodDescriptor yX3_advance.desc).map (fun d => d.parameters.length) = some 0 := by decide +kernel
theorem qX3_isWord : yX3_isWord.cls = RX3 ∧ yX3_isWord.cls ≠ "java/lang/invoke/MethodHandle" ∧ yX3_isWord.cls ≠ "java/lang/invoke/VarHandle" ∧ (parseMethodDescriptor yX3_isWord.desc).map (fun d => d.parameters.length) = some 1 := by decide +kernel
/-! ===== the tape's row: length, sort, start, behind, number ===== -/
def trw (R : Nat → Nat) (s b e n : Nat) : Nat → Nat := up (up (up (up R 1 s) 2 b) 3 e) 4 n
theorem trw_g0 (R : Nat → Nat) (s b e n : Nat) : trw R s b e n 0 = R 0 := rfl
theorem trw_g1 (R : Nat → Nat) (s b e n : Nat) : trw R s b e n 1 = s := rfl
theorem trw_g2 (R : Nat → Nat) (s b e n : Nat) : trw R s b e n 2 = b := rfl
theorem trw_g3 (R : Nat → Nat) (s b e n : Nat) : trw R s b e n 3 = e := rfl
theorem trw_g4 (R : Nat → Nat) (s b e n : Nat) : trw R s b e n 4 = n := rfl
theorem trw_1 (R : Nat → Nat) (s b e n x : Nat) : up (trw R s b e n) 1 x = trw R x b e n := by
  funext j; unfold trw up; (repeat' split) <;> first | rfl | (exfalso; omega)
theorem trw_2 (R : Nat → Nat) (s b e n x : Nat) : up (trw R s b e n) 2 x = trw R s x e n := by
  funext j; unfold trw up; (repeat' split) <;> first | rfl | (exfalso; omega)
theorem trw_3 (R : Nat → Nat) (s b e n x : Nat) : up (trw R s b e n) 3 x = trw R s b x n := by
  funext j; unfold trw up; (repeat' split) <;> first | rfl | (exfalso; omega)
theorem trw_4 (R : Nat → Nat) (s b e n x : Nat) : up (trw R s b e n) 4 x = trw R s b e x := by
  funext j; unfold trw up; (repeat' split) <;> first | rfl | (exfalso; omega)
theorem trw_self (R : Nat → Nat) : trw R (R 1) (R 2) (R 3) (R 4) = R := by
  unfold trw; rw [up_self R 1, up_self R 2, up_self R 3, up_self R 4]
theorem trw_trw (R : Nat → Nat) (s b e n s' b' e' n' : Nat) : trw (trw R s b e n) s' b' e' n' = trw R s' b' e' n' := by
  show up (up (up (up (trw R s b e n) 1 s') 2 b') 3 e') 4 n' = _
  rw [trw_1, trw_2, trw_3, trw_4]
theorem trw_up3 (R : Nat → Nat) (x s b e n : Nat) : trw (up R 3 x) s b e n = trw R s b e n := by
  funext j; unfold trw up; (repeat' split) <;> first | rfl | (exfalso; omega)
def tk (R T : Nat → Nat) (L p : Nat) : Nat → Nat := trw R (sT T L p) (bT T L p) (eT T L p) (nT T L p)
theorem tk_g0 (R T : Nat → Nat) (L p : Nat) : tk R T L p 0 = R 0 := rfl
theorem tk_g1 (R T : Nat → Nat) (L p : Nat) : tk R T L p 1 = sT T L p := rfl
theorem tk_g2 (R T : Nat → Nat) (L p : Nat) : tk R T L p 2 = bT T L p := rfl
theorem tk_g3 (R T : Nat → Nat) (L p : Nat) : tk R T L p 3 = eT T L p := rfl
theorem tk_g4 (R T : Nat → Nat) (L p : Nat) : tk R T L p 4 = nT T L p := rfl
theorem tk_tk (R T : Nat → Nat) (L p q : Nat) : tk (tk R T L p) T L q = tk R T L q := trw_trw _ _ _ _ _ _ _ _ _
theorem tk_up3 (R T : Nat → Nat) (L x q : Nat) : tk (up R 3 x) T L q = tk R T L q := trw_up3 _ _ _ _ _ _
/-! ===== the walk over a token's bytes ===== -/
def lngN (s : Nat) : Nat := if s = 1 ∨ s = 2 then 1 else 0
theorem lngN_or (s : Nat) : (lngN s = 1 ∧ (s = 1 ∨ s = 2)) ∨ (lngN s = 0 ∧ ¬ (s = 1 ∨ s = 2)) := by unfold lngN; split <;> omega
def nuT (T : Nat → Nat) (L q p : Nat) : Nat := if sT T L q = 2 then numC T (bT T L q) (p - bT T L q) else 0
theorem nuT_le (T : Nat → Nat) (L q p : Nat) : nuT T L q p ≤ 1000 := by
  have := numC_le T (bT T L q) (p - bT T L q)
  unfold nuT; split <;> omega
theorem nT_le (T : Nat → Nat) (L q : Nat) : nT T L q ≤ 1000 := nuT_le T L q (eT T L q)
theorem nuT_0 (T : Nat → Nat) (L q : Nat) : nuT T L q (bT T L q) = 0 := by
  unfold nuT
  split
  · rw [Nat.sub_self]; rfl
  · rfl
theorem nuT_succ {T : Nat → Nat} {L q p : Nat} (hs : sT T L q = 2) (hb : bT T L q ≤ p) : min 1000 (10 * nuT T L q p + T p - 48) = nuT T L q (p + 1) := by
  unfold nuT
  rw [if_pos hs, if_pos hs, show p + 1 - bT T L q = (p - bT T L q) + 1 by omega]
  show _ = min 1000 (10 * numC T (bT T L q) (p - bT T L q) + T (bT T L q + (p - bT T L q)) - 48)
  rw [show bT T L q + (p - bT T L q) = p by omega]
theorem nuT_other {T : Nat → Nat} {L q : Nat} (hs : ¬ sT T L q = 2) (p p' : Nat) : nuT T L q p = nuT T L q p' := by
  unfold nuT; rw [if_neg hs, if_neg hs]
theorem srt_1 {b : Nat} (h : srtN b = 1) : 97 ≤ b ∧ b ≤ 122 := by
  unfold srtN at h; (repeat' split at h) <;> omega
theorem srt_2 {b : Nat} (h : srtN b = 2) : 48 ≤ b ∧ b ≤ 57 := by
  unfold srtN at h; (repeat' split at h) <;> omega
def BlkI (T : Nat → Nat) (L q p : Nat) : Prop := p ≤ L ∧ q ≤ p ∧ bT T L q = seek (fun z => decide (¬ T z = 32)) (L - p) p
theorem blkI_e {T : Nat → Nat} {L q p : Nat} (h : BlkI T L q p) (hp : L ≤ p) : p = bT T L q := by
  rw [h.2.2, show L - p = 0 by have := h.1; omega]; rfl
theorem blkI_t {T : Nat → Nat} {L q p : Nat} (h : BlkI T L q p) (hp : p < L) (ht : ¬ T p = 32) : p = bT T L q := by
  rw [h.2.2, seek_t hp (decide_eq_true ht)]
theorem blkI_s {T : Nat → Nat} {L q p : Nat} (h : BlkI T L q p) (hp : p < L) (ht : T p = 32) : BlkI T L q (p + 1) :=
  ⟨hp, by have := h.2.1; omega, by rw [h.2.2, seek_f hp (decide_eq_false (fun z => z ht))]⟩
def AdvI (T : Nat → Nat) (L q p : Nat) : Prop := bT T L q ≤ p ∧ p ≤ L ∧ ((sT T L q = 1 ∨ sT T L q = 2) → eT T L q = seek (fun z => decide (¬ srtN (T z) = sT T L q)) (L - p) p) ∧ (¬ (sT T L q = 1 ∨ sT T L q = 2) → p = bT T L q ∨ p = eT T L q)
theorem advI_0 {T : Nat → Nat} {L q : Nat} (h : q ≤ L) : AdvI T L q (bT T L q) :=
  ⟨Nat.le_refl _, (bT_in T h).2, fun z => if_pos z, fun _ => Or.inl rfl⟩
theorem advI_a {T : Nat → Nat} {L q p : Nat} (h : q ≤ L) (i : AdvI T L q p) (hp : L ≤ p) : p = eT T L q := by
  obtain ⟨i1, i2, i3, i4⟩ := i
  by_cases z : sT T L q = 1 ∨ sT T L q = 2
  · rw [i3 z, show L - p = 0 by omega]; rfl
  · rcases i4 z with g | g
    · have h0 : sT T L q = 0 := (sT_0 h).mpr (by omega)
      have : eT T L q = bT T L q := by unfold eT; rw [if_neg z, if_pos h0]
      omega
    · exact g
theorem advI_b {T : Nat → Nat} {L q p : Nat} (i : AdvI T L q p) (hp : p < L) (hs : ¬ srtN (T p) = sT T L q) : p = eT T L q := by
  obtain ⟨i1, i2, i3, i4⟩ := i
  by_cases z : sT T L q = 1 ∨ sT T L q = 2
  · rw [i3 z, seek_t hp (decide_eq_true hs)]
  · rcases i4 z with g | g
    · exfalso
      apply hs
      rw [g]
      have hb : bT T L q < L := by omega
      exact (if_pos hb).symm
    · exact g
theorem advI_c {T : Nat → Nat} {L q p : Nat} (i : AdvI T L q p) (hl : ¬ (sT T L q = 1 ∨ sT T L q = 2)) (hb : ¬ p = bT T L q) : p = eT T L q := by
  rcases i.2.2.2 hl with g | g
  · exact absurd g hb
  · exact g
theorem advI_s {T : Nat → Nat} {L q p : Nat} (h : q ≤ L) (i : AdvI T L q p) (hp : p < L) (hs : srtN (T p) = sT T L q) (hl : (sT T L q = 1 ∨ sT T L q = 2) ∨ p = bT T L q) : AdvI T L q (p + 1) := by
  obtain ⟨i1, i2, i3, i4⟩ := i
  refine ⟨by omega, hp, fun z => ?_, fun z => ?_⟩
  · rw [i3 z, seek_f hp (decide_eq_false (fun y => y hs))]
  · have g : p = bT T L q := by
      rcases hl with y | y
      · exact absurd y z
      · exact y
    have h0 : ¬ sT T L q = 0 := fun y => by have := (sT_0 h).mp y; omega
    have : eT T L q = bT T L q + 1 := by unfold eT; rw [if_neg z, if_neg h0]
    exact Or.inr (by omega)
theorem nmC_lt : ∀ i, i < 13 → ∀ j, j < 6 → nmC i j < 256 := by decide +kernel
theorem kT_iff {T : Nat → Nat} {L p w : Nat} (hw : w < 13) : kT T L p = w ↔ sT T L p = 1 ∧ isWd T (bT T L p) (eT T L p - bT T L p) w := by
  have hs := sT_le T L p
  by_cases q : sT T L p = 1
  · have e : kT T L p = wdN T (bT T L p) (eT T L p - bT T L p) := by unfold kT; rw [if_neg (by omega), if_pos q]
    rw [e, wdN_iff hw (fun i hi => ?_)]
    · exact ⟨fun h => ⟨q, h⟩, fun h => h.2⟩
    · have := srt_1 ((eT_run (T := T) (L := L) (p := p) (k := bT T L p + i) (Or.inl q) (by omega) (by omega)).trans q)
      omega
  · have e : 20 ≤ kT T L p := by unfold kT; rw [if_neg q]; (repeat' split) <;> omega
    exact ⟨fun h => by omega, fun h => absurd h.1 q⟩
theorem wdN_le (T : Nat → Nat) (b n : Nat) : wdN T b n ≤ 23 := by unfold wdN; split <;> omega
theorem kT_le (T : Nat → Nat) (L p : Nat) : kT T L p ≤ 23 := by
  have := wdN_le T (bT T L p) (eT T L p - bT T L p)
  unfold kT; (repeat' split) <;> omega
def wB (T : Nat → Nat) (L p w : Nat) : Nat := if kT T L p = w then 1 else 0
theorem wB_or (T : Nat → Nat) (L p w : Nat) : (wB T L p w = 1 ∧ kT T L p = w) ∨ (wB T L p w = 0 ∧ ¬ kT T L p = w) := by unfold wB; split <;> omega
theorem wB_s {T : Nat → Nat} {L p w : Nat} (hw : w < 13) (h : ¬ sT T L p = 1) : wB T L p w = 0 := if_neg (fun z => h ((kT_iff hw).mp z).1)
theorem wB_n {T : Nat → Nat} {L p w : Nat} (hw : w < 13) (h : ¬ eT T L p - bT T L p = lnC w) : wB T L p w = 0 := if_neg (fun z => h ((kT_iff hw).mp z).2.1)
theorem wB_c {T : Nat → Nat} {L p w k : Nat} (hw : w < 13) (hk : k < lnC w) (h : ¬ T (bT T L p + k) = nmC w k) : wB T L p w = 0 := if_neg (fun z => h (((kT_iff hw).mp z).2.2 k hk))
theorem wB_1 {T : Nat → Nat} {L p w : Nat} (hw : w < 13) (h1 : sT T L p = 1) (h2 : eT T L p - bT T L p = lnC w) (h3 : ∀ j, j < lnC w → T (bT T L p + j) = nmC w j) : wB T L p w = 1 := if_pos ((kT_iff hw).mpr ⟨h1, h2, h3⟩)
def okN (T : Nat → Nat) (L q a b : Nat) : Nat := if sT T L q = 2 ∧ a ≤ nT T L q ∧ nT T L q ≤ b then 1 else 0
theorem okN_or (T : Nat → Nat) (L q a b : Nat) : (okN T L q a b = 1 ∧ sT T L q = 2 ∧ a ≤ nT T L q ∧ nT T L q ≤ b) ∨ (okN T L q a b = 0 ∧ ¬ (sT T L q = 2 ∧ a ≤ nT T L q ∧ nT T L q ≤ b)) := by
  unfold okN; split
  · next h => exact Or.inl ⟨rfl, h⟩
  · next h => exact Or.inr ⟨rfl, h⟩
def kdV (k : Nat) : Int32 := if k ≤ 5 then nI k else -1
abbrev rmX3_byteAt : Room := { frames := 0, cells := 0, slots := 0, locals := 0 }
set_option maxRecDepth 100000 in
set_option maxHeartbeats 4000000 in
theorem M_X3_byteAt (l : Launch) (D : va_G) (cI cJ : ClassId) (tp T R : Nat → Nat) (v : Nat) (hv : v < 120) : CE E0 l D vwCl [(cI, .int), (cJ, .long)] yX3_byteAt wsX3_byteAt rmX3_byteAt [.ref (tp 0), .int (nI v)] [tW cI tp T R] (S := Unit) (some (.int (nI (T v)))) (fun _ => True) (fun _ : Unit => [tW cI tp T R]) 0 0 := by
  refine CE.ofW (cc := cX3_byteAt) (maxL := 2) (ret := (some .int)) (lv := [(0, .ref (tp 0)), (1, .int (nI v))]) (by decide) rfl (Nat.le_of_ble_eq_true rfl) rfl ?_
  intro p e s m args below meth c ls A Q hQ hx hb hml hr hlocks hnm hown hts hK hA hE hW hl
  have hown : s.vm.findClass RX3 = some m.cls := hown
  refine lv_iload_n hx hb dX3_byteAt_0 rfl (lv_at hl 1 rfl) ?_
  refine nn_zlt (tgt := 19) hx hb dX3_byteAt_1 (by decide) (by omega) (fun c1 => ?_) (fun c1 => ?_)
  · exfalso; omega
  · refine lv_iload_n hx hb dX3_byteAt_4 rfl (lv_at hl 1 rfl) ?_
    refine lv_bipush (v := nI 120) hx hb dX3_byteAt_5 (by decide +kernel) ?_
    refine nn_cge (tgt := 19) hx hb dX3_byteAt_7 (by decide) (by omega) (by decide) (fun c7 => ?_) (fun c7 => ?_)
    · exfalso; omega
    · refine lv_aload_n hx hb dX3_byteAt_10 rfl (lv_at hl 0 rfl) ?_
      refine sg_get (ci := 2) (C := RX3) (T := TX3) (N := 6) (v := .ref (tp 1)) hx hb hts (fun _ h => List.mem_cons_of_mem _ (List.mem_append_right _ h)) hown hK hW 0 0 rfl rfl rfl 0 (by decide) (hts _ (List.mem_of_getElem? (i := 1) rfl)) rfl dX3_byteAt_11 ?_
      refine lv_iload_n hx hb dX3_byteAt_14 rfl (lv_at hl 1 rfl) ?_
      refine sg_ild (v := nI (T v)) hx hb hK hW 0 1 0 rfl rfl rfl (by omega) (by decide) rfl dX3_byteAt_15 ?_
      refine lv_goto (tgt := 20) hx hb dX3_byteAt_16 (by decide) ?_
      exact rt_i hQ hx hb hr hlocks hW dX3_byteAt_20 () rfl trivial rfl
abbrev rmX3_sortOf : Room := { frames := 0, cells := 0, slots := 0, locals := 0 }
set_option maxRecDepth 100000 in
set_option maxHeartbeats 4000000 in
theorem M_X3_sortOf (l : Launch) (D : va_G) (cI cJ : ClassId) (v : Nat) (hv : v < 256) : CE E0 l D vwCl [(cI, .int), (cJ, .long)] yX3_sortOf wsX3_sortOf rmX3_sortOf [.int (nI v)] [] (S := Unit) (some (.int (nI (srtN v)))) (fun _ => True) (fun _ : Unit => []) 0 0 := by
  refine CE.ofW (cc := cX3_sortOf) (maxL := 1) (ret := (some .int)) (lv := [(0, .int (nI v))]) (by decide) rfl (Nat.le_of_ble_eq_true rfl) rfl ?_
  intro p e s m args below meth c ls A Q hQ hx hb hml hr hlocks hnm hown hts hK hA hE hW hl
  have hown : s.vm.findClass RX3 = some m.cls := hown
  refine lv_iload_n hx hb dX3_sortOf_0 rfl (lv_at hl 0 rfl) ?_
  refine lv_bipush (v := nI 97) hx hb dX3_sortOf_1 (by decide +kernel) ?_
  refine nn_clt (tgt := 14) hx hb dX3_sortOf_3 (by decide) (by omega) (by decide) (fun c3 => ?_) (fun c3 => ?_)
  · refine lv_iload_n hx hb dX3_sortOf_14 rfl (lv_at hl 0 rfl) ?_
    refine lv_bipush (v := nI 48) hx hb dX3_sortOf_15 (by decide +kernel) ?_
    refine nn_clt (tgt := 28) hx hb dX3_sortOf_17 (by decide) (by omega) (by decide) (fun c17 => ?_) (fun c17 => ?_)
    · refine lv_iload_n hx hb dX3_sortOf_28 rfl (lv_at hl 0 rfl) ?_
      refine lv_bipush (v := nI 59) hx hb dX3_sortOf_29 (by decide +kernel) ?_
      refine nn_cne (tgt := 38) hx hb dX3_sortOf_31 (by decide) (by omega) (by decide) (fun c31 => ?_) (fun c31 => ?_)
      · refine lv_iconst (v := nI 4) hx hb dX3_sortOf_38 (by decide +kernel) ?_
        exact rt_i hQ hx hb hr hlocks hW dX3_sortOf_39 () (by unfold srtN; (repeat' split) <;> first | rfl | (exfalso; omega) | (congr 3; omega)) trivial rfl
      · refine lv_iconst (v := nI 3) hx hb dX3_sortOf_34 (by decide +kernel) ?_
        refine lv_goto (tgt := 39) hx hb dX3_sortOf_35 (by decide) ?_
        exact rt_i hQ hx hb hr hlocks hW dX3_sortOf_39 () (by unfold srtN; (repeat' split) <;> first | rfl | (exfalso; omega) | (congr 3; omega)) trivial rfl
    · refine lv_iload_n hx hb dX3_sortOf_20 rfl (lv_at hl 0 rfl) ?_
      refine lv_bipush (v := nI 57) hx hb dX3_sortOf_21 (by decide +kernel) ?_
      refine nn_cgt (tgt := 28) hx hb dX3_sortOf_23 (by decide) (by omega) (by decide) (fun c23 => ?_) (fun c23 => ?_)
      · refine lv_iload_n hx hb dX3_sortOf_28 rfl (lv_at hl 0 rfl) ?_
        refine lv_bipush (v := nI 59) hx hb dX3_sortOf_29 (by decide +kernel) ?_
        refine nn_cne (tgt := 38) hx hb dX3_sortOf_31 (by decide) (by omega) (by decide) (fun c31_1 => ?_) (fun c31_1 => ?_)
        · refine lv_iconst (v := nI 4) hx hb dX3_sortOf_38 (by decide +kernel) ?_
          exact rt_i hQ hx hb hr hlocks hW dX3_sortOf_39 () (by unfold srtN; (repeat' split) <;> first | rfl | (exfalso; omega) | (congr 3; omega)) trivial rfl
        · refine lv_iconst (v := nI 3) hx hb dX3_sortOf_34 (by decide +kernel) ?_
          refine lv_goto (tgt := 39) hx hb dX3_sortOf_35 (by decide) ?_
          exact rt_i hQ hx hb hr hlocks hW dX3_sortOf_39 () (by unfold srtN; (repeat' split) <;> first | rfl | (exfalso; omega) | (congr 3; omega)) trivial rfl
      · refine lv_iconst (v := nI 2) hx hb dX3_sortOf_26 (by decide +kernel) ?_
        exact rt_i hQ hx hb hr hlocks hW dX3_sortOf_27 () (by unfold srtN; (repeat' split) <;> first | rfl | (exfalso; omega) | (congr 3; omega)) trivial rfl
  · refine lv_iload_n hx hb dX3_sortOf_6 rfl (lv_at hl 0 rfl) ?_
    refine lv_bipush (v := nI 122) hx hb dX3_sortOf_7 (by decide +kernel) ?_
    refine nn_cgt (tgt := 14) hx hb dX3_sortOf_9 (by decide) (by omega) (by decide) (fun c9 => ?_) (fun c9 => ?_)
    · refine lv_iload_n hx hb dX3_sortOf_14 rfl (lv_at hl 0 rfl) ?_
      refine lv_bipush (v := nI 48) hx hb dX3_sortOf_15 (by decide +kernel) ?_
      refine nn_clt (tgt := 28) hx hb dX3_sortOf_17 (by decide) (by omega) (by decide) (fun c17_1 => ?_) (fun c17_1 => ?_)
      · refine lv_iload_n hx hb dX3_sortOf_28 rfl (lv_at hl 0 rfl) ?_
        refine lv_bipush (v := nI 59) hx hb dX3_sortOf_29 (by decide +kernel) ?_
        refine nn_cne (tgt := 38) hx hb dX3_sortOf_31 (by decide) (by omega) (by decide) (fun c31_2 => ?_) (fun c31_2 => ?_)
        · refine lv_iconst (v := nI 4) hx hb dX3_sortOf_38 (by decide +kernel) ?_
          exact rt_i hQ hx hb hr hlocks hW dX3_sortOf_39 () (by unfold srtN; (repeat' split) <;> first | rfl | (exfalso; omega) | (congr 3; omega)) trivial rfl
        · refine lv_iconst (v := nI 3) hx hb dX3_sortOf_34 (by decide +kernel) ?_
          refine lv_goto (tgt := 39) hx hb dX3_sortOf_35 (by decide) ?_
          exact rt_i hQ hx hb hr hlocks hW dX3_sortOf_39 () (by unfold srtN; (repeat' split) <;> first | rfl | (exfalso; omega) | (congr 3; omega)) trivial rfl
      · refine lv_iload_n hx hb dX3_sortOf_20 rfl (lv_at hl 0 rfl) ?_
        refine lv_bipush (v := nI 57) hx hb dX3_sortOf_21 (by decide +kernel) ?_
        refine nn_cgt (tgt := 28) hx hb dX3_sortOf_23 (by decide) (by omega) (by decide) (fun c23_1 => ?_) (fun c23_1 => ?_)
        · refine lv_iload_n hx hb dX3_sortOf_28 rfl (lv_at hl 0 rfl) ?_
          refine lv_bipush (v := nI 59) hx hb dX3_sortOf_29 (by decide +kernel) ?_
          refine nn_cne (tgt := 38) hx hb dX3_sortOf_31 (by decide) (by omega) (by decide) (fun c31_3 => ?_) (fun c31_3 => ?_)
          · refine lv_iconst (v := nI 4) hx hb dX3_sortOf_38 (by decide +kernel) ?_
            exact rt_i hQ hx hb hr hlocks hW dX3_sortOf_39 () (by unfold srtN; (repeat' split) <;> first | rfl | (exfalso; omega) | (congr 3; omega)) trivial rfl
          · refine lv_iconst (v := nI 3) hx hb dX3_sortOf_34 (by decide +kernel) ?_
            refine lv_goto (tgt := 39) hx hb dX3_sortOf_35 (by decide) ?_
            exact rt_i hQ hx hb hr hlocks hW dX3_sortOf_39 () (by unfold srtN; (repeat' split) <;> first | rfl | (exfalso; omega) | (congr 3; omega)) trivial rfl
        · refine lv_iconst (v := nI 2) hx hb dX3_sortOf_26 (by decide +kernel) ?_
          exact rt_i hQ hx hb hr hlocks hW dX3_sortOf_27 () (by unfold srtN; (repeat' split) <;> first | rfl | (exfalso; omega) | (congr 3; omega)) trivial rfl
    · refine lv_iconst (v := nI 1) hx hb dX3_sortOf_12 (by decide +kernel) ?_
      exact rt_i hQ hx hb hr hlocks hW dX3_sortOf_13 () (by unfold srtN; (repeat' split) <;> first | rfl | (exfalso; omega) | (congr 3; omega)) trivial rfl
abbrev rmX3_advance : Room := { frames := 1, cells := 0, slots := 0, locals := 21 }
set_option maxRecDepth 100000 in
set_option maxHeartbeats 4000000 in
theorem M_X3_advance (l : Launch) (D : va_G) (cI cJ : ClassId) (tp T R : Nat → Nat) (hL : R 0 ≤ 120) (hq : R 3 ≤ R 0) (hT : ∀ i, T i < 256) : CE E0 l D vwCl [(cI, .int), (cJ, .long)] yX3_advance wsX3_advance rmX3_advance [.ref (tp 0)] [tW cI tp T R] (S := Unit) none (fun _ => True) (fun _ : Unit => [tW cI tp T (tk R T (R 0) (R 3))]) 0 0 := by
  refine CE.ofW (cc := cX3_advance) (maxL := 3) (ret := none) (lv := [(0, .ref (tp 0))]) (by decide) rfl (Nat.le_of_ble_eq_true rfl) rfl ?_
  intro p e s m args below meth c ls A Q hQ hx hb hml hr hlocks hnm hown hts hK hA hE hW hl
  have hown : s.vm.findClass RX3 = some m.cls := hown
  have hbi := bT_in T hq
  have hsl := sT_le T (R 0) (R 3)
  have hlg := lngN_or (sT T (R 0) (R 3))
  have jn29 : ∀ (H : Heap) (locs : List Loc), Wo D vwCl A s.heap H locs [tW cI tp T (trw R (R 1) (R 2) (R 3) (R 4))] → ∀ ls : Array Slot, lv_has ls 3 [(0, .ref (tp 0)), (1, .int (nI (bT T (R 0) (R 3))))] → W p l e rmX3_advance s m args below meth c H locs 0 0 Q (F0 m 29 ls []) := by
    intro  H locs hW ls hl
    refine lv_aload_n hx hb dX3_advance_29 rfl (lv_at hl 0 rfl) ?_
    refine lv_iload_n hx hb dX3_advance_30 rfl (lv_at hl 1 rfl) ?_
    refine sg_put (ci := 2) (C := RX3) (T := TX3) (N := 6) hx hb hts (fun _ h => List.mem_cons_of_mem _ (List.mem_append_right _ h)) tyX3 tyX3_ok nmX3 hown hK hW 0 0 rfl rfl rfl 3 (by decide) (hts _ (List.mem_of_getElem? (i := 3) rfl)) rfl rfl rfl (Nat.le_of_ble_eq_true rfl) ((tW_s2 cI tp T (trw R (R 1) (R 2) (R 3) (R 4)) (bT T (R 0) (R 3))).trans (congrArg (tW cI tp T) (trw_2 _ _ _ _ _ _))) (ss' := [tW cI tp T (trw R (R 1) (bT T (R 0) (R 3)) (R 3) (R 4))]) rfl dX3_advance_31 (fun H locs hW => ?_)
    have jn55 : ∀ (H : Heap) (locs : List Loc), Wo D vwCl A s.heap H locs [tW cI tp T (trw R (R 1) (bT T (R 0) (R 3)) (R 3) (R 4))] → ∀ ls : Array Slot, lv_has ls 3 [(0, .ref (tp 0)), (1, .int (nI (bT T (R 0) (R 3))))] → W p l e rmX3_advance s m args below meth c H locs 0 0 Q (F0 m 55 ls [.int (nI (sT T (R 0) (R 3))), .ref (tp 0)]) := by
      intro  H locs hW ls hl
      refine sg_put (ci := 2) (C := RX3) (T := TX3) (N := 6) hx hb hts (fun _ h => List.mem_cons_of_mem _ (List.mem_append_right _ h)) tyX3 tyX3_ok nmX3 hown hK hW 0 0 rfl rfl rfl 2 (by decide) (hts _ (List.mem_of_getElem? (i := 4) rfl)) rfl rfl rfl (Nat.le_of_ble_eq_true rfl) ((tW_s1 cI tp T (trw R (R 1) (bT T (R 0) (R 3)) (R 3) (R 4)) (sT T (R 0) (R 3))).trans (congrArg (tW cI tp T) (trw_1 _ _ _ _ _ _))) (ss' := [tW cI tp T (trw R (sT T (R 0) (R 3)) (bT T (R 0) (R 3)) (R 3) (R 4))]) rfl dX3_advance_55 (fun H locs hW => ?_)
      have jn160 : ∀ (v : Nat), v = eT T (R 0) (R 3) → ∀ (H : Heap) (locs : List Loc), Wo D vwCl A s.heap H locs [tW cI tp T (trw R (sT T (R 0) (R 3)) (bT T (R 0) (R 3)) (R 3) (nuT T (R 0) (R 3) v))] → ∀ ls : Array Slot, lv_has ls 3 [(0, .ref (tp 0)), (1, .int (nI v))] → W p l e rmX3_advance s m args below meth c H locs 0 0 Q (F0 m 160 ls []) := by
        intro v hpe H locs hW ls hl
        have hpi := eT_in T hq
        refine lv_aload_n hx hb dX3_advance_160 rfl (lv_at hl 0 rfl) ?_
        refine lv_iload_n hx hb dX3_advance_161 rfl (lv_at hl 1 rfl) ?_
        refine sg_put (ci := 2) (C := RX3) (T := TX3) (N := 6) hx hb hts (fun _ h => List.mem_cons_of_mem _ (List.mem_append_right _ h)) tyX3 tyX3_ok nmX3 hown hK hW 0 0 rfl rfl rfl 4 (by decide) (hts _ (List.mem_of_getElem? (i := 1) rfl)) rfl rfl rfl (Nat.le_of_ble_eq_true rfl) ((tW_s3 cI tp T (trw R (sT T (R 0) (R 3)) (bT T (R 0) (R 3)) (R 3) (nuT T (R 0) (R 3) v)) v).trans (congrArg (tW cI tp T) (trw_3 _ _ _ _ _ _))) (ss' := [tW cI tp T (trw R (sT T (R 0) (R 3)) (bT T (R 0) (R 3)) v (nuT T (R 0) (R 3) v))]) rfl dX3_advance_162 (fun H locs hW => ?_)
        exact rt_v hQ hx hb hr hlocks hW dX3_advance_165 () rfl trivial (by rw [hpe]; rfl)
      refine lv_aload_n hx hb dX3_advance_58 rfl (lv_at hl 0 rfl) ?_
      refine lv_iconst (v := nI 0) hx hb dX3_advance_59 (by decide +kernel) ?_
      refine sg_put (ci := 2) (C := RX3) (T := TX3) (N := 6) hx hb hts (fun _ h => List.mem_cons_of_mem _ (List.mem_append_right _ h)) tyX3 tyX3_ok nmX3 hown hK hW 0 0 rfl rfl rfl 5 (by decide) (hts _ (List.mem_of_getElem? (i := 5) rfl)) rfl (by decide +kernel) (by decide +kernel) (Nat.le_of_ble_eq_true rfl) ((tW_s4 cI tp T (trw R (sT T (R 0) (R 3)) (bT T (R 0) (R 3)) (R 3) (R 4)) 0).trans (congrArg (tW cI tp T) (trw_4 _ _ _ _ _ _))) (ss' := [tW cI tp T (trw R (sT T (R 0) (R 3)) (bT T (R 0) (R 3)) (R 3) 0)]) rfl dX3_advance_60 (fun H locs hW => ?_)
      have jn84 : ∀ (H : Heap) (locs : List Loc), Wo D vwCl A s.heap H locs [tW cI tp T (trw R (sT T (R 0) (R 3)) (bT T (R 0) (R 3)) (R 3) 0)] → ∀ ls : Array Slot, lv_has ls 3 [(0, .ref (tp 0)), (1, .int (nI (bT T (R 0) (R 3))))] → W p l e rmX3_advance s m args below meth c H locs 0 0 Q (F0 m 84 ls [.int (nI (lngN (sT T (R 0) (R 3))))]) := by
        intro  H locs hW ls hl
        refine lv_istore_n (lv' := [(2, .int (nI (lngN (sT T (R 0) (R 3))))), (0, .ref (tp 0)), (1, .int (nI (bT T (R 0) (R 3))))]) hx hb dX3_advance_84 rfl hl (by decide) rfl (fun ls hl => ?_)
        have lp85 : ∀ (n : Nat) (v : Nat), R 0 - v < n → AdvI T (R 0) (R 3) v → ∀ (H : Heap) (locs : List Loc), Wo D vwCl A s.heap H locs [tW cI tp T (trw R (sT T (R 0) (R 3)) (bT T (R 0) (R 3)) (R 3) (nuT T (R 0) (R 3) v))] → ∀ ls : Array Slot, lv_has ls 3 [(2, .int (nI (lngN (sT T (R 0) (R 3))))), (0, .ref (tp 0)), (1, .int (nI v))] → W p l e rmX3_advance s m args below meth c H locs 0 0 Q (F0 m 85 ls []) := by
          intro n
          induction n with
          | zero => intro v hm; exact absurd hm (Nat.not_lt_zero _)
          | succ n ih =>
            intro v hm hai H locs hW ls hl
            have ha1 := hai.1
            have ha2 := hai.2.1
            have hnu := nuT_le T (R 0) (R 3) v
            refine lv_iload_n hx hb dX3_advance_85 rfl (lv_at hl 2 rfl) ?_
            refine lv_aload_n hx hb dX3_advance_86 rfl (lv_at hl 1 rfl) ?_
            refine sg_get (ci := 2) (C := RX3) (T := TX3) (N := 6) (v := .int (nI (R 0))) hx hb hts (fun _ h => List.mem_cons_of_mem _ (List.mem_append_right _ h)) hown hK hW 0 0 rfl rfl rfl 1 (by decide) (hts _ (List.mem_of_getElem? (i := 2) rfl)) (congrArg (fun z => some (Value.int (nI z))) (trw_g0 _ _ _ _ _)) dX3_advance_87 ?_
            refine nn_cge (tgt := 160) hx hb dX3_advance_90 (by decide) (by omega) (by omega) (fun c90 => ?_) (fun c90 => ?_)
            · exact jn160 v (advI_a hq hai (by omega)) _ _ hW _ (lv_sub hl [1, 2] rfl)
            · refine lv_aload_n hx hb dX3_advance_93 rfl (lv_at hl 1 rfl) ?_
              refine lv_iload_n hx hb dX3_advance_94 rfl (lv_at hl 2 rfl) ?_
              refine cl_Vi (As := [.int (nI v)]) (rest := []) (C := RX3) ⟨hx, hb, hml, hown, hts⟩ (M_X3_byteAt l D cI cJ tp T (trw R (sT T (R 0) (R 3)) (bT T (R 0) (R 3)) (R 3) (nuT T (R 0) (R 3) v)) v (by omega)) (cwV 1 hts gX3_advance_X3_byteAt rfl rfl rfl qX3_byteAt ⟨Nat.le_of_ble_eq_true rfl, Nat.le_of_ble_eq_true rfl⟩) E0_good hK hA hW trivial [true] (fun _ => [tW cI tp T (trw R (sT T (R 0) (R 3)) (bT T (R 0) (R 3)) (R 3) (nuT T (R 0) (R 3) v))]) rfl (fun _ => rfl) (fun _ => rfl) 0 0 rfl rfl rfl rfl hl.1 rfl (lv_room (Nat.le_of_ble_eq_true rfl)) dX3_advance_95 ⟨Nat.zero_le _, Nat.zero_le _⟩ (fun _ H locs _ hW => ?_)
              have hbt_ := hT v
              refine cl_Si (As := [.int (nI (T v))]) (rest := []) ⟨hx, hb, hml, hown, hts⟩ (M_X3_sortOf l D cI cJ (T v) (by omega)) (va_cwS 1 hts gX3_advance_X3_sortOf rfl rfl rfl qX3_sortOf ⟨Nat.le_of_ble_eq_true rfl, Nat.le_of_ble_eq_true rfl⟩) E0_good hK hA hW trivial [] (fun _ => [tW cI tp T (trw R (sT T (R 0) (R 3)) (bT T (R 0) (R 3)) (R 3) (nuT T (R 0) (R 3) v))]) rfl (fun _ => rfl) (fun _ => rfl) rfl hl.1 rfl (lv_room (Nat.le_of_ble_eq_true rfl)) dX3_advance_98 ⟨Nat.zero_le _, Nat.zero_le _⟩ (fun _ H locs _ hW => ?_)
              have hsr_ := srtN_in (T v)
              refine lv_aload_n hx hb dX3_advance_101 rfl (lv_at hl 1 rfl) ?_
              refine sg_get (ci := 2) (C := RX3) (T := TX3) (N := 6) (v := .int (nI (sT T (R 0) (R 3)))) hx hb hts (fun _ h => List.mem_cons_of_mem _ (List.mem_append_right _ h)) hown hK hW 0 0 rfl rfl rfl 2 (by decide) (hts _ (List.mem_of_getElem? (i := 4) rfl)) (congrArg (fun z => some (Value.int (nI z))) (trw_g1 _ _ _ _ _)) dX3_advance_102 ?_
              refine nn_cne (tgt := 160) hx hb dX3_advance_105 (by decide) (by omega) (by omega) (fun c105 => ?_) (fun c105 => ?_)
              · exact jn160 v (advI_b hai (by omega) (by omega)) _ _ hW _ (lv_sub hl [1, 2] rfl)
              · refine lv_iload_n hx hb dX3_advance_108 rfl (lv_at hl 0 rfl) ?_
                refine nn_zne (tgt := 120) hx hb dX3_advance_109 (by decide) (by omega) (fun c109 => ?_) (fun c109 => ?_)
                · refine lv_aload_n hx hb dX3_advance_120 rfl (lv_at hl 1 rfl) ?_
                  refine sg_get (ci := 2) (C := RX3) (T := TX3) (N := 6) (v := .int (nI (sT T (R 0) (R 3)))) hx hb hts (fun _ h => List.mem_cons_of_mem _ (List.mem_append_right _ h)) hown hK hW 0 0 rfl rfl rfl 2 (by decide) (hts _ (List.mem_of_getElem? (i := 4) rfl)) (congrArg (fun z => some (Value.int (nI z))) (trw_g1 _ _ _ _ _)) dX3_advance_121 ?_
                  refine lv_iconst (v := nI 2) hx hb dX3_advance_124 (by decide +kernel) ?_
                  refine nn_cne (tgt := 154) hx hb dX3_advance_125 (by decide) (by omega) (by decide) (fun c125 => ?_) (fun c125 => ?_)
                  · refine lv_iinc (v := nI (v + 1)) (lv' := [(1, .int (nI (v + 1))), (2, .int (nI (lngN (sT T (R 0) (R 3))))), (0, .ref (tp 0))]) hx hb dX3_advance_154 hl (k := 2) rfl (nI_add _ 1) (by decide) rfl (fun ls hl => ?_)
                    refine lv_goto (tgt := 85) hx hb dX3_advance_157 (by decide) ?_
                    have hW := hW.to (ss' := [tW cI tp T (trw R (sT T (R 0) (R 3)) (bT T (R 0) (R 3)) (R 3) (nuT T (R 0) (R 3) (v + 1)))]) (by rw [nuT_other (by omega) v (v + 1)])
                    exact ih (v + 1) (by omega) (advI_s hq hai (by omega) (by omega) (by omega)) _ _ hW _ (lv_sub hl [1, 2, 0] rfl)
                  · have hd_ := srt_2 (show srtN (T v) = 2 by omega)
                    refine lv_aload_n hx hb dX3_advance_128 rfl (lv_at hl 1 rfl) ?_
                    refine lv_sipush (v := nI 1000) hx hb dX3_advance_129 (by decide +kernel) ?_
                    refine lv_bipush (v := nI 10) hx hb dX3_advance_132 (by decide +kernel) ?_
                    refine lv_aload_n hx hb dX3_advance_134 rfl (lv_at hl 1 rfl) ?_
                    refine sg_get (ci := 2) (C := RX3) (T := TX3) (N := 6) (v := .int (nI (nuT T (R 0) (R 3) v))) hx hb hts (fun _ h => List.mem_cons_of_mem _ (List.mem_append_right _ h)) hown hK hW 0 0 rfl rfl rfl 5 (by decide) (hts _ (List.mem_of_getElem? (i := 5) rfl)) (congrArg (fun z => some (Value.int (nI z))) (trw_g4 _ _ _ _ _)) dX3_advance_135 ?_
                    refine nn_mul hx hb dX3_advance_138 ?_
                    refine lv_aload_n hx hb dX3_advance_139 rfl (lv_at hl 1 rfl) ?_
                    refine lv_iload_n hx hb dX3_advance_140 rfl (lv_at hl 2 rfl) ?_
                    refine cl_Vi (As := [.int (nI v)]) (rest := [.int (nI (10 * (nuT T (R 0) (R 3) v))), .int (nI 1000), .ref (tp 0)]) (C := RX3) ⟨hx, hb, hml, hown, hts⟩ (M_X3_byteAt l D cI cJ tp T (trw R (sT T (R 0) (R 3)) (bT T (R 0) (R 3)) (R 3) (nuT T (R 0) (R 3) v)) v (by omega)) (cwV 1 hts gX3_advance_X3_byteAt rfl rfl rfl qX3_byteAt ⟨Nat.le_of_ble_eq_true rfl, Nat.le_of_ble_eq_true rfl⟩) E0_good hK hA hW trivial [true] (fun _ => [tW cI tp T (trw R (sT T (R 0) (R 3)) (bT T (R 0) (R 3)) (R 3) (nuT T (R 0) (R 3) v))]) rfl (fun _ => rfl) (fun _ => rfl) 0 0 rfl rfl rfl rfl hl.1 rfl (lv_room (Nat.le_of_ble_eq_true rfl)) dX3_advance_141 ⟨Nat.zero_le _, Nat.zero_le _⟩ (fun _ H locs _ hW => ?_)
                    have hbt_ := hT v
                    refine nn_add hx hb dX3_advance_144 ?_
                    refine lv_bipush (v := nI 48) hx hb dX3_advance_145 (by decide +kernel) ?_
                    refine nn_sub hx hb dX3_advance_147 (by omega) ?_
                    refine va_mmin hx hb (hml.trans hl.1.symm) hown (hts _ (List.mem_of_getElem? (i := 6) rfl)) (hts _ (List.mem_of_getElem? (i := 7) rfl)) (hts _ (List.mem_of_getElem? (i := 8) rfl)) (hts _ (List.mem_of_getElem? (i := 9) rfl)) (Nat.le_of_ble_eq_true rfl) (Nat.le_of_ble_eq_true rfl) (Nat.zero_le _) (Nat.zero_le _) dX3_advance_148 ?_
                    refine W.top (v' := .int (nI (min 1000 (((10 * (nuT T (R 0) (R 3) v)) + (T v)) - 48)))) (nn_min (by decide) (by omega)) ?_
                    refine sg_put (ci := 2) (C := RX3) (T := TX3) (N := 6) hx hb hts (fun _ h => List.mem_cons_of_mem _ (List.mem_append_right _ h)) tyX3 tyX3_ok nmX3 hown hK hW 0 0 rfl rfl rfl 5 (by decide) (hts _ (List.mem_of_getElem? (i := 5) rfl)) rfl rfl rfl (Nat.le_of_ble_eq_true rfl) ((tW_s4 cI tp T (trw R (sT T (R 0) (R 3)) (bT T (R 0) (R 3)) (R 3) (nuT T (R 0) (R 3) v)) (min 1000 (((10 * (nuT T (R 0) (R 3) v)) + (T v)) - 48))).trans (congrArg (tW cI tp T) (trw_4 _ _ _ _ _ _))) (ss' := [tW cI tp T (trw R (sT T (R 0) (R 3)) (bT T (R 0) (R 3)) (R 3) (min 1000 (((10 * (nuT T (R 0) (R 3) v)) + (T v)) - 48)))]) rfl dX3_advance_151 (fun H locs hW => ?_)
                    refine lv_iinc (v := nI (v + 1)) (lv' := [(1, .int (nI (v + 1))), (2, .int (nI (lngN (sT T (R 0) (R 3))))), (0, .ref (tp 0))]) hx hb dX3_advance_154 hl (k := 2) rfl (nI_add _ 1) (by decide) rfl (fun ls hl => ?_)
                    refine lv_goto (tgt := 85) hx hb dX3_advance_157 (by decide) ?_
                    have hW := hW.to (ss' := [tW cI tp T (trw R (sT T (R 0) (R 3)) (bT T (R 0) (R 3)) (R 3) (nuT T (R 0) (R 3) (v + 1)))]) (by rw [nuT_succ (by omega) (by omega)])
                    exact ih (v + 1) (by omega) (advI_s hq hai (by omega) (by omega) (by omega)) _ _ hW _ (lv_sub hl [1, 2, 0] rfl)
                · refine lv_iload_n hx hb dX3_advance_112 rfl (lv_at hl 2 rfl) ?_
                  refine lv_aload_n hx hb dX3_advance_113 rfl (lv_at hl 1 rfl) ?_
                  refine sg_get (ci := 2) (C := RX3) (T := TX3) (N := 6) (v := .int (nI (bT T (R 0) (R 3)))) hx hb hts (fun _ h => List.mem_cons_of_mem _ (List.mem_append_right _ h)) hown hK hW 0 0 rfl rfl rfl 3 (by decide) (hts _ (List.mem_of_getElem? (i := 3) rfl)) (congrArg (fun z => some (Value.int (nI z))) (trw_g2 _ _ _ _ _)) dX3_advance_114 ?_
                  refine nn_cne (tgt := 160) hx hb dX3_advance_117 (by decide) (by omega) (by omega) (fun c117 => ?_) (fun c117 => ?_)
                  · exact jn160 v (advI_c hai (by omega) (by omega)) _ _ hW _ (lv_sub hl [1, 2] rfl)
                  · refine lv_aload_n hx hb dX3_advance_120 rfl (lv_at hl 1 rfl) ?_
                    refine sg_get (ci := 2) (C := RX3) (T := TX3) (N := 6) (v := .int (nI (sT T (R 0) (R 3)))) hx hb hts (fun _ h => List.mem_cons_of_mem _ (List.mem_append_right _ h)) hown hK hW 0 0 rfl rfl rfl 2 (by decide) (hts _ (List.mem_of_getElem? (i := 4) rfl)) (congrArg (fun z => some (Value.int (nI z))) (trw_g1 _ _ _ _ _)) dX3_advance_121 ?_
                    refine lv_iconst (v := nI 2) hx hb dX3_advance_124 (by decide +kernel) ?_
                    refine nn_cne (tgt := 154) hx hb dX3_advance_125 (by decide) (by omega) (by decide) (fun c125_1 => ?_) (fun c125_1 => ?_)
                    · refine lv_iinc (v := nI (v + 1)) (lv' := [(1, .int (nI (v + 1))), (2, .int (nI (lngN (sT T (R 0) (R 3))))), (0, .ref (tp 0))]) hx hb dX3_advance_154 hl (k := 2) rfl (nI_add _ 1) (by decide) rfl (fun ls hl => ?_)
                      refine lv_goto (tgt := 85) hx hb dX3_advance_157 (by decide) ?_
                      have hW := hW.to (ss' := [tW cI tp T (trw R (sT T (R 0) (R 3)) (bT T (R 0) (R 3)) (R 3) (nuT T (R 0) (R 3) (v + 1)))]) (by rw [nuT_other (by omega) v (v + 1)])
                      exact ih (v + 1) (by omega) (advI_s hq hai (by omega) (by omega) (by omega)) _ _ hW _ (lv_sub hl [1, 2, 0] rfl)
                    · have hd_ := srt_2 (show srtN (T v) = 2 by omega)
                      refine lv_aload_n hx hb dX3_advance_128 rfl (lv_at hl 1 rfl) ?_
                      refine lv_sipush (v := nI 1000) hx hb dX3_advance_129 (by decide +kernel) ?_
                      refine lv_bipush (v := nI 10) hx hb dX3_advance_132 (by decide +kernel) ?_
                      refine lv_aload_n hx hb dX3_advance_134 rfl (lv_at hl 1 rfl) ?_
                      refine sg_get (ci := 2) (C := RX3) (T := TX3) (N := 6) (v := .int (nI (nuT T (R 0) (R 3) v))) hx hb hts (fun _ h => List.mem_cons_of_mem _ (List.mem_append_right _ h)) hown hK hW 0 0 rfl rfl rfl 5 (by decide) (hts _ (List.mem_of_getElem? (i := 5) rfl)) (congrArg (fun z => some (Value.int (nI z))) (trw_g4 _ _ _ _ _)) dX3_advance_135 ?_
                      refine nn_mul hx hb dX3_advance_138 ?_
                      refine lv_aload_n hx hb dX3_advance_139 rfl (lv_at hl 1 rfl) ?_
                      refine lv_iload_n hx hb dX3_advance_140 rfl (lv_at hl 2 rfl) ?_
                      refine cl_Vi (As := [.int (nI v)]) (rest := [.int (nI (10 * (nuT T (R 0) (R 3) v))), .int (nI 1000), .ref (tp 0)]) (C := RX3) ⟨hx, hb, hml, hown, hts⟩ (M_X3_byteAt l D cI cJ tp T (trw R (sT T (R 0) (R 3)) (bT T (R 0) (R 3)) (R 3) (nuT T (R 0) (R 3) v)) v (by omega)) (cwV 1 hts gX3_advance_X3_byteAt rfl rfl rfl qX3_byteAt ⟨Nat.le_of_ble_eq_true rfl, Nat.le_of_ble_eq_true rfl⟩) E0_good hK hA hW trivial [true] (fun _ => [tW cI tp T (trw R (sT T (R 0) (R 3)) (bT T (R 0) (R 3)) (R 3) (nuT T (R 0) (R 3) v))]) rfl (fun _ => rfl) (fun _ => rfl) 0 0 rfl rfl rfl rfl hl.1 rfl (lv_room (Nat.le_of_ble_eq_true rfl)) dX3_advance_141 ⟨Nat.zero_le _, Nat.zero_le _⟩ (fun _ H locs _ hW => ?_)
                      have hbt_ := hT v
                      refine nn_add hx hb dX3_advance_144 ?_
                      refine lv_bipush (v := nI 48) hx hb dX3_advance_145 (by decide +kernel) ?_
                      refine nn_sub hx hb dX3_advance_147 (by omega) ?_
                      refine va_mmin hx hb (hml.trans hl.1.symm) hown (hts _ (List.mem_of_getElem? (i := 6) rfl)) (hts _ (List.mem_of_getElem? (i := 7) rfl)) (hts _ (List.mem_of_getElem? (i := 8) rfl)) (hts _ (List.mem_of_getElem? (i := 9) rfl)) (Nat.le_of_ble_eq_true rfl) (Nat.le_of_ble_eq_true rfl) (Nat.zero_le _) (Nat.zero_le _) dX3_advance_148 ?_
                      refine W.top (v' := .int (nI (min 1000 (((10 * (nuT T (R 0) (R 3) v)) + (T v)) - 48)))) (nn_min (by decide) (by omega)) ?_
                      refine sg_put (ci := 2) (C := RX3) (T := TX3) (N := 6) hx hb hts (fun _ h => List.mem_cons_of_mem _ (List.mem_append_right _ h)) tyX3 tyX3_ok nmX3 hown hK hW 0 0 rfl rfl rfl 5 (by decide) (hts _ (List.mem_of_getElem? (i := 5) rfl)) rfl rfl rfl (Nat.le_of_ble_eq_true rfl) ((tW_s4 cI tp T (trw R (sT T (R 0) (R 3)) (bT T (R 0) (R 3)) (R 3) (nuT T (R 0) (R 3) v)) (min 1000 (((10 * (nuT T (R 0) (R 3) v)) + (T v)) - 48))).trans (congrArg (tW cI tp T) (trw_4 _ _ _ _ _ _))) (ss' := [tW cI tp T (trw R (sT T (R 0) (R 3)) (bT T (R 0) (R 3)) (R 3) (min 1000 (((10 * (nuT T (R 0) (R 3) v)) + (T v)) - 48)))]) rfl dX3_advance_151 (fun H locs hW => ?_)
                      refine lv_iinc (v := nI (v + 1)) (lv' := [(1, .int (nI (v + 1))), (2, .int (nI (lngN (sT T (R 0) (R 3))))), (0, .ref (tp 0))]) hx hb dX3_advance_154 hl (k := 2) rfl (nI_add _ 1) (by decide) rfl (fun ls hl => ?_)
                      refine lv_goto (tgt := 85) hx hb dX3_advance_157 (by decide) ?_
                      have hW := hW.to (ss' := [tW cI tp T (trw R (sT T (R 0) (R 3)) (bT T (R 0) (R 3)) (R 3) (nuT T (R 0) (R 3) (v + 1)))]) (by rw [nuT_succ (by omega) (by omega)])
                      exact ih (v + 1) (by omega) (advI_s hq hai (by omega) (by omega) (by omega)) _ _ hW _ (lv_sub hl [1, 2, 0] rfl)
        have hW := hW.to (ss' := [tW cI tp T (trw R (sT T (R 0) (R 3)) (bT T (R 0) (R 3)) (R 3) (nuT T (R 0) (R 3) (bT T (R 0) (R 3))))]) (by rw [nuT_0])
        exact lp85 (R 0 - (bT T (R 0) (R 3)) + 1) (bT T (R 0) (R 3)) (Nat.lt_succ_self _) (advI_0 hq) _ _ hW _ (lv_sub hl [0, 1, 2] rfl)
      refine lv_aload_n hx hb dX3_advance_63 rfl (lv_at hl 0 rfl) ?_
      refine sg_get (ci := 2) (C := RX3) (T := TX3) (N := 6) (v := .int (nI (sT T (R 0) (R 3)))) hx hb hts (fun _ h => List.mem_cons_of_mem _ (List.mem_append_right _ h)) hown hK hW 0 0 rfl rfl rfl 2 (by decide) (hts _ (List.mem_of_getElem? (i := 4) rfl)) (congrArg (fun z => some (Value.int (nI z))) (trw_g1 _ _ _ _ _)) dX3_advance_64 ?_
      refine lv_iconst (v := nI 1) hx hb dX3_advance_67 (by decide +kernel) ?_
      refine nn_ceq (tgt := 79) hx hb dX3_advance_68 (by decide) (by omega) (by decide) (fun c68 => ?_) (fun c68 => ?_)
      · refine lv_iconst (v := nI 1) hx hb dX3_advance_79 (by decide +kernel) ?_
        refine lv_goto (tgt := 84) hx hb dX3_advance_80 (by decide) ?_
        refine W.top (v' := .int (nI (lngN (sT T (R 0) (R 3))))) (by unfold lngN; (repeat' split) <;> first | rfl | (exfalso; omega)) ?_
        exact jn84   _ _ hW _ (lv_sub hl [0, 1] rfl)
      · refine lv_aload_n hx hb dX3_advance_71 rfl (lv_at hl 0 rfl) ?_
        refine sg_get (ci := 2) (C := RX3) (T := TX3) (N := 6) (v := .int (nI (sT T (R 0) (R 3)))) hx hb hts (fun _ h => List.mem_cons_of_mem _ (List.mem_append_right _ h)) hown hK hW 0 0 rfl rfl rfl 2 (by decide) (hts _ (List.mem_of_getElem? (i := 4) rfl)) (congrArg (fun z => some (Value.int (nI z))) (trw_g1 _ _ _ _ _)) dX3_advance_72 ?_
        refine lv_iconst (v := nI 2) hx hb dX3_advance_75 (by decide +kernel) ?_
        refine nn_cne (tgt := 83) hx hb dX3_advance_76 (by decide) (by omega) (by decide) (fun c76 => ?_) (fun c76 => ?_)
        · refine lv_iconst (v := nI 0) hx hb dX3_advance_83 (by decide +kernel) ?_
          refine W.top (v' := .int (nI (lngN (sT T (R 0) (R 3))))) (by unfold lngN; (repeat' split) <;> first | rfl | (exfalso; omega)) ?_
          exact jn84   _ _ hW _ (lv_sub hl [0, 1] rfl)
        · refine lv_iconst (v := nI 1) hx hb dX3_advance_79 (by decide +kernel) ?_
          refine lv_goto (tgt := 84) hx hb dX3_advance_80 (by decide) ?_
          refine W.top (v' := .int (nI (lngN (sT T (R 0) (R 3))))) (by unfold lngN; (repeat' split) <;> first | rfl | (exfalso; omega)) ?_
          exact jn84   _ _ hW _ (lv_sub hl [0, 1] rfl)
    refine lv_aload_n hx hb dX3_advance_34 rfl (lv_at hl 0 rfl) ?_
    refine lv_iload_n hx hb dX3_advance_35 rfl (lv_at hl 1 rfl) ?_
    refine lv_aload_n hx hb dX3_advance_36 rfl (lv_at hl 0 rfl) ?_
    refine sg_get (ci := 2) (C := RX3) (T := TX3) (N := 6) (v := .int (nI (R 0))) hx hb hts (fun _ h => List.mem_cons_of_mem _ (List.mem_append_right _ h)) hown hK hW 0 0 rfl rfl rfl 1 (by decide) (hts _ (List.mem_of_getElem? (i := 2) rfl)) (congrArg (fun z => some (Value.int (nI z))) (trw_g0 _ _ _ _ _)) dX3_advance_37 ?_
    refine nn_cge (tgt := 54) hx hb dX3_advance_40 (by decide) (by omega) (by omega) (fun c40 => ?_) (fun c40 => ?_)
    · refine lv_iconst (v := nI 0) hx hb dX3_advance_54 (by decide +kernel) ?_
      refine W.top (v' := .int (nI (sT T (R 0) (R 3)))) (by unfold sT; rw [if_neg (by omega)]) ?_
      exact jn55   _ _ hW _ (lv_sub hl [0, 1] rfl)
    · refine lv_aload_n hx hb dX3_advance_43 rfl (lv_at hl 0 rfl) ?_
      refine lv_iload_n hx hb dX3_advance_44 rfl (lv_at hl 1 rfl) ?_
      refine cl_Vi (As := [.int (nI (bT T (R 0) (R 3)))]) (rest := [.ref (tp 0)]) (C := RX3) ⟨hx, hb, hml, hown, hts⟩ (M_X3_byteAt l D cI cJ tp T (trw R (R 1) (bT T (R 0) (R 3)) (R 3) (R 4)) (bT T (R 0) (R 3)) (by omega)) (cwV 1 hts gX3_advance_X3_byteAt rfl rfl rfl qX3_byteAt ⟨Nat.le_of_ble_eq_true rfl, Nat.le_of_ble_eq_true rfl⟩) E0_good hK hA hW trivial [true] (fun _ => [tW cI tp T (trw R (R 1) (bT T (R 0) (R 3)) (R 3) (R 4))]) rfl (fun _ => rfl) (fun _ => rfl) 0 0 rfl rfl rfl rfl hl.1 rfl (lv_room (Nat.le_of_ble_eq_true rfl)) dX3_advance_45 ⟨Nat.zero_le _, Nat.zero_le _⟩ (fun _ H locs _ hW => ?_)
      have hbt_ := hT (bT T (R 0) (R 3))
      refine cl_Si (As := [.int (nI (T (bT T (R 0) (R 3))))]) (rest := [.ref (tp 0)]) ⟨hx, hb, hml, hown, hts⟩ (M_X3_sortOf l D cI cJ (T (bT T (R 0) (R 3))) (by omega)) (va_cwS 1 hts gX3_advance_X3_sortOf rfl rfl rfl qX3_sortOf ⟨Nat.le_of_ble_eq_true rfl, Nat.le_of_ble_eq_true rfl⟩) E0_good hK hA hW trivial [] (fun _ => [tW cI tp T (trw R (R 1) (bT T (R 0) (R 3)) (R 3) (R 4))]) rfl (fun _ => rfl) (fun _ => rfl) rfl hl.1 rfl (lv_room (Nat.le_of_ble_eq_true rfl)) dX3_advance_48 ⟨Nat.zero_le _, Nat.zero_le _⟩ (fun _ H locs _ hW => ?_)
      have hsr_ := srtN_in (T (bT T (R 0) (R 3)))
      refine lv_goto (tgt := 55) hx hb dX3_advance_51 (by decide) ?_
      refine W.top (v' := .int (nI (sT T (R 0) (R 3)))) (by unfold sT; rw [if_pos (by omega)]) ?_
      exact jn55   _ _ hW _ (lv_sub hl [0, 1] rfl)
  have hW := hW.to (ss' := [tW cI tp T (trw R (R 1) (R 2) (R 3) (R 4))]) (by rw [trw_self])
  refine lv_aload_n hx hb dX3_advance_0 rfl (lv_at hl 0 rfl) ?_
  refine sg_get (ci := 2) (C := RX3) (T := TX3) (N := 6) (v := .int (nI (R 3))) hx hb hts (fun _ h => List.mem_cons_of_mem _ (List.mem_append_right _ h)) hown hK hW 0 0 rfl rfl rfl 4 (by decide) (hts _ (List.mem_of_getElem? (i := 1) rfl)) (congrArg (fun z => some (Value.int (nI z))) (trw_g3 _ _ _ _ _)) dX3_advance_1 ?_
  refine lv_istore_n (lv' := [(1, .int (nI (R 3))), (0, .ref (tp 0))]) hx hb dX3_advance_4 rfl hl (by decide) rfl (fun ls hl => ?_)
  have lp5 : ∀ (n : Nat) (v : Nat), R 0 - v < n → BlkI T (R 0) (R 3) v → ∀ (H : Heap) (locs : List Loc), Wo D vwCl A s.heap H locs [tW cI tp T (trw R (R 1) (R 2) (R 3) (R 4))] → ∀ ls : Array Slot, lv_has ls 3 [(1, .int (nI v)), (0, .ref (tp 0))] → W p l e rmX3_advance s m args below meth c H locs 0 0 Q (F0 m 5 ls []) := by
    intro n
    induction n with
    | zero => intro v hm; exact absurd hm (Nat.not_lt_zero _)
    | succ n ih =>
      intro v hm hbk H locs hW ls hl
      have hb1 := hbk.1
      refine lv_iload_n hx hb dX3_advance_5 rfl (lv_at hl 0 rfl) ?_
      refine lv_aload_n hx hb dX3_advance_6 rfl (lv_at hl 1 rfl) ?_
      refine sg_get (ci := 2) (C := RX3) (T := TX3) (N := 6) (v := .int (nI (R 0))) hx hb hts (fun _ h => List.mem_cons_of_mem _ (List.mem_append_right _ h)) hown hK hW 0 0 rfl rfl rfl 1 (by decide) (hts _ (List.mem_of_getElem? (i := 2) rfl)) (congrArg (fun z => some (Value.int (nI z))) (trw_g0 _ _ _ _ _)) dX3_advance_7 ?_
      refine nn_cge (tgt := 29) hx hb dX3_advance_10 (by decide) (by omega) (by omega) (fun c10 => ?_) (fun c10 => ?_)
      · have e1 : nI v = nI (bT T (R 0) (R 3)) := (congrArg nI (blkI_e hbk (by omega)))
        rw [e1] at hl
        exact jn29   _ _ hW _ (lv_sub hl [1, 0] rfl)
      · refine lv_aload_n hx hb dX3_advance_13 rfl (lv_at hl 1 rfl) ?_
        refine lv_iload_n hx hb dX3_advance_14 rfl (lv_at hl 0 rfl) ?_
        refine cl_Vi (As := [.int (nI v)]) (rest := []) (C := RX3) ⟨hx, hb, hml, hown, hts⟩ (M_X3_byteAt l D cI cJ tp T (trw R (R 1) (R 2) (R 3) (R 4)) v (by omega)) (cwV 1 hts gX3_advance_X3_byteAt rfl rfl rfl qX3_byteAt ⟨Nat.le_of_ble_eq_true rfl, Nat.le_of_ble_eq_true rfl⟩) E0_good hK hA hW trivial [true] (fun _ => [tW cI tp T (trw R (R 1) (R 2) (R 3) (R 4))]) rfl (fun _ => rfl) (fun _ => rfl) 0 0 rfl rfl rfl rfl hl.1 rfl (lv_room (Nat.le_of_ble_eq_true rfl)) dX3_advance_15 ⟨Nat.zero_le _, Nat.zero_le _⟩ (fun _ H locs _ hW => ?_)
        have hbt_ := hT v
        refine lv_bipush (v := nI 32) hx hb dX3_advance_18 (by decide +kernel) ?_
        refine nn_cne (tgt := 29) hx hb dX3_advance_20 (by decide) (by omega) (by decide) (fun c20 => ?_) (fun c20 => ?_)
        · have e2 : nI v = nI (bT T (R 0) (R 3)) := (congrArg nI (blkI_t hbk (by omega) (by omega)))
          rw [e2] at hl
          exact jn29   _ _ hW _ (lv_sub hl [1, 0] rfl)
        · refine lv_iinc (v := nI (v + 1)) (lv' := [(1, .int (nI (v + 1))), (0, .ref (tp 0))]) hx hb dX3_advance_23 hl (k := 0) rfl (nI_add _ 1) (by decide) rfl (fun ls hl => ?_)
          refine lv_goto (tgt := 5) hx hb dX3_advance_26 (by decide) ?_
          exact ih (v + 1) (by omega) (blkI_s hbk (by omega) (by omega)) _ _ hW _ (lv_sub hl [0, 1] rfl)
  exact lp5 (R 0 - (R 3) + 1) (R 3) (Nat.lt_succ_self _) ⟨hq, Nat.le_refl _, rfl⟩ _ _ hW _ (lv_sub hl [0, 1] rfl)
theorem M_X3_adv (l : Launch) (D : va_G) (cI cJ : ClassId) (tp T R : Nat → Nat) (L p : Nat) (hL0 : R 0 = L) (hL : L ≤ 120) (hp : p ≤ L) (hT : ∀ i, T i < 256) : CE E0 l D vwCl [(cI, .int), (cJ, .long)] yX3_advance wsX3_advance rmX3_advance [.ref (tp 0)] [tW cI tp T (tk R T L p)] (S := Unit) none (fun _ => True) (fun _ : Unit => [tW cI tp T (tk R T L (eT T L p))]) 0 0 := by
  have h := M_X3_advance l D cI cJ tp T (tk R T L p) (by rw [tk_g0, hL0]; exact hL) (by rw [tk_g3, tk_g0, hL0]; exact (eT_in T hp).2) hT
  rw [tk_g0, tk_g3, hL0, tk_tk] at h
  exact h
theorem M_X3_adv0 (l : Launch) (D : va_G) (cI cJ : ClassId) (tp T R : Nat → Nat) (L : Nat) (hL0 : R 0 = L) (hL : L ≤ 120) (hT : ∀ i, T i < 256) : CE E0 l D vwCl [(cI, .int), (cJ, .long)] yX3_advance wsX3_advance rmX3_advance [.ref (tp 0)] [tW cI tp T (up R 3 0)] (S := Unit) none (fun _ => True) (fun _ : Unit => [tW cI tp T (tk R T L 0)]) 0 0 := by
  have e0 : up R 3 0 0 = L := (up_ne (by decide)).trans hL0
  have e3 : up R 3 0 3 = 0 := up_eq _ _ _
  have h := M_X3_advance l D cI cJ tp T (up R 3 0) (by rw [e0]; exact hL) (by rw [e3]; exact Nat.zero_le _) hT
  rw [e0, e3, tk_up3] at h
  exact h
abbrev rmX3_isWord : Room := { frames := 5, cells := 0, slots := 0, locals := 106 }
set_option maxRecDepth 100000 in
set_option maxHeartbeats 4000000 in
theorem M_X3_isWord (l : Launch) (D : va_G) (cI cJ : ClassId) (aK aV : Nat → Nat) (tp T R : Nat → Nat) (L q : Nat) (hL : L ≤ 120) (hq : q ≤ L) (hT : ∀ i, T i < 256) (i : Nat) (hi : i < 13) : CE (ES aK aV) l D vwCl [(cI, .int), (cJ, .long)] yX3_isWord wsX3_isWord rmX3_isWord [.ref (tp 0), .ref (aK i)] [tW cI tp T (tk R T L q)] (S := Unit) (some (.int (nI (wB T L q i)))) (fun _ => True) (fun _ : Unit => [tW cI tp T (tk R T L q)]) 0 0 := by
  refine CE.ofW (cc := cX3_isWord) (maxL := 3) (ret := (some .boolean)) (lv := [(0, .ref (tp 0)), (1, .ref (aK i))]) (by decide) rfl (Nat.le_of_ble_eq_true rfl) rfl ?_
  intro p e s m args below meth c ls A Q hQ hx hb hml hr hlocks hnm hown hts hK hA hE hW hl
  have hown : s.vm.findClass RX3 = some m.cls := hown
  have hln := js_le i hi
  have hbi := bT_in T hq
  have hei := eT_in T hq
  have hsl := sT_le T L q
  refine lv_aload_n hx hb dX3_isWord_0 rfl (lv_at hl 0 rfl) ?_
  refine sg_get (ci := 2) (C := RX3) (T := TX3) (N := 6) (v := .int (nI (sT T L q))) hx hb hts (fun _ h => List.mem_cons_of_mem _ (List.mem_append_right _ h)) hown hK hW 0 0 rfl rfl rfl 2 (by decide) (hts _ (List.mem_of_getElem? (i := 1) rfl)) (congrArg (fun z => some (Value.int (nI z))) (tk_g1 _ _ _ _)) dX3_isWord_1 ?_
  refine lv_iconst (v := nI 1) hx hb dX3_isWord_4 (by decide +kernel) ?_
  refine nn_cne (tgt := 24) hx hb dX3_isWord_5 (by decide) (by omega) (by decide) (fun c5 => ?_) (fun c5 => ?_)
  · refine lv_iconst (v := nI 0) hx hb dX3_isWord_24 (by decide +kernel) ?_
    exact rt_z hQ hx hb hr hlocks hW dX3_isWord_25 (by decide +kernel) () (by rw [wB_s hi (by omega)]) trivial rfl
  · refine lv_aload_n hx hb dX3_isWord_8 rfl (lv_at hl 0 rfl) ?_
    refine sg_get (ci := 2) (C := RX3) (T := TX3) (N := 6) (v := .int (nI (eT T L q))) hx hb hts (fun _ h => List.mem_cons_of_mem _ (List.mem_append_right _ h)) hown hK hW 0 0 rfl rfl rfl 4 (by decide) (hts _ (List.mem_of_getElem? (i := 2) rfl)) (congrArg (fun z => some (Value.int (nI z))) (tk_g3 _ _ _ _)) dX3_isWord_9 ?_
    refine lv_aload_n hx hb dX3_isWord_12 rfl (lv_at hl 0 rfl) ?_
    refine sg_get (ci := 2) (C := RX3) (T := TX3) (N := 6) (v := .int (nI (bT T L q))) hx hb hts (fun _ h => List.mem_cons_of_mem _ (List.mem_append_right _ h)) hown hK hW 0 0 rfl rfl rfl 3 (by decide) (hts _ (List.mem_of_getElem? (i := 3) rfl)) (congrArg (fun z => some (Value.int (nI z))) (tk_g2 _ _ _ _)) dX3_isWord_13 ?_
    refine nn_sub hx hb dX3_isWord_16 (by omega) ?_
    refine lv_aload_n hx hb dX3_isWord_17 rfl (lv_at hl 1 rfl) ?_
    refine cx_Vi (As := []) (rest := [.int (nI ((eT T L q) - (bT T L q)))]) (C := RJ0) ⟨hx, hb, hml, hown, hts⟩ (M_J0_length_8abf5 l D cI cJ aK aV i hi) (cwV 0 hts gX3_isWord_J0_length_8abf5 rfl rfl rfl qJ0_length_8abf5 ⟨Nat.le_of_ble_eq_true rfl, Nat.le_of_ble_eq_true rfl⟩) (ES_good aK aV) hK hA hW hE [] (fun _ => [tW cI tp T (tk R T L q)]) rfl (fun _ => rfl) (fun _ => rfl) (vk_recv hE.2.1 hi hW.2.2) rfl hl.1 rfl (lv_room (Nat.le_of_ble_eq_true rfl)) dX3_isWord_18 ⟨Nat.zero_le _, Nat.zero_le _⟩ (fun _ H locs _ hW => ?_)
    refine nn_ceq (tgt := 26) hx hb dX3_isWord_21 (by decide) (by omega) (by omega) (fun c21 => ?_) (fun c21 => ?_)
    · refine lv_iconst (v := nI 0) hx hb dX3_isWord_26 (by decide +kernel) ?_
      refine lv_istore_n (lv' := [(2, .int (nI 0)), (0, .ref (tp 0)), (1, .ref (aK i))]) hx hb dX3_isWord_27 rfl hl (by decide) rfl (fun ls hl => ?_)
      have lp28 : ∀ (n : Nat) (k : Nat), lnC i - k < n → k ≤ lnC i → (∀ j, j < k → T (bT T L q + j) = nmC i j) → ∀ (H : Heap) (locs : List Loc), Wo D vwCl A s.heap H locs [tW cI tp T (tk R T L q)] → ∀ ls : Array Slot, lv_has ls 3 [(2, .int (nI k)), (0, .ref (tp 0)), (1, .ref (aK i))] → W p l e rmX3_isWord s m args below meth c H locs 0 0 Q (F0 m 28 ls []) := by
        intro n
        induction n with
        | zero => intro k hm; exact absurd hm (Nat.not_lt_zero _)
        | succ n ih =>
          intro k hm hk6 hw H locs hW ls hl
          refine lv_iload_n hx hb dX3_isWord_28 rfl (lv_at hl 0 rfl) ?_
          refine lv_aload_n hx hb dX3_isWord_29 rfl (lv_at hl 2 rfl) ?_
          refine cx_Vi (As := []) (rest := [.int (nI k)]) (C := RJ0) ⟨hx, hb, hml, hown, hts⟩ (M_J0_length_8abf5 l D cI cJ aK aV i hi) (cwV 0 hts gX3_isWord_J0_length_8abf5 rfl rfl rfl qJ0_length_8abf5 ⟨Nat.le_of_ble_eq_true rfl, Nat.le_of_ble_eq_true rfl⟩) (ES_good aK aV) hK hA hW hE [] (fun _ => [tW cI tp T (tk R T L q)]) rfl (fun _ => rfl) (fun _ => rfl) (vk_recv hE.2.1 hi hW.2.2) rfl hl.1 rfl (lv_room (Nat.le_of_ble_eq_true rfl)) dX3_isWord_30 ⟨Nat.zero_le _, Nat.zero_le _⟩ (fun _ H locs _ hW => ?_)
          refine nn_cge (tgt := 62) hx hb dX3_isWord_33 (by decide) (by omega) (by omega) (fun c33 => ?_) (fun c33 => ?_)
          · refine lv_iconst (v := nI 1) hx hb dX3_isWord_62 (by decide +kernel) ?_
            exact rt_z hQ hx hb hr hlocks hW dX3_isWord_63 (by decide +kernel) () (by rw [wB_1 hi (by omega) (by omega) (fun j hj => hw j (by omega))]) trivial rfl
          · refine lv_aload_n hx hb dX3_isWord_36 rfl (lv_at hl 1 rfl) ?_
            refine lv_aload_n hx hb dX3_isWord_37 rfl (lv_at hl 1 rfl) ?_
            refine sg_get (ci := 2) (C := RX3) (T := TX3) (N := 6) (v := .int (nI (bT T L q))) hx hb hts (fun _ h => List.mem_cons_of_mem _ (List.mem_append_right _ h)) hown hK hW 0 0 rfl rfl rfl 3 (by decide) (hts _ (List.mem_of_getElem? (i := 3) rfl)) (congrArg (fun z => some (Value.int (nI z))) (tk_g2 _ _ _ _)) dX3_isWord_38 ?_
            refine lv_iload_n hx hb dX3_isWord_41 rfl (lv_at hl 0 rfl) ?_
            refine nn_add hx hb dX3_isWord_42 ?_
            refine cl_Vi (As := [.int (nI ((bT T L q) + k))]) (rest := []) (C := RX3) ⟨hx, hb, hml, hown, hts⟩ (M_X3_byteAt l D cI cJ tp T (tk R T L q) ((bT T L q) + k) (by omega)) (cwV 1 hts gX3_isWord_X3_byteAt rfl rfl rfl qX3_byteAt ⟨Nat.le_of_ble_eq_true rfl, Nat.le_of_ble_eq_true rfl⟩) E0_good hK hA hW trivial [true] (fun _ => [tW cI tp T (tk R T L q)]) rfl (fun _ => rfl) (fun _ => rfl) 0 0 rfl rfl rfl rfl hl.1 rfl (lv_room (Nat.le_of_ble_eq_true rfl)) dX3_isWord_43 ⟨Nat.zero_le _, Nat.zero_le _⟩ (fun _ H locs _ hW => ?_)
            have hbt_ := hT ((bT T L q) + k)
            refine lv_aload_n hx hb dX3_isWord_46 rfl (lv_at hl 2 rfl) ?_
            refine lv_iload_n hx hb dX3_isWord_47 rfl (lv_at hl 0 rfl) ?_
            refine cx_Vi (As := [.int (nI k)]) (rest := [.int (nI (T ((bT T L q) + k)))]) (C := RJ0) ⟨hx, hb, hml, hown, hts⟩ (M_J0_charAt_5068e l D cI cJ aK aV i hi k (by omega)) (cwV 1 hts gX3_isWord_J0_charAt_5068e rfl rfl rfl qJ0_charAt_5068e ⟨Nat.le_of_ble_eq_true rfl, Nat.le_of_ble_eq_true rfl⟩) (ES_good aK aV) hK hA hW hE [] (fun _ => [tW cI tp T (tk R T L q)]) rfl (fun _ => rfl) (fun _ => rfl) (vk_recv hE.2.1 hi hW.2.2) rfl hl.1 rfl (lv_room (Nat.le_of_ble_eq_true rfl)) dX3_isWord_48 ⟨Nat.zero_le _, Nat.zero_le _⟩ (fun _ H locs _ hW => ?_)
            have hnm_ := nmC_lt i hi k (by omega)
            refine nn_ceq (tgt := 56) hx hb dX3_isWord_51 (by decide) (by omega) (by omega) (fun c51 => ?_) (fun c51 => ?_)
            · refine lv_iinc (v := nI (k + 1)) (lv' := [(2, .int (nI (k + 1))), (0, .ref (tp 0)), (1, .ref (aK i))]) hx hb dX3_isWord_56 hl (k := 0) rfl (nI_add _ 1) (by decide) rfl (fun ls hl => ?_)
              refine lv_goto (tgt := 28) hx hb dX3_isWord_59 (by decide) ?_
              exact ih (k + 1) (by omega) (by omega) (fun j hj => by rcases Nat.lt_succ_iff_lt_or_eq.mp hj with z | z; exact hw j z; rw [z]; omega) _ _ hW _ (lv_sub hl [0, 1, 2] rfl)
            · refine lv_iconst (v := nI 0) hx hb dX3_isWord_54 (by decide +kernel) ?_
              exact rt_z hQ hx hb hr hlocks hW dX3_isWord_55 (by decide +kernel) () (by rw [wB_c hi (k := k) (by omega) (by omega)]) trivial rfl
      exact lp28 (lnC i - 0 + 1) 0 (Nat.lt_succ_self _) (Nat.zero_le _) (fun j hj => absurd hj (Nat.not_lt_zero j)) _ _ hW _ (lv_sub hl [0, 1, 2] rfl)
    · refine lv_iconst (v := nI 0) hx hb dX3_isWord_24 (by decide +kernel) ?_
      exact rt_z hQ hx hb hr hlocks hW dX3_isWord_25 (by decide +kernel) () (by rw [wB_n hi (by omega)]) trivial rfl
abbrev rmX3_takeNumber : Room := { frames := 2, cells := 0, slots := 0, locals := 43 }
set_option maxRecDepth 100000 in
set_option maxHeartbeats 4000000 in
theorem M_X3_takeNumber (l : Launch) (D : va_G) (cI cJ : ClassId) (tp T R : Nat → Nat) (L q : Nat) (hL0 : R 0 = L) (hL : L ≤ 120) (hq : q ≤ L) (hT : ∀ i, T i < 256) (a b : Nat) (ha : a < 1000) (hB : b < 1000) : CE E0 l D vwCl [(cI, .int), (cJ, .long)] yX3_takeNumber wsX3_takeNumber rmX3_takeNumber [.ref (tp 0), .int (nI a), .int (nI b)] [tW cI tp T (tk R T L q)] (S := Unit) (some (.int (nI (okN T L (eT T L q) a b)))) (fun _ => True) (fun _ : Unit => [tW cI tp T (tk R T L (eT T L q))]) 0 0 := by
  refine CE.ofW (cc := cX3_takeNumber) (maxL := 3) (ret := (some .boolean)) (lv := [(0, .ref (tp 0)), (1, .int (nI a)), (2, .int (nI b))]) (by decide) rfl (Nat.le_of_ble_eq_true rfl) rfl ?_
  intro p e s m args below meth c ls A Q hQ hx hb hml hr hlocks hnm hown hts hK hA hE hW hl
  have hown : s.vm.findClass RX3 = some m.cls := hown
  refine lv_aload_n hx hb dX3_takeNumber_0 rfl (lv_at hl 0 rfl) ?_
  refine cl_Vv (As := []) (rest := []) (C := RX3) ⟨hx, hb, hml, hown, hts⟩ (M_X3_adv l D cI cJ tp T R L q hL0 hL (by omega) hT) (cwV 0 hts gX3_takeNumber_X3_advance rfl rfl rfl qX3_advance ⟨Nat.le_of_ble_eq_true rfl, Nat.le_of_ble_eq_true rfl⟩) E0_good hK hA hW trivial [true] (fun _ => [tW cI tp T (tk R T L (eT T L q))]) rfl (fun _ => rfl) (fun _ => rfl) 0 0 rfl rfl rfl rfl hl.1 rfl (lv_room (Nat.le_of_ble_eq_true rfl)) dX3_takeNumber_1 ⟨Nat.zero_le _, Nat.zero_le _⟩ (fun _ H locs _ hW => ?_)
  have hei_ := (eT_in T (L := L) (p := q) (by omega)).2
  have hnl_ := nT_le T L (eT T L q)
  have hsl_ := sT_le T L (eT T L q)
  have hkl_ := kT_le T L (eT T L q)
  refine lv_aload_n hx hb dX3_takeNumber_4 rfl (lv_at hl 0 rfl) ?_
  refine sg_get (ci := 2) (C := RX3) (T := TX3) (N := 6) (v := .int (nI (sT T L (eT T L q)))) hx hb hts (fun _ h => List.mem_cons_of_mem _ (List.mem_append_right _ h)) hown hK hW 0 0 rfl rfl rfl 2 (by decide) (hts _ (List.mem_of_getElem? (i := 1) rfl)) (congrArg (fun z => some (Value.int (nI z))) (tk_g1 _ _ _ _)) dX3_takeNumber_5 ?_
  refine lv_iconst (v := nI 2) hx hb dX3_takeNumber_8 (by decide +kernel) ?_
  refine nn_cne (tgt := 32) hx hb dX3_takeNumber_9 (by decide) (by omega) (by decide) (fun c9 => ?_) (fun c9 => ?_)
  · refine lv_iconst (v := nI 0) hx hb dX3_takeNumber_32 (by decide +kernel) ?_
    exact rt_z hQ hx hb hr hlocks hW dX3_takeNumber_33 (by decide +kernel) () (by unfold okN; (repeat' split) <;> first | rfl | (exfalso; omega)) trivial rfl
  · refine lv_aload_n hx hb dX3_takeNumber_12 rfl (lv_at hl 0 rfl) ?_
    refine sg_get (ci := 2) (C := RX3) (T := TX3) (N := 6) (v := .int (nI (nT T L (eT T L q)))) hx hb hts (fun _ h => List.mem_cons_of_mem _ (List.mem_append_right _ h)) hown hK hW 0 0 rfl rfl rfl 5 (by decide) (hts _ (List.mem_of_getElem? (i := 2) rfl)) (congrArg (fun z => some (Value.int (nI z))) (tk_g4 _ _ _ _)) dX3_takeNumber_13 ?_
    refine lv_iload_n hx hb dX3_takeNumber_16 rfl (lv_at hl 1 rfl) ?_
    refine nn_clt (tgt := 32) hx hb dX3_takeNumber_17 (by decide) (by omega) (by omega) (fun c17 => ?_) (fun c17 => ?_)
    · refine lv_iconst (v := nI 0) hx hb dX3_takeNumber_32 (by decide +kernel) ?_
      exact rt_z hQ hx hb hr hlocks hW dX3_takeNumber_33 (by decide +kernel) () (by unfold okN; (repeat' split) <;> first | rfl | (exfalso; omega)) trivial rfl
    · refine lv_aload_n hx hb dX3_takeNumber_20 rfl (lv_at hl 0 rfl) ?_
      refine sg_get (ci := 2) (C := RX3) (T := TX3) (N := 6) (v := .int (nI (nT T L (eT T L q)))) hx hb hts (fun _ h => List.mem_cons_of_mem _ (List.mem_append_right _ h)) hown hK hW 0 0 rfl rfl rfl 5 (by decide) (hts _ (List.mem_of_getElem? (i := 2) rfl)) (congrArg (fun z => some (Value.int (nI z))) (tk_g4 _ _ _ _)) dX3_takeNumber_21 ?_
      refine lv_iload_n hx hb dX3_takeNumber_24 rfl (lv_at hl 2 rfl) ?_
      refine nn_cgt (tgt := 32) hx hb dX3_takeNumber_25 (by decide) (by omega) (by omega) (fun c25 => ?_) (fun c25 => ?_)
      · refine lv_iconst (v := nI 0) hx hb dX3_takeNumber_32 (by decide +kernel) ?_
        exact rt_z hQ hx hb hr hlocks hW dX3_takeNumber_33 (by decide +kernel) () (by unfold okN; (repeat' split) <;> first | rfl | (exfalso; omega)) trivial rfl
      · refine lv_iconst (v := nI 1) hx hb dX3_takeNumber_28 (by decide +kernel) ?_
        refine lv_goto (tgt := 33) hx hb dX3_takeNumber_29 (by decide) ?_
        exact rt_z hQ hx hb hr hlocks hW dX3_takeNumber_33 (by decide +kernel) () (by unfold okN; (repeat' split) <;> first | rfl | (exfalso; omega)) trivial rfl
abbrev rmX3_kindNamed : Room := { frames := 6, cells := 0, slots := 0, locals := 128 }
set_option maxRecDepth 100000 in
set_option maxHeartbeats 4000000 in
theorem M_X3_kindNamed (l : Launch) (D : va_G) (cI cJ : ClassId) (aK aV : Nat → Nat) (tp T R : Nat → Nat) (L q : Nat) (hL0 : R 0 = L) (hL : L ≤ 120) (hq : q ≤ L) (hT : ∀ i, T i < 256) : CE (ES aK aV) l D vwCl [(cI, .int), (cJ, .long)] yX3_kindNamed wsX3_kindNamed rmX3_kindNamed [.ref (tp 0)] [tW cI tp T (tk R T L q)] (S := Unit) (some (.int (kdV (kT T L q)))) (fun _ => True) (fun _ : Unit => [tW cI tp T (tk R T L q)]) 0 0 := by
  refine CE.ofW (cc := cX3_kindNamed) (maxL := 1) (ret := (some .int)) (lv := [(0, .ref (tp 0))]) (by decide) rfl (Nat.le_of_ble_eq_true rfl) rfl ?_
  intro p e s m args below meth c ls A Q hQ hx hb hml hr hlocks hnm hown hts hK hA hE hW hl
  have hown : s.vm.findClass RX3 = some m.cls := hown
  refine lv_aload_n hx hb dX3_kindNamed_0 rfl (lv_at hl 0 rfl) ?_
  refine va_ldcS (index := 64) (tx := "mother") (q := aK 0) hx hb hown (hE.1 0 (by decide)) dX3_kindNamed_1 ?_
  refine cw_Vi (As := [.ref (aK 0)]) (rest := []) (C := RX3) ⟨hx, hb, hml, hown, hts⟩ (M_X3_isWord l D cI cJ aK aV tp T R L q hL (by omega) hT 0 (by decide)) (cwV 1 hts gX3_kindNamed_X3_isWord rfl rfl rfl qX3_isWord ⟨Nat.le_of_ble_eq_true rfl, Nat.le_of_ble_eq_true rfl⟩) (ES_good aK aV) hK hA hW hE [true] (fun _ => [tW cI tp T (tk R T L q)]) rfl (fun _ => rfl) (fun _ => rfl) 0 0 rfl rfl rfl rfl hl.1 rfl (lv_room (Nat.le_of_ble_eq_true rfl)) dX3_kindNamed_3 ⟨Nat.zero_le _, Nat.zero_le _⟩ (fun _ H locs _ hW => ?_)
  have hw_ := wB_or T L q 0
  refine nn_zeq (tgt := 11) hx hb dX3_kindNamed_6 (by decide) (by omega) (fun c6 => ?_) (fun c6 => ?_)
  · refine lv_aload_n hx hb dX3_kindNamed_11 rfl (lv_at hl 0 rfl) ?_
    refine va_ldcS (index := 68) (tx := "aunt") (q := aK 1) hx hb hown (hE.1 1 (by decide)) dX3_kindNamed_12 ?_
    refine cw_Vi (As := [.ref (aK 1)]) (rest := []) (C := RX3) ⟨hx, hb, hml, hown, hts⟩ (M_X3_isWord l D cI cJ aK aV tp T R L q hL (by omega) hT 1 (by decide)) (cwV 1 hts gX3_kindNamed_X3_isWord rfl rfl rfl qX3_isWord ⟨Nat.le_of_ble_eq_true rfl, Nat.le_of_ble_eq_true rfl⟩) (ES_good aK aV) hK hA hW hE [true] (fun _ => [tW cI tp T (tk R T L q)]) rfl (fun _ => rfl) (fun _ => rfl) 0 0 rfl rfl rfl rfl hl.1 rfl (lv_room (Nat.le_of_ble_eq_true rfl)) dX3_kindNamed_14 ⟨Nat.zero_le _, Nat.zero_le _⟩ (fun _ H locs _ hW => ?_)
    have hw_ := wB_or T L q 1
    refine nn_zeq (tgt := 22) hx hb dX3_kindNamed_17 (by decide) (by omega) (fun c17 => ?_) (fun c17 => ?_)
    · refine lv_aload_n hx hb dX3_kindNamed_22 rfl (lv_at hl 0 rfl) ?_
      refine va_ldcS (index := 70) (tx := "gossip") (q := aK 2) hx hb hown (hE.1 2 (by decide)) dX3_kindNamed_23 ?_
      refine cw_Vi (As := [.ref (aK 2)]) (rest := []) (C := RX3) ⟨hx, hb, hml, hown, hts⟩ (M_X3_isWord l D cI cJ aK aV tp T R L q hL (by omega) hT 2 (by decide)) (cwV 1 hts gX3_kindNamed_X3_isWord rfl rfl rfl qX3_isWord ⟨Nat.le_of_ble_eq_true rfl, Nat.le_of_ble_eq_true rfl⟩) (ES_good aK aV) hK hA hW hE [true] (fun _ => [tW cI tp T (tk R T L q)]) rfl (fun _ => rfl) (fun _ => rfl) 0 0 rfl rfl rfl rfl hl.1 rfl (lv_room (Nat.le_of_ble_eq_true rfl)) dX3_kindNamed_25 ⟨Nat.zero_le _, Nat.zero_le _⟩ (fun _ H locs _ hW => ?_)
      have hw_ := wB_or T L q 2
      refine nn_zeq (tgt := 33) hx hb dX3_kindNamed_28 (by decide) (by omega) (fun c28 => ?_) (fun c28 => ?_)
      · refine lv_aload_n hx hb dX3_kindNamed_33 rfl (lv_at hl 0 rfl) ?_
        refine va_ldcS (index := 72) (tx := "mrs") (q := aK 3) hx hb hown (hE.1 3 (by decide)) dX3_kindNamed_34 ?_
        refine cw_Vi (As := [.ref (aK 3)]) (rest := []) (C := RX3) ⟨hx, hb, hml, hown, hts⟩ (M_X3_isWord l D cI cJ aK aV tp T R L q hL (by omega) hT 3 (by decide)) (cwV 1 hts gX3_kindNamed_X3_isWord rfl rfl rfl qX3_isWord ⟨Nat.le_of_ble_eq_true rfl, Nat.le_of_ble_eq_true rfl⟩) (ES_good aK aV) hK hA hW hE [true] (fun _ => [tW cI tp T (tk R T L q)]) rfl (fun _ => rfl) (fun _ => rfl) 0 0 rfl rfl rfl rfl hl.1 rfl (lv_room (Nat.le_of_ble_eq_true rfl)) dX3_kindNamed_36 ⟨Nat.zero_le _, Nat.zero_le _⟩ (fun _ H locs _ hW => ?_)
        have hw_ := wB_or T L q 3
        refine nn_zeq (tgt := 44) hx hb dX3_kindNamed_39 (by decide) (by omega) (fun c39 => ?_) (fun c39 => ?_)
        · refine lv_aload_n hx hb dX3_kindNamed_44 rfl (lv_at hl 0 rfl) ?_
          refine va_ldcS (index := 74) (tx := "gran") (q := aK 4) hx hb hown (hE.1 4 (by decide)) dX3_kindNamed_45 ?_
          refine cw_Vi (As := [.ref (aK 4)]) (rest := []) (C := RX3) ⟨hx, hb, hml, hown, hts⟩ (M_X3_isWord l D cI cJ aK aV tp T R L q hL (by omega) hT 4 (by decide)) (cwV 1 hts gX3_kindNamed_X3_isWord rfl rfl rfl qX3_isWord ⟨Nat.le_of_ble_eq_true rfl, Nat.le_of_ble_eq_true rfl⟩) (ES_good aK aV) hK hA hW hE [true] (fun _ => [tW cI tp T (tk R T L q)]) rfl (fun _ => rfl) (fun _ => rfl) 0 0 rfl rfl rfl rfl hl.1 rfl (lv_room (Nat.le_of_ble_eq_true rfl)) dX3_kindNamed_47 ⟨Nat.zero_le _, Nat.zero_le _⟩ (fun _ H locs _ hW => ?_)
          have hw_ := wB_or T L q 4
          refine nn_zeq (tgt := 55) hx hb dX3_kindNamed_50 (by decide) (by omega) (fun c50 => ?_) (fun c50 => ?_)
          · refine lv_aload_n hx hb dX3_kindNamed_55 rfl (lv_at hl 0 rfl) ?_
            refine va_ldcS (index := 76) (tx := "bride") (q := aK 5) hx hb hown (hE.1 5 (by decide)) dX3_kindNamed_56 ?_
            refine cw_Vi (As := [.ref (aK 5)]) (rest := []) (C := RX3) ⟨hx, hb, hml, hown, hts⟩ (M_X3_isWord l D cI cJ aK aV tp T R L q hL (by omega) hT 5 (by decide)) (cwV 1 hts gX3_kindNamed_X3_isWord rfl rfl rfl qX3_isWord ⟨Nat.le_of_ble_eq_true rfl, Nat.le_of_ble_eq_true rfl⟩) (ES_good aK aV) hK hA hW hE [true] (fun _ => [tW cI tp T (tk R T L q)]) rfl (fun _ => rfl) (fun _ => rfl) 0 0 rfl rfl rfl rfl hl.1 rfl (lv_room (Nat.le_of_ble_eq_true rfl)) dX3_kindNamed_58 ⟨Nat.zero_le _, Nat.zero_le _⟩ (fun _ H locs _ hW => ?_)
            have hw_ := wB_or T L q 5
            refine nn_zeq (tgt := 68) hx hb dX3_kindNamed_61 (by decide) (by omega) (fun c61 => ?_) (fun c61 => ?_)
            · refine lv_iconst (v := -1) hx hb dX3_kindNamed_68 (by decide +kernel) ?_
              exact rt_i hQ hx hb hr hlocks hW dX3_kindNamed_69 () (by unfold kdV; rw [if_neg (by omega)]) trivial rfl
            · refine lv_iconst (v := nI 5) hx hb dX3_kindNamed_64 (by decide +kernel) ?_
              refine lv_goto (tgt := 69) hx hb dX3_kindNamed_65 (by decide) ?_
              exact rt_i hQ hx hb hr hlocks hW dX3_kindNamed_69 () (by unfold kdV; rw [show kT T L q = 5 by omega]; rfl) trivial rfl
          · refine lv_iconst (v := nI 4) hx hb dX3_kindNamed_53 (by decide +kernel) ?_
            exact rt_i hQ hx hb hr hlocks hW dX3_kindNamed_54 () (by unfold kdV; rw [show kT T L q = 4 by omega]; rfl) trivial rfl
        · refine lv_iconst (v := nI 3) hx hb dX3_kindNamed_42 (by decide +kernel) ?_
          exact rt_i hQ hx hb hr hlocks hW dX3_kindNamed_43 () (by unfold kdV; rw [show kT T L q = 3 by omega]; rfl) trivial rfl
      · refine lv_iconst (v := nI 2) hx hb dX3_kindNamed_31 (by decide +kernel) ?_
        exact rt_i hQ hx hb hr hlocks hW dX3_kindNamed_32 () (by unfold kdV; rw [show kT T L q = 2 by omega]; rfl) trivial rfl
    · refine lv_iconst (v := nI 1) hx hb dX3_kindNamed_20 (by decide +kernel) ?_
      exact rt_i hQ hx hb hr hlocks hW dX3_kindNamed_21 () (by unfold kdV; rw [show kT T L q = 1 by omega]; rfl) trivial rfl
  · refine lv_iconst (v := nI 0) hx hb dX3_kindNamed_9 (by decide +kernel) ?_
    exact rt_i hQ hx hb hr hlocks hW dX3_kindNamed_10 () (by unfold kdV; rw [show kT T L q = 0 by omega]; rfl) trivial rfl
