theorem qX5_isName : yX5_isName.cls = RX5 ∧ yX5_isName.cls ≠ "java/lang/invoke/MethodHandle" ∧ yX5_isName.cls ≠ "java/lang/invoke/VarHandle" ∧ (parseMethodDescriptor yX5_isName.desc).map (fun d => d.parameters.length) = some 2 := by decide +kernel
theorem qX5_isByte : yX5_isByte.cls = RX5 ∧ yX5_isByte.cls ≠ "java/lang/invoke/MethodHandle" ∧ yX5_isByte.cls ≠ "java/lang/invoke/VarHandle" ∧ (parseMethodDescriptor yX5_isByte.desc).map (fun d => d.parameters.length) = some 3 := by decide +kernel
theorem qX5_wordHere : yX5_wordHere.cls = RX5 ∧ yX5_wordHere.cls ≠ "java/lang/invoke/MethodHandle" ∧ yX5_wordHere.cls ≠ "java/lang/invoke/VarHandle" ∧ (parseMethodDescriptor yX5_wordHere.desc).map (fun d => d.parameters.length) = some 0 := by decide +kernel
theorem qX5_reads : yX5_reads.cls = RX5 ∧ yX5_reads.cls ≠ "java/lang/invoke/MethodHandle" ∧ yX5_reads.cls ≠ "java/lang/invoke/VarHandle" ∧ (parseMethodDescriptor yX5_reads.desc).map (fun d => d.parameters.length) = some 0 := by decide +kernel
/-! ===== the reference's row: token 2, begin 3, at 4, value 5, bad 6 ===== -/
def mrw (R : Nat → Nat) (t b a v d : Nat) : Nat → Nat := up (up (up (up (up R 2 t) 3 b) 4 a) 5 v) 6 d
theorem mrw_self (R : Nat → Nat) : mrw R (R 2) (R 3) (R 4) (R 5) (R 6) = R := by
  unfold mrw; rw [up_self R 2, up_self R 3, up_self R 4, up_self R 5, up_self R 6]
theorem mrw_g0 (R : Nat → Nat) (t b a v d : Nat) : mrw R t b a v d 0 = R 0 := rfl
theorem mrw_g1 (R : Nat → Nat) (t b a v d : Nat) : mrw R t b a v d 1 = R 1 := rfl
theorem mrw_g2 (R : Nat → Nat) (t b a v d : Nat) : mrw R t b a v d 2 = t := rfl
theorem mrw_g3 (R : Nat → Nat) (t b a v d : Nat) : mrw R t b a v d 3 = b := rfl
theorem mrw_g4 (R : Nat → Nat) (t b a v d : Nat) : mrw R t b a v d 4 = a := rfl
theorem mrw_g5 (R : Nat → Nat) (t b a v d : Nat) : mrw R t b a v d 5 = v := rfl
theorem mrw_g6 (R : Nat → Nat) (t b a v d : Nat) : mrw R t b a v d 6 = d := rfl
theorem mrw_2 (R : Nat → Nat) (t b a v d x : Nat) : up (mrw R t b a v d) 2 x = mrw R x b a v d := by
  funext j; unfold mrw up; (repeat' split) <;> first | rfl | (exfalso; omega)
theorem mrw_3 (R : Nat → Nat) (t b a v d x : Nat) : up (mrw R t b a v d) 3 x = mrw R t x a v d := by
  funext j; unfold mrw up; (repeat' split) <;> first | rfl | (exfalso; omega)
theorem mrw_4 (R : Nat → Nat) (t b a v d x : Nat) : up (mrw R t b a v d) 4 x = mrw R t b x v d := by
  funext j; unfold mrw up; (repeat' split) <;> first | rfl | (exfalso; omega)
theorem mrw_5 (R : Nat → Nat) (t b a v d x : Nat) : up (mrw R t b a v d) 5 x = mrw R t b a x d := by
  funext j; unfold mrw up; (repeat' split) <;> first | rfl | (exfalso; omega)
theorem mrw_6 (R : Nat → Nat) (t b a v d x : Nat) : up (mrw R t b a v d) 6 x = mrw R t b a v x := by
  funext j; unfold mrw up; (repeat' split) <;> first | rfl | (exfalso; omega)
theorem mrw_mrw (R : Nat → Nat) (t b a v d t' b' a' v' d' : Nat) : mrw (mrw R t b a v d) t' b' a' v' d' = mrw R t' b' a' v' d' := by
  show up (up (up (up (up (mrw R t b a v d) 2 t') 3 b') 4 a') 5 v') 6 d' = _
  rw [mrw_2, mrw_3, mrw_4, mrw_5, mrw_6]
def tkM (R T : Nat → Nat) (L q d : Nat) : Nat → Nat := mrw R (kT T L q) (bT T L q) (eT T L q) (mT T L q) d
theorem tkM_tkM (R T : Nat → Nat) (L p q d d' : Nat) : tkM (tkM R T L p d) T L q d' = tkM R T L q d' := mrw_mrw _ _ _ _ _ _ _ _ _ _ _
theorem tkM_6 (R T : Nat → Nat) (L q d x : Nat) : up (tkM R T L q d) 6 x = tkM R T L q x := mrw_6 _ _ _ _ _ _ _
theorem tkM_g0 (R T : Nat → Nat) (L q d : Nat) : tkM R T L q d 0 = R 0 := rfl
theorem tkM_g1 (R T : Nat → Nat) (L q d : Nat) : tkM R T L q d 1 = R 1 := rfl
theorem tkM_g2 (R T : Nat → Nat) (L q d : Nat) : tkM R T L q d 2 = kT T L q := rfl
theorem tkM_g3 (R T : Nat → Nat) (L q d : Nat) : tkM R T L q d 3 = bT T L q := rfl
theorem tkM_g4 (R T : Nat → Nat) (L q d : Nat) : tkM R T L q d 4 = eT T L q := rfl
theorem tkM_g5 (R T : Nat → Nat) (L q d : Nat) : tkM R T L q d 5 = mT T L q := rfl
theorem tkM_g6 (R T : Nat → Nat) (L q d : Nat) : tkM R T L q d 6 = d := rfl
def ibN (T : Nat → Nat) (L v lo hi : Nat) : Nat := if v < L ∧ lo ≤ T v ∧ T v ≤ hi then 1 else 0
theorem ibN_or (T : Nat → Nat) (L v lo hi : Nat) : (ibN T L v lo hi = 1 ∧ v < L ∧ lo ≤ T v ∧ T v ≤ hi) ∨ (ibN T L v lo hi = 0 ∧ ¬ (v < L ∧ lo ≤ T v ∧ T v ≤ hi)) := by
  unfold ibN; split
  · next h => exact Or.inl ⟨rfl, h⟩
  · next h => exact Or.inr ⟨rfl, h⟩
theorem nmC_lt8 : ∀ i, i < 13 → ∀ j, j < 8 → nmC i j < 256 := by decide +kernel
def nm0 (x y : Nat) : Nat := if y ≤ 7 ∧ (y = 7 ∨ nmC x y = 0) then 1 else 0
def nmP (T : Nat → Nat) (b y x k : Nat) : Nat := if y ≤ 7 ∧ (y = 7 ∨ nmC x y = 0) ∧ ∀ i, i < k → nmC x i = T (b + i) then 1 else 0
def nmB (T : Nat → Nat) (b y x : Nat) : Nat := if isNm T b y x = true then 1 else 0
theorem nm0_le (x y : Nat) : nm0 x y ≤ 1 := by unfold nm0; split <;> omega
theorem nmP_le (T : Nat → Nat) (b y x k : Nat) : nmP T b y x k ≤ 1 := by unfold nmP; split <;> omega
theorem nmB_le (T : Nat → Nat) (b y x : Nat) : nmB T b y x ≤ 1 := by unfold nmB; split <;> omega
theorem nmB_t {T : Nat → Nat} {b y x : Nat} (h : ¬ nmB T b y x = 0) : isNm T b y x = true := by
  unfold nmB at h; split at h
  · next g => exact g
  · exact absurd rfl h
theorem nmB_f {T : Nat → Nat} {b y x : Nat} (h : nmB T b y x = 0) : isNm T b y x = false := by
  unfold nmB at h; split at h
  · exact absurd h (by decide)
  · next g => exact Bool.eq_false_iff.mpr g
theorem nmP_0 (T : Nat → Nat) (b y x : Nat) : nm0 x y = nmP T b y x 0 := by
  unfold nm0 nmP
  by_cases h : y ≤ 7 ∧ (y = 7 ∨ nmC x y = 0)
  · rw [if_pos h, if_pos ⟨h.1, h.2, fun i hi => absurd hi (Nat.not_lt_zero i)⟩]
  · rw [if_neg h, if_neg (fun g => h ⟨g.1, g.2.1⟩)]
theorem nmP_7 {T : Nat → Nat} {b y x k : Nat} (h : ¬ nmP T b y x k = 0) : y ≤ 7 := by
  unfold nmP at h; split at h
  · next g => exact g.1
  · exact absurd rfl h
theorem nmP_s1 {T : Nat → Nat} {b y x k : Nat} (h : ¬ nmP T b y x k = 0) (hc : nmC x k = T (b + k)) : nmP T b y x (k + 1) = 1 := by
  unfold nmP at h ⊢
  split at h
  · next g =>
    refine if_pos ⟨g.1, g.2.1, fun i hi => ?_⟩
    rcases Nat.lt_succ_iff_lt_or_eq.mp hi with z | z
    · exact g.2.2 i z
    · rw [z]; exact hc
  · exact absurd rfl h
theorem nmP_s0 {T : Nat → Nat} {b y x k : Nat} (hc : ¬ nmC x k = T (b + k)) : nmP T b y x (k + 1) = 0 := if_neg (fun g => hc (g.2.2 k (Nat.lt_succ_self k)))
theorem nmP_e (T : Nat → Nat) (b y x : Nat) : nmP T b y x y = nmB T b y x := by
  unfold nmP nmB isNm
  by_cases h : y ≤ 7 ∧ (y = 7 ∨ nmC x y = 0) ∧ ∀ i, i < y → nmC x i = T (b + i)
  · rw [if_pos h, if_pos (decide_eq_true h)]
  · rw [if_neg h, if_neg (fun g => h (of_decide_eq_true g))]
theorem nmB_0 {T : Nat → Nat} {b y x k : Nat} (hk : k ≤ y) (h : nmP T b y x k = 0) : nmB T b y x = 0 := by
  rw [← nmP_e]
  unfold nmP at h ⊢
  split at h
  · exact absurd h (by decide)
  · next g => exact if_neg (fun z => g ⟨z.1, z.2.1, fun i hi => z.2.2 i (by omega)⟩)
theorem blkI_x {T : Nat → Nat} {L q v : Nat} (h : BlkI T L q v) (hx : ¬ (v < L ∧ 32 ≤ T v ∧ T v ≤ 32)) : v = bT T L q := by
  by_cases g : v < L
  · exact blkI_t h g (fun z => hx ⟨g, by omega, by omega⟩)
  · exact blkI_e h (by omega)
theorem sT_let {T : Nat → Nat} {L q : Nat} (hb : bT T L q < L) (h1 : 97 ≤ T (bT T L q)) (h2 : T (bT T L q) ≤ 122) : sT T L q = 1 := by
  unfold sT; rw [if_pos hb]; unfold srtN; rw [if_pos ⟨h1, h2⟩]
theorem sT_dig {T : Nat → Nat} {L q : Nat} (hb : bT T L q < L) (h1 : 48 ≤ T (bT T L q)) (h2 : T (bT T L q) ≤ 57) : sT T L q = 2 := by
  unfold sT; rw [if_pos hb]; unfold srtN; rw [if_neg (by omega), if_pos ⟨h1, h2⟩]
theorem sT_sem {T : Nat → Nat} {L q : Nat} (hb : bT T L q < L) (h : T (bT T L q) = 59) : sT T L q = 3 := by
  unfold sT; rw [if_pos hb]; unfold srtN; rw [if_neg (by omega), if_neg (by omega), if_pos h]
theorem sT_oth {T : Nat → Nat} {L q : Nat} (hb : bT T L q < L) (h1 : ¬ (97 ≤ T (bT T L q) ∧ T (bT T L q) ≤ 122)) (h2 : ¬ (48 ≤ T (bT T L q) ∧ T (bT T L q) ≤ 57)) (h : ¬ T (bT T L q) = 59) : sT T L q = 4 := by
  unfold sT; rw [if_pos hb]; unfold srtN; rw [if_neg h1, if_neg h2, if_neg h]
theorem srt_let {b : Nat} (h1 : 97 ≤ b) (h2 : b ≤ 122) : srtN b = 1 := by unfold srtN; rw [if_pos ⟨h1, h2⟩]
theorem srt_dig {b : Nat} (h1 : 48 ≤ b) (h2 : b ≤ 57) : srtN b = 2 := by unfold srtN; rw [if_neg (by omega), if_pos ⟨h1, h2⟩]
theorem advI_x1 {T : Nat → Nat} {L q v : Nat} (h : q ≤ L) (i : AdvI T L q v) (hs : sT T L q = 1) (hx : ¬ (v < L ∧ 97 ≤ T v ∧ T v ≤ 122)) : v = eT T L q := by
  by_cases g : v < L
  · exact advI_b i g (fun z => hx ⟨g, by have := srt_1 (z.trans hs); omega, by have := srt_1 (z.trans hs); omega⟩)
  · exact advI_a h i (by omega)
theorem advI_x2 {T : Nat → Nat} {L q v : Nat} (h : q ≤ L) (i : AdvI T L q v) (hs : sT T L q = 2) (hx : ¬ (v < L ∧ 48 ≤ T v ∧ T v ≤ 57)) : v = eT T L q := by
  by_cases g : v < L
  · exact advI_b i g (fun z => hx ⟨g, by have := srt_2 (z.trans hs); omega, by have := srt_2 (z.trans hs); omega⟩)
  · exact advI_a h i (by omega)
theorem numM_le {T : Nat → Nat} (hT : ∀ i, T i < 256) (b : Nat) : ∀ k, numM T b k ≤ 10197
  | 0 => Nat.zero_le _
  | k + 1 => by
    have ih := numM_le hT b k
    have h := hT (b + k)
    show (if 999 < numM T b k then numM T b k else 10 * numM T b k + T (b + k) - 48) ≤ 10197
    split <;> omega
theorem numM_big {T : Nat → Nat} {b v : Nat} (hb : b ≤ v) (h : 999 < numM T b (v - b)) : numM T b (v + 1 - b) = numM T b (v - b) := by
  rw [show v + 1 - b = (v - b) + 1 by omega]; exact if_pos h
theorem numM_small {T : Nat → Nat} {b v : Nat} (hb : b ≤ v) (h : ¬ 999 < numM T b (v - b)) : numM T b (v + 1 - b) = 10 * numM T b (v - b) + T v - 48 := by
  rw [show v + 1 - b = (v - b) + 1 by omega]
  show (if 999 < numM T b (v - b) then numM T b (v - b) else 10 * numM T b (v - b) + T (b + (v - b)) - 48) = _
  rw [if_neg h, show b + (v - b) = v by omega]
theorem mT_le {T : Nat → Nat} (hT : ∀ i, T i < 256) (L q : Nat) : mT T L q ≤ 10197 := by
  unfold mT; split
  · exact numM_le hT _ _
  · omega
theorem mT_nT (T : Nat → Nat) (L q : Nat) : (mT T L q = nT T L q ∧ nT T L q ≤ 999) ∨ (999 < nT T L q ∧ 999 < mT T L q) := by
  by_cases h : sT T L q = 2
  · have e1 : nT T L q = numC T (bT T L q) (eT T L q - bT T L q) := if_pos h
    have e2 : mT T L q = numM T (bT T L q) (eT T L q - bT T L q) := if_pos h
    have := numCM (T := T) (b := bT T L q) (eT T L q - bT T L q) (fun i hi => srt_2 ((eT_run (Or.inr h) (by omega) (by omega)).trans h))
    rw [e1, e2]; omega
  · have e1 : nT T L q = 0 := if_neg h
    have e2 : mT T L q = 0 := if_neg h
    rw [e1, e2]; omega
theorem kT_s (T : Nat → Nat) (L q : Nat) : (sT T L q = 0 ↔ kT T L q = 22) ∧ (sT T L q = 2 ↔ kT T L q = 20) ∧ (sT T L q = 3 ↔ kT T L q = 21) := by
  have hs := sT_le T L q
  have hw : wdN T (bT T L q) (eT T L q - bT T L q) < 13 ∨ wdN T (bT T L q) (eT T L q - bT T L q) = 23 := by unfold wdN; split <;> omega
  unfold kT
  (repeat' split) <;> omega
theorem tkM_over {R T : Nat → Nat} {L q : Nat} (d : Nat) (hq : q ≤ L) (h : bT T L q = L) : mrw R 22 (bT T L q) (bT T L q) 0 d = tkM R T L q d := by
  have h0 := (sT_0 (T := T) hq).mpr h
  unfold tkM
  rw [show kT T L q = 22 from if_pos h0, show eT T L q = bT T L q by unfold eT; rw [if_neg (by omega), if_pos h0], show mT T L q = 0 from if_neg (by omega)]
theorem tkM_word {R T : Nat → Nat} {L q : Nat} (d : Nat) (h : sT T L q = 1) : mrw R (wdN T (bT T L q) (eT T L q - bT T L q)) (bT T L q) (eT T L q) 0 d = tkM R T L q d := by
  unfold tkM
  rw [show kT T L q = wdN T (bT T L q) (eT T L q - bT T L q) by unfold kT; rw [if_neg (by omega), if_pos h], show mT T L q = 0 from if_neg (by omega)]
theorem tkM_num {R T : Nat → Nat} {L q : Nat} (d : Nat) (h : sT T L q = 2) : mrw R 20 (bT T L q) (eT T L q) (numM T (bT T L q) (eT T L q - bT T L q)) d = tkM R T L q d := by
  unfold tkM
  rw [show kT T L q = 20 from ((kT_s T L q).2.1).mp h, show mT T L q = numM T (bT T L q) (eT T L q - bT T L q) from if_pos h]
theorem tkM_sem {R T : Nat → Nat} {L q : Nat} (d : Nat) (h : sT T L q = 3) : mrw R 21 (bT T L q) (bT T L q + 1) 0 d = tkM R T L q d := by
  unfold tkM
  rw [show kT T L q = 21 from ((kT_s T L q).2.2).mp h, show eT T L q = bT T L q + 1 by unfold eT; rw [if_neg (by omega), if_neg (by omega)], show mT T L q = 0 from if_neg (by omega)]
theorem tkM_oth {R T : Nat → Nat} {L q : Nat} (d : Nat) (h : sT T L q = 4) : mrw R 23 (bT T L q) (bT T L q + 1) 0 d = tkM R T L q d := by
  unfold tkM
  rw [show kT T L q = 23 by unfold kT; rw [if_neg (by omega), if_neg (by omega), if_neg (by omega), if_neg (by omega)], show eT T L q = bT T L q + 1 by unfold eT; rw [if_neg (by omega), if_neg (by omega)], show mT T L q = 0 from if_neg (by omega)]
abbrev rmX5_isByte : Room := { frames := 1, cells := 0, slots := 0, locals := 23 }
set_option maxRecDepth 100000 in
set_option maxHeartbeats 4000000 in
theorem M_X5_isByte (l : Launch) (D : va_G) (cI cJ : ClassId) (mo R T : Nat → Nat) (L : Nat) (hR1 : R 1 = L) (hL : L ≤ 120) (hT : ∀ i, T i < 256) (v lo hi : Nat) (hv : v ≤ 120) (hlo : lo < 256) (hhi : hi < 256) : CE E0 l D vwCl [(cI, .int), (cJ, .long)] yX5_isByte wsX5_isByte rmX5_isByte [.ref (mo 0), .int (nI v), .int (nI lo), .int (nI hi)] [mH mo R, aI cI (mo 5) 120 T] (S := Unit) (some (.int (nI (ibN T L v lo hi)))) (fun _ => True) (fun _ : Unit => [mH mo R, aI cI (mo 5) 120 T]) 0 0 := by
  refine CE.ofW (cc := cX5_isByte) (maxL := 4) (ret := (some .boolean)) (lv := [(0, .ref (mo 0)), (1, .int (nI v)), (2, .int (nI lo)), (3, .int (nI hi))]) (by decide) rfl (Nat.le_of_ble_eq_true rfl) rfl ?_
  intro p e s m args below meth c ls A Q hQ hx hb hml hr hlocks hnm hown hts hK hA hE hW hl
  have hown : s.vm.findClass RX5 = some m.cls := hown
  refine lv_iload_n hx hb dX5_isByte_0 rfl (lv_at hl 1 rfl) ?_
  refine lv_aload_n hx hb dX5_isByte_1 rfl (lv_at hl 0 rfl) ?_
  refine sg_get (ci := 4) (C := RX5) (T := TX5) (N := 15) (v := .int (nI (R 1))) hx hb hts (fun _ h => List.mem_cons_of_mem _ (List.mem_append_right _ h)) hown hK hW 0 0 rfl rfl rfl 6 (by decide) (hts _ (List.mem_of_getElem? (i := 1) rfl)) rfl dX5_isByte_2 ?_
  refine nn_cge (tgt := 27) hx hb dX5_isByte_5 (by decide) (by omega) (by omega) (fun c5 => ?_) (fun c5 => ?_)
  · refine lv_iconst (v := nI 0) hx hb dX5_isByte_27 (by decide +kernel) ?_
    exact rt_z hQ hx hb hr hlocks hW dX5_isByte_28 (by decide +kernel) () (by unfold ibN; (repeat' split) <;> first | rfl | (exfalso; omega)) trivial rfl
  · have hTv := hT v
    refine lv_aload_n hx hb dX5_isByte_8 rfl (lv_at hl 0 rfl) ?_
    refine sg_get (ci := 4) (C := RX5) (T := TX5) (N := 15) (v := .ref (mo 5)) hx hb hts (fun _ h => List.mem_cons_of_mem _ (List.mem_append_right _ h)) hown hK hW 0 0 rfl rfl rfl 5 (by decide) (hts _ (List.mem_of_getElem? (i := 2) rfl)) rfl dX5_isByte_9 ?_
    refine lv_iload_n hx hb dX5_isByte_12 rfl (lv_at hl 1 rfl) ?_
    refine sg_ild (v := nI (T v)) hx hb hK hW 1 0 0 rfl rfl rfl (by omega) (by decide) rfl dX5_isByte_13 ?_
    refine lv_i2l (v := (nI (T v)).toInt64) hx hb dX5_isByte_14 rfl ?_
    refine lv_iload_n hx hb dX5_isByte_15 rfl (lv_at hl 2 rfl) ?_
    refine lv_iload_n hx hb dX5_isByte_16 rfl (lv_at hl 3 rfl) ?_
    refine cl_Si (As := [.long ((nI (T v)).toInt64), .int (nI lo), .int (nI hi)]) (rest := []) ⟨hx, hb, hml, hown, hts⟩ (M_X5_in2 l D cI cJ ((nI (T v)).toInt64) (nI lo) (nI hi) ((T v : Nat) : Int) ((lo : Nat) : Int) ((hi : Nat) : Int) ((Int32.toInt_toInt64 _).trans (nI_toInt (n := T v) (by omega))) (nI_toInt (n := lo) (by omega)) (nI_toInt (n := hi) (by omega))) (va_cwS 3 hts gX5_isByte_X5_in rfl rfl rfl qX5_in ⟨Nat.le_of_ble_eq_true rfl, Nat.le_of_ble_eq_true rfl⟩) E0_good hK hA hW trivial [] (fun _ => [mH mo R, aI cI (mo 5) 120 T]) rfl (fun _ => rfl) (fun _ => rfl) rfl hl.1 rfl (lv_room (Nat.le_of_ble_eq_true rfl)) dX5_isByte_17 ⟨Nat.zero_le _, Nat.zero_le _⟩ (fun _ H locs _ hW => ?_)
    have hin_ := inZ_or ((T v : Nat) : Int) ((lo : Nat) : Int) ((hi : Nat) : Int)
    refine nn_zeq (tgt := 27) hx hb dX5_isByte_20 (by decide) (by omega) (fun c20 => ?_) (fun c20 => ?_)
    · refine lv_iconst (v := nI 0) hx hb dX5_isByte_27 (by decide +kernel) ?_
      exact rt_z hQ hx hb hr hlocks hW dX5_isByte_28 (by decide +kernel) () (by unfold ibN; (repeat' split) <;> first | rfl | (exfalso; omega)) trivial rfl
    · refine lv_iconst (v := nI 1) hx hb dX5_isByte_23 (by decide +kernel) ?_
      refine lv_goto (tgt := 28) hx hb dX5_isByte_24 (by decide) ?_
      exact rt_z hQ hx hb hr hlocks hW dX5_isByte_28 (by decide +kernel) () (by unfold ibN; (repeat' split) <;> first | rfl | (exfalso; omega)) trivial rfl
abbrev rmX5_isName : Room := { frames := 0, cells := 0, slots := 0, locals := 0 }
set_option maxRecDepth 100000 in
set_option maxHeartbeats 4000000 in
theorem M_X5_isName (l : Launch) (D : va_G) (cI cJ : ClassId) (mo R T : Nat → Nat) (nt bb : Nat) (hR3 : R 3 = bb) (hT : ∀ i, T i < 256) (x y : Nat) (hw : x < 13) (hy : bb + y ≤ 120) : CE (EM nt) l D vwCl [(cI, .int), (cJ, .long)] yX5_isName wsX5_isName rmX5_isName [.ref (mo 0), .int (nI x), .int (nI y)] [mH mo R, aI cI (mo 5) 120 T] (S := Unit) (some (.int (nI (nmB T bb y x)))) (fun _ => True) (fun _ : Unit => [mH mo R, aI cI (mo 5) 120 T]) 0 0 := by
  refine CE.ofW (cc := cX5_isName) (maxL := 5) (ret := (some .boolean)) (lv := [(0, .ref (mo 0)), (1, .int (nI x)), (2, .int (nI y))]) (by decide) rfl (Nat.le_of_ble_eq_true rfl) rfl ?_
  intro p e s m args below meth c ls A Q hQ hx hb hml hr hlocks hnm hown hts hK hA hE hW hl
  have hown : s.vm.findClass RX5 = some m.cls := hown
  have jn30 : ∀ (H : Heap) (locs : List Loc), Wo D vwCl A s.heap H locs [mH mo R, aI cI (mo 5) 120 T] → ∀ ls : Array Slot, lv_has ls 5 [(0, .ref (mo 0)), (1, .int (nI x)), (2, .int (nI y))] → W p l e rmX5_isName s m args below meth c H locs 0 0 Q (F0 m 30 ls [.int (nI (nm0 x y))]) := by
    intro  H locs hW ls hl
    refine lv_istore_n (lv' := [(3, .int (nI (nm0 x y))), (0, .ref (mo 0)), (1, .int (nI x)), (2, .int (nI y))]) hx hb dX5_isName_30 rfl hl (by decide) rfl (fun ls hl => ?_)
    refine lv_iconst (v := nI 0) hx hb dX5_isName_31 (by decide +kernel) ?_
    refine lv_istore (lv' := [(4, .int (nI 0)), (3, .int (nI (nm0 x y))), (0, .ref (mo 0)), (1, .int (nI x)), (2, .int (nI y))]) hx hb dX5_isName_32 hl (by decide) rfl (fun ls hl => ?_)
    have lp34 : ∀ (n : Nat) (k : Nat), y - k < n → k ≤ y → ∀ (H : Heap) (locs : List Loc), Wo D vwCl A s.heap H locs [mH mo R, aI cI (mo 5) 120 T] → ∀ ls : Array Slot, lv_has ls 5 [(4, .int (nI k)), (3, .int (nI (nmP T bb y x k))), (0, .ref (mo 0)), (1, .int (nI x)), (2, .int (nI y))] → W p l e rmX5_isName s m args below meth c H locs 0 0 Q (F0 m 34 ls []) := by
      intro n
      induction n with
      | zero => intro k hm; exact absurd hm (Nat.not_lt_zero _)
      | succ n ih =>
        intro k hm hk H locs hW ls hl
        have hpl := nmP_le T bb y x k
        refine lv_iload hx hb dX5_isName_34 (lv_at hl 0 rfl) ?_
        refine lv_iload_n hx hb dX5_isName_36 rfl (lv_at hl 4 rfl) ?_
        refine nn_cge (tgt := 82) hx hb dX5_isName_37 (by decide) (by omega) (by omega) (fun c37 => ?_) (fun c37 => ?_)
        · refine lv_iload_n hx hb dX5_isName_82 rfl (lv_at hl 1 rfl) ?_
          exact rt_z hQ hx hb hr hlocks hW dX5_isName_83 (bit_narrow (nmP_le _ _ _ _ _)) () (by rw [show k = y by omega, nmP_e]) trivial rfl
        · refine lv_iload_n hx hb dX5_isName_40 rfl (lv_at hl 1 rfl) ?_
          refine nn_zeq (tgt := 82) hx hb dX5_isName_41 (by decide) (by omega) (fun c41 => ?_) (fun c41 => ?_)
          · refine lv_iload_n hx hb dX5_isName_82 rfl (lv_at hl 1 rfl) ?_
            exact rt_z hQ hx hb hr hlocks hW dX5_isName_83 (bit_narrow (nmP_le _ _ _ _ _)) () (by rw [nmB_0 hk c41, c41]) trivial rfl
          · have hy7 := nmP_7 c41
            have hTk := hT (bb + k)
            refine va_gets hx hb hE.1 hW.2.2 hown (hts _ (List.mem_of_getElem? (i := 1) rfl)) (fun _ h => h) dX5_isName_44 ?_
            refine lv_bipush (v := nI 7) hx hb dX5_isName_47 (by decide +kernel) ?_
            refine lv_iload_n hx hb dX5_isName_49 rfl (lv_at hl 3 rfl) ?_
            refine nn_mul hx hb dX5_isName_50 ?_
            refine lv_iload hx hb dX5_isName_51 (lv_at hl 0 rfl) ?_
            refine nn_add hx hb dX5_isName_53 ?_
            refine va_ti hx hb hE.2 hW.2.2 (vp_in_nI (by omega) (by decide)) (v := .int (nI (nmC x k))) (by rw [nI_clamp (by omega)]; show Value.int (nI (nmC ((7 * x + k) / 7) ((7 * x + k) % 7))) = _; rw [show (7 * x + k) / 7 = x by omega, show (7 * x + k) % 7 = k by omega]) dX5_isName_54 ?_
            have hnm_ := nmC_lt8 x hw k (by omega)
            refine lv_aload_n hx hb dX5_isName_55 rfl (lv_at hl 2 rfl) ?_
            refine sg_get (ci := 4) (C := RX5) (T := TX5) (N := 15) (v := .ref (mo 5)) hx hb hts (fun _ h => List.mem_cons_of_mem _ (List.mem_append_right _ h)) hown hK hW 0 0 rfl rfl rfl 5 (by decide) (hts _ (List.mem_of_getElem? (i := 2) rfl)) rfl dX5_isName_56 ?_
            refine lv_aload_n hx hb dX5_isName_59 rfl (lv_at hl 2 rfl) ?_
            refine sg_get (ci := 4) (C := RX5) (T := TX5) (N := 15) (v := .int (nI (R 3))) hx hb hts (fun _ h => List.mem_cons_of_mem _ (List.mem_append_right _ h)) hown hK hW 0 0 rfl rfl rfl 8 (by decide) (hts _ (List.mem_of_getElem? (i := 3) rfl)) rfl dX5_isName_60 ?_
            refine lv_iload hx hb dX5_isName_63 (lv_at hl 0 rfl) ?_
            refine nn_add hx hb dX5_isName_65 ?_
            refine sg_ild (v := nI (T ((R 3) + k))) hx hb hK hW 1 0 0 rfl rfl rfl (by omega) (by decide) rfl dX5_isName_66 ?_
            refine W.top (v' := .int (nI (T (bb + k)))) (by rw [hR3]) ?_
            refine nn_cne (tgt := 74) hx hb dX5_isName_67 (by decide) (by omega) (by omega) (fun c67 => ?_) (fun c67 => ?_)
            · refine lv_iconst (v := nI 0) hx hb dX5_isName_74 (by decide +kernel) ?_
              refine lv_istore_n (lv' := [(3, .int (nI 0)), (4, .int (nI k)), (0, .ref (mo 0)), (1, .int (nI x)), (2, .int (nI y))]) hx hb dX5_isName_75 rfl hl (by decide) rfl (fun ls hl => ?_)
              refine lv_iinc (v := nI (k + 1)) (lv' := [(4, .int (nI (k + 1))), (3, .int (nI 0)), (0, .ref (mo 0)), (1, .int (nI x)), (2, .int (nI y))]) hx hb dX5_isName_76 hl (k := 1) rfl (nI_add _ 1) (by decide) rfl (fun ls hl => ?_)
              refine lv_goto (tgt := 34) hx hb dX5_isName_79 (by decide) ?_
              have e1 : nI 0 = nI (nmP T bb y x (k + 1)) := (congrArg nI (nmP_s0 (by omega)).symm)
              rw [e1] at hl
              exact ih (k + 1) (by omega) (by omega) _ _ hW _ (lv_sub hl [0, 1, 2, 3, 4] rfl)
            · refine lv_iconst (v := nI 1) hx hb dX5_isName_70 (by decide +kernel) ?_
              refine lv_goto (tgt := 75) hx hb dX5_isName_71 (by decide) ?_
              refine lv_istore_n (lv' := [(3, .int (nI 1)), (4, .int (nI k)), (0, .ref (mo 0)), (1, .int (nI x)), (2, .int (nI y))]) hx hb dX5_isName_75 rfl hl (by decide) rfl (fun ls hl => ?_)
              refine lv_iinc (v := nI (k + 1)) (lv' := [(4, .int (nI (k + 1))), (3, .int (nI 1)), (0, .ref (mo 0)), (1, .int (nI x)), (2, .int (nI y))]) hx hb dX5_isName_76 hl (k := 1) rfl (nI_add _ 1) (by decide) rfl (fun ls hl => ?_)
              refine lv_goto (tgt := 34) hx hb dX5_isName_79 (by decide) ?_
              have e2 : nI 1 = nI (nmP T bb y x (k + 1)) := (congrArg nI (nmP_s1 c41 (by omega)).symm)
              rw [e2] at hl
              exact ih (k + 1) (by omega) (by omega) _ _ hW _ (lv_sub hl [0, 1, 2, 3, 4] rfl)
    have e3 : nI (nm0 x y) = nI (nmP T bb y x 0) := (congrArg nI (nmP_0 T bb y x))
    rw [e3] at hl
    exact lp34 (y - 0 + 1) 0 (Nat.lt_succ_self _) (by omega) _ _ hW _ (lv_sub hl [0, 1, 2, 3, 4] rfl)
  refine lv_iload_n hx hb dX5_isName_0 rfl (lv_at hl 2 rfl) ?_
  refine lv_bipush (v := nI 7) hx hb dX5_isName_1 (by decide +kernel) ?_
  refine nn_cgt (tgt := 29) hx hb dX5_isName_3 (by decide) (by omega) (by decide) (fun c3 => ?_) (fun c3 => ?_)
  · refine lv_iconst (v := nI 0) hx hb dX5_isName_29 (by decide +kernel) ?_
    refine W.top (v' := .int (nI (nm0 x y))) (by unfold nm0; (repeat' split) <;> first | rfl | (exfalso; omega)) ?_
    exact jn30   _ _ hW _ (lv_sub hl [0, 1, 2] rfl)
  · refine lv_iload_n hx hb dX5_isName_6 rfl (lv_at hl 2 rfl) ?_
    refine lv_bipush (v := nI 7) hx hb dX5_isName_7 (by decide +kernel) ?_
    refine nn_ceq (tgt := 25) hx hb dX5_isName_9 (by decide) (by omega) (by decide) (fun c9 => ?_) (fun c9 => ?_)
    · refine lv_iconst (v := nI 1) hx hb dX5_isName_25 (by decide +kernel) ?_
      refine lv_goto (tgt := 30) hx hb dX5_isName_26 (by decide) ?_
      refine W.top (v' := .int (nI (nm0 x y))) (by unfold nm0; (repeat' split) <;> first | rfl | (exfalso; omega)) ?_
      exact jn30   _ _ hW _ (lv_sub hl [0, 1, 2] rfl)
    · refine va_gets hx hb hE.1 hW.2.2 hown (hts _ (List.mem_of_getElem? (i := 1) rfl)) (fun _ h => h) dX5_isName_12 ?_
      refine lv_bipush (v := nI 7) hx hb dX5_isName_15 (by decide +kernel) ?_
      refine lv_iload_n hx hb dX5_isName_17 rfl (lv_at hl 1 rfl) ?_
      refine nn_mul hx hb dX5_isName_18 ?_
      refine lv_iload_n hx hb dX5_isName_19 rfl (lv_at hl 2 rfl) ?_
      refine nn_add hx hb dX5_isName_20 ?_
      refine va_ti hx hb hE.2 hW.2.2 (vp_in_nI (by omega) (by decide)) (v := .int (nI (nmC x y))) (by rw [nI_clamp (by omega)]; show Value.int (nI (nmC ((7 * x + y) / 7) ((7 * x + y) % 7))) = _; rw [show (7 * x + y) / 7 = x by omega, show (7 * x + y) % 7 = y by omega]) dX5_isName_21 ?_
      have hnm_ := nmC_lt8 x hw y (by omega)
      refine nn_zne (tgt := 29) hx hb dX5_isName_22 (by decide) (by omega) (fun c22 => ?_) (fun c22 => ?_)
      · refine lv_iconst (v := nI 0) hx hb dX5_isName_29 (by decide +kernel) ?_
        refine W.top (v' := .int (nI (nm0 x y))) (by unfold nm0; (repeat' split) <;> first | rfl | (exfalso; omega)) ?_
        exact jn30   _ _ hW _ (lv_sub hl [0, 1, 2] rfl)
      · refine lv_iconst (v := nI 1) hx hb dX5_isName_25 (by decide +kernel) ?_
        refine lv_goto (tgt := 30) hx hb dX5_isName_26 (by decide) ?_
        refine W.top (v' := .int (nI (nm0 x y))) (by unfold nm0; (repeat' split) <;> first | rfl | (exfalso; omega)) ?_
        exact jn30   _ _ hW _ (lv_sub hl [0, 1, 2] rfl)
abbrev rmX5_wordHere : Room := { frames := 1, cells := 0, slots := 0, locals := 24 }
set_option maxRecDepth 100000 in
set_option maxHeartbeats 4000000 in
theorem M_X5_wordHere (l : Launch) (D : va_G) (cI cJ : ClassId) (mo R T : Nat → Nat) (nt bb ee : Nat) (hR3 : R 3 = bb) (hR4 : R 4 = ee) (hbe : bb ≤ ee) (hee : ee ≤ 120) (hT : ∀ i, T i < 256) : CE (EM nt) l D vwCl [(cI, .int), (cJ, .long)] yX5_wordHere wsX5_wordHere rmX5_wordHere [.ref (mo 0)] [mH mo R, aI cI (mo 5) 120 T] (S := Unit) (some (.int (nI (wdN T bb (ee - bb))))) (fun _ => True) (fun _ : Unit => [mH mo R, aI cI (mo 5) 120 T]) 0 0 := by
  refine CE.ofW (cc := cX5_wordHere) (maxL := 2) (ret := (some .int)) (lv := [(0, .ref (mo 0))]) (by decide) rfl (Nat.le_of_ble_eq_true rfl) rfl ?_
  intro p e s m args below meth c ls A Q hQ hx hb hml hr hlocks hnm hown hts hK hA hE hW hl
  have hown : s.vm.findClass RX5 = some m.cls := hown
  refine lv_iconst (v := nI 0) hx hb dX5_wordHere_0 (by decide +kernel) ?_
  refine lv_istore_n (lv' := [(1, .int (nI 0)), (0, .ref (mo 0))]) hx hb dX5_wordHere_1 rfl hl (by decide) rfl (fun ls hl => ?_)
  have lp2 : ∀ (n : Nat) (x : Nat), 13 - x < n → x ≤ 13 → seek (isNm T bb (ee - bb)) 13 0 = seek (isNm T bb (ee - bb)) (13 - x) x → ∀ (H : Heap) (locs : List Loc), Wo D vwCl A s.heap H locs [mH mo R, aI cI (mo 5) 120 T] → ∀ ls : Array Slot, lv_has ls 2 [(1, .int (nI x)), (0, .ref (mo 0))] → W p l e rmX5_wordHere s m args below meth c H locs 0 0 Q (F0 m 2 ls []) := by
    intro n
    induction n with
    | zero => intro x hm; exact absurd hm (Nat.not_lt_zero _)
    | succ n ih =>
      intro x hm hx13 hsk H locs hW ls hl
      refine lv_iload_n hx hb dX5_wordHere_2 rfl (lv_at hl 0 rfl) ?_
      refine lv_bipush (v := nI 13) hx hb dX5_wordHere_3 (by decide +kernel) ?_
      refine nn_cge (tgt := 31) hx hb dX5_wordHere_5 (by decide) (by omega) (by decide) (fun c5 => ?_) (fun c5 => ?_)
      · refine lv_iload_n hx hb dX5_wordHere_31 rfl (lv_at hl 0 rfl) ?_
        refine lv_bipush (v := nI 13) hx hb dX5_wordHere_32 (by decide +kernel) ?_
        refine nn_cge (tgt := 41) hx hb dX5_wordHere_34 (by decide) (by omega) (by decide) (fun c34 => ?_) (fun c34 => ?_)
        · refine lv_bipush (v := nI 23) hx hb dX5_wordHere_41 (by decide +kernel) ?_
          exact rt_i hQ hx hb hr hlocks hW dX5_wordHere_43 () (by unfold wdN; rw [hsk, show x = 13 by omega]; rfl) trivial rfl
        · exfalso; omega
      · refine lv_aload_n hx hb dX5_wordHere_8 rfl (lv_at hl 1 rfl) ?_
        refine lv_iload_n hx hb dX5_wordHere_9 rfl (lv_at hl 0 rfl) ?_
        refine lv_aload_n hx hb dX5_wordHere_10 rfl (lv_at hl 1 rfl) ?_
        refine sg_get (ci := 4) (C := RX5) (T := TX5) (N := 15) (v := .int (nI (R 4))) hx hb hts (fun _ h => List.mem_cons_of_mem _ (List.mem_append_right _ h)) hown hK hW 0 0 rfl rfl rfl 9 (by decide) (hts _ (List.mem_of_getElem? (i := 1) rfl)) rfl dX5_wordHere_11 ?_
        refine lv_aload_n hx hb dX5_wordHere_14 rfl (lv_at hl 1 rfl) ?_
        refine sg_get (ci := 4) (C := RX5) (T := TX5) (N := 15) (v := .int (nI (R 3))) hx hb hts (fun _ h => List.mem_cons_of_mem _ (List.mem_append_right _ h)) hown hK hW 0 0 rfl rfl rfl 8 (by decide) (hts _ (List.mem_of_getElem? (i := 2) rfl)) rfl dX5_wordHere_15 ?_
        refine nn_sub hx hb dX5_wordHere_18 (by omega) ?_
        refine W.top (v' := .int (nI (ee - bb))) (by rw [hR3, hR4]) ?_
        refine cw_Vi (As := [.int (nI x), .int (nI (ee - bb))]) (rest := []) (C := RX5) ⟨hx, hb, hml, hown, hts⟩ (M_X5_isName l D cI cJ mo R T nt bb hR3 hT x (ee - bb) (by omega) (by omega)) (cwV 2 hts gX5_wordHere_X5_isName rfl rfl rfl qX5_isName ⟨Nat.le_of_ble_eq_true rfl, Nat.le_of_ble_eq_true rfl⟩) (EM_good nt) hK hA hW hE [true, true] (fun _ => [mH mo R, aI cI (mo 5) 120 T]) rfl (fun _ => rfl) (fun _ => rfl) 0 0 rfl rfl rfl rfl hl.1 rfl (lv_room (Nat.le_of_ble_eq_true rfl)) dX5_wordHere_19 ⟨Nat.zero_le _, Nat.zero_le _⟩ (fun _ H locs _ hW => ?_)
        have hnb_ := nmB_le T bb (ee - bb) x
        refine nn_zne (tgt := 31) hx hb dX5_wordHere_22 (by decide) (by omega) (fun c22 => ?_) (fun c22 => ?_)
        · refine lv_iload_n hx hb dX5_wordHere_31 rfl (lv_at hl 0 rfl) ?_
          refine lv_bipush (v := nI 13) hx hb dX5_wordHere_32 (by decide +kernel) ?_
          refine nn_cge (tgt := 41) hx hb dX5_wordHere_34 (by decide) (by omega) (by decide) (fun c34_1 => ?_) (fun c34_1 => ?_)
          · exfalso; omega
          · refine lv_iload_n hx hb dX5_wordHere_37 rfl (lv_at hl 0 rfl) ?_
            refine lv_goto (tgt := 43) hx hb dX5_wordHere_38 (by decide) ?_
            exact rt_i hQ hx hb hr hlocks hW dX5_wordHere_43 () (by unfold wdN; rw [hsk, seek_t (by omega) (nmB_t c22), if_pos (by omega)]) trivial rfl
        · refine lv_iinc (v := nI (x + 1)) (lv' := [(1, .int (nI (x + 1))), (0, .ref (mo 0))]) hx hb dX5_wordHere_25 hl (k := 0) rfl (nI_add _ 1) (by decide) rfl (fun ls hl => ?_)
          refine lv_goto (tgt := 2) hx hb dX5_wordHere_28 (by decide) ?_
          exact ih (x + 1) (by omega) (by omega) (hsk.trans (seek_f (by omega) (nmB_f c22))) _ _ hW _ (lv_sub hl [0, 1] rfl)
  exact lp2 (13 - 0 + 1) 0 (Nat.lt_succ_self _) (by omega) rfl _ _ hW _ (lv_sub hl [0, 1] rfl)
abbrev rmX5_reads : Room := { frames := 2, cells := 0, slots := 0, locals := 46 }
set_option maxRecDepth 100000 in
set_option maxHeartbeats 4000000 in
theorem M_X5_reads (l : Launch) (D : va_G) (cI cJ : ClassId) (mo R T : Nat → Nat) (nt : Nat) (L : Nat) (hR1 : R 1 = L) (hL : L ≤ 120) (q : Nat) (hR4 : R 4 = q) (hq : q ≤ L) (hT : ∀ i, T i < 256) : CE (EM nt) l D vwCl [(cI, .int), (cJ, .long)] yX5_reads wsX5_reads rmX5_reads [.ref (mo 0)] [mH mo R, aI cI (mo 5) 120 T] (S := Unit) none (fun _ => True) (fun _ : Unit => [mH mo (tkM R T L q (R 6)), aI cI (mo 5) 120 T]) 0 0 := by
  refine CE.ofW (cc := cX5_reads) (maxL := 1) (ret := none) (lv := [(0, .ref (mo 0))]) (by decide) rfl (Nat.le_of_ble_eq_true rfl) rfl ?_
  intro p e s m args below meth c ls A Q hQ hx hb hml hr hlocks hnm hown hts hK hA hE hW hl
  have hown : s.vm.findClass RX5 = some m.cls := hown
  have lp0 : ∀ (n : Nat) (v : Nat), L - v < n → BlkI T L q v → ∀ (H : Heap) (locs : List Loc), Wo D vwCl A s.heap H locs [mH mo (mrw R (R 2) (R 3) v (R 5) (R 6)), aI cI (mo 5) 120 T] → ∀ ls : Array Slot, lv_has ls 1 [(0, .ref (mo 0))] → W p l e rmX5_reads s m args below meth c H locs 0 0 Q (F0 m 0 ls []) := by
    intro n
    induction n with
    | zero => intro v hm; exact absurd hm (Nat.not_lt_zero _)
    | succ n ih =>
      intro v hm hbk H locs hW ls hl
      have hb1 := hbk.1
      refine lv_aload_n hx hb dX5_reads_0 rfl (lv_at hl 0 rfl) ?_
      refine lv_aload_n hx hb dX5_reads_1 rfl (lv_at hl 0 rfl) ?_
      refine sg_get (ci := 4) (C := RX5) (T := TX5) (N := 15) (v := .int (nI v)) hx hb hts (fun _ h => List.mem_cons_of_mem _ (List.mem_append_right _ h)) hown hK hW 0 0 rfl rfl rfl 9 (by decide) (hts _ (List.mem_of_getElem? (i := 1) rfl)) (congrArg (fun z => some (Value.int (nI z))) (mrw_g4 _ _ _ _ _ _)) dX5_reads_2 ?_
      refine lv_bipush (v := nI 32) hx hb dX5_reads_5 (by decide +kernel) ?_
      refine lv_bipush (v := nI 32) hx hb dX5_reads_7 (by decide +kernel) ?_
      refine cl_Vi (As := [.int (nI v), .int (nI 32), .int (nI 32)]) (rest := []) (C := RX5) ⟨hx, hb, hml, hown, hts⟩ (M_X5_isByte l D cI cJ mo (mrw R (R 2) (R 3) v (R 5) (R 6)) T L hR1 hL hT v 32 32 (by omega) (by decide) (by decide)) (cwV 3 hts gX5_reads_X5_isByte rfl rfl rfl qX5_isByte ⟨Nat.le_of_ble_eq_true rfl, Nat.le_of_ble_eq_true rfl⟩) E0_good hK hA hW trivial [true, true] (fun _ => [mH mo (mrw R (R 2) (R 3) v (R 5) (R 6)), aI cI (mo 5) 120 T]) rfl (fun _ => rfl) (fun _ => rfl) 0 0 rfl rfl rfl rfl hl.1 rfl (lv_room (Nat.le_of_ble_eq_true rfl)) dX5_reads_9 ⟨Nat.zero_le _, Nat.zero_le _⟩ (fun _ H locs _ hW => ?_)
      have hib_ := ibN_or T L v 32 32
      have hTb_ := hT v
      refine nn_zeq (tgt := 28) hx hb dX5_reads_12 (by decide) (by omega) (fun c12 => ?_) (fun c12 => ?_)
      · have hvb : v = bT T L q := blkI_x hbk (by omega)
        have hW := hW.to (ss' := [mH mo (mrw R (R 2) (R 3) (bT T L q) (R 5) (R 6)), aI cI (mo 5) 120 T]) (by rw [hvb])
        have hbl := bT_in T hq
        refine lv_aload_n hx hb dX5_reads_28 rfl (lv_at hl 0 rfl) ?_
        refine lv_aload_n hx hb dX5_reads_29 rfl (lv_at hl 0 rfl) ?_
        refine sg_get (ci := 4) (C := RX5) (T := TX5) (N := 15) (v := .int (nI (bT T L q))) hx hb hts (fun _ h => List.mem_cons_of_mem _ (List.mem_append_right _ h)) hown hK hW 0 0 rfl rfl rfl 9 (by decide) (hts _ (List.mem_of_getElem? (i := 1) rfl)) (congrArg (fun z => some (Value.int (nI z))) (mrw_g4 _ _ _ _ _ _)) dX5_reads_30 ?_
        refine sg_put (ci := 4) (C := RX5) (T := TX5) (N := 15) hx hb hts (fun _ h => List.mem_cons_of_mem _ (List.mem_append_right _ h)) tyX5 tyX5_ok nmX5 hown hK hW 0 0 rfl rfl rfl 8 (by decide) (hts _ (List.mem_of_getElem? (i := 2) rfl)) rfl rfl rfl (Nat.le_of_ble_eq_true rfl) ((mH_s3 mo (mrw R (R 2) (R 3) (bT T L q) (R 5) (R 6)) (bT T L q)).trans (congrArg (mH mo) (mrw_3 _ _ _ _ _ _ _))) (ss' := [mH mo (mrw R (R 2) (bT T L q) (bT T L q) (R 5) (R 6)), aI cI (mo 5) 120 T]) rfl dX5_reads_33 (fun H locs hW => ?_)
        refine lv_aload_n hx hb dX5_reads_36 rfl (lv_at hl 0 rfl) ?_
        refine lv_iconst (v := nI 0) hx hb dX5_reads_37 (by decide +kernel) ?_
        refine sg_put (ci := 4) (C := RX5) (T := TX5) (N := 15) hx hb hts (fun _ h => List.mem_cons_of_mem _ (List.mem_append_right _ h)) tyX5 tyX5_ok nmX5 hown hK hW 0 0 rfl rfl rfl 10 (by decide) (hts _ (List.mem_of_getElem? (i := 3) rfl)) rfl (by decide +kernel) (by decide +kernel) (Nat.le_of_ble_eq_true rfl) ((mH_s5 mo (mrw R (R 2) (bT T L q) (bT T L q) (R 5) (R 6)) 0).trans (congrArg (mH mo) (mrw_5 _ _ _ _ _ _ _))) (ss' := [mH mo (mrw R (R 2) (bT T L q) (bT T L q) 0 (R 6)), aI cI (mo 5) 120 T]) rfl dX5_reads_38 (fun H locs hW => ?_)
        refine lv_aload_n hx hb dX5_reads_41 rfl (lv_at hl 0 rfl) ?_
        refine sg_get (ci := 4) (C := RX5) (T := TX5) (N := 15) (v := .int (nI (bT T L q))) hx hb hts (fun _ h => List.mem_cons_of_mem _ (List.mem_append_right _ h)) hown hK hW 0 0 rfl rfl rfl 9 (by decide) (hts _ (List.mem_of_getElem? (i := 1) rfl)) (congrArg (fun z => some (Value.int (nI z))) (mrw_g4 _ _ _ _ _ _)) dX5_reads_42 ?_
        refine lv_aload_n hx hb dX5_reads_45 rfl (lv_at hl 0 rfl) ?_
        refine sg_get (ci := 4) (C := RX5) (T := TX5) (N := 15) (v := .int (nI (R 1))) hx hb hts (fun _ h => List.mem_cons_of_mem _ (List.mem_append_right _ h)) hown hK hW 0 0 rfl rfl rfl 6 (by decide) (hts _ (List.mem_of_getElem? (i := 4) rfl)) (congrArg (fun z => some (Value.int (nI z))) (mrw_g1 _ _ _ _ _ _)) dX5_reads_46 ?_
        refine nn_cne (tgt := 61) hx hb dX5_reads_49 (by decide) (by omega) (by omega) (fun c49 => ?_) (fun c49 => ?_)
        · refine lv_aload_n hx hb dX5_reads_61 rfl (lv_at hl 0 rfl) ?_
          refine lv_aload_n hx hb dX5_reads_62 rfl (lv_at hl 0 rfl) ?_
          refine sg_get (ci := 4) (C := RX5) (T := TX5) (N := 15) (v := .int (nI (bT T L q))) hx hb hts (fun _ h => List.mem_cons_of_mem _ (List.mem_append_right _ h)) hown hK hW 0 0 rfl rfl rfl 9 (by decide) (hts _ (List.mem_of_getElem? (i := 1) rfl)) (congrArg (fun z => some (Value.int (nI z))) (mrw_g4 _ _ _ _ _ _)) dX5_reads_63 ?_
          refine lv_bipush (v := nI 97) hx hb dX5_reads_66 (by decide +kernel) ?_
          refine lv_bipush (v := nI 122) hx hb dX5_reads_68 (by decide +kernel) ?_
          refine cl_Vi (As := [.int (nI (bT T L q)), .int (nI 97), .int (nI 122)]) (rest := []) (C := RX5) ⟨hx, hb, hml, hown, hts⟩ (M_X5_isByte l D cI cJ mo (mrw R (R 2) (bT T L q) (bT T L q) 0 (R 6)) T L hR1 hL hT (bT T L q) 97 122 (by omega) (by decide) (by decide)) (cwV 3 hts gX5_reads_X5_isByte rfl rfl rfl qX5_isByte ⟨Nat.le_of_ble_eq_true rfl, Nat.le_of_ble_eq_true rfl⟩) E0_good hK hA hW trivial [true, true] (fun _ => [mH mo (mrw R (R 2) (bT T L q) (bT T L q) 0 (R 6)), aI cI (mo 5) 120 T]) rfl (fun _ => rfl) (fun _ => rfl) 0 0 rfl rfl rfl rfl hl.1 rfl (lv_room (Nat.le_of_ble_eq_true rfl)) dX5_reads_70 ⟨Nat.zero_le _, Nat.zero_le _⟩ (fun _ H locs _ hW => ?_)
          have hib_ := ibN_or T L (bT T L q) 97 122
          have hTb_ := hT (bT T L q)
          refine nn_zeq (tgt := 115) hx hb dX5_reads_73 (by decide) (by omega) (fun c73 => ?_) (fun c73 => ?_)
          · refine lv_aload_n hx hb dX5_reads_115 rfl (lv_at hl 0 rfl) ?_
            refine lv_aload_n hx hb dX5_reads_116 rfl (lv_at hl 0 rfl) ?_
            refine sg_get (ci := 4) (C := RX5) (T := TX5) (N := 15) (v := .int (nI (bT T L q))) hx hb hts (fun _ h => List.mem_cons_of_mem _ (List.mem_append_right _ h)) hown hK hW 0 0 rfl rfl rfl 9 (by decide) (hts _ (List.mem_of_getElem? (i := 1) rfl)) (congrArg (fun z => some (Value.int (nI z))) (mrw_g4 _ _ _ _ _ _)) dX5_reads_117 ?_
            refine lv_bipush (v := nI 48) hx hb dX5_reads_120 (by decide +kernel) ?_
            refine lv_bipush (v := nI 57) hx hb dX5_reads_122 (by decide +kernel) ?_
            refine cl_Vi (As := [.int (nI (bT T L q)), .int (nI 48), .int (nI 57)]) (rest := []) (C := RX5) ⟨hx, hb, hml, hown, hts⟩ (M_X5_isByte l D cI cJ mo (mrw R (R 2) (bT T L q) (bT T L q) 0 (R 6)) T L hR1 hL hT (bT T L q) 48 57 (by omega) (by decide) (by decide)) (cwV 3 hts gX5_reads_X5_isByte rfl rfl rfl qX5_isByte ⟨Nat.le_of_ble_eq_true rfl, Nat.le_of_ble_eq_true rfl⟩) E0_good hK hA hW trivial [true, true] (fun _ => [mH mo (mrw R (R 2) (bT T L q) (bT T L q) 0 (R 6)), aI cI (mo 5) 120 T]) rfl (fun _ => rfl) (fun _ => rfl) 0 0 rfl rfl rfl rfl hl.1 rfl (lv_room (Nat.le_of_ble_eq_true rfl)) dX5_reads_124 ⟨Nat.zero_le _, Nat.zero_le _⟩ (fun _ H locs _ hW => ?_)
            have hib_ := ibN_or T L (bT T L q) 48 57
            have hTb_ := hT (bT T L q)
            refine nn_zeq (tgt := 208) hx hb dX5_reads_127 (by decide) (by omega) (fun c127 => ?_) (fun c127 => ?_)
            · refine lv_aload_n hx hb dX5_reads_208 rfl (lv_at hl 0 rfl) ?_
              refine lv_aload_n hx hb dX5_reads_209 rfl (lv_at hl 0 rfl) ?_
              refine lv_aload_n hx hb dX5_reads_210 rfl (lv_at hl 0 rfl) ?_
              refine sg_get (ci := 4) (C := RX5) (T := TX5) (N := 15) (v := .int (nI (bT T L q))) hx hb hts (fun _ h => List.mem_cons_of_mem _ (List.mem_append_right _ h)) hown hK hW 0 0 rfl rfl rfl 9 (by decide) (hts _ (List.mem_of_getElem? (i := 1) rfl)) (congrArg (fun z => some (Value.int (nI z))) (mrw_g4 _ _ _ _ _ _)) dX5_reads_211 ?_
              refine lv_bipush (v := nI 59) hx hb dX5_reads_214 (by decide +kernel) ?_
              refine lv_bipush (v := nI 59) hx hb dX5_reads_216 (by decide +kernel) ?_
              refine cl_Vi (As := [.int (nI (bT T L q)), .int (nI 59), .int (nI 59)]) (rest := [.ref (mo 0)]) (C := RX5) ⟨hx, hb, hml, hown, hts⟩ (M_X5_isByte l D cI cJ mo (mrw R (R 2) (bT T L q) (bT T L q) 0 (R 6)) T L hR1 hL hT (bT T L q) 59 59 (by omega) (by decide) (by decide)) (cwV 3 hts gX5_reads_X5_isByte rfl rfl rfl qX5_isByte ⟨Nat.le_of_ble_eq_true rfl, Nat.le_of_ble_eq_true rfl⟩) E0_good hK hA hW trivial [true, true] (fun _ => [mH mo (mrw R (R 2) (bT T L q) (bT T L q) 0 (R 6)), aI cI (mo 5) 120 T]) rfl (fun _ => rfl) (fun _ => rfl) 0 0 rfl rfl rfl rfl hl.1 rfl (lv_room (Nat.le_of_ble_eq_true rfl)) dX5_reads_218 ⟨Nat.zero_le _, Nat.zero_le _⟩ (fun _ H locs _ hW => ?_)
              have hib_ := ibN_or T L (bT T L q) 59 59
              have hTb_ := hT (bT T L q)
              refine nn_zeq (tgt := 229) hx hb dX5_reads_221 (by decide) (by omega) (fun c221 => ?_) (fun c221 => ?_)
              · refine lv_bipush (v := nI 23) hx hb dX5_reads_229 (by decide +kernel) ?_
                refine sg_put (ci := 4) (C := RX5) (T := TX5) (N := 15) hx hb hts (fun _ h => List.mem_cons_of_mem _ (List.mem_append_right _ h)) tyX5 tyX5_ok nmX5 hown hK hW 0 0 rfl rfl rfl 7 (by decide) (hts _ (List.mem_of_getElem? (i := 5) rfl)) rfl (by decide +kernel) (by decide +kernel) (Nat.le_of_ble_eq_true rfl) ((mH_s2 mo (mrw R (R 2) (bT T L q) (bT T L q) 0 (R 6)) 23).trans (congrArg (mH mo) (mrw_2 _ _ _ _ _ _ _))) (ss' := [mH mo (mrw R 23 (bT T L q) (bT T L q) 0 (R 6)), aI cI (mo 5) 120 T]) rfl dX5_reads_231 (fun H locs hW => ?_)
                refine lv_aload_n hx hb dX5_reads_234 rfl (lv_at hl 0 rfl) ?_
                refine lv_dup hx hb dX5_reads_235 rfl ?_
                refine sg_get (ci := 4) (C := RX5) (T := TX5) (N := 15) (v := .int (nI (bT T L q))) hx hb hts (fun _ h => List.mem_cons_of_mem _ (List.mem_append_right _ h)) hown hK hW 0 0 rfl rfl rfl 9 (by decide) (hts _ (List.mem_of_getElem? (i := 1) rfl)) (congrArg (fun z => some (Value.int (nI z))) (mrw_g4 _ _ _ _ _ _)) dX5_reads_236 ?_
                refine lv_iconst (v := nI 1) hx hb dX5_reads_239 (by decide +kernel) ?_
                refine nn_add hx hb dX5_reads_240 ?_
                refine sg_put (ci := 4) (C := RX5) (T := TX5) (N := 15) hx hb hts (fun _ h => List.mem_cons_of_mem _ (List.mem_append_right _ h)) tyX5 tyX5_ok nmX5 hown hK hW 0 0 rfl rfl rfl 9 (by decide) (hts _ (List.mem_of_getElem? (i := 1) rfl)) rfl rfl rfl (Nat.le_of_ble_eq_true rfl) ((mH_s4 mo (mrw R 23 (bT T L q) (bT T L q) 0 (R 6)) ((bT T L q) + 1)).trans (congrArg (mH mo) (mrw_4 _ _ _ _ _ _ _))) (ss' := [mH mo (mrw R 23 (bT T L q) ((bT T L q) + 1) 0 (R 6)), aI cI (mo 5) 120 T]) rfl dX5_reads_241 (fun H locs hW => ?_)
                exact rt_v hQ hx hb hr hlocks hW dX5_reads_244 () rfl trivial (by rw [tkM_oth _ (sT_oth (by omega) (by omega) (by omega) (by omega))])
              · refine lv_bipush (v := nI 21) hx hb dX5_reads_224 (by decide +kernel) ?_
                refine lv_goto (tgt := 231) hx hb dX5_reads_226 (by decide) ?_
                refine sg_put (ci := 4) (C := RX5) (T := TX5) (N := 15) hx hb hts (fun _ h => List.mem_cons_of_mem _ (List.mem_append_right _ h)) tyX5 tyX5_ok nmX5 hown hK hW 0 0 rfl rfl rfl 7 (by decide) (hts _ (List.mem_of_getElem? (i := 5) rfl)) rfl (by decide +kernel) (by decide +kernel) (Nat.le_of_ble_eq_true rfl) ((mH_s2 mo (mrw R (R 2) (bT T L q) (bT T L q) 0 (R 6)) 21).trans (congrArg (mH mo) (mrw_2 _ _ _ _ _ _ _))) (ss' := [mH mo (mrw R 21 (bT T L q) (bT T L q) 0 (R 6)), aI cI (mo 5) 120 T]) rfl dX5_reads_231 (fun H locs hW => ?_)
                refine lv_aload_n hx hb dX5_reads_234 rfl (lv_at hl 0 rfl) ?_
                refine lv_dup hx hb dX5_reads_235 rfl ?_
                refine sg_get (ci := 4) (C := RX5) (T := TX5) (N := 15) (v := .int (nI (bT T L q))) hx hb hts (fun _ h => List.mem_cons_of_mem _ (List.mem_append_right _ h)) hown hK hW 0 0 rfl rfl rfl 9 (by decide) (hts _ (List.mem_of_getElem? (i := 1) rfl)) (congrArg (fun z => some (Value.int (nI z))) (mrw_g4 _ _ _ _ _ _)) dX5_reads_236 ?_
                refine lv_iconst (v := nI 1) hx hb dX5_reads_239 (by decide +kernel) ?_
                refine nn_add hx hb dX5_reads_240 ?_
                refine sg_put (ci := 4) (C := RX5) (T := TX5) (N := 15) hx hb hts (fun _ h => List.mem_cons_of_mem _ (List.mem_append_right _ h)) tyX5 tyX5_ok nmX5 hown hK hW 0 0 rfl rfl rfl 9 (by decide) (hts _ (List.mem_of_getElem? (i := 1) rfl)) rfl rfl rfl (Nat.le_of_ble_eq_true rfl) ((mH_s4 mo (mrw R 21 (bT T L q) (bT T L q) 0 (R 6)) ((bT T L q) + 1)).trans (congrArg (mH mo) (mrw_4 _ _ _ _ _ _ _))) (ss' := [mH mo (mrw R 21 (bT T L q) ((bT T L q) + 1) 0 (R 6)), aI cI (mo 5) 120 T]) rfl dX5_reads_241 (fun H locs hW => ?_)
                exact rt_v hQ hx hb hr hlocks hW dX5_reads_244 () rfl trivial (by rw [tkM_sem _ (sT_sem (by omega) (by omega))])
            · have hs2 : sT T L q = 2 := sT_dig (by omega) (by omega) (by omega)
              have lp130 : ∀ (n : Nat) (v : Nat), L - v < n → AdvI T L q v → ∀ (H : Heap) (locs : List Loc), Wo D vwCl A s.heap H locs [mH mo (mrw R (R 2) (bT T L q) v (numM T (bT T L q) (v - bT T L q)) (R 6)), aI cI (mo 5) 120 T] → ∀ ls : Array Slot, lv_has ls 1 [(0, .ref (mo 0))] → W p l e rmX5_reads s m args below meth c H locs 0 0 Q (F0 m 130 ls []) := by
                intro n
                induction n with
                | zero => intro v hm; exact absurd hm (Nat.not_lt_zero _)
                | succ n ih =>
                  intro v hm hai H locs hW ls hl
                  have ha1 := hai.1
                  have ha2 := hai.2.1
                  refine lv_aload_n hx hb dX5_reads_130 rfl (lv_at hl 0 rfl) ?_
                  refine lv_aload_n hx hb dX5_reads_131 rfl (lv_at hl 0 rfl) ?_
                  refine sg_get (ci := 4) (C := RX5) (T := TX5) (N := 15) (v := .int (nI v)) hx hb hts (fun _ h => List.mem_cons_of_mem _ (List.mem_append_right _ h)) hown hK hW 0 0 rfl rfl rfl 9 (by decide) (hts _ (List.mem_of_getElem? (i := 1) rfl)) (congrArg (fun z => some (Value.int (nI z))) (mrw_g4 _ _ _ _ _ _)) dX5_reads_132 ?_
                  refine lv_bipush (v := nI 48) hx hb dX5_reads_135 (by decide +kernel) ?_
                  refine lv_bipush (v := nI 57) hx hb dX5_reads_137 (by decide +kernel) ?_
                  refine cl_Vi (As := [.int (nI v), .int (nI 48), .int (nI 57)]) (rest := []) (C := RX5) ⟨hx, hb, hml, hown, hts⟩ (M_X5_isByte l D cI cJ mo (mrw R (R 2) (bT T L q) v (numM T (bT T L q) (v - bT T L q)) (R 6)) T L hR1 hL hT v 48 57 (by omega) (by decide) (by decide)) (cwV 3 hts gX5_reads_X5_isByte rfl rfl rfl qX5_isByte ⟨Nat.le_of_ble_eq_true rfl, Nat.le_of_ble_eq_true rfl⟩) E0_good hK hA hW trivial [true, true] (fun _ => [mH mo (mrw R (R 2) (bT T L q) v (numM T (bT T L q) (v - bT T L q)) (R 6)), aI cI (mo 5) 120 T]) rfl (fun _ => rfl) (fun _ => rfl) 0 0 rfl rfl rfl rfl hl.1 rfl (lv_room (Nat.le_of_ble_eq_true rfl)) dX5_reads_139 ⟨Nat.zero_le _, Nat.zero_le _⟩ (fun _ H locs _ hW => ?_)
                  have hib_ := ibN_or T L v 48 57
                  have hTb_ := hT v
                  refine nn_zeq (tgt := 199) hx hb dX5_reads_142 (by decide) (by omega) (fun c142 => ?_) (fun c142 => ?_)
                  · have hve : v = eT T L q := advI_x2 hq hai hs2 (by omega)
                    have hW := hW.to (ss' := [mH mo (mrw R (R 2) (bT T L q) (eT T L q) (numM T (bT T L q) (eT T L q - bT T L q)) (R 6)), aI cI (mo 5) 120 T]) (by rw [hve])
                    have hei := eT_in T hq
                    refine lv_aload_n hx hb dX5_reads_199 rfl (lv_at hl 0 rfl) ?_
                    refine lv_bipush (v := nI 20) hx hb dX5_reads_200 (by decide +kernel) ?_
                    refine sg_put (ci := 4) (C := RX5) (T := TX5) (N := 15) hx hb hts (fun _ h => List.mem_cons_of_mem _ (List.mem_append_right _ h)) tyX5 tyX5_ok nmX5 hown hK hW 0 0 rfl rfl rfl 7 (by decide) (hts _ (List.mem_of_getElem? (i := 5) rfl)) rfl (by decide +kernel) (by decide +kernel) (Nat.le_of_ble_eq_true rfl) ((mH_s2 mo (mrw R (R 2) (bT T L q) (eT T L q) (numM T (bT T L q) (eT T L q - bT T L q)) (R 6)) 20).trans (congrArg (mH mo) (mrw_2 _ _ _ _ _ _ _))) (ss' := [mH mo (mrw R 20 (bT T L q) (eT T L q) (numM T (bT T L q) (eT T L q - bT T L q)) (R 6)), aI cI (mo 5) 120 T]) rfl dX5_reads_202 (fun H locs hW => ?_)
                    refine lv_goto (tgt := 244) hx hb dX5_reads_205 (by decide) ?_
                    exact rt_v hQ hx hb hr hlocks hW dX5_reads_244 () rfl trivial (by rw [tkM_num _ hs2])
                  · have hnm := numM_le hT (bT T L q) (v - bT T L q)
                    refine lv_aload_n hx hb dX5_reads_145 rfl (lv_at hl 0 rfl) ?_
                    refine lv_aload_n hx hb dX5_reads_146 rfl (lv_at hl 0 rfl) ?_
                    refine sg_get (ci := 4) (C := RX5) (T := TX5) (N := 15) (v := .int (nI (numM T (bT T L q) (v - bT T L q)))) hx hb hts (fun _ h => List.mem_cons_of_mem _ (List.mem_append_right _ h)) hown hK hW 0 0 rfl rfl rfl 10 (by decide) (hts _ (List.mem_of_getElem? (i := 3) rfl)) (congrArg (fun z => some (Value.int (nI z))) (mrw_g5 _ _ _ _ _ _)) dX5_reads_147 ?_
                    refine lv_sipush (v := nI 999) hx hb dX5_reads_150 (by decide +kernel) ?_
                    refine nn_cle (tgt := 163) hx hb dX5_reads_153 (by decide) (by omega) (by decide) (fun c153 => ?_) (fun c153 => ?_)
                    · refine lv_bipush (v := nI 10) hx hb dX5_reads_163 (by decide +kernel) ?_
                      refine lv_aload_n hx hb dX5_reads_165 rfl (lv_at hl 0 rfl) ?_
                      refine sg_get (ci := 4) (C := RX5) (T := TX5) (N := 15) (v := .int (nI (numM T (bT T L q) (v - bT T L q)))) hx hb hts (fun _ h => List.mem_cons_of_mem _ (List.mem_append_right _ h)) hown hK hW 0 0 rfl rfl rfl 10 (by decide) (hts _ (List.mem_of_getElem? (i := 3) rfl)) (congrArg (fun z => some (Value.int (nI z))) (mrw_g5 _ _ _ _ _ _)) dX5_reads_166 ?_
                      refine nn_mul hx hb dX5_reads_169 ?_
                      refine lv_aload_n hx hb dX5_reads_170 rfl (lv_at hl 0 rfl) ?_
                      refine sg_get (ci := 4) (C := RX5) (T := TX5) (N := 15) (v := .ref (mo 5)) hx hb hts (fun _ h => List.mem_cons_of_mem _ (List.mem_append_right _ h)) hown hK hW 0 0 rfl rfl rfl 5 (by decide) (hts _ (List.mem_of_getElem? (i := 6) rfl)) rfl dX5_reads_171 ?_
                      refine lv_aload_n hx hb dX5_reads_174 rfl (lv_at hl 0 rfl) ?_
                      refine sg_get (ci := 4) (C := RX5) (T := TX5) (N := 15) (v := .int (nI v)) hx hb hts (fun _ h => List.mem_cons_of_mem _ (List.mem_append_right _ h)) hown hK hW 0 0 rfl rfl rfl 9 (by decide) (hts _ (List.mem_of_getElem? (i := 1) rfl)) (congrArg (fun z => some (Value.int (nI z))) (mrw_g4 _ _ _ _ _ _)) dX5_reads_175 ?_
                      refine sg_ild (v := nI (T v)) hx hb hK hW 1 0 0 rfl rfl rfl (by omega) (by decide) rfl dX5_reads_178 ?_
                      refine nn_add hx hb dX5_reads_179 ?_
                      refine lv_bipush (v := nI 48) hx hb dX5_reads_180 (by decide +kernel) ?_
                      refine nn_sub hx hb dX5_reads_182 (by omega) ?_
                      refine sg_put (ci := 4) (C := RX5) (T := TX5) (N := 15) hx hb hts (fun _ h => List.mem_cons_of_mem _ (List.mem_append_right _ h)) tyX5 tyX5_ok nmX5 hown hK hW 0 0 rfl rfl rfl 10 (by decide) (hts _ (List.mem_of_getElem? (i := 3) rfl)) rfl rfl rfl (Nat.le_of_ble_eq_true rfl) ((mH_s5 mo (mrw R (R 2) (bT T L q) v (numM T (bT T L q) (v - bT T L q)) (R 6)) (((10 * (numM T (bT T L q) (v - bT T L q))) + (T v)) - 48)).trans (congrArg (mH mo) (mrw_5 _ _ _ _ _ _ _))) (ss' := [mH mo (mrw R (R 2) (bT T L q) v (((10 * (numM T (bT T L q) (v - bT T L q))) + (T v)) - 48) (R 6)), aI cI (mo 5) 120 T]) rfl dX5_reads_183 (fun H locs hW => ?_)
                      refine lv_aload_n hx hb dX5_reads_186 rfl (lv_at hl 0 rfl) ?_
                      refine lv_dup hx hb dX5_reads_187 rfl ?_
                      refine sg_get (ci := 4) (C := RX5) (T := TX5) (N := 15) (v := .int (nI v)) hx hb hts (fun _ h => List.mem_cons_of_mem _ (List.mem_append_right _ h)) hown hK hW 0 0 rfl rfl rfl 9 (by decide) (hts _ (List.mem_of_getElem? (i := 1) rfl)) (congrArg (fun z => some (Value.int (nI z))) (mrw_g4 _ _ _ _ _ _)) dX5_reads_188 ?_
                      refine lv_iconst (v := nI 1) hx hb dX5_reads_191 (by decide +kernel) ?_
                      refine nn_add hx hb dX5_reads_192 ?_
                      refine sg_put (ci := 4) (C := RX5) (T := TX5) (N := 15) hx hb hts (fun _ h => List.mem_cons_of_mem _ (List.mem_append_right _ h)) tyX5 tyX5_ok nmX5 hown hK hW 0 0 rfl rfl rfl 9 (by decide) (hts _ (List.mem_of_getElem? (i := 1) rfl)) rfl rfl rfl (Nat.le_of_ble_eq_true rfl) ((mH_s4 mo (mrw R (R 2) (bT T L q) v (((10 * (numM T (bT T L q) (v - bT T L q))) + (T v)) - 48) (R 6)) (v + 1)).trans (congrArg (mH mo) (mrw_4 _ _ _ _ _ _ _))) (ss' := [mH mo (mrw R (R 2) (bT T L q) (v + 1) (((10 * (numM T (bT T L q) (v - bT T L q))) + (T v)) - 48) (R 6)), aI cI (mo 5) 120 T]) rfl dX5_reads_193 (fun H locs hW => ?_)
                      refine lv_goto (tgt := 130) hx hb dX5_reads_196 (by decide) ?_
                      have hW := hW.to (ss' := [mH mo (mrw R (R 2) (bT T L q) (v + 1) (numM T (bT T L q) ((v + 1) - bT T L q)) (R 6)), aI cI (mo 5) 120 T]) (by rw [numM_small (by omega) (by omega)])
                      exact ih (v + 1) (by omega) (advI_s hq hai (by omega) ((srt_dig (by omega) (by omega)).trans hs2.symm) (Or.inl (Or.inr hs2))) _ _ hW _ (lv_sub hl [0] rfl)
                    · refine lv_aload_n hx hb dX5_reads_156 rfl (lv_at hl 0 rfl) ?_
                      refine sg_get (ci := 4) (C := RX5) (T := TX5) (N := 15) (v := .int (nI (numM T (bT T L q) (v - bT T L q)))) hx hb hts (fun _ h => List.mem_cons_of_mem _ (List.mem_append_right _ h)) hown hK hW 0 0 rfl rfl rfl 10 (by decide) (hts _ (List.mem_of_getElem? (i := 3) rfl)) (congrArg (fun z => some (Value.int (nI z))) (mrw_g5 _ _ _ _ _ _)) dX5_reads_157 ?_
                      refine lv_goto (tgt := 183) hx hb dX5_reads_160 (by decide) ?_
                      refine sg_put (ci := 4) (C := RX5) (T := TX5) (N := 15) hx hb hts (fun _ h => List.mem_cons_of_mem _ (List.mem_append_right _ h)) tyX5 tyX5_ok nmX5 hown hK hW 0 0 rfl rfl rfl 10 (by decide) (hts _ (List.mem_of_getElem? (i := 3) rfl)) rfl rfl rfl (Nat.le_of_ble_eq_true rfl) ((mH_s5 mo (mrw R (R 2) (bT T L q) v (numM T (bT T L q) (v - bT T L q)) (R 6)) (numM T (bT T L q) (v - bT T L q))).trans (congrArg (mH mo) (mrw_5 _ _ _ _ _ _ _))) (ss' := [mH mo (mrw R (R 2) (bT T L q) v (numM T (bT T L q) (v - bT T L q)) (R 6)), aI cI (mo 5) 120 T]) rfl dX5_reads_183 (fun H locs hW => ?_)
                      refine lv_aload_n hx hb dX5_reads_186 rfl (lv_at hl 0 rfl) ?_
                      refine lv_dup hx hb dX5_reads_187 rfl ?_
                      refine sg_get (ci := 4) (C := RX5) (T := TX5) (N := 15) (v := .int (nI v)) hx hb hts (fun _ h => List.mem_cons_of_mem _ (List.mem_append_right _ h)) hown hK hW 0 0 rfl rfl rfl 9 (by decide) (hts _ (List.mem_of_getElem? (i := 1) rfl)) (congrArg (fun z => some (Value.int (nI z))) (mrw_g4 _ _ _ _ _ _)) dX5_reads_188 ?_
                      refine lv_iconst (v := nI 1) hx hb dX5_reads_191 (by decide +kernel) ?_
                      refine nn_add hx hb dX5_reads_192 ?_
                      refine sg_put (ci := 4) (C := RX5) (T := TX5) (N := 15) hx hb hts (fun _ h => List.mem_cons_of_mem _ (List.mem_append_right _ h)) tyX5 tyX5_ok nmX5 hown hK hW 0 0 rfl rfl rfl 9 (by decide) (hts _ (List.mem_of_getElem? (i := 1) rfl)) rfl rfl rfl (Nat.le_of_ble_eq_true rfl) ((mH_s4 mo (mrw R (R 2) (bT T L q) v (numM T (bT T L q) (v - bT T L q)) (R 6)) (v + 1)).trans (congrArg (mH mo) (mrw_4 _ _ _ _ _ _ _))) (ss' := [mH mo (mrw R (R 2) (bT T L q) (v + 1) (numM T (bT T L q) (v - bT T L q)) (R 6)), aI cI (mo 5) 120 T]) rfl dX5_reads_193 (fun H locs hW => ?_)
                      refine lv_goto (tgt := 130) hx hb dX5_reads_196 (by decide) ?_
                      have hW := hW.to (ss' := [mH mo (mrw R (R 2) (bT T L q) (v + 1) (numM T (bT T L q) ((v + 1) - bT T L q)) (R 6)), aI cI (mo 5) 120 T]) (by rw [numM_big (by omega) (by omega)])
                      exact ih (v + 1) (by omega) (advI_s hq hai (by omega) ((srt_dig (by omega) (by omega)).trans hs2.symm) (Or.inl (Or.inr hs2))) _ _ hW _ (lv_sub hl [0] rfl)
              have hW := hW.to (ss' := [mH mo (mrw R (R 2) (bT T L q) (bT T L q) (numM T (bT T L q) ((bT T L q) - bT T L q)) (R 6)), aI cI (mo 5) 120 T]) (by rw [Nat.sub_self]; rfl)
              exact lp130 (L - (bT T L q) + 1) (bT T L q) (Nat.lt_succ_self _) (advI_0 hq) _ _ hW _ (lv_sub hl [0] rfl)
          · have hs1 : sT T L q = 1 := sT_let (by omega) (by omega) (by omega)
            have lp76 : ∀ (n : Nat) (v : Nat), L - v < n → AdvI T L q v → ∀ (H : Heap) (locs : List Loc), Wo D vwCl A s.heap H locs [mH mo (mrw R (R 2) (bT T L q) v 0 (R 6)), aI cI (mo 5) 120 T] → ∀ ls : Array Slot, lv_has ls 1 [(0, .ref (mo 0))] → W p l e rmX5_reads s m args below meth c H locs 0 0 Q (F0 m 76 ls []) := by
              intro n
              induction n with
              | zero => intro v hm; exact absurd hm (Nat.not_lt_zero _)
              | succ n ih =>
                intro v hm hai H locs hW ls hl
                have ha1 := hai.1
                have ha2 := hai.2.1
                refine lv_aload_n hx hb dX5_reads_76 rfl (lv_at hl 0 rfl) ?_
                refine lv_aload_n hx hb dX5_reads_77 rfl (lv_at hl 0 rfl) ?_
                refine sg_get (ci := 4) (C := RX5) (T := TX5) (N := 15) (v := .int (nI v)) hx hb hts (fun _ h => List.mem_cons_of_mem _ (List.mem_append_right _ h)) hown hK hW 0 0 rfl rfl rfl 9 (by decide) (hts _ (List.mem_of_getElem? (i := 1) rfl)) (congrArg (fun z => some (Value.int (nI z))) (mrw_g4 _ _ _ _ _ _)) dX5_reads_78 ?_
                refine lv_bipush (v := nI 97) hx hb dX5_reads_81 (by decide +kernel) ?_
                refine lv_bipush (v := nI 122) hx hb dX5_reads_83 (by decide +kernel) ?_
                refine cl_Vi (As := [.int (nI v), .int (nI 97), .int (nI 122)]) (rest := []) (C := RX5) ⟨hx, hb, hml, hown, hts⟩ (M_X5_isByte l D cI cJ mo (mrw R (R 2) (bT T L q) v 0 (R 6)) T L hR1 hL hT v 97 122 (by omega) (by decide) (by decide)) (cwV 3 hts gX5_reads_X5_isByte rfl rfl rfl qX5_isByte ⟨Nat.le_of_ble_eq_true rfl, Nat.le_of_ble_eq_true rfl⟩) E0_good hK hA hW trivial [true, true] (fun _ => [mH mo (mrw R (R 2) (bT T L q) v 0 (R 6)), aI cI (mo 5) 120 T]) rfl (fun _ => rfl) (fun _ => rfl) 0 0 rfl rfl rfl rfl hl.1 rfl (lv_room (Nat.le_of_ble_eq_true rfl)) dX5_reads_85 ⟨Nat.zero_le _, Nat.zero_le _⟩ (fun _ H locs _ hW => ?_)
                have hib_ := ibN_or T L v 97 122
                have hTb_ := hT v
                refine nn_zeq (tgt := 104) hx hb dX5_reads_88 (by decide) (by omega) (fun c88 => ?_) (fun c88 => ?_)
                · have hve : v = eT T L q := advI_x1 hq hai hs1 (by omega)
                  have hW := hW.to (ss' := [mH mo (mrw R (R 2) (bT T L q) (eT T L q) 0 (R 6)), aI cI (mo 5) 120 T]) (by rw [hve])
                  have hei := eT_in T hq
                  refine lv_aload_n hx hb dX5_reads_104 rfl (lv_at hl 0 rfl) ?_
                  refine lv_aload_n hx hb dX5_reads_105 rfl (lv_at hl 0 rfl) ?_
                  refine cw_Vi (As := []) (rest := [.ref (mo 0)]) (C := RX5) ⟨hx, hb, hml, hown, hts⟩ (M_X5_wordHere l D cI cJ mo (mrw R (R 2) (bT T L q) (eT T L q) 0 (R 6)) T nt (bT T L q) (eT T L q) rfl rfl (by omega) (by omega) hT) (cwV 0 hts gX5_reads_X5_wordHere rfl rfl rfl qX5_wordHere ⟨Nat.le_of_ble_eq_true rfl, Nat.le_of_ble_eq_true rfl⟩) (EM_good nt) hK hA hW hE [true, true] (fun _ => [mH mo (mrw R (R 2) (bT T L q) (eT T L q) 0 (R 6)), aI cI (mo 5) 120 T]) rfl (fun _ => rfl) (fun _ => rfl) 0 0 rfl rfl rfl rfl hl.1 rfl (lv_room (Nat.le_of_ble_eq_true rfl)) dX5_reads_106 ⟨Nat.zero_le _, Nat.zero_le _⟩ (fun _ H locs _ hW => ?_)
                  have hwd_ := wdN_le T (bT T L q) ((eT T L q) - (bT T L q))
                  refine sg_put (ci := 4) (C := RX5) (T := TX5) (N := 15) hx hb hts (fun _ h => List.mem_cons_of_mem _ (List.mem_append_right _ h)) tyX5 tyX5_ok nmX5 hown hK hW 0 0 rfl rfl rfl 7 (by decide) (hts _ (List.mem_of_getElem? (i := 5) rfl)) rfl rfl rfl (Nat.le_of_ble_eq_true rfl) ((mH_s2 mo (mrw R (R 2) (bT T L q) (eT T L q) 0 (R 6)) (wdN T (bT T L q) ((eT T L q) - (bT T L q)))).trans (congrArg (mH mo) (mrw_2 _ _ _ _ _ _ _))) (ss' := [mH mo (mrw R (wdN T (bT T L q) ((eT T L q) - (bT T L q))) (bT T L q) (eT T L q) 0 (R 6)), aI cI (mo 5) 120 T]) rfl dX5_reads_109 (fun H locs hW => ?_)
                  refine lv_goto (tgt := 244) hx hb dX5_reads_112 (by decide) ?_
                  exact rt_v hQ hx hb hr hlocks hW dX5_reads_244 () rfl trivial (by rw [tkM_word _ hs1])
                · refine lv_aload_n hx hb dX5_reads_91 rfl (lv_at hl 0 rfl) ?_
                  refine lv_dup hx hb dX5_reads_92 rfl ?_
                  refine sg_get (ci := 4) (C := RX5) (T := TX5) (N := 15) (v := .int (nI v)) hx hb hts (fun _ h => List.mem_cons_of_mem _ (List.mem_append_right _ h)) hown hK hW 0 0 rfl rfl rfl 9 (by decide) (hts _ (List.mem_of_getElem? (i := 1) rfl)) (congrArg (fun z => some (Value.int (nI z))) (mrw_g4 _ _ _ _ _ _)) dX5_reads_93 ?_
                  refine lv_iconst (v := nI 1) hx hb dX5_reads_96 (by decide +kernel) ?_
                  refine nn_add hx hb dX5_reads_97 ?_
                  refine sg_put (ci := 4) (C := RX5) (T := TX5) (N := 15) hx hb hts (fun _ h => List.mem_cons_of_mem _ (List.mem_append_right _ h)) tyX5 tyX5_ok nmX5 hown hK hW 0 0 rfl rfl rfl 9 (by decide) (hts _ (List.mem_of_getElem? (i := 1) rfl)) rfl rfl rfl (Nat.le_of_ble_eq_true rfl) ((mH_s4 mo (mrw R (R 2) (bT T L q) v 0 (R 6)) (v + 1)).trans (congrArg (mH mo) (mrw_4 _ _ _ _ _ _ _))) (ss' := [mH mo (mrw R (R 2) (bT T L q) (v + 1) 0 (R 6)), aI cI (mo 5) 120 T]) rfl dX5_reads_98 (fun H locs hW => ?_)
                  refine lv_goto (tgt := 76) hx hb dX5_reads_101 (by decide) ?_
                  exact ih (v + 1) (by omega) (advI_s hq hai (by omega) ((srt_let (by omega) (by omega)).trans hs1.symm) (Or.inl (Or.inl hs1))) _ _ hW _ (lv_sub hl [0] rfl)
            exact lp76 (L - (bT T L q) + 1) (bT T L q) (Nat.lt_succ_self _) (advI_0 hq) _ _ hW _ (lv_sub hl [0] rfl)
        · refine lv_aload_n hx hb dX5_reads_52 rfl (lv_at hl 0 rfl) ?_
          refine lv_bipush (v := nI 22) hx hb dX5_reads_53 (by decide +kernel) ?_
          refine sg_put (ci := 4) (C := RX5) (T := TX5) (N := 15) hx hb hts (fun _ h => List.mem_cons_of_mem _ (List.mem_append_right _ h)) tyX5 tyX5_ok nmX5 hown hK hW 0 0 rfl rfl rfl 7 (by decide) (hts _ (List.mem_of_getElem? (i := 5) rfl)) rfl (by decide +kernel) (by decide +kernel) (Nat.le_of_ble_eq_true rfl) ((mH_s2 mo (mrw R (R 2) (bT T L q) (bT T L q) 0 (R 6)) 22).trans (congrArg (mH mo) (mrw_2 _ _ _ _ _ _ _))) (ss' := [mH mo (mrw R 22 (bT T L q) (bT T L q) 0 (R 6)), aI cI (mo 5) 120 T]) rfl dX5_reads_55 (fun H locs hW => ?_)
          refine lv_goto (tgt := 244) hx hb dX5_reads_58 (by decide) ?_
          exact rt_v hQ hx hb hr hlocks hW dX5_reads_244 () rfl trivial (by rw [tkM_over _ hq (by omega)])
      · refine lv_aload_n hx hb dX5_reads_15 rfl (lv_at hl 0 rfl) ?_
        refine lv_dup hx hb dX5_reads_16 rfl ?_
        refine sg_get (ci := 4) (C := RX5) (T := TX5) (N := 15) (v := .int (nI v)) hx hb hts (fun _ h => List.mem_cons_of_mem _ (List.mem_append_right _ h)) hown hK hW 0 0 rfl rfl rfl 9 (by decide) (hts _ (List.mem_of_getElem? (i := 1) rfl)) (congrArg (fun z => some (Value.int (nI z))) (mrw_g4 _ _ _ _ _ _)) dX5_reads_17 ?_
        refine lv_iconst (v := nI 1) hx hb dX5_reads_20 (by decide +kernel) ?_
        refine nn_add hx hb dX5_reads_21 ?_
        refine sg_put (ci := 4) (C := RX5) (T := TX5) (N := 15) hx hb hts (fun _ h => List.mem_cons_of_mem _ (List.mem_append_right _ h)) tyX5 tyX5_ok nmX5 hown hK hW 0 0 rfl rfl rfl 9 (by decide) (hts _ (List.mem_of_getElem? (i := 1) rfl)) rfl rfl rfl (Nat.le_of_ble_eq_true rfl) ((mH_s4 mo (mrw R (R 2) (R 3) v (R 5) (R 6)) (v + 1)).trans (congrArg (mH mo) (mrw_4 _ _ _ _ _ _ _))) (ss' := [mH mo (mrw R (R 2) (R 3) (v + 1) (R 5) (R 6)), aI cI (mo 5) 120 T]) rfl dX5_reads_22 (fun H locs hW => ?_)
        refine lv_goto (tgt := 0) hx hb dX5_reads_25 (by decide) ?_
        exact ih (v + 1) (by omega) (blkI_s hbk (by omega) (by omega)) _ _ hW _ (lv_sub hl [0] rfl)
  have hW := hW.to (ss' := [mH mo (mrw R (R 2) (R 3) (R 4) (R 5) (R 6)), aI cI (mo 5) 120 T]) (by rw [mrw_self])
  exact lp0 (L - (R 4) + 1) (R 4) (Nat.lt_succ_self _) (by rw [hR4]; exact ⟨hq, Nat.le_refl _, rfl⟩) _ _ hW _ (lv_sub hl [0] rfl)
theorem M_X5_rd (l : Launch) (D : va_G) (cI cJ : ClassId) (mo R T : Nat → Nat) (nt : Nat) (L : Nat) (hR1 : R 1 = L) (hL : L ≤ 120) (q d : Nat) (hq : q ≤ L) (hT : ∀ i, T i < 256) : CE (EM nt) l D vwCl [(cI, .int), (cJ, .long)] yX5_reads wsX5_reads rmX5_reads [.ref (mo 0)] [mH mo (tkM R T L q d), aI cI (mo 5) 120 T] (S := Unit) none (fun _ => True) (fun _ : Unit => [mH mo (tkM R T L (eT T L q) d), aI cI (mo 5) 120 T]) 0 0 := by
  have h := M_X5_reads l D cI cJ mo (tkM R T L q d) T nt L hR1 hL (eT T L q) rfl (eT_in T hq).2 hT
  rw [tkM_g6, tkM_tkM] at h
  exact h
abbrev rmX5_passes : Room := { frames := 3, cells := 0, slots := 0, locals := 66 }
set_option maxRecDepth 100000 in
set_option maxHeartbeats 4000000 in
theorem M_X5_passY (l : Launch) (D : va_G) (cI cJ : ClassId) (mo R T : Nat → Nat) (nt : Nat) (L : Nat) (hR1 : R 1 = L) (hL : L ≤ 120) (q : Nat) (hq : q ≤ L) (hT : ∀ i, T i < 256) (w : Nat) (hw : w < 100) (hk : kT T L q = w) : CE (EM nt) l D vwCl [(cI, .int), (cJ, .long)] yX5_passes wsX5_passes rmX5_passes [.ref (mo 0), .int (nI w)] [mH mo (tkM R T L q 0), aI cI (mo 5) 120 T] (S := Unit) (some (.int (nI (1)))) (fun _ => True) (fun _ : Unit => [mH mo (tkM R T L (eT T L q) 0), aI cI (mo 5) 120 T]) 0 0 := by
  refine CE.ofW (cc := cX5_passes) (maxL := 2) (ret := (some .boolean)) (lv := [(0, .ref (mo 0)), (1, .int (nI w))]) (by decide) rfl (Nat.le_of_ble_eq_true rfl) rfl ?_
  intro p e s m args below meth c ls A Q hQ hx hb hml hr hlocks hnm hown hts hK hA hE hW hl
  have hown : s.vm.findClass RX5 = some m.cls := hown
  have hkl := kT_le T L q
  refine lv_aload_n hx hb dX5_passes_0 rfl (lv_at hl 0 rfl) ?_
  refine sg_get (ci := 4) (C := RX5) (T := TX5) (N := 15) (v := .int (nI 0)) hx hb hts (fun _ h => List.mem_cons_of_mem _ (List.mem_append_right _ h)) hown hK hW 0 0 rfl rfl rfl 11 (by decide) (hts _ (List.mem_of_getElem? (i := 1) rfl)) (congrArg (fun z => some (Value.int (nI z))) (tkM_g6 _ _ _ _ _)) dX5_passes_1 ?_
  refine nn_zne (tgt := 15) hx hb dX5_passes_4 (by decide) (by decide) (fun c4 => ?_) (fun c4 => ?_)
  · exfalso; omega
  · refine lv_aload_n hx hb dX5_passes_7 rfl (lv_at hl 0 rfl) ?_
    refine sg_get (ci := 4) (C := RX5) (T := TX5) (N := 15) (v := .int (nI (kT T L q))) hx hb hts (fun _ h => List.mem_cons_of_mem _ (List.mem_append_right _ h)) hown hK hW 0 0 rfl rfl rfl 7 (by decide) (hts _ (List.mem_of_getElem? (i := 2) rfl)) (congrArg (fun z => some (Value.int (nI z))) (tkM_g2 _ _ _ _ _)) dX5_passes_8 ?_
    refine lv_iload_n hx hb dX5_passes_11 rfl (lv_at hl 1 rfl) ?_
    refine nn_ceq (tgt := 17) hx hb dX5_passes_12 (by decide) (by omega) (by omega) (fun c12 => ?_) (fun c12 => ?_)
    · refine lv_aload_n hx hb dX5_passes_17 rfl (lv_at hl 0 rfl) ?_
      refine cw_Vv (As := []) (rest := []) (C := RX5) ⟨hx, hb, hml, hown, hts⟩ (M_X5_rd l D cI cJ mo R T nt L hR1 hL q 0 (by omega) hT) (cwV 0 hts gX5_passes_X5_reads rfl rfl rfl qX5_reads ⟨Nat.le_of_ble_eq_true rfl, Nat.le_of_ble_eq_true rfl⟩) (EM_good nt) hK hA hW hE [true, true] (fun _ => [mH mo (tkM R T L (eT T L q) 0), aI cI (mo 5) 120 T]) rfl (fun _ => rfl) (fun _ => rfl) 0 0 rfl rfl rfl rfl hl.1 rfl (lv_room (Nat.le_of_ble_eq_true rfl)) dX5_passes_18 ⟨Nat.zero_le _, Nat.zero_le _⟩ (fun _ H locs _ hW => ?_)
      have hei_ := (eT_in T (L := L) (p := q) (by omega)).2
      have hkl_ := kT_le T L (eT T L q)
      have hml_ := mT_le hT L (eT T L q)
      refine lv_iconst (v := nI 1) hx hb dX5_passes_21 (by decide +kernel) ?_
      exact rt_z hQ hx hb hr hlocks hW dX5_passes_22 (by decide +kernel) () rfl trivial rfl
    · exfalso; omega
set_option maxRecDepth 100000 in
set_option maxHeartbeats 4000000 in
theorem M_X5_passN (l : Launch) (D : va_G) (cI cJ : ClassId) (mo R T : Nat → Nat) (nt : Nat) (L : Nat) (hR1 : R 1 = L) (hL : L ≤ 120) (q : Nat) (hq : q ≤ L) (hT : ∀ i, T i < 256) (d w : Nat) (hd : d ≤ 1) (hw : w < 100) (hk : ¬ (d = 0 ∧ kT T L q = w)) : CE (EM nt) l D vwCl [(cI, .int), (cJ, .long)] yX5_passes wsX5_passes rmX5_passes [.ref (mo 0), .int (nI w)] [mH mo (tkM R T L q d), aI cI (mo 5) 120 T] (S := Unit) (some (.int (nI (0)))) (fun _ => True) (fun _ : Unit => [mH mo (tkM R T L q d), aI cI (mo 5) 120 T]) 0 0 := by
  refine CE.ofW (cc := cX5_passes) (maxL := 2) (ret := (some .boolean)) (lv := [(0, .ref (mo 0)), (1, .int (nI w))]) (by decide) rfl (Nat.le_of_ble_eq_true rfl) rfl ?_
  intro p e s m args below meth c ls A Q hQ hx hb hml hr hlocks hnm hown hts hK hA hE hW hl
  have hown : s.vm.findClass RX5 = some m.cls := hown
  have hkl := kT_le T L q
  refine lv_aload_n hx hb dX5_passes_0 rfl (lv_at hl 0 rfl) ?_
  refine sg_get (ci := 4) (C := RX5) (T := TX5) (N := 15) (v := .int (nI d)) hx hb hts (fun _ h => List.mem_cons_of_mem _ (List.mem_append_right _ h)) hown hK hW 0 0 rfl rfl rfl 11 (by decide) (hts _ (List.mem_of_getElem? (i := 1) rfl)) (congrArg (fun z => some (Value.int (nI z))) (tkM_g6 _ _ _ _ _)) dX5_passes_1 ?_
  refine nn_zne (tgt := 15) hx hb dX5_passes_4 (by decide) (by omega) (fun c4 => ?_) (fun c4 => ?_)
  · refine lv_iconst (v := nI 0) hx hb dX5_passes_15 (by decide +kernel) ?_
    exact rt_z hQ hx hb hr hlocks hW dX5_passes_16 (by decide +kernel) () rfl trivial rfl
  · refine lv_aload_n hx hb dX5_passes_7 rfl (lv_at hl 0 rfl) ?_
    refine sg_get (ci := 4) (C := RX5) (T := TX5) (N := 15) (v := .int (nI (kT T L q))) hx hb hts (fun _ h => List.mem_cons_of_mem _ (List.mem_append_right _ h)) hown hK hW 0 0 rfl rfl rfl 7 (by decide) (hts _ (List.mem_of_getElem? (i := 2) rfl)) (congrArg (fun z => some (Value.int (nI z))) (tkM_g2 _ _ _ _ _)) dX5_passes_8 ?_
    refine lv_iload_n hx hb dX5_passes_11 rfl (lv_at hl 1 rfl) ?_
    refine nn_ceq (tgt := 17) hx hb dX5_passes_12 (by decide) (by omega) (by omega) (fun c12 => ?_) (fun c12 => ?_)
    · exfalso; omega
    · refine lv_iconst (v := nI 0) hx hb dX5_passes_15 (by decide +kernel) ?_
      exact rt_z hQ hx hb hr hlocks hW dX5_passes_16 (by decide +kernel) () rfl trivial rfl
abbrev rmX5_number : Room := { frames := 3, cells := 0, slots := 0, locals := 66 }
set_option maxRecDepth 100000 in
set_option maxHeartbeats 4000000 in
theorem M_X5_numY (l : Launch) (D : va_G) (cI cJ : ClassId) (mo R T : Nat → Nat) (nt : Nat) (L : Nat) (hR1 : R 1 = L) (hL : L ≤ 120) (q : Nat) (hq : q ≤ L) (hT : ∀ i, T i < 256) (a b : Nat) (ha : a < 1000) (hB : b < 1000) (hn : okN T L q a b = 1) : CE (EM nt) l D vwCl [(cI, .int), (cJ, .long)] yX5_number wsX5_number rmX5_number [.ref (mo 0), .int (nI a), .int (nI b)] [mH mo (tkM R T L q 0), aI cI (mo 5) 120 T] (S := Unit) (some (.int (nI (nT T L q)))) (fun _ => True) (fun _ : Unit => [mH mo (tkM R T L (eT T L q) 0), aI cI (mo 5) 120 T]) 0 0 := by
  refine CE.ofW (cc := cX5_number) (maxL := 4) (ret := (some .int)) (lv := [(0, .ref (mo 0)), (1, .int (nI a)), (2, .int (nI b))]) (by decide) rfl (Nat.le_of_ble_eq_true rfl) rfl ?_
  intro p e s m args below meth c ls A Q hQ hx hb hml hr hlocks hnm hown hts hK hA hE hW hl
  have hown : s.vm.findClass RX5 = some m.cls := hown
  have hkl := kT_le T L q
  have hmq := mT_le hT L q
  have hmn := mT_nT T L q
  have hks := (kT_s T L q).2.1
  have hsl := sT_le T L q
  have hok := okN_or T L q a b
  refine lv_aload_n hx hb dX5_number_0 rfl (lv_at hl 0 rfl) ?_
  refine sg_get (ci := 4) (C := RX5) (T := TX5) (N := 15) (v := .int (nI (mT T L q))) hx hb hts (fun _ h => List.mem_cons_of_mem _ (List.mem_append_right _ h)) hown hK hW 0 0 rfl rfl rfl 10 (by decide) (hts _ (List.mem_of_getElem? (i := 1) rfl)) (congrArg (fun z => some (Value.int (nI z))) (tkM_g5 _ _ _ _ _)) dX5_number_1 ?_
  refine lv_istore_n (lv' := [(3, .int (nI (mT T L q))), (0, .ref (mo 0)), (1, .int (nI a)), (2, .int (nI b))]) hx hb dX5_number_4 rfl hl (by decide) rfl (fun ls hl => ?_)
  refine lv_aload_n hx hb dX5_number_5 rfl (lv_at hl 1 rfl) ?_
  refine lv_aload_n hx hb dX5_number_6 rfl (lv_at hl 1 rfl) ?_
  refine sg_get (ci := 4) (C := RX5) (T := TX5) (N := 15) (v := .int (nI 0)) hx hb hts (fun _ h => List.mem_cons_of_mem _ (List.mem_append_right _ h)) hown hK hW 0 0 rfl rfl rfl 11 (by decide) (hts _ (List.mem_of_getElem? (i := 2) rfl)) (congrArg (fun z => some (Value.int (nI z))) (tkM_g6 _ _ _ _ _)) dX5_number_7 ?_
  refine nn_zne (tgt := 32) hx hb dX5_number_10 (by decide) (by decide) (fun c10 => ?_) (fun c10 => ?_)
  · exfalso; omega
  · refine lv_aload_n hx hb dX5_number_13 rfl (lv_at hl 1 rfl) ?_
    refine sg_get (ci := 4) (C := RX5) (T := TX5) (N := 15) (v := .int (nI (kT T L q))) hx hb hts (fun _ h => List.mem_cons_of_mem _ (List.mem_append_right _ h)) hown hK hW 0 0 rfl rfl rfl 7 (by decide) (hts _ (List.mem_of_getElem? (i := 3) rfl)) (congrArg (fun z => some (Value.int (nI z))) (tkM_g2 _ _ _ _ _)) dX5_number_14 ?_
    refine lv_bipush (v := nI 20) hx hb dX5_number_17 (by decide +kernel) ?_
    refine nn_cne (tgt := 32) hx hb dX5_number_19 (by decide) (by omega) (by decide) (fun c19 => ?_) (fun c19 => ?_)
    · exfalso; omega
    · refine lv_iload_n hx hb dX5_number_22 rfl (lv_at hl 0 rfl) ?_
      refine lv_i2l (v := (nI (mT T L q)).toInt64) hx hb dX5_number_23 rfl ?_
      refine lv_iload_n hx hb dX5_number_24 rfl (lv_at hl 2 rfl) ?_
      refine lv_iload_n hx hb dX5_number_25 rfl (lv_at hl 3 rfl) ?_
      refine cl_Si (As := [.long ((nI (mT T L q)).toInt64), .int (nI a), .int (nI b)]) (rest := [.ref (mo 0)]) ⟨hx, hb, hml, hown, hts⟩ (M_X5_in2 l D cI cJ ((nI (mT T L q)).toInt64) (nI a) (nI b) ((mT T L q : Nat) : Int) ((a : Nat) : Int) ((b : Nat) : Int) ((Int32.toInt_toInt64 _).trans (nI_toInt (n := mT T L q) (by omega))) (nI_toInt (n := a) (by omega)) (nI_toInt (n := b) (by omega))) (va_cwS 3 hts gX5_number_X5_in rfl rfl rfl qX5_in ⟨Nat.le_of_ble_eq_true rfl, Nat.le_of_ble_eq_true rfl⟩) E0_good hK hA hW trivial [] (fun _ => [mH mo (tkM R T L q 0), aI cI (mo 5) 120 T]) rfl (fun _ => rfl) (fun _ => rfl) rfl hl.1 rfl (lv_room (Nat.le_of_ble_eq_true rfl)) dX5_number_26 ⟨Nat.zero_le _, Nat.zero_le _⟩ (fun _ H locs _ hW => ?_)
      have hin_ := inZ_or ((mT T L q : Nat) : Int) ((a : Nat) : Int) ((b : Nat) : Int)
      refine nn_zne (tgt := 36) hx hb dX5_number_29 (by decide) (by omega) (fun c29 => ?_) (fun c29 => ?_)
      · refine lv_iconst (v := nI 0) hx hb dX5_number_36 (by decide +kernel) ?_
        refine sg_put (ci := 4) (C := RX5) (T := TX5) (N := 15) hx hb hts (fun _ h => List.mem_cons_of_mem _ (List.mem_append_right _ h)) tyX5 tyX5_ok nmX5 hown hK hW 0 0 rfl rfl rfl 11 (by decide) (hts _ (List.mem_of_getElem? (i := 2) rfl)) rfl (by decide +kernel) (by decide +kernel) (Nat.le_of_ble_eq_true rfl) ((mH_s6 mo (tkM R T L q 0) 0).trans (congrArg (mH mo) (tkM_6 _ _ _ _ _ _))) (ss' := [mH mo (tkM R T L q 0), aI cI (mo 5) 120 T]) rfl dX5_number_37 (fun H locs hW => ?_)
        refine lv_aload_n hx hb dX5_number_40 rfl (lv_at hl 1 rfl) ?_
        refine sg_get (ci := 4) (C := RX5) (T := TX5) (N := 15) (v := .int (nI 0)) hx hb hts (fun _ h => List.mem_cons_of_mem _ (List.mem_append_right _ h)) hown hK hW 0 0 rfl rfl rfl 11 (by decide) (hts _ (List.mem_of_getElem? (i := 2) rfl)) (congrArg (fun z => some (Value.int (nI z))) (tkM_g6 _ _ _ _ _)) dX5_number_41 ?_
        refine nn_zne (tgt := 51) hx hb dX5_number_44 (by decide) (by decide) (fun c44 => ?_) (fun c44 => ?_)
        · exfalso; omega
        · refine lv_aload_n hx hb dX5_number_47 rfl (lv_at hl 1 rfl) ?_
          refine cw_Vv (As := []) (rest := []) (C := RX5) ⟨hx, hb, hml, hown, hts⟩ (M_X5_rd l D cI cJ mo R T nt L hR1 hL q 0 (by omega) hT) (cwV 0 hts gX5_number_X5_reads rfl rfl rfl qX5_reads ⟨Nat.le_of_ble_eq_true rfl, Nat.le_of_ble_eq_true rfl⟩) (EM_good nt) hK hA hW hE [true, true] (fun _ => [mH mo (tkM R T L (eT T L q) 0), aI cI (mo 5) 120 T]) rfl (fun _ => rfl) (fun _ => rfl) 0 0 rfl rfl rfl rfl hl.1 rfl (lv_room (Nat.le_of_ble_eq_true rfl)) dX5_number_48 ⟨Nat.zero_le _, Nat.zero_le _⟩ (fun _ H locs _ hW => ?_)
          have hei_ := (eT_in T (L := L) (p := q) (by omega)).2
          have hkl_ := kT_le T L (eT T L q)
          have hml_ := mT_le hT L (eT T L q)
          refine lv_iload_n hx hb dX5_number_51 rfl (lv_at hl 0 rfl) ?_
          exact rt_i hQ hx hb hr hlocks hW dX5_number_52 () (by rw [show mT T L q = nT T L q by omega]) trivial rfl
      · exfalso; omega
set_option maxRecDepth 100000 in
set_option maxHeartbeats 4000000 in
theorem M_X5_numN (l : Launch) (D : va_G) (cI cJ : ClassId) (mo R T : Nat → Nat) (nt : Nat) (L : Nat) (hR1 : R 1 = L) (hL : L ≤ 120) (q : Nat) (hq : q ≤ L) (hT : ∀ i, T i < 256) (a b : Nat) (ha : a < 1000) (hB : b < 1000) (hn : okN T L q a b = 0) : CE (EM nt) l D vwCl [(cI, .int), (cJ, .long)] yX5_number wsX5_number rmX5_number [.ref (mo 0), .int (nI a), .int (nI b)] [mH mo (tkM R T L q 0), aI cI (mo 5) 120 T] (S := Unit) (some (.int (nI (mT T L q)))) (fun _ => True) (fun _ : Unit => [mH mo (tkM R T L q 1), aI cI (mo 5) 120 T]) 0 0 := by
  refine CE.ofW (cc := cX5_number) (maxL := 4) (ret := (some .int)) (lv := [(0, .ref (mo 0)), (1, .int (nI a)), (2, .int (nI b))]) (by decide) rfl (Nat.le_of_ble_eq_true rfl) rfl ?_
  intro p e s m args below meth c ls A Q hQ hx hb hml hr hlocks hnm hown hts hK hA hE hW hl
  have hown : s.vm.findClass RX5 = some m.cls := hown
  have hkl := kT_le T L q
  have hmq := mT_le hT L q
  have hmn := mT_nT T L q
  have hks := (kT_s T L q).2.1
  have hsl := sT_le T L q
  have hok := okN_or T L q a b
  refine lv_aload_n hx hb dX5_number_0 rfl (lv_at hl 0 rfl) ?_
  refine sg_get (ci := 4) (C := RX5) (T := TX5) (N := 15) (v := .int (nI (mT T L q))) hx hb hts (fun _ h => List.mem_cons_of_mem _ (List.mem_append_right _ h)) hown hK hW 0 0 rfl rfl rfl 10 (by decide) (hts _ (List.mem_of_getElem? (i := 1) rfl)) (congrArg (fun z => some (Value.int (nI z))) (tkM_g5 _ _ _ _ _)) dX5_number_1 ?_
  refine lv_istore_n (lv' := [(3, .int (nI (mT T L q))), (0, .ref (mo 0)), (1, .int (nI a)), (2, .int (nI b))]) hx hb dX5_number_4 rfl hl (by decide) rfl (fun ls hl => ?_)
  refine lv_aload_n hx hb dX5_number_5 rfl (lv_at hl 1 rfl) ?_
  refine lv_aload_n hx hb dX5_number_6 rfl (lv_at hl 1 rfl) ?_
  refine sg_get (ci := 4) (C := RX5) (T := TX5) (N := 15) (v := .int (nI 0)) hx hb hts (fun _ h => List.mem_cons_of_mem _ (List.mem_append_right _ h)) hown hK hW 0 0 rfl rfl rfl 11 (by decide) (hts _ (List.mem_of_getElem? (i := 2) rfl)) (congrArg (fun z => some (Value.int (nI z))) (tkM_g6 _ _ _ _ _)) dX5_number_7 ?_
  refine nn_zne (tgt := 32) hx hb dX5_number_10 (by decide) (by decide) (fun c10 => ?_) (fun c10 => ?_)
  · exfalso; omega
  · refine lv_aload_n hx hb dX5_number_13 rfl (lv_at hl 1 rfl) ?_
    refine sg_get (ci := 4) (C := RX5) (T := TX5) (N := 15) (v := .int (nI (kT T L q))) hx hb hts (fun _ h => List.mem_cons_of_mem _ (List.mem_append_right _ h)) hown hK hW 0 0 rfl rfl rfl 7 (by decide) (hts _ (List.mem_of_getElem? (i := 3) rfl)) (congrArg (fun z => some (Value.int (nI z))) (tkM_g2 _ _ _ _ _)) dX5_number_14 ?_
    refine lv_bipush (v := nI 20) hx hb dX5_number_17 (by decide +kernel) ?_
    refine nn_cne (tgt := 32) hx hb dX5_number_19 (by decide) (by omega) (by decide) (fun c19 => ?_) (fun c19 => ?_)
    · refine lv_iconst (v := nI 1) hx hb dX5_number_32 (by decide +kernel) ?_
      refine lv_goto (tgt := 37) hx hb dX5_number_33 (by decide) ?_
      refine sg_put (ci := 4) (C := RX5) (T := TX5) (N := 15) hx hb hts (fun _ h => List.mem_cons_of_mem _ (List.mem_append_right _ h)) tyX5 tyX5_ok nmX5 hown hK hW 0 0 rfl rfl rfl 11 (by decide) (hts _ (List.mem_of_getElem? (i := 2) rfl)) rfl (by decide +kernel) (by decide +kernel) (Nat.le_of_ble_eq_true rfl) ((mH_s6 mo (tkM R T L q 0) 1).trans (congrArg (mH mo) (tkM_6 _ _ _ _ _ _))) (ss' := [mH mo (tkM R T L q 1), aI cI (mo 5) 120 T]) rfl dX5_number_37 (fun H locs hW => ?_)
      refine lv_aload_n hx hb dX5_number_40 rfl (lv_at hl 1 rfl) ?_
      refine sg_get (ci := 4) (C := RX5) (T := TX5) (N := 15) (v := .int (nI 1)) hx hb hts (fun _ h => List.mem_cons_of_mem _ (List.mem_append_right _ h)) hown hK hW 0 0 rfl rfl rfl 11 (by decide) (hts _ (List.mem_of_getElem? (i := 2) rfl)) (congrArg (fun z => some (Value.int (nI z))) (tkM_g6 _ _ _ _ _)) dX5_number_41 ?_
      refine nn_zne (tgt := 51) hx hb dX5_number_44 (by decide) (by decide) (fun c44 => ?_) (fun c44 => ?_)
      · refine lv_iload_n hx hb dX5_number_51 rfl (lv_at hl 0 rfl) ?_
        exact rt_i hQ hx hb hr hlocks hW dX5_number_52 () rfl trivial rfl
      · exfalso; omega
    · refine lv_iload_n hx hb dX5_number_22 rfl (lv_at hl 0 rfl) ?_
      refine lv_i2l (v := (nI (mT T L q)).toInt64) hx hb dX5_number_23 rfl ?_
      refine lv_iload_n hx hb dX5_number_24 rfl (lv_at hl 2 rfl) ?_
      refine lv_iload_n hx hb dX5_number_25 rfl (lv_at hl 3 rfl) ?_
      refine cl_Si (As := [.long ((nI (mT T L q)).toInt64), .int (nI a), .int (nI b)]) (rest := [.ref (mo 0)]) ⟨hx, hb, hml, hown, hts⟩ (M_X5_in2 l D cI cJ ((nI (mT T L q)).toInt64) (nI a) (nI b) ((mT T L q : Nat) : Int) ((a : Nat) : Int) ((b : Nat) : Int) ((Int32.toInt_toInt64 _).trans (nI_toInt (n := mT T L q) (by omega))) (nI_toInt (n := a) (by omega)) (nI_toInt (n := b) (by omega))) (va_cwS 3 hts gX5_number_X5_in rfl rfl rfl qX5_in ⟨Nat.le_of_ble_eq_true rfl, Nat.le_of_ble_eq_true rfl⟩) E0_good hK hA hW trivial [] (fun _ => [mH mo (tkM R T L q 0), aI cI (mo 5) 120 T]) rfl (fun _ => rfl) (fun _ => rfl) rfl hl.1 rfl (lv_room (Nat.le_of_ble_eq_true rfl)) dX5_number_26 ⟨Nat.zero_le _, Nat.zero_le _⟩ (fun _ H locs _ hW => ?_)
      have hin_ := inZ_or ((mT T L q : Nat) : Int) ((a : Nat) : Int) ((b : Nat) : Int)
      refine nn_zne (tgt := 36) hx hb dX5_number_29 (by decide) (by omega) (fun c29 => ?_) (fun c29 => ?_)
      · exfalso; omega
      · refine lv_iconst (v := nI 1) hx hb dX5_number_32 (by decide +kernel) ?_
        refine lv_goto (tgt := 37) hx hb dX5_number_33 (by decide) ?_
        refine sg_put (ci := 4) (C := RX5) (T := TX5) (N := 15) hx hb hts (fun _ h => List.mem_cons_of_mem _ (List.mem_append_right _ h)) tyX5 tyX5_ok nmX5 hown hK hW 0 0 rfl rfl rfl 11 (by decide) (hts _ (List.mem_of_getElem? (i := 2) rfl)) rfl (by decide +kernel) (by decide +kernel) (Nat.le_of_ble_eq_true rfl) ((mH_s6 mo (tkM R T L q 0) 1).trans (congrArg (mH mo) (tkM_6 _ _ _ _ _ _))) (ss' := [mH mo (tkM R T L q 1), aI cI (mo 5) 120 T]) rfl dX5_number_37 (fun H locs hW => ?_)
        refine lv_aload_n hx hb dX5_number_40 rfl (lv_at hl 1 rfl) ?_
        refine sg_get (ci := 4) (C := RX5) (T := TX5) (N := 15) (v := .int (nI 1)) hx hb hts (fun _ h => List.mem_cons_of_mem _ (List.mem_append_right _ h)) hown hK hW 0 0 rfl rfl rfl 11 (by decide) (hts _ (List.mem_of_getElem? (i := 2) rfl)) (congrArg (fun z => some (Value.int (nI z))) (tkM_g6 _ _ _ _ _)) dX5_number_41 ?_
        refine nn_zne (tgt := 51) hx hb dX5_number_44 (by decide) (by decide) (fun c44_1 => ?_) (fun c44_1 => ?_)
        · refine lv_iload_n hx hb dX5_number_51 rfl (lv_at hl 0 rfl) ?_
          exact rt_i hQ hx hb hr hlocks hW dX5_number_52 () rfl trivial rfl
        · exfalso; omega
