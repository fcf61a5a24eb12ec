theorem qX3_takeNumber : yX3_takeNumber.cls = RX3 ∧ yX3_takeNumber.cls ≠ "java/lang/invoke/MethodHandle" ∧ yX3_takeNumber.cls ≠ "java/lang/invoke/VarHandle" ∧ (parseMethodDescriptor yX3_takeNumber.desc).map (fun d => d.parameters.length) = some 2 := by decide +kernel
theorem qX3_kindNamed : yX3_kindNamed.cls = RX3 ∧ yX3_kindNamed.cls ≠ "java/lang/invoke/MethodHandle" ∧ yX3_kindNamed.cls ≠ "java/lang/invoke/VarHandle" ∧ (parseMethodDescriptor yX3_kindNamed.desc).map (fun d => d.parameters.length) = some 0 := by decide +kernel
theorem qX3_takeMother : yX3_takeMother.cls = RX3 ∧ yX3_takeMother.cls ≠ "java/lang/invoke/MethodHandle" ∧ yX3_takeMother.cls ≠ "java/lang/invoke/VarHandle" ∧ (parseMethodDescriptor yX3_takeMother.desc).map (fun d => d.parameters.length) = some 2 := by decide +kernel
theorem qX3_takeHeavy : yX3_takeHeavy.cls = RX3 ∧ yX3_takeHeavy.cls ≠ "java/lang/invoke/MethodHandle" ∧ yX3_takeHeavy.cls ≠ "java/lang/invoke/VarHandle" ∧ (parseMethodDescriptor yX3_takeHeavy.desc).map (fun d => d.parameters.length) = some 1 := by decide +kernel
theorem qX3_takeDry : yX3_takeDry.cls = RX3 ∧ yX3_takeDry.cls ≠ "java/lang/invoke/MethodHandle" ∧ yX3_takeDry.cls ≠ "java/lang/invoke/VarHandle" ∧ (parseMethodDescriptor yX3_takeDry.desc).map (fun d => d.parameters.length) = some 1 := by decide +kernel
theorem qX3_takeWet : yX3_takeWet.cls = RX3 ∧ yX3_takeWet.cls ≠ "java/lang/invoke/MethodHandle" ∧ yX3_takeWet.cls ≠ "java/lang/invoke/VarHandle" ∧ (parseMethodDescriptor yX3_takeWet.desc).map (fun d => d.parameters.length) = some 1 := by decide +kernel
theorem qX3_takeChild : yX3_takeChild.cls = RX3 ∧ yX3_takeChild.cls ≠ "java/lang/invoke/MethodHandle" ∧ yX3_takeChild.cls ≠ "java/lang/invoke/VarHandle" ∧ (parseMethodDescriptor yX3_takeChild.desc).map (fun d => d.parameters.length) = some 1 := by decide +kernel
theorem qX3_takeItem : yX3_takeItem.cls = RX3 ∧ yX3_takeItem.cls ≠ "java/lang/invoke/MethodHandle" ∧ yX3_takeItem.cls ≠ "java/lang/invoke/VarHandle" ∧ (parseMethodDescriptor yX3_takeItem.desc).map (fun d => d.parameters.length) = some 1 := by decide +kernel
theorem qX3_addItems : yX3_addItems.cls = RX3 ∧ yX3_addItems.cls ≠ "java/lang/invoke/MethodHandle" ∧ yX3_addItems.cls ≠ "java/lang/invoke/VarHandle" ∧ (parseMethodDescriptor yX3_addItems.desc).map (fun d => d.parameters.length) = some 1 := by decide +kernel
/-! ===== items: what always holds of them ===== -/
theorem motO_is (T : Nat → Nat) (L p : Nat) (G : Nat → Nat) (k sc : Nat) : (motO T L p G k sc).1 = 1 := by unfold motO; split <;> rfl
theorem itemS_01 (T : Nat → Nat) (L p : Nat) (G : Nat → Nat) : (itemS T L p G).1 = 0 ∨ (itemS T L p G).1 = 1 := by
  unfold itemS motS motO chiS chiO raiS hevS
  (repeat' split) <;> first | exact Or.inl rfl | exact Or.inr rfl
theorem itemS_in {T : Nat → Nat} {L p : Nat} (G : Nat → Nat) (h : p ≤ L) : (itemS T L p G).2.1 ≤ L := by
  have h1 := (eT_in T h).2
  have h2 := (eT_in T h1).2
  have h3 := (eT_in T h2).2
  have h4 := (eT_in T h3).2
  unfold itemS motS motO chiS chiO raiS hevS
  (repeat' split) <;> first | exact h | exact h1 | exact h2 | exact h3 | exact h4
/-- an item takes a byte -/
theorem itemS_gt {T : Nat → Nat} {L p : Nat} {G : Nat → Nat} (h : p ≤ L) (hk : (itemS T L p G).1 = 1) : p < (itemS T L p G).2.1 := by
  have hb := bT_in T h
  have h1 := (eT_in T h).2
  have h2 := (eT_in T h1).2
  have h3 := (eT_in T h2).2
  have b1 := bT_in T h1
  have b2 := bT_in T h2
  have b3 := bT_in T h3
  have e1 := (eT_in T h1).1
  have e2 := (eT_in T h2).1
  have e3 := (eT_in T h3).1
  have g : kT T L p ≤ 12 → bT T L p < eT T L p := fun z => eT_gt h (fun y => by unfold kT at z; rw [if_pos y] at z; omega)
  revert hk
  unfold itemS motS motO chiS chiO raiS hevS
  (repeat' split) <;> first | (intro hk; exact absurd hk (by decide)) | (intro _; have g := g (by omega); show p < _; simp only []; omega)
theorem wetB_le : ∀ g, g ≤ 31 → ∀ n, n ≤ 4 → wetB g n ≤ 31 := by decide +kernel
theorem dryB_le (g n : Nat) : dryB g n ≤ g := Nat.sub_le _ _
theorem motO_ok {T : Nat → Nat} {L p b : Nat} {G : Nat → Nat} {k sc : Nat} (hG : OkG b G) (h8 : G 40 < 8) (hk : k ≤ 5) (hs : sc ≤ 99) : OkG b (motO T L p G k sc).2.2 := by
  unfold motO; split
  · exact addM_ok hG h8 hk hs (by decide)
  · exact addM_ok hG h8 hk hs (by decide)
theorem chiO_ok {T : Nat → Nat} {L p b : Nat} {G : Nat → Nat} {gr : Nat} (hG : OkG b G) (h6 : G 48 < 6) (hg : gr ≤ 200) : OkG b (chiO T L p G gr).2.2 := by
  unfold chiO; split
  · exact addC_ok hG h6 hg (by decide)
  · exact addC_ok hG h6 hg (by decide)
theorem itemS_ok {b : Nat} {G : Nat → Nat} (T : Nat → Nat) (L p : Nat) (hG : OkG b G) : OkG b (itemS T L p G).2.2 := by
  have hs := hG.s
  unfold itemS
  split
  · next hk =>
    unfold motS
    split
    · exact hG
    · split
      · split
        · next h => exact motO_ok hG (by omega) hk h.2
        · exact hG
      · exact motO_ok hG (by omega) hk (by decide)
  · split
    · unfold chiS
      split
      · exact hG
      · split
        · next h => exact chiO_ok hG (by omega) h.2
        · exact hG
    · split
      · unfold raiS
        split
        · next h => exact hG.s8 (by rw [if_pos rfl]; exact wetB_le _ hs.2.1 _ h.2)
        · exact hG
      · split
        · unfold raiS
          split
          · next h => exact hG.s8 (by rw [if_neg (by decide)]; exact Nat.le_trans (dryB_le _ _) hs.2.1)
          · exact hG
        · split
          · unfold hevS
            split
            · next h => exact hG.s16 h.2
            · exact hG
          · exact hG
theorem parS_bad {T : Nat → Nat} {L i p : Nat} {K : Nat → Nat} (hi : i ≤ 120) (h : (itemS T L p K).1 = 0) : parS T L (121 - i) p K i = (0, bT T L (itemS T L p K).2.1, K) := by
  rw [show 121 - i = (120 - i) + 1 by omega]
  exact if_pos h
theorem parS_end {T : Nat → Nat} {L i p : Nat} {K : Nat → Nat} (hi : i ≤ 120) (h : ¬ (itemS T L p K).1 = 0) (hs : sT T L (itemS T L p K).2.1 = 0) : parS T L (121 - i) p K i = (1, i, (itemS T L p K).2.2) := by
  rw [show 121 - i = (120 - i) + 1 by omega]
  exact (if_neg h).trans (if_pos hs)
theorem parS_oth {T : Nat → Nat} {L i p : Nat} {K : Nat → Nat} (hi : i ≤ 120) (h : ¬ (itemS T L p K).1 = 0) (hs : ¬ sT T L (itemS T L p K).2.1 = 0) (ht : ¬ sT T L (itemS T L p K).2.1 = 3) : parS T L (121 - i) p K i = (0, bT T L (itemS T L p K).2.1, K) := by
  rw [show 121 - i = (120 - i) + 1 by omega]
  exact ((if_neg h).trans (if_neg hs)).trans (if_neg ht)
theorem parS_go {T : Nat → Nat} {L i p : Nat} {K : Nat → Nat} (hi : i ≤ 120) (h : ¬ (itemS T L p K).1 = 0) (ht : sT T L (itemS T L p K).2.1 = 3) : parS T L (121 - i) p K i = parS T L (121 - (i + 1)) (eT T L (itemS T L p K).2.1) (itemS T L p K).2.2 (i + 1) := by
  rw [show 121 - (i + 1) = 120 - i by omega, show 121 - i = (120 - i) + 1 by omega]
  exact ((if_neg h).trans (if_neg (by omega))).trans (if_pos ht)
theorem parS_out {T : Nat → Nat} {L i p : Nat} {K : Nat → Nat} (hi : ¬ i ≤ 120) : parS T L (121 - i) p K i = (0, bT T L p, K) := by
  rw [show 121 - i = 0 by omega]; rfl
theorem greenV_0 {T : Nat → Nat} {L x : Nat} {G K : Nat → Nat} (h : parS T L 120 0 G 1 = (0, x, K)) : greenV T L G = (-1) - nI x := by
  unfold greenV; rw [h]; rfl
theorem greenV_1 {T : Nat → Nat} {L x : Nat} {G K : Nat → Nat} (h : parS T L 120 0 G 1 = (1, x, K)) : greenV T L G = nI x := by
  unfold greenV; rw [h]; rfl
theorem greenG_0 {T : Nat → Nat} {L : Nat} {G : Nat → Nat} (h : (parS T L 120 0 G 1).1 = 0) : greenG T L G = G := if_pos h
theorem greenG_1 {T : Nat → Nat} {L : Nat} {G : Nat → Nat} (h : (parS T L 120 0 G 1).1 = 1) : greenG T L G = (parS T L 120 0 G 1).2.2 := if_neg (by rw [h]; decide)
theorem parS_01 {T : Nat → Nat} {L : Nat} (hL : L ≤ 120) {b : Nat} : ∀ (f p : Nat) (G : Nat → Nat) (n : Nat), p ≤ L → OkG b G → ((parS T L f p G n).1 = 0 ∧ (parS T L f p G n).2.1 ≤ 120) ∨ ((parS T L f p G n).1 = 1 ∧ (parS T L f p G n).2.1 ≤ n + f ∧ OkG b (parS T L f p G n).2.2)
  | 0, p, G, n, hp, hG => Or.inl ⟨rfl, Nat.le_trans (bT_in T hp).2 hL⟩
  | f + 1, p, G, n, hp, hG => by
    have h1 := itemS_in (T := T) G hp
    have h2 := itemS_ok T L p hG
    have h3 := bT_in T h1
    have h4 := (eT_in T h1).2
    have ih := parS_01 (T := T) hL f (eT T L (itemS T L p G).2.1) (itemS T L p G).2.2 (n + 1) h4 h2
    unfold parS
    split
    · exact Or.inl ⟨rfl, by show bT T L (itemS T L p G).2.1 ≤ 120; omega⟩
    · split
      · exact Or.inr ⟨rfl, by show n ≤ n + (f + 1); omega, h2⟩
      · split
        · rcases ih with ih | ⟨i1, i2, i3⟩
          · exact Or.inl ih
          · exact Or.inr ⟨i1, by omega, i3⟩
        · exact Or.inl ⟨rfl, by show bT T L (itemS T L p G).2.1 ≤ 120; omega⟩
abbrev rmX3_takeHeavy : Room := { frames := 3, cells := 0, slots := 0, locals := 65 }
set_option maxRecDepth 100000 in
set_option maxHeartbeats 4000000 in
theorem M_X3_takeHeavy (l : Launch) (D : va_G) (cI cJ : ClassId) (tp T R ga G : Nat → Nat) (L q : Nat) (hL0 : R 0 = L) (hL : L ≤ 120) (hq : q ≤ L) (hT : ∀ i, T i < 256) (b : Nat) (hb30 : b < 2 ^ 30) (hG : OkG b G) : CE E0 l D vwCl [(cI, .int), (cJ, .long)] yX3_takeHeavy wsX3_takeHeavy rmX3_takeHeavy [.ref (tp 0), .ref (ga 0)] [tW cI tp T (tk R T L q), gW cI ga G] (S := Unit) (some (.int (nI ((hevS T L q G).1)))) (fun _ => True) (fun _ : Unit => [tW cI tp T (tk R T L (hevS T L q G).2.1), gW cI ga (hevS T L q G).2.2]) 0 0 := by
  refine CE.ofW (cc := cX3_takeHeavy) (maxL := 2) (ret := (some .boolean)) (lv := [(0, .ref (tp 0)), (1, .ref (ga 0))]) (by decide) rfl (Nat.le_of_ble_eq_true rfl) rfl ?_
  intro p e s m args below meth c ls A Q hQ hx hb hml hr hlocks hnm hown hts hK hA hE hW hl
  have hown : s.vm.findClass RX3 = some m.cls := hown
  obtain ⟨hg0, hg8, hg16, hg16b, hg24, hg32, hg40, hg48⟩ := hG.s
  refine lv_aload_n hx hb dX3_takeHeavy_0 rfl (lv_at hl 0 rfl) ?_
  refine lv_iconst (v := nI 1) hx hb dX3_takeHeavy_1 (by decide +kernel) ?_
  refine lv_bipush (v := nI 50) hx hb dX3_takeHeavy_2 (by decide +kernel) ?_
  refine cl_Vi (As := [.int (nI 1), .int (nI 50)]) (rest := []) (C := RX3) ⟨hx, hb, hml, hown, hts⟩ (M_X3_takeNumber l D cI cJ tp T R L q hL0 hL (by omega) hT 1 50 (by decide) (by decide)) (cwV 2 hts gX3_takeHeavy_X3_takeNumber rfl rfl rfl qX3_takeNumber ⟨Nat.le_of_ble_eq_true rfl, Nat.le_of_ble_eq_true rfl⟩) E0_good hK hA hW trivial [true] (fun _ => [tW cI tp T (tk R T L (eT T L q)), gW cI ga G]) rfl (fun _ => rfl) (fun _ => rfl) 0 0 rfl rfl rfl rfl hl.1 rfl (lv_room (Nat.le_of_ble_eq_true rfl)) dX3_takeHeavy_4 ⟨Nat.zero_le _, Nat.zero_le _⟩ (fun _ H locs _ hW => ?_)
  have hei_ := (eT_in T (L := L) (p := q) (by omega)).2
  have hok_ := okN_or T L (eT T L q) 1 50
  have hnl_ := nT_le T L (eT T L q)
  refine nn_zne (tgt := 12) hx hb dX3_takeHeavy_7 (by decide) (by omega) (fun c7 => ?_) (fun c7 => ?_)
  · refine lv_aload_n hx hb dX3_takeHeavy_12 rfl (lv_at hl 1 rfl) ?_
    refine lv_aload_n hx hb dX3_takeHeavy_13 rfl (lv_at hl 0 rfl) ?_
    refine sg_get (ci := 2) (C := RX3) (T := TX3) (N := 6) (v := .int (nI (nT T L (eT T L q)))) hx hb hts (fun _ h => List.mem_cons_of_mem _ (List.mem_append_left _ (List.mem_append_right _ h))) hown hK hW 0 0 rfl rfl rfl 5 (by decide) (hts _ (List.mem_of_getElem? (i := 1) rfl)) (congrArg (fun z => some (Value.int (nI z))) (tk_g4 _ _ _ _)) dX3_takeHeavy_14 ?_
    refine sg_put (ci := 0) (C := RX0) (T := TX0) (N := 14) hx hb hts (fun _ h => List.mem_cons_of_mem _ (List.mem_append_right _ h)) tyX0 tyX0_ok nmX0 hown hK hW 1 0 rfl rfl rfl 2 (by decide) (hts _ (List.mem_of_getElem? (i := 2) rfl)) rfl rfl rfl (Nat.le_of_ble_eq_true rfl) (gW_s16 cI ga G (nT T L (eT T L q))) (ss' := [tW cI tp T (tk R T L (eT T L q)), gW cI ga (up G 16 (nT T L (eT T L q)))]) rfl dX3_takeHeavy_17 (fun H locs hW => ?_)
    refine lv_aload_n hx hb dX3_takeHeavy_20 rfl (lv_at hl 0 rfl) ?_
    refine cl_Vv (As := []) (rest := []) (C := RX3) ⟨hx, hb, hml, hown, hts⟩ (M_X3_adv l D cI cJ tp T R L (eT T L q) hL0 hL (by omega) hT) (cwV 0 hts gX3_takeHeavy_X3_advance rfl rfl rfl qX3_advance ⟨Nat.le_of_ble_eq_true rfl, Nat.le_of_ble_eq_true rfl⟩) E0_good hK hA hW trivial [true] (fun _ => [tW cI tp T (tk R T L (eT T L (eT T L q))), gW cI ga (up G 16 (nT T L (eT T L q)))]) rfl (fun _ => rfl) (fun _ => rfl) 0 0 rfl rfl rfl rfl hl.1 rfl (lv_room (Nat.le_of_ble_eq_true rfl)) dX3_takeHeavy_21 ⟨Nat.zero_le _, Nat.zero_le _⟩ (fun _ H locs _ hW => ?_)
    have hei_ := (eT_in T (L := L) (p := eT T L q) (by omega)).2
    have hnl_ := nT_le T L (eT T L (eT T L q))
    have hsl_ := sT_le T L (eT T L (eT T L q))
    have hkl_ := kT_le T L (eT T L (eT T L q))
    refine lv_iconst (v := nI 1) hx hb dX3_takeHeavy_24 (by decide +kernel) ?_
    exact rt_z hQ hx hb hr hlocks hW dX3_takeHeavy_25 (by decide +kernel) () (by simp only [hevS]; (repeat' split) <;> first | rfl | (exfalso; omega)) trivial (by simp only [hevS]; (repeat' split) <;> first | rfl | (exfalso; omega))
  · refine lv_iconst (v := nI 0) hx hb dX3_takeHeavy_10 (by decide +kernel) ?_
    exact rt_z hQ hx hb hr hlocks hW dX3_takeHeavy_11 (by decide +kernel) () (by simp only [hevS]; (repeat' split) <;> first | rfl | (exfalso; omega)) trivial (by simp only [hevS]; (repeat' split) <;> first | rfl | (exfalso; omega))
abbrev rmX3_takeWet : Room := { frames := 3, cells := 0, slots := 0, locals := 65 }
set_option maxRecDepth 100000 in
set_option maxHeartbeats 4000000 in
theorem M_X3_takeWet (l : Launch) (D : va_G) (cI cJ : ClassId) (tp T R ga G : Nat → Nat) (L q : Nat) (hL0 : R 0 = L) (hL : L ≤ 120) (hq : q ≤ L) (hT : ∀ i, T i < 256) (b : Nat) (hb30 : b < 2 ^ 30) (hG : OkG b G) : CE E0 l D vwCl [(cI, .int), (cJ, .long)] yX3_takeWet wsX3_takeWet rmX3_takeWet [.ref (tp 0), .ref (ga 0)] [tW cI tp T (tk R T L q), gW cI ga G] (S := Unit) (some (.int (nI ((raiS T L q G 1).1)))) (fun _ => True) (fun _ : Unit => [tW cI tp T (tk R T L (raiS T L q G 1).2.1), gW cI ga (raiS T L q G 1).2.2]) 0 0 := by
  refine CE.ofW (cc := cX3_takeWet) (maxL := 2) (ret := (some .boolean)) (lv := [(0, .ref (tp 0)), (1, .ref (ga 0))]) (by decide) rfl (Nat.le_of_ble_eq_true rfl) rfl ?_
  intro p e s m args below meth c ls A Q hQ hx hb hml hr hlocks hnm hown hts hK hA hE hW hl
  have hown : s.vm.findClass RX3 = some m.cls := hown
  obtain ⟨hg0, hg8, hg16, hg16b, hg24, hg32, hg40, hg48⟩ := hG.s
  refine lv_aload_n hx hb dX3_takeWet_0 rfl (lv_at hl 0 rfl) ?_
  refine lv_iconst (v := nI 0) hx hb dX3_takeWet_1 (by decide +kernel) ?_
  refine lv_iconst (v := nI 4) hx hb dX3_takeWet_2 (by decide +kernel) ?_
  refine cl_Vi (As := [.int (nI 0), .int (nI 4)]) (rest := []) (C := RX3) ⟨hx, hb, hml, hown, hts⟩ (M_X3_takeNumber l D cI cJ tp T R L q hL0 hL (by omega) hT 0 4 (by decide) (by decide)) (cwV 2 hts gX3_takeWet_X3_takeNumber rfl rfl rfl qX3_takeNumber ⟨Nat.le_of_ble_eq_true rfl, Nat.le_of_ble_eq_true rfl⟩) E0_good hK hA hW trivial [true] (fun _ => [tW cI tp T (tk R T L (eT T L q)), gW cI ga G]) rfl (fun _ => rfl) (fun _ => rfl) 0 0 rfl rfl rfl rfl hl.1 rfl (lv_room (Nat.le_of_ble_eq_true rfl)) dX3_takeWet_3 ⟨Nat.zero_le _, Nat.zero_le _⟩ (fun _ H locs _ hW => ?_)
  have hei_ := (eT_in T (L := L) (p := q) (by omega)).2
  have hok_ := okN_or T L (eT T L q) 0 4
  have hnl_ := nT_le T L (eT T L q)
  refine nn_zne (tgt := 11) hx hb dX3_takeWet_6 (by decide) (by omega) (fun c6 => ?_) (fun c6 => ?_)
  · refine lv_aload_n hx hb dX3_takeWet_11 rfl (lv_at hl 1 rfl) ?_
    refine lv_dup hx hb dX3_takeWet_12 rfl ?_
    refine sg_get (ci := 0) (C := RX0) (T := TX0) (N := 14) (v := .int (nI (G 8))) hx hb hts (fun _ h => List.mem_cons_of_mem _ (List.mem_append_left _ (List.mem_append_right _ h))) hown hK hW 1 0 rfl rfl rfl 1 (by decide) (hts _ (List.mem_of_getElem? (i := 1) rfl)) rfl dX3_takeWet_13 ?_
    refine lv_iconst (v := nI 1) hx hb dX3_takeWet_16 (by decide +kernel) ?_
    refine lv_aload_n hx hb dX3_takeWet_17 rfl (lv_at hl 0 rfl) ?_
    refine sg_get (ci := 2) (C := RX3) (T := TX3) (N := 6) (v := .int (nI (nT T L (eT T L q)))) hx hb hts (fun _ h => List.mem_cons_of_mem _ (List.mem_append_right _ h)) hown hK hW 0 0 rfl rfl rfl 5 (by decide) (hts _ (List.mem_of_getElem? (i := 2) rfl)) (congrArg (fun z => some (Value.int (nI z))) (tk_g4 _ _ _ _)) dX3_takeWet_18 ?_
    refine nn_shl hx hb dX3_takeWet_21 (by omega) ?_
    refine nn_or hx hb dX3_takeWet_22 ?_
    refine W.top (v' := .int (nI (wetB (G 8) (nT T L (eT T L q))))) (by unfold wetB; rw [Nat.one_mul]) ?_
    refine sg_put (ci := 0) (C := RX0) (T := TX0) (N := 14) hx hb hts (fun _ h => List.mem_cons_of_mem _ (List.mem_append_left _ (List.mem_append_right _ h))) tyX0 tyX0_ok nmX0 hown hK hW 1 0 rfl rfl rfl 1 (by decide) (hts _ (List.mem_of_getElem? (i := 1) rfl)) rfl rfl rfl (Nat.le_of_ble_eq_true rfl) (gW_s8 cI ga G (wetB (G 8) (nT T L (eT T L q)))) (ss' := [tW cI tp T (tk R T L (eT T L q)), gW cI ga (up G 8 (wetB (G 8) (nT T L (eT T L q))))]) rfl dX3_takeWet_23 (fun H locs hW => ?_)
    refine lv_aload_n hx hb dX3_takeWet_26 rfl (lv_at hl 0 rfl) ?_
    refine cl_Vv (As := []) (rest := []) (C := RX3) ⟨hx, hb, hml, hown, hts⟩ (M_X3_adv l D cI cJ tp T R L (eT T L q) hL0 hL (by omega) hT) (cwV 0 hts gX3_takeWet_X3_advance rfl rfl rfl qX3_advance ⟨Nat.le_of_ble_eq_true rfl, Nat.le_of_ble_eq_true rfl⟩) E0_good hK hA hW trivial [true] (fun _ => [tW cI tp T (tk R T L (eT T L (eT T L q))), gW cI ga (up G 8 (wetB (G 8) (nT T L (eT T L q))))]) rfl (fun _ => rfl) (fun _ => rfl) 0 0 rfl rfl rfl rfl hl.1 rfl (lv_room (Nat.le_of_ble_eq_true rfl)) dX3_takeWet_27 ⟨Nat.zero_le _, Nat.zero_le _⟩ (fun _ H locs _ hW => ?_)
    have hei_ := (eT_in T (L := L) (p := eT T L q) (by omega)).2
    have hnl_ := nT_le T L (eT T L (eT T L q))
    have hsl_ := sT_le T L (eT T L (eT T L q))
    have hkl_ := kT_le T L (eT T L (eT T L q))
    refine lv_iconst (v := nI 1) hx hb dX3_takeWet_30 (by decide +kernel) ?_
    exact rt_z hQ hx hb hr hlocks hW dX3_takeWet_31 (by decide +kernel) () (by simp only [raiS]; (repeat' split) <;> first | rfl | (exfalso; omega)) trivial (by simp only [raiS]; (repeat' split) <;> first | rfl | (exfalso; omega))
  · refine lv_iconst (v := nI 0) hx hb dX3_takeWet_9 (by decide +kernel) ?_
    exact rt_z hQ hx hb hr hlocks hW dX3_takeWet_10 (by decide +kernel) () (by simp only [raiS]; (repeat' split) <;> first | rfl | (exfalso; omega)) trivial (by simp only [raiS]; (repeat' split) <;> first | rfl | (exfalso; omega))
abbrev rmX3_takeDry : Room := { frames := 3, cells := 0, slots := 0, locals := 65 }
set_option maxRecDepth 100000 in
set_option maxHeartbeats 4000000 in
theorem M_X3_takeDry (l : Launch) (D : va_G) (cI cJ : ClassId) (tp T R ga G : Nat → Nat) (L q : Nat) (hL0 : R 0 = L) (hL : L ≤ 120) (hq : q ≤ L) (hT : ∀ i, T i < 256) (b : Nat) (hb30 : b < 2 ^ 30) (hG : OkG b G) : CE E0 l D vwCl [(cI, .int), (cJ, .long)] yX3_takeDry wsX3_takeDry rmX3_takeDry [.ref (tp 0), .ref (ga 0)] [tW cI tp T (tk R T L q), gW cI ga G] (S := Unit) (some (.int (nI ((raiS T L q G 0).1)))) (fun _ => True) (fun _ : Unit => [tW cI tp T (tk R T L (raiS T L q G 0).2.1), gW cI ga (raiS T L q G 0).2.2]) 0 0 := by
  refine CE.ofW (cc := cX3_takeDry) (maxL := 2) (ret := (some .boolean)) (lv := [(0, .ref (tp 0)), (1, .ref (ga 0))]) (by decide) rfl (Nat.le_of_ble_eq_true rfl) rfl ?_
  intro p e s m args below meth c ls A Q hQ hx hb hml hr hlocks hnm hown hts hK hA hE hW hl
  have hown : s.vm.findClass RX3 = some m.cls := hown
  obtain ⟨hg0, hg8, hg16, hg16b, hg24, hg32, hg40, hg48⟩ := hG.s
  refine lv_aload_n hx hb dX3_takeDry_0 rfl (lv_at hl 0 rfl) ?_
  refine lv_iconst (v := nI 0) hx hb dX3_takeDry_1 (by decide +kernel) ?_
  refine lv_iconst (v := nI 4) hx hb dX3_takeDry_2 (by decide +kernel) ?_
  refine cl_Vi (As := [.int (nI 0), .int (nI 4)]) (rest := []) (C := RX3) ⟨hx, hb, hml, hown, hts⟩ (M_X3_takeNumber l D cI cJ tp T R L q hL0 hL (by omega) hT 0 4 (by decide) (by decide)) (cwV 2 hts gX3_takeDry_X3_takeNumber rfl rfl rfl qX3_takeNumber ⟨Nat.le_of_ble_eq_true rfl, Nat.le_of_ble_eq_true rfl⟩) E0_good hK hA hW trivial [true] (fun _ => [tW cI tp T (tk R T L (eT T L q)), gW cI ga G]) rfl (fun _ => rfl) (fun _ => rfl) 0 0 rfl rfl rfl rfl hl.1 rfl (lv_room (Nat.le_of_ble_eq_true rfl)) dX3_takeDry_3 ⟨Nat.zero_le _, Nat.zero_le _⟩ (fun _ H locs _ hW => ?_)
  have hei_ := (eT_in T (L := L) (p := q) (by omega)).2
  have hok_ := okN_or T L (eT T L q) 0 4
  have hnl_ := nT_le T L (eT T L q)
  refine nn_zne (tgt := 11) hx hb dX3_takeDry_6 (by decide) (by omega) (fun c6 => ?_) (fun c6 => ?_)
  · refine lv_aload_n hx hb dX3_takeDry_11 rfl (lv_at hl 1 rfl) ?_
    refine lv_dup hx hb dX3_takeDry_12 rfl ?_
    refine sg_get (ci := 0) (C := RX0) (T := TX0) (N := 14) (v := .int (nI (G 8))) hx hb hts (fun _ h => List.mem_cons_of_mem _ (List.mem_append_left _ (List.mem_append_right _ h))) hown hK hW 1 0 rfl rfl rfl 1 (by decide) (hts _ (List.mem_of_getElem? (i := 1) rfl)) rfl dX3_takeDry_13 ?_
    refine lv_iconst (v := nI 1) hx hb dX3_takeDry_16 (by decide +kernel) ?_
    refine lv_aload_n hx hb dX3_takeDry_17 rfl (lv_at hl 0 rfl) ?_
    refine sg_get (ci := 2) (C := RX3) (T := TX3) (N := 6) (v := .int (nI (nT T L (eT T L q)))) hx hb hts (fun _ h => List.mem_cons_of_mem _ (List.mem_append_right _ h)) hown hK hW 0 0 rfl rfl rfl 5 (by decide) (hts _ (List.mem_of_getElem? (i := 2) rfl)) (congrArg (fun z => some (Value.int (nI z))) (tk_g4 _ _ _ _)) dX3_takeDry_18 ?_
    refine nn_shl hx hb dX3_takeDry_21 (by omega) ?_
    refine lv_iconst (v := -1) hx hb dX3_takeDry_22 (by decide +kernel) ?_
    refine lv_ixor hx hb dX3_takeDry_23 ?_
    refine lv_iand hx hb dX3_takeDry_24 ?_
    refine W.top (v' := .int (nI (dryB (G 8) (nT T L (eT T L q))))) (congrArg Value.int (clr_eq _ (by omega) _ (by omega)).1) ?_
    refine sg_put (ci := 0) (C := RX0) (T := TX0) (N := 14) hx hb hts (fun _ h => List.mem_cons_of_mem _ (List.mem_append_left _ (List.mem_append_right _ h))) tyX0 tyX0_ok nmX0 hown hK hW 1 0 rfl rfl rfl 1 (by decide) (hts _ (List.mem_of_getElem? (i := 1) rfl)) rfl rfl rfl (Nat.le_of_ble_eq_true rfl) (gW_s8 cI ga G (dryB (G 8) (nT T L (eT T L q)))) (ss' := [tW cI tp T (tk R T L (eT T L q)), gW cI ga (up G 8 (dryB (G 8) (nT T L (eT T L q))))]) rfl dX3_takeDry_25 (fun H locs hW => ?_)
    refine lv_aload_n hx hb dX3_takeDry_28 rfl (lv_at hl 0 rfl) ?_
    refine cl_Vv (As := []) (rest := []) (C := RX3) ⟨hx, hb, hml, hown, hts⟩ (M_X3_adv l D cI cJ tp T R L (eT T L q) hL0 hL (by omega) hT) (cwV 0 hts gX3_takeDry_X3_advance rfl rfl rfl qX3_advance ⟨Nat.le_of_ble_eq_true rfl, Nat.le_of_ble_eq_true rfl⟩) E0_good hK hA hW trivial [true] (fun _ => [tW cI tp T (tk R T L (eT T L (eT T L q))), gW cI ga (up G 8 (dryB (G 8) (nT T L (eT T L q))))]) rfl (fun _ => rfl) (fun _ => rfl) 0 0 rfl rfl rfl rfl hl.1 rfl (lv_room (Nat.le_of_ble_eq_true rfl)) dX3_takeDry_29 ⟨Nat.zero_le _, Nat.zero_le _⟩ (fun _ H locs _ hW => ?_)
    have hei_ := (eT_in T (L := L) (p := eT T L q) (by omega)).2
    have hnl_ := nT_le T L (eT T L (eT T L q))
    have hsl_ := sT_le T L (eT T L (eT T L q))
    have hkl_ := kT_le T L (eT T L (eT T L q))
    refine lv_iconst (v := nI 1) hx hb dX3_takeDry_32 (by decide +kernel) ?_
    exact rt_z hQ hx hb hr hlocks hW dX3_takeDry_33 (by decide +kernel) () (by simp only [raiS]; (repeat' split) <;> first | rfl | (exfalso; omega)) trivial (by simp only [raiS]; (repeat' split) <;> first | rfl | (exfalso; omega))
  · refine lv_iconst (v := nI 0) hx hb dX3_takeDry_9 (by decide +kernel) ?_
    exact rt_z hQ hx hb hr hlocks hW dX3_takeDry_10 (by decide +kernel) () (by simp only [raiS]; (repeat' split) <;> first | rfl | (exfalso; omega)) trivial (by simp only [raiS]; (repeat' split) <;> first | rfl | (exfalso; omega))
abbrev rmX3_takeChild : Room := { frames := 6, cells := 0, slots := 0, locals := 128 }
set_option maxRecDepth 100000 in
set_option maxHeartbeats 4000000 in
theorem M_X3_takeChild (l : Launch) (D : va_G) (cI cJ : ClassId) (aK aV : Nat → Nat) (tp T R ga G : Nat → Nat) (L q : Nat) (hL0 : R 0 = L) (hL : L ≤ 120) (hq : q ≤ L) (hT : ∀ i, T i < 256) (b : Nat) (hb30 : b < 2 ^ 30) (hG : OkG b G) : CE (ES aK aV) l D vwCl [(cI, .int), (cJ, .long)] yX3_takeChild wsX3_takeChild rmX3_takeChild [.ref (tp 0), .ref (ga 0)] [tW cI tp T (tk R T L q), gW cI ga G] (S := Unit) (some (.int (nI ((chiS T L q G).1)))) (fun _ => True) (fun _ : Unit => [tW cI tp T (tk R T L (chiS T L q G).2.1), gW cI ga (chiS T L q G).2.2]) 0 0 := by
  refine CE.ofW (cc := cX3_takeChild) (maxL := 4) (ret := (some .boolean)) (lv := [(0, .ref (tp 0)), (1, .ref (ga 0))]) (by decide) rfl (Nat.le_of_ble_eq_true rfl) rfl ?_
  intro p e s m args below meth c ls A Q hQ hx hb hml hr hlocks hnm hown hts hK hA hE hW hl
  have hown : s.vm.findClass RX3 = some m.cls := hown
  obtain ⟨hg0, hg8, hg16, hg16b, hg24, hg32, hg40, hg48⟩ := hG.s
  refine lv_aload_n hx hb dX3_takeChild_0 rfl (lv_at hl 1 rfl) ?_
  refine sg_get (ci := 0) (C := RX0) (T := TX0) (N := 14) (v := .int (nI (G 48))) hx hb hts (fun _ h => List.mem_cons_of_mem _ (List.mem_append_left _ (List.mem_append_right _ h))) hown hK hW 1 0 rfl rfl rfl 10 (by decide) (hts _ (List.mem_of_getElem? (i := 1) rfl)) rfl dX3_takeChild_1 ?_
  refine lv_bipush (v := nI 6) hx hb dX3_takeChild_4 (by decide +kernel) ?_
  refine nn_cge (tgt := 20) hx hb dX3_takeChild_6 (by decide) (by omega) (by decide) (fun c6 => ?_) (fun c6 => ?_)
  · refine lv_iconst (v := nI 0) hx hb dX3_takeChild_20 (by decide +kernel) ?_
    exact rt_z hQ hx hb hr hlocks hW dX3_takeChild_21 (by decide +kernel) () (by simp only [chiS, chiO]; (repeat' split) <;> first | rfl | (exfalso; omega)) trivial (by simp only [chiS, chiO]; (repeat' split) <;> first | rfl | (exfalso; omega))
  · refine lv_aload_n hx hb dX3_takeChild_9 rfl (lv_at hl 0 rfl) ?_
    refine lv_iconst (v := nI 0) hx hb dX3_takeChild_10 (by decide +kernel) ?_
    refine lv_sipush (v := nI 200) hx hb dX3_takeChild_11 (by decide +kernel) ?_
    refine cl_Vi (As := [.int (nI 0), .int (nI 200)]) (rest := []) (C := RX3) ⟨hx, hb, hml, hown, hts⟩ (M_X3_takeNumber l D cI cJ tp T R L q hL0 hL (by omega) hT 0 200 (by decide) (by decide)) (cwV 2 hts gX3_takeChild_X3_takeNumber rfl rfl rfl qX3_takeNumber ⟨Nat.le_of_ble_eq_true rfl, Nat.le_of_ble_eq_true rfl⟩) E0_good hK hA hW trivial [true] (fun _ => [tW cI tp T (tk R T L (eT T L q)), gW cI ga G]) rfl (fun _ => rfl) (fun _ => rfl) 0 0 rfl rfl rfl rfl hl.1 rfl (lv_room (Nat.le_of_ble_eq_true rfl)) dX3_takeChild_14 ⟨Nat.zero_le _, Nat.zero_le _⟩ (fun _ H locs _ hW => ?_)
    have hei_ := (eT_in T (L := L) (p := q) (by omega)).2
    have hok_ := okN_or T L (eT T L q) 0 200
    have hnl_ := nT_le T L (eT T L q)
    refine nn_zne (tgt := 22) hx hb dX3_takeChild_17 (by decide) (by omega) (fun c17 => ?_) (fun c17 => ?_)
    · refine lv_aload_n hx hb dX3_takeChild_22 rfl (lv_at hl 0 rfl) ?_
      refine sg_get (ci := 2) (C := RX3) (T := TX3) (N := 6) (v := .int (nI (nT T L (eT T L q)))) hx hb hts (fun _ h => List.mem_cons_of_mem _ (List.mem_append_right _ h)) hown hK hW 0 0 rfl rfl rfl 5 (by decide) (hts _ (List.mem_of_getElem? (i := 2) rfl)) (congrArg (fun z => some (Value.int (nI z))) (tk_g4 _ _ _ _)) dX3_takeChild_23 ?_
      refine lv_istore_n (lv' := [(2, .int (nI (nT T L (eT T L q)))), (0, .ref (tp 0)), (1, .ref (ga 0))]) hx hb dX3_takeChild_26 rfl hl (by decide) rfl (fun ls hl => ?_)
      refine lv_aload_n hx hb dX3_takeChild_27 rfl (lv_at hl 1 rfl) ?_
      refine cl_Vv (As := []) (rest := []) (C := RX3) ⟨hx, hb, hml, hown, hts⟩ (M_X3_adv l D cI cJ tp T R L (eT T L q) hL0 hL (by omega) hT) (cwV 0 hts gX3_takeChild_X3_advance rfl rfl rfl qX3_advance ⟨Nat.le_of_ble_eq_true rfl, Nat.le_of_ble_eq_true rfl⟩) E0_good hK hA hW trivial [true] (fun _ => [tW cI tp T (tk R T L (eT T L (eT T L q))), gW cI ga G]) rfl (fun _ => rfl) (fun _ => rfl) 0 0 rfl rfl rfl rfl hl.1 rfl (lv_room (Nat.le_of_ble_eq_true rfl)) dX3_takeChild_28 ⟨Nat.zero_le _, Nat.zero_le _⟩ (fun _ H locs _ hW => ?_)
      have hei_ := (eT_in T (L := L) (p := eT T L q) (by omega)).2
      have hnl_ := nT_le T L (eT T L (eT T L q))
      have hsl_ := sT_le T L (eT T L (eT T L q))
      have hkl_ := kT_le T L (eT T L (eT T L q))
      refine lv_iconst (v := nI 0) hx hb dX3_takeChild_31 (by decide +kernel) ?_
      refine lv_istore_n (lv' := [(3, .int (nI 0)), (2, .int (nI (nT T L (eT T L q)))), (0, .ref (tp 0)), (1, .ref (ga 0))]) hx hb dX3_takeChild_32 rfl hl (by decide) rfl (fun ls hl => ?_)
      refine lv_aload_n hx hb dX3_takeChild_33 rfl (lv_at hl 2 rfl) ?_
      refine va_ldcS (index := 101) (tx := "on") (q := aK 9) hx hb hown (hE.1 9 (by decide)) dX3_takeChild_34 ?_
      refine cw_Vi (As := [.ref (aK 9)]) (rest := []) (C := RX3) ⟨hx, hb, hml, hown, hts⟩ (M_X3_isWord l D cI cJ aK aV tp T R L (eT T L (eT T L q)) hL (by omega) hT 9 (by decide)) (cwV 1 hts gX3_takeChild_X3_isWord rfl rfl rfl qX3_isWord ⟨Nat.le_of_ble_eq_true rfl, Nat.le_of_ble_eq_true rfl⟩) (ES_good aK aV) hK hA hW hE [true] (fun _ => [tW cI tp T (tk R T L (eT T L (eT T L q))), gW cI ga G]) rfl (fun _ => rfl) (fun _ => rfl) 0 0 rfl rfl rfl rfl hl.1 rfl (lv_room (Nat.le_of_ble_eq_true rfl)) dX3_takeChild_36 ⟨Nat.zero_le _, Nat.zero_le _⟩ (fun _ H locs _ hW => ?_)
      have hw_ := wB_or T L (eT T L (eT T L q)) 9
      refine nn_zeq (tgt := 48) hx hb dX3_takeChild_39 (by decide) (by omega) (fun c39 => ?_) (fun c39 => ?_)
      · refine lv_aload_n hx hb dX3_takeChild_48 rfl (lv_at hl 3 rfl) ?_
        refine lv_iload_n hx hb dX3_takeChild_49 rfl (lv_at hl 1 rfl) ?_
        refine lv_iload_n hx hb dX3_takeChild_50 rfl (lv_at hl 0 rfl) ?_
        refine cl_Vi (As := [.int (nI (nT T L (eT T L q))), .int (nI 0)]) (rest := []) (C := RX0) ⟨hx, hb, hml, hown, hts⟩ (M_X0_addChild l D cI cJ ga G b hb30 hG (nT T L (eT T L q)) 0 (by omega)) (cwV 2 hts gX3_takeChild_X0_addChild rfl rfl rfl qX0_addChild ⟨Nat.le_of_ble_eq_true rfl, Nat.le_of_ble_eq_true rfl⟩) E0_good hK hA hW trivial [false, true] (fun _ => [tW cI tp T (tk R T L (eT T L (eT T L q))), gW cI ga (addC G (nT T L (eT T L q)) 0)]) rfl (fun _ => rfl) (fun _ => rfl) 1 0 rfl rfl rfl rfl hl.1 rfl (lv_room (Nat.le_of_ble_eq_true rfl)) dX3_takeChild_51 ⟨Nat.zero_le _, Nat.zero_le _⟩ (fun _ H locs _ hW => ?_)
        refine lv_pop hx hb dX3_takeChild_54 rfl ?_
        refine lv_iconst (v := nI 1) hx hb dX3_takeChild_55 (by decide +kernel) ?_
        exact rt_z hQ hx hb hr hlocks hW dX3_takeChild_56 (by decide +kernel) () (by simp only [chiS, chiO]; (repeat' split) <;> first | rfl | (exfalso; omega)) trivial (by simp only [chiS, chiO]; (repeat' split) <;> first | rfl | (exfalso; omega))
      · refine lv_iconst (v := nI 1) hx hb dX3_takeChild_42 (by decide +kernel) ?_
        refine lv_istore_n (lv' := [(3, .int (nI 1)), (2, .int (nI (nT T L (eT T L q)))), (0, .ref (tp 0)), (1, .ref (ga 0))]) hx hb dX3_takeChild_43 rfl hl (by decide) rfl (fun ls hl => ?_)
        refine lv_aload_n hx hb dX3_takeChild_44 rfl (lv_at hl 2 rfl) ?_
        refine cl_Vv (As := []) (rest := []) (C := RX3) ⟨hx, hb, hml, hown, hts⟩ (M_X3_adv l D cI cJ tp T R L (eT T L (eT T L q)) hL0 hL (by omega) hT) (cwV 0 hts gX3_takeChild_X3_advance rfl rfl rfl qX3_advance ⟨Nat.le_of_ble_eq_true rfl, Nat.le_of_ble_eq_true rfl⟩) E0_good hK hA hW trivial [true] (fun _ => [tW cI tp T (tk R T L (eT T L (eT T L (eT T L q)))), gW cI ga G]) rfl (fun _ => rfl) (fun _ => rfl) 0 0 rfl rfl rfl rfl hl.1 rfl (lv_room (Nat.le_of_ble_eq_true rfl)) dX3_takeChild_45 ⟨Nat.zero_le _, Nat.zero_le _⟩ (fun _ H locs _ hW => ?_)
        have hei_ := (eT_in T (L := L) (p := eT T L (eT T L q)) (by omega)).2
        have hnl_ := nT_le T L (eT T L (eT T L (eT T L q)))
        have hsl_ := sT_le T L (eT T L (eT T L (eT T L q)))
        have hkl_ := kT_le T L (eT T L (eT T L (eT T L q)))
        refine lv_aload_n hx hb dX3_takeChild_48 rfl (lv_at hl 3 rfl) ?_
        refine lv_iload_n hx hb dX3_takeChild_49 rfl (lv_at hl 1 rfl) ?_
        refine lv_iload_n hx hb dX3_takeChild_50 rfl (lv_at hl 0 rfl) ?_
        refine cl_Vi (As := [.int (nI (nT T L (eT T L q))), .int (nI 1)]) (rest := []) (C := RX0) ⟨hx, hb, hml, hown, hts⟩ (M_X0_addChild l D cI cJ ga G b hb30 hG (nT T L (eT T L q)) 1 (by omega)) (cwV 2 hts gX3_takeChild_X0_addChild rfl rfl rfl qX0_addChild ⟨Nat.le_of_ble_eq_true rfl, Nat.le_of_ble_eq_true rfl⟩) E0_good hK hA hW trivial [false, true] (fun _ => [tW cI tp T (tk R T L (eT T L (eT T L (eT T L q)))), gW cI ga (addC G (nT T L (eT T L q)) 1)]) rfl (fun _ => rfl) (fun _ => rfl) 1 0 rfl rfl rfl rfl hl.1 rfl (lv_room (Nat.le_of_ble_eq_true rfl)) dX3_takeChild_51 ⟨Nat.zero_le _, Nat.zero_le _⟩ (fun _ H locs _ hW => ?_)
        refine lv_pop hx hb dX3_takeChild_54 rfl ?_
        refine lv_iconst (v := nI 1) hx hb dX3_takeChild_55 (by decide +kernel) ?_
        exact rt_z hQ hx hb hr hlocks hW dX3_takeChild_56 (by decide +kernel) () (by simp only [chiS, chiO]; (repeat' split) <;> first | rfl | (exfalso; omega)) trivial (by simp only [chiS, chiO]; (repeat' split) <;> first | rfl | (exfalso; omega))
    · refine lv_iconst (v := nI 0) hx hb dX3_takeChild_20 (by decide +kernel) ?_
      exact rt_z hQ hx hb hr hlocks hW dX3_takeChild_21 (by decide +kernel) () (by simp only [chiS, chiO]; (repeat' split) <;> first | rfl | (exfalso; omega)) trivial (by simp only [chiS, chiO]; (repeat' split) <;> first | rfl | (exfalso; omega))
abbrev rmX3_takeMother : Room := { frames := 6, cells := 0, slots := 0, locals := 128 }
set_option maxRecDepth 100000 in
set_option maxHeartbeats 4000000 in
theorem M_X3_takeMother (l : Launch) (D : va_G) (cI cJ : ClassId) (aK aV : Nat → Nat) (tp T R ga G : Nat → Nat) (L q : Nat) (hL0 : R 0 = L) (hL : L ≤ 120) (hq : q ≤ L) (hT : ∀ i, T i < 256) (b : Nat) (hb30 : b < 2 ^ 30) (hG : OkG b G) (k : Nat) (hk5 : k ≤ 5) : CE (ES aK aV) l D vwCl [(cI, .int), (cJ, .long)] yX3_takeMother wsX3_takeMother rmX3_takeMother [.ref (tp 0), .ref (ga 0), .int (nI k)] [tW cI tp T (tk R T L q), gW cI ga G] (S := Unit) (some (.int (nI ((motS T L q G k).1)))) (fun _ => True) (fun _ : Unit => [tW cI tp T (tk R T L (motS T L q G k).2.1), gW cI ga (motS T L q G k).2.2]) 0 0 := by
  refine CE.ofW (cc := cX3_takeMother) (maxL := 5) (ret := (some .boolean)) (lv := [(0, .ref (tp 0)), (1, .ref (ga 0)), (2, .int (nI k))]) (by decide) rfl (Nat.le_of_ble_eq_true rfl) rfl ?_
  intro p e s m args below meth c ls A Q hQ hx hb hml hr hlocks hnm hown hts hK hA hE hW hl
  have hown : s.vm.findClass RX3 = some m.cls := hown
  obtain ⟨hg0, hg8, hg16, hg16b, hg24, hg32, hg40, hg48⟩ := hG.s
  refine lv_aload_n hx hb dX3_takeMother_0 rfl (lv_at hl 1 rfl) ?_
  refine sg_get (ci := 0) (C := RX0) (T := TX0) (N := 14) (v := .int (nI (G 40))) hx hb hts (fun _ h => List.mem_cons_of_mem _ (List.mem_append_left _ (List.mem_append_right _ h))) hown hK hW 1 0 rfl rfl rfl 5 (by decide) (hts _ (List.mem_of_getElem? (i := 1) rfl)) rfl dX3_takeMother_1 ?_
  refine lv_bipush (v := nI 8) hx hb dX3_takeMother_4 (by decide +kernel) ?_
  refine nn_clt (tgt := 11) hx hb dX3_takeMother_6 (by decide) (by omega) (by decide) (fun c6 => ?_) (fun c6 => ?_)
  · refine lv_aload_n hx hb dX3_takeMother_11 rfl (lv_at hl 0 rfl) ?_
    refine cl_Vv (As := []) (rest := []) (C := RX3) ⟨hx, hb, hml, hown, hts⟩ (M_X3_adv l D cI cJ tp T R L q hL0 hL (by omega) hT) (cwV 0 hts gX3_takeMother_X3_advance rfl rfl rfl qX3_advance ⟨Nat.le_of_ble_eq_true rfl, Nat.le_of_ble_eq_true rfl⟩) E0_good hK hA hW trivial [true] (fun _ => [tW cI tp T (tk R T L (eT T L q)), gW cI ga G]) rfl (fun _ => rfl) (fun _ => rfl) 0 0 rfl rfl rfl rfl hl.1 rfl (lv_room (Nat.le_of_ble_eq_true rfl)) dX3_takeMother_12 ⟨Nat.zero_le _, Nat.zero_le _⟩ (fun _ H locs _ hW => ?_)
    have hei_ := (eT_in T (L := L) (p := q) (by omega)).2
    have hnl_ := nT_le T L (eT T L q)
    have hsl_ := sT_le T L (eT T L q)
    have hkl_ := kT_le T L (eT T L q)
    refine lv_bipush (v := nI 10) hx hb dX3_takeMother_15 (by decide +kernel) ?_
    refine lv_istore_n (lv' := [(3, .int (nI 10)), (0, .ref (tp 0)), (1, .ref (ga 0)), (2, .int (nI k))]) hx hb dX3_takeMother_17 rfl hl (by decide) rfl (fun ls hl => ?_)
    refine lv_aload_n hx hb dX3_takeMother_18 rfl (lv_at hl 1 rfl) ?_
    refine va_ldcS (index := 83) (tx := "secret") (q := aK 6) hx hb hown (hE.1 6 (by decide)) dX3_takeMother_19 ?_
    refine cw_Vi (As := [.ref (aK 6)]) (rest := []) (C := RX3) ⟨hx, hb, hml, hown, hts⟩ (M_X3_isWord l D cI cJ aK aV tp T R L (eT T L q) hL (by omega) hT 6 (by decide)) (cwV 1 hts gX3_takeMother_X3_isWord rfl rfl rfl qX3_isWord ⟨Nat.le_of_ble_eq_true rfl, Nat.le_of_ble_eq_true rfl⟩) (ES_good aK aV) hK hA hW hE [true] (fun _ => [tW cI tp T (tk R T L (eT T L q)), gW cI ga G]) rfl (fun _ => rfl) (fun _ => rfl) 0 0 rfl rfl rfl rfl hl.1 rfl (lv_room (Nat.le_of_ble_eq_true rfl)) dX3_takeMother_21 ⟨Nat.zero_le _, Nat.zero_le _⟩ (fun _ H locs _ hW => ?_)
    have hw_ := wB_or T L (eT T L q) 6
    refine nn_zeq (tgt := 48) hx hb dX3_takeMother_24 (by decide) (by omega) (fun c24 => ?_) (fun c24 => ?_)
    · refine lv_iconst (v := nI 0) hx hb dX3_takeMother_48 (by decide +kernel) ?_
      refine lv_istore (lv' := [(4, .int (nI 0)), (3, .int (nI 10)), (0, .ref (tp 0)), (1, .ref (ga 0)), (2, .int (nI k))]) hx hb dX3_takeMother_49 hl (by decide) rfl (fun ls hl => ?_)
      refine lv_aload_n hx hb dX3_takeMother_51 rfl (lv_at hl 2 rfl) ?_
      refine va_ldcS (index := 92) (tx := "out") (q := aK 7) hx hb hown (hE.1 7 (by decide)) dX3_takeMother_52 ?_
      refine cw_Vi (As := [.ref (aK 7)]) (rest := []) (C := RX3) ⟨hx, hb, hml, hown, hts⟩ (M_X3_isWord l D cI cJ aK aV tp T R L (eT T L q) hL (by omega) hT 7 (by decide)) (cwV 1 hts gX3_takeMother_X3_isWord rfl rfl rfl qX3_isWord ⟨Nat.le_of_ble_eq_true rfl, Nat.le_of_ble_eq_true rfl⟩) (ES_good aK aV) hK hA hW hE [true] (fun _ => [tW cI tp T (tk R T L (eT T L q)), gW cI ga G]) rfl (fun _ => rfl) (fun _ => rfl) 0 0 rfl rfl rfl rfl hl.1 rfl (lv_room (Nat.le_of_ble_eq_true rfl)) dX3_takeMother_54 ⟨Nat.zero_le _, Nat.zero_le _⟩ (fun _ H locs _ hW => ?_)
      have hw_ := wB_or T L (eT T L q) 7
      refine nn_zeq (tgt := 67) hx hb dX3_takeMother_57 (by decide) (by omega) (fun c57 => ?_) (fun c57 => ?_)
      · refine lv_aload_n hx hb dX3_takeMother_67 rfl (lv_at hl 3 rfl) ?_
        refine lv_iload_n hx hb dX3_takeMother_68 rfl (lv_at hl 4 rfl) ?_
        refine lv_iload_n hx hb dX3_takeMother_69 rfl (lv_at hl 1 rfl) ?_
        refine lv_iload hx hb dX3_takeMother_70 (lv_at hl 0 rfl) ?_
        refine cl_Vi (As := [.int (nI k), .int (nI 10), .int (nI 0)]) (rest := []) (C := RX0) ⟨hx, hb, hml, hown, hts⟩ (M_X0_addMother l D cI cJ ga G b hb30 hG k 10 0 (by omega)) (cwV 3 hts gX3_takeMother_X0_addMother rfl rfl rfl qX0_addMother ⟨Nat.le_of_ble_eq_true rfl, Nat.le_of_ble_eq_true rfl⟩) E0_good hK hA hW trivial [false, true] (fun _ => [tW cI tp T (tk R T L (eT T L q)), gW cI ga (addM G k 10 0)]) rfl (fun _ => rfl) (fun _ => rfl) 1 0 rfl rfl rfl rfl hl.1 rfl (lv_room (Nat.le_of_ble_eq_true rfl)) dX3_takeMother_72 ⟨Nat.zero_le _, Nat.zero_le _⟩ (fun _ H locs _ hW => ?_)
        refine lv_pop hx hb dX3_takeMother_75 rfl ?_
        refine lv_iconst (v := nI 1) hx hb dX3_takeMother_76 (by decide +kernel) ?_
        exact rt_z hQ hx hb hr hlocks hW dX3_takeMother_77 (by decide +kernel) () (by simp only [motS, motO]; (repeat' split) <;> first | rfl | (exfalso; omega)) trivial (by simp only [motS, motO]; (repeat' split) <;> first | rfl | (exfalso; omega))
      · refine lv_iconst (v := nI 1) hx hb dX3_takeMother_60 (by decide +kernel) ?_
        refine lv_istore (lv' := [(4, .int (nI 1)), (3, .int (nI 10)), (0, .ref (tp 0)), (1, .ref (ga 0)), (2, .int (nI k))]) hx hb dX3_takeMother_61 hl (by decide) rfl (fun ls hl => ?_)
        refine lv_aload_n hx hb dX3_takeMother_63 rfl (lv_at hl 2 rfl) ?_
        refine cl_Vv (As := []) (rest := []) (C := RX3) ⟨hx, hb, hml, hown, hts⟩ (M_X3_adv l D cI cJ tp T R L (eT T L q) hL0 hL (by omega) hT) (cwV 0 hts gX3_takeMother_X3_advance rfl rfl rfl qX3_advance ⟨Nat.le_of_ble_eq_true rfl, Nat.le_of_ble_eq_true rfl⟩) E0_good hK hA hW trivial [true] (fun _ => [tW cI tp T (tk R T L (eT T L (eT T L q))), gW cI ga G]) rfl (fun _ => rfl) (fun _ => rfl) 0 0 rfl rfl rfl rfl hl.1 rfl (lv_room (Nat.le_of_ble_eq_true rfl)) dX3_takeMother_64 ⟨Nat.zero_le _, Nat.zero_le _⟩ (fun _ H locs _ hW => ?_)
        have hei_ := (eT_in T (L := L) (p := eT T L q) (by omega)).2
        have hnl_ := nT_le T L (eT T L (eT T L q))
        have hsl_ := sT_le T L (eT T L (eT T L q))
        have hkl_ := kT_le T L (eT T L (eT T L q))
        refine lv_aload_n hx hb dX3_takeMother_67 rfl (lv_at hl 3 rfl) ?_
        refine lv_iload_n hx hb dX3_takeMother_68 rfl (lv_at hl 4 rfl) ?_
        refine lv_iload_n hx hb dX3_takeMother_69 rfl (lv_at hl 1 rfl) ?_
        refine lv_iload hx hb dX3_takeMother_70 (lv_at hl 0 rfl) ?_
        refine cl_Vi (As := [.int (nI k), .int (nI 10), .int (nI 1)]) (rest := []) (C := RX0) ⟨hx, hb, hml, hown, hts⟩ (M_X0_addMother l D cI cJ ga G b hb30 hG k 10 1 (by omega)) (cwV 3 hts gX3_takeMother_X0_addMother rfl rfl rfl qX0_addMother ⟨Nat.le_of_ble_eq_true rfl, Nat.le_of_ble_eq_true rfl⟩) E0_good hK hA hW trivial [false, true] (fun _ => [tW cI tp T (tk R T L (eT T L (eT T L q))), gW cI ga (addM G k 10 1)]) rfl (fun _ => rfl) (fun _ => rfl) 1 0 rfl rfl rfl rfl hl.1 rfl (lv_room (Nat.le_of_ble_eq_true rfl)) dX3_takeMother_72 ⟨Nat.zero_le _, Nat.zero_le _⟩ (fun _ H locs _ hW => ?_)
        refine lv_pop hx hb dX3_takeMother_75 rfl ?_
        refine lv_iconst (v := nI 1) hx hb dX3_takeMother_76 (by decide +kernel) ?_
        exact rt_z hQ hx hb hr hlocks hW dX3_takeMother_77 (by decide +kernel) () (by simp only [motS, motO]; (repeat' split) <;> first | rfl | (exfalso; omega)) trivial (by simp only [motS, motO]; (repeat' split) <;> first | rfl | (exfalso; omega))
    · refine lv_aload_n hx hb dX3_takeMother_27 rfl (lv_at hl 1 rfl) ?_
      refine lv_iconst (v := nI 0) hx hb dX3_takeMother_28 (by decide +kernel) ?_
      refine lv_bipush (v := nI 99) hx hb dX3_takeMother_29 (by decide +kernel) ?_
      refine cl_Vi (As := [.int (nI 0), .int (nI 99)]) (rest := []) (C := RX3) ⟨hx, hb, hml, hown, hts⟩ (M_X3_takeNumber l D cI cJ tp T R L (eT T L q) hL0 hL (by omega) hT 0 99 (by decide) (by decide)) (cwV 2 hts gX3_takeMother_X3_takeNumber rfl rfl rfl qX3_takeNumber ⟨Nat.le_of_ble_eq_true rfl, Nat.le_of_ble_eq_true rfl⟩) E0_good hK hA hW trivial [true] (fun _ => [tW cI tp T (tk R T L (eT T L (eT T L q))), gW cI ga G]) rfl (fun _ => rfl) (fun _ => rfl) 0 0 rfl rfl rfl rfl hl.1 rfl (lv_room (Nat.le_of_ble_eq_true rfl)) dX3_takeMother_31 ⟨Nat.zero_le _, Nat.zero_le _⟩ (fun _ H locs _ hW => ?_)
      have hei_ := (eT_in T (L := L) (p := eT T L q) (by omega)).2
      have hok_ := okN_or T L (eT T L (eT T L q)) 0 99
      have hnl_ := nT_le T L (eT T L (eT T L q))
      refine nn_zne (tgt := 39) hx hb dX3_takeMother_34 (by decide) (by omega) (fun c34 => ?_) (fun c34 => ?_)
      · refine lv_aload_n hx hb dX3_takeMother_39 rfl (lv_at hl 1 rfl) ?_
        refine sg_get (ci := 2) (C := RX3) (T := TX3) (N := 6) (v := .int (nI (nT T L (eT T L (eT T L q))))) hx hb hts (fun _ h => List.mem_cons_of_mem _ (List.mem_append_right _ h)) hown hK hW 0 0 rfl rfl rfl 5 (by decide) (hts _ (List.mem_of_getElem? (i := 2) rfl)) (congrArg (fun z => some (Value.int (nI z))) (tk_g4 _ _ _ _)) dX3_takeMother_40 ?_
        refine lv_istore_n (lv' := [(3, .int (nI (nT T L (eT T L (eT T L q))))), (0, .ref (tp 0)), (1, .ref (ga 0)), (2, .int (nI k))]) hx hb dX3_takeMother_43 rfl hl (by decide) rfl (fun ls hl => ?_)
        refine lv_aload_n hx hb dX3_takeMother_44 rfl (lv_at hl 1 rfl) ?_
        refine cl_Vv (As := []) (rest := []) (C := RX3) ⟨hx, hb, hml, hown, hts⟩ (M_X3_adv l D cI cJ tp T R L (eT T L (eT T L q)) hL0 hL (by omega) hT) (cwV 0 hts gX3_takeMother_X3_advance rfl rfl rfl qX3_advance ⟨Nat.le_of_ble_eq_true rfl, Nat.le_of_ble_eq_true rfl⟩) E0_good hK hA hW trivial [true] (fun _ => [tW cI tp T (tk R T L (eT T L (eT T L (eT T L q)))), gW cI ga G]) rfl (fun _ => rfl) (fun _ => rfl) 0 0 rfl rfl rfl rfl hl.1 rfl (lv_room (Nat.le_of_ble_eq_true rfl)) dX3_takeMother_45 ⟨Nat.zero_le _, Nat.zero_le _⟩ (fun _ H locs _ hW => ?_)
        have hei_ := (eT_in T (L := L) (p := eT T L (eT T L q)) (by omega)).2
        have hnl_ := nT_le T L (eT T L (eT T L (eT T L q)))
        have hsl_ := sT_le T L (eT T L (eT T L (eT T L q)))
        have hkl_ := kT_le T L (eT T L (eT T L (eT T L q)))
        refine lv_iconst (v := nI 0) hx hb dX3_takeMother_48 (by decide +kernel) ?_
        refine lv_istore (lv' := [(4, .int (nI 0)), (3, .int (nI (nT T L (eT T L (eT T L q))))), (0, .ref (tp 0)), (1, .ref (ga 0)), (2, .int (nI k))]) hx hb dX3_takeMother_49 hl (by decide) rfl (fun ls hl => ?_)
        refine lv_aload_n hx hb dX3_takeMother_51 rfl (lv_at hl 2 rfl) ?_
        refine va_ldcS (index := 92) (tx := "out") (q := aK 7) hx hb hown (hE.1 7 (by decide)) dX3_takeMother_52 ?_
        refine cw_Vi (As := [.ref (aK 7)]) (rest := []) (C := RX3) ⟨hx, hb, hml, hown, hts⟩ (M_X3_isWord l D cI cJ aK aV tp T R L (eT T L (eT T L (eT T L q))) hL (by omega) hT 7 (by decide)) (cwV 1 hts gX3_takeMother_X3_isWord rfl rfl rfl qX3_isWord ⟨Nat.le_of_ble_eq_true rfl, Nat.le_of_ble_eq_true rfl⟩) (ES_good aK aV) hK hA hW hE [true] (fun _ => [tW cI tp T (tk R T L (eT T L (eT T L (eT T L q)))), gW cI ga G]) rfl (fun _ => rfl) (fun _ => rfl) 0 0 rfl rfl rfl rfl hl.1 rfl (lv_room (Nat.le_of_ble_eq_true rfl)) dX3_takeMother_54 ⟨Nat.zero_le _, Nat.zero_le _⟩ (fun _ H locs _ hW => ?_)
        have hw_ := wB_or T L (eT T L (eT T L (eT T L q))) 7
        refine nn_zeq (tgt := 67) hx hb dX3_takeMother_57 (by decide) (by omega) (fun c57_1 => ?_) (fun c57_1 => ?_)
        · refine lv_aload_n hx hb dX3_takeMother_67 rfl (lv_at hl 3 rfl) ?_
          refine lv_iload_n hx hb dX3_takeMother_68 rfl (lv_at hl 4 rfl) ?_
          refine lv_iload_n hx hb dX3_takeMother_69 rfl (lv_at hl 1 rfl) ?_
          refine lv_iload hx hb dX3_takeMother_70 (lv_at hl 0 rfl) ?_
          refine cl_Vi (As := [.int (nI k), .int (nI (nT T L (eT T L (eT T L q)))), .int (nI 0)]) (rest := []) (C := RX0) ⟨hx, hb, hml, hown, hts⟩ (M_X0_addMother l D cI cJ ga G b hb30 hG k (nT T L (eT T L (eT T L q))) 0 (by omega)) (cwV 3 hts gX3_takeMother_X0_addMother rfl rfl rfl qX0_addMother ⟨Nat.le_of_ble_eq_true rfl, Nat.le_of_ble_eq_true rfl⟩) E0_good hK hA hW trivial [false, true] (fun _ => [tW cI tp T (tk R T L (eT T L (eT T L (eT T L q)))), gW cI ga (addM G k (nT T L (eT T L (eT T L q))) 0)]) rfl (fun _ => rfl) (fun _ => rfl) 1 0 rfl rfl rfl rfl hl.1 rfl (lv_room (Nat.le_of_ble_eq_true rfl)) dX3_takeMother_72 ⟨Nat.zero_le _, Nat.zero_le _⟩ (fun _ H locs _ hW => ?_)
          refine lv_pop hx hb dX3_takeMother_75 rfl ?_
          refine lv_iconst (v := nI 1) hx hb dX3_takeMother_76 (by decide +kernel) ?_
          exact rt_z hQ hx hb hr hlocks hW dX3_takeMother_77 (by decide +kernel) () (by simp only [motS, motO]; (repeat' split) <;> first | rfl | (exfalso; omega)) trivial (by simp only [motS, motO]; (repeat' split) <;> first | rfl | (exfalso; omega))
        · refine lv_iconst (v := nI 1) hx hb dX3_takeMother_60 (by decide +kernel) ?_
          refine lv_istore (lv' := [(4, .int (nI 1)), (3, .int (nI (nT T L (eT T L (eT T L q))))), (0, .ref (tp 0)), (1, .ref (ga 0)), (2, .int (nI k))]) hx hb dX3_takeMother_61 hl (by decide) rfl (fun ls hl => ?_)
          refine lv_aload_n hx hb dX3_takeMother_63 rfl (lv_at hl 2 rfl) ?_
          refine cl_Vv (As := []) (rest := []) (C := RX3) ⟨hx, hb, hml, hown, hts⟩ (M_X3_adv l D cI cJ tp T R L (eT T L (eT T L (eT T L q))) hL0 hL (by omega) hT) (cwV 0 hts gX3_takeMother_X3_advance rfl rfl rfl qX3_advance ⟨Nat.le_of_ble_eq_true rfl, Nat.le_of_ble_eq_true rfl⟩) E0_good hK hA hW trivial [true] (fun _ => [tW cI tp T (tk R T L (eT T L (eT T L (eT T L (eT T L q))))), gW cI ga G]) rfl (fun _ => rfl) (fun _ => rfl) 0 0 rfl rfl rfl rfl hl.1 rfl (lv_room (Nat.le_of_ble_eq_true rfl)) dX3_takeMother_64 ⟨Nat.zero_le _, Nat.zero_le _⟩ (fun _ H locs _ hW => ?_)
          have hei_ := (eT_in T (L := L) (p := eT T L (eT T L (eT T L q))) (by omega)).2
          have hnl_ := nT_le T L (eT T L (eT T L (eT T L (eT T L q))))
          have hsl_ := sT_le T L (eT T L (eT T L (eT T L (eT T L q))))
          have hkl_ := kT_le T L (eT T L (eT T L (eT T L (eT T L q))))
          refine lv_aload_n hx hb dX3_takeMother_67 rfl (lv_at hl 3 rfl) ?_
          refine lv_iload_n hx hb dX3_takeMother_68 rfl (lv_at hl 4 rfl) ?_
          refine lv_iload_n hx hb dX3_takeMother_69 rfl (lv_at hl 1 rfl) ?_
          refine lv_iload hx hb dX3_takeMother_70 (lv_at hl 0 rfl) ?_
          refine cl_Vi (As := [.int (nI k), .int (nI (nT T L (eT T L (eT T L q)))), .int (nI 1)]) (rest := []) (C := RX0) ⟨hx, hb, hml, hown, hts⟩ (M_X0_addMother l D cI cJ ga G b hb30 hG k (nT T L (eT T L (eT T L q))) 1 (by omega)) (cwV 3 hts gX3_takeMother_X0_addMother rfl rfl rfl qX0_addMother ⟨Nat.le_of_ble_eq_true rfl, Nat.le_of_ble_eq_true rfl⟩) E0_good hK hA hW trivial [false, true] (fun _ => [tW cI tp T (tk R T L (eT T L (eT T L (eT T L (eT T L q))))), gW cI ga (addM G k (nT T L (eT T L (eT T L q))) 1)]) rfl (fun _ => rfl) (fun _ => rfl) 1 0 rfl rfl rfl rfl hl.1 rfl (lv_room (Nat.le_of_ble_eq_true rfl)) dX3_takeMother_72 ⟨Nat.zero_le _, Nat.zero_le _⟩ (fun _ H locs _ hW => ?_)
          refine lv_pop hx hb dX3_takeMother_75 rfl ?_
          refine lv_iconst (v := nI 1) hx hb dX3_takeMother_76 (by decide +kernel) ?_
          exact rt_z hQ hx hb hr hlocks hW dX3_takeMother_77 (by decide +kernel) () (by simp only [motS, motO]; (repeat' split) <;> first | rfl | (exfalso; omega)) trivial (by simp only [motS, motO]; (repeat' split) <;> first | rfl | (exfalso; omega))
      · refine lv_iconst (v := nI 0) hx hb dX3_takeMother_37 (by decide +kernel) ?_
        exact rt_z hQ hx hb hr hlocks hW dX3_takeMother_38 (by decide +kernel) () (by simp only [motS, motO]; (repeat' split) <;> first | rfl | (exfalso; omega)) trivial (by simp only [motS, motO]; (repeat' split) <;> first | rfl | (exfalso; omega))
  · refine lv_iconst (v := nI 0) hx hb dX3_takeMother_9 (by decide +kernel) ?_
    exact rt_z hQ hx hb hr hlocks hW dX3_takeMother_10 (by decide +kernel) () (by simp only [motS, motO]; (repeat' split) <;> first | rfl | (exfalso; omega)) trivial (by simp only [motS, motO]; (repeat' split) <;> first | rfl | (exfalso; omega))
abbrev rmX3_takeItem : Room := { frames := 7, cells := 0, slots := 0, locals := 152 }
set_option maxRecDepth 100000 in
set_option maxHeartbeats 4000000 in
theorem M_X3_takeItem (l : Launch) (D : va_G) (cI cJ : ClassId) (aK aV : Nat → Nat) (tp T R ga G : Nat → Nat) (L q : Nat) (hL0 : R 0 = L) (hL : L ≤ 120) (hq : q ≤ L) (hT : ∀ i, T i < 256) (b : Nat) (hb30 : b < 2 ^ 30) (hG : OkG b G) : CE (ES aK aV) l D vwCl [(cI, .int), (cJ, .long)] yX3_takeItem wsX3_takeItem rmX3_takeItem [.ref (tp 0), .ref (ga 0)] [tW cI tp T (tk R T L q), gW cI ga G] (S := Unit) (some (.int (nI ((itemS T L q G).1)))) (fun _ => True) (fun _ : Unit => [tW cI tp T (tk R T L (itemS T L q G).2.1), gW cI ga (itemS T L q G).2.2]) 0 0 := by
  refine CE.ofW (cc := cX3_takeItem) (maxL := 3) (ret := (some .boolean)) (lv := [(0, .ref (tp 0)), (1, .ref (ga 0))]) (by decide) rfl (Nat.le_of_ble_eq_true rfl) rfl ?_
  intro p e s m args below meth c ls A Q hQ hx hb hml hr hlocks hnm hown hts hK hA hE hW hl
  have hown : s.vm.findClass RX3 = some m.cls := hown
  obtain ⟨hg0, hg8, hg16, hg16b, hg24, hg32, hg40, hg48⟩ := hG.s
  have hkl := kT_le T L q
  refine lv_aload_n hx hb dX3_takeItem_0 rfl (lv_at hl 0 rfl) ?_
  refine cw_Vi (As := []) (rest := []) (C := RX3) ⟨hx, hb, hml, hown, hts⟩ (M_X3_kindNamed l D cI cJ aK aV tp T R L q hL0 hL (by omega) hT) (cwV 0 hts gX3_takeItem_X3_kindNamed rfl rfl rfl qX3_kindNamed ⟨Nat.le_of_ble_eq_true rfl, Nat.le_of_ble_eq_true rfl⟩) (ES_good aK aV) hK hA hW hE [true] (fun _ => [tW cI tp T (tk R T L q), gW cI ga G]) rfl (fun _ => rfl) (fun _ => rfl) 0 0 rfl rfl rfl rfl hl.1 rfl (lv_room (Nat.le_of_ble_eq_true rfl)) dX3_takeItem_1 ⟨Nat.zero_le _, Nat.zero_le _⟩ (fun _ H locs _ hW => ?_)
  rcases (show kT T L q ≤ 5 ∨ 5 < kT T L q by omega) with hk | hk
  · refine W.top (v' := .int (nI (kT T L q))) (by unfold kdV; rw [if_pos hk]) ?_
    refine lv_istore_n (lv' := [(2, .int (nI (kT T L q))), (0, .ref (tp 0)), (1, .ref (ga 0))]) hx hb dX3_takeItem_4 rfl hl (by decide) rfl (fun ls hl => ?_)
    refine lv_iload_n hx hb dX3_takeItem_5 rfl (lv_at hl 0 rfl) ?_
    refine nn_zlt (tgt := 16) hx hb dX3_takeItem_6 (by decide) (by omega) (fun c6 => ?_) (fun c6 => ?_)
    · exfalso; omega
    · refine lv_aload_n hx hb dX3_takeItem_9 rfl (lv_at hl 1 rfl) ?_
      refine lv_aload_n hx hb dX3_takeItem_10 rfl (lv_at hl 2 rfl) ?_
      refine lv_iload_n hx hb dX3_takeItem_11 rfl (lv_at hl 0 rfl) ?_
      refine cw_Vi (As := [.ref (ga 0), .int (nI (kT T L q))]) (rest := []) (C := RX3) ⟨hx, hb, hml, hown, hts⟩ (M_X3_takeMother l D cI cJ aK aV tp T R ga G L q hL0 hL (by omega) hT b hb30 hG (kT T L q) (by omega)) (cwV 2 hts gX3_takeItem_X3_takeMother rfl rfl rfl qX3_takeMother ⟨Nat.le_of_ble_eq_true rfl, Nat.le_of_ble_eq_true rfl⟩) (ES_good aK aV) hK hA hW hE [true, true] (fun _ => [tW cI tp T (tk R T L ((motS T L q G (kT T L q)).2.1)), gW cI ga ((motS T L q G (kT T L q)).2.2)]) rfl (fun _ => rfl) (fun _ => rfl) 0 0 rfl rfl rfl rfl hl.1 rfl (lv_room (Nat.le_of_ble_eq_true rfl)) dX3_takeItem_12 ⟨Nat.zero_le _, Nat.zero_le _⟩ (fun _ H locs _ hW => ?_)
      have hie : itemS T L q G = motS T L q G (kT T L q) := by unfold itemS; rw [if_pos (by omega)]
      exact rt_z hQ hx hb hr hlocks hW dX3_takeItem_15 (bit_narrow (by rw [← hie]; have := itemS_01 T L q G; omega)) () (by rw [hie]) trivial (by rw [hie])
  · refine W.top (v' := .int (-1)) (by unfold kdV; rw [if_neg (by omega)]) ?_
    refine lv_istore_n (lv' := [(2, .int (-1)), (0, .ref (tp 0)), (1, .ref (ga 0))]) hx hb dX3_takeItem_4 rfl hl (by decide) rfl (fun ls hl => ?_)
    refine lv_iload_n hx hb dX3_takeItem_5 rfl (lv_at hl 0 rfl) ?_
    refine zz_zlt (tgt := 16) hx hb dX3_takeItem_6 (by decide) (show ((-1) : Int32).toInt = (-1) by decide +kernel) (fun c6_1 => ?_) (fun c6_1 => ?_)
    · refine lv_aload_n hx hb dX3_takeItem_16 rfl (lv_at hl 1 rfl) ?_
      refine va_ldcS (index := 40) (tx := "child") (q := aK 8) hx hb hown (hE.1 8 (by decide)) dX3_takeItem_17 ?_
      refine cw_Vi (As := [.ref (aK 8)]) (rest := []) (C := RX3) ⟨hx, hb, hml, hown, hts⟩ (M_X3_isWord l D cI cJ aK aV tp T R L q hL (by omega) hT 8 (by decide)) (cwV 1 hts gX3_takeItem_X3_isWord rfl rfl rfl qX3_isWord ⟨Nat.le_of_ble_eq_true rfl, Nat.le_of_ble_eq_true rfl⟩) (ES_good aK aV) hK hA hW hE [true] (fun _ => [tW cI tp T (tk R T L q), gW cI ga G]) rfl (fun _ => rfl) (fun _ => rfl) 0 0 rfl rfl rfl rfl hl.1 rfl (lv_room (Nat.le_of_ble_eq_true rfl)) dX3_takeItem_19 ⟨Nat.zero_le _, Nat.zero_le _⟩ (fun _ H locs _ hW => ?_)
      have hw_ := wB_or T L q 8
      refine nn_zeq (tgt := 31) hx hb dX3_takeItem_22 (by decide) (by omega) (fun c22 => ?_) (fun c22 => ?_)
      · refine lv_aload_n hx hb dX3_takeItem_31 rfl (lv_at hl 1 rfl) ?_
        refine va_ldcS (index := 49) (tx := "rain") (q := aK 10) hx hb hown (hE.1 10 (by decide)) dX3_takeItem_32 ?_
        refine cw_Vi (As := [.ref (aK 10)]) (rest := []) (C := RX3) ⟨hx, hb, hml, hown, hts⟩ (M_X3_isWord l D cI cJ aK aV tp T R L q hL (by omega) hT 10 (by decide)) (cwV 1 hts gX3_takeItem_X3_isWord rfl rfl rfl qX3_isWord ⟨Nat.le_of_ble_eq_true rfl, Nat.le_of_ble_eq_true rfl⟩) (ES_good aK aV) hK hA hW hE [true] (fun _ => [tW cI tp T (tk R T L q), gW cI ga G]) rfl (fun _ => rfl) (fun _ => rfl) 0 0 rfl rfl rfl rfl hl.1 rfl (lv_room (Nat.le_of_ble_eq_true rfl)) dX3_takeItem_34 ⟨Nat.zero_le _, Nat.zero_le _⟩ (fun _ H locs _ hW => ?_)
        have hw_ := wB_or T L q 10
        refine nn_zeq (tgt := 46) hx hb dX3_takeItem_37 (by decide) (by omega) (fun c37 => ?_) (fun c37 => ?_)
        · refine lv_aload_n hx hb dX3_takeItem_46 rfl (lv_at hl 1 rfl) ?_
          refine va_ldcS (index := 54) (tx := "dry") (q := aK 11) hx hb hown (hE.1 11 (by decide)) dX3_takeItem_47 ?_
          refine cw_Vi (As := [.ref (aK 11)]) (rest := []) (C := RX3) ⟨hx, hb, hml, hown, hts⟩ (M_X3_isWord l D cI cJ aK aV tp T R L q hL (by omega) hT 11 (by decide)) (cwV 1 hts gX3_takeItem_X3_isWord rfl rfl rfl qX3_isWord ⟨Nat.le_of_ble_eq_true rfl, Nat.le_of_ble_eq_true rfl⟩) (ES_good aK aV) hK hA hW hE [true] (fun _ => [tW cI tp T (tk R T L q), gW cI ga G]) rfl (fun _ => rfl) (fun _ => rfl) 0 0 rfl rfl rfl rfl hl.1 rfl (lv_room (Nat.le_of_ble_eq_true rfl)) dX3_takeItem_49 ⟨Nat.zero_le _, Nat.zero_le _⟩ (fun _ H locs _ hW => ?_)
          have hw_ := wB_or T L q 11
          refine nn_zeq (tgt := 61) hx hb dX3_takeItem_52 (by decide) (by omega) (fun c52 => ?_) (fun c52 => ?_)
          · refine lv_aload_n hx hb dX3_takeItem_61 rfl (lv_at hl 1 rfl) ?_
            refine va_ldcS (index := 59) (tx := "heavy") (q := aK 12) hx hb hown (hE.1 12 (by decide)) dX3_takeItem_62 ?_
            refine cw_Vi (As := [.ref (aK 12)]) (rest := []) (C := RX3) ⟨hx, hb, hml, hown, hts⟩ (M_X3_isWord l D cI cJ aK aV tp T R L q hL (by omega) hT 12 (by decide)) (cwV 1 hts gX3_takeItem_X3_isWord rfl rfl rfl qX3_isWord ⟨Nat.le_of_ble_eq_true rfl, Nat.le_of_ble_eq_true rfl⟩) (ES_good aK aV) hK hA hW hE [true] (fun _ => [tW cI tp T (tk R T L q), gW cI ga G]) rfl (fun _ => rfl) (fun _ => rfl) 0 0 rfl rfl rfl rfl hl.1 rfl (lv_room (Nat.le_of_ble_eq_true rfl)) dX3_takeItem_64 ⟨Nat.zero_le _, Nat.zero_le _⟩ (fun _ H locs _ hW => ?_)
            have hw_ := wB_or T L q 12
            refine nn_zeq (tgt := 82) hx hb dX3_takeItem_67 (by decide) (by omega) (fun c67 => ?_) (fun c67 => ?_)
            · refine lv_iconst (v := nI 0) hx hb dX3_takeItem_82 (by decide +kernel) ?_
              have hie : itemS T L q G = (0, q, G) := by unfold itemS; rw [if_neg (by omega), if_neg (by omega), if_neg (by omega), if_neg (by omega), if_neg (by omega)]
              exact rt_z hQ hx hb hr hlocks hW dX3_takeItem_83 (by decide +kernel) () (by rw [hie]) trivial (by rw [hie])
            · refine lv_aload_n hx hb dX3_takeItem_70 rfl (lv_at hl 1 rfl) ?_
              refine lv_aload_n hx hb dX3_takeItem_71 rfl (lv_at hl 2 rfl) ?_
              refine cl_Vi (As := [.ref (ga 0)]) (rest := []) (C := RX3) ⟨hx, hb, hml, hown, hts⟩ (M_X3_takeHeavy l D cI cJ tp T R ga G L q hL0 hL (by omega) hT b hb30 hG) (cwV 1 hts gX3_takeItem_X3_takeHeavy rfl rfl rfl qX3_takeHeavy ⟨Nat.le_of_ble_eq_true rfl, Nat.le_of_ble_eq_true rfl⟩) E0_good hK hA hW trivial [true, true] (fun _ => [tW cI tp T (tk R T L ((hevS T L q G).2.1)), gW cI ga ((hevS T L q G).2.2)]) rfl (fun _ => rfl) (fun _ => rfl) 0 0 rfl rfl rfl rfl hl.1 rfl (lv_room (Nat.le_of_ble_eq_true rfl)) dX3_takeItem_72 ⟨Nat.zero_le _, Nat.zero_le _⟩ (fun _ H locs _ hW => ?_)
              have hhv_ : (hevS T L q G).1 = 0 ∨ (hevS T L q G).1 = 1 := by unfold hevS; split <;> first | exact Or.inl rfl | exact Or.inr rfl
              refine nn_zeq (tgt := 82) hx hb dX3_takeItem_75 (by decide) (by omega) (fun c75 => ?_) (fun c75 => ?_)
              · refine lv_iconst (v := nI 0) hx hb dX3_takeItem_82 (by decide +kernel) ?_
                have hie : itemS T L q G = hevS T L q G := by unfold itemS; rw [if_neg (by omega), if_neg (by omega), if_neg (by omega), if_neg (by omega), if_pos (by omega)]
                exact rt_z hQ hx hb hr hlocks hW dX3_takeItem_83 (by decide +kernel) () (by rw [hie, show (hevS T L q G).1 = 0 by omega]) trivial (by rw [hie])
              · refine lv_iconst (v := nI 1) hx hb dX3_takeItem_78 (by decide +kernel) ?_
                refine lv_goto (tgt := 83) hx hb dX3_takeItem_79 (by decide) ?_
                have hie : itemS T L q G = hevS T L q G := by unfold itemS; rw [if_neg (by omega), if_neg (by omega), if_neg (by omega), if_neg (by omega), if_pos (by omega)]
                exact rt_z hQ hx hb hr hlocks hW dX3_takeItem_83 (by decide +kernel) () (by rw [hie, show (hevS T L q G).1 = 1 by omega]) trivial (by rw [hie])
          · refine lv_aload_n hx hb dX3_takeItem_55 rfl (lv_at hl 1 rfl) ?_
            refine lv_aload_n hx hb dX3_takeItem_56 rfl (lv_at hl 2 rfl) ?_
            refine cl_Vi (As := [.ref (ga 0)]) (rest := []) (C := RX3) ⟨hx, hb, hml, hown, hts⟩ (M_X3_takeDry l D cI cJ tp T R ga G L q hL0 hL (by omega) hT b hb30 hG) (cwV 1 hts gX3_takeItem_X3_takeDry rfl rfl rfl qX3_takeDry ⟨Nat.le_of_ble_eq_true rfl, Nat.le_of_ble_eq_true rfl⟩) E0_good hK hA hW trivial [true, true] (fun _ => [tW cI tp T (tk R T L ((raiS T L q G 0).2.1)), gW cI ga ((raiS T L q G 0).2.2)]) rfl (fun _ => rfl) (fun _ => rfl) 0 0 rfl rfl rfl rfl hl.1 rfl (lv_room (Nat.le_of_ble_eq_true rfl)) dX3_takeItem_57 ⟨Nat.zero_le _, Nat.zero_le _⟩ (fun _ H locs _ hW => ?_)
            have hie : itemS T L q G = raiS T L q G 0 := by unfold itemS; rw [if_neg (by omega), if_neg (by omega), if_neg (by omega), if_pos (by omega)]
            exact rt_z hQ hx hb hr hlocks hW dX3_takeItem_60 (bit_narrow (by rw [← hie]; have := itemS_01 T L q G; omega)) () (by rw [hie]) trivial (by rw [hie])
        · refine lv_aload_n hx hb dX3_takeItem_40 rfl (lv_at hl 1 rfl) ?_
          refine lv_aload_n hx hb dX3_takeItem_41 rfl (lv_at hl 2 rfl) ?_
          refine cl_Vi (As := [.ref (ga 0)]) (rest := []) (C := RX3) ⟨hx, hb, hml, hown, hts⟩ (M_X3_takeWet l D cI cJ tp T R ga G L q hL0 hL (by omega) hT b hb30 hG) (cwV 1 hts gX3_takeItem_X3_takeWet rfl rfl rfl qX3_takeWet ⟨Nat.le_of_ble_eq_true rfl, Nat.le_of_ble_eq_true rfl⟩) E0_good hK hA hW trivial [true, true] (fun _ => [tW cI tp T (tk R T L ((raiS T L q G 1).2.1)), gW cI ga ((raiS T L q G 1).2.2)]) rfl (fun _ => rfl) (fun _ => rfl) 0 0 rfl rfl rfl rfl hl.1 rfl (lv_room (Nat.le_of_ble_eq_true rfl)) dX3_takeItem_42 ⟨Nat.zero_le _, Nat.zero_le _⟩ (fun _ H locs _ hW => ?_)
          have hie : itemS T L q G = raiS T L q G 1 := by unfold itemS; rw [if_neg (by omega), if_neg (by omega), if_pos (by omega)]
          exact rt_z hQ hx hb hr hlocks hW dX3_takeItem_45 (bit_narrow (by rw [← hie]; have := itemS_01 T L q G; omega)) () (by rw [hie]) trivial (by rw [hie])
      · refine lv_aload_n hx hb dX3_takeItem_25 rfl (lv_at hl 1 rfl) ?_
        refine lv_aload_n hx hb dX3_takeItem_26 rfl (lv_at hl 2 rfl) ?_
        refine cw_Vi (As := [.ref (ga 0)]) (rest := []) (C := RX3) ⟨hx, hb, hml, hown, hts⟩ (M_X3_takeChild l D cI cJ aK aV tp T R ga G L q hL0 hL (by omega) hT b hb30 hG) (cwV 1 hts gX3_takeItem_X3_takeChild rfl rfl rfl qX3_takeChild ⟨Nat.le_of_ble_eq_true rfl, Nat.le_of_ble_eq_true rfl⟩) (ES_good aK aV) hK hA hW hE [true, true] (fun _ => [tW cI tp T (tk R T L ((chiS T L q G).2.1)), gW cI ga ((chiS T L q G).2.2)]) rfl (fun _ => rfl) (fun _ => rfl) 0 0 rfl rfl rfl rfl hl.1 rfl (lv_room (Nat.le_of_ble_eq_true rfl)) dX3_takeItem_27 ⟨Nat.zero_le _, Nat.zero_le _⟩ (fun _ H locs _ hW => ?_)
        have hie : itemS T L q G = chiS T L q G := by unfold itemS; rw [if_neg (by omega), if_pos (by omega)]
        exact rt_z hQ hx hb hr hlocks hW dX3_takeItem_30 (bit_narrow (by rw [← hie]; have := itemS_01 T L q G; omega)) () (by rw [hie]) trivial (by rw [hie])
    · exfalso; omega
abbrev rmX3_addItems : Room := { frames := 8, cells := 0, slots := 0, locals := 174 }
set_option maxRecDepth 100000 in
set_option maxHeartbeats 4000000 in
theorem M_X3_addItems (l : Launch) (D : va_G) (cI cJ : ClassId) (aK aV : Nat → Nat) (tp T R ga G : Nat → Nat) (L : Nat) (hL0 : R 0 = L) (hL : L ≤ 120) (hT : ∀ i, T i < 256) (b : Nat) (hb30 : b < 2 ^ 30) (hG : OkG b G) : CE (ES aK aV) l D vwCl [(cI, .int), (cJ, .long)] yX3_addItems wsX3_addItems rmX3_addItems [.ref (tp 0), .ref (ga 0)] [tW cI tp T R, gW cI ga G] (S := ((Nat → Nat) × (Nat → Nat))) (some (.int (greenV T L G))) (fun u => u.1 0 = L ∧ ((parS T L 120 0 G 1).1 = 1 → u.2 = (parS T L 120 0 G 1).2.2)) (fun u : (Nat → Nat) × (Nat → Nat) => [tW cI tp T u.1, gW cI ga u.2]) 0 0 := by
  refine CE.ofW (cc := cX3_addItems) (maxL := 3) (ret := (some .int)) (lv := [(0, .ref (tp 0)), (1, .ref (ga 0))]) (by decide) rfl (Nat.le_of_ble_eq_true rfl) rfl ?_
  intro p e s m args below meth c ls A Q hQ hx hb hml hr hlocks hnm hown hts hK hA hE hW hl
  have hown : s.vm.findClass RX3 = some m.cls := hown
  refine lv_aload_n hx hb dX3_addItems_0 rfl (lv_at hl 0 rfl) ?_
  refine lv_iconst (v := nI 0) hx hb dX3_addItems_1 (by decide +kernel) ?_
  refine sg_put (ci := 2) (C := RX3) (T := TX3) (N := 6) hx hb hts (fun _ h => List.mem_cons_of_mem _ (List.mem_append_left _ (List.mem_append_right _ h))) tyX3 tyX3_ok nmX3 hown hK hW 0 0 rfl rfl rfl 4 (by decide) (hts _ (List.mem_of_getElem? (i := 1) rfl)) rfl (by decide +kernel) (by decide +kernel) (Nat.le_of_ble_eq_true rfl) (tW_s3 cI tp T R 0) (ss' := [tW cI tp T (up R 3 0), gW cI ga G]) rfl dX3_addItems_2 (fun H locs hW => ?_)
  refine lv_aload_n hx hb dX3_addItems_5 rfl (lv_at hl 0 rfl) ?_
  refine cl_Vv (As := []) (rest := []) (C := RX3) ⟨hx, hb, hml, hown, hts⟩ (M_X3_adv0 l D cI cJ tp T R L hL0 hL hT) (cwV 0 hts gX3_addItems_X3_advance rfl rfl rfl qX3_advance ⟨Nat.le_of_ble_eq_true rfl, Nat.le_of_ble_eq_true rfl⟩) E0_good hK hA hW trivial [true] (fun _ => [tW cI tp T (tk R T L 0), gW cI ga G]) rfl (fun _ => rfl) (fun _ => rfl) 0 0 rfl rfl rfl rfl hl.1 rfl (lv_room (Nat.le_of_ble_eq_true rfl)) dX3_addItems_6 ⟨Nat.zero_le _, Nat.zero_le _⟩ (fun _ H locs _ hW => ?_)
  refine lv_iconst (v := nI 1) hx hb dX3_addItems_9 (by decide +kernel) ?_
  refine lv_istore_n (lv' := [(2, .int (nI 1)), (0, .ref (tp 0)), (1, .ref (ga 0))]) hx hb dX3_addItems_10 rfl hl (by decide) rfl (fun ls hl => ?_)
  have lp11 : ∀ (n : Nat) (i : Nat) (q : Nat) (K : Nat → Nat), 121 - i < n → 1 ≤ i ∧ i ≤ 121 → q ≤ L → OkG b K → parS T L 120 0 G 1 = parS T L (121 - i) q K i → ∀ (H : Heap) (locs : List Loc), Wo D vwCl A s.heap H locs [tW cI tp T (tk R T L q), gW cI ga K] → ∀ ls : Array Slot, lv_has ls 3 [(2, .int (nI i)), (0, .ref (tp 0)), (1, .ref (ga 0))] → W p l e rmX3_addItems s m args below meth c H locs 0 0 Q (F0 m 11 ls []) := by
    intro n
    induction n with
    | zero => intro i q K hm; exact absurd hm (Nat.not_lt_zero _)
    | succ n ih =>
      intro i q K hm hi1 hq hK1 hpar H locs hW ls hl
      have hbq := bT_in T hq
      refine lv_iload_n hx hb dX3_addItems_11 rfl (lv_at hl 0 rfl) ?_
      refine lv_bipush (v := nI 120) hx hb dX3_addItems_12 (by decide +kernel) ?_
      refine nn_cgt (tgt := 66) hx hb dX3_addItems_14 (by decide) (by omega) (by decide) (fun c14 => ?_) (fun c14 => ?_)
      · refine lv_iconst (v := -1) hx hb dX3_addItems_66 (by decide +kernel) ?_
        refine lv_aload_n hx hb dX3_addItems_67 rfl (lv_at hl 1 rfl) ?_
        refine sg_get (ci := 2) (C := RX3) (T := TX3) (N := 6) (v := .int (nI (bT T L q))) hx hb hts (fun _ h => List.mem_cons_of_mem _ (List.mem_append_left _ (List.mem_append_right _ h))) hown hK hW 0 0 rfl rfl rfl 3 (by decide) (hts _ (List.mem_of_getElem? (i := 2) rfl)) (congrArg (fun z => some (Value.int (nI z))) (tk_g2 _ _ _ _)) dX3_addItems_68 ?_
        refine lv_isub hx hb dX3_addItems_71 ?_
        have hfin := hpar.trans (parS_out (by omega))
        exact rt_i hQ hx hb hr hlocks hW dX3_addItems_72 (tk R T L q, K) (by rw [greenV_0 hfin]) ⟨hL0, fun h => by rw [hfin] at h; exact absurd (show (0 : Nat) = 1 from h) (by decide)⟩ rfl
      · refine lv_aload_n hx hb dX3_addItems_17 rfl (lv_at hl 1 rfl) ?_
        refine lv_aload_n hx hb dX3_addItems_18 rfl (lv_at hl 2 rfl) ?_
        refine cw_Vi (As := [.ref (ga 0)]) (rest := []) (C := RX3) ⟨hx, hb, hml, hown, hts⟩ (M_X3_takeItem l D cI cJ aK aV tp T R ga K L q hL0 hL (by omega) hT b hb30 hK1) (cwV 1 hts gX3_addItems_X3_takeItem rfl rfl rfl qX3_takeItem ⟨Nat.le_of_ble_eq_true rfl, Nat.le_of_ble_eq_true rfl⟩) (ES_good aK aV) hK hA hW hE [true, true] (fun _ => [tW cI tp T (tk R T L ((itemS T L q K).2.1)), gW cI ga ((itemS T L q K).2.2)]) rfl (fun _ => rfl) (fun _ => rfl) 0 0 rfl rfl rfl rfl hl.1 rfl (lv_room (Nat.le_of_ble_eq_true rfl)) dX3_addItems_19 ⟨Nat.zero_le _, Nat.zero_le _⟩ (fun _ H locs _ hW => ?_)
        have hit_ := itemS_01 T L q K
        have hin_ := itemS_in (T := T) (L := L) (p := q) K (by omega)
        have hsl_ := sT_le T L ((itemS T L q K).2.1)
        have hbi_ := bT_in T hin_
        refine nn_zne (tgt := 32) hx hb dX3_addItems_22 (by decide) (by omega) (fun c22 => ?_) (fun c22 => ?_)
        · refine lv_aload_n hx hb dX3_addItems_32 rfl (lv_at hl 1 rfl) ?_
          refine sg_get (ci := 2) (C := RX3) (T := TX3) (N := 6) (v := .int (nI (sT T L ((itemS T L q K).2.1)))) hx hb hts (fun _ h => List.mem_cons_of_mem _ (List.mem_append_left _ (List.mem_append_right _ h))) hown hK hW 0 0 rfl rfl rfl 2 (by decide) (hts _ (List.mem_of_getElem? (i := 3) rfl)) (congrArg (fun z => some (Value.int (nI z))) (tk_g1 _ _ _ _)) dX3_addItems_33 ?_
          refine nn_zne (tgt := 41) hx hb dX3_addItems_36 (by decide) (by omega) (fun c36 => ?_) (fun c36 => ?_)
          · refine lv_aload_n hx hb dX3_addItems_41 rfl (lv_at hl 1 rfl) ?_
            refine sg_get (ci := 2) (C := RX3) (T := TX3) (N := 6) (v := .int (nI (sT T L ((itemS T L q K).2.1)))) hx hb hts (fun _ h => List.mem_cons_of_mem _ (List.mem_append_left _ (List.mem_append_right _ h))) hown hK hW 0 0 rfl rfl rfl 2 (by decide) (hts _ (List.mem_of_getElem? (i := 3) rfl)) (congrArg (fun z => some (Value.int (nI z))) (tk_g1 _ _ _ _)) dX3_addItems_42 ?_
            refine lv_iconst (v := nI 3) hx hb dX3_addItems_45 (by decide +kernel) ?_
            refine nn_ceq (tgt := 56) hx hb dX3_addItems_46 (by decide) (by omega) (by decide) (fun c46 => ?_) (fun c46 => ?_)
            · refine lv_aload_n hx hb dX3_addItems_56 rfl (lv_at hl 1 rfl) ?_
              refine cl_Vv (As := []) (rest := []) (C := RX3) ⟨hx, hb, hml, hown, hts⟩ (M_X3_adv l D cI cJ tp T R L ((itemS T L q K).2.1) hL0 hL (by omega) hT) (cwV 0 hts gX3_addItems_X3_advance rfl rfl rfl qX3_advance ⟨Nat.le_of_ble_eq_true rfl, Nat.le_of_ble_eq_true rfl⟩) E0_good hK hA hW trivial [true] (fun _ => [tW cI tp T (tk R T L (eT T L ((itemS T L q K).2.1))), gW cI ga ((itemS T L q K).2.2)]) rfl (fun _ => rfl) (fun _ => rfl) 0 0 rfl rfl rfl rfl hl.1 rfl (lv_room (Nat.le_of_ble_eq_true rfl)) dX3_addItems_57 ⟨Nat.zero_le _, Nat.zero_le _⟩ (fun _ H locs _ hW => ?_)
              have hei_ := (eT_in T (L := L) (p := (itemS T L q K).2.1) (by omega)).2
              have hnl_ := nT_le T L (eT T L ((itemS T L q K).2.1))
              have hsl_ := sT_le T L (eT T L ((itemS T L q K).2.1))
              have hkl_ := kT_le T L (eT T L ((itemS T L q K).2.1))
              refine lv_iinc (v := nI (i + 1)) (lv' := [(2, .int (nI (i + 1))), (0, .ref (tp 0)), (1, .ref (ga 0))]) hx hb dX3_addItems_60 hl (k := 0) rfl (nI_add _ 1) (by decide) rfl (fun ls hl => ?_)
              refine lv_goto (tgt := 11) hx hb dX3_addItems_63 (by decide) ?_
              exact ih (i + 1) (eT T L (itemS T L q K).2.1) ((itemS T L q K).2.2) (by omega) (by omega) (by omega) (itemS_ok T L q hK1) (hpar.trans (parS_go (by omega) c22 c46)) _ _ hW _ (lv_sub hl [0, 1, 2] rfl)
            · refine lv_iconst (v := -1) hx hb dX3_addItems_49 (by decide +kernel) ?_
              refine lv_aload_n hx hb dX3_addItems_50 rfl (lv_at hl 1 rfl) ?_
              refine sg_get (ci := 2) (C := RX3) (T := TX3) (N := 6) (v := .int (nI (bT T L ((itemS T L q K).2.1)))) hx hb hts (fun _ h => List.mem_cons_of_mem _ (List.mem_append_left _ (List.mem_append_right _ h))) hown hK hW 0 0 rfl rfl rfl 3 (by decide) (hts _ (List.mem_of_getElem? (i := 2) rfl)) (congrArg (fun z => some (Value.int (nI z))) (tk_g2 _ _ _ _)) dX3_addItems_51 ?_
              refine lv_isub hx hb dX3_addItems_54 ?_
              have hfin := hpar.trans (parS_oth (by omega) c22 c36 c46)
              exact rt_i hQ hx hb hr hlocks hW dX3_addItems_55 (tk R T L ((itemS T L q K).2.1), ((itemS T L q K).2.2)) (by rw [greenV_0 hfin]) ⟨hL0, fun h => by rw [hfin] at h; exact absurd (show (0 : Nat) = 1 from h) (by decide)⟩ rfl
          · refine lv_iload_n hx hb dX3_addItems_39 rfl (lv_at hl 0 rfl) ?_
            have hfin := hpar.trans (parS_end (by omega) c22 c36)
            exact rt_i hQ hx hb hr hlocks hW dX3_addItems_40 (tk R T L ((itemS T L q K).2.1), ((itemS T L q K).2.2)) (by rw [greenV_1 hfin]) ⟨hL0, fun _ => by rw [hfin]⟩ rfl
        · refine lv_iconst (v := -1) hx hb dX3_addItems_25 (by decide +kernel) ?_
          refine lv_aload_n hx hb dX3_addItems_26 rfl (lv_at hl 1 rfl) ?_
          refine sg_get (ci := 2) (C := RX3) (T := TX3) (N := 6) (v := .int (nI (bT T L ((itemS T L q K).2.1)))) hx hb hts (fun _ h => List.mem_cons_of_mem _ (List.mem_append_left _ (List.mem_append_right _ h))) hown hK hW 0 0 rfl rfl rfl 3 (by decide) (hts _ (List.mem_of_getElem? (i := 2) rfl)) (congrArg (fun z => some (Value.int (nI z))) (tk_g2 _ _ _ _)) dX3_addItems_27 ?_
          refine lv_isub hx hb dX3_addItems_30 ?_
          have hfin := hpar.trans (parS_bad (by omega) c22)
          exact rt_i hQ hx hb hr hlocks hW dX3_addItems_31 (tk R T L ((itemS T L q K).2.1), ((itemS T L q K).2.2)) (by rw [greenV_0 hfin]) ⟨hL0, fun h => by rw [hfin] at h; exact absurd (show (0 : Nat) = 1 from h) (by decide)⟩ rfl
  exact lp11 (121 - 1 + 1) 1 0 G (Nat.lt_succ_self _) (by omega) (Nat.zero_le _) hG rfl _ _ hW _ (lv_sub hl [0, 1, 2] rfl)
theorem m1_toInt {x : Nat} (h : x ≤ 120) : ((-1) - nI x : Int32).toInt = -1 - (x : Int) := by
  have g : ∀ y, y ≤ 120 → ((-1) - nI y : Int32).toInt = -1 - (y : Int) := by decide +kernel
  exact g x h
abbrev rmX4_green : Room := { frames := 9, cells := 0, slots := 0, locals := 196 }
set_option maxRecDepth 100000 in
set_option maxHeartbeats 4000000 in
theorem M_X4_green (l : Launch) (D : va_G) (cI cJ : ClassId) (aK aV : Nat → Nat) (x fi ik : Nat) (la ta ka tp sh G Tx T R : Nat → Nat) (L : Nat) (hL0 : R 0 = L) (hL : L ≤ 120) (hT : ∀ i, T i < 256) (hG : OkG 99999 G) : CE (ES aK aV) l D vwCl [(cI, .int), (cJ, .long)] yX4_green wsX4_green rmX4_green [.ref x] [xH x la ta ka tp sh fi ik, gW cI la G, tW cI tp T R, gW cI ta Tx] (S := ((Nat → Nat) × (Nat → Nat))) (some (.int (greenV T L G))) (fun u => u.1 0 = 0) (fun u : (Nat → Nat) × (Nat → Nat) => [xH x la ta ka tp sh fi ik, gW cI la (greenG T L G), tW cI tp T u.1, gW cI ta u.2]) 0 0 := by
  refine CE.ofW (cc := cX4_green) (maxL := 2) (ret := (some .int)) (lv := [(0, .ref x)]) (by decide) rfl (Nat.le_of_ble_eq_true rfl) rfl ?_
  intro p e s m args below meth c ls A Q hQ hx hb hml hr hlocks hnm hown hts hK hA hE hW hl
  have hown : s.vm.findClass RX4 = some m.cls := hown
  refine lv_aload_n hx hb dX4_green_0 rfl (lv_at hl 0 rfl) ?_
  refine sg_get (ci := 3) (C := RX4) (T := TX4) (N := 7) (v := .ref (ta 0)) hx hb hts (fun _ h => List.mem_cons_of_mem _ (List.mem_append_left _ (List.mem_append_left _ (List.mem_append_right _ h)))) hown hK hW 0 0 rfl rfl rfl 1 (by decide) (hts _ (List.mem_of_getElem? (i := 1) rfl)) rfl dX4_green_1 ?_
  refine lv_aload_n hx hb dX4_green_4 rfl (lv_at hl 0 rfl) ?_
  refine sg_get (ci := 3) (C := RX4) (T := TX4) (N := 7) (v := .ref (la 0)) hx hb hts (fun _ h => List.mem_cons_of_mem _ (List.mem_append_left _ (List.mem_append_left _ (List.mem_append_right _ h)))) hown hK hW 0 0 rfl rfl rfl 0 (by decide) (hts _ (List.mem_of_getElem? (i := 2) rfl)) rfl dX4_green_5 ?_
  refine cl_Vv (As := [.ref (la 0)]) (rest := []) (C := RX0) ⟨hx, hb, hml, hown, hts⟩ (M_X0_become2 l D cI cJ ta la Tx G) (cwV 1 hts gX4_green_X0_become rfl rfl rfl qX0_become ⟨Nat.le_of_ble_eq_true rfl, Nat.le_of_ble_eq_true rfl⟩) E0_good hK hA hW trivial [false, true, false, true] (fun _ => [xH x la ta ka tp sh fi ik, gW cI la G, tW cI tp T R, gW cI ta G]) rfl (fun _ => rfl) (fun _ => rfl) 3 0 rfl rfl rfl rfl hl.1 rfl (lv_room (Nat.le_of_ble_eq_true rfl)) dX4_green_8 ⟨Nat.zero_le _, Nat.zero_le _⟩ (fun _ H locs _ hW => ?_)
  refine lv_aload_n hx hb dX4_green_11 rfl (lv_at hl 0 rfl) ?_
  refine sg_get (ci := 3) (C := RX4) (T := TX4) (N := 7) (v := .ref (tp 0)) hx hb hts (fun _ h => List.mem_cons_of_mem _ (List.mem_append_left _ (List.mem_append_left _ (List.mem_append_right _ h)))) hown hK hW 0 0 rfl rfl rfl 4 (by decide) (hts _ (List.mem_of_getElem? (i := 3) rfl)) rfl dX4_green_12 ?_
  refine lv_aload_n hx hb dX4_green_15 rfl (lv_at hl 0 rfl) ?_
  refine sg_get (ci := 3) (C := RX4) (T := TX4) (N := 7) (v := .ref (ta 0)) hx hb hts (fun _ h => List.mem_cons_of_mem _ (List.mem_append_left _ (List.mem_append_left _ (List.mem_append_right _ h)))) hown hK hW 0 0 rfl rfl rfl 1 (by decide) (hts _ (List.mem_of_getElem? (i := 1) rfl)) rfl dX4_green_16 ?_
  refine cw_Vi (As := [.ref (ta 0)]) (rest := []) (C := RX3) ⟨hx, hb, hml, hown, hts⟩ (M_X3_addItems l D cI cJ aK aV tp T R ta G L hL0 hL hT 99999 (by decide) hG) (cwV 1 hts gX4_green_X3_addItems rfl rfl rfl qX3_addItems ⟨Nat.le_of_ble_eq_true rfl, Nat.le_of_ble_eq_true rfl⟩) (ES_good aK aV) hK hA hW hE [false, false, true, true] (fun u1 => [xH x la ta ka tp sh fi ik, gW cI la G, tW cI tp T u1.1, gW cI ta u1.2]) rfl (fun _ => rfl) (fun _ => rfl) 2 0 rfl rfl rfl rfl hl.1 rfl (lv_room (Nat.le_of_ble_eq_true rfl)) dX4_green_19 ⟨Nat.zero_le _, Nat.zero_le _⟩ (fun u1 H locs hp2 hW => ?_)
  obtain ⟨hu0_, hu1_⟩ := hp2
  rcases parS_01 (T := T) hL 120 0 G 1 (Nat.zero_le _) hG with hp | hp
  · refine W.top (v' := .int ((-1) - nI (parS T L 120 0 G 1).2.1)) (by unfold greenV; rw [if_pos hp.1]) ?_
    refine lv_istore_n (lv' := [(1, .int ((-1) - nI (parS T L 120 0 G 1).2.1)), (0, .ref x)]) hx hb dX4_green_22 rfl hl (by decide) rfl (fun ls hl => ?_)
    refine lv_aload_n hx hb dX4_green_23 rfl (lv_at hl 1 rfl) ?_
    refine sg_get (ci := 3) (C := RX4) (T := TX4) (N := 7) (v := .ref (tp 0)) hx hb hts (fun _ h => List.mem_cons_of_mem _ (List.mem_append_left _ (List.mem_append_left _ (List.mem_append_right _ h)))) hown hK hW 0 0 rfl rfl rfl 4 (by decide) (hts _ (List.mem_of_getElem? (i := 3) rfl)) rfl dX4_green_24 ?_
    refine lv_iconst (v := nI 0) hx hb dX4_green_27 (by decide +kernel) ?_
    refine sg_put (ci := 2) (C := RX3) (T := TX3) (N := 6) hx hb hts (fun _ h => List.mem_cons_of_mem _ (List.mem_append_left _ (List.mem_append_right _ h))) tyX3 tyX3_ok nmX3 hown hK hW 2 0 rfl rfl rfl 1 (by decide) (hts _ (List.mem_of_getElem? (i := 4) rfl)) rfl (by decide +kernel) (by decide +kernel) (Nat.le_of_ble_eq_true rfl) (tW_s0 cI tp T u1.1 0) (ss' := [xH x la ta ka tp sh fi ik, gW cI la G, tW cI tp T (up u1.1 0 0), gW cI ta u1.2]) rfl dX4_green_28 (fun H locs hW => ?_)
    refine lv_iload_n hx hb dX4_green_31 rfl (lv_at hl 0 rfl) ?_
    refine zz_zlt (tgt := 46) hx hb dX4_green_32 (by decide) (m1_toInt hp.2) (fun c32 => ?_) (fun c32 => ?_)
    · refine lv_iload_n hx hb dX4_green_46 rfl (lv_at hl 0 rfl) ?_
      exact rt_i hQ hx hb hr hlocks hW dX4_green_47 ((up u1.1 0 0), u1.2) (by unfold greenV; rw [if_pos hp.1]) rfl (by rw [greenG_0 hp.1])
    · exfalso; omega
  · refine W.top (v' := .int (nI (parS T L 120 0 G 1).2.1)) (by unfold greenV; rw [if_neg (by omega)]) ?_
    refine lv_istore_n (lv' := [(1, .int (nI ((parS T L 120 0 G 1).2.1))), (0, .ref x)]) hx hb dX4_green_22 rfl hl (by decide) rfl (fun ls hl => ?_)
    refine lv_aload_n hx hb dX4_green_23 rfl (lv_at hl 1 rfl) ?_
    refine sg_get (ci := 3) (C := RX4) (T := TX4) (N := 7) (v := .ref (tp 0)) hx hb hts (fun _ h => List.mem_cons_of_mem _ (List.mem_append_left _ (List.mem_append_left _ (List.mem_append_right _ h)))) hown hK hW 0 0 rfl rfl rfl 4 (by decide) (hts _ (List.mem_of_getElem? (i := 3) rfl)) rfl dX4_green_24 ?_
    refine lv_iconst (v := nI 0) hx hb dX4_green_27 (by decide +kernel) ?_
    refine sg_put (ci := 2) (C := RX3) (T := TX3) (N := 6) hx hb hts (fun _ h => List.mem_cons_of_mem _ (List.mem_append_left _ (List.mem_append_right _ h))) tyX3 tyX3_ok nmX3 hown hK hW 2 0 rfl rfl rfl 1 (by decide) (hts _ (List.mem_of_getElem? (i := 4) rfl)) rfl (by decide +kernel) (by decide +kernel) (Nat.le_of_ble_eq_true rfl) (tW_s0 cI tp T u1.1 0) (ss' := [xH x la ta ka tp sh fi ik, gW cI la G, tW cI tp T (up u1.1 0 0), gW cI ta u1.2]) rfl dX4_green_28 (fun H locs hW => ?_)
    refine lv_iload_n hx hb dX4_green_31 rfl (lv_at hl 0 rfl) ?_
    refine nn_zlt (tgt := 46) hx hb dX4_green_32 (by decide) (by omega) (fun c32_1 => ?_) (fun c32_1 => ?_)
    · exfalso; omega
    · refine lv_aload_n hx hb dX4_green_35 rfl (lv_at hl 1 rfl) ?_
      refine sg_get (ci := 3) (C := RX4) (T := TX4) (N := 7) (v := .ref (la 0)) hx hb hts (fun _ h => List.mem_cons_of_mem _ (List.mem_append_left _ (List.mem_append_left _ (List.mem_append_right _ h)))) hown hK hW 0 0 rfl rfl rfl 0 (by decide) (hts _ (List.mem_of_getElem? (i := 2) rfl)) rfl dX4_green_36 ?_
      refine lv_aload_n hx hb dX4_green_39 rfl (lv_at hl 1 rfl) ?_
      refine sg_get (ci := 3) (C := RX4) (T := TX4) (N := 7) (v := .ref (ta 0)) hx hb hts (fun _ h => List.mem_cons_of_mem _ (List.mem_append_left _ (List.mem_append_left _ (List.mem_append_right _ h)))) hown hK hW 0 0 rfl rfl rfl 1 (by decide) (hts _ (List.mem_of_getElem? (i := 1) rfl)) rfl dX4_green_40 ?_
      refine cl_Vv (As := [.ref (ta 0)]) (rest := []) (C := RX0) ⟨hx, hb, hml, hown, hts⟩ (M_X0_become l D cI cJ la ta G u1.2) (cwV 1 hts gX4_green_X0_become rfl rfl rfl qX0_become ⟨Nat.le_of_ble_eq_true rfl, Nat.le_of_ble_eq_true rfl⟩) E0_good hK hA hW trivial [false, true, false, true] (fun _ => [xH x la ta ka tp sh fi ik, gW cI la u1.2, tW cI tp T (up u1.1 0 0), gW cI ta u1.2]) rfl (fun _ => rfl) (fun _ => rfl) 1 0 rfl rfl rfl rfl hl.1 rfl (lv_room (Nat.le_of_ble_eq_true rfl)) dX4_green_43 ⟨Nat.zero_le _, Nat.zero_le _⟩ (fun _ H locs _ hW => ?_)
      refine lv_iload_n hx hb dX4_green_46 rfl (lv_at hl 0 rfl) ?_
      exact rt_i hQ hx hb hr hlocks hW dX4_green_47 ((up u1.1 0 0), u1.2) (by unfold greenV; rw [if_neg (by omega)]) rfl (by rw [greenG_1 hp.1, ← hu1_ hp.1])
