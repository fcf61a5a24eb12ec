theorem qX5_passes : yX5_passes.cls = RX5 ∧ yX5_passes.cls ≠ "java/lang/invoke/MethodHandle" ∧ yX5_passes.cls ≠ "java/lang/invoke/VarHandle" ∧ (parseMethodDescriptor yX5_passes.desc).map (fun d => d.parameters.length) = some 1 := by decide +kernel
theorem qX5_number : yX5_number.cls = RX5 ∧ yX5_number.cls ≠ "java/lang/invoke/MethodHandle" ∧ yX5_number.cls ≠ "java/lang/invoke/VarHandle" ∧ (parseMethodDescriptor yX5_number.desc).map (fun d => d.parameters.length) = some 2 := by decide +kernel
theorem qX5_perhaps : yX5_perhaps.cls = RX5 ∧ yX5_perhaps.cls ≠ "java/lang/invoke/MethodHandle" ∧ yX5_perhaps.cls ≠ "java/lang/invoke/VarHandle" ∧ (parseMethodDescriptor yX5_perhaps.desc).map (fun d => d.parameters.length) = some 4 := by decide +kernel
theorem qX5_rainItem : yX5_rainItem.cls = RX5 ∧ yX5_rainItem.cls ≠ "java/lang/invoke/MethodHandle" ∧ yX5_rainItem.cls ≠ "java/lang/invoke/VarHandle" ∧ (parseMethodDescriptor yX5_rainItem.desc).map (fun d => d.parameters.length) = some 0 := by decide +kernel
theorem qX5_childItem : yX5_childItem.cls = RX5 ∧ yX5_childItem.cls ≠ "java/lang/invoke/MethodHandle" ∧ yX5_childItem.cls ≠ "java/lang/invoke/VarHandle" ∧ (parseMethodDescriptor yX5_childItem.desc).map (fun d => d.parameters.length) = some 0 := by decide +kernel
theorem qX5_motherItem : yX5_motherItem.cls = RX5 ∧ yX5_motherItem.cls ≠ "java/lang/invoke/MethodHandle" ∧ yX5_motherItem.cls ≠ "java/lang/invoke/VarHandle" ∧ (parseMethodDescriptor yX5_motherItem.desc).map (fun d => d.parameters.length) = some 0 := by decide +kernel
theorem qX5_item : yX5_item.cls = RX5 ∧ yX5_item.cls ≠ "java/lang/invoke/MethodHandle" ∧ yX5_item.cls ≠ "java/lang/invoke/VarHandle" ∧ (parseMethodDescriptor yX5_item.desc).map (fun d => d.parameters.length) = some 0 := by decide +kernel
abbrev rmX5_perhaps : Room := { frames := 4, cells := 0, slots := 0, locals := 89 }
set_option maxRecDepth 100000 in
set_option maxHeartbeats 4000000 in
theorem M_X5_perA (l : Launch) (D : va_G) (cI cJ : ClassId) (mo R T : Nat → Nat) (nt : Nat) (L : Nat) (hR1 : R 1 = L) (hL : L ≤ 120) (q : Nat) (hq : q ≤ L) (hT : ∀ i, T i < 256) (hk : ¬ kT T L q = 6) : CE (EM nt) l D vwCl [(cI, .int), (cJ, .long)] yX5_perhaps wsX5_perhaps rmX5_perhaps [.ref (mo 0), .int (nI 6), .int (nI 0), .int (nI 99), .int (nI 10)] [mH mo (tkM R T L q 0), aI cI (mo 5) 120 T] (S := Unit) (some (.int (nI (10)))) (fun _ => True) (fun _ : Unit => [mH mo (tkM R T L q 0), aI cI (mo 5) 120 T]) 0 0 := by
  refine CE.ofW (cc := cX5_perhaps) (maxL := 5) (ret := (some .int)) (lv := [(0, .ref (mo 0)), (1, .int (nI 6)), (2, .int (nI 0)), (3, .int (nI 99)), (4, .int (nI 10))]) (by decide) rfl (Nat.le_of_ble_eq_true rfl) rfl ?_
  intro p e s m args below meth c ls A Q hQ hx hb hml hr hlocks hnm hown hts hK hA hE hW hl
  have hown : s.vm.findClass RX5 = some m.cls := hown
  have hkl := kT_le T L q
  refine lv_aload_n hx hb dX5_perhaps_0 rfl (lv_at hl 0 rfl) ?_
  refine lv_iload_n hx hb dX5_perhaps_1 rfl (lv_at hl 1 rfl) ?_
  refine cw_Vi (As := [.int (nI 6)]) (rest := []) (C := RX5) ⟨hx, hb, hml, hown, hts⟩ (M_X5_passN l D cI cJ mo R T nt L hR1 hL q (by omega) hT 0 6 (by omega) (by decide) (by omega)) (cwV 1 hts gX5_perhaps_X5_passes rfl rfl rfl qX5_passes ⟨Nat.le_of_ble_eq_true rfl, Nat.le_of_ble_eq_true rfl⟩) (EM_good nt) hK hA hW hE [true, true] (fun _ => [mH mo (tkM R T L q 0), aI cI (mo 5) 120 T]) rfl (fun _ => rfl) (fun _ => rfl) 0 0 rfl rfl rfl rfl hl.1 rfl (lv_room (Nat.le_of_ble_eq_true rfl)) dX5_perhaps_2 ⟨Nat.zero_le _, Nat.zero_le _⟩ (fun _ H locs _ hW => ?_)
  refine nn_zeq (tgt := 17) hx hb dX5_perhaps_5 (by decide) (by decide) (fun c5 => ?_) (fun c5 => ?_)
  · refine lv_iload hx hb dX5_perhaps_17 (lv_at hl 4 rfl) ?_
    exact rt_i hQ hx hb hr hlocks hW dX5_perhaps_19 () rfl trivial rfl
  · exfalso; omega
set_option maxRecDepth 100000 in
set_option maxHeartbeats 4000000 in
theorem M_X5_perB (l : Launch) (D : va_G) (cI cJ : ClassId) (mo R T : Nat → Nat) (nt : Nat) (L : Nat) (hR1 : R 1 = L) (hL : L ≤ 120) (q : Nat) (hq : q ≤ L) (hT : ∀ i, T i < 256) (hk : kT T L q = 6) (hn : okN T L (eT T L q) 0 99 = 1) : CE (EM nt) l D vwCl [(cI, .int), (cJ, .long)] yX5_perhaps wsX5_perhaps rmX5_perhaps [.ref (mo 0), .int (nI 6), .int (nI 0), .int (nI 99), .int (nI 10)] [mH mo (tkM R T L q 0), aI cI (mo 5) 120 T] (S := Unit) (some (.int (nI (nT T L (eT T L q))))) (fun _ => True) (fun _ : Unit => [mH mo (tkM R T L (eT T L (eT T L q)) 0), aI cI (mo 5) 120 T]) 0 0 := by
  refine CE.ofW (cc := cX5_perhaps) (maxL := 5) (ret := (some .int)) (lv := [(0, .ref (mo 0)), (1, .int (nI 6)), (2, .int (nI 0)), (3, .int (nI 99)), (4, .int (nI 10))]) (by decide) rfl (Nat.le_of_ble_eq_true rfl) rfl ?_
  intro p e s m args below meth c ls A Q hQ hx hb hml hr hlocks hnm hown hts hK hA hE hW hl
  have hown : s.vm.findClass RX5 = some m.cls := hown
  have hkl := kT_le T L q
  refine lv_aload_n hx hb dX5_perhaps_0 rfl (lv_at hl 0 rfl) ?_
  refine lv_iload_n hx hb dX5_perhaps_1 rfl (lv_at hl 1 rfl) ?_
  refine cw_Vi (As := [.int (nI 6)]) (rest := []) (C := RX5) ⟨hx, hb, hml, hown, hts⟩ (M_X5_passY l D cI cJ mo R T nt L hR1 hL q (by omega) hT 6 (by decide) (by omega)) (cwV 1 hts gX5_perhaps_X5_passes rfl rfl rfl qX5_passes ⟨Nat.le_of_ble_eq_true rfl, Nat.le_of_ble_eq_true rfl⟩) (EM_good nt) hK hA hW hE [true, true] (fun _ => [mH mo (tkM R T L (eT T L q) 0), aI cI (mo 5) 120 T]) rfl (fun _ => rfl) (fun _ => rfl) 0 0 rfl rfl rfl rfl hl.1 rfl (lv_room (Nat.le_of_ble_eq_true rfl)) dX5_perhaps_2 ⟨Nat.zero_le _, Nat.zero_le _⟩ (fun _ H locs _ hW => ?_)
  have hei_ := (eT_in T (L := L) (p := q) (by omega)).2
  have hkl_ := kT_le T L (eT T L q)
  have hml_ := mT_le hT L (eT T L q)
  refine nn_zeq (tgt := 17) hx hb dX5_perhaps_5 (by decide) (by decide) (fun c5 => ?_) (fun c5 => ?_)
  · exfalso; omega
  · refine lv_aload_n hx hb dX5_perhaps_8 rfl (lv_at hl 0 rfl) ?_
    refine lv_iload_n hx hb dX5_perhaps_9 rfl (lv_at hl 2 rfl) ?_
    refine lv_iload_n hx hb dX5_perhaps_10 rfl (lv_at hl 3 rfl) ?_
    refine cw_Vi (As := [.int (nI 0), .int (nI 99)]) (rest := []) (C := RX5) ⟨hx, hb, hml, hown, hts⟩ (M_X5_numY l D cI cJ mo R T nt L hR1 hL (eT T L q) (by omega) hT 0 99 (by decide) (by decide) (by omega)) (cwV 2 hts gX5_perhaps_X5_number rfl rfl rfl qX5_number ⟨Nat.le_of_ble_eq_true rfl, Nat.le_of_ble_eq_true rfl⟩) (EM_good nt) hK hA hW hE [true, true] (fun _ => [mH mo (tkM R T L (eT T L (eT T L q)) 0), aI cI (mo 5) 120 T]) rfl (fun _ => rfl) (fun _ => rfl) 0 0 rfl rfl rfl rfl hl.1 rfl (lv_room (Nat.le_of_ble_eq_true rfl)) dX5_perhaps_11 ⟨Nat.zero_le _, Nat.zero_le _⟩ (fun _ H locs _ hW => ?_)
    have hei_ := (eT_in T (L := L) (p := eT T L q) (by omega)).2
    have hkl_ := kT_le T L (eT T L (eT T L q))
    have hml_ := mT_le hT L (eT T L (eT T L q))
    refine lv_goto (tgt := 19) hx hb dX5_perhaps_14 (by decide) ?_
    exact rt_i hQ hx hb hr hlocks hW dX5_perhaps_19 () rfl trivial rfl
set_option maxRecDepth 100000 in
set_option maxHeartbeats 4000000 in
theorem M_X5_perC (l : Launch) (D : va_G) (cI cJ : ClassId) (mo R T : Nat → Nat) (nt : Nat) (L : Nat) (hR1 : R 1 = L) (hL : L ≤ 120) (q : Nat) (hq : q ≤ L) (hT : ∀ i, T i < 256) (hk : kT T L q = 6) (hn : okN T L (eT T L q) 0 99 = 0) : CE (EM nt) l D vwCl [(cI, .int), (cJ, .long)] yX5_perhaps wsX5_perhaps rmX5_perhaps [.ref (mo 0), .int (nI 6), .int (nI 0), .int (nI 99), .int (nI 10)] [mH mo (tkM R T L q 0), aI cI (mo 5) 120 T] (S := Unit) (some (.int (nI (mT T L (eT T L q))))) (fun _ => True) (fun _ : Unit => [mH mo (tkM R T L (eT T L q) 1), aI cI (mo 5) 120 T]) 0 0 := by
  refine CE.ofW (cc := cX5_perhaps) (maxL := 5) (ret := (some .int)) (lv := [(0, .ref (mo 0)), (1, .int (nI 6)), (2, .int (nI 0)), (3, .int (nI 99)), (4, .int (nI 10))]) (by decide) rfl (Nat.le_of_ble_eq_true rfl) rfl ?_
  intro p e s m args below meth c ls A Q hQ hx hb hml hr hlocks hnm hown hts hK hA hE hW hl
  have hown : s.vm.findClass RX5 = some m.cls := hown
  have hkl := kT_le T L q
  refine lv_aload_n hx hb dX5_perhaps_0 rfl (lv_at hl 0 rfl) ?_
  refine lv_iload_n hx hb dX5_perhaps_1 rfl (lv_at hl 1 rfl) ?_
  refine cw_Vi (As := [.int (nI 6)]) (rest := []) (C := RX5) ⟨hx, hb, hml, hown, hts⟩ (M_X5_passY l D cI cJ mo R T nt L hR1 hL q (by omega) hT 6 (by decide) (by omega)) (cwV 1 hts gX5_perhaps_X5_passes rfl rfl rfl qX5_passes ⟨Nat.le_of_ble_eq_true rfl, Nat.le_of_ble_eq_true rfl⟩) (EM_good nt) hK hA hW hE [true, true] (fun _ => [mH mo (tkM R T L (eT T L q) 0), aI cI (mo 5) 120 T]) rfl (fun _ => rfl) (fun _ => rfl) 0 0 rfl rfl rfl rfl hl.1 rfl (lv_room (Nat.le_of_ble_eq_true rfl)) dX5_perhaps_2 ⟨Nat.zero_le _, Nat.zero_le _⟩ (fun _ H locs _ hW => ?_)
  have hei_ := (eT_in T (L := L) (p := q) (by omega)).2
  have hkl_ := kT_le T L (eT T L q)
  have hml_ := mT_le hT L (eT T L q)
  refine nn_zeq (tgt := 17) hx hb dX5_perhaps_5 (by decide) (by decide) (fun c5 => ?_) (fun c5 => ?_)
  · exfalso; omega
  · refine lv_aload_n hx hb dX5_perhaps_8 rfl (lv_at hl 0 rfl) ?_
    refine lv_iload_n hx hb dX5_perhaps_9 rfl (lv_at hl 2 rfl) ?_
    refine lv_iload_n hx hb dX5_perhaps_10 rfl (lv_at hl 3 rfl) ?_
    refine cw_Vi (As := [.int (nI 0), .int (nI 99)]) (rest := []) (C := RX5) ⟨hx, hb, hml, hown, hts⟩ (M_X5_numN l D cI cJ mo R T nt L hR1 hL (eT T L q) (by omega) hT 0 99 (by decide) (by decide) (by omega)) (cwV 2 hts gX5_perhaps_X5_number rfl rfl rfl qX5_number ⟨Nat.le_of_ble_eq_true rfl, Nat.le_of_ble_eq_true rfl⟩) (EM_good nt) hK hA hW hE [true, true] (fun _ => [mH mo (tkM R T L (eT T L q) 1), aI cI (mo 5) 120 T]) rfl (fun _ => rfl) (fun _ => rfl) 0 0 rfl rfl rfl rfl hl.1 rfl (lv_room (Nat.le_of_ble_eq_true rfl)) dX5_perhaps_11 ⟨Nat.zero_le _, Nat.zero_le _⟩ (fun _ H locs _ hW => ?_)
    refine lv_goto (tgt := 19) hx hb dX5_perhaps_14 (by decide) ?_
    exact rt_i hQ hx hb hr hlocks hW dX5_perhaps_19 () rfl trivial rfl
abbrev rmX5_motherItem : Room := { frames := 5, cells := 0, slots := 0, locals := 113 }
set_option maxRecDepth 100000 in
set_option maxHeartbeats 4000000 in
theorem M_X5_motherItem (l : Launch) (D : va_G) (cI cJ : ClassId) (mo R T G : Nat → Nat) (nt : Nat) (L : Nat) (hR1 : R 1 = L) (hL : L ≤ 120) (q : Nat) (hq : q ≤ L) (hT : ∀ i, T i < 256) (b : Nat) (hb30 : b < 2 ^ 30) (hG : OkG b G) (hk5 : kT T L q ≤ 5) : CE (EM nt) l D vwCl [(cI, .int), (cJ, .long)] yX5_motherItem wsX5_motherItem rmX5_motherItem [.ref (mo 0)] [mH mo (tkM R T L q 0), mR cI (mo 1) G, aI cI (mo 5) 120 T] (S := Unit) none (fun _ => True) (fun _ : Unit => [mH mo (tkM R T L (motS T L q G (kT T L q)).2.1 (1 - (motS T L q G (kT T L q)).1)), mR cI (mo 1) (motS T L q G (kT T L q)).2.2, aI cI (mo 5) 120 T]) 0 0 := by
  refine CE.ofW (cc := cX5_motherItem) (maxL := 5) (ret := none) (lv := [(0, .ref (mo 0))]) (by decide) rfl (Nat.le_of_ble_eq_true rfl) rfl ?_
  intro p e s m args below meth c ls A Q hQ hx hb hml hr hlocks hnm hown hts hK hA hE hW hl
  have hown : s.vm.findClass RX5 = some m.cls := hown
  obtain ⟨hg0, hg8, hg16, hg16b, hg24, hg32, hg40, hg48⟩ := hG.s
  have hkl := kT_le T L q
  refine lv_aload_n hx hb dX5_motherItem_0 rfl (lv_at hl 0 rfl) ?_
  refine sg_get (ci := 4) (C := RX5) (T := TX5) (N := 15) (v := .int (nI (kT T L q))) hx hb hts (fun _ h => List.mem_cons_of_mem _ (List.mem_append_right _ h)) hown hK hW 0 0 rfl rfl rfl 7 (by decide) (hts _ (List.mem_of_getElem? (i := 1) rfl)) (congrArg (fun z => some (Value.int (nI z))) (tkM_g2 _ _ _ _ _)) dX5_motherItem_1 ?_
  refine lv_istore_n (lv' := [(1, .int (nI (kT T L q))), (0, .ref (mo 0))]) hx hb dX5_motherItem_4 rfl hl (by decide) rfl (fun ls hl => ?_)
  refine lv_aload_n hx hb dX5_motherItem_5 rfl (lv_at hl 1 rfl) ?_
  refine lv_aload_n hx hb dX5_motherItem_6 rfl (lv_at hl 1 rfl) ?_
  refine sg_get (ci := 4) (C := RX5) (T := TX5) (N := 15) (v := .ref (mo 1)) hx hb hts (fun _ h => List.mem_cons_of_mem _ (List.mem_append_right _ h)) hown hK hW 0 0 rfl rfl rfl 0 (by decide) (hts _ (List.mem_of_getElem? (i := 2) rfl)) rfl dX5_motherItem_7 ?_
  refine lv_iconst (v := nI 5) hx hb dX5_motherItem_10 (by decide +kernel) ?_
  refine sg_ild (v := nI (G 40)) hx hb hK hW 1 0 0 rfl rfl rfl (by decide) (by decide) rfl dX5_motherItem_11 ?_
  refine lv_bipush (v := nI 8) hx hb dX5_motherItem_12 (by decide +kernel) ?_
  refine nn_cne (tgt := 21) hx hb dX5_motherItem_14 (by decide) (by omega) (by decide) (fun c14 => ?_) (fun c14 => ?_)
  · refine lv_iconst (v := nI 0) hx hb dX5_motherItem_21 (by decide +kernel) ?_
    refine sg_put (ci := 4) (C := RX5) (T := TX5) (N := 15) hx hb hts (fun _ h => List.mem_cons_of_mem _ (List.mem_append_right _ h)) tyX5 tyX5_ok nmX5 hown hK hW 0 0 rfl rfl rfl 11 (by decide) (hts _ (List.mem_of_getElem? (i := 3) rfl)) rfl (by decide +kernel) (by decide +kernel) (Nat.le_of_ble_eq_true rfl) ((mH_s6 mo (tkM R T L q 0) 0).trans (congrArg (mH mo) (tkM_6 _ _ _ _ _ _))) (ss' := [mH mo (tkM R T L q 0), mR cI (mo 1) G, aI cI (mo 5) 120 T]) rfl dX5_motherItem_22 (fun H locs hW => ?_)
    refine lv_aload_n hx hb dX5_motherItem_25 rfl (lv_at hl 1 rfl) ?_
    refine sg_get (ci := 4) (C := RX5) (T := TX5) (N := 15) (v := .int (nI 0)) hx hb hts (fun _ h => List.mem_cons_of_mem _ (List.mem_append_right _ h)) hown hK hW 0 0 rfl rfl rfl 11 (by decide) (hts _ (List.mem_of_getElem? (i := 3) rfl)) (congrArg (fun z => some (Value.int (nI z))) (tkM_g6 _ _ _ _ _)) dX5_motherItem_26 ?_
    refine nn_zeq (tgt := 33) hx hb dX5_motherItem_29 (by decide) (by decide) (fun c29 => ?_) (fun c29 => ?_)
    · refine lv_aload_n hx hb dX5_motherItem_33 rfl (lv_at hl 1 rfl) ?_
      refine cw_Vv (As := []) (rest := []) (C := RX5) ⟨hx, hb, hml, hown, hts⟩ (M_X5_rd l D cI cJ mo R T nt L hR1 hL q 0 (by omega) hT) (cwV 0 hts gX5_motherItem_X5_reads rfl rfl rfl qX5_reads ⟨Nat.le_of_ble_eq_true rfl, Nat.le_of_ble_eq_true rfl⟩) (EM_good nt) hK hA hW hE [true, false, true] (fun _ => [mH mo (tkM R T L (eT T L q) 0), mR cI (mo 1) G, aI cI (mo 5) 120 T]) rfl (fun _ => rfl) (fun _ => rfl) 0 0 rfl rfl rfl rfl hl.1 rfl (lv_room (Nat.le_of_ble_eq_true rfl)) dX5_motherItem_34 ⟨Nat.zero_le _, Nat.zero_le _⟩ (fun _ H locs _ hW => ?_)
      have hei_ := (eT_in T (L := L) (p := q) (by omega)).2
      have hkl_ := kT_le T L (eT T L q)
      have hml_ := mT_le hT L (eT T L q)
      refine lv_aload_n hx hb dX5_motherItem_37 rfl (lv_at hl 1 rfl) ?_
      refine lv_bipush (v := nI 6) hx hb dX5_motherItem_38 (by decide +kernel) ?_
      refine lv_iconst (v := nI 0) hx hb dX5_motherItem_40 (by decide +kernel) ?_
      refine lv_bipush (v := nI 99) hx hb dX5_motherItem_41 (by decide +kernel) ?_
      refine lv_bipush (v := nI 10) hx hb dX5_motherItem_43 (by decide +kernel) ?_
      rcases (show ¬ kT T L (eT T L q) = 6 ∨ (kT T L (eT T L q) = 6 ∧ okN T L (eT T L (eT T L q)) 0 99 = 1) ∨ (kT T L (eT T L q) = 6 ∧ okN T L (eT T L (eT T L q)) 0 99 = 0) by have := okN_or T L (eT T L (eT T L q)) 0 99; omega) with hpe | hpe | hpe
      · refine cw_Vi (As := [.int (nI 6), .int (nI 0), .int (nI 99), .int (nI 10)]) (rest := []) (C := RX5) ⟨hx, hb, hml, hown, hts⟩ (M_X5_perA l D cI cJ mo R T nt L hR1 hL (eT T L q) (by omega) hT (by omega)) (cwV 4 hts gX5_motherItem_X5_perhaps rfl rfl rfl qX5_perhaps ⟨Nat.le_of_ble_eq_true rfl, Nat.le_of_ble_eq_true rfl⟩) (EM_good nt) hK hA hW hE [true, false, true] (fun _ => [mH mo (tkM R T L (eT T L q) 0), mR cI (mo 1) G, aI cI (mo 5) 120 T]) rfl (fun _ => rfl) (fun _ => rfl) 0 0 rfl rfl rfl rfl hl.1 rfl (lv_room (Nat.le_of_ble_eq_true rfl)) dX5_motherItem_45 ⟨Nat.zero_le _, Nat.zero_le _⟩ (fun _ H locs _ hW => ?_)
        refine lv_istore_n (lv' := [(2, .int (nI 10)), (1, .int (nI (kT T L q))), (0, .ref (mo 0))]) hx hb dX5_motherItem_48 rfl hl (by decide) rfl (fun ls hl => ?_)
        refine lv_aload_n hx hb dX5_motherItem_49 rfl (lv_at hl 2 rfl) ?_
        refine lv_bipush (v := nI 7) hx hb dX5_motherItem_50 (by decide +kernel) ?_
        rcases Nat.decEq (kT T L (eT T L q)) 7 with hpk7 | hpk7
        · refine cw_Vi (As := [.int (nI 7)]) (rest := []) (C := RX5) ⟨hx, hb, hml, hown, hts⟩ (M_X5_passN l D cI cJ mo R T nt L hR1 hL (eT T L q) (by omega) hT 0 7 (by omega) (by decide) (by omega)) (cwV 1 hts gX5_motherItem_X5_passes rfl rfl rfl qX5_passes ⟨Nat.le_of_ble_eq_true rfl, Nat.le_of_ble_eq_true rfl⟩) (EM_good nt) hK hA hW hE [true, false, true] (fun _ => [mH mo (tkM R T L (eT T L q) 0), mR cI (mo 1) G, aI cI (mo 5) 120 T]) rfl (fun _ => rfl) (fun _ => rfl) 0 0 rfl rfl rfl rfl hl.1 rfl (lv_room (Nat.le_of_ble_eq_true rfl)) dX5_motherItem_52 ⟨Nat.zero_le _, Nat.zero_le _⟩ (fun _ H locs _ hW => ?_)
          refine nn_zeq (tgt := 62) hx hb dX5_motherItem_55 (by decide) (by decide) (fun c55 => ?_) (fun c55 => ?_)
          · refine lv_iconst (v := nI 0) hx hb dX5_motherItem_62 (by decide +kernel) ?_
            refine lv_istore_n (lv' := [(3, .int (nI 0)), (2, .int (nI 10)), (1, .int (nI (kT T L q))), (0, .ref (mo 0))]) hx hb dX5_motherItem_63 rfl hl (by decide) rfl (fun ls hl => ?_)
            refine lv_aload_n hx hb dX5_motherItem_64 rfl (lv_at hl 3 rfl) ?_
            refine sg_get (ci := 4) (C := RX5) (T := TX5) (N := 15) (v := .int (nI 0)) hx hb hts (fun _ h => List.mem_cons_of_mem _ (List.mem_append_right _ h)) hown hK hW 0 0 rfl rfl rfl 11 (by decide) (hts _ (List.mem_of_getElem? (i := 3) rfl)) (congrArg (fun z => some (Value.int (nI z))) (tkM_g6 _ _ _ _ _)) dX5_motherItem_65 ?_
            refine nn_zne (tgt := 80) hx hb dX5_motherItem_68 (by decide) (by decide) (fun c68 => ?_) (fun c68 => ?_)
            · exfalso; omega
            · refine lv_aload_n hx hb dX5_motherItem_71 rfl (lv_at hl 3 rfl) ?_
              refine lv_iload_n hx hb dX5_motherItem_72 rfl (lv_at hl 2 rfl) ?_
              refine lv_iload_n hx hb dX5_motherItem_73 rfl (lv_at hl 1 rfl) ?_
              refine lv_iload_n hx hb dX5_motherItem_74 rfl (lv_at hl 0 rfl) ?_
              refine cl_Vi (As := [.int (nI (kT T L q)), .int (nI 10), .int (nI 0)]) (rest := []) (C := RX5) ⟨hx, hb, hml, hown, hts⟩ (M_X5_comesAs l D cI cJ mo (tkM R T L (eT T L q) 0) G b hb30 hG (kT T L q) 10 0 (by omega)) (cwV 3 hts gX5_motherItem_X5_comesAs rfl rfl rfl qX5_comesAs ⟨Nat.le_of_ble_eq_true rfl, Nat.le_of_ble_eq_true rfl⟩) E0_good hK hA hW trivial [true, true] (fun _ => [mH mo (tkM R T L (eT T L q) 0), mR cI (mo 1) (addM G (kT T L q) 10 0), aI cI (mo 5) 120 T]) rfl (fun _ => rfl) (fun _ => rfl) 0 0 rfl rfl rfl rfl hl.1 rfl (lv_room (Nat.le_of_ble_eq_true rfl)) dX5_motherItem_75 ⟨Nat.zero_le _, Nat.zero_le _⟩ (fun _ H locs _ hW => ?_)
              refine lv_istore (lv' := [(4, .int (nI (G 40))), (3, .int (nI 0)), (2, .int (nI 10)), (1, .int (nI (kT T L q))), (0, .ref (mo 0))]) hx hb dX5_motherItem_78 hl (by decide) rfl (fun ls hl => ?_)
              exact rt_v hQ hx hb hr hlocks hW dX5_motherItem_80 () rfl trivial (by simp only [motS, motO]; (repeat' split) <;> first | rfl | (exfalso; omega))
          · exfalso; omega
        · refine cw_Vi (As := [.int (nI 7)]) (rest := []) (C := RX5) ⟨hx, hb, hml, hown, hts⟩ (M_X5_passY l D cI cJ mo R T nt L hR1 hL (eT T L q) (by omega) hT 7 (by decide) (by omega)) (cwV 1 hts gX5_motherItem_X5_passes rfl rfl rfl qX5_passes ⟨Nat.le_of_ble_eq_true rfl, Nat.le_of_ble_eq_true rfl⟩) (EM_good nt) hK hA hW hE [true, false, true] (fun _ => [mH mo (tkM R T L (eT T L (eT T L q)) 0), mR cI (mo 1) G, aI cI (mo 5) 120 T]) rfl (fun _ => rfl) (fun _ => rfl) 0 0 rfl rfl rfl rfl hl.1 rfl (lv_room (Nat.le_of_ble_eq_true rfl)) dX5_motherItem_52 ⟨Nat.zero_le _, Nat.zero_le _⟩ (fun _ H locs _ hW => ?_)
          have hei_ := (eT_in T (L := L) (p := eT T L q) (by omega)).2
          have hkl_ := kT_le T L (eT T L (eT T L q))
          have hml_ := mT_le hT L (eT T L (eT T L q))
          refine nn_zeq (tgt := 62) hx hb dX5_motherItem_55 (by decide) (by decide) (fun c55_1 => ?_) (fun c55_1 => ?_)
          · exfalso; omega
          · refine lv_iconst (v := nI 1) hx hb dX5_motherItem_58 (by decide +kernel) ?_
            refine lv_goto (tgt := 63) hx hb dX5_motherItem_59 (by decide) ?_
            refine lv_istore_n (lv' := [(3, .int (nI 1)), (2, .int (nI 10)), (1, .int (nI (kT T L q))), (0, .ref (mo 0))]) hx hb dX5_motherItem_63 rfl hl (by decide) rfl (fun ls hl => ?_)
            refine lv_aload_n hx hb dX5_motherItem_64 rfl (lv_at hl 3 rfl) ?_
            refine sg_get (ci := 4) (C := RX5) (T := TX5) (N := 15) (v := .int (nI 0)) hx hb hts (fun _ h => List.mem_cons_of_mem _ (List.mem_append_right _ h)) hown hK hW 0 0 rfl rfl rfl 11 (by decide) (hts _ (List.mem_of_getElem? (i := 3) rfl)) (congrArg (fun z => some (Value.int (nI z))) (tkM_g6 _ _ _ _ _)) dX5_motherItem_65 ?_
            refine nn_zne (tgt := 80) hx hb dX5_motherItem_68 (by decide) (by decide) (fun c68_1 => ?_) (fun c68_1 => ?_)
            · exfalso; omega
            · refine lv_aload_n hx hb dX5_motherItem_71 rfl (lv_at hl 3 rfl) ?_
              refine lv_iload_n hx hb dX5_motherItem_72 rfl (lv_at hl 2 rfl) ?_
              refine lv_iload_n hx hb dX5_motherItem_73 rfl (lv_at hl 1 rfl) ?_
              refine lv_iload_n hx hb dX5_motherItem_74 rfl (lv_at hl 0 rfl) ?_
              refine cl_Vi (As := [.int (nI (kT T L q)), .int (nI 10), .int (nI 1)]) (rest := []) (C := RX5) ⟨hx, hb, hml, hown, hts⟩ (M_X5_comesAs l D cI cJ mo (tkM R T L (eT T L (eT T L q)) 0) G b hb30 hG (kT T L q) 10 1 (by omega)) (cwV 3 hts gX5_motherItem_X5_comesAs rfl rfl rfl qX5_comesAs ⟨Nat.le_of_ble_eq_true rfl, Nat.le_of_ble_eq_true rfl⟩) E0_good hK hA hW trivial [true, true] (fun _ => [mH mo (tkM R T L (eT T L (eT T L q)) 0), mR cI (mo 1) (addM G (kT T L q) 10 1), aI cI (mo 5) 120 T]) rfl (fun _ => rfl) (fun _ => rfl) 0 0 rfl rfl rfl rfl hl.1 rfl (lv_room (Nat.le_of_ble_eq_true rfl)) dX5_motherItem_75 ⟨Nat.zero_le _, Nat.zero_le _⟩ (fun _ H locs _ hW => ?_)
              refine lv_istore (lv' := [(4, .int (nI (G 40))), (3, .int (nI 1)), (2, .int (nI 10)), (1, .int (nI (kT T L q))), (0, .ref (mo 0))]) hx hb dX5_motherItem_78 hl (by decide) rfl (fun ls hl => ?_)
              exact rt_v hQ hx hb hr hlocks hW dX5_motherItem_80 () rfl trivial (by simp only [motS, motO]; (repeat' split) <;> first | rfl | (exfalso; omega))
      · refine cw_Vi (As := [.int (nI 6), .int (nI 0), .int (nI 99), .int (nI 10)]) (rest := []) (C := RX5) ⟨hx, hb, hml, hown, hts⟩ (M_X5_perB l D cI cJ mo R T nt L hR1 hL (eT T L q) (by omega) hT (by omega) (by omega)) (cwV 4 hts gX5_motherItem_X5_perhaps rfl rfl rfl qX5_perhaps ⟨Nat.le_of_ble_eq_true rfl, Nat.le_of_ble_eq_true rfl⟩) (EM_good nt) hK hA hW hE [true, false, true] (fun _ => [mH mo (tkM R T L (eT T L (eT T L (eT T L q))) 0), mR cI (mo 1) G, aI cI (mo 5) 120 T]) rfl (fun _ => rfl) (fun _ => rfl) 0 0 rfl rfl rfl rfl hl.1 rfl (lv_room (Nat.le_of_ble_eq_true rfl)) dX5_motherItem_45 ⟨Nat.zero_le _, Nat.zero_le _⟩ (fun _ H locs _ hW => ?_)
        have hei_ := (eT_in T (L := L) (p := eT T L q) (by omega)).2
        have hei_ := (eT_in T (L := L) (p := eT T L (eT T L q)) (by omega)).2
        have hok_ := okN_or T L (eT T L (eT T L q)) 0 99
        have hkl_ := kT_le T L (eT T L (eT T L (eT T L q)))
        refine lv_istore_n (lv' := [(2, .int (nI (nT T L (eT T L (eT T L q))))), (1, .int (nI (kT T L q))), (0, .ref (mo 0))]) hx hb dX5_motherItem_48 rfl hl (by decide) rfl (fun ls hl => ?_)
        refine lv_aload_n hx hb dX5_motherItem_49 rfl (lv_at hl 2 rfl) ?_
        refine lv_bipush (v := nI 7) hx hb dX5_motherItem_50 (by decide +kernel) ?_
        rcases Nat.decEq (kT T L (eT T L (eT T L (eT T L q)))) 7 with hpk7 | hpk7
        · refine cw_Vi (As := [.int (nI 7)]) (rest := []) (C := RX5) ⟨hx, hb, hml, hown, hts⟩ (M_X5_passN l D cI cJ mo R T nt L hR1 hL (eT T L (eT T L (eT T L q))) (by omega) hT 0 7 (by omega) (by decide) (by omega)) (cwV 1 hts gX5_motherItem_X5_passes rfl rfl rfl qX5_passes ⟨Nat.le_of_ble_eq_true rfl, Nat.le_of_ble_eq_true rfl⟩) (EM_good nt) hK hA hW hE [true, false, true] (fun _ => [mH mo (tkM R T L (eT T L (eT T L (eT T L q))) 0), mR cI (mo 1) G, aI cI (mo 5) 120 T]) rfl (fun _ => rfl) (fun _ => rfl) 0 0 rfl rfl rfl rfl hl.1 rfl (lv_room (Nat.le_of_ble_eq_true rfl)) dX5_motherItem_52 ⟨Nat.zero_le _, Nat.zero_le _⟩ (fun _ H locs _ hW => ?_)
          refine nn_zeq (tgt := 62) hx hb dX5_motherItem_55 (by decide) (by decide) (fun c55_2 => ?_) (fun c55_2 => ?_)
          · refine lv_iconst (v := nI 0) hx hb dX5_motherItem_62 (by decide +kernel) ?_
            refine lv_istore_n (lv' := [(3, .int (nI 0)), (2, .int (nI (nT T L (eT T L (eT T L q))))), (1, .int (nI (kT T L q))), (0, .ref (mo 0))]) hx hb dX5_motherItem_63 rfl hl (by decide) rfl (fun ls hl => ?_)
            refine lv_aload_n hx hb dX5_motherItem_64 rfl (lv_at hl 3 rfl) ?_
            refine sg_get (ci := 4) (C := RX5) (T := TX5) (N := 15) (v := .int (nI 0)) hx hb hts (fun _ h => List.mem_cons_of_mem _ (List.mem_append_right _ h)) hown hK hW 0 0 rfl rfl rfl 11 (by decide) (hts _ (List.mem_of_getElem? (i := 3) rfl)) (congrArg (fun z => some (Value.int (nI z))) (tkM_g6 _ _ _ _ _)) dX5_motherItem_65 ?_
            refine nn_zne (tgt := 80) hx hb dX5_motherItem_68 (by decide) (by decide) (fun c68_2 => ?_) (fun c68_2 => ?_)
            · exfalso; omega
            · refine lv_aload_n hx hb dX5_motherItem_71 rfl (lv_at hl 3 rfl) ?_
              refine lv_iload_n hx hb dX5_motherItem_72 rfl (lv_at hl 2 rfl) ?_
              refine lv_iload_n hx hb dX5_motherItem_73 rfl (lv_at hl 1 rfl) ?_
              refine lv_iload_n hx hb dX5_motherItem_74 rfl (lv_at hl 0 rfl) ?_
              refine cl_Vi (As := [.int (nI (kT T L q)), .int (nI (nT T L (eT T L (eT T L q)))), .int (nI 0)]) (rest := []) (C := RX5) ⟨hx, hb, hml, hown, hts⟩ (M_X5_comesAs l D cI cJ mo (tkM R T L (eT T L (eT T L (eT T L q))) 0) G b hb30 hG (kT T L q) (nT T L (eT T L (eT T L q))) 0 (by omega)) (cwV 3 hts gX5_motherItem_X5_comesAs rfl rfl rfl qX5_comesAs ⟨Nat.le_of_ble_eq_true rfl, Nat.le_of_ble_eq_true rfl⟩) E0_good hK hA hW trivial [true, true] (fun _ => [mH mo (tkM R T L (eT T L (eT T L (eT T L q))) 0), mR cI (mo 1) (addM G (kT T L q) (nT T L (eT T L (eT T L q))) 0), aI cI (mo 5) 120 T]) rfl (fun _ => rfl) (fun _ => rfl) 0 0 rfl rfl rfl rfl hl.1 rfl (lv_room (Nat.le_of_ble_eq_true rfl)) dX5_motherItem_75 ⟨Nat.zero_le _, Nat.zero_le _⟩ (fun _ H locs _ hW => ?_)
              refine lv_istore (lv' := [(4, .int (nI (G 40))), (3, .int (nI 0)), (2, .int (nI (nT T L (eT T L (eT T L q))))), (1, .int (nI (kT T L q))), (0, .ref (mo 0))]) hx hb dX5_motherItem_78 hl (by decide) rfl (fun ls hl => ?_)
              exact rt_v hQ hx hb hr hlocks hW dX5_motherItem_80 () rfl trivial (by simp only [motS, motO]; (repeat' split) <;> first | rfl | (exfalso; omega))
          · exfalso; omega
        · refine cw_Vi (As := [.int (nI 7)]) (rest := []) (C := RX5) ⟨hx, hb, hml, hown, hts⟩ (M_X5_passY l D cI cJ mo R T nt L hR1 hL (eT T L (eT T L (eT T L q))) (by omega) hT 7 (by decide) (by omega)) (cwV 1 hts gX5_motherItem_X5_passes rfl rfl rfl qX5_passes ⟨Nat.le_of_ble_eq_true rfl, Nat.le_of_ble_eq_true rfl⟩) (EM_good nt) hK hA hW hE [true, false, true] (fun _ => [mH mo (tkM R T L (eT T L (eT T L (eT T L (eT T L q)))) 0), mR cI (mo 1) G, aI cI (mo 5) 120 T]) rfl (fun _ => rfl) (fun _ => rfl) 0 0 rfl rfl rfl rfl hl.1 rfl (lv_room (Nat.le_of_ble_eq_true rfl)) dX5_motherItem_52 ⟨Nat.zero_le _, Nat.zero_le _⟩ (fun _ H locs _ hW => ?_)
          have hei_ := (eT_in T (L := L) (p := eT T L (eT T L (eT T L q))) (by omega)).2
          have hkl_ := kT_le T L (eT T L (eT T L (eT T L (eT T L q))))
          have hml_ := mT_le hT L (eT T L (eT T L (eT T L (eT T L q))))
          refine nn_zeq (tgt := 62) hx hb dX5_motherItem_55 (by decide) (by decide) (fun c55_3 => ?_) (fun c55_3 => ?_)
          · exfalso; omega
          · refine lv_iconst (v := nI 1) hx hb dX5_motherItem_58 (by decide +kernel) ?_
            refine lv_goto (tgt := 63) hx hb dX5_motherItem_59 (by decide) ?_
            refine lv_istore_n (lv' := [(3, .int (nI 1)), (2, .int (nI (nT T L (eT T L (eT T L q))))), (1, .int (nI (kT T L q))), (0, .ref (mo 0))]) hx hb dX5_motherItem_63 rfl hl (by decide) rfl (fun ls hl => ?_)
            refine lv_aload_n hx hb dX5_motherItem_64 rfl (lv_at hl 3 rfl) ?_
            refine sg_get (ci := 4) (C := RX5) (T := TX5) (N := 15) (v := .int (nI 0)) hx hb hts (fun _ h => List.mem_cons_of_mem _ (List.mem_append_right _ h)) hown hK hW 0 0 rfl rfl rfl 11 (by decide) (hts _ (List.mem_of_getElem? (i := 3) rfl)) (congrArg (fun z => some (Value.int (nI z))) (tkM_g6 _ _ _ _ _)) dX5_motherItem_65 ?_
            refine nn_zne (tgt := 80) hx hb dX5_motherItem_68 (by decide) (by decide) (fun c68_3 => ?_) (fun c68_3 => ?_)
            · exfalso; omega
            · refine lv_aload_n hx hb dX5_motherItem_71 rfl (lv_at hl 3 rfl) ?_
              refine lv_iload_n hx hb dX5_motherItem_72 rfl (lv_at hl 2 rfl) ?_
              refine lv_iload_n hx hb dX5_motherItem_73 rfl (lv_at hl 1 rfl) ?_
              refine lv_iload_n hx hb dX5_motherItem_74 rfl (lv_at hl 0 rfl) ?_
              refine cl_Vi (As := [.int (nI (kT T L q)), .int (nI (nT T L (eT T L (eT T L q)))), .int (nI 1)]) (rest := []) (C := RX5) ⟨hx, hb, hml, hown, hts⟩ (M_X5_comesAs l D cI cJ mo (tkM R T L (eT T L (eT T L (eT T L (eT T L q)))) 0) G b hb30 hG (kT T L q) (nT T L (eT T L (eT T L q))) 1 (by omega)) (cwV 3 hts gX5_motherItem_X5_comesAs rfl rfl rfl qX5_comesAs ⟨Nat.le_of_ble_eq_true rfl, Nat.le_of_ble_eq_true rfl⟩) E0_good hK hA hW trivial [true, true] (fun _ => [mH mo (tkM R T L (eT T L (eT T L (eT T L (eT T L q)))) 0), mR cI (mo 1) (addM G (kT T L q) (nT T L (eT T L (eT T L q))) 1), aI cI (mo 5) 120 T]) rfl (fun _ => rfl) (fun _ => rfl) 0 0 rfl rfl rfl rfl hl.1 rfl (lv_room (Nat.le_of_ble_eq_true rfl)) dX5_motherItem_75 ⟨Nat.zero_le _, Nat.zero_le _⟩ (fun _ H locs _ hW => ?_)
              refine lv_istore (lv' := [(4, .int (nI (G 40))), (3, .int (nI 1)), (2, .int (nI (nT T L (eT T L (eT T L q))))), (1, .int (nI (kT T L q))), (0, .ref (mo 0))]) hx hb dX5_motherItem_78 hl (by decide) rfl (fun ls hl => ?_)
              exact rt_v hQ hx hb hr hlocks hW dX5_motherItem_80 () rfl trivial (by simp only [motS, motO]; (repeat' split) <;> first | rfl | (exfalso; omega))
      · refine cw_Vi (As := [.int (nI 6), .int (nI 0), .int (nI 99), .int (nI 10)]) (rest := []) (C := RX5) ⟨hx, hb, hml, hown, hts⟩ (M_X5_perC l D cI cJ mo R T nt L hR1 hL (eT T L q) (by omega) hT (by omega) (by omega)) (cwV 4 hts gX5_motherItem_X5_perhaps rfl rfl rfl qX5_perhaps ⟨Nat.le_of_ble_eq_true rfl, Nat.le_of_ble_eq_true rfl⟩) (EM_good nt) hK hA hW hE [true, false, true] (fun _ => [mH mo (tkM R T L (eT T L (eT T L q)) 1), mR cI (mo 1) G, aI cI (mo 5) 120 T]) rfl (fun _ => rfl) (fun _ => rfl) 0 0 rfl rfl rfl rfl hl.1 rfl (lv_room (Nat.le_of_ble_eq_true rfl)) dX5_motherItem_45 ⟨Nat.zero_le _, Nat.zero_le _⟩ (fun _ H locs _ hW => ?_)
        have hei_ := (eT_in T (L := L) (p := eT T L q) (by omega)).2
        have hei_ := (eT_in T (L := L) (p := eT T L (eT T L q)) (by omega)).2
        have hok_ := okN_or T L (eT T L (eT T L q)) 0 99
        refine lv_istore_n (lv' := [(2, .int (nI (mT T L (eT T L (eT T L q))))), (1, .int (nI (kT T L q))), (0, .ref (mo 0))]) hx hb dX5_motherItem_48 rfl hl (by decide) rfl (fun ls hl => ?_)
        refine lv_aload_n hx hb dX5_motherItem_49 rfl (lv_at hl 2 rfl) ?_
        refine lv_bipush (v := nI 7) hx hb dX5_motherItem_50 (by decide +kernel) ?_
        refine cw_Vi (As := [.int (nI 7)]) (rest := []) (C := RX5) ⟨hx, hb, hml, hown, hts⟩ (M_X5_passN l D cI cJ mo R T nt L hR1 hL (eT T L (eT T L q)) (by omega) hT 1 7 (by omega) (by decide) (by omega)) (cwV 1 hts gX5_motherItem_X5_passes rfl rfl rfl qX5_passes ⟨Nat.le_of_ble_eq_true rfl, Nat.le_of_ble_eq_true rfl⟩) (EM_good nt) hK hA hW hE [true, false, true] (fun _ => [mH mo (tkM R T L (eT T L (eT T L q)) 1), mR cI (mo 1) G, aI cI (mo 5) 120 T]) rfl (fun _ => rfl) (fun _ => rfl) 0 0 rfl rfl rfl rfl hl.1 rfl (lv_room (Nat.le_of_ble_eq_true rfl)) dX5_motherItem_52 ⟨Nat.zero_le _, Nat.zero_le _⟩ (fun _ H locs _ hW => ?_)
        refine nn_zeq (tgt := 62) hx hb dX5_motherItem_55 (by decide) (by decide) (fun c55_4 => ?_) (fun c55_4 => ?_)
        · refine lv_iconst (v := nI 0) hx hb dX5_motherItem_62 (by decide +kernel) ?_
          refine lv_istore_n (lv' := [(3, .int (nI 0)), (2, .int (nI (mT T L (eT T L (eT T L q))))), (1, .int (nI (kT T L q))), (0, .ref (mo 0))]) hx hb dX5_motherItem_63 rfl hl (by decide) rfl (fun ls hl => ?_)
          refine lv_aload_n hx hb dX5_motherItem_64 rfl (lv_at hl 3 rfl) ?_
          refine sg_get (ci := 4) (C := RX5) (T := TX5) (N := 15) (v := .int (nI 1)) hx hb hts (fun _ h => List.mem_cons_of_mem _ (List.mem_append_right _ h)) hown hK hW 0 0 rfl rfl rfl 11 (by decide) (hts _ (List.mem_of_getElem? (i := 3) rfl)) (congrArg (fun z => some (Value.int (nI z))) (tkM_g6 _ _ _ _ _)) dX5_motherItem_65 ?_
          refine nn_zne (tgt := 80) hx hb dX5_motherItem_68 (by decide) (by decide) (fun c68_4 => ?_) (fun c68_4 => ?_)
          · exact rt_v hQ hx hb hr hlocks hW dX5_motherItem_80 () rfl trivial (by simp only [motS, motO]; (repeat' split) <;> first | rfl | (exfalso; omega))
          · exfalso; omega
        · exfalso; omega
    · exfalso; omega
  · refine lv_iconst (v := nI 1) hx hb dX5_motherItem_17 (by decide +kernel) ?_
    refine lv_goto (tgt := 22) hx hb dX5_motherItem_18 (by decide) ?_
    refine sg_put (ci := 4) (C := RX5) (T := TX5) (N := 15) hx hb hts (fun _ h => List.mem_cons_of_mem _ (List.mem_append_right _ h)) tyX5 tyX5_ok nmX5 hown hK hW 0 0 rfl rfl rfl 11 (by decide) (hts _ (List.mem_of_getElem? (i := 3) rfl)) rfl (by decide +kernel) (by decide +kernel) (Nat.le_of_ble_eq_true rfl) ((mH_s6 mo (tkM R T L q 0) 1).trans (congrArg (mH mo) (tkM_6 _ _ _ _ _ _))) (ss' := [mH mo (tkM R T L q 1), mR cI (mo 1) G, aI cI (mo 5) 120 T]) rfl dX5_motherItem_22 (fun H locs hW => ?_)
    refine lv_aload_n hx hb dX5_motherItem_25 rfl (lv_at hl 1 rfl) ?_
    refine sg_get (ci := 4) (C := RX5) (T := TX5) (N := 15) (v := .int (nI 1)) hx hb hts (fun _ h => List.mem_cons_of_mem _ (List.mem_append_right _ h)) hown hK hW 0 0 rfl rfl rfl 11 (by decide) (hts _ (List.mem_of_getElem? (i := 3) rfl)) (congrArg (fun z => some (Value.int (nI z))) (tkM_g6 _ _ _ _ _)) dX5_motherItem_26 ?_
    refine nn_zeq (tgt := 33) hx hb dX5_motherItem_29 (by decide) (by decide) (fun c29_1 => ?_) (fun c29_1 => ?_)
    · exfalso; omega
    · exact rt_v hQ hx hb hr hlocks hW dX5_motherItem_32 () rfl trivial (by simp only [motS, motO]; (repeat' split) <;> first | rfl | (exfalso; omega))
abbrev rmX5_childItem : Room := { frames := 4, cells := 0, slots := 0, locals := 89 }
set_option maxRecDepth 100000 in
set_option maxHeartbeats 4000000 in
theorem M_X5_childItem (l : Launch) (D : va_G) (cI cJ : ClassId) (mo R T G : Nat → Nat) (nt : Nat) (L : Nat) (hR1 : R 1 = L) (hL : L ≤ 120) (q : Nat) (hq : q ≤ L) (hT : ∀ i, T i < 256) (b : Nat) (hb30 : b < 2 ^ 30) (hG : OkG b G) : CE (EM nt) l D vwCl [(cI, .int), (cJ, .long)] yX5_childItem wsX5_childItem rmX5_childItem [.ref (mo 0)] [mH mo (tkM R T L q 0), mR cI (mo 1) G, aI cI (mo 5) 120 T] (S := Unit) none (fun _ => True) (fun _ : Unit => [mH mo (tkM R T L (chiS T L q G).2.1 (1 - (chiS T L q G).1)), mR cI (mo 1) (chiS T L q G).2.2, aI cI (mo 5) 120 T]) 0 0 := by
  refine CE.ofW (cc := cX5_childItem) (maxL := 4) (ret := none) (lv := [(0, .ref (mo 0))]) (by decide) rfl (Nat.le_of_ble_eq_true rfl) rfl ?_
  intro p e s m args below meth c ls A Q hQ hx hb hml hr hlocks hnm hown hts hK hA hE hW hl
  have hown : s.vm.findClass RX5 = some m.cls := hown
  obtain ⟨hg0, hg8, hg16, hg16b, hg24, hg32, hg40, hg48⟩ := hG.s
  have hkl := kT_le T L q
  refine lv_aload_n hx hb dX5_childItem_0 rfl (lv_at hl 0 rfl) ?_
  refine lv_aload_n hx hb dX5_childItem_1 rfl (lv_at hl 0 rfl) ?_
  refine sg_get (ci := 4) (C := RX5) (T := TX5) (N := 15) (v := .ref (mo 1)) hx hb hts (fun _ h => List.mem_cons_of_mem _ (List.mem_append_right _ h)) hown hK hW 0 0 rfl rfl rfl 0 (by decide) (hts _ (List.mem_of_getElem? (i := 1) rfl)) rfl dX5_childItem_2 ?_
  refine lv_bipush (v := nI 6) hx hb dX5_childItem_5 (by decide +kernel) ?_
  refine sg_ild (v := nI (G 48)) hx hb hK hW 1 0 0 rfl rfl rfl (by decide) (by decide) rfl dX5_childItem_7 ?_
  refine lv_bipush (v := nI 6) hx hb dX5_childItem_8 (by decide +kernel) ?_
  refine nn_cne (tgt := 17) hx hb dX5_childItem_10 (by decide) (by omega) (by decide) (fun c10 => ?_) (fun c10 => ?_)
  · refine lv_iconst (v := nI 0) hx hb dX5_childItem_17 (by decide +kernel) ?_
    refine sg_put (ci := 4) (C := RX5) (T := TX5) (N := 15) hx hb hts (fun _ h => List.mem_cons_of_mem _ (List.mem_append_right _ h)) tyX5 tyX5_ok nmX5 hown hK hW 0 0 rfl rfl rfl 11 (by decide) (hts _ (List.mem_of_getElem? (i := 2) rfl)) rfl (by decide +kernel) (by decide +kernel) (Nat.le_of_ble_eq_true rfl) ((mH_s6 mo (tkM R T L q 0) 0).trans (congrArg (mH mo) (tkM_6 _ _ _ _ _ _))) (ss' := [mH mo (tkM R T L q 0), mR cI (mo 1) G, aI cI (mo 5) 120 T]) rfl dX5_childItem_18 (fun H locs hW => ?_)
    refine lv_aload_n hx hb dX5_childItem_21 rfl (lv_at hl 0 rfl) ?_
    refine sg_get (ci := 4) (C := RX5) (T := TX5) (N := 15) (v := .int (nI 0)) hx hb hts (fun _ h => List.mem_cons_of_mem _ (List.mem_append_right _ h)) hown hK hW 0 0 rfl rfl rfl 11 (by decide) (hts _ (List.mem_of_getElem? (i := 2) rfl)) (congrArg (fun z => some (Value.int (nI z))) (tkM_g6 _ _ _ _ _)) dX5_childItem_22 ?_
    refine nn_zeq (tgt := 29) hx hb dX5_childItem_25 (by decide) (by decide) (fun c25 => ?_) (fun c25 => ?_)
    · refine lv_aload_n hx hb dX5_childItem_29 rfl (lv_at hl 0 rfl) ?_
      refine cw_Vv (As := []) (rest := []) (C := RX5) ⟨hx, hb, hml, hown, hts⟩ (M_X5_rd l D cI cJ mo R T nt L hR1 hL q 0 (by omega) hT) (cwV 0 hts gX5_childItem_X5_reads rfl rfl rfl qX5_reads ⟨Nat.le_of_ble_eq_true rfl, Nat.le_of_ble_eq_true rfl⟩) (EM_good nt) hK hA hW hE [true, false, true] (fun _ => [mH mo (tkM R T L (eT T L q) 0), mR cI (mo 1) G, aI cI (mo 5) 120 T]) rfl (fun _ => rfl) (fun _ => rfl) 0 0 rfl rfl rfl rfl hl.1 rfl (lv_room (Nat.le_of_ble_eq_true rfl)) dX5_childItem_30 ⟨Nat.zero_le _, Nat.zero_le _⟩ (fun _ H locs _ hW => ?_)
      have hei_ := (eT_in T (L := L) (p := q) (by omega)).2
      have hkl_ := kT_le T L (eT T L q)
      have hml_ := mT_le hT L (eT T L q)
      refine lv_aload_n hx hb dX5_childItem_33 rfl (lv_at hl 0 rfl) ?_
      refine lv_iconst (v := nI 0) hx hb dX5_childItem_34 (by decide +kernel) ?_
      refine lv_sipush (v := nI 200) hx hb dX5_childItem_35 (by decide +kernel) ?_
      rcases okN_or T L (eT T L q) 0 200 with hok_ | hok_
      · refine cw_Vi (As := [.int (nI 0), .int (nI 200)]) (rest := []) (C := RX5) ⟨hx, hb, hml, hown, hts⟩ (M_X5_numY l D cI cJ mo R T nt L hR1 hL (eT T L q) (by omega) hT 0 200 (by decide) (by decide) (by omega)) (cwV 2 hts gX5_childItem_X5_number rfl rfl rfl qX5_number ⟨Nat.le_of_ble_eq_true rfl, Nat.le_of_ble_eq_true rfl⟩) (EM_good nt) hK hA hW hE [true, false, true] (fun _ => [mH mo (tkM R T L (eT T L (eT T L q)) 0), mR cI (mo 1) G, aI cI (mo 5) 120 T]) rfl (fun _ => rfl) (fun _ => rfl) 0 0 rfl rfl rfl rfl hl.1 rfl (lv_room (Nat.le_of_ble_eq_true rfl)) dX5_childItem_38 ⟨Nat.zero_le _, Nat.zero_le _⟩ (fun _ H locs _ hW => ?_)
        have hei_ := (eT_in T (L := L) (p := eT T L q) (by omega)).2
        have hkl_ := kT_le T L (eT T L (eT T L q))
        have hml_ := mT_le hT L (eT T L (eT T L q))
        refine lv_istore_n (lv' := [(1, .int (nI (nT T L (eT T L q)))), (0, .ref (mo 0))]) hx hb dX5_childItem_41 rfl hl (by decide) rfl (fun ls hl => ?_)
        refine lv_aload_n hx hb dX5_childItem_42 rfl (lv_at hl 1 rfl) ?_
        refine lv_bipush (v := nI 9) hx hb dX5_childItem_43 (by decide +kernel) ?_
        rcases Nat.decEq (kT T L (eT T L (eT T L q))) 9 with hpk9 | hpk9
        · refine cw_Vi (As := [.int (nI 9)]) (rest := []) (C := RX5) ⟨hx, hb, hml, hown, hts⟩ (M_X5_passN l D cI cJ mo R T nt L hR1 hL (eT T L (eT T L q)) (by omega) hT 0 9 (by omega) (by decide) (by omega)) (cwV 1 hts gX5_childItem_X5_passes rfl rfl rfl qX5_passes ⟨Nat.le_of_ble_eq_true rfl, Nat.le_of_ble_eq_true rfl⟩) (EM_good nt) hK hA hW hE [true, false, true] (fun _ => [mH mo (tkM R T L (eT T L (eT T L q)) 0), mR cI (mo 1) G, aI cI (mo 5) 120 T]) rfl (fun _ => rfl) (fun _ => rfl) 0 0 rfl rfl rfl rfl hl.1 rfl (lv_room (Nat.le_of_ble_eq_true rfl)) dX5_childItem_45 ⟨Nat.zero_le _, Nat.zero_le _⟩ (fun _ H locs _ hW => ?_)
          refine nn_zeq (tgt := 55) hx hb dX5_childItem_48 (by decide) (by decide) (fun c48 => ?_) (fun c48 => ?_)
          · refine lv_iconst (v := nI 0) hx hb dX5_childItem_55 (by decide +kernel) ?_
            refine lv_istore_n (lv' := [(2, .int (nI 0)), (1, .int (nI (nT T L (eT T L q)))), (0, .ref (mo 0))]) hx hb dX5_childItem_56 rfl hl (by decide) rfl (fun ls hl => ?_)
            refine lv_aload_n hx hb dX5_childItem_57 rfl (lv_at hl 2 rfl) ?_
            refine sg_get (ci := 4) (C := RX5) (T := TX5) (N := 15) (v := .int (nI 0)) hx hb hts (fun _ h => List.mem_cons_of_mem _ (List.mem_append_right _ h)) hown hK hW 0 0 rfl rfl rfl 11 (by decide) (hts _ (List.mem_of_getElem? (i := 2) rfl)) (congrArg (fun z => some (Value.int (nI z))) (tkM_g6 _ _ _ _ _)) dX5_childItem_58 ?_
            refine nn_zne (tgt := 71) hx hb dX5_childItem_61 (by decide) (by decide) (fun c61 => ?_) (fun c61 => ?_)
            · exfalso; omega
            · refine lv_aload_n hx hb dX5_childItem_64 rfl (lv_at hl 2 rfl) ?_
              refine lv_iload_n hx hb dX5_childItem_65 rfl (lv_at hl 1 rfl) ?_
              refine lv_iload_n hx hb dX5_childItem_66 rfl (lv_at hl 0 rfl) ?_
              refine cl_Vi (As := [.int (nI (nT T L (eT T L q))), .int (nI 0)]) (rest := []) (C := RX5) ⟨hx, hb, hml, hown, hts⟩ (M_X5_getsOn l D cI cJ mo (tkM R T L (eT T L (eT T L q)) 0) G b hb30 hG (nT T L (eT T L q)) 0 (by omega)) (cwV 2 hts gX5_childItem_X5_getsOn rfl rfl rfl qX5_getsOn ⟨Nat.le_of_ble_eq_true rfl, Nat.le_of_ble_eq_true rfl⟩) E0_good hK hA hW trivial [true, true] (fun _ => [mH mo (tkM R T L (eT T L (eT T L q)) 0), mR cI (mo 1) (addC G (nT T L (eT T L q)) 0), aI cI (mo 5) 120 T]) rfl (fun _ => rfl) (fun _ => rfl) 0 0 rfl rfl rfl rfl hl.1 rfl (lv_room (Nat.le_of_ble_eq_true rfl)) dX5_childItem_67 ⟨Nat.zero_le _, Nat.zero_le _⟩ (fun _ H locs _ hW => ?_)
              refine lv_istore_n (lv' := [(3, .int (nI (G 48))), (2, .int (nI 0)), (1, .int (nI (nT T L (eT T L q)))), (0, .ref (mo 0))]) hx hb dX5_childItem_70 rfl hl (by decide) rfl (fun ls hl => ?_)
              exact rt_v hQ hx hb hr hlocks hW dX5_childItem_71 () rfl trivial (by simp only [chiS, chiO]; (repeat' split) <;> first | rfl | (exfalso; omega))
          · exfalso; omega
        · refine cw_Vi (As := [.int (nI 9)]) (rest := []) (C := RX5) ⟨hx, hb, hml, hown, hts⟩ (M_X5_passY l D cI cJ mo R T nt L hR1 hL (eT T L (eT T L q)) (by omega) hT 9 (by decide) (by omega)) (cwV 1 hts gX5_childItem_X5_passes rfl rfl rfl qX5_passes ⟨Nat.le_of_ble_eq_true rfl, Nat.le_of_ble_eq_true rfl⟩) (EM_good nt) hK hA hW hE [true, false, true] (fun _ => [mH mo (tkM R T L (eT T L (eT T L (eT T L q))) 0), mR cI (mo 1) G, aI cI (mo 5) 120 T]) rfl (fun _ => rfl) (fun _ => rfl) 0 0 rfl rfl rfl rfl hl.1 rfl (lv_room (Nat.le_of_ble_eq_true rfl)) dX5_childItem_45 ⟨Nat.zero_le _, Nat.zero_le _⟩ (fun _ H locs _ hW => ?_)
          have hei_ := (eT_in T (L := L) (p := eT T L (eT T L q)) (by omega)).2
          have hkl_ := kT_le T L (eT T L (eT T L (eT T L q)))
          have hml_ := mT_le hT L (eT T L (eT T L (eT T L q)))
          refine nn_zeq (tgt := 55) hx hb dX5_childItem_48 (by decide) (by decide) (fun c48_1 => ?_) (fun c48_1 => ?_)
          · exfalso; omega
          · refine lv_iconst (v := nI 1) hx hb dX5_childItem_51 (by decide +kernel) ?_
            refine lv_goto (tgt := 56) hx hb dX5_childItem_52 (by decide) ?_
            refine lv_istore_n (lv' := [(2, .int (nI 1)), (1, .int (nI (nT T L (eT T L q)))), (0, .ref (mo 0))]) hx hb dX5_childItem_56 rfl hl (by decide) rfl (fun ls hl => ?_)
            refine lv_aload_n hx hb dX5_childItem_57 rfl (lv_at hl 2 rfl) ?_
            refine sg_get (ci := 4) (C := RX5) (T := TX5) (N := 15) (v := .int (nI 0)) hx hb hts (fun _ h => List.mem_cons_of_mem _ (List.mem_append_right _ h)) hown hK hW 0 0 rfl rfl rfl 11 (by decide) (hts _ (List.mem_of_getElem? (i := 2) rfl)) (congrArg (fun z => some (Value.int (nI z))) (tkM_g6 _ _ _ _ _)) dX5_childItem_58 ?_
            refine nn_zne (tgt := 71) hx hb dX5_childItem_61 (by decide) (by decide) (fun c61_1 => ?_) (fun c61_1 => ?_)
            · exfalso; omega
            · refine lv_aload_n hx hb dX5_childItem_64 rfl (lv_at hl 2 rfl) ?_
              refine lv_iload_n hx hb dX5_childItem_65 rfl (lv_at hl 1 rfl) ?_
              refine lv_iload_n hx hb dX5_childItem_66 rfl (lv_at hl 0 rfl) ?_
              refine cl_Vi (As := [.int (nI (nT T L (eT T L q))), .int (nI 1)]) (rest := []) (C := RX5) ⟨hx, hb, hml, hown, hts⟩ (M_X5_getsOn l D cI cJ mo (tkM R T L (eT T L (eT T L (eT T L q))) 0) G b hb30 hG (nT T L (eT T L q)) 1 (by omega)) (cwV 2 hts gX5_childItem_X5_getsOn rfl rfl rfl qX5_getsOn ⟨Nat.le_of_ble_eq_true rfl, Nat.le_of_ble_eq_true rfl⟩) E0_good hK hA hW trivial [true, true] (fun _ => [mH mo (tkM R T L (eT T L (eT T L (eT T L q))) 0), mR cI (mo 1) (addC G (nT T L (eT T L q)) 1), aI cI (mo 5) 120 T]) rfl (fun _ => rfl) (fun _ => rfl) 0 0 rfl rfl rfl rfl hl.1 rfl (lv_room (Nat.le_of_ble_eq_true rfl)) dX5_childItem_67 ⟨Nat.zero_le _, Nat.zero_le _⟩ (fun _ H locs _ hW => ?_)
              refine lv_istore_n (lv' := [(3, .int (nI (G 48))), (2, .int (nI 1)), (1, .int (nI (nT T L (eT T L q)))), (0, .ref (mo 0))]) hx hb dX5_childItem_70 rfl hl (by decide) rfl (fun ls hl => ?_)
              exact rt_v hQ hx hb hr hlocks hW dX5_childItem_71 () rfl trivial (by simp only [chiS, chiO]; (repeat' split) <;> first | rfl | (exfalso; omega))
      · refine cw_Vi (As := [.int (nI 0), .int (nI 200)]) (rest := []) (C := RX5) ⟨hx, hb, hml, hown, hts⟩ (M_X5_numN l D cI cJ mo R T nt L hR1 hL (eT T L q) (by omega) hT 0 200 (by decide) (by decide) (by omega)) (cwV 2 hts gX5_childItem_X5_number rfl rfl rfl qX5_number ⟨Nat.le_of_ble_eq_true rfl, Nat.le_of_ble_eq_true rfl⟩) (EM_good nt) hK hA hW hE [true, false, true] (fun _ => [mH mo (tkM R T L (eT T L q) 1), mR cI (mo 1) G, aI cI (mo 5) 120 T]) rfl (fun _ => rfl) (fun _ => rfl) 0 0 rfl rfl rfl rfl hl.1 rfl (lv_room (Nat.le_of_ble_eq_true rfl)) dX5_childItem_38 ⟨Nat.zero_le _, Nat.zero_le _⟩ (fun _ H locs _ hW => ?_)
        refine lv_istore_n (lv' := [(1, .int (nI (mT T L (eT T L q)))), (0, .ref (mo 0))]) hx hb dX5_childItem_41 rfl hl (by decide) rfl (fun ls hl => ?_)
        refine lv_aload_n hx hb dX5_childItem_42 rfl (lv_at hl 1 rfl) ?_
        refine lv_bipush (v := nI 9) hx hb dX5_childItem_43 (by decide +kernel) ?_
        refine cw_Vi (As := [.int (nI 9)]) (rest := []) (C := RX5) ⟨hx, hb, hml, hown, hts⟩ (M_X5_passN l D cI cJ mo R T nt L hR1 hL (eT T L q) (by omega) hT 1 9 (by omega) (by decide) (by omega)) (cwV 1 hts gX5_childItem_X5_passes rfl rfl rfl qX5_passes ⟨Nat.le_of_ble_eq_true rfl, Nat.le_of_ble_eq_true rfl⟩) (EM_good nt) hK hA hW hE [true, false, true] (fun _ => [mH mo (tkM R T L (eT T L q) 1), mR cI (mo 1) G, aI cI (mo 5) 120 T]) rfl (fun _ => rfl) (fun _ => rfl) 0 0 rfl rfl rfl rfl hl.1 rfl (lv_room (Nat.le_of_ble_eq_true rfl)) dX5_childItem_45 ⟨Nat.zero_le _, Nat.zero_le _⟩ (fun _ H locs _ hW => ?_)
        refine nn_zeq (tgt := 55) hx hb dX5_childItem_48 (by decide) (by decide) (fun c48_2 => ?_) (fun c48_2 => ?_)
        · refine lv_iconst (v := nI 0) hx hb dX5_childItem_55 (by decide +kernel) ?_
          refine lv_istore_n (lv' := [(2, .int (nI 0)), (1, .int (nI (mT T L (eT T L q)))), (0, .ref (mo 0))]) hx hb dX5_childItem_56 rfl hl (by decide) rfl (fun ls hl => ?_)
          refine lv_aload_n hx hb dX5_childItem_57 rfl (lv_at hl 2 rfl) ?_
          refine sg_get (ci := 4) (C := RX5) (T := TX5) (N := 15) (v := .int (nI 1)) hx hb hts (fun _ h => List.mem_cons_of_mem _ (List.mem_append_right _ h)) hown hK hW 0 0 rfl rfl rfl 11 (by decide) (hts _ (List.mem_of_getElem? (i := 2) rfl)) (congrArg (fun z => some (Value.int (nI z))) (tkM_g6 _ _ _ _ _)) dX5_childItem_58 ?_
          refine nn_zne (tgt := 71) hx hb dX5_childItem_61 (by decide) (by decide) (fun c61_2 => ?_) (fun c61_2 => ?_)
          · exact rt_v hQ hx hb hr hlocks hW dX5_childItem_71 () rfl trivial (by simp only [chiS, chiO]; (repeat' split) <;> first | rfl | (exfalso; omega))
          · exfalso; omega
        · exfalso; omega
    · exfalso; omega
  · refine lv_iconst (v := nI 1) hx hb dX5_childItem_13 (by decide +kernel) ?_
    refine lv_goto (tgt := 18) hx hb dX5_childItem_14 (by decide) ?_
    refine sg_put (ci := 4) (C := RX5) (T := TX5) (N := 15) hx hb hts (fun _ h => List.mem_cons_of_mem _ (List.mem_append_right _ h)) tyX5 tyX5_ok nmX5 hown hK hW 0 0 rfl rfl rfl 11 (by decide) (hts _ (List.mem_of_getElem? (i := 2) rfl)) rfl (by decide +kernel) (by decide +kernel) (Nat.le_of_ble_eq_true rfl) ((mH_s6 mo (tkM R T L q 0) 1).trans (congrArg (mH mo) (tkM_6 _ _ _ _ _ _))) (ss' := [mH mo (tkM R T L q 1), mR cI (mo 1) G, aI cI (mo 5) 120 T]) rfl dX5_childItem_18 (fun H locs hW => ?_)
    refine lv_aload_n hx hb dX5_childItem_21 rfl (lv_at hl 0 rfl) ?_
    refine sg_get (ci := 4) (C := RX5) (T := TX5) (N := 15) (v := .int (nI 1)) hx hb hts (fun _ h => List.mem_cons_of_mem _ (List.mem_append_right _ h)) hown hK hW 0 0 rfl rfl rfl 11 (by decide) (hts _ (List.mem_of_getElem? (i := 2) rfl)) (congrArg (fun z => some (Value.int (nI z))) (tkM_g6 _ _ _ _ _)) dX5_childItem_22 ?_
    refine nn_zeq (tgt := 29) hx hb dX5_childItem_25 (by decide) (by decide) (fun c25_1 => ?_) (fun c25_1 => ?_)
    · exfalso; omega
    · exact rt_v hQ hx hb hr hlocks hW dX5_childItem_28 () rfl trivial (by simp only [chiS, chiO]; (repeat' split) <;> first | rfl | (exfalso; omega))
abbrev rmX5_rainItem : Room := { frames := 4, cells := 0, slots := 0, locals := 89 }
set_option maxRecDepth 100000 in
set_option maxHeartbeats 4000000 in
theorem M_X5_rainW (l : Launch) (D : va_G) (cI cJ : ClassId) (mo R T G : Nat → Nat) (nt : Nat) (L : Nat) (hR1 : R 1 = L) (hL : L ≤ 120) (q : Nat) (hq : q ≤ L) (hT : ∀ i, T i < 256) (b : Nat) (hb30 : b < 2 ^ 30) (hG : OkG b G) (hk : kT T L q = 10) : CE (EM nt) l D vwCl [(cI, .int), (cJ, .long)] yX5_rainItem wsX5_rainItem rmX5_rainItem [.ref (mo 0)] [mH mo (tkM R T L q 0), mR cI (mo 1) G, aI cI (mo 5) 120 T] (S := Unit) none (fun _ => True) (fun _ : Unit => [mH mo (tkM R T L (raiS T L q G 1).2.1 (1 - (raiS T L q G 1).1)), mR cI (mo 1) (raiS T L q G 1).2.2, aI cI (mo 5) 120 T]) 0 0 := by
  refine CE.ofW (cc := cX5_rainItem) (maxL := 3) (ret := none) (lv := [(0, .ref (mo 0))]) (by decide) rfl (Nat.le_of_ble_eq_true rfl) rfl ?_
  intro p e s m args below meth c ls A Q hQ hx hb hml hr hlocks hnm hown hts hK hA hE hW hl
  have hown : s.vm.findClass RX5 = some m.cls := hown
  obtain ⟨hg0, hg8, hg16, hg16b, hg24, hg32, hg40, hg48⟩ := hG.s
  have hkl := kT_le T L q
  refine lv_aload_n hx hb dX5_rainItem_0 rfl (lv_at hl 0 rfl) ?_
  refine sg_get (ci := 4) (C := RX5) (T := TX5) (N := 15) (v := .int (nI (kT T L q))) hx hb hts (fun _ h => List.mem_cons_of_mem _ (List.mem_append_right _ h)) hown hK hW 0 0 rfl rfl rfl 7 (by decide) (hts _ (List.mem_of_getElem? (i := 1) rfl)) (congrArg (fun z => some (Value.int (nI z))) (tkM_g2 _ _ _ _ _)) dX5_rainItem_1 ?_
  refine lv_bipush (v := nI 10) hx hb dX5_rainItem_4 (by decide +kernel) ?_
  refine nn_cne (tgt := 13) hx hb dX5_rainItem_6 (by decide) (by omega) (by decide) (fun c6 => ?_) (fun c6 => ?_)
  · exfalso; omega
  · refine lv_iconst (v := nI 1) hx hb dX5_rainItem_9 (by decide +kernel) ?_
    refine lv_goto (tgt := 14) hx hb dX5_rainItem_10 (by decide) ?_
    refine lv_istore_n (lv' := [(1, .int (nI 1)), (0, .ref (mo 0))]) hx hb dX5_rainItem_14 rfl hl (by decide) rfl (fun ls hl => ?_)
    refine lv_aload_n hx hb dX5_rainItem_15 rfl (lv_at hl 1 rfl) ?_
    refine cw_Vv (As := []) (rest := []) (C := RX5) ⟨hx, hb, hml, hown, hts⟩ (M_X5_rd l D cI cJ mo R T nt L hR1 hL q 0 (by omega) hT) (cwV 0 hts gX5_rainItem_X5_reads rfl rfl rfl qX5_reads ⟨Nat.le_of_ble_eq_true rfl, Nat.le_of_ble_eq_true rfl⟩) (EM_good nt) hK hA hW hE [true, false, true] (fun _ => [mH mo (tkM R T L (eT T L q) 0), mR cI (mo 1) G, aI cI (mo 5) 120 T]) rfl (fun _ => rfl) (fun _ => rfl) 0 0 rfl rfl rfl rfl hl.1 rfl (lv_room (Nat.le_of_ble_eq_true rfl)) dX5_rainItem_16 ⟨Nat.zero_le _, Nat.zero_le _⟩ (fun _ H locs _ hW => ?_)
    have hei_ := (eT_in T (L := L) (p := q) (by omega)).2
    have hkl_ := kT_le T L (eT T L q)
    have hml_ := mT_le hT L (eT T L q)
    refine lv_aload_n hx hb dX5_rainItem_19 rfl (lv_at hl 1 rfl) ?_
    refine lv_iconst (v := nI 0) hx hb dX5_rainItem_20 (by decide +kernel) ?_
    refine lv_iconst (v := nI 4) hx hb dX5_rainItem_21 (by decide +kernel) ?_
    rcases okN_or T L (eT T L q) 0 4 with hok_ | hok_
    · refine cw_Vi (As := [.int (nI 0), .int (nI 4)]) (rest := []) (C := RX5) ⟨hx, hb, hml, hown, hts⟩ (M_X5_numY l D cI cJ mo R T nt L hR1 hL (eT T L q) (by omega) hT 0 4 (by decide) (by decide) (by omega)) (cwV 2 hts gX5_rainItem_X5_number rfl rfl rfl qX5_number ⟨Nat.le_of_ble_eq_true rfl, Nat.le_of_ble_eq_true rfl⟩) (EM_good nt) hK hA hW hE [true, false, true] (fun _ => [mH mo (tkM R T L (eT T L (eT T L q)) 0), mR cI (mo 1) G, aI cI (mo 5) 120 T]) rfl (fun _ => rfl) (fun _ => rfl) 0 0 rfl rfl rfl rfl hl.1 rfl (lv_room (Nat.le_of_ble_eq_true rfl)) dX5_rainItem_22 ⟨Nat.zero_le _, Nat.zero_le _⟩ (fun _ H locs _ hW => ?_)
      have hei_ := (eT_in T (L := L) (p := eT T L q) (by omega)).2
      have hkl_ := kT_le T L (eT T L (eT T L q))
      have hml_ := mT_le hT L (eT T L (eT T L q))
      refine lv_istore_n (lv' := [(2, .int (nI (nT T L (eT T L q)))), (1, .int (nI 1)), (0, .ref (mo 0))]) hx hb dX5_rainItem_25 rfl hl (by decide) rfl (fun ls hl => ?_)
      refine lv_aload_n hx hb dX5_rainItem_26 rfl (lv_at hl 2 rfl) ?_
      refine sg_get (ci := 4) (C := RX5) (T := TX5) (N := 15) (v := .int (nI 0)) hx hb hts (fun _ h => List.mem_cons_of_mem _ (List.mem_append_right _ h)) hown hK hW 0 0 rfl rfl rfl 11 (by decide) (hts _ (List.mem_of_getElem? (i := 2) rfl)) (congrArg (fun z => some (Value.int (nI z))) (tkM_g6 _ _ _ _ _)) dX5_rainItem_27 ?_
      refine nn_zne (tgt := 69) hx hb dX5_rainItem_30 (by decide) (by decide) (fun c30 => ?_) (fun c30 => ?_)
      · exfalso; omega
      · refine lv_aload_n hx hb dX5_rainItem_33 rfl (lv_at hl 2 rfl) ?_
        refine sg_get (ci := 4) (C := RX5) (T := TX5) (N := 15) (v := .ref (mo 1)) hx hb hts (fun _ h => List.mem_cons_of_mem _ (List.mem_append_right _ h)) hown hK hW 0 0 rfl rfl rfl 0 (by decide) (hts _ (List.mem_of_getElem? (i := 3) rfl)) rfl dX5_rainItem_34 ?_
        refine lv_iconst (v := nI 1) hx hb dX5_rainItem_37 (by decide +kernel) ?_
        refine lv_iload_n hx hb dX5_rainItem_38 rfl (lv_at hl 1 rfl) ?_
        refine lv_iconst (v := nI 1) hx hb dX5_rainItem_39 (by decide +kernel) ?_
        refine nn_cne (tgt := 56) hx hb dX5_rainItem_40 (by decide) (by decide) (by decide) (fun c40 => ?_) (fun c40 => ?_)
        · exfalso; omega
        · refine lv_aload_n hx hb dX5_rainItem_43 rfl (lv_at hl 2 rfl) ?_
          refine sg_get (ci := 4) (C := RX5) (T := TX5) (N := 15) (v := .ref (mo 1)) hx hb hts (fun _ h => List.mem_cons_of_mem _ (List.mem_append_right _ h)) hown hK hW 0 0 rfl rfl rfl 0 (by decide) (hts _ (List.mem_of_getElem? (i := 3) rfl)) rfl dX5_rainItem_44 ?_
          refine lv_iconst (v := nI 1) hx hb dX5_rainItem_47 (by decide +kernel) ?_
          refine sg_ild (v := nI (G 8)) hx hb hK hW 1 0 0 rfl rfl rfl (by decide) (by decide) rfl dX5_rainItem_48 ?_
          refine lv_iconst (v := nI 1) hx hb dX5_rainItem_49 (by decide +kernel) ?_
          refine lv_iload_n hx hb dX5_rainItem_50 rfl (lv_at hl 0 rfl) ?_
          refine nn_shl hx hb dX5_rainItem_51 (by omega) ?_
          refine nn_or hx hb dX5_rainItem_52 ?_
          refine W.top (v' := .int (nI (wetB (G 8) (nT T L (eT T L q))))) (by unfold wetB; rw [Nat.one_mul]) ?_
          refine lv_goto (tgt := 68) hx hb dX5_rainItem_53 (by decide) ?_
          refine sg_ist hx hb hK hW 1 0 0 rfl rfl rfl (by decide) (by decide) (mR_set cI (mo 1) G 1 (wetB (G 8) (nT T L (eT T L q)))) (ss' := [mH mo (tkM R T L (eT T L (eT T L q)) 0), mR cI (mo 1) (up G 8 (wetB (G 8) (nT T L (eT T L q)))), aI cI (mo 5) 120 T]) rfl dX5_rainItem_68 (fun H locs hW => ?_)
          exact rt_v hQ hx hb hr hlocks hW dX5_rainItem_69 () rfl trivial (by simp only [raiS]; (repeat' split) <;> first | rfl | (exfalso; omega))
    · refine cw_Vi (As := [.int (nI 0), .int (nI 4)]) (rest := []) (C := RX5) ⟨hx, hb, hml, hown, hts⟩ (M_X5_numN l D cI cJ mo R T nt L hR1 hL (eT T L q) (by omega) hT 0 4 (by decide) (by decide) (by omega)) (cwV 2 hts gX5_rainItem_X5_number rfl rfl rfl qX5_number ⟨Nat.le_of_ble_eq_true rfl, Nat.le_of_ble_eq_true rfl⟩) (EM_good nt) hK hA hW hE [true, false, true] (fun _ => [mH mo (tkM R T L (eT T L q) 1), mR cI (mo 1) G, aI cI (mo 5) 120 T]) rfl (fun _ => rfl) (fun _ => rfl) 0 0 rfl rfl rfl rfl hl.1 rfl (lv_room (Nat.le_of_ble_eq_true rfl)) dX5_rainItem_22 ⟨Nat.zero_le _, Nat.zero_le _⟩ (fun _ H locs _ hW => ?_)
      refine lv_istore_n (lv' := [(2, .int (nI (mT T L (eT T L q)))), (1, .int (nI 1)), (0, .ref (mo 0))]) hx hb dX5_rainItem_25 rfl hl (by decide) rfl (fun ls hl => ?_)
      refine lv_aload_n hx hb dX5_rainItem_26 rfl (lv_at hl 2 rfl) ?_
      refine sg_get (ci := 4) (C := RX5) (T := TX5) (N := 15) (v := .int (nI 1)) hx hb hts (fun _ h => List.mem_cons_of_mem _ (List.mem_append_right _ h)) hown hK hW 0 0 rfl rfl rfl 11 (by decide) (hts _ (List.mem_of_getElem? (i := 2) rfl)) (congrArg (fun z => some (Value.int (nI z))) (tkM_g6 _ _ _ _ _)) dX5_rainItem_27 ?_
      refine nn_zne (tgt := 69) hx hb dX5_rainItem_30 (by decide) (by decide) (fun c30_1 => ?_) (fun c30_1 => ?_)
      · exact rt_v hQ hx hb hr hlocks hW dX5_rainItem_69 () rfl trivial (by simp only [raiS]; (repeat' split) <;> first | rfl | (exfalso; omega))
      · exfalso; omega
set_option maxRecDepth 100000 in
set_option maxHeartbeats 4000000 in
theorem M_X5_rainD (l : Launch) (D : va_G) (cI cJ : ClassId) (mo R T G : Nat → Nat) (nt : Nat) (L : Nat) (hR1 : R 1 = L) (hL : L ≤ 120) (q : Nat) (hq : q ≤ L) (hT : ∀ i, T i < 256) (b : Nat) (hb30 : b < 2 ^ 30) (hG : OkG b G) (hk : kT T L q = 11) : CE (EM nt) l D vwCl [(cI, .int), (cJ, .long)] yX5_rainItem wsX5_rainItem rmX5_rainItem [.ref (mo 0)] [mH mo (tkM R T L q 0), mR cI (mo 1) G, aI cI (mo 5) 120 T] (S := Unit) none (fun _ => True) (fun _ : Unit => [mH mo (tkM R T L (raiS T L q G 0).2.1 (1 - (raiS T L q G 0).1)), mR cI (mo 1) (raiS T L q G 0).2.2, aI cI (mo 5) 120 T]) 0 0 := by
  refine CE.ofW (cc := cX5_rainItem) (maxL := 3) (ret := none) (lv := [(0, .ref (mo 0))]) (by decide) rfl (Nat.le_of_ble_eq_true rfl) rfl ?_
  intro p e s m args below meth c ls A Q hQ hx hb hml hr hlocks hnm hown hts hK hA hE hW hl
  have hown : s.vm.findClass RX5 = some m.cls := hown
  obtain ⟨hg0, hg8, hg16, hg16b, hg24, hg32, hg40, hg48⟩ := hG.s
  have hkl := kT_le T L q
  refine lv_aload_n hx hb dX5_rainItem_0 rfl (lv_at hl 0 rfl) ?_
  refine sg_get (ci := 4) (C := RX5) (T := TX5) (N := 15) (v := .int (nI (kT T L q))) hx hb hts (fun _ h => List.mem_cons_of_mem _ (List.mem_append_right _ h)) hown hK hW 0 0 rfl rfl rfl 7 (by decide) (hts _ (List.mem_of_getElem? (i := 1) rfl)) (congrArg (fun z => some (Value.int (nI z))) (tkM_g2 _ _ _ _ _)) dX5_rainItem_1 ?_
  refine lv_bipush (v := nI 10) hx hb dX5_rainItem_4 (by decide +kernel) ?_
  refine nn_cne (tgt := 13) hx hb dX5_rainItem_6 (by decide) (by omega) (by decide) (fun c6 => ?_) (fun c6 => ?_)
  · refine lv_iconst (v := nI 0) hx hb dX5_rainItem_13 (by decide +kernel) ?_
    refine lv_istore_n (lv' := [(1, .int (nI 0)), (0, .ref (mo 0))]) hx hb dX5_rainItem_14 rfl hl (by decide) rfl (fun ls hl => ?_)
    refine lv_aload_n hx hb dX5_rainItem_15 rfl (lv_at hl 1 rfl) ?_
    refine cw_Vv (As := []) (rest := []) (C := RX5) ⟨hx, hb, hml, hown, hts⟩ (M_X5_rd l D cI cJ mo R T nt L hR1 hL q 0 (by omega) hT) (cwV 0 hts gX5_rainItem_X5_reads rfl rfl rfl qX5_reads ⟨Nat.le_of_ble_eq_true rfl, Nat.le_of_ble_eq_true rfl⟩) (EM_good nt) hK hA hW hE [true, false, true] (fun _ => [mH mo (tkM R T L (eT T L q) 0), mR cI (mo 1) G, aI cI (mo 5) 120 T]) rfl (fun _ => rfl) (fun _ => rfl) 0 0 rfl rfl rfl rfl hl.1 rfl (lv_room (Nat.le_of_ble_eq_true rfl)) dX5_rainItem_16 ⟨Nat.zero_le _, Nat.zero_le _⟩ (fun _ H locs _ hW => ?_)
    have hei_ := (eT_in T (L := L) (p := q) (by omega)).2
    have hkl_ := kT_le T L (eT T L q)
    have hml_ := mT_le hT L (eT T L q)
    refine lv_aload_n hx hb dX5_rainItem_19 rfl (lv_at hl 1 rfl) ?_
    refine lv_iconst (v := nI 0) hx hb dX5_rainItem_20 (by decide +kernel) ?_
    refine lv_iconst (v := nI 4) hx hb dX5_rainItem_21 (by decide +kernel) ?_
    rcases okN_or T L (eT T L q) 0 4 with hok_ | hok_
    · refine cw_Vi (As := [.int (nI 0), .int (nI 4)]) (rest := []) (C := RX5) ⟨hx, hb, hml, hown, hts⟩ (M_X5_numY l D cI cJ mo R T nt L hR1 hL (eT T L q) (by omega) hT 0 4 (by decide) (by decide) (by omega)) (cwV 2 hts gX5_rainItem_X5_number rfl rfl rfl qX5_number ⟨Nat.le_of_ble_eq_true rfl, Nat.le_of_ble_eq_true rfl⟩) (EM_good nt) hK hA hW hE [true, false, true] (fun _ => [mH mo (tkM R T L (eT T L (eT T L q)) 0), mR cI (mo 1) G, aI cI (mo 5) 120 T]) rfl (fun _ => rfl) (fun _ => rfl) 0 0 rfl rfl rfl rfl hl.1 rfl (lv_room (Nat.le_of_ble_eq_true rfl)) dX5_rainItem_22 ⟨Nat.zero_le _, Nat.zero_le _⟩ (fun _ H locs _ hW => ?_)
      have hei_ := (eT_in T (L := L) (p := eT T L q) (by omega)).2
      have hkl_ := kT_le T L (eT T L (eT T L q))
      have hml_ := mT_le hT L (eT T L (eT T L q))
      refine lv_istore_n (lv' := [(2, .int (nI (nT T L (eT T L q)))), (1, .int (nI 0)), (0, .ref (mo 0))]) hx hb dX5_rainItem_25 rfl hl (by decide) rfl (fun ls hl => ?_)
      refine lv_aload_n hx hb dX5_rainItem_26 rfl (lv_at hl 2 rfl) ?_
      refine sg_get (ci := 4) (C := RX5) (T := TX5) (N := 15) (v := .int (nI 0)) hx hb hts (fun _ h => List.mem_cons_of_mem _ (List.mem_append_right _ h)) hown hK hW 0 0 rfl rfl rfl 11 (by decide) (hts _ (List.mem_of_getElem? (i := 2) rfl)) (congrArg (fun z => some (Value.int (nI z))) (tkM_g6 _ _ _ _ _)) dX5_rainItem_27 ?_
      refine nn_zne (tgt := 69) hx hb dX5_rainItem_30 (by decide) (by decide) (fun c30 => ?_) (fun c30 => ?_)
      · exfalso; omega
      · refine lv_aload_n hx hb dX5_rainItem_33 rfl (lv_at hl 2 rfl) ?_
        refine sg_get (ci := 4) (C := RX5) (T := TX5) (N := 15) (v := .ref (mo 1)) hx hb hts (fun _ h => List.mem_cons_of_mem _ (List.mem_append_right _ h)) hown hK hW 0 0 rfl rfl rfl 0 (by decide) (hts _ (List.mem_of_getElem? (i := 3) rfl)) rfl dX5_rainItem_34 ?_
        refine lv_iconst (v := nI 1) hx hb dX5_rainItem_37 (by decide +kernel) ?_
        refine lv_iload_n hx hb dX5_rainItem_38 rfl (lv_at hl 1 rfl) ?_
        refine lv_iconst (v := nI 1) hx hb dX5_rainItem_39 (by decide +kernel) ?_
        refine nn_cne (tgt := 56) hx hb dX5_rainItem_40 (by decide) (by decide) (by decide) (fun c40 => ?_) (fun c40 => ?_)
        · refine lv_aload_n hx hb dX5_rainItem_56 rfl (lv_at hl 2 rfl) ?_
          refine sg_get (ci := 4) (C := RX5) (T := TX5) (N := 15) (v := .ref (mo 1)) hx hb hts (fun _ h => List.mem_cons_of_mem _ (List.mem_append_right _ h)) hown hK hW 0 0 rfl rfl rfl 0 (by decide) (hts _ (List.mem_of_getElem? (i := 3) rfl)) rfl dX5_rainItem_57 ?_
          refine lv_iconst (v := nI 1) hx hb dX5_rainItem_60 (by decide +kernel) ?_
          refine sg_ild (v := nI (G 8)) hx hb hK hW 1 0 0 rfl rfl rfl (by decide) (by decide) rfl dX5_rainItem_61 ?_
          refine lv_iconst (v := nI 1) hx hb dX5_rainItem_62 (by decide +kernel) ?_
          refine lv_iload_n hx hb dX5_rainItem_63 rfl (lv_at hl 0 rfl) ?_
          refine nn_shl hx hb dX5_rainItem_64 (by omega) ?_
          refine lv_iconst (v := -1) hx hb dX5_rainItem_65 (by decide +kernel) ?_
          refine lv_ixor hx hb dX5_rainItem_66 ?_
          refine lv_iand hx hb dX5_rainItem_67 ?_
          refine W.top (v' := .int (nI (dryB (G 8) (nT T L (eT T L q))))) (congrArg Value.int (clr_eq _ (by omega) _ (by omega)).1) ?_
          refine sg_ist hx hb hK hW 1 0 0 rfl rfl rfl (by decide) (by decide) (mR_set cI (mo 1) G 1 (dryB (G 8) (nT T L (eT T L q)))) (ss' := [mH mo (tkM R T L (eT T L (eT T L q)) 0), mR cI (mo 1) (up G 8 (dryB (G 8) (nT T L (eT T L q)))), aI cI (mo 5) 120 T]) rfl dX5_rainItem_68 (fun H locs hW => ?_)
          exact rt_v hQ hx hb hr hlocks hW dX5_rainItem_69 () rfl trivial (by simp only [raiS]; (repeat' split) <;> first | rfl | (exfalso; omega))
        · exfalso; omega
    · refine cw_Vi (As := [.int (nI 0), .int (nI 4)]) (rest := []) (C := RX5) ⟨hx, hb, hml, hown, hts⟩ (M_X5_numN l D cI cJ mo R T nt L hR1 hL (eT T L q) (by omega) hT 0 4 (by decide) (by decide) (by omega)) (cwV 2 hts gX5_rainItem_X5_number rfl rfl rfl qX5_number ⟨Nat.le_of_ble_eq_true rfl, Nat.le_of_ble_eq_true rfl⟩) (EM_good nt) hK hA hW hE [true, false, true] (fun _ => [mH mo (tkM R T L (eT T L q) 1), mR cI (mo 1) G, aI cI (mo 5) 120 T]) rfl (fun _ => rfl) (fun _ => rfl) 0 0 rfl rfl rfl rfl hl.1 rfl (lv_room (Nat.le_of_ble_eq_true rfl)) dX5_rainItem_22 ⟨Nat.zero_le _, Nat.zero_le _⟩ (fun _ H locs _ hW => ?_)
      refine lv_istore_n (lv' := [(2, .int (nI (mT T L (eT T L q)))), (1, .int (nI 0)), (0, .ref (mo 0))]) hx hb dX5_rainItem_25 rfl hl (by decide) rfl (fun ls hl => ?_)
      refine lv_aload_n hx hb dX5_rainItem_26 rfl (lv_at hl 2 rfl) ?_
      refine sg_get (ci := 4) (C := RX5) (T := TX5) (N := 15) (v := .int (nI 1)) hx hb hts (fun _ h => List.mem_cons_of_mem _ (List.mem_append_right _ h)) hown hK hW 0 0 rfl rfl rfl 11 (by decide) (hts _ (List.mem_of_getElem? (i := 2) rfl)) (congrArg (fun z => some (Value.int (nI z))) (tkM_g6 _ _ _ _ _)) dX5_rainItem_27 ?_
      refine nn_zne (tgt := 69) hx hb dX5_rainItem_30 (by decide) (by decide) (fun c30_1 => ?_) (fun c30_1 => ?_)
      · exact rt_v hQ hx hb hr hlocks hW dX5_rainItem_69 () rfl trivial (by simp only [raiS]; (repeat' split) <;> first | rfl | (exfalso; omega))
      · exfalso; omega
  · exfalso; omega
abbrev rmX5_item : Room := { frames := 6, cells := 0, slots := 0, locals := 137 }
set_option maxRecDepth 100000 in
set_option maxHeartbeats 4000000 in
theorem M_X5_item (l : Launch) (D : va_G) (cI cJ : ClassId) (mo R T G : Nat → Nat) (nt : Nat) (L : Nat) (hR1 : R 1 = L) (hL : L ≤ 120) (q : Nat) (hq : q ≤ L) (hT : ∀ i, T i < 256) (b : Nat) (hb30 : b < 2 ^ 30) (hG : OkG b G) : CE (EM nt) l D vwCl [(cI, .int), (cJ, .long)] yX5_item wsX5_item rmX5_item [.ref (mo 0)] [mH mo (tkM R T L q 0), mR cI (mo 1) G, aI cI (mo 5) 120 T] (S := (Nat → Nat)) none (fun u => (itemS T L q G).1 = 1 → u = (itemS T L q G).2.2) (fun u : Nat → Nat => [mH mo (tkM R T L (itemS T L q G).2.1 (1 - (itemS T L q G).1)), mR cI (mo 1) u, aI cI (mo 5) 120 T]) 0 0 := by
  refine CE.ofW (cc := cX5_item) (maxL := 1) (ret := none) (lv := [(0, .ref (mo 0))]) (by decide) rfl (Nat.le_of_ble_eq_true rfl) rfl ?_
  intro p e s m args below meth c ls A Q hQ hx hb hml hr hlocks hnm hown hts hK hA hE hW hl
  have hown : s.vm.findClass RX5 = some m.cls := hown
  obtain ⟨hg0, hg8, hg16, hg16b, hg24, hg32, hg40, hg48⟩ := hG.s
  have hkl := kT_le T L q
  refine lv_aload_n hx hb dX5_item_0 rfl (lv_at hl 0 rfl) ?_
  refine sg_get (ci := 4) (C := RX5) (T := TX5) (N := 15) (v := .int (nI (kT T L q))) hx hb hts (fun _ h => List.mem_cons_of_mem _ (List.mem_append_right _ h)) hown hK hW 0 0 rfl rfl rfl 7 (by decide) (hts _ (List.mem_of_getElem? (i := 1) rfl)) (congrArg (fun z => some (Value.int (nI z))) (tkM_g2 _ _ _ _ _)) dX5_item_1 ?_
  refine lv_iconst (v := nI 5) hx hb dX5_item_4 (by decide +kernel) ?_
  refine nn_cgt (tgt := 15) hx hb dX5_item_5 (by decide) (by omega) (by decide) (fun c5 => ?_) (fun c5 => ?_)
  · refine lv_aload_n hx hb dX5_item_15 rfl (lv_at hl 0 rfl) ?_
    refine sg_get (ci := 4) (C := RX5) (T := TX5) (N := 15) (v := .int (nI (kT T L q))) hx hb hts (fun _ h => List.mem_cons_of_mem _ (List.mem_append_right _ h)) hown hK hW 0 0 rfl rfl rfl 7 (by decide) (hts _ (List.mem_of_getElem? (i := 1) rfl)) (congrArg (fun z => some (Value.int (nI z))) (tkM_g2 _ _ _ _ _)) dX5_item_16 ?_
    refine lv_bipush (v := nI 8) hx hb dX5_item_19 (by decide +kernel) ?_
    refine nn_cne (tgt := 31) hx hb dX5_item_21 (by decide) (by omega) (by decide) (fun c21 => ?_) (fun c21 => ?_)
    · refine lv_aload_n hx hb dX5_item_31 rfl (lv_at hl 0 rfl) ?_
      refine sg_get (ci := 4) (C := RX5) (T := TX5) (N := 15) (v := .int (nI (kT T L q))) hx hb hts (fun _ h => List.mem_cons_of_mem _ (List.mem_append_right _ h)) hown hK hW 0 0 rfl rfl rfl 7 (by decide) (hts _ (List.mem_of_getElem? (i := 1) rfl)) (congrArg (fun z => some (Value.int (nI z))) (tkM_g2 _ _ _ _ _)) dX5_item_32 ?_
      refine lv_bipush (v := nI 10) hx hb dX5_item_35 (by decide +kernel) ?_
      refine nn_ceq (tgt := 49) hx hb dX5_item_37 (by decide) (by omega) (by decide) (fun c37 => ?_) (fun c37 => ?_)
      · refine lv_aload_n hx hb dX5_item_49 rfl (lv_at hl 0 rfl) ?_
        refine cw_Vv (As := []) (rest := []) (C := RX5) ⟨hx, hb, hml, hown, hts⟩ (M_X5_rainW l D cI cJ mo R T G nt L hR1 hL q (by omega) hT b hb30 hG (by omega)) (cwV 0 hts gX5_item_X5_rainItem rfl rfl rfl qX5_rainItem ⟨Nat.le_of_ble_eq_true rfl, Nat.le_of_ble_eq_true rfl⟩) (EM_good nt) hK hA hW hE [true, true, true] (fun _ => [mH mo (tkM R T L ((raiS T L q G 1).2.1) (1 - (raiS T L q G 1).1)), mR cI (mo 1) ((raiS T L q G 1).2.2), aI cI (mo 5) 120 T]) rfl (fun _ => rfl) (fun _ => rfl) 0 0 rfl rfl rfl rfl hl.1 rfl (lv_room (Nat.le_of_ble_eq_true rfl)) dX5_item_50 ⟨Nat.zero_le _, Nat.zero_le _⟩ (fun _ H locs _ hW => ?_)
        refine lv_goto (tgt := 86) hx hb dX5_item_53 (by decide) ?_
        have hie : itemS T L q G = raiS T L q G 1 := by unfold itemS; rw [if_neg (by omega), if_neg (by omega), if_pos (by omega)]
        exact rt_v hQ hx hb hr hlocks hW dX5_item_86 ((raiS T L q G 1).2.2) rfl (fun _ => by rw [hie]) (by rw [hie])
      · refine lv_aload_n hx hb dX5_item_40 rfl (lv_at hl 0 rfl) ?_
        refine sg_get (ci := 4) (C := RX5) (T := TX5) (N := 15) (v := .int (nI (kT T L q))) hx hb hts (fun _ h => List.mem_cons_of_mem _ (List.mem_append_right _ h)) hown hK hW 0 0 rfl rfl rfl 7 (by decide) (hts _ (List.mem_of_getElem? (i := 1) rfl)) (congrArg (fun z => some (Value.int (nI z))) (tkM_g2 _ _ _ _ _)) dX5_item_41 ?_
        refine lv_bipush (v := nI 11) hx hb dX5_item_44 (by decide +kernel) ?_
        refine nn_cne (tgt := 56) hx hb dX5_item_46 (by decide) (by omega) (by decide) (fun c46 => ?_) (fun c46 => ?_)
        · refine lv_aload_n hx hb dX5_item_56 rfl (lv_at hl 0 rfl) ?_
          refine lv_bipush (v := nI 12) hx hb dX5_item_57 (by decide +kernel) ?_
          rcases Nat.decEq (kT T L q) 12 with hpk12 | hpk12
          · refine cw_Vi (As := [.int (nI 12)]) (rest := []) (C := RX5) ⟨hx, hb, hml, hown, hts⟩ (M_X5_passN l D cI cJ mo R T nt L hR1 hL q (by omega) hT 0 12 (by omega) (by decide) (by omega)) (cwV 1 hts gX5_item_X5_passes rfl rfl rfl qX5_passes ⟨Nat.le_of_ble_eq_true rfl, Nat.le_of_ble_eq_true rfl⟩) (EM_good nt) hK hA hW hE [true, false, true] (fun _ => [mH mo (tkM R T L q 0), mR cI (mo 1) G, aI cI (mo 5) 120 T]) rfl (fun _ => rfl) (fun _ => rfl) 0 0 rfl rfl rfl rfl hl.1 rfl (lv_room (Nat.le_of_ble_eq_true rfl)) dX5_item_59 ⟨Nat.zero_le _, Nat.zero_le _⟩ (fun _ H locs _ hW => ?_)
            refine nn_zeq (tgt := 81) hx hb dX5_item_62 (by decide) (by decide) (fun c62 => ?_) (fun c62 => ?_)
            · refine lv_aload_n hx hb dX5_item_81 rfl (lv_at hl 0 rfl) ?_
              refine lv_iconst (v := nI 1) hx hb dX5_item_82 (by decide +kernel) ?_
              refine sg_put (ci := 4) (C := RX5) (T := TX5) (N := 15) hx hb hts (fun _ h => List.mem_cons_of_mem _ (List.mem_append_right _ h)) tyX5 tyX5_ok nmX5 hown hK hW 0 0 rfl rfl rfl 11 (by decide) (hts _ (List.mem_of_getElem? (i := 3) rfl)) rfl (by decide +kernel) (by decide +kernel) (Nat.le_of_ble_eq_true rfl) ((mH_s6 mo (tkM R T L q 0) 1).trans (congrArg (mH mo) (tkM_6 _ _ _ _ _ _))) (ss' := [mH mo (tkM R T L q 1), mR cI (mo 1) G, aI cI (mo 5) 120 T]) rfl dX5_item_83 (fun H locs hW => ?_)
              have hie : itemS T L q G = (0, q, G) := by unfold itemS; rw [if_neg (by omega), if_neg (by omega), if_neg (by omega), if_neg (by omega), if_neg (by omega)]
              exact rt_v hQ hx hb hr hlocks hW dX5_item_86 G rfl (fun h => by rw [hie] at h; exact absurd (show (0 : Nat) = 1 from h) (by decide)) (by rw [hie]; rfl)
            · exfalso; omega
          · refine cw_Vi (As := [.int (nI 12)]) (rest := []) (C := RX5) ⟨hx, hb, hml, hown, hts⟩ (M_X5_passY l D cI cJ mo R T nt L hR1 hL q (by omega) hT 12 (by decide) (by omega)) (cwV 1 hts gX5_item_X5_passes rfl rfl rfl qX5_passes ⟨Nat.le_of_ble_eq_true rfl, Nat.le_of_ble_eq_true rfl⟩) (EM_good nt) hK hA hW hE [true, false, true] (fun _ => [mH mo (tkM R T L (eT T L q) 0), mR cI (mo 1) G, aI cI (mo 5) 120 T]) rfl (fun _ => rfl) (fun _ => rfl) 0 0 rfl rfl rfl rfl hl.1 rfl (lv_room (Nat.le_of_ble_eq_true rfl)) dX5_item_59 ⟨Nat.zero_le _, Nat.zero_le _⟩ (fun _ H locs _ hW => ?_)
            have hei_ := (eT_in T (L := L) (p := q) (by omega)).2
            have hkl_ := kT_le T L (eT T L q)
            have hml_ := mT_le hT L (eT T L q)
            refine nn_zeq (tgt := 81) hx hb dX5_item_62 (by decide) (by decide) (fun c62_1 => ?_) (fun c62_1 => ?_)
            · exfalso; omega
            · refine lv_aload_n hx hb dX5_item_65 rfl (lv_at hl 0 rfl) ?_
              refine sg_get (ci := 4) (C := RX5) (T := TX5) (N := 15) (v := .ref (mo 1)) hx hb hts (fun _ h => List.mem_cons_of_mem _ (List.mem_append_right _ h)) hown hK hW 0 0 rfl rfl rfl 0 (by decide) (hts _ (List.mem_of_getElem? (i := 2) rfl)) rfl dX5_item_66 ?_
              refine lv_iconst (v := nI 2) hx hb dX5_item_69 (by decide +kernel) ?_
              refine lv_aload_n hx hb dX5_item_70 rfl (lv_at hl 0 rfl) ?_
              refine lv_iconst (v := nI 1) hx hb dX5_item_71 (by decide +kernel) ?_
              refine lv_bipush (v := nI 50) hx hb dX5_item_72 (by decide +kernel) ?_
              rcases okN_or T L (eT T L q) 1 50 with hok_ | hok_
              · refine cw_Vi (As := [.int (nI 1), .int (nI 50)]) (rest := [.int (nI 2), .ref (mo 1)]) (C := RX5) ⟨hx, hb, hml, hown, hts⟩ (M_X5_numY l D cI cJ mo R T nt L hR1 hL (eT T L q) (by omega) hT 1 50 (by decide) (by decide) (by omega)) (cwV 2 hts gX5_item_X5_number rfl rfl rfl qX5_number ⟨Nat.le_of_ble_eq_true rfl, Nat.le_of_ble_eq_true rfl⟩) (EM_good nt) hK hA hW hE [true, false, true] (fun _ => [mH mo (tkM R T L (eT T L (eT T L q)) 0), mR cI (mo 1) G, aI cI (mo 5) 120 T]) rfl (fun _ => rfl) (fun _ => rfl) 0 0 rfl rfl rfl rfl hl.1 rfl (lv_room (Nat.le_of_ble_eq_true rfl)) dX5_item_74 ⟨Nat.zero_le _, Nat.zero_le _⟩ (fun _ H locs _ hW => ?_)
                have hei_ := (eT_in T (L := L) (p := eT T L q) (by omega)).2
                have hkl_ := kT_le T L (eT T L (eT T L q))
                have hml_ := mT_le hT L (eT T L (eT T L q))
                refine sg_ist hx hb hK hW 1 0 0 rfl rfl rfl (by decide) (by decide) (mR_set cI (mo 1) G 2 (nT T L (eT T L q))) (ss' := [mH mo (tkM R T L (eT T L (eT T L q)) 0), mR cI (mo 1) (up G 16 (nT T L (eT T L q))), aI cI (mo 5) 120 T]) rfl dX5_item_77 (fun H locs hW => ?_)
                refine lv_goto (tgt := 86) hx hb dX5_item_78 (by decide) ?_
                have hie0 : itemS T L q G = hevS T L q G := by unfold itemS; rw [if_neg (by omega), if_neg (by omega), if_neg (by omega), if_neg (by omega), if_pos (by omega)]
                have hie : itemS T L q G = (1, eT T L (eT T L q), up G 16 (nT T L (eT T L q))) := by rw [hie0]; unfold hevS; rw [if_pos ⟨by omega, by omega, by omega⟩]
                exact rt_v hQ hx hb hr hlocks hW dX5_item_86 (up G 16 (nT T L (eT T L q))) rfl (fun _ => by rw [hie]) (by rw [hie]; rfl)
              · refine cw_Vi (As := [.int (nI 1), .int (nI 50)]) (rest := [.int (nI 2), .ref (mo 1)]) (C := RX5) ⟨hx, hb, hml, hown, hts⟩ (M_X5_numN l D cI cJ mo R T nt L hR1 hL (eT T L q) (by omega) hT 1 50 (by decide) (by decide) (by omega)) (cwV 2 hts gX5_item_X5_number rfl rfl rfl qX5_number ⟨Nat.le_of_ble_eq_true rfl, Nat.le_of_ble_eq_true rfl⟩) (EM_good nt) hK hA hW hE [true, false, true] (fun _ => [mH mo (tkM R T L (eT T L q) 1), mR cI (mo 1) G, aI cI (mo 5) 120 T]) rfl (fun _ => rfl) (fun _ => rfl) 0 0 rfl rfl rfl rfl hl.1 rfl (lv_room (Nat.le_of_ble_eq_true rfl)) dX5_item_74 ⟨Nat.zero_le _, Nat.zero_le _⟩ (fun _ H locs _ hW => ?_)
                refine sg_ist hx hb hK hW 1 0 0 rfl rfl rfl (by decide) (by decide) (mR_set cI (mo 1) G 2 (mT T L (eT T L q))) (ss' := [mH mo (tkM R T L (eT T L q) 1), mR cI (mo 1) (up G 16 (mT T L (eT T L q))), aI cI (mo 5) 120 T]) rfl dX5_item_77 (fun H locs hW => ?_)
                refine lv_goto (tgt := 86) hx hb dX5_item_78 (by decide) ?_
                have hie0 : itemS T L q G = hevS T L q G := by unfold itemS; rw [if_neg (by omega), if_neg (by omega), if_neg (by omega), if_neg (by omega), if_pos (by omega)]
                have hie : itemS T L q G = (0, eT T L q, G) := by rw [hie0]; unfold hevS; rw [if_neg (by omega)]
                exact rt_v hQ hx hb hr hlocks hW dX5_item_86 (up G 16 (mT T L (eT T L q))) rfl (fun h => by rw [hie] at h; exact absurd (show (0 : Nat) = 1 from h) (by decide)) (by rw [hie]; rfl)
        · refine lv_aload_n hx hb dX5_item_49 rfl (lv_at hl 0 rfl) ?_
          refine cw_Vv (As := []) (rest := []) (C := RX5) ⟨hx, hb, hml, hown, hts⟩ (M_X5_rainD l D cI cJ mo R T G nt L hR1 hL q (by omega) hT b hb30 hG (by omega)) (cwV 0 hts gX5_item_X5_rainItem rfl rfl rfl qX5_rainItem ⟨Nat.le_of_ble_eq_true rfl, Nat.le_of_ble_eq_true rfl⟩) (EM_good nt) hK hA hW hE [true, true, true] (fun _ => [mH mo (tkM R T L ((raiS T L q G 0).2.1) (1 - (raiS T L q G 0).1)), mR cI (mo 1) ((raiS T L q G 0).2.2), aI cI (mo 5) 120 T]) rfl (fun _ => rfl) (fun _ => rfl) 0 0 rfl rfl rfl rfl hl.1 rfl (lv_room (Nat.le_of_ble_eq_true rfl)) dX5_item_50 ⟨Nat.zero_le _, Nat.zero_le _⟩ (fun _ H locs _ hW => ?_)
          refine lv_goto (tgt := 86) hx hb dX5_item_53 (by decide) ?_
          have hie : itemS T L q G = raiS T L q G 0 := by unfold itemS; rw [if_neg (by omega), if_neg (by omega), if_neg (by omega), if_pos (by omega)]
          exact rt_v hQ hx hb hr hlocks hW dX5_item_86 ((raiS T L q G 0).2.2) rfl (fun _ => by rw [hie]) (by rw [hie])
    · refine lv_aload_n hx hb dX5_item_24 rfl (lv_at hl 0 rfl) ?_
      refine cw_Vv (As := []) (rest := []) (C := RX5) ⟨hx, hb, hml, hown, hts⟩ (M_X5_childItem l D cI cJ mo R T G nt L hR1 hL q (by omega) hT b hb30 hG) (cwV 0 hts gX5_item_X5_childItem rfl rfl rfl qX5_childItem ⟨Nat.le_of_ble_eq_true rfl, Nat.le_of_ble_eq_true rfl⟩) (EM_good nt) hK hA hW hE [true, true, true] (fun _ => [mH mo (tkM R T L ((chiS T L q G).2.1) (1 - (chiS T L q G).1)), mR cI (mo 1) ((chiS T L q G).2.2), aI cI (mo 5) 120 T]) rfl (fun _ => rfl) (fun _ => rfl) 0 0 rfl rfl rfl rfl hl.1 rfl (lv_room (Nat.le_of_ble_eq_true rfl)) dX5_item_25 ⟨Nat.zero_le _, Nat.zero_le _⟩ (fun _ H locs _ hW => ?_)
      refine lv_goto (tgt := 86) hx hb dX5_item_28 (by decide) ?_
      have hie : itemS T L q G = chiS T L q G := by unfold itemS; rw [if_neg (by omega), if_pos (by omega)]
      exact rt_v hQ hx hb hr hlocks hW dX5_item_86 ((chiS T L q G).2.2) rfl (fun _ => by rw [hie]) (by rw [hie])
  · refine lv_aload_n hx hb dX5_item_8 rfl (lv_at hl 0 rfl) ?_
    refine cw_Vv (As := []) (rest := []) (C := RX5) ⟨hx, hb, hml, hown, hts⟩ (M_X5_motherItem l D cI cJ mo R T G nt L hR1 hL q (by omega) hT b hb30 hG (by omega)) (cwV 0 hts gX5_item_X5_motherItem rfl rfl rfl qX5_motherItem ⟨Nat.le_of_ble_eq_true rfl, Nat.le_of_ble_eq_true rfl⟩) (EM_good nt) hK hA hW hE [true, true, true] (fun _ => [mH mo (tkM R T L ((motS T L q G (kT T L q)).2.1) (1 - (motS T L q G (kT T L q)).1)), mR cI (mo 1) ((motS T L q G (kT T L q)).2.2), aI cI (mo 5) 120 T]) rfl (fun _ => rfl) (fun _ => rfl) 0 0 rfl rfl rfl rfl hl.1 rfl (lv_room (Nat.le_of_ble_eq_true rfl)) dX5_item_9 ⟨Nat.zero_le _, Nat.zero_le _⟩ (fun _ H locs _ hW => ?_)
    refine lv_goto (tgt := 86) hx hb dX5_item_12 (by decide) ?_
    have hie : itemS T L q G = motS T L q G (kT T L q) := by unfold itemS; rw [if_pos (by omega)]
    exact rt_v hQ hx hb hr hlocks hW dX5_item_86 ((motS T L q G (kT T L q)).2.2) rfl (fun _ => by rw [hie]) (by rw [hie])
abbrev rmX5_green : Room := { frames := 7, cells := 0, slots := 0, locals := 157 }
set_option maxRecDepth 100000 in
set_option maxHeartbeats 4000000 in
theorem M_X5_green (l : Launch) (D : va_G) (cI cJ : ClassId) (mo R G Wa T : Nat → Nat) (nt : Nat) (L : Nat) (hR1 : R 1 = L) (hL : L ≤ 120) (hT : ∀ i, T i < 256) (b : Nat) (hb30 : b < 2 ^ 30) (hG : OkG b G) : CE (EM nt) l D vwCl [(cI, .int), (cJ, .long)] yX5_green wsX5_green rmX5_green [.ref (mo 0)] [mH mo R, mR cI (mo 1) G, mR cI (mo 3) Wa, aI cI (mo 5) 120 T] (S := ((Nat → Nat) × (Nat → Nat))) (some (.int (greenV T L G))) (fun u => u.1 0 = R 0 ∧ u.1 1 = 0) (fun u : (Nat → Nat) × (Nat → Nat) => [mH mo u.1, mR cI (mo 1) (greenG T L G), mR cI (mo 3) u.2, aI cI (mo 5) 120 T]) 0 0 := by
  refine CE.ofW (cc := cX5_green) (maxL := 2) (ret := (some .int)) (lv := [(0, .ref (mo 0))]) (by decide) rfl (Nat.le_of_ble_eq_true rfl) rfl ?_
  intro p e s m args below meth c ls A Q hQ hx hb hml hr hlocks hnm hown hts hK hA hE hW hl
  have hown : s.vm.findClass RX5 = some m.cls := hown
  refine lv_aload_n hx hb dX5_green_0 rfl (lv_at hl 0 rfl) ?_
  refine cl_Vv (As := []) (rest := []) (C := RX5) ⟨hx, hb, hml, hown, hts⟩ (M_X5_thinks l D cI cJ mo R G Wa ) (cwV 0 hts gX5_green_X5_thinks rfl rfl rfl qX5_thinks ⟨Nat.le_of_ble_eq_true rfl, Nat.le_of_ble_eq_true rfl⟩) E0_good hK hA hW trivial [true, true, true] (fun _ => [mH mo R, mR cI (mo 1) G, mR cI (mo 3) G, aI cI (mo 5) 120 T]) rfl (fun _ => rfl) (fun _ => rfl) 0 0 rfl rfl rfl rfl hl.1 rfl (lv_room (Nat.le_of_ble_eq_true rfl)) dX5_green_1 ⟨Nat.zero_le _, Nat.zero_le _⟩ (fun _ H locs _ hW => ?_)
  refine lv_aload_n hx hb dX5_green_4 rfl (lv_at hl 0 rfl) ?_
  refine lv_iconst (v := nI 0) hx hb dX5_green_5 (by decide +kernel) ?_
  refine sg_put (ci := 4) (C := RX5) (T := TX5) (N := 15) hx hb hts (fun _ h => List.mem_cons_of_mem _ (List.mem_append_right _ h)) tyX5 tyX5_ok nmX5 hown hK hW 0 0 rfl rfl rfl 9 (by decide) (hts _ (List.mem_of_getElem? (i := 1) rfl)) rfl (by decide +kernel) (by decide +kernel) (Nat.le_of_ble_eq_true rfl) (mH_s4 mo R 0) (ss' := [mH mo (up R 4 0), mR cI (mo 1) G, mR cI (mo 3) G, aI cI (mo 5) 120 T]) rfl dX5_green_6 (fun H locs hW => ?_)
  refine lv_aload_n hx hb dX5_green_9 rfl (lv_at hl 0 rfl) ?_
  refine lv_iconst (v := nI 0) hx hb dX5_green_10 (by decide +kernel) ?_
  refine sg_put (ci := 4) (C := RX5) (T := TX5) (N := 15) hx hb hts (fun _ h => List.mem_cons_of_mem _ (List.mem_append_right _ h)) tyX5 tyX5_ok nmX5 hown hK hW 0 0 rfl rfl rfl 11 (by decide) (hts _ (List.mem_of_getElem? (i := 2) rfl)) rfl (by decide +kernel) (by decide +kernel) (Nat.le_of_ble_eq_true rfl) (mH_s6 mo (up R 4 0) 0) (ss' := [mH mo (up (up R 4 0) 6 0), mR cI (mo 1) G, mR cI (mo 3) G, aI cI (mo 5) 120 T]) rfl dX5_green_11 (fun H locs hW => ?_)
  refine lv_aload_n hx hb dX5_green_14 rfl (lv_at hl 0 rfl) ?_
  refine cw_Vv (As := []) (rest := []) (C := RX5) ⟨hx, hb, hml, hown, hts⟩ (M_X5_reads l D cI cJ mo (up (up R 4 0) 6 0) T nt L hR1 hL 0 rfl (Nat.zero_le _) hT) (cwV 0 hts gX5_green_X5_reads rfl rfl rfl qX5_reads ⟨Nat.le_of_ble_eq_true rfl, Nat.le_of_ble_eq_true rfl⟩) (EM_good nt) hK hA hW hE [true, false, false, true] (fun _ => [mH mo (tkM (up (up R 4 0) 6 0) T L 0 0), mR cI (mo 1) G, mR cI (mo 3) G, aI cI (mo 5) 120 T]) rfl (fun _ => rfl) (fun _ => rfl) 0 0 rfl rfl rfl rfl hl.1 rfl (lv_room (Nat.le_of_ble_eq_true rfl)) dX5_green_15 ⟨Nat.zero_le _, Nat.zero_le _⟩ (fun _ H locs _ hW => ?_)
  refine lv_aload_n hx hb dX5_green_18 rfl (lv_at hl 0 rfl) ?_
  refine cw_Vv (As := []) (rest := []) (C := RX5) ⟨hx, hb, hml, hown, hts⟩ (M_X5_item l D cI cJ mo (up (up R 4 0) 6 0) T G nt L hR1 hL 0 (by omega) hT b hb30 hG) (cwV 0 hts gX5_green_X5_item rfl rfl rfl qX5_item ⟨Nat.le_of_ble_eq_true rfl, Nat.le_of_ble_eq_true rfl⟩) (EM_good nt) hK hA hW hE [true, true, false, true] (fun u1 => [mH mo (tkM (up (up R 4 0) 6 0) T L ((itemS T L 0 G).2.1) (1 - (itemS T L 0 G).1)), mR cI (mo 1) u1, mR cI (mo 3) G, aI cI (mo 5) 120 T]) rfl (fun _ => rfl) (fun _ => rfl) 0 0 rfl rfl rfl rfl hl.1 rfl (lv_room (Nat.le_of_ble_eq_true rfl)) dX5_green_19 ⟨Nat.zero_le _, Nat.zero_le _⟩ (fun u1 H locs hp2 hW => ?_)
  have hit_ := hp2
  refine lv_iconst (v := nI 1) hx hb dX5_green_22 (by decide +kernel) ?_
  refine lv_istore_n (lv' := [(1, .int (nI 1)), (0, .ref (mo 0))]) hx hb dX5_green_23 rfl hl (by decide) rfl (fun ls hl => ?_)
  have lp24 : ∀ (n : Nat) (i : Nat) (q : Nat) (K : Nat → Nat) (u : Nat → Nat), L - q < n → 1 ≤ i → 2 * i ≤ q + 2 → q ≤ L → OkG b K → parS T L 120 0 G 1 = parS T L (121 - i) q K i → ((itemS T L q K).1 = 1 → u = (itemS T L q K).2.2) → ∀ (H : Heap) (locs : List Loc), Wo D vwCl A s.heap H locs [mH mo (tkM (up (up R 4 0) 6 0) T L ((itemS T L q K).2.1) (1 - (itemS T L q K).1)), mR cI (mo 1) u, mR cI (mo 3) G, aI cI (mo 5) 120 T] → ∀ ls : Array Slot, lv_has ls 2 [(1, .int (nI i)), (0, .ref (mo 0))] → W p l e rmX5_green s m args below meth c H locs 0 0 Q (F0 m 24 ls []) := by
    intro n
    induction n with
    | zero => intro i q K u hm; exact absurd hm (Nat.not_lt_zero _)
    | succ n ih =>
      intro i q K u hm hi1 hiq hq hK1 hpar hu H locs hW ls hl
      have hi01 := itemS_01 T L q K
      have hin := itemS_in (T := T) K hq
      have hkl := kT_le T L (itemS T L q K).2.1
      have hks := kT_s T L (itemS T L q K).2.1
      have hbi := bT_in T hin
      have hei := eT_in T hin
      refine lv_aload_n hx hb dX5_green_24 rfl (lv_at hl 1 rfl) ?_
      refine lv_bipush (v := nI 21) hx hb dX5_green_25 (by decide +kernel) ?_
      rcases (show ((itemS T L q K).1 = 1 ∧ kT T L (itemS T L q K).2.1 = 21) ∨ ¬ ((itemS T L q K).1 = 1 ∧ kT T L (itemS T L q K).2.1 = 21) by omega) with hps | hps
      · have hu1 := hu hps.1
        have hW := hW.to (ss' := [mH mo (tkM (up (up R 4 0) 6 0) T L ((itemS T L q K).2.1) 0), mR cI (mo 1) ((itemS T L q K).2.2), mR cI (mo 3) G, aI cI (mo 5) 120 T]) (by rw [hps.1, hu1])
        refine cw_Vi (As := [.int (nI 21)]) (rest := []) (C := RX5) ⟨hx, hb, hml, hown, hts⟩ (M_X5_passY l D cI cJ mo (up (up R 4 0) 6 0) T nt L hR1 hL ((itemS T L q K).2.1) (by omega) hT 21 (by decide) (by omega)) (cwV 1 hts gX5_green_X5_passes rfl rfl rfl qX5_passes ⟨Nat.le_of_ble_eq_true rfl, Nat.le_of_ble_eq_true rfl⟩) (EM_good nt) hK hA hW hE [true, false, false, true] (fun _ => [mH mo (tkM (up (up R 4 0) 6 0) T L (eT T L ((itemS T L q K).2.1)) 0), mR cI (mo 1) ((itemS T L q K).2.2), mR cI (mo 3) G, aI cI (mo 5) 120 T]) rfl (fun _ => rfl) (fun _ => rfl) 0 0 rfl rfl rfl rfl hl.1 rfl (lv_room (Nat.le_of_ble_eq_true rfl)) dX5_green_27 ⟨Nat.zero_le _, Nat.zero_le _⟩ (fun _ H locs _ hW => ?_)
        have hei_ := (eT_in T (L := L) (p := (itemS T L q K).2.1) (by omega)).2
        have hkl_ := kT_le T L (eT T L ((itemS T L q K).2.1))
        have hml_ := mT_le hT L (eT T L ((itemS T L q K).2.1))
        refine nn_zeq (tgt := 43) hx hb dX5_green_30 (by decide) (by decide) (fun c30 => ?_) (fun c30 => ?_)
        · exfalso; omega
        · have hg_ := itemS_gt hq hps.1
          refine lv_aload_n hx hb dX5_green_33 rfl (lv_at hl 1 rfl) ?_
          refine cw_Vv (As := []) (rest := []) (C := RX5) ⟨hx, hb, hml, hown, hts⟩ (M_X5_item l D cI cJ mo (up (up R 4 0) 6 0) T ((itemS T L q K).2.2) nt L hR1 hL (eT T L ((itemS T L q K).2.1)) (by omega) hT b hb30 (itemS_ok T L q hK1)) (cwV 0 hts gX5_green_X5_item rfl rfl rfl qX5_item ⟨Nat.le_of_ble_eq_true rfl, Nat.le_of_ble_eq_true rfl⟩) (EM_good nt) hK hA hW hE [true, true, false, true] (fun u3 => [mH mo (tkM (up (up R 4 0) 6 0) T L ((itemS T L (eT T L ((itemS T L q K).2.1)) ((itemS T L q K).2.2)).2.1) (1 - (itemS T L (eT T L ((itemS T L q K).2.1)) ((itemS T L q K).2.2)).1)), mR cI (mo 1) u3, mR cI (mo 3) G, aI cI (mo 5) 120 T]) rfl (fun _ => rfl) (fun _ => rfl) 0 0 rfl rfl rfl rfl hl.1 rfl (lv_room (Nat.le_of_ble_eq_true rfl)) dX5_green_34 ⟨Nat.zero_le _, Nat.zero_le _⟩ (fun u3 H locs hp4 hW => ?_)
          have hit_ := hp4
          refine lv_iinc (v := nI (i + 1)) (lv' := [(1, .int (nI (i + 1))), (0, .ref (mo 0))]) hx hb dX5_green_37 hl (k := 0) rfl (nI_add _ 1) (by decide) rfl (fun ls hl => ?_)
          refine lv_goto (tgt := 24) hx hb dX5_green_40 (by decide) ?_
          exact ih (i + 1) (eT T L (itemS T L q K).2.1) ((itemS T L q K).2.2) u3 (by have := eT_gt (T := T) hin (fun z => by omega); omega) (by omega) (by have := eT_gt (T := T) hin (fun z => by omega); omega) (by omega) (itemS_ok T L q hK1) (hpar.trans (parS_go (by omega) (by omega) (by omega))) hit_ _ _ hW _ (lv_sub hl [0, 1] rfl)
      · refine cw_Vi (As := [.int (nI 21)]) (rest := []) (C := RX5) ⟨hx, hb, hml, hown, hts⟩ (M_X5_passN l D cI cJ mo (up (up R 4 0) 6 0) T nt L hR1 hL ((itemS T L q K).2.1) (by omega) hT (1 - (itemS T L q K).1) 21 (by omega) (by decide) (by omega)) (cwV 1 hts gX5_green_X5_passes rfl rfl rfl qX5_passes ⟨Nat.le_of_ble_eq_true rfl, Nat.le_of_ble_eq_true rfl⟩) (EM_good nt) hK hA hW hE [true, false, false, true] (fun _ => [mH mo (tkM (up (up R 4 0) 6 0) T L ((itemS T L q K).2.1) (1 - (itemS T L q K).1)), mR cI (mo 1) u, mR cI (mo 3) G, aI cI (mo 5) 120 T]) rfl (fun _ => rfl) (fun _ => rfl) 0 0 rfl rfl rfl rfl hl.1 rfl (lv_room (Nat.le_of_ble_eq_true rfl)) dX5_green_27 ⟨Nat.zero_le _, Nat.zero_le _⟩ (fun _ H locs _ hW => ?_)
        refine nn_zeq (tgt := 43) hx hb dX5_green_30 (by decide) (by decide) (fun c30_1 => ?_) (fun c30_1 => ?_)
        · refine lv_aload_n hx hb dX5_green_43 rfl (lv_at hl 1 rfl) ?_
          refine lv_aload_n hx hb dX5_green_44 rfl (lv_at hl 1 rfl) ?_
          refine sg_get (ci := 4) (C := RX5) (T := TX5) (N := 15) (v := .int (nI (1 - (itemS T L q K).1))) hx hb hts (fun _ h => List.mem_cons_of_mem _ (List.mem_append_right _ h)) hown hK hW 0 0 rfl rfl rfl 11 (by decide) (hts _ (List.mem_of_getElem? (i := 2) rfl)) (congrArg (fun z => some (Value.int (nI z))) (tkM_g6 _ _ _ _ _)) dX5_green_45 ?_
          refine nn_zne (tgt := 60) hx hb dX5_green_48 (by decide) (by omega) (fun c48 => ?_) (fun c48 => ?_)
          · refine lv_iconst (v := nI 1) hx hb dX5_green_60 (by decide +kernel) ?_
            refine lv_goto (tgt := 65) hx hb dX5_green_61 (by decide) ?_
            refine sg_put (ci := 4) (C := RX5) (T := TX5) (N := 15) hx hb hts (fun _ h => List.mem_cons_of_mem _ (List.mem_append_right _ h)) tyX5 tyX5_ok nmX5 hown hK hW 0 0 rfl rfl rfl 11 (by decide) (hts _ (List.mem_of_getElem? (i := 2) rfl)) rfl (by decide +kernel) (by decide +kernel) (Nat.le_of_ble_eq_true rfl) ((mH_s6 mo (tkM (up (up R 4 0) 6 0) T L ((itemS T L q K).2.1) (1 - (itemS T L q K).1)) 1).trans (congrArg (mH mo) (tkM_6 _ _ _ _ _ _))) (ss' := [mH mo (tkM (up (up R 4 0) 6 0) T L ((itemS T L q K).2.1) 1), mR cI (mo 1) u, mR cI (mo 3) G, aI cI (mo 5) 120 T]) rfl dX5_green_65 (fun H locs hW => ?_)
            refine lv_aload_n hx hb dX5_green_68 rfl (lv_at hl 1 rfl) ?_
            refine lv_iconst (v := nI 0) hx hb dX5_green_69 (by decide +kernel) ?_
            refine sg_put (ci := 4) (C := RX5) (T := TX5) (N := 15) hx hb hts (fun _ h => List.mem_cons_of_mem _ (List.mem_append_right _ h)) tyX5 tyX5_ok nmX5 hown hK hW 0 0 rfl rfl rfl 6 (by decide) (hts _ (List.mem_of_getElem? (i := 4) rfl)) rfl (by decide +kernel) (by decide +kernel) (Nat.le_of_ble_eq_true rfl) (mH_s1 mo (tkM (up (up R 4 0) 6 0) T L ((itemS T L q K).2.1) 1) 0) (ss' := [mH mo (up (tkM (up (up R 4 0) 6 0) T L ((itemS T L q K).2.1) 1) 1 0), mR cI (mo 1) u, mR cI (mo 3) G, aI cI (mo 5) 120 T]) rfl dX5_green_70 (fun H locs hW => ?_)
            refine lv_aload_n hx hb dX5_green_73 rfl (lv_at hl 1 rfl) ?_
            refine sg_get (ci := 4) (C := RX5) (T := TX5) (N := 15) (v := .int (nI ((tkM (up (up R 4 0) 6 0) T L ((itemS T L q K).2.1) 1) 6))) hx hb hts (fun _ h => List.mem_cons_of_mem _ (List.mem_append_right _ h)) hown hK hW 0 0 rfl rfl rfl 11 (by decide) (hts _ (List.mem_of_getElem? (i := 2) rfl)) (congrArg (fun z => some (Value.int (nI z))) (up_ne (by decide))) dX5_green_74 ?_
            refine W.top (v' := .int (nI 1)) rfl ?_
            refine nn_zne (tgt := 82) hx hb dX5_green_77 (by decide) (by decide) (fun c77 => ?_) (fun c77 => ?_)
            · refine lv_aload_n hx hb dX5_green_82 rfl (lv_at hl 1 rfl) ?_
              refine cl_Vv (As := []) (rest := []) (C := RX5) ⟨hx, hb, hml, hown, hts⟩ (M_X5_putsBack l D cI cJ mo (up (tkM (up (up R 4 0) 6 0) T L ((itemS T L q K).2.1) 1) 1 0) u G ) (cwV 0 hts gX5_green_X5_putsBack rfl rfl rfl qX5_putsBack ⟨Nat.le_of_ble_eq_true rfl, Nat.le_of_ble_eq_true rfl⟩) E0_good hK hA hW trivial [true, true, true] (fun _ => [mH mo (up (tkM (up (up R 4 0) 6 0) T L ((itemS T L q K).2.1) 1) 1 0), mR cI (mo 1) G, mR cI (mo 3) G, aI cI (mo 5) 120 T]) rfl (fun _ => rfl) (fun _ => rfl) 0 0 rfl rfl rfl rfl hl.1 rfl (lv_room (Nat.le_of_ble_eq_true rfl)) dX5_green_83 ⟨Nat.zero_le _, Nat.zero_le _⟩ (fun _ H locs _ hW => ?_)
              refine lv_iconst (v := -1) hx hb dX5_green_86 (by decide +kernel) ?_
              refine lv_aload_n hx hb dX5_green_87 rfl (lv_at hl 1 rfl) ?_
              refine sg_get (ci := 4) (C := RX5) (T := TX5) (N := 15) (v := .int (nI ((tkM (up (up R 4 0) 6 0) T L ((itemS T L q K).2.1) 1) 3))) hx hb hts (fun _ h => List.mem_cons_of_mem _ (List.mem_append_right _ h)) hown hK hW 0 0 rfl rfl rfl 8 (by decide) (hts _ (List.mem_of_getElem? (i := 5) rfl)) (congrArg (fun z => some (Value.int (nI z))) (up_ne (by decide))) dX5_green_88 ?_
              refine W.top (v' := .int (nI (bT T L (itemS T L q K).2.1))) rfl ?_
              refine lv_isub hx hb dX5_green_91 ?_
              have hfin := hpar.trans (parS_bad (by omega) (by omega))
              exact rt_i hQ hx hb hr hlocks hW dX5_green_92 ((up (tkM (up (up R 4 0) 6 0) T L ((itemS T L q K).2.1) 1) 1 0), G) (by rw [greenV_0 hfin]) ⟨rfl, rfl⟩ (by rw [greenG_0 (by rw [hfin])])
            · exfalso; omega
          · refine lv_aload_n hx hb dX5_green_51 rfl (lv_at hl 1 rfl) ?_
            refine sg_get (ci := 4) (C := RX5) (T := TX5) (N := 15) (v := .int (nI (kT T L ((itemS T L q K).2.1)))) hx hb hts (fun _ h => List.mem_cons_of_mem _ (List.mem_append_right _ h)) hown hK hW 0 0 rfl rfl rfl 7 (by decide) (hts _ (List.mem_of_getElem? (i := 3) rfl)) (congrArg (fun z => some (Value.int (nI z))) (tkM_g2 _ _ _ _ _)) dX5_green_52 ?_
            refine lv_bipush (v := nI 22) hx hb dX5_green_55 (by decide +kernel) ?_
            refine nn_ceq (tgt := 64) hx hb dX5_green_57 (by decide) (by omega) (by decide) (fun c57 => ?_) (fun c57 => ?_)
            · refine lv_iconst (v := nI 0) hx hb dX5_green_64 (by decide +kernel) ?_
              refine sg_put (ci := 4) (C := RX5) (T := TX5) (N := 15) hx hb hts (fun _ h => List.mem_cons_of_mem _ (List.mem_append_right _ h)) tyX5 tyX5_ok nmX5 hown hK hW 0 0 rfl rfl rfl 11 (by decide) (hts _ (List.mem_of_getElem? (i := 2) rfl)) rfl (by decide +kernel) (by decide +kernel) (Nat.le_of_ble_eq_true rfl) ((mH_s6 mo (tkM (up (up R 4 0) 6 0) T L ((itemS T L q K).2.1) (1 - (itemS T L q K).1)) 0).trans (congrArg (mH mo) (tkM_6 _ _ _ _ _ _))) (ss' := [mH mo (tkM (up (up R 4 0) 6 0) T L ((itemS T L q K).2.1) 0), mR cI (mo 1) u, mR cI (mo 3) G, aI cI (mo 5) 120 T]) rfl dX5_green_65 (fun H locs hW => ?_)
              refine lv_aload_n hx hb dX5_green_68 rfl (lv_at hl 1 rfl) ?_
              refine lv_iconst (v := nI 0) hx hb dX5_green_69 (by decide +kernel) ?_
              refine sg_put (ci := 4) (C := RX5) (T := TX5) (N := 15) hx hb hts (fun _ h => List.mem_cons_of_mem _ (List.mem_append_right _ h)) tyX5 tyX5_ok nmX5 hown hK hW 0 0 rfl rfl rfl 6 (by decide) (hts _ (List.mem_of_getElem? (i := 4) rfl)) rfl (by decide +kernel) (by decide +kernel) (Nat.le_of_ble_eq_true rfl) (mH_s1 mo (tkM (up (up R 4 0) 6 0) T L ((itemS T L q K).2.1) 0) 0) (ss' := [mH mo (up (tkM (up (up R 4 0) 6 0) T L ((itemS T L q K).2.1) 0) 1 0), mR cI (mo 1) u, mR cI (mo 3) G, aI cI (mo 5) 120 T]) rfl dX5_green_70 (fun H locs hW => ?_)
              refine lv_aload_n hx hb dX5_green_73 rfl (lv_at hl 1 rfl) ?_
              refine sg_get (ci := 4) (C := RX5) (T := TX5) (N := 15) (v := .int (nI ((tkM (up (up R 4 0) 6 0) T L ((itemS T L q K).2.1) 0) 6))) hx hb hts (fun _ h => List.mem_cons_of_mem _ (List.mem_append_right _ h)) hown hK hW 0 0 rfl rfl rfl 11 (by decide) (hts _ (List.mem_of_getElem? (i := 2) rfl)) (congrArg (fun z => some (Value.int (nI z))) (up_ne (by decide))) dX5_green_74 ?_
              refine W.top (v' := .int (nI 0)) rfl ?_
              refine nn_zne (tgt := 82) hx hb dX5_green_77 (by decide) (by decide) (fun c77_1 => ?_) (fun c77_1 => ?_)
              · exfalso; omega
              · refine lv_iload_n hx hb dX5_green_80 rfl (lv_at hl 0 rfl) ?_
                have hfin := hpar.trans (parS_end (by omega) (by omega) (by omega))
                exact rt_i hQ hx hb hr hlocks hW dX5_green_81 ((up (tkM (up (up R 4 0) 6 0) T L ((itemS T L q K).2.1) 0) 1 0), G) (by rw [greenV_1 hfin]) ⟨rfl, rfl⟩ (by rw [greenG_1 (by rw [hfin]), hfin, hu (by omega)])
            · refine lv_iconst (v := nI 1) hx hb dX5_green_60 (by decide +kernel) ?_
              refine lv_goto (tgt := 65) hx hb dX5_green_61 (by decide) ?_
              refine sg_put (ci := 4) (C := RX5) (T := TX5) (N := 15) hx hb hts (fun _ h => List.mem_cons_of_mem _ (List.mem_append_right _ h)) tyX5 tyX5_ok nmX5 hown hK hW 0 0 rfl rfl rfl 11 (by decide) (hts _ (List.mem_of_getElem? (i := 2) rfl)) rfl (by decide +kernel) (by decide +kernel) (Nat.le_of_ble_eq_true rfl) ((mH_s6 mo (tkM (up (up R 4 0) 6 0) T L ((itemS T L q K).2.1) (1 - (itemS T L q K).1)) 1).trans (congrArg (mH mo) (tkM_6 _ _ _ _ _ _))) (ss' := [mH mo (tkM (up (up R 4 0) 6 0) T L ((itemS T L q K).2.1) 1), mR cI (mo 1) u, mR cI (mo 3) G, aI cI (mo 5) 120 T]) rfl dX5_green_65 (fun H locs hW => ?_)
              refine lv_aload_n hx hb dX5_green_68 rfl (lv_at hl 1 rfl) ?_
              refine lv_iconst (v := nI 0) hx hb dX5_green_69 (by decide +kernel) ?_
              refine sg_put (ci := 4) (C := RX5) (T := TX5) (N := 15) hx hb hts (fun _ h => List.mem_cons_of_mem _ (List.mem_append_right _ h)) tyX5 tyX5_ok nmX5 hown hK hW 0 0 rfl rfl rfl 6 (by decide) (hts _ (List.mem_of_getElem? (i := 4) rfl)) rfl (by decide +kernel) (by decide +kernel) (Nat.le_of_ble_eq_true rfl) (mH_s1 mo (tkM (up (up R 4 0) 6 0) T L ((itemS T L q K).2.1) 1) 0) (ss' := [mH mo (up (tkM (up (up R 4 0) 6 0) T L ((itemS T L q K).2.1) 1) 1 0), mR cI (mo 1) u, mR cI (mo 3) G, aI cI (mo 5) 120 T]) rfl dX5_green_70 (fun H locs hW => ?_)
              refine lv_aload_n hx hb dX5_green_73 rfl (lv_at hl 1 rfl) ?_
              refine sg_get (ci := 4) (C := RX5) (T := TX5) (N := 15) (v := .int (nI ((tkM (up (up R 4 0) 6 0) T L ((itemS T L q K).2.1) 1) 6))) hx hb hts (fun _ h => List.mem_cons_of_mem _ (List.mem_append_right _ h)) hown hK hW 0 0 rfl rfl rfl 11 (by decide) (hts _ (List.mem_of_getElem? (i := 2) rfl)) (congrArg (fun z => some (Value.int (nI z))) (up_ne (by decide))) dX5_green_74 ?_
              refine W.top (v' := .int (nI 1)) rfl ?_
              refine nn_zne (tgt := 82) hx hb dX5_green_77 (by decide) (by decide) (fun c77_2 => ?_) (fun c77_2 => ?_)
              · refine lv_aload_n hx hb dX5_green_82 rfl (lv_at hl 1 rfl) ?_
                refine cl_Vv (As := []) (rest := []) (C := RX5) ⟨hx, hb, hml, hown, hts⟩ (M_X5_putsBack l D cI cJ mo (up (tkM (up (up R 4 0) 6 0) T L ((itemS T L q K).2.1) 1) 1 0) u G ) (cwV 0 hts gX5_green_X5_putsBack rfl rfl rfl qX5_putsBack ⟨Nat.le_of_ble_eq_true rfl, Nat.le_of_ble_eq_true rfl⟩) E0_good hK hA hW trivial [true, true, true] (fun _ => [mH mo (up (tkM (up (up R 4 0) 6 0) T L ((itemS T L q K).2.1) 1) 1 0), mR cI (mo 1) G, mR cI (mo 3) G, aI cI (mo 5) 120 T]) rfl (fun _ => rfl) (fun _ => rfl) 0 0 rfl rfl rfl rfl hl.1 rfl (lv_room (Nat.le_of_ble_eq_true rfl)) dX5_green_83 ⟨Nat.zero_le _, Nat.zero_le _⟩ (fun _ H locs _ hW => ?_)
                refine lv_iconst (v := -1) hx hb dX5_green_86 (by decide +kernel) ?_
                refine lv_aload_n hx hb dX5_green_87 rfl (lv_at hl 1 rfl) ?_
                refine sg_get (ci := 4) (C := RX5) (T := TX5) (N := 15) (v := .int (nI ((tkM (up (up R 4 0) 6 0) T L ((itemS T L q K).2.1) 1) 3))) hx hb hts (fun _ h => List.mem_cons_of_mem _ (List.mem_append_right _ h)) hown hK hW 0 0 rfl rfl rfl 8 (by decide) (hts _ (List.mem_of_getElem? (i := 5) rfl)) (congrArg (fun z => some (Value.int (nI z))) (up_ne (by decide))) dX5_green_88 ?_
                refine W.top (v' := .int (nI (bT T L (itemS T L q K).2.1))) rfl ?_
                refine lv_isub hx hb dX5_green_91 ?_
                have hfin := hpar.trans (parS_oth (by omega) (by omega) (by omega) (by omega))
                exact rt_i hQ hx hb hr hlocks hW dX5_green_92 ((up (tkM (up (up R 4 0) 6 0) T L ((itemS T L q K).2.1) 1) 1 0), G) (by rw [greenV_0 hfin]) ⟨rfl, rfl⟩ (by rw [greenG_0 (by rw [hfin])])
              · exfalso; omega
        · exfalso; omega
  exact lp24 (L - 0 + 1) 1 0 G u1 (Nat.lt_succ_self _) (by omega) (by omega) (Nat.zero_le _) hG rfl hit_ _ _ hW _ (lv_sub hl [0, 1] rfl)
