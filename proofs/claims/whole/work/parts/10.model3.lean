theorem qX5_goes : yX5_goes.cls = RX5 ∧ yX5_goes.cls ≠ "java/lang/invoke/MethodHandle" ∧ yX5_goes.cls ≠ "java/lang/invoke/VarHandle" ∧ (parseMethodDescriptor yX5_goes.desc).map (fun d => d.parameters.length) = some 0 := by decide +kernel
theorem qX5_becomes : yX5_becomes.cls = RX5 ∧ yX5_becomes.cls ≠ "java/lang/invoke/MethodHandle" ∧ yX5_becomes.cls ≠ "java/lang/invoke/VarHandle" ∧ (parseMethodDescriptor yX5_becomes.desc).map (fun d => d.parameters.length) = some 2 := by decide +kernel
theorem qX5_copyAll : yX5_copyAll.cls ≠ "java/lang/invoke/MethodHandle" ∧ yX5_copyAll.cls ≠ "java/lang/invoke/VarHandle" ∧ (parseMethodDescriptor yX5_copyAll.desc).map (fun d => d.parameters.length) = some 2 := by decide +kernel
theorem qX5_goesFor : yX5_goesFor.cls = RX5 ∧ yX5_goesFor.cls ≠ "java/lang/invoke/MethodHandle" ∧ yX5_goesFor.cls ≠ "java/lang/invoke/VarHandle" ∧ (parseMethodDescriptor yX5_goesFor.desc).map (fun d => d.parameters.length) = some 1 := by decide +kernel
theorem qX5_putsBack : yX5_putsBack.cls = RX5 ∧ yX5_putsBack.cls ≠ "java/lang/invoke/MethodHandle" ∧ yX5_putsBack.cls ≠ "java/lang/invoke/VarHandle" ∧ (parseMethodDescriptor yX5_putsBack.desc).map (fun d => d.parameters.length) = some 0 := by decide +kernel
theorem qX5_moves : yX5_moves.cls = RX5 ∧ yX5_moves.cls ≠ "java/lang/invoke/MethodHandle" ∧ yX5_moves.cls ≠ "java/lang/invoke/VarHandle" ∧ (parseMethodDescriptor yX5_moves.desc).map (fun d => d.parameters.length) = some 2 := by decide +kernel
theorem qX5_finds : yX5_finds.cls = RX5 ∧ yX5_finds.cls ≠ "java/lang/invoke/MethodHandle" ∧ yX5_finds.cls ≠ "java/lang/invoke/VarHandle" ∧ (parseMethodDescriptor yX5_finds.desc).map (fun d => d.parameters.length) = some 1 := by decide +kernel
abbrev rmX5_goesFor : Room := { frames := 6, cells := 0, slots := 0, locals := 137 }
set_option maxRecDepth 100000 in
set_option maxHeartbeats 4000000 in
theorem M_X5_goesFor (l : Launch) (D : va_G) (cI cJ : ClassId) (mo R G : Nat → Nat) (b : Nat) (hb30 : b < 2 ^ 30) (hG : OkG b G) (k : Nat) (hbk : b + k < 2 ^ 30) : CE E0 l D vwCl [(cI, .int), (cJ, .long)] yX5_goesFor wsX5_goesFor rmX5_goesFor [.ref (mo 0), .int (nI k)] [mH mo R, mR cI (mo 1) G] (S := Unit) none (fun _ => True) (fun _ : Unit => [mH mo R, mR cI (mo 1) (stepN G k)]) 0 0 := by
  refine CE.ofW (cc := cX5_goesFor) (maxL := 3) (ret := none) (lv := [(0, .ref (mo 0)), (1, .int (nI k))]) (by decide) rfl (Nat.le_of_ble_eq_true rfl) rfl ?_
  intro p e s m args below meth c ls A Q hQ hx hb hml hr hlocks hnm hown hts hK hA hE hW hl
  have hown : s.vm.findClass RX5 = some m.cls := hown
  refine lv_iconst (v := nI 0) hx hb dX5_goesFor_0 (by decide +kernel) ?_
  refine lv_istore_n (lv' := [(2, .int (nI 0)), (0, .ref (mo 0)), (1, .int (nI k))]) hx hb dX5_goesFor_1 rfl hl (by decide) rfl (fun ls hl => ?_)
  have lp2 : ∀ (n : Nat) (i : Nat), k - i < n → i ≤ k → ∀ (H : Heap) (locs : List Loc), Wo D vwCl A s.heap H locs [mH mo R, mR cI (mo 1) (stepN G i)] → ∀ ls : Array Slot, lv_has ls 3 [(2, .int (nI i)), (0, .ref (mo 0)), (1, .int (nI k))] → W p l e rmX5_goesFor s m args below meth c H locs 0 0 Q (F0 m 2 ls []) := by
    intro n
    induction n with
    | zero => intro i hm; exact absurd hm (Nat.not_lt_zero _)
    | succ n ih =>
      intro i hm hi H locs hW ls hl
      refine lv_iload_n hx hb dX5_goesFor_2 rfl (lv_at hl 0 rfl) ?_
      refine lv_iload_n hx hb dX5_goesFor_3 rfl (lv_at hl 2 rfl) ?_
      refine nn_cge (tgt := 17) hx hb dX5_goesFor_4 (by decide) (by omega) (by omega) (fun c4 => ?_) (fun c4 => ?_)
      · exact rt_v hQ hx hb hr hlocks hW dX5_goesFor_17 () rfl trivial (by rw [show i = k by omega])
      · refine lv_aload_n hx hb dX5_goesFor_7 rfl (lv_at hl 1 rfl) ?_
        refine cl_Vv (As := []) (rest := []) (C := RX5) ⟨hx, hb, hml, hown, hts⟩ (M_X5_goes l D cI cJ mo R (stepN G i) (b + i) (by omega) (stepN_ok hG i) ) (cwV 0 hts gX5_goesFor_X5_goes rfl rfl rfl qX5_goes ⟨Nat.le_of_ble_eq_true rfl, Nat.le_of_ble_eq_true rfl⟩) E0_good hK hA hW trivial [true, true] (fun _ => [mH mo R, mR cI (mo 1) (stepG (stepN G i))]) rfl (fun _ => rfl) (fun _ => rfl) 0 0 rfl rfl rfl rfl hl.1 rfl (lv_room (Nat.le_of_ble_eq_true rfl)) dX5_goesFor_8 ⟨Nat.zero_le _, Nat.zero_le _⟩ (fun _ H locs _ hW => ?_)
        refine lv_iinc (v := nI (i + 1)) (lv' := [(2, .int (nI (i + 1))), (0, .ref (mo 0)), (1, .int (nI k))]) hx hb dX5_goesFor_11 hl (k := 0) rfl (nI_add _ 1) (by decide) rfl (fun ls hl => ?_)
        refine lv_goto (tgt := 2) hx hb dX5_goesFor_14 (by decide) ?_
        have hW := hW.to (ss' := [mH mo R, mR cI (mo 1) (stepN G (i + 1))]) rfl
        exact ih (i + 1) (by omega) (by omega) _ _ hW _ (lv_sub hl [0, 1, 2] rfl)
  have hW := hW.to (ss' := [mH mo R, mR cI (mo 1) (stepN G 0)]) rfl
  exact lp2 (k - 0 + 1) 0 (Nat.lt_succ_self _) (by omega) _ _ hW _ (lv_sub hl [0, 1, 2] rfl)
abbrev rmX5_comesAs : Room := { frames := 1, cells := 0, slots := 0, locals := 23 }
set_option maxRecDepth 100000 in
set_option maxHeartbeats 4000000 in
theorem M_X5_comesAs (l : Launch) (D : va_G) (cI cJ : ClassId) (mo R G : Nat → Nat) (b : Nat) (hb30 : b < 2 ^ 30) (hG : OkG b G) (k sc o : Nat) (h8 : G 40 < 8) : CE E0 l D vwCl [(cI, .int), (cJ, .long)] yX5_comesAs wsX5_comesAs rmX5_comesAs [.ref (mo 0), .int (nI k), .int (nI sc), .int (nI o)] [mH mo R, mR cI (mo 1) G] (S := Unit) (some (.int (nI (G 40)))) (fun _ => True) (fun _ : Unit => [mH mo R, mR cI (mo 1) (addM G k sc o)]) 0 0 := by
  refine CE.ofW (cc := cX5_comesAs) (maxL := 5) (ret := (some .int)) (lv := [(0, .ref (mo 0)), (1, .int (nI k)), (2, .int (nI sc)), (3, .int (nI o))]) (by decide) rfl (Nat.le_of_ble_eq_true rfl) rfl ?_
  intro p e s m args below meth c ls A Q hQ hx hb hml hr hlocks hnm hown hts hK hA hE hW hl
  have hown : s.vm.findClass RX5 = some m.cls := hown
  refine lv_aload_n hx hb dX5_comesAs_0 rfl (lv_at hl 0 rfl) ?_
  refine sg_get (ci := 4) (C := RX5) (T := TX5) (N := 15) (v := .ref (mo 1)) hx hb hts (fun _ h => List.mem_cons_of_mem _ (List.mem_append_right _ h)) hown hK hW 0 0 rfl rfl rfl 0 (by decide) (hts _ (List.mem_of_getElem? (i := 1) rfl)) rfl dX5_comesAs_1 ?_
  refine lv_iconst (v := nI 5) hx hb dX5_comesAs_4 (by decide +kernel) ?_
  refine sg_ild (v := nI (G 40)) hx hb hK hW 1 0 0 rfl rfl rfl (by decide) (by decide) rfl dX5_comesAs_5 ?_
  refine lv_istore (lv' := [(4, .int (nI (G 40))), (0, .ref (mo 0)), (1, .int (nI k)), (2, .int (nI sc)), (3, .int (nI o))]) hx hb dX5_comesAs_6 hl (by decide) rfl (fun ls hl => ?_)
  refine lv_aload_n hx hb dX5_comesAs_8 rfl (lv_at hl 1 rfl) ?_
  refine sg_get (ci := 4) (C := RX5) (T := TX5) (N := 15) (v := .ref (mo 1)) hx hb hts (fun _ h => List.mem_cons_of_mem _ (List.mem_append_right _ h)) hown hK hW 0 0 rfl rfl rfl 0 (by decide) (hts _ (List.mem_of_getElem? (i := 1) rfl)) rfl dX5_comesAs_9 ?_
  refine lv_iconst (v := nI 5) hx hb dX5_comesAs_12 (by decide +kernel) ?_
  refine lv_dup2_11 hx hb dX5_comesAs_13 rfl rfl ?_
  refine sg_ild (v := nI (G 40)) hx hb hK hW 1 0 0 rfl rfl rfl (by decide) (by decide) rfl dX5_comesAs_14 ?_
  refine lv_iconst (v := nI 1) hx hb dX5_comesAs_15 (by decide +kernel) ?_
  refine nn_add hx hb dX5_comesAs_16 ?_
  refine sg_ist hx hb hK hW 1 0 0 rfl rfl rfl (by decide) (by decide) (mR_set cI (mo 1) G 5 ((G 40) + 1)) (ss' := [mH mo R, mR cI (mo 1) (up G 40 ((G 40) + 1))]) rfl dX5_comesAs_17 (fun H locs hW => ?_)
  refine lv_aload_n hx hb dX5_comesAs_18 rfl (lv_at hl 1 rfl) ?_
  refine lv_iload hx hb dX5_comesAs_19 (lv_at hl 0 rfl) ?_
  refine lv_iconst (v := nI 0) hx hb dX5_comesAs_21 (by decide +kernel) ?_
  refine lv_iload_n hx hb dX5_comesAs_22 rfl (lv_at hl 2 rfl) ?_
  refine cl_Vv (As := [.int (nI (G 40)), .int (nI 0), .int (nI k)]) (rest := []) (C := RX5) ⟨hx, hb, hml, hown, hts⟩ (M_X5_put l D cI cJ mo R (up G 40 ((G 40) + 1)) (G 40) 0 1 k (by omega) (by decide) rfl) (cwV 3 hts gX5_comesAs_X5_put rfl rfl rfl qX5_put ⟨Nat.le_of_ble_eq_true rfl, Nat.le_of_ble_eq_true rfl⟩) E0_good hK hA hW trivial [true, true] (fun _ => [mH mo R, mR cI (mo 1) (up (up G 40 ((G 40) + 1)) (8 * (G 40) + 1) k)]) rfl (fun _ => rfl) (fun _ => rfl) 0 0 rfl rfl rfl rfl hl.1 rfl (lv_room (Nat.le_of_ble_eq_true rfl)) dX5_comesAs_23 ⟨Nat.zero_le _, Nat.zero_le _⟩ (fun _ H locs _ hW => ?_)
  refine lv_aload_n hx hb dX5_comesAs_26 rfl (lv_at hl 1 rfl) ?_
  refine lv_iload hx hb dX5_comesAs_27 (lv_at hl 0 rfl) ?_
  refine lv_iconst (v := nI 1) hx hb dX5_comesAs_29 (by decide +kernel) ?_
  refine lv_iload_n hx hb dX5_comesAs_30 rfl (lv_at hl 4 rfl) ?_
  refine cl_Vv (As := [.int (nI (G 40)), .int (nI 1), .int (nI o)]) (rest := []) (C := RX5) ⟨hx, hb, hml, hown, hts⟩ (M_X5_put l D cI cJ mo R (up (up G 40 ((G 40) + 1)) (8 * (G 40) + 1) k) (G 40) 1 2 o (by omega) (by decide) rfl) (cwV 3 hts gX5_comesAs_X5_put rfl rfl rfl qX5_put ⟨Nat.le_of_ble_eq_true rfl, Nat.le_of_ble_eq_true rfl⟩) E0_good hK hA hW trivial [true, true] (fun _ => [mH mo R, mR cI (mo 1) (up (up (up G 40 ((G 40) + 1)) (8 * (G 40) + 1) k) (8 * (G 40) + 2) o)]) rfl (fun _ => rfl) (fun _ => rfl) 0 0 rfl rfl rfl rfl hl.1 rfl (lv_room (Nat.le_of_ble_eq_true rfl)) dX5_comesAs_31 ⟨Nat.zero_le _, Nat.zero_le _⟩ (fun _ H locs _ hW => ?_)
  refine lv_aload_n hx hb dX5_comesAs_34 rfl (lv_at hl 1 rfl) ?_
  refine lv_iload hx hb dX5_comesAs_35 (lv_at hl 0 rfl) ?_
  refine lv_iconst (v := nI 2) hx hb dX5_comesAs_37 (by decide +kernel) ?_
  refine lv_iload_n hx hb dX5_comesAs_38 rfl (lv_at hl 3 rfl) ?_
  refine cl_Vv (As := [.int (nI (G 40)), .int (nI 2), .int (nI sc)]) (rest := []) (C := RX5) ⟨hx, hb, hml, hown, hts⟩ (M_X5_put l D cI cJ mo R (up (up (up G 40 ((G 40) + 1)) (8 * (G 40) + 1) k) (8 * (G 40) + 2) o) (G 40) 2 3 sc (by omega) (by decide) rfl) (cwV 3 hts gX5_comesAs_X5_put rfl rfl rfl qX5_put ⟨Nat.le_of_ble_eq_true rfl, Nat.le_of_ble_eq_true rfl⟩) E0_good hK hA hW trivial [true, true] (fun _ => [mH mo R, mR cI (mo 1) (up (up (up (up G 40 ((G 40) + 1)) (8 * (G 40) + 1) k) (8 * (G 40) + 2) o) (8 * (G 40) + 3) sc)]) rfl (fun _ => rfl) (fun _ => rfl) 0 0 rfl rfl rfl rfl hl.1 rfl (lv_room (Nat.le_of_ble_eq_true rfl)) dX5_comesAs_39 ⟨Nat.zero_le _, Nat.zero_le _⟩ (fun _ H locs _ hW => ?_)
  refine lv_aload_n hx hb dX5_comesAs_42 rfl (lv_at hl 1 rfl) ?_
  refine lv_iload hx hb dX5_comesAs_43 (lv_at hl 0 rfl) ?_
  refine lv_iconst (v := nI 3) hx hb dX5_comesAs_45 (by decide +kernel) ?_
  refine lv_iconst (v := nI 0) hx hb dX5_comesAs_46 (by decide +kernel) ?_
  refine cl_Vv (As := [.int (nI (G 40)), .int (nI 3), .int (nI 0)]) (rest := []) (C := RX5) ⟨hx, hb, hml, hown, hts⟩ (M_X5_put l D cI cJ mo R (up (up (up (up G 40 ((G 40) + 1)) (8 * (G 40) + 1) k) (8 * (G 40) + 2) o) (8 * (G 40) + 3) sc) (G 40) 3 4 0 (by omega) (by decide) rfl) (cwV 3 hts gX5_comesAs_X5_put rfl rfl rfl qX5_put ⟨Nat.le_of_ble_eq_true rfl, Nat.le_of_ble_eq_true rfl⟩) E0_good hK hA hW trivial [true, true] (fun _ => [mH mo R, mR cI (mo 1) (up (up (up (up (up G 40 ((G 40) + 1)) (8 * (G 40) + 1) k) (8 * (G 40) + 2) o) (8 * (G 40) + 3) sc) (8 * (G 40) + 4) 0)]) rfl (fun _ => rfl) (fun _ => rfl) 0 0 rfl rfl rfl rfl hl.1 rfl (lv_room (Nat.le_of_ble_eq_true rfl)) dX5_comesAs_47 ⟨Nat.zero_le _, Nat.zero_le _⟩ (fun _ H locs _ hW => ?_)
  refine lv_iload hx hb dX5_comesAs_50 (lv_at hl 0 rfl) ?_
  exact rt_i hQ hx hb hr hlocks hW dX5_comesAs_52 () rfl trivial (by rw [← addM_alt])
abbrev rmX5_getsOn : Room := { frames := 1, cells := 0, slots := 0, locals := 23 }
set_option maxRecDepth 100000 in
set_option maxHeartbeats 4000000 in
theorem M_X5_getsOn (l : Launch) (D : va_G) (cI cJ : ClassId) (mo R G : Nat → Nat) (b : Nat) (hb30 : b < 2 ^ 30) (hG : OkG b G) (gr o : Nat) (h6 : G 48 < 6) : CE E0 l D vwCl [(cI, .int), (cJ, .long)] yX5_getsOn wsX5_getsOn rmX5_getsOn [.ref (mo 0), .int (nI gr), .int (nI o)] [mH mo R, mR cI (mo 1) G] (S := Unit) (some (.int (nI (G 48)))) (fun _ => True) (fun _ : Unit => [mH mo R, mR cI (mo 1) (addC G gr o)]) 0 0 := by
  refine CE.ofW (cc := cX5_getsOn) (maxL := 4) (ret := (some .int)) (lv := [(0, .ref (mo 0)), (1, .int (nI gr)), (2, .int (nI o))]) (by decide) rfl (Nat.le_of_ble_eq_true rfl) rfl ?_
  intro p e s m args below meth c ls A Q hQ hx hb hml hr hlocks hnm hown hts hK hA hE hW hl
  have hown : s.vm.findClass RX5 = some m.cls := hown
  refine lv_aload_n hx hb dX5_getsOn_0 rfl (lv_at hl 0 rfl) ?_
  refine sg_get (ci := 4) (C := RX5) (T := TX5) (N := 15) (v := .ref (mo 1)) hx hb hts (fun _ h => List.mem_cons_of_mem _ (List.mem_append_right _ h)) hown hK hW 0 0 rfl rfl rfl 0 (by decide) (hts _ (List.mem_of_getElem? (i := 1) rfl)) rfl dX5_getsOn_1 ?_
  refine lv_bipush (v := nI 6) hx hb dX5_getsOn_4 (by decide +kernel) ?_
  refine sg_ild (v := nI (G 48)) hx hb hK hW 1 0 0 rfl rfl rfl (by decide) (by decide) rfl dX5_getsOn_6 ?_
  refine lv_istore_n (lv' := [(3, .int (nI (G 48))), (0, .ref (mo 0)), (1, .int (nI gr)), (2, .int (nI o))]) hx hb dX5_getsOn_7 rfl hl (by decide) rfl (fun ls hl => ?_)
  refine lv_aload_n hx hb dX5_getsOn_8 rfl (lv_at hl 1 rfl) ?_
  refine sg_get (ci := 4) (C := RX5) (T := TX5) (N := 15) (v := .ref (mo 1)) hx hb hts (fun _ h => List.mem_cons_of_mem _ (List.mem_append_right _ h)) hown hK hW 0 0 rfl rfl rfl 0 (by decide) (hts _ (List.mem_of_getElem? (i := 1) rfl)) rfl dX5_getsOn_9 ?_
  refine lv_bipush (v := nI 6) hx hb dX5_getsOn_12 (by decide +kernel) ?_
  refine lv_dup2_11 hx hb dX5_getsOn_14 rfl rfl ?_
  refine sg_ild (v := nI (G 48)) hx hb hK hW 1 0 0 rfl rfl rfl (by decide) (by decide) rfl dX5_getsOn_15 ?_
  refine lv_iconst (v := nI 1) hx hb dX5_getsOn_16 (by decide +kernel) ?_
  refine nn_add hx hb dX5_getsOn_17 ?_
  refine sg_ist hx hb hK hW 1 0 0 rfl rfl rfl (by decide) (by decide) (mR_set cI (mo 1) G 6 ((G 48) + 1)) (ss' := [mH mo R, mR cI (mo 1) (up G 48 ((G 48) + 1))]) rfl dX5_getsOn_18 (fun H locs hW => ?_)
  refine lv_aload_n hx hb dX5_getsOn_19 rfl (lv_at hl 1 rfl) ?_
  refine lv_iload_n hx hb dX5_getsOn_20 rfl (lv_at hl 0 rfl) ?_
  refine lv_iconst (v := nI 0) hx hb dX5_getsOn_21 (by decide +kernel) ?_
  refine lv_iload_n hx hb dX5_getsOn_22 rfl (lv_at hl 2 rfl) ?_
  refine cl_Vv (As := [.int (nI (G 48)), .int (nI 0), .int (nI gr)]) (rest := []) (C := RX5) ⟨hx, hb, hml, hown, hts⟩ (M_X5_lets l D cI cJ mo R (up G 48 ((G 48) + 1)) (G 48) 0 5 gr (by omega) (by decide) rfl) (cwV 3 hts gX5_getsOn_X5_lets rfl rfl rfl qX5_lets ⟨Nat.le_of_ble_eq_true rfl, Nat.le_of_ble_eq_true rfl⟩) E0_good hK hA hW trivial [true, true] (fun _ => [mH mo R, mR cI (mo 1) (up (up G 48 ((G 48) + 1)) (8 * (G 48) + 5) gr)]) rfl (fun _ => rfl) (fun _ => rfl) 0 0 rfl rfl rfl rfl hl.1 rfl (lv_room (Nat.le_of_ble_eq_true rfl)) dX5_getsOn_23 ⟨Nat.zero_le _, Nat.zero_le _⟩ (fun _ H locs _ hW => ?_)
  refine lv_aload_n hx hb dX5_getsOn_26 rfl (lv_at hl 1 rfl) ?_
  refine lv_iload_n hx hb dX5_getsOn_27 rfl (lv_at hl 0 rfl) ?_
  refine lv_iconst (v := nI 1) hx hb dX5_getsOn_28 (by decide +kernel) ?_
  refine lv_iload_n hx hb dX5_getsOn_29 rfl (lv_at hl 3 rfl) ?_
  refine cl_Vv (As := [.int (nI (G 48)), .int (nI 1), .int (nI o)]) (rest := []) (C := RX5) ⟨hx, hb, hml, hown, hts⟩ (M_X5_lets l D cI cJ mo R (up (up G 48 ((G 48) + 1)) (8 * (G 48) + 5) gr) (G 48) 1 6 o (by omega) (by decide) rfl) (cwV 3 hts gX5_getsOn_X5_lets rfl rfl rfl qX5_lets ⟨Nat.le_of_ble_eq_true rfl, Nat.le_of_ble_eq_true rfl⟩) E0_good hK hA hW trivial [true, true] (fun _ => [mH mo R, mR cI (mo 1) (up (up (up G 48 ((G 48) + 1)) (8 * (G 48) + 5) gr) (8 * (G 48) + 6) o)]) rfl (fun _ => rfl) (fun _ => rfl) 0 0 rfl rfl rfl rfl hl.1 rfl (lv_room (Nat.le_of_ble_eq_true rfl)) dX5_getsOn_30 ⟨Nat.zero_le _, Nat.zero_le _⟩ (fun _ H locs _ hW => ?_)
  refine lv_aload_n hx hb dX5_getsOn_33 rfl (lv_at hl 1 rfl) ?_
  refine lv_iload_n hx hb dX5_getsOn_34 rfl (lv_at hl 0 rfl) ?_
  refine lv_iconst (v := nI 2) hx hb dX5_getsOn_35 (by decide +kernel) ?_
  refine lv_iconst (v := nI 0) hx hb dX5_getsOn_36 (by decide +kernel) ?_
  refine cl_Vv (As := [.int (nI (G 48)), .int (nI 2), .int (nI 0)]) (rest := []) (C := RX5) ⟨hx, hb, hml, hown, hts⟩ (M_X5_lets l D cI cJ mo R (up (up (up G 48 ((G 48) + 1)) (8 * (G 48) + 5) gr) (8 * (G 48) + 6) o) (G 48) 2 7 0 (by omega) (by decide) rfl) (cwV 3 hts gX5_getsOn_X5_lets rfl rfl rfl qX5_lets ⟨Nat.le_of_ble_eq_true rfl, Nat.le_of_ble_eq_true rfl⟩) E0_good hK hA hW trivial [true, true] (fun _ => [mH mo R, mR cI (mo 1) (up (up (up (up G 48 ((G 48) + 1)) (8 * (G 48) + 5) gr) (8 * (G 48) + 6) o) (8 * (G 48) + 7) 0)]) rfl (fun _ => rfl) (fun _ => rfl) 0 0 rfl rfl rfl rfl hl.1 rfl (lv_room (Nat.le_of_ble_eq_true rfl)) dX5_getsOn_37 ⟨Nat.zero_le _, Nat.zero_le _⟩ (fun _ H locs _ hW => ?_)
  refine lv_iload_n hx hb dX5_getsOn_40 rfl (lv_at hl 0 rfl) ?_
  exact rt_i hQ hx hb hr hlocks hW dX5_getsOn_41 () rfl trivial (by rw [← addC_alt])
abbrev rmX5_moves : Room := { frames := 1, cells := 0, slots := 0, locals := 23 }
set_option maxRecDepth 100000 in
set_option maxHeartbeats 4000000 in
theorem M_X5_moves (l : Launch) (D : va_G) (cI cJ : ClassId) (mo R G : Nat → Nat) (b : Nat) (hb30 : b < 2 ^ 30) (hG : OkG b G) (a o : Nat) (ha : a < G 40) : CE E0 l D vwCl [(cI, .int), (cJ, .long)] yX5_moves wsX5_moves rmX5_moves [.ref (mo 0), .int (nI a), .int (nI o)] [mH mo R, mR cI (mo 1) G] (S := Unit) (some (.int (nI (G (8 * a + 2))))) (fun _ => True) (fun _ : Unit => [mH mo R, mR cI (mo 1) (moveM G a o)]) 0 0 := by
  refine CE.ofW (cc := cX5_moves) (maxL := 3) (ret := (some .int)) (lv := [(0, .ref (mo 0)), (1, .int (nI a)), (2, .int (nI o))]) (by decide) rfl (Nat.le_of_ble_eq_true rfl) rfl ?_
  intro p e s m args below meth c ls A Q hQ hx hb hml hr hlocks hnm hown hts hK hA hE hW hl
  have hown : s.vm.findClass RX5 = some m.cls := hown
  obtain ⟨hg0, hg8, hg16, hg16b, hg24, hg32, hg40, hg48⟩ := hG.s
  refine lv_aload_n hx hb dX5_moves_0 rfl (lv_at hl 0 rfl) ?_
  refine lv_iload_n hx hb dX5_moves_1 rfl (lv_at hl 1 rfl) ?_
  refine lv_iconst (v := nI 3) hx hb dX5_moves_2 (by decide +kernel) ?_
  refine lv_iconst (v := nI 0) hx hb dX5_moves_3 (by decide +kernel) ?_
  refine cl_Vv (As := [.int (nI a), .int (nI 3), .int (nI 0)]) (rest := []) (C := RX5) ⟨hx, hb, hml, hown, hts⟩ (M_X5_put l D cI cJ mo R G a 3 4 0 (by omega) (by decide) rfl) (cwV 3 hts gX5_moves_X5_put rfl rfl rfl qX5_put ⟨Nat.le_of_ble_eq_true rfl, Nat.le_of_ble_eq_true rfl⟩) E0_good hK hA hW trivial [true, true] (fun _ => [mH mo R, mR cI (mo 1) (up G (8 * a + 4) 0)]) rfl (fun _ => rfl) (fun _ => rfl) 0 0 rfl rfl rfl rfl hl.1 rfl (lv_room (Nat.le_of_ble_eq_true rfl)) dX5_moves_4 ⟨Nat.zero_le _, Nat.zero_le _⟩ (fun _ H locs _ hW => ?_)
  refine lv_aload_n hx hb dX5_moves_7 rfl (lv_at hl 0 rfl) ?_
  refine lv_bipush (v := nI 7) hx hb dX5_moves_8 (by decide +kernel) ?_
  refine lv_iconst (v := nI 4) hx hb dX5_moves_10 (by decide +kernel) ?_
  refine lv_iload_n hx hb dX5_moves_11 rfl (lv_at hl 1 rfl) ?_
  refine nn_mul hx hb dX5_moves_12 ?_
  refine nn_add hx hb dX5_moves_13 ?_
  refine lv_iconst (v := nI 1) hx hb dX5_moves_14 (by decide +kernel) ?_
  refine nn_add hx hb dX5_moves_15 ?_
  refine lv_iload_n hx hb dX5_moves_16 rfl (lv_at hl 2 rfl) ?_
  refine cl_Vi (As := [.int (nI ((7 + (4 * a)) + 1)), .int (nI o)]) (rest := []) (C := RX5) ⟨hx, hb, hml, hown, hts⟩ (M_X5_becomes l D cI cJ mo R (up G (8 * a + 4) 0) ((7 + (4 * a)) + 1) (8 * a + 2) o (by omega) (mk_m (by omega) (by decide))) (cwV 2 hts gX5_moves_X5_becomes rfl rfl rfl qX5_becomes ⟨Nat.le_of_ble_eq_true rfl, Nat.le_of_ble_eq_true rfl⟩) E0_good hK hA hW trivial [true, true] (fun _ => [mH mo R, mR cI (mo 1) (up (up G (8 * a + 4) 0) (8 * a + 2) o)]) rfl (fun _ => rfl) (fun _ => rfl) 0 0 rfl rfl rfl rfl hl.1 rfl (lv_room (Nat.le_of_ble_eq_true rfl)) dX5_moves_17 ⟨Nat.zero_le _, Nat.zero_le _⟩ (fun _ H locs _ hW => ?_)
  refine W.top (v' := .int (nI (G (8 * a + 2)))) (congrArg (fun z => Value.int (nI z)) (up_ne (by omega))) ?_
  exact rt_i hQ hx hb hr hlocks hW dX5_moves_20 () rfl trivial (by rw [← moveM_alt])
abbrev rmX5_thinks : Room := { frames := 1, cells := 0, slots := 0, locals := 22 }
set_option maxRecDepth 100000 in
set_option maxHeartbeats 4000000 in
theorem M_X5_thinks (l : Launch) (D : va_G) (cI cJ : ClassId) (mo R G Wa : Nat → Nat) : CE E0 l D vwCl [(cI, .int), (cJ, .long)] yX5_thinks wsX5_thinks rmX5_thinks [.ref (mo 0)] [mH mo R, mR cI (mo 1) G, mR cI (mo 3) Wa] (S := Unit) none (fun _ => True) (fun _ : Unit => [mH mo R, mR cI (mo 1) G, mR cI (mo 3) G]) 0 0 := by
  refine CE.ofW (cc := cX5_thinks) (maxL := 1) (ret := none) (lv := [(0, .ref (mo 0))]) (by decide) rfl (Nat.le_of_ble_eq_true rfl) rfl ?_
  intro p e s m args below meth c ls A Q hQ hx hb hml hr hlocks hnm hown hts hK hA hE hW hl
  have hown : s.vm.findClass RX5 = some m.cls := hown
  refine lv_aload_n hx hb dX5_thinks_0 rfl (lv_at hl 0 rfl) ?_
  refine sg_get (ci := 4) (C := RX5) (T := TX5) (N := 15) (v := .ref (mo 1)) hx hb hts (fun _ h => List.mem_cons_of_mem _ (List.mem_append_right _ h)) hown hK hW 0 0 rfl rfl rfl 0 (by decide) (hts _ (List.mem_of_getElem? (i := 1) rfl)) rfl dX5_thinks_1 ?_
  refine lv_aload_n hx hb dX5_thinks_4 rfl (lv_at hl 0 rfl) ?_
  refine sg_get (ci := 4) (C := RX5) (T := TX5) (N := 15) (v := .ref (mo 3)) hx hb hts (fun _ h => List.mem_cons_of_mem _ (List.mem_append_right _ h)) hown hK hW 0 0 rfl rfl rfl 2 (by decide) (hts _ (List.mem_of_getElem? (i := 2) rfl)) rfl dX5_thinks_5 ?_
  refine cl_Sv (As := [.ref (mo 1), .ref (mo 3)]) (rest := []) ⟨hx, hb, hml, hown, hts⟩ (M_X5_copyAll l D cI cJ (mo 1) (mo 3) (fun k => G (mk k)) (fun k => Wa (mk k))) (va_cwS 2 hts gX5_thinks_X5_copyAll rfl rfl rfl qX5_copyAll ⟨Nat.le_of_ble_eq_true rfl, Nat.le_of_ble_eq_true rfl⟩) E0_good hK hA hW trivial [false, true, true] (fun _ => [mH mo R, mR cI (mo 1) G, mR cI (mo 3) G]) rfl (fun _ => rfl) (fun _ => rfl) rfl hl.1 rfl (lv_room (Nat.le_of_ble_eq_true rfl)) dX5_thinks_8 ⟨Nat.zero_le _, Nat.zero_le _⟩ (fun _ H locs _ hW => ?_)
  exact rt_v hQ hx hb hr hlocks hW dX5_thinks_11 () rfl trivial rfl
abbrev rmX5_putsBack : Room := { frames := 1, cells := 0, slots := 0, locals := 22 }
set_option maxRecDepth 100000 in
set_option maxHeartbeats 4000000 in
theorem M_X5_putsBack (l : Launch) (D : va_G) (cI cJ : ClassId) (mo R G Wa : Nat → Nat) : CE E0 l D vwCl [(cI, .int), (cJ, .long)] yX5_putsBack wsX5_putsBack rmX5_putsBack [.ref (mo 0)] [mH mo R, mR cI (mo 1) G, mR cI (mo 3) Wa] (S := Unit) none (fun _ => True) (fun _ : Unit => [mH mo R, mR cI (mo 1) Wa, mR cI (mo 3) Wa]) 0 0 := by
  refine CE.ofW (cc := cX5_putsBack) (maxL := 1) (ret := none) (lv := [(0, .ref (mo 0))]) (by decide) rfl (Nat.le_of_ble_eq_true rfl) rfl ?_
  intro p e s m args below meth c ls A Q hQ hx hb hml hr hlocks hnm hown hts hK hA hE hW hl
  have hown : s.vm.findClass RX5 = some m.cls := hown
  refine lv_aload_n hx hb dX5_putsBack_0 rfl (lv_at hl 0 rfl) ?_
  refine sg_get (ci := 4) (C := RX5) (T := TX5) (N := 15) (v := .ref (mo 3)) hx hb hts (fun _ h => List.mem_cons_of_mem _ (List.mem_append_right _ h)) hown hK hW 0 0 rfl rfl rfl 2 (by decide) (hts _ (List.mem_of_getElem? (i := 1) rfl)) rfl dX5_putsBack_1 ?_
  refine lv_aload_n hx hb dX5_putsBack_4 rfl (lv_at hl 0 rfl) ?_
  refine sg_get (ci := 4) (C := RX5) (T := TX5) (N := 15) (v := .ref (mo 1)) hx hb hts (fun _ h => List.mem_cons_of_mem _ (List.mem_append_right _ h)) hown hK hW 0 0 rfl rfl rfl 0 (by decide) (hts _ (List.mem_of_getElem? (i := 2) rfl)) rfl dX5_putsBack_5 ?_
  refine cl_Sv (As := [.ref (mo 3), .ref (mo 1)]) (rest := []) ⟨hx, hb, hml, hown, hts⟩ (M_X5_copyAll2 l D cI cJ (mo 3) (mo 1) (fun k => Wa (mk k)) (fun k => G (mk k))) (va_cwS 2 hts gX5_putsBack_X5_copyAll rfl rfl rfl qX5_copyAll ⟨Nat.le_of_ble_eq_true rfl, Nat.le_of_ble_eq_true rfl⟩) E0_good hK hA hW trivial [false, true, true] (fun _ => [mH mo R, mR cI (mo 1) Wa, mR cI (mo 3) Wa]) rfl (fun _ => rfl) (fun _ => rfl) rfl hl.1 rfl (lv_room (Nat.le_of_ble_eq_true rfl)) dX5_putsBack_8 ⟨Nat.zero_le _, Nat.zero_le _⟩ (fun _ H locs _ hW => ?_)
  exact rt_v hQ hx hb hr hlocks hW dX5_putsBack_11 () rfl trivial rfl
abbrev rmX5_turnedOn : Room := { frames := 7, cells := 0, slots := 0, locals := 159 }
set_option maxRecDepth 100000 in
set_option maxHeartbeats 4000000 in
theorem M_X5_turnedOn (l : Launch) (D : va_G) (cI cJ : ClassId) (mo R G Wa : Nat → Nat) (b : Nat) (hb30 : b < 2 ^ 30) (hG : OkG b G) (k : Nat) (hbk : b + k < 2 ^ 30) : CE E0 l D vwCl [(cI, .int), (cJ, .long)] yX5_turnedOn wsX5_turnedOn rmX5_turnedOn [.ref (mo 0), .int (nI k)] [mH mo R, mR cI (mo 1) G, mR cI (mo 3) Wa] (S := Unit) (some (.int (nI (stepN G k 32)))) (fun _ => True) (fun _ : Unit => [mH mo R, mR cI (mo 1) Wa, mR cI (mo 3) Wa]) 0 0 := by
  refine CE.ofW (cc := cX5_turnedOn) (maxL := 3) (ret := (some .int)) (lv := [(0, .ref (mo 0)), (1, .int (nI k))]) (by decide) rfl (Nat.le_of_ble_eq_true rfl) rfl ?_
  intro p e s m args below meth c ls A Q hQ hx hb hml hr hlocks hnm hown hts hK hA hE hW hl
  have hown : s.vm.findClass RX5 = some m.cls := hown
  refine lv_aload_n hx hb dX5_turnedOn_0 rfl (lv_at hl 0 rfl) ?_
  refine lv_iload_n hx hb dX5_turnedOn_1 rfl (lv_at hl 1 rfl) ?_
  refine cl_Vv (As := [.int (nI k)]) (rest := []) (C := RX5) ⟨hx, hb, hml, hown, hts⟩ (M_X5_goesFor l D cI cJ mo R G b hb30 hG k (by omega)) (cwV 1 hts gX5_turnedOn_X5_goesFor rfl rfl rfl qX5_goesFor ⟨Nat.le_of_ble_eq_true rfl, Nat.le_of_ble_eq_true rfl⟩) E0_good hK hA hW trivial [true, true] (fun _ => [mH mo R, mR cI (mo 1) (stepN G k), mR cI (mo 3) Wa]) rfl (fun _ => rfl) (fun _ => rfl) 0 0 rfl rfl rfl rfl hl.1 rfl (lv_room (Nat.le_of_ble_eq_true rfl)) dX5_turnedOn_2 ⟨Nat.zero_le _, Nat.zero_le _⟩ (fun _ H locs _ hW => ?_)
  refine lv_aload_n hx hb dX5_turnedOn_5 rfl (lv_at hl 0 rfl) ?_
  refine sg_get (ci := 4) (C := RX5) (T := TX5) (N := 15) (v := .ref (mo 1)) hx hb hts (fun _ h => List.mem_cons_of_mem _ (List.mem_append_right _ h)) hown hK hW 0 0 rfl rfl rfl 0 (by decide) (hts _ (List.mem_of_getElem? (i := 1) rfl)) rfl dX5_turnedOn_6 ?_
  refine lv_iconst (v := nI 4) hx hb dX5_turnedOn_9 (by decide +kernel) ?_
  refine sg_ild (v := nI ((stepN G k) 32)) hx hb hK hW 1 0 0 rfl rfl rfl (by decide) (by decide) rfl dX5_turnedOn_10 ?_
  refine lv_istore_n (lv' := [(2, .int (nI ((stepN G k) 32))), (0, .ref (mo 0)), (1, .int (nI k))]) hx hb dX5_turnedOn_11 rfl hl (by decide) rfl (fun ls hl => ?_)
  refine lv_aload_n hx hb dX5_turnedOn_12 rfl (lv_at hl 1 rfl) ?_
  refine cl_Vv (As := []) (rest := []) (C := RX5) ⟨hx, hb, hml, hown, hts⟩ (M_X5_putsBack l D cI cJ mo R (stepN G k) Wa ) (cwV 0 hts gX5_turnedOn_X5_putsBack rfl rfl rfl qX5_putsBack ⟨Nat.le_of_ble_eq_true rfl, Nat.le_of_ble_eq_true rfl⟩) E0_good hK hA hW trivial [true, true, true] (fun _ => [mH mo R, mR cI (mo 1) Wa, mR cI (mo 3) Wa]) rfl (fun _ => rfl) (fun _ => rfl) 0 0 rfl rfl rfl rfl hl.1 rfl (lv_room (Nat.le_of_ble_eq_true rfl)) dX5_turnedOn_13 ⟨Nat.zero_le _, Nat.zero_le _⟩ (fun _ H locs _ hW => ?_)
  refine lv_iload_n hx hb dX5_turnedOn_16 rfl (lv_at hl 0 rfl) ?_
  exact rt_i hQ hx hb hr hlocks hW dX5_turnedOn_17 () rfl trivial rfl
abbrev rmX5_allFlung : Room := { frames := 1, cells := 0, slots := 0, locals := 22 }
set_option maxRecDepth 100000 in
set_option maxHeartbeats 4000000 in
theorem M_X5_allFlung (l : Launch) (D : va_G) (cI cJ : ClassId) (mo R G : Nat → Nat) (b : Nat) (hb30 : b < 2 ^ 30) (hG : OkG b G) : CE E0 l D vwCl [(cI, .int), (cJ, .long)] yX5_allFlung wsX5_allFlung rmX5_allFlung [.ref (mo 0)] [mH mo R, mR cI (mo 1) G] (S := Unit) (some (.int (nI (flC G)))) (fun _ => True) (fun _ : Unit => [mH mo R, mR cI (mo 1) G]) 0 0 := by
  refine CE.ofW (cc := cX5_allFlung) (maxL := 3) (ret := (some .int)) (lv := [(0, .ref (mo 0))]) (by decide) rfl (Nat.le_of_ble_eq_true rfl) rfl ?_
  intro p e s m args below meth c ls A Q hQ hx hb hml hr hlocks hnm hown hts hK hA hE hW hl
  have hown : s.vm.findClass RX5 = some m.cls := hown
  obtain ⟨hg0, hg8, hg16, hg16b, hg24, hg32, hg40, hg48⟩ := hG.s
  refine lv_iconst (v := nI 0) hx hb dX5_allFlung_0 (by decide +kernel) ?_
  refine lv_istore_n (lv' := [(1, .int (nI 0)), (0, .ref (mo 0))]) hx hb dX5_allFlung_1 rfl hl (by decide) rfl (fun ls hl => ?_)
  refine lv_iconst (v := nI 0) hx hb dX5_allFlung_2 (by decide +kernel) ?_
  refine lv_istore_n (lv' := [(2, .int (nI 0)), (1, .int (nI 0)), (0, .ref (mo 0))]) hx hb dX5_allFlung_3 rfl hl (by decide) rfl (fun ls hl => ?_)
  have lp4 : ∀ (n : Nat) (i : Nat), G 48 - i < n → i ≤ G 48 → ∀ (H : Heap) (locs : List Loc), Wo D vwCl A s.heap H locs [mH mo R, mR cI (mo 1) G] → ∀ ls : Array Slot, lv_has ls 3 [(2, .int (nI i)), (1, .int (nI (sumN (fun i => G (8 * i + 7)) i))), (0, .ref (mo 0))] → W p l e rmX5_allFlung s m args below meth c H locs 0 0 Q (F0 m 4 ls []) := by
    intro n
    induction n with
    | zero => intro i hm; exact absurd hm (Nat.not_lt_zero _)
    | succ n ih =>
      intro i hm hi H locs hW ls hl
      refine lv_iload_n hx hb dX5_allFlung_4 rfl (lv_at hl 0 rfl) ?_
      refine lv_aload_n hx hb dX5_allFlung_5 rfl (lv_at hl 2 rfl) ?_
      refine sg_get (ci := 4) (C := RX5) (T := TX5) (N := 15) (v := .ref (mo 1)) hx hb hts (fun _ h => List.mem_cons_of_mem _ (List.mem_append_right _ h)) hown hK hW 0 0 rfl rfl rfl 0 (by decide) (hts _ (List.mem_of_getElem? (i := 1) rfl)) rfl dX5_allFlung_6 ?_
      refine lv_bipush (v := nI 6) hx hb dX5_allFlung_9 (by decide +kernel) ?_
      refine sg_ild (v := nI (G 48)) hx hb hK hW 1 0 0 rfl rfl rfl (by decide) (by decide) rfl dX5_allFlung_11 ?_
      refine nn_cge (tgt := 30) hx hb dX5_allFlung_12 (by decide) (by omega) (by omega) (fun c12 => ?_) (fun c12 => ?_)
      · refine lv_iload_n hx hb dX5_allFlung_30 rfl (lv_at hl 1 rfl) ?_
        exact rt_i hQ hx hb hr hlocks hW dX5_allFlung_31 () (by rw [show i = G 48 by omega]; rfl) trivial rfl
      · refine lv_iload_n hx hb dX5_allFlung_15 rfl (lv_at hl 1 rfl) ?_
        refine lv_aload_n hx hb dX5_allFlung_16 rfl (lv_at hl 2 rfl) ?_
        refine lv_iload_n hx hb dX5_allFlung_17 rfl (lv_at hl 0 rfl) ?_
        refine lv_iconst (v := nI 2) hx hb dX5_allFlung_18 (by decide +kernel) ?_
        refine cl_Vi (As := [.int (nI i), .int (nI 2)]) (rest := [.int (nI (sumN (fun i => G (8 * i + 7)) i))]) (C := RX5) ⟨hx, hb, hml, hown, hts⟩ (M_X5_about l D cI cJ mo R G i 2 7 (by omega) (by decide) rfl) (cwV 2 hts gX5_allFlung_X5_about rfl rfl rfl qX5_about ⟨Nat.le_of_ble_eq_true rfl, Nat.le_of_ble_eq_true rfl⟩) E0_good hK hA hW trivial [true, true] (fun _ => [mH mo R, mR cI (mo 1) G]) rfl (fun _ => rfl) (fun _ => rfl) 0 0 rfl rfl rfl rfl hl.1 rfl (lv_room (Nat.le_of_ble_eq_true rfl)) dX5_allFlung_19 ⟨Nat.zero_le _, Nat.zero_le _⟩ (fun _ H locs _ hW => ?_)
        refine nn_add hx hb dX5_allFlung_22 ?_
        refine lv_istore_n (lv' := [(1, .int (nI ((sumN (fun i => G (8 * i + 7)) i) + (G (8 * i + 7))))), (2, .int (nI i)), (0, .ref (mo 0))]) hx hb dX5_allFlung_23 rfl hl (by decide) rfl (fun ls hl => ?_)
        refine lv_iinc (v := nI (i + 1)) (lv' := [(2, .int (nI (i + 1))), (1, .int (nI ((sumN (fun i => G (8 * i + 7)) i) + (G (8 * i + 7))))), (0, .ref (mo 0))]) hx hb dX5_allFlung_24 hl (k := 1) rfl (nI_add _ 1) (by decide) rfl (fun ls hl => ?_)
        refine lv_goto (tgt := 4) hx hb dX5_allFlung_27 (by decide) ?_
        exact ih (i + 1) (by omega) (by omega) _ _ hW _ (lv_sub hl [0, 1, 2] rfl)
  exact lp4 (G 48 - 0 + 1) 0 (Nat.lt_succ_self _) (by omega) _ _ hW _ (lv_sub hl [0, 1, 2] rfl)
abbrev rmX5_pushWith : Room := { frames := 5, cells := 0, slots := 0, locals := 112 }
set_option maxRecDepth 100000 in
set_option maxHeartbeats 4000000 in
theorem M_X5_pushWith (l : Launch) (D : va_G) (cI cJ : ClassId) (mo R G Wa : Nat → Nat) (b : Nat) (hb30 : b < 2 ^ 30) (hG : OkG b G) (t : Nat) (ht : t < 256) : CE E0 l D vwCl [(cI, .int), (cJ, .long)] yX5_pushWith wsX5_pushWith rmX5_pushWith [.ref (mo 0), .int (nI t)] [mH mo R, mR cI (mo 1) G, mR cI (mo 3) Wa] (S := Unit) (some (.int (nI (pushN (comeG G t))))) (fun _ => True) (fun _ : Unit => [mH mo R, mR cI (mo 1) Wa, mR cI (mo 3) Wa]) 0 0 := by
  refine CE.ofW (cc := cX5_pushWith) (maxL := 4) (ret := (some .int)) (lv := [(0, .ref (mo 0)), (1, .int (nI t))]) (by decide) rfl (Nat.le_of_ble_eq_true rfl) rfl ?_
  intro p e s m args below meth c ls A Q hQ hx hb hml hr hlocks hnm hown hts hK hA hE hW hl
  have hown : s.vm.findClass RX5 = some m.cls := hown
  obtain ⟨hg0, hg8, hg16, hg16b, hg24, hg32, hg40, hg48⟩ := hG.s
  refine lv_iconst (v := nI 0) hx hb dX5_pushWith_0 (by decide +kernel) ?_
  refine lv_istore_n (lv' := [(2, .int (nI 0)), (0, .ref (mo 0)), (1, .int (nI t))]) hx hb dX5_pushWith_1 rfl hl (by decide) rfl (fun ls hl => ?_)
  have lp2 : ∀ (n : Nat) (i : Nat), G 40 - i < n → i ≤ G 40 → ∀ (H : Heap) (locs : List Loc), Wo D vwCl A s.heap H locs [mH mo R, mR cI (mo 1) (comeTo G t i), mR cI (mo 3) Wa] → ∀ ls : Array Slot, lv_has ls 4 [(2, .int (nI i)), (0, .ref (mo 0)), (1, .int (nI t))] → W p l e rmX5_pushWith s m args below meth c H locs 0 0 Q (F0 m 2 ls []) := by
    intro n
    induction n with
    | zero => intro i hm; exact absurd hm (Nat.not_lt_zero _)
    | succ n ih =>
      intro i hm hi H locs hW ls hl
      have hT := comeTo_ok hG t i
      have h40 := comeTo_keep G t 40 (by decide) (by decide) i
      refine lv_iload_n hx hb dX5_pushWith_2 rfl (lv_at hl 0 rfl) ?_
      refine lv_aload_n hx hb dX5_pushWith_3 rfl (lv_at hl 1 rfl) ?_
      refine sg_get (ci := 4) (C := RX5) (T := TX5) (N := 15) (v := .ref (mo 1)) hx hb hts (fun _ h => List.mem_cons_of_mem _ (List.mem_append_right _ h)) hown hK hW 0 0 rfl rfl rfl 0 (by decide) (hts _ (List.mem_of_getElem? (i := 1) rfl)) rfl dX5_pushWith_4 ?_
      refine lv_iconst (v := nI 5) hx hb dX5_pushWith_7 (by decide +kernel) ?_
      refine sg_ild (v := nI ((comeTo G t i) 40)) hx hb hK hW 1 0 0 rfl rfl rfl (by decide) (by decide) rfl dX5_pushWith_8 ?_
      refine nn_cge (tgt := 34) hx hb dX5_pushWith_9 (by decide) (by omega) (by omega) (fun c9 => ?_) (fun c9 => ?_)
      · have hi40 : i = G 40 := by omega
        have hps : pushN (comeTo G t i) = pushN (comeG G t) := by rw [hi40]; rfl
        refine lv_aload_n hx hb dX5_pushWith_34 rfl (lv_at hl 1 rfl) ?_
        refine cl_Vi (As := []) (rest := []) (C := RX5) ⟨hx, hb, hml, hown, hts⟩ (M_X5_push l D cI cJ mo R (comeTo G t i) b hb30 hT ) (cwV 0 hts gX5_pushWith_X5_push rfl rfl rfl qX5_push ⟨Nat.le_of_ble_eq_true rfl, Nat.le_of_ble_eq_true rfl⟩) E0_good hK hA hW trivial [true, true] (fun _ => [mH mo R, mR cI (mo 1) (comeTo G t i), mR cI (mo 3) Wa]) rfl (fun _ => rfl) (fun _ => rfl) 0 0 rfl rfl rfl rfl hl.1 rfl (lv_room (Nat.le_of_ble_eq_true rfl)) dX5_pushWith_35 ⟨Nat.zero_le _, Nat.zero_le _⟩ (fun _ H locs _ hW => ?_)
        refine lv_istore_n (lv' := [(2, .int (nI (pushN (comeTo G t i)))), (0, .ref (mo 0)), (1, .int (nI t))]) hx hb dX5_pushWith_38 rfl hl (by decide) rfl (fun ls hl => ?_)
        refine lv_aload_n hx hb dX5_pushWith_39 rfl (lv_at hl 1 rfl) ?_
        refine cl_Vv (As := []) (rest := []) (C := RX5) ⟨hx, hb, hml, hown, hts⟩ (M_X5_putsBack l D cI cJ mo R (comeTo G t i) Wa ) (cwV 0 hts gX5_pushWith_X5_putsBack rfl rfl rfl qX5_putsBack ⟨Nat.le_of_ble_eq_true rfl, Nat.le_of_ble_eq_true rfl⟩) E0_good hK hA hW trivial [true, true, true] (fun _ => [mH mo R, mR cI (mo 1) Wa, mR cI (mo 3) Wa]) rfl (fun _ => rfl) (fun _ => rfl) 0 0 rfl rfl rfl rfl hl.1 rfl (lv_room (Nat.le_of_ble_eq_true rfl)) dX5_pushWith_40 ⟨Nat.zero_le _, Nat.zero_le _⟩ (fun _ H locs _ hW => ?_)
        refine lv_iload_n hx hb dX5_pushWith_43 rfl (lv_at hl 0 rfl) ?_
        exact rt_i hQ hx hb hr hlocks hW dX5_pushWith_44 () (by rw [hps]) trivial rfl
      · refine lv_iload_n hx hb dX5_pushWith_12 rfl (lv_at hl 2 rfl) ?_
        refine lv_iload_n hx hb dX5_pushWith_13 rfl (lv_at hl 0 rfl) ?_
        refine nn_shr hx hb dX5_pushWith_14 (by omega) (by omega) ?_
        refine lv_iconst (v := nI 1) hx hb dX5_pushWith_15 (by decide +kernel) ?_
        refine nn_and hx hb dX5_pushWith_16 ?_
        refine W.top (v' := .int (nI (t / 2 ^ i % 2))) (by rw [Nat.and_one_is_mod]) ?_
        refine lv_iconst (v := nI 1) hx hb dX5_pushWith_17 (by decide +kernel) ?_
        refine nn_cne (tgt := 28) hx hb dX5_pushWith_18 (by decide) (by omega) (by decide) (fun c18 => ?_) (fun c18 => ?_)
        · refine lv_iinc (v := nI (i + 1)) (lv' := [(2, .int (nI (i + 1))), (0, .ref (mo 0)), (1, .int (nI t))]) hx hb dX5_pushWith_28 hl (k := 0) rfl (nI_add _ 1) (by decide) rfl (fun ls hl => ?_)
          refine lv_goto (tgt := 2) hx hb dX5_pushWith_31 (by decide) ?_
          have hW := hW.to (ss' := [mH mo R, mR cI (mo 1) (comeTo G t (i + 1)), mR cI (mo 3) Wa]) (by simp only [comeTo]; (repeat' split) <;> first | rfl | (exfalso; omega))
          exact ih (i + 1) (by omega) (by omega) _ _ hW _ (lv_sub hl [0, 1, 2] rfl)
        · refine lv_aload_n hx hb dX5_pushWith_21 rfl (lv_at hl 1 rfl) ?_
          refine lv_iload_n hx hb dX5_pushWith_22 rfl (lv_at hl 0 rfl) ?_
          refine lv_iconst (v := nI 1) hx hb dX5_pushWith_23 (by decide +kernel) ?_
          refine cl_Vi (As := [.int (nI i), .int (nI 1)]) (rest := []) (C := RX5) ⟨hx, hb, hml, hown, hts⟩ (M_X5_moves l D cI cJ mo R (comeTo G t i) b hb30 hT i 1 (by omega)) (cwV 2 hts gX5_pushWith_X5_moves rfl rfl rfl qX5_moves ⟨Nat.le_of_ble_eq_true rfl, Nat.le_of_ble_eq_true rfl⟩) E0_good hK hA hW trivial [true, true] (fun _ => [mH mo R, mR cI (mo 1) (moveM (comeTo G t i) i 1), mR cI (mo 3) Wa]) rfl (fun _ => rfl) (fun _ => rfl) 0 0 rfl rfl rfl rfl hl.1 rfl (lv_room (Nat.le_of_ble_eq_true rfl)) dX5_pushWith_24 ⟨Nat.zero_le _, Nat.zero_le _⟩ (fun _ H locs _ hW => ?_)
          refine lv_istore_n (lv' := [(3, .int (nI ((comeTo G t i) (8 * i + 2)))), (2, .int (nI i)), (0, .ref (mo 0)), (1, .int (nI t))]) hx hb dX5_pushWith_27 rfl hl (by decide) rfl (fun ls hl => ?_)
          refine lv_iinc (v := nI (i + 1)) (lv' := [(2, .int (nI (i + 1))), (3, .int (nI ((comeTo G t i) (8 * i + 2)))), (0, .ref (mo 0)), (1, .int (nI t))]) hx hb dX5_pushWith_28 hl (k := 1) rfl (nI_add _ 1) (by decide) rfl (fun ls hl => ?_)
          refine lv_goto (tgt := 2) hx hb dX5_pushWith_31 (by decide) ?_
          have hW := hW.to (ss' := [mH mo R, mR cI (mo 1) (comeTo G t (i + 1)), mR cI (mo 3) Wa]) (by simp only [comeTo]; (repeat' split) <;> first | rfl | (exfalso; omega))
          exact ih (i + 1) (by omega) (by omega) _ _ hW _ (lv_sub hl [0, 2, 3] rfl)
  have hW := hW.to (ss' := [mH mo R, mR cI (mo 1) (comeTo G t 0), mR cI (mo 3) Wa]) rfl
  exact lp2 (G 40 - 0 + 1) 0 (Nat.lt_succ_self _) (by omega) _ _ hW _ (lv_sub hl [0, 1, 2] rfl)
def fnd (F : Nat → Nat) (w : Nat) : Nat → Nat := up F w (F w + 1)
def orV (o : Nat) : Int32 := if o = 0 then -1000000004 else nI (o - 1)
def orF (F : Nat → Nat) (o : Nat) : Nat → Nat := if o = 0 then fnd F 3 else F
theorem bst_toInt {o : Nat} (h : o < 2 ^ 31) : (bst o).toInt = (o : Int) - 1 := by
  unfold bst
  split
  · subst_vars; decide +kernel
  · rw [nI_toInt (by omega)]; omega
abbrev rmX5_orNone : Room := { frames := 1, cells := 0, slots := 0, locals := 21 }
set_option maxRecDepth 100000 in
set_option maxHeartbeats 4000000 in
theorem M_X5_orNone (l : Launch) (D : va_G) (cI cJ : ClassId) (mo R F : Nat → Nat) (o : Nat) (ho : o < 1000000) : CE E0 l D vwCl [(cI, .int), (cJ, .long)] yX5_orNone wsX5_orNone rmX5_orNone [.ref (mo 0), .int (bst o)] [mH mo R, aI cI (mo 4) 7 F] (S := Unit) (some (.int (orV o))) (fun _ => True) (fun _ : Unit => [mH mo R, aI cI (mo 4) 7 (orF F o)]) 0 0 := by
  refine CE.ofW (cc := cX5_orNone) (maxL := 2) (ret := (some .int)) (lv := [(0, .ref (mo 0)), (1, .int (bst o))]) (by decide) rfl (Nat.le_of_ble_eq_true rfl) rfl ?_
  intro p e s m args below meth c ls A Q hQ hx hb hml hr hlocks hnm hown hts hK hA hE hW hl
  have hown : s.vm.findClass RX5 = some m.cls := hown
  refine lv_iload_n hx hb dX5_orNone_0 rfl (lv_at hl 1 rfl) ?_
  refine zz_zge (tgt := 13) hx hb dX5_orNone_1 (by decide) (bst_toInt (o := o) (by omega)) (fun c1 => ?_) (fun c1 => ?_)
  · refine lv_iload_n hx hb dX5_orNone_13 rfl (lv_at hl 1 rfl) ?_
    exact rt_i hQ hx hb hr hlocks hW dX5_orNone_14 () (by unfold orV; (try unfold bst); (repeat' split) <;> first | rfl | (exfalso; omega)) trivial (by unfold orF; (repeat' split) <;> first | rfl | (exfalso; omega))
  · refine lv_aload_n hx hb dX5_orNone_4 rfl (lv_at hl 0 rfl) ?_
    refine lv_ldc (v := -1000000004) hx hb hown (hts _ (List.mem_of_getElem? (i := 1) rfl)) dX5_orNone_5 ?_
    refine cl_Vi (As := [.int (-1000000004)]) (rest := []) (C := RX5) ⟨hx, hb, hml, hown, hts⟩ (M_X5_finds l D cI cJ mo R F 3 (by decide) (-1000000004) (by decide +kernel)) (cwV 1 hts gX5_orNone_X5_finds rfl rfl rfl qX5_finds ⟨Nat.le_of_ble_eq_true rfl, Nat.le_of_ble_eq_true rfl⟩) E0_good hK hA hW trivial [true, true] (fun _ => [mH mo R, aI cI (mo 4) 7 (up F 3 (F 3 + 1))]) rfl (fun _ => rfl) (fun _ => rfl) 0 0 rfl rfl rfl rfl hl.1 rfl (lv_room (Nat.le_of_ble_eq_true rfl)) dX5_orNone_7 ⟨Nat.zero_le _, Nat.zero_le _⟩ (fun _ H locs _ hW => ?_)
    refine lv_goto (tgt := 14) hx hb dX5_orNone_10 (by decide) ?_
    exact rt_i hQ hx hb hr hlocks hW dX5_orNone_14 () (by unfold orV; (try unfold bst); (repeat' split) <;> first | rfl | (exfalso; omega)) trivial (by unfold orF; (repeat' split) <;> first | rfl | (exfalso; omega))
