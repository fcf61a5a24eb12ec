theorem qX4_tell : yX4_tell.cls = RX4 ∧ yX4_tell.cls ≠ "java/lang/invoke/MethodHandle" ∧ yX4_tell.cls ≠ "java/lang/invoke/VarHandle" ∧ (parseMethodDescriptor yX4_tell.desc).map (fun d => d.parameters.length) = some 1 := by decide +kernel
theorem qX0_outSet : yX0_outSet.cls = RX0 ∧ yX0_outSet.cls ≠ "java/lang/invoke/MethodHandle" ∧ yX0_outSet.cls ≠ "java/lang/invoke/VarHandle" ∧ (parseMethodDescriptor yX0_outSet.desc).map (fun d => d.parameters.length) = some 0 := by decide +kernel
theorem qX0_onSet : yX0_onSet.cls = RX0 ∧ yX0_onSet.cls ≠ "java/lang/invoke/MethodHandle" ∧ yX0_onSet.cls ≠ "java/lang/invoke/VarHandle" ∧ (parseMethodDescriptor yX0_onSet.desc).map (fun d => d.parameters.length) = some 0 := by decide +kernel
theorem qX1_isKind : yX1_isKind.cls ≠ "java/lang/invoke/MethodHandle" ∧ yX1_isKind.cls ≠ "java/lang/invoke/VarHandle" ∧ (parseMethodDescriptor yX1_isKind.desc).map (fun d => d.parameters.length) = some 1 := by decide +kernel
theorem qX0_addMother : yX0_addMother.cls = RX0 ∧ yX0_addMother.cls ≠ "java/lang/invoke/MethodHandle" ∧ yX0_addMother.cls ≠ "java/lang/invoke/VarHandle" ∧ (parseMethodDescriptor yX0_addMother.desc).map (fun d => d.parameters.length) = some 3 := by decide +kernel
theorem qX0_hasMother : yX0_hasMother.cls = RX0 ∧ yX0_hasMother.cls ≠ "java/lang/invoke/MethodHandle" ∧ yX0_hasMother.cls ≠ "java/lang/invoke/VarHandle" ∧ (parseMethodDescriptor yX0_hasMother.desc).map (fun d => d.parameters.length) = some 1 := by decide +kernel
theorem qX0_moveMother : yX0_moveMother.cls = RX0 ∧ yX0_moveMother.cls ≠ "java/lang/invoke/MethodHandle" ∧ yX0_moveMother.cls ≠ "java/lang/invoke/VarHandle" ∧ (parseMethodDescriptor yX0_moveMother.desc).map (fun d => d.parameters.length) = some 2 := by decide +kernel
theorem qX1_isUnder : yX1_isUnder.cls ≠ "java/lang/invoke/MethodHandle" ∧ yX1_isUnder.cls ≠ "java/lang/invoke/VarHandle" ∧ (parseMethodDescriptor yX1_isUnder.desc).map (fun d => d.parameters.length) = some 2 := by decide +kernel
theorem qX0_addChild : yX0_addChild.cls = RX0 ∧ yX0_addChild.cls ≠ "java/lang/invoke/MethodHandle" ∧ yX0_addChild.cls ≠ "java/lang/invoke/VarHandle" ∧ (parseMethodDescriptor yX0_addChild.desc).map (fun d => d.parameters.length) = some 2 := by decide +kernel
theorem qX0_hasChild : yX0_hasChild.cls = RX0 ∧ yX0_hasChild.cls ≠ "java/lang/invoke/MethodHandle" ∧ yX0_hasChild.cls ≠ "java/lang/invoke/VarHandle" ∧ (parseMethodDescriptor yX0_hasChild.desc).map (fun d => d.parameters.length) = some 1 := by decide +kernel
theorem qX0_passMinutes : yX0_passMinutes.cls = RX0 ∧ yX0_passMinutes.cls ≠ "java/lang/invoke/MethodHandle" ∧ yX0_passMinutes.cls ≠ "java/lang/invoke/VarHandle" ∧ (parseMethodDescriptor yX0_passMinutes.desc).map (fun d => d.parameters.length) = some 1 := by decide +kernel
abbrev rmX4_tell : Room := { frames := 0, cells := 0, slots := 0, locals := 0 }
set_option maxRecDepth 100000 in
set_option maxHeartbeats 4000000 in
theorem M_X4_tell (l : Launch) (D : va_G) (cI cJ : ClassId) (x fi ik : Nat) (la ta ka tp sh : Nat → Nat) (F : Nat → Nat) (w : Nat) (hw : w < 7) (f : Int32) (hf : (-1000000001) - f = nI w) : CE E0 l D vwCl [(cI, .int), (cJ, .long)] yX4_tell wsX4_tell rmX4_tell [.ref x, .int f] [xH x la ta ka tp sh fi ik, aI cI fi 7 F] (S := Unit) (some (.int f)) (fun _ => True) (fun _ : Unit => [xH x la ta ka tp sh fi ik, aI cI fi 7 (up F w (F w + 1))]) 0 0 := by
  refine CE.ofW (cc := cX4_tell) (maxL := 3) (ret := (some .int)) (lv := [(0, .ref x), (1, .int f)]) (by decide) rfl (Nat.le_of_ble_eq_true rfl) rfl ?_
  intro p e s m args below meth c ls A Q hQ hx hb hml hr hlocks hnm hown hts hK hA hE hW hl
  have hown : s.vm.findClass RX4 = some m.cls := hown
  refine lv_ldc (v := -1000000001) hx hb hown (hts _ (List.mem_of_getElem? (i := 1) rfl)) dX4_tell_0 ?_
  refine lv_iload_n hx hb dX4_tell_2 rfl (lv_at hl 1 rfl) ?_
  refine lv_isub hx hb dX4_tell_3 ?_
  refine W.top (v' := .int (nI w)) (congrArg Value.int hf) ?_
  refine lv_istore_n (lv' := [(2, .int (nI w)), (0, .ref x), (1, .int f)]) hx hb dX4_tell_4 rfl hl (by decide) rfl (fun ls hl => ?_)
  refine lv_iload_n hx hb dX4_tell_5 rfl (lv_at hl 0 rfl) ?_
  refine nn_zlt (tgt := 25) hx hb dX4_tell_6 (by decide) (by omega) (fun c6 => ?_) (fun c6 => ?_)
  · exfalso; omega
  · refine lv_iload_n hx hb dX4_tell_9 rfl (lv_at hl 0 rfl) ?_
    refine lv_bipush (v := nI 7) hx hb dX4_tell_10 (by decide +kernel) ?_
    refine nn_cge (tgt := 25) hx hb dX4_tell_12 (by decide) (by omega) (by decide) (fun c12 => ?_) (fun c12 => ?_)
    · exfalso; omega
    · refine lv_aload_n hx hb dX4_tell_15 rfl (lv_at hl 1 rfl) ?_
      refine sg_get (ci := 3) (C := RX4) (T := TX4) (N := 7) (v := .ref fi) hx hb hts (fun _ h => List.mem_cons_of_mem _ (List.mem_append_right _ h)) hown hK hW 0 0 rfl rfl rfl 6 (by decide) (hts _ (List.mem_of_getElem? (i := 2) rfl)) rfl dX4_tell_16 ?_
      refine lv_iload_n hx hb dX4_tell_19 rfl (lv_at hl 0 rfl) ?_
      refine lv_dup2_11 hx hb dX4_tell_20 rfl rfl ?_
      refine sg_ild (v := nI (F w)) hx hb hK hW 1 0 0 rfl rfl rfl (by omega) (by decide) rfl dX4_tell_21 ?_
      refine lv_iconst (v := nI 1) hx hb dX4_tell_22 (by decide +kernel) ?_
      refine nn_add hx hb dX4_tell_23 ?_
      refine sg_ist hx hb hK hW 1 0 0 rfl rfl rfl (by omega) (by decide) (aI_set cI fi 7 F w ((F w) + 1)) (ss' := [xH x la ta ka tp sh fi ik, aI cI fi 7 (up F w ((F w) + 1))]) rfl dX4_tell_24 (fun H locs hW => ?_)
      refine lv_iload_n hx hb dX4_tell_25 rfl (lv_at hl 2 rfl) ?_
      exact rt_i hQ hx hb hr hlocks hW dX4_tell_26 () rfl trivial rfl
abbrev rmX4_isNear : Room := { frames := 0, cells := 0, slots := 0, locals := 0 }
set_option maxRecDepth 100000 in
set_option maxHeartbeats 4000000 in
theorem M_X4_isNear (l : Launch) (D : va_G) (cI cJ : ClassId) (v : Int32) : CE E0 l D vwCl [(cI, .int), (cJ, .long)] yX4_isNear wsX4_isNear rmX4_isNear [.int v] [] (S := Unit) (some (.int (nI (inZ v.toInt 1 60)))) (fun _ => True) (fun _ : Unit => []) 0 0 := by
  refine CE.ofW (cc := cX4_isNear) (maxL := 1) (ret := (some .boolean)) (lv := [(0, .int v)]) (by decide) rfl (Nat.le_of_ble_eq_true rfl) rfl ?_
  intro p e s m args below meth c ls A Q hQ hx hb hml hr hlocks hnm hown hts hK hA hE hW hl
  have hown : s.vm.findClass RX4 = some m.cls := hown
  refine lv_iload_n hx hb dX4_isNear_0 rfl (lv_at hl 0 rfl) ?_
  refine lv_iconst (v := nI 1) hx hb dX4_isNear_1 (by decide +kernel) ?_
  refine zz_clt (tgt := 15) hx hb dX4_isNear_2 (by decide) (rfl : v.toInt = v.toInt) (nI_toInt (n := 1) (by decide)) (fun c2 => ?_) (fun c2 => ?_)
  · refine lv_iconst (v := nI 0) hx hb dX4_isNear_15 (by decide +kernel) ?_
    exact rt_z hQ hx hb hr hlocks hW dX4_isNear_16 (by decide +kernel) () (by unfold inZ; (repeat' split) <;> first | rfl | (exfalso; omega) | (congr 3; omega)) trivial rfl
  · refine lv_iload_n hx hb dX4_isNear_5 rfl (lv_at hl 0 rfl) ?_
    refine lv_bipush (v := nI 60) hx hb dX4_isNear_6 (by decide +kernel) ?_
    refine zz_cgt (tgt := 15) hx hb dX4_isNear_8 (by decide) (rfl : v.toInt = v.toInt) (nI_toInt (n := 60) (by decide)) (fun c8 => ?_) (fun c8 => ?_)
    · refine lv_iconst (v := nI 0) hx hb dX4_isNear_15 (by decide +kernel) ?_
      exact rt_z hQ hx hb hr hlocks hW dX4_isNear_16 (by decide +kernel) () (by unfold inZ; (repeat' split) <;> first | rfl | (exfalso; omega) | (congr 3; omega)) trivial rfl
    · refine lv_iconst (v := nI 1) hx hb dX4_isNear_11 (by decide +kernel) ?_
      refine lv_goto (tgt := 16) hx hb dX4_isNear_12 (by decide) ?_
      exact rt_z hQ hx hb hr hlocks hW dX4_isNear_16 (by decide +kernel) () (by unfold inZ; (repeat' split) <;> first | rfl | (exfalso; omega) | (congr 3; omega)) trivial rfl
abbrev rmX4_iron : Room := { frames := 1, cells := 0, slots := 0, locals := 22 }
set_option maxRecDepth 100000 in
set_option maxHeartbeats 4000000 in
theorem M_X4_iron (l : Launch) (D : va_G) (cI cJ : ClassId) (x fi ik : Nat) (la ta ka tp sh : Nat → Nat) (G F : Nat → Nat) (hG : OkG 99999 G) (what v : Int32) : CE E0 l D vwCl [(cI, .int), (cJ, .long)] yX4_iron wsX4_iron rmX4_iron [.ref x, .int what, .int v] [xH x la ta ka tp sh fi ik, gW cI la G, aI cI fi 7 F] (S := Unit) (some (.int (ironV G what.toInt v.toInt))) (fun _ => True) (fun _ : Unit => [xH x la ta ka tp sh fi ik, gW cI la (ironG G what.toInt v.toInt), aI cI fi 7 (ironF F what.toInt v.toInt)]) 0 0 := by
  refine CE.ofW (cc := cX4_iron) (maxL := 4) (ret := (some .int)) (lv := [(0, .ref x), (1, .int what), (2, .int v)]) (by decide) rfl (Nat.le_of_ble_eq_true rfl) rfl ?_
  intro p e s m args below meth c ls A Q hQ hx hb hml hr hlocks hnm hown hts hK hA hE hW hl
  have hown : s.vm.findClass RX4 = some m.cls := hown
  obtain ⟨hg0, hg8, hg16, hg16b, hg24, hg32, hg40, hg48⟩ := hG.s
  refine lv_iload_n hx hb dX4_iron_0 rfl (lv_at hl 1 rfl) ?_
  refine zz_zne (tgt := 33) hx hb dX4_iron_1 (by decide) (rfl : what.toInt = what.toInt) (fun c1 => ?_) (fun c1 => ?_)
  · refine lv_iload_n hx hb dX4_iron_33 rfl (lv_at hl 1 rfl) ?_
    refine lv_iconst (v := nI 1) hx hb dX4_iron_34 (by decide +kernel) ?_
    refine zz_cne (tgt := 67) hx hb dX4_iron_35 (by decide) (rfl : what.toInt = what.toInt) (nI_toInt (n := 1) (by decide)) (fun c35 => ?_) (fun c35 => ?_)
    · refine lv_aload_n hx hb dX4_iron_67 rfl (lv_at hl 0 rfl) ?_
      refine lv_ldc (v := -1000000001) hx hb hown (hts _ (List.mem_of_getElem? (i := 4) rfl)) dX4_iron_68 ?_
      refine cl_Vi (As := [.int (-1000000001)]) (rest := []) (C := RX4) ⟨hx, hb, hml, hown, hts⟩ (M_X4_tell l D cI cJ x fi ik la ta ka tp sh F 0 (by decide) (-1000000001) (by decide +kernel)) (cwV 1 hts gX4_iron_X4_tell rfl rfl rfl qX4_tell ⟨Nat.le_of_ble_eq_true rfl, Nat.le_of_ble_eq_true rfl⟩) E0_good hK hA hW trivial [true, false, true] (fun _ => [xH x la ta ka tp sh fi ik, gW cI la G, aI cI fi 7 (up F 0 (F 0 + 1))]) rfl (fun _ => rfl) (fun _ => rfl) 0 0 rfl rfl rfl rfl hl.1 rfl (lv_room (Nat.le_of_ble_eq_true rfl)) dX4_iron_70 ⟨Nat.zero_le _, Nat.zero_le _⟩ (fun _ H locs _ hW => ?_)
      exact rt_i hQ hx hb hr hlocks hW dX4_iron_73 () (by (try simp only [ironV]); (repeat' split) <;> first | rfl | (exfalso; omega)) trivial (by (try simp only [ironG, ironF]); (repeat' split) <;> first | rfl | (exfalso; omega))
    · refine lv_iload_n hx hb dX4_iron_38 rfl (lv_at hl 2 rfl) ?_
      refine zz_zlt (tgt := 67) hx hb dX4_iron_39 (by decide) (rfl : v.toInt = v.toInt) (fun c39 => ?_) (fun c39 => ?_)
      · refine lv_aload_n hx hb dX4_iron_67 rfl (lv_at hl 0 rfl) ?_
        refine lv_ldc (v := -1000000001) hx hb hown (hts _ (List.mem_of_getElem? (i := 4) rfl)) dX4_iron_68 ?_
        refine cl_Vi (As := [.int (-1000000001)]) (rest := []) (C := RX4) ⟨hx, hb, hml, hown, hts⟩ (M_X4_tell l D cI cJ x fi ik la ta ka tp sh F 0 (by decide) (-1000000001) (by decide +kernel)) (cwV 1 hts gX4_iron_X4_tell rfl rfl rfl qX4_tell ⟨Nat.le_of_ble_eq_true rfl, Nat.le_of_ble_eq_true rfl⟩) E0_good hK hA hW trivial [true, false, true] (fun _ => [xH x la ta ka tp sh fi ik, gW cI la G, aI cI fi 7 (up F 0 (F 0 + 1))]) rfl (fun _ => rfl) (fun _ => rfl) 0 0 rfl rfl rfl rfl hl.1 rfl (lv_room (Nat.le_of_ble_eq_true rfl)) dX4_iron_70 ⟨Nat.zero_le _, Nat.zero_le _⟩ (fun _ H locs _ hW => ?_)
        exact rt_i hQ hx hb hr hlocks hW dX4_iron_73 () (by (try simp only [ironV]); (repeat' split) <;> first | rfl | (exfalso; omega)) trivial (by (try simp only [ironG, ironF]); (repeat' split) <;> first | rfl | (exfalso; omega))
      · refine lv_iload_n hx hb dX4_iron_42 rfl (lv_at hl 2 rfl) ?_
        refine lv_sipush (v := nI 200) hx hb dX4_iron_43 (by decide +kernel) ?_
        refine zz_cgt (tgt := 67) hx hb dX4_iron_46 (by decide) (rfl : v.toInt = v.toInt) (nI_toInt (n := 200) (by decide)) (fun c46 => ?_) (fun c46 => ?_)
        · refine lv_aload_n hx hb dX4_iron_67 rfl (lv_at hl 0 rfl) ?_
          refine lv_ldc (v := -1000000001) hx hb hown (hts _ (List.mem_of_getElem? (i := 4) rfl)) dX4_iron_68 ?_
          refine cl_Vi (As := [.int (-1000000001)]) (rest := []) (C := RX4) ⟨hx, hb, hml, hown, hts⟩ (M_X4_tell l D cI cJ x fi ik la ta ka tp sh F 0 (by decide) (-1000000001) (by decide +kernel)) (cwV 1 hts gX4_iron_X4_tell rfl rfl rfl qX4_tell ⟨Nat.le_of_ble_eq_true rfl, Nat.le_of_ble_eq_true rfl⟩) E0_good hK hA hW trivial [true, false, true] (fun _ => [xH x la ta ka tp sh fi ik, gW cI la G, aI cI fi 7 (up F 0 (F 0 + 1))]) rfl (fun _ => rfl) (fun _ => rfl) 0 0 rfl rfl rfl rfl hl.1 rfl (lv_room (Nat.le_of_ble_eq_true rfl)) dX4_iron_70 ⟨Nat.zero_le _, Nat.zero_le _⟩ (fun _ H locs _ hW => ?_)
          exact rt_i hQ hx hb hr hlocks hW dX4_iron_73 () (by (try simp only [ironV]); (repeat' split) <;> first | rfl | (exfalso; omega)) trivial (by (try simp only [ironG, ironF]); (repeat' split) <;> first | rfl | (exfalso; omega))
        · obtain ⟨j, hj, ej⟩ : ∃ j : Nat, v = nI j ∧ v.toInt = (j : Int) := ⟨v.toInt.toNat, nI_ofZ rfl (by omega), by omega⟩
          rw [hj] at hl
          refine lv_aload_n hx hb dX4_iron_49 rfl (lv_at hl 0 rfl) ?_
          refine sg_get (ci := 3) (C := RX4) (T := TX4) (N := 7) (v := .ref (la 0)) hx hb hts (fun _ h => List.mem_cons_of_mem _ (List.mem_append_left _ (List.mem_append_right _ h))) hown hK hW 0 0 rfl rfl rfl 0 (by decide) (hts _ (List.mem_of_getElem? (i := 1) rfl)) rfl dX4_iron_50 ?_
          refine sg_get (ci := 0) (C := RX0) (T := TX0) (N := 14) (v := .int (nI (G 24))) hx hb hts (fun _ h => List.mem_cons_of_mem _ (List.mem_append_right _ h)) hown hK hW 1 0 rfl rfl rfl 3 (by decide) (hts _ (List.mem_of_getElem? (i := 3) rfl)) rfl dX4_iron_53 ?_
          refine lv_istore_n (lv' := [(3, .int (nI (G 24))), (0, .ref x), (1, .int what), (2, .int (nI j))]) hx hb dX4_iron_56 rfl hl (by decide) rfl (fun ls hl => ?_)
          refine lv_aload_n hx hb dX4_iron_57 rfl (lv_at hl 1 rfl) ?_
          refine sg_get (ci := 3) (C := RX4) (T := TX4) (N := 7) (v := .ref (la 0)) hx hb hts (fun _ h => List.mem_cons_of_mem _ (List.mem_append_left _ (List.mem_append_right _ h))) hown hK hW 0 0 rfl rfl rfl 0 (by decide) (hts _ (List.mem_of_getElem? (i := 1) rfl)) rfl dX4_iron_58 ?_
          refine lv_iload_n hx hb dX4_iron_61 rfl (lv_at hl 3 rfl) ?_
          refine sg_put (ci := 0) (C := RX0) (T := TX0) (N := 14) hx hb hts (fun _ h => List.mem_cons_of_mem _ (List.mem_append_right _ h)) tyX0 tyX0_ok nmX0 hown hK hW 1 0 rfl rfl rfl 3 (by decide) (hts _ (List.mem_of_getElem? (i := 3) rfl)) rfl rfl rfl (Nat.le_of_ble_eq_true rfl) (gW_s24 cI la G j) (ss' := [xH x la ta ka tp sh fi ik, gW cI la (up G 24 j), aI cI fi 7 F]) rfl dX4_iron_62 (fun H locs hW => ?_)
          refine lv_iload_n hx hb dX4_iron_65 rfl (lv_at hl 0 rfl) ?_
          exact rt_i hQ hx hb hr hlocks hW dX4_iron_66 () (by (try simp only [ironV, ej, Int.toNat_natCast]); (repeat' split) <;> first | rfl | (exfalso; omega)) trivial (by (try simp only [ironG, ironF, ej, Int.toNat_natCast]); (repeat' split) <;> first | rfl | (exfalso; omega))
  · refine lv_iload_n hx hb dX4_iron_4 rfl (lv_at hl 2 rfl) ?_
    refine lv_iconst (v := nI 1) hx hb dX4_iron_5 (by decide +kernel) ?_
    refine zz_clt (tgt := 33) hx hb dX4_iron_6 (by decide) (rfl : v.toInt = v.toInt) (nI_toInt (n := 1) (by decide)) (fun c6 => ?_) (fun c6 => ?_)
    · refine lv_iload_n hx hb dX4_iron_33 rfl (lv_at hl 1 rfl) ?_
      refine lv_iconst (v := nI 1) hx hb dX4_iron_34 (by decide +kernel) ?_
      refine zz_cne (tgt := 67) hx hb dX4_iron_35 (by decide) (rfl : what.toInt = what.toInt) (nI_toInt (n := 1) (by decide)) (fun c35_1 => ?_) (fun c35_1 => ?_)
      · refine lv_aload_n hx hb dX4_iron_67 rfl (lv_at hl 0 rfl) ?_
        refine lv_ldc (v := -1000000001) hx hb hown (hts _ (List.mem_of_getElem? (i := 4) rfl)) dX4_iron_68 ?_
        refine cl_Vi (As := [.int (-1000000001)]) (rest := []) (C := RX4) ⟨hx, hb, hml, hown, hts⟩ (M_X4_tell l D cI cJ x fi ik la ta ka tp sh F 0 (by decide) (-1000000001) (by decide +kernel)) (cwV 1 hts gX4_iron_X4_tell rfl rfl rfl qX4_tell ⟨Nat.le_of_ble_eq_true rfl, Nat.le_of_ble_eq_true rfl⟩) E0_good hK hA hW trivial [true, false, true] (fun _ => [xH x la ta ka tp sh fi ik, gW cI la G, aI cI fi 7 (up F 0 (F 0 + 1))]) rfl (fun _ => rfl) (fun _ => rfl) 0 0 rfl rfl rfl rfl hl.1 rfl (lv_room (Nat.le_of_ble_eq_true rfl)) dX4_iron_70 ⟨Nat.zero_le _, Nat.zero_le _⟩ (fun _ H locs _ hW => ?_)
        exact rt_i hQ hx hb hr hlocks hW dX4_iron_73 () (by (try simp only [ironV]); (repeat' split) <;> first | rfl | (exfalso; omega)) trivial (by (try simp only [ironG, ironF]); (repeat' split) <;> first | rfl | (exfalso; omega))
      · refine lv_iload_n hx hb dX4_iron_38 rfl (lv_at hl 2 rfl) ?_
        refine zz_zlt (tgt := 67) hx hb dX4_iron_39 (by decide) (rfl : v.toInt = v.toInt) (fun c39_1 => ?_) (fun c39_1 => ?_)
        · refine lv_aload_n hx hb dX4_iron_67 rfl (lv_at hl 0 rfl) ?_
          refine lv_ldc (v := -1000000001) hx hb hown (hts _ (List.mem_of_getElem? (i := 4) rfl)) dX4_iron_68 ?_
          refine cl_Vi (As := [.int (-1000000001)]) (rest := []) (C := RX4) ⟨hx, hb, hml, hown, hts⟩ (M_X4_tell l D cI cJ x fi ik la ta ka tp sh F 0 (by decide) (-1000000001) (by decide +kernel)) (cwV 1 hts gX4_iron_X4_tell rfl rfl rfl qX4_tell ⟨Nat.le_of_ble_eq_true rfl, Nat.le_of_ble_eq_true rfl⟩) E0_good hK hA hW trivial [true, false, true] (fun _ => [xH x la ta ka tp sh fi ik, gW cI la G, aI cI fi 7 (up F 0 (F 0 + 1))]) rfl (fun _ => rfl) (fun _ => rfl) 0 0 rfl rfl rfl rfl hl.1 rfl (lv_room (Nat.le_of_ble_eq_true rfl)) dX4_iron_70 ⟨Nat.zero_le _, Nat.zero_le _⟩ (fun _ H locs _ hW => ?_)
          exact rt_i hQ hx hb hr hlocks hW dX4_iron_73 () (by (try simp only [ironV]); (repeat' split) <;> first | rfl | (exfalso; omega)) trivial (by (try simp only [ironG, ironF]); (repeat' split) <;> first | rfl | (exfalso; omega))
        · refine lv_iload_n hx hb dX4_iron_42 rfl (lv_at hl 2 rfl) ?_
          refine lv_sipush (v := nI 200) hx hb dX4_iron_43 (by decide +kernel) ?_
          refine zz_cgt (tgt := 67) hx hb dX4_iron_46 (by decide) (rfl : v.toInt = v.toInt) (nI_toInt (n := 200) (by decide)) (fun c46_1 => ?_) (fun c46_1 => ?_)
          · refine lv_aload_n hx hb dX4_iron_67 rfl (lv_at hl 0 rfl) ?_
            refine lv_ldc (v := -1000000001) hx hb hown (hts _ (List.mem_of_getElem? (i := 4) rfl)) dX4_iron_68 ?_
            refine cl_Vi (As := [.int (-1000000001)]) (rest := []) (C := RX4) ⟨hx, hb, hml, hown, hts⟩ (M_X4_tell l D cI cJ x fi ik la ta ka tp sh F 0 (by decide) (-1000000001) (by decide +kernel)) (cwV 1 hts gX4_iron_X4_tell rfl rfl rfl qX4_tell ⟨Nat.le_of_ble_eq_true rfl, Nat.le_of_ble_eq_true rfl⟩) E0_good hK hA hW trivial [true, false, true] (fun _ => [xH x la ta ka tp sh fi ik, gW cI la G, aI cI fi 7 (up F 0 (F 0 + 1))]) rfl (fun _ => rfl) (fun _ => rfl) 0 0 rfl rfl rfl rfl hl.1 rfl (lv_room (Nat.le_of_ble_eq_true rfl)) dX4_iron_70 ⟨Nat.zero_le _, Nat.zero_le _⟩ (fun _ H locs _ hW => ?_)
            exact rt_i hQ hx hb hr hlocks hW dX4_iron_73 () (by (try simp only [ironV]); (repeat' split) <;> first | rfl | (exfalso; omega)) trivial (by (try simp only [ironG, ironF]); (repeat' split) <;> first | rfl | (exfalso; omega))
          · obtain ⟨j, hj, ej⟩ : ∃ j : Nat, v = nI j ∧ v.toInt = (j : Int) := ⟨v.toInt.toNat, nI_ofZ rfl (by omega), by omega⟩
            rw [hj] at hl
            refine lv_aload_n hx hb dX4_iron_49 rfl (lv_at hl 0 rfl) ?_
            refine sg_get (ci := 3) (C := RX4) (T := TX4) (N := 7) (v := .ref (la 0)) hx hb hts (fun _ h => List.mem_cons_of_mem _ (List.mem_append_left _ (List.mem_append_right _ h))) hown hK hW 0 0 rfl rfl rfl 0 (by decide) (hts _ (List.mem_of_getElem? (i := 1) rfl)) rfl dX4_iron_50 ?_
            refine sg_get (ci := 0) (C := RX0) (T := TX0) (N := 14) (v := .int (nI (G 24))) hx hb hts (fun _ h => List.mem_cons_of_mem _ (List.mem_append_right _ h)) hown hK hW 1 0 rfl rfl rfl 3 (by decide) (hts _ (List.mem_of_getElem? (i := 3) rfl)) rfl dX4_iron_53 ?_
            refine lv_istore_n (lv' := [(3, .int (nI (G 24))), (0, .ref x), (1, .int what), (2, .int (nI j))]) hx hb dX4_iron_56 rfl hl (by decide) rfl (fun ls hl => ?_)
            refine lv_aload_n hx hb dX4_iron_57 rfl (lv_at hl 1 rfl) ?_
            refine sg_get (ci := 3) (C := RX4) (T := TX4) (N := 7) (v := .ref (la 0)) hx hb hts (fun _ h => List.mem_cons_of_mem _ (List.mem_append_left _ (List.mem_append_right _ h))) hown hK hW 0 0 rfl rfl rfl 0 (by decide) (hts _ (List.mem_of_getElem? (i := 1) rfl)) rfl dX4_iron_58 ?_
            refine lv_iload_n hx hb dX4_iron_61 rfl (lv_at hl 3 rfl) ?_
            refine sg_put (ci := 0) (C := RX0) (T := TX0) (N := 14) hx hb hts (fun _ h => List.mem_cons_of_mem _ (List.mem_append_right _ h)) tyX0 tyX0_ok nmX0 hown hK hW 1 0 rfl rfl rfl 3 (by decide) (hts _ (List.mem_of_getElem? (i := 3) rfl)) rfl rfl rfl (Nat.le_of_ble_eq_true rfl) (gW_s24 cI la G j) (ss' := [xH x la ta ka tp sh fi ik, gW cI la (up G 24 j), aI cI fi 7 F]) rfl dX4_iron_62 (fun H locs hW => ?_)
            refine lv_iload_n hx hb dX4_iron_65 rfl (lv_at hl 0 rfl) ?_
            exact rt_i hQ hx hb hr hlocks hW dX4_iron_66 () (by (try simp only [ironV, ej, Int.toNat_natCast]); (repeat' split) <;> first | rfl | (exfalso; omega)) trivial (by (try simp only [ironG, ironF, ej, Int.toNat_natCast]); (repeat' split) <;> first | rfl | (exfalso; omega))
    · refine lv_iload_n hx hb dX4_iron_9 rfl (lv_at hl 2 rfl) ?_
      refine lv_bipush (v := nI 50) hx hb dX4_iron_10 (by decide +kernel) ?_
      refine zz_cgt (tgt := 33) hx hb dX4_iron_12 (by decide) (rfl : v.toInt = v.toInt) (nI_toInt (n := 50) (by decide)) (fun c12 => ?_) (fun c12 => ?_)
      · refine lv_iload_n hx hb dX4_iron_33 rfl (lv_at hl 1 rfl) ?_
        refine lv_iconst (v := nI 1) hx hb dX4_iron_34 (by decide +kernel) ?_
        refine zz_cne (tgt := 67) hx hb dX4_iron_35 (by decide) (rfl : what.toInt = what.toInt) (nI_toInt (n := 1) (by decide)) (fun c35_2 => ?_) (fun c35_2 => ?_)
        · refine lv_aload_n hx hb dX4_iron_67 rfl (lv_at hl 0 rfl) ?_
          refine lv_ldc (v := -1000000001) hx hb hown (hts _ (List.mem_of_getElem? (i := 4) rfl)) dX4_iron_68 ?_
          refine cl_Vi (As := [.int (-1000000001)]) (rest := []) (C := RX4) ⟨hx, hb, hml, hown, hts⟩ (M_X4_tell l D cI cJ x fi ik la ta ka tp sh F 0 (by decide) (-1000000001) (by decide +kernel)) (cwV 1 hts gX4_iron_X4_tell rfl rfl rfl qX4_tell ⟨Nat.le_of_ble_eq_true rfl, Nat.le_of_ble_eq_true rfl⟩) E0_good hK hA hW trivial [true, false, true] (fun _ => [xH x la ta ka tp sh fi ik, gW cI la G, aI cI fi 7 (up F 0 (F 0 + 1))]) rfl (fun _ => rfl) (fun _ => rfl) 0 0 rfl rfl rfl rfl hl.1 rfl (lv_room (Nat.le_of_ble_eq_true rfl)) dX4_iron_70 ⟨Nat.zero_le _, Nat.zero_le _⟩ (fun _ H locs _ hW => ?_)
          exact rt_i hQ hx hb hr hlocks hW dX4_iron_73 () (by (try simp only [ironV]); (repeat' split) <;> first | rfl | (exfalso; omega)) trivial (by (try simp only [ironG, ironF]); (repeat' split) <;> first | rfl | (exfalso; omega))
        · refine lv_iload_n hx hb dX4_iron_38 rfl (lv_at hl 2 rfl) ?_
          refine zz_zlt (tgt := 67) hx hb dX4_iron_39 (by decide) (rfl : v.toInt = v.toInt) (fun c39_2 => ?_) (fun c39_2 => ?_)
          · refine lv_aload_n hx hb dX4_iron_67 rfl (lv_at hl 0 rfl) ?_
            refine lv_ldc (v := -1000000001) hx hb hown (hts _ (List.mem_of_getElem? (i := 4) rfl)) dX4_iron_68 ?_
            refine cl_Vi (As := [.int (-1000000001)]) (rest := []) (C := RX4) ⟨hx, hb, hml, hown, hts⟩ (M_X4_tell l D cI cJ x fi ik la ta ka tp sh F 0 (by decide) (-1000000001) (by decide +kernel)) (cwV 1 hts gX4_iron_X4_tell rfl rfl rfl qX4_tell ⟨Nat.le_of_ble_eq_true rfl, Nat.le_of_ble_eq_true rfl⟩) E0_good hK hA hW trivial [true, false, true] (fun _ => [xH x la ta ka tp sh fi ik, gW cI la G, aI cI fi 7 (up F 0 (F 0 + 1))]) rfl (fun _ => rfl) (fun _ => rfl) 0 0 rfl rfl rfl rfl hl.1 rfl (lv_room (Nat.le_of_ble_eq_true rfl)) dX4_iron_70 ⟨Nat.zero_le _, Nat.zero_le _⟩ (fun _ H locs _ hW => ?_)
            exact rt_i hQ hx hb hr hlocks hW dX4_iron_73 () (by (try simp only [ironV]); (repeat' split) <;> first | rfl | (exfalso; omega)) trivial (by (try simp only [ironG, ironF]); (repeat' split) <;> first | rfl | (exfalso; omega))
          · refine lv_iload_n hx hb dX4_iron_42 rfl (lv_at hl 2 rfl) ?_
            refine lv_sipush (v := nI 200) hx hb dX4_iron_43 (by decide +kernel) ?_
            refine zz_cgt (tgt := 67) hx hb dX4_iron_46 (by decide) (rfl : v.toInt = v.toInt) (nI_toInt (n := 200) (by decide)) (fun c46_2 => ?_) (fun c46_2 => ?_)
            · refine lv_aload_n hx hb dX4_iron_67 rfl (lv_at hl 0 rfl) ?_
              refine lv_ldc (v := -1000000001) hx hb hown (hts _ (List.mem_of_getElem? (i := 4) rfl)) dX4_iron_68 ?_
              refine cl_Vi (As := [.int (-1000000001)]) (rest := []) (C := RX4) ⟨hx, hb, hml, hown, hts⟩ (M_X4_tell l D cI cJ x fi ik la ta ka tp sh F 0 (by decide) (-1000000001) (by decide +kernel)) (cwV 1 hts gX4_iron_X4_tell rfl rfl rfl qX4_tell ⟨Nat.le_of_ble_eq_true rfl, Nat.le_of_ble_eq_true rfl⟩) E0_good hK hA hW trivial [true, false, true] (fun _ => [xH x la ta ka tp sh fi ik, gW cI la G, aI cI fi 7 (up F 0 (F 0 + 1))]) rfl (fun _ => rfl) (fun _ => rfl) 0 0 rfl rfl rfl rfl hl.1 rfl (lv_room (Nat.le_of_ble_eq_true rfl)) dX4_iron_70 ⟨Nat.zero_le _, Nat.zero_le _⟩ (fun _ H locs _ hW => ?_)
              exact rt_i hQ hx hb hr hlocks hW dX4_iron_73 () (by (try simp only [ironV]); (repeat' split) <;> first | rfl | (exfalso; omega)) trivial (by (try simp only [ironG, ironF]); (repeat' split) <;> first | rfl | (exfalso; omega))
            · obtain ⟨j, hj, ej⟩ : ∃ j : Nat, v = nI j ∧ v.toInt = (j : Int) := ⟨v.toInt.toNat, nI_ofZ rfl (by omega), by omega⟩
              rw [hj] at hl
              refine lv_aload_n hx hb dX4_iron_49 rfl (lv_at hl 0 rfl) ?_
              refine sg_get (ci := 3) (C := RX4) (T := TX4) (N := 7) (v := .ref (la 0)) hx hb hts (fun _ h => List.mem_cons_of_mem _ (List.mem_append_left _ (List.mem_append_right _ h))) hown hK hW 0 0 rfl rfl rfl 0 (by decide) (hts _ (List.mem_of_getElem? (i := 1) rfl)) rfl dX4_iron_50 ?_
              refine sg_get (ci := 0) (C := RX0) (T := TX0) (N := 14) (v := .int (nI (G 24))) hx hb hts (fun _ h => List.mem_cons_of_mem _ (List.mem_append_right _ h)) hown hK hW 1 0 rfl rfl rfl 3 (by decide) (hts _ (List.mem_of_getElem? (i := 3) rfl)) rfl dX4_iron_53 ?_
              refine lv_istore_n (lv' := [(3, .int (nI (G 24))), (0, .ref x), (1, .int what), (2, .int (nI j))]) hx hb dX4_iron_56 rfl hl (by decide) rfl (fun ls hl => ?_)
              refine lv_aload_n hx hb dX4_iron_57 rfl (lv_at hl 1 rfl) ?_
              refine sg_get (ci := 3) (C := RX4) (T := TX4) (N := 7) (v := .ref (la 0)) hx hb hts (fun _ h => List.mem_cons_of_mem _ (List.mem_append_left _ (List.mem_append_right _ h))) hown hK hW 0 0 rfl rfl rfl 0 (by decide) (hts _ (List.mem_of_getElem? (i := 1) rfl)) rfl dX4_iron_58 ?_
              refine lv_iload_n hx hb dX4_iron_61 rfl (lv_at hl 3 rfl) ?_
              refine sg_put (ci := 0) (C := RX0) (T := TX0) (N := 14) hx hb hts (fun _ h => List.mem_cons_of_mem _ (List.mem_append_right _ h)) tyX0 tyX0_ok nmX0 hown hK hW 1 0 rfl rfl rfl 3 (by decide) (hts _ (List.mem_of_getElem? (i := 3) rfl)) rfl rfl rfl (Nat.le_of_ble_eq_true rfl) (gW_s24 cI la G j) (ss' := [xH x la ta ka tp sh fi ik, gW cI la (up G 24 j), aI cI fi 7 F]) rfl dX4_iron_62 (fun H locs hW => ?_)
              refine lv_iload_n hx hb dX4_iron_65 rfl (lv_at hl 0 rfl) ?_
              exact rt_i hQ hx hb hr hlocks hW dX4_iron_66 () (by (try simp only [ironV, ej, Int.toNat_natCast]); (repeat' split) <;> first | rfl | (exfalso; omega)) trivial (by (try simp only [ironG, ironF, ej, Int.toNat_natCast]); (repeat' split) <;> first | rfl | (exfalso; omega))
      · obtain ⟨j, hj, ej⟩ : ∃ j : Nat, v = nI j ∧ v.toInt = (j : Int) := ⟨v.toInt.toNat, nI_ofZ rfl (by omega), by omega⟩
        rw [hj] at hl
        refine lv_aload_n hx hb dX4_iron_15 rfl (lv_at hl 0 rfl) ?_
        refine sg_get (ci := 3) (C := RX4) (T := TX4) (N := 7) (v := .ref (la 0)) hx hb hts (fun _ h => List.mem_cons_of_mem _ (List.mem_append_left _ (List.mem_append_right _ h))) hown hK hW 0 0 rfl rfl rfl 0 (by decide) (hts _ (List.mem_of_getElem? (i := 1) rfl)) rfl dX4_iron_16 ?_
        refine sg_get (ci := 0) (C := RX0) (T := TX0) (N := 14) (v := .int (nI (G 16))) hx hb hts (fun _ h => List.mem_cons_of_mem _ (List.mem_append_right _ h)) hown hK hW 1 0 rfl rfl rfl 2 (by decide) (hts _ (List.mem_of_getElem? (i := 2) rfl)) rfl dX4_iron_19 ?_
        refine lv_istore_n (lv' := [(3, .int (nI (G 16))), (0, .ref x), (1, .int what), (2, .int (nI j))]) hx hb dX4_iron_22 rfl hl (by decide) rfl (fun ls hl => ?_)
        refine lv_aload_n hx hb dX4_iron_23 rfl (lv_at hl 1 rfl) ?_
        refine sg_get (ci := 3) (C := RX4) (T := TX4) (N := 7) (v := .ref (la 0)) hx hb hts (fun _ h => List.mem_cons_of_mem _ (List.mem_append_left _ (List.mem_append_right _ h))) hown hK hW 0 0 rfl rfl rfl 0 (by decide) (hts _ (List.mem_of_getElem? (i := 1) rfl)) rfl dX4_iron_24 ?_
        refine lv_iload_n hx hb dX4_iron_27 rfl (lv_at hl 3 rfl) ?_
        refine sg_put (ci := 0) (C := RX0) (T := TX0) (N := 14) hx hb hts (fun _ h => List.mem_cons_of_mem _ (List.mem_append_right _ h)) tyX0 tyX0_ok nmX0 hown hK hW 1 0 rfl rfl rfl 2 (by decide) (hts _ (List.mem_of_getElem? (i := 2) rfl)) rfl rfl rfl (Nat.le_of_ble_eq_true rfl) (gW_s16 cI la G j) (ss' := [xH x la ta ka tp sh fi ik, gW cI la (up G 16 j), aI cI fi 7 F]) rfl dX4_iron_28 (fun H locs hW => ?_)
        refine lv_iload_n hx hb dX4_iron_31 rfl (lv_at hl 0 rfl) ?_
        exact rt_i hQ hx hb hr hlocks hW dX4_iron_32 () (by (try simp only [ironV, ej, Int.toNat_natCast]); (repeat' split) <;> first | rfl | (exfalso; omega)) trivial (by (try simp only [ironG, ironF, ej, Int.toNat_natCast]); (repeat' split) <;> first | rfl | (exfalso; omega))
abbrev rmX4_rain : Room := { frames := 1, cells := 0, slots := 0, locals := 22 }
set_option maxRecDepth 100000 in
set_option maxHeartbeats 4000000 in
theorem M_X4_rain (l : Launch) (D : va_G) (cI cJ : ClassId) (x fi ik : Nat) (la ta ka tp sh : Nat → Nat) (G F : Nat → Nat) (hG : OkG 99999 G) (v : Int32) : CE E0 l D vwCl [(cI, .int), (cJ, .long)] yX4_rain wsX4_rain rmX4_rain [.ref x, .int v] [xH x la ta ka tp sh fi ik, gW cI la G, aI cI fi 7 F] (S := Unit) (some (.int (rainV G v.toInt))) (fun _ => True) (fun _ : Unit => [xH x la ta ka tp sh fi ik, gW cI la (rainG G v.toInt), aI cI fi 7 (rainF F v.toInt)]) 0 0 := by
  refine CE.ofW (cc := cX4_rain) (maxL := 3) (ret := (some .int)) (lv := [(0, .ref x), (1, .int v)]) (by decide) rfl (Nat.le_of_ble_eq_true rfl) rfl ?_
  intro p e s m args below meth c ls A Q hQ hx hb hml hr hlocks hnm hown hts hK hA hE hW hl
  have hown : s.vm.findClass RX4 = some m.cls := hown
  obtain ⟨hg0, hg8, hg16, hg16b, hg24, hg32, hg40, hg48⟩ := hG.s
  refine lv_iload_n hx hb dX4_rain_0 rfl (lv_at hl 1 rfl) ?_
  refine zz_zlt (tgt := 10) hx hb dX4_rain_1 (by decide) (rfl : v.toInt = v.toInt) (fun c1 => ?_) (fun c1 => ?_)
  · refine lv_aload_n hx hb dX4_rain_10 rfl (lv_at hl 0 rfl) ?_
    refine lv_ldc (v := -1000000001) hx hb hown (hts _ (List.mem_of_getElem? (i := 1) rfl)) dX4_rain_11 ?_
    refine cl_Vi (As := [.int (-1000000001)]) (rest := []) (C := RX4) ⟨hx, hb, hml, hown, hts⟩ (M_X4_tell l D cI cJ x fi ik la ta ka tp sh F 0 (by decide) (-1000000001) (by decide +kernel)) (cwV 1 hts gX4_rain_X4_tell rfl rfl rfl qX4_tell ⟨Nat.le_of_ble_eq_true rfl, Nat.le_of_ble_eq_true rfl⟩) E0_good hK hA hW trivial [true, false, true] (fun _ => [xH x la ta ka tp sh fi ik, gW cI la G, aI cI fi 7 (up F 0 (F 0 + 1))]) rfl (fun _ => rfl) (fun _ => rfl) 0 0 rfl rfl rfl rfl hl.1 rfl (lv_room (Nat.le_of_ble_eq_true rfl)) dX4_rain_13 ⟨Nat.zero_le _, Nat.zero_le _⟩ (fun _ H locs _ hW => ?_)
    exact rt_i hQ hx hb hr hlocks hW dX4_rain_16 () (by (try simp only [rainV]); (repeat' split) <;> first | rfl | (exfalso; omega)) trivial (by (try simp only [rainG, rainF]); (repeat' split) <;> first | rfl | (exfalso; omega))
  · refine lv_iload_n hx hb dX4_rain_4 rfl (lv_at hl 1 rfl) ?_
    refine lv_bipush (v := nI 31) hx hb dX4_rain_5 (by decide +kernel) ?_
    refine zz_cle (tgt := 17) hx hb dX4_rain_7 (by decide) (rfl : v.toInt = v.toInt) (nI_toInt (n := 31) (by decide)) (fun c7 => ?_) (fun c7 => ?_)
    · obtain ⟨j, hj, ej⟩ : ∃ j : Nat, v = nI j ∧ v.toInt = (j : Int) := ⟨v.toInt.toNat, nI_ofZ rfl (by omega), by omega⟩
      rw [hj] at hl
      refine lv_aload_n hx hb dX4_rain_17 rfl (lv_at hl 0 rfl) ?_
      refine sg_get (ci := 3) (C := RX4) (T := TX4) (N := 7) (v := .ref (la 0)) hx hb hts (fun _ h => List.mem_cons_of_mem _ (List.mem_append_left _ (List.mem_append_right _ h))) hown hK hW 0 0 rfl rfl rfl 0 (by decide) (hts _ (List.mem_of_getElem? (i := 2) rfl)) rfl dX4_rain_18 ?_
      refine sg_get (ci := 0) (C := RX0) (T := TX0) (N := 14) (v := .int (nI (G 8))) hx hb hts (fun _ h => List.mem_cons_of_mem _ (List.mem_append_right _ h)) hown hK hW 1 0 rfl rfl rfl 1 (by decide) (hts _ (List.mem_of_getElem? (i := 3) rfl)) rfl dX4_rain_21 ?_
      refine lv_istore_n (lv' := [(2, .int (nI (G 8))), (0, .ref x), (1, .int (nI j))]) hx hb dX4_rain_24 rfl hl (by decide) rfl (fun ls hl => ?_)
      refine lv_aload_n hx hb dX4_rain_25 rfl (lv_at hl 1 rfl) ?_
      refine sg_get (ci := 3) (C := RX4) (T := TX4) (N := 7) (v := .ref (la 0)) hx hb hts (fun _ h => List.mem_cons_of_mem _ (List.mem_append_left _ (List.mem_append_right _ h))) hown hK hW 0 0 rfl rfl rfl 0 (by decide) (hts _ (List.mem_of_getElem? (i := 2) rfl)) rfl dX4_rain_26 ?_
      refine lv_iload_n hx hb dX4_rain_29 rfl (lv_at hl 2 rfl) ?_
      refine sg_put (ci := 0) (C := RX0) (T := TX0) (N := 14) hx hb hts (fun _ h => List.mem_cons_of_mem _ (List.mem_append_right _ h)) tyX0 tyX0_ok nmX0 hown hK hW 1 0 rfl rfl rfl 1 (by decide) (hts _ (List.mem_of_getElem? (i := 3) rfl)) rfl rfl rfl (Nat.le_of_ble_eq_true rfl) (gW_s8 cI la G j) (ss' := [xH x la ta ka tp sh fi ik, gW cI la (up G 8 j), aI cI fi 7 F]) rfl dX4_rain_30 (fun H locs hW => ?_)
      refine lv_iload_n hx hb dX4_rain_33 rfl (lv_at hl 0 rfl) ?_
      exact rt_i hQ hx hb hr hlocks hW dX4_rain_34 () (by (try simp only [rainV, ej, Int.toNat_natCast]); (repeat' split) <;> first | rfl | (exfalso; omega)) trivial (by (try simp only [rainG, rainF, ej, Int.toNat_natCast]); (repeat' split) <;> first | rfl | (exfalso; omega))
    · refine lv_aload_n hx hb dX4_rain_10 rfl (lv_at hl 0 rfl) ?_
      refine lv_ldc (v := -1000000001) hx hb hown (hts _ (List.mem_of_getElem? (i := 1) rfl)) dX4_rain_11 ?_
      refine cl_Vi (As := [.int (-1000000001)]) (rest := []) (C := RX4) ⟨hx, hb, hml, hown, hts⟩ (M_X4_tell l D cI cJ x fi ik la ta ka tp sh F 0 (by decide) (-1000000001) (by decide +kernel)) (cwV 1 hts gX4_rain_X4_tell rfl rfl rfl qX4_tell ⟨Nat.le_of_ble_eq_true rfl, Nat.le_of_ble_eq_true rfl⟩) E0_good hK hA hW trivial [true, false, true] (fun _ => [xH x la ta ka tp sh fi ik, gW cI la G, aI cI fi 7 (up F 0 (F 0 + 1))]) rfl (fun _ => rfl) (fun _ => rfl) 0 0 rfl rfl rfl rfl hl.1 rfl (lv_room (Nat.le_of_ble_eq_true rfl)) dX4_rain_13 ⟨Nat.zero_le _, Nat.zero_le _⟩ (fun _ H locs _ hW => ?_)
      exact rt_i hQ hx hb hr hlocks hW dX4_rain_16 () (by (try simp only [rainV]); (repeat' split) <;> first | rfl | (exfalso; omega)) trivial (by (try simp only [rainG, rainF]); (repeat' split) <;> first | rfl | (exfalso; omega))
abbrev rmX4_now : Room := { frames := 3, cells := 0, slots := 0, locals := 74 }
set_option maxRecDepth 100000 in
set_option maxHeartbeats 4000000 in
theorem M_X4_now (l : Launch) (D : va_G) (cI cJ : ClassId) (x fi ik : Nat) (la ta ka tp sh : Nat → Nat) (G F : Nat → Nat) (hG : OkG 99999 G) (v : Int32) : CE E0 l D vwCl [(cI, .int), (cJ, .long)] yX4_now wsX4_now rmX4_now [.ref x, .int v] [xH x la ta ka tp sh fi ik, gW cI la G, aI cI fi 7 F] (S := Unit) (some (.int (nowV G v.toInt))) (fun _ => True) (fun _ : Unit => [xH x la ta ka tp sh fi ik, gW cI la (G), aI cI fi 7 (nowF F v.toInt)]) 0 0 := by
  refine CE.ofW (cc := cX4_now) (maxL := 2) (ret := (some .int)) (lv := [(0, .ref x), (1, .int v)]) (by decide) rfl (Nat.le_of_ble_eq_true rfl) rfl ?_
  intro p e s m args below meth c ls A Q hQ hx hb hml hr hlocks hnm hown hts hK hA hE hW hl
  have hown : s.vm.findClass RX4 = some m.cls := hown
  obtain ⟨hg0, hg8, hg16, hg16b, hg24, hg32, hg40, hg48⟩ := hG.s
  refine lv_iload_n hx hb dX4_now_0 rfl (lv_at hl 1 rfl) ?_
  rcases (show v.toInt = 0 ∨ v.toInt = 1 ∨ v.toInt = 2 ∨ v.toInt = 3 ∨ v.toInt = 4 ∨ v.toInt = 5 ∨ v.toInt = 6 ∨ v.toInt = 7 ∨ v.toInt = 8 ∨ v.toInt = 9 ∨ (v.toInt < 0 ∨ 9 < v.toInt) by omega) with c1 | c1 | c1 | c1 | c1 | c1 | c1 | c1 | c1 | c1 | c1
  · refine zz_tsI (off := 55) (tgt := 56) hx hb dX4_now_1 (rfl : v.toInt = v.toInt) 0 (by omega) (by omega) rfl (by decide) ?_
    refine lv_aload_n hx hb dX4_now_56 rfl (lv_at hl 0 rfl) ?_
    refine sg_get (ci := 3) (C := RX4) (T := TX4) (N := 7) (v := .ref (la 0)) hx hb hts (fun _ h => List.mem_cons_of_mem _ (List.mem_append_left _ (List.mem_append_right _ h))) hown hK hW 0 0 rfl rfl rfl 0 (by decide) (hts _ (List.mem_of_getElem? (i := 1) rfl)) rfl dX4_now_57 ?_
    refine sg_get (ci := 0) (C := RX0) (T := TX0) (N := 14) (v := .int (nI (G 0))) hx hb hts (fun _ h => List.mem_cons_of_mem _ (List.mem_append_right _ h)) hown hK hW 1 0 rfl rfl rfl 0 (by decide) (hts _ (List.mem_of_getElem? (i := 2) rfl)) rfl dX4_now_60 ?_
    exact rt_i hQ hx hb hr hlocks hW dX4_now_63 () (by (try simp only [nowV]); (repeat' split) <;> first | rfl | (exact congrArg (fun z => some (Value.int (nI z))) (by omega)) | (exfalso; omega)) trivial (by (try simp only [nowF]); (repeat' split) <;> first | rfl | (exfalso; omega))
  · refine zz_tsI (off := 63) (tgt := 64) hx hb dX4_now_1 (rfl : v.toInt = v.toInt) 1 (by omega) (by omega) rfl (by decide) ?_
    refine lv_aload_n hx hb dX4_now_64 rfl (lv_at hl 0 rfl) ?_
    refine sg_get (ci := 3) (C := RX4) (T := TX4) (N := 7) (v := .ref (la 0)) hx hb hts (fun _ h => List.mem_cons_of_mem _ (List.mem_append_left _ (List.mem_append_right _ h))) hown hK hW 0 0 rfl rfl rfl 0 (by decide) (hts _ (List.mem_of_getElem? (i := 1) rfl)) rfl dX4_now_65 ?_
    refine cl_Vi (As := []) (rest := []) (C := RX0) ⟨hx, hb, hml, hown, hts⟩ (M_X0_minuteOfDay l D cI cJ la G 99999 (by decide) hG) (cwV 0 hts gX4_now_X0_minuteOfDay rfl rfl rfl qX0_minuteOfDay ⟨Nat.le_of_ble_eq_true rfl, Nat.le_of_ble_eq_true rfl⟩) E0_good hK hA hW trivial [false, true] (fun _ => [xH x la ta ka tp sh fi ik, gW cI la G, aI cI fi 7 F]) rfl (fun _ => rfl) (fun _ => rfl) 1 0 rfl rfl rfl rfl hl.1 rfl (lv_room (Nat.le_of_ble_eq_true rfl)) dX4_now_68 ⟨Nat.zero_le _, Nat.zero_le _⟩ (fun _ H locs _ hW => ?_)
    exact rt_i hQ hx hb hr hlocks hW dX4_now_71 () (by (try simp only [nowV]); (repeat' split) <;> first | rfl | (exact congrArg (fun z => some (Value.int (nI z))) (by omega)) | (exfalso; omega)) trivial (by (try simp only [nowF]); (repeat' split) <;> first | rfl | (exfalso; omega))
  · refine zz_tsI (off := 71) (tgt := 72) hx hb dX4_now_1 (rfl : v.toInt = v.toInt) 2 (by omega) (by omega) rfl (by decide) ?_
    refine lv_aload_n hx hb dX4_now_72 rfl (lv_at hl 0 rfl) ?_
    refine sg_get (ci := 3) (C := RX4) (T := TX4) (N := 7) (v := .ref (la 0)) hx hb hts (fun _ h => List.mem_cons_of_mem _ (List.mem_append_left _ (List.mem_append_right _ h))) hown hK hW 0 0 rfl rfl rfl 0 (by decide) (hts _ (List.mem_of_getElem? (i := 1) rfl)) rfl dX4_now_73 ?_
    refine cl_Vi (As := []) (rest := []) (C := RX0) ⟨hx, hb, hml, hown, hts⟩ (M_X0_isNight l D cI cJ la G 99999 (by decide) hG) (cwV 0 hts gX4_now_X0_isNight rfl rfl rfl qX0_isNight ⟨Nat.le_of_ble_eq_true rfl, Nat.le_of_ble_eq_true rfl⟩) E0_good hK hA hW trivial [false, true] (fun _ => [xH x la ta ka tp sh fi ik, gW cI la G, aI cI fi 7 F]) rfl (fun _ => rfl) (fun _ => rfl) 1 0 rfl rfl rfl rfl hl.1 rfl (lv_room (Nat.le_of_ble_eq_true rfl)) dX4_now_76 ⟨Nat.zero_le _, Nat.zero_le _⟩ (fun _ H locs _ hW => ?_)
    have hle_ := nightN_le G
    refine nn_zeq (tgt := 86) hx hb dX4_now_79 (by decide) (by omega) (fun c79 => ?_) (fun c79 => ?_)
    · refine lv_iconst (v := nI 0) hx hb dX4_now_86 (by decide +kernel) ?_
      exact rt_i hQ hx hb hr hlocks hW dX4_now_87 () (by (try simp only [nowV]); (repeat' split) <;> first | rfl | (exact congrArg (fun z => some (Value.int (nI z))) (by omega)) | (exfalso; omega)) trivial (by (try simp only [nowF]); (repeat' split) <;> first | rfl | (exfalso; omega))
    · refine lv_iconst (v := nI 1) hx hb dX4_now_82 (by decide +kernel) ?_
      refine lv_goto (tgt := 87) hx hb dX4_now_83 (by decide) ?_
      exact rt_i hQ hx hb hr hlocks hW dX4_now_87 () (by (try simp only [nowV]); (repeat' split) <;> first | rfl | (exact congrArg (fun z => some (Value.int (nI z))) (by omega)) | (exfalso; omega)) trivial (by (try simp only [nowF]); (repeat' split) <;> first | rfl | (exfalso; omega))
  · refine zz_tsI (off := 87) (tgt := 88) hx hb dX4_now_1 (rfl : v.toInt = v.toInt) 3 (by omega) (by omega) rfl (by decide) ?_
    refine lv_aload_n hx hb dX4_now_88 rfl (lv_at hl 0 rfl) ?_
    refine sg_get (ci := 3) (C := RX4) (T := TX4) (N := 7) (v := .ref (la 0)) hx hb hts (fun _ h => List.mem_cons_of_mem _ (List.mem_append_left _ (List.mem_append_right _ h))) hown hK hW 0 0 rfl rfl rfl 0 (by decide) (hts _ (List.mem_of_getElem? (i := 1) rfl)) rfl dX4_now_89 ?_
    refine cl_Vi (As := []) (rest := []) (C := RX0) ⟨hx, hb, hml, hown, hts⟩ (M_X0_isWet l D cI cJ la G 99999 (by decide) hG) (cwV 0 hts gX4_now_X0_isWet rfl rfl rfl qX0_isWet ⟨Nat.le_of_ble_eq_true rfl, Nat.le_of_ble_eq_true rfl⟩) E0_good hK hA hW trivial [false, true] (fun _ => [xH x la ta ka tp sh fi ik, gW cI la G, aI cI fi 7 F]) rfl (fun _ => rfl) (fun _ => rfl) 1 0 rfl rfl rfl rfl hl.1 rfl (lv_room (Nat.le_of_ble_eq_true rfl)) dX4_now_92 ⟨Nat.zero_le _, Nat.zero_le _⟩ (fun _ H locs _ hW => ?_)
    have hle_ := wetN_le G
    refine nn_zeq (tgt := 102) hx hb dX4_now_95 (by decide) (by omega) (fun c95 => ?_) (fun c95 => ?_)
    · refine lv_iconst (v := nI 0) hx hb dX4_now_102 (by decide +kernel) ?_
      exact rt_i hQ hx hb hr hlocks hW dX4_now_103 () (by (try simp only [nowV]); (repeat' split) <;> first | rfl | (exact congrArg (fun z => some (Value.int (nI z))) (by omega)) | (exfalso; omega)) trivial (by (try simp only [nowF]); (repeat' split) <;> first | rfl | (exfalso; omega))
    · refine lv_iconst (v := nI 1) hx hb dX4_now_98 (by decide +kernel) ?_
      refine lv_goto (tgt := 103) hx hb dX4_now_99 (by decide) ?_
      exact rt_i hQ hx hb hr hlocks hW dX4_now_103 () (by (try simp only [nowV]); (repeat' split) <;> first | rfl | (exact congrArg (fun z => some (Value.int (nI z))) (by omega)) | (exfalso; omega)) trivial (by (try simp only [nowF]); (repeat' split) <;> first | rfl | (exfalso; omega))
  · refine zz_tsI (off := 103) (tgt := 104) hx hb dX4_now_1 (rfl : v.toInt = v.toInt) 4 (by omega) (by omega) rfl (by decide) ?_
    refine lv_aload_n hx hb dX4_now_104 rfl (lv_at hl 0 rfl) ?_
    refine sg_get (ci := 3) (C := RX4) (T := TX4) (N := 7) (v := .ref (la 0)) hx hb hts (fun _ h => List.mem_cons_of_mem _ (List.mem_append_left _ (List.mem_append_right _ h))) hown hK hW 0 0 rfl rfl rfl 0 (by decide) (hts _ (List.mem_of_getElem? (i := 1) rfl)) rfl dX4_now_105 ?_
    refine sg_get (ci := 0) (C := RX0) (T := TX0) (N := 14) (v := .int (nI (G 24))) hx hb hts (fun _ h => List.mem_cons_of_mem _ (List.mem_append_right _ h)) hown hK hW 1 0 rfl rfl rfl 3 (by decide) (hts _ (List.mem_of_getElem? (i := 3) rfl)) rfl dX4_now_108 ?_
    exact rt_i hQ hx hb hr hlocks hW dX4_now_111 () (by (try simp only [nowV]); (repeat' split) <;> first | rfl | (exact congrArg (fun z => some (Value.int (nI z))) (by omega)) | (exfalso; omega)) trivial (by (try simp only [nowF]); (repeat' split) <;> first | rfl | (exfalso; omega))
  · refine zz_tsI (off := 111) (tgt := 112) hx hb dX4_now_1 (rfl : v.toInt = v.toInt) 5 (by omega) (by omega) rfl (by decide) ?_
    refine lv_aload_n hx hb dX4_now_112 rfl (lv_at hl 0 rfl) ?_
    refine sg_get (ci := 3) (C := RX4) (T := TX4) (N := 7) (v := .ref (la 0)) hx hb hts (fun _ h => List.mem_cons_of_mem _ (List.mem_append_left _ (List.mem_append_right _ h))) hown hK hW 0 0 rfl rfl rfl 0 (by decide) (hts _ (List.mem_of_getElem? (i := 1) rfl)) rfl dX4_now_113 ?_
    refine sg_get (ci := 0) (C := RX0) (T := TX0) (N := 14) (v := .int (nI (G 32))) hx hb hts (fun _ h => List.mem_cons_of_mem _ (List.mem_append_right _ h)) hown hK hW 1 0 rfl rfl rfl 4 (by decide) (hts _ (List.mem_of_getElem? (i := 4) rfl)) rfl dX4_now_116 ?_
    exact rt_i hQ hx hb hr hlocks hW dX4_now_119 () (by (try simp only [nowV]); (repeat' split) <;> first | rfl | (exact congrArg (fun z => some (Value.int (nI z))) (by omega)) | (exfalso; omega)) trivial (by (try simp only [nowF]); (repeat' split) <;> first | rfl | (exfalso; omega))
  · refine zz_tsI (off := 119) (tgt := 120) hx hb dX4_now_1 (rfl : v.toInt = v.toInt) 6 (by omega) (by omega) rfl (by decide) ?_
    refine lv_aload_n hx hb dX4_now_120 rfl (lv_at hl 0 rfl) ?_
    refine sg_get (ci := 3) (C := RX4) (T := TX4) (N := 7) (v := .ref (la 0)) hx hb hts (fun _ h => List.mem_cons_of_mem _ (List.mem_append_left _ (List.mem_append_right _ h))) hown hK hW 0 0 rfl rfl rfl 0 (by decide) (hts _ (List.mem_of_getElem? (i := 1) rfl)) rfl dX4_now_121 ?_
    refine cl_Vi (As := []) (rest := []) (C := RX0) ⟨hx, hb, hml, hown, hts⟩ (M_X0_weightNow l D cI cJ la G 99999 (by decide) hG) (cwV 0 hts gX4_now_X0_weightNow rfl rfl rfl qX0_weightNow ⟨Nat.le_of_ble_eq_true rfl, Nat.le_of_ble_eq_true rfl⟩) E0_good hK hA hW trivial [false, true] (fun _ => [xH x la ta ka tp sh fi ik, gW cI la G, aI cI fi 7 F]) rfl (fun _ => rfl) (fun _ => rfl) 1 0 rfl rfl rfl rfl hl.1 rfl (lv_room (Nat.le_of_ble_eq_true rfl)) dX4_now_124 ⟨Nat.zero_le _, Nat.zero_le _⟩ (fun _ H locs _ hW => ?_)
    exact rt_i hQ hx hb hr hlocks hW dX4_now_127 () (by (try simp only [nowV]); (repeat' split) <;> first | rfl | (exact congrArg (fun z => some (Value.int (nI z))) (by omega)) | (exfalso; omega)) trivial (by (try simp only [nowF]); (repeat' split) <;> first | rfl | (exfalso; omega))
  · refine zz_tsI (off := 127) (tgt := 128) hx hb dX4_now_1 (rfl : v.toInt = v.toInt) 7 (by omega) (by omega) rfl (by decide) ?_
    refine lv_aload_n hx hb dX4_now_128 rfl (lv_at hl 0 rfl) ?_
    refine sg_get (ci := 3) (C := RX4) (T := TX4) (N := 7) (v := .ref (la 0)) hx hb hts (fun _ h => List.mem_cons_of_mem _ (List.mem_append_left _ (List.mem_append_right _ h))) hown hK hW 0 0 rfl rfl rfl 0 (by decide) (hts _ (List.mem_of_getElem? (i := 1) rfl)) rfl dX4_now_129 ?_
    refine cl_Vi (As := []) (rest := []) (C := RX0) ⟨hx, hb, hml, hown, hts⟩ (M_X0_pushNow l D cI cJ la G 99999 (by decide) hG) (cwV 0 hts gX4_now_X0_pushNow rfl rfl rfl qX0_pushNow ⟨Nat.le_of_ble_eq_true rfl, Nat.le_of_ble_eq_true rfl⟩) E0_good hK hA hW trivial [false, true] (fun _ => [xH x la ta ka tp sh fi ik, gW cI la G, aI cI fi 7 F]) rfl (fun _ => rfl) (fun _ => rfl) 1 0 rfl rfl rfl rfl hl.1 rfl (lv_room (Nat.le_of_ble_eq_true rfl)) dX4_now_132 ⟨Nat.zero_le _, Nat.zero_le _⟩ (fun _ H locs _ hW => ?_)
    exact rt_i hQ hx hb hr hlocks hW dX4_now_135 () (by (try simp only [nowV]); (repeat' split) <;> first | rfl | (exact congrArg (fun z => some (Value.int (nI z))) (by omega)) | (exfalso; omega)) trivial (by (try simp only [nowF]); (repeat' split) <;> first | rfl | (exfalso; omega))
  · refine zz_tsI (off := 135) (tgt := 136) hx hb dX4_now_1 (rfl : v.toInt = v.toInt) 8 (by omega) (by omega) rfl (by decide) ?_
    refine lv_aload_n hx hb dX4_now_136 rfl (lv_at hl 0 rfl) ?_
    refine sg_get (ci := 3) (C := RX4) (T := TX4) (N := 7) (v := .ref (la 0)) hx hb hts (fun _ h => List.mem_cons_of_mem _ (List.mem_append_left _ (List.mem_append_right _ h))) hown hK hW 0 0 rfl rfl rfl 0 (by decide) (hts _ (List.mem_of_getElem? (i := 1) rfl)) rfl dX4_now_137 ?_
    refine cl_Vi (As := []) (rest := []) (C := RX0) ⟨hx, hb, hml, hown, hts⟩ (M_X0_outSet l D cI cJ la G 99999 (by decide) hG) (cwV 0 hts gX4_now_X0_outSet rfl rfl rfl qX0_outSet ⟨Nat.le_of_ble_eq_true rfl, Nat.le_of_ble_eq_true rfl⟩) E0_good hK hA hW trivial [false, true] (fun _ => [xH x la ta ka tp sh fi ik, gW cI la G, aI cI fi 7 F]) rfl (fun _ => rfl) (fun _ => rfl) 1 0 rfl rfl rfl rfl hl.1 rfl (lv_room (Nat.le_of_ble_eq_true rfl)) dX4_now_140 ⟨Nat.zero_le _, Nat.zero_le _⟩ (fun _ H locs _ hW => ?_)
    exact rt_i hQ hx hb hr hlocks hW dX4_now_143 () (by (try simp only [nowV]); (repeat' split) <;> first | rfl | (exact congrArg (fun z => some (Value.int (nI z))) (by omega)) | (exfalso; omega)) trivial (by (try simp only [nowF]); (repeat' split) <;> first | rfl | (exfalso; omega))
  · refine zz_tsI (off := 143) (tgt := 144) hx hb dX4_now_1 (rfl : v.toInt = v.toInt) 9 (by omega) (by omega) rfl (by decide) ?_
    refine lv_aload_n hx hb dX4_now_144 rfl (lv_at hl 0 rfl) ?_
    refine sg_get (ci := 3) (C := RX4) (T := TX4) (N := 7) (v := .ref (la 0)) hx hb hts (fun _ h => List.mem_cons_of_mem _ (List.mem_append_left _ (List.mem_append_right _ h))) hown hK hW 0 0 rfl rfl rfl 0 (by decide) (hts _ (List.mem_of_getElem? (i := 1) rfl)) rfl dX4_now_145 ?_
    refine cl_Vi (As := []) (rest := []) (C := RX0) ⟨hx, hb, hml, hown, hts⟩ (M_X0_onSet l D cI cJ la G 99999 (by decide) hG) (cwV 0 hts gX4_now_X0_onSet rfl rfl rfl qX0_onSet ⟨Nat.le_of_ble_eq_true rfl, Nat.le_of_ble_eq_true rfl⟩) E0_good hK hA hW trivial [false, true] (fun _ => [xH x la ta ka tp sh fi ik, gW cI la G, aI cI fi 7 F]) rfl (fun _ => rfl) (fun _ => rfl) 1 0 rfl rfl rfl rfl hl.1 rfl (lv_room (Nat.le_of_ble_eq_true rfl)) dX4_now_148 ⟨Nat.zero_le _, Nat.zero_le _⟩ (fun _ H locs _ hW => ?_)
    exact rt_i hQ hx hb hr hlocks hW dX4_now_151 () (by (try simp only [nowV]); (repeat' split) <;> first | rfl | (exact congrArg (fun z => some (Value.int (nI z))) (by omega)) | (exfalso; omega)) trivial (by (try simp only [nowF]); (repeat' split) <;> first | rfl | (exfalso; omega))
  · refine zz_tsO (tgt := 152) hx hb dX4_now_1 (rfl : v.toInt = v.toInt) (by omega) (by decide) ?_
    refine lv_aload_n hx hb dX4_now_152 rfl (lv_at hl 0 rfl) ?_
    refine lv_ldc (v := -1000000001) hx hb hown (hts _ (List.mem_of_getElem? (i := 5) rfl)) dX4_now_153 ?_
    refine cl_Vi (As := [.int (-1000000001)]) (rest := []) (C := RX4) ⟨hx, hb, hml, hown, hts⟩ (M_X4_tell l D cI cJ x fi ik la ta ka tp sh F 0 (by decide) (-1000000001) (by decide +kernel)) (cwV 1 hts gX4_now_X4_tell rfl rfl rfl qX4_tell ⟨Nat.le_of_ble_eq_true rfl, Nat.le_of_ble_eq_true rfl⟩) E0_good hK hA hW trivial [true, false, true] (fun _ => [xH x la ta ka tp sh fi ik, gW cI la G, aI cI fi 7 (up F 0 (F 0 + 1))]) rfl (fun _ => rfl) (fun _ => rfl) 0 0 rfl rfl rfl rfl hl.1 rfl (lv_room (Nat.le_of_ble_eq_true rfl)) dX4_now_155 ⟨Nat.zero_le _, Nat.zero_le _⟩ (fun _ H locs _ hW => ?_)
    exact rt_i hQ hx hb hr hlocks hW dX4_now_158 () (by (try simp only [nowV]); (repeat' split) <;> first | rfl | (exact congrArg (fun z => some (Value.int (nI z))) (by omega)) | (exfalso; omega)) trivial (by (try simp only [nowF]); (repeat' split) <;> first | rfl | (exfalso; omega))
abbrev rmX4_mother : Room := { frames := 1, cells := 0, slots := 0, locals := 24 }
set_option maxRecDepth 100000 in
set_option maxHeartbeats 4000000 in
theorem M_X4_mother (l : Launch) (D : va_G) (cI cJ : ClassId) (x fi ik : Nat) (la ta ka tp sh : Nat → Nat) (G F : Nat → Nat) (hG : OkG 99999 G) (v : Int32) : CE E0 l D vwCl [(cI, .int), (cJ, .long)] yX4_mother wsX4_mother rmX4_mother [.ref x, .int v] [xH x la ta ka tp sh fi ik, gW cI la G, aI cI fi 7 F] (S := Unit) (some (.int (motherV G v.toInt))) (fun _ => True) (fun _ : Unit => [xH x la ta ka tp sh fi ik, gW cI la (motherG G v.toInt), aI cI fi 7 (motherF G F v.toInt)]) 0 0 := by
  refine CE.ofW (cc := cX4_mother) (maxL := 2) (ret := (some .int)) (lv := [(0, .ref x), (1, .int v)]) (by decide) rfl (Nat.le_of_ble_eq_true rfl) rfl ?_
  intro p e s m args below meth c ls A Q hQ hx hb hml hr hlocks hnm hown hts hK hA hE hW hl
  have hown : s.vm.findClass RX4 = some m.cls := hown
  obtain ⟨hg0, hg8, hg16, hg16b, hg24, hg32, hg40, hg48⟩ := hG.s
  refine lv_iload_n hx hb dX4_mother_0 rfl (lv_at hl 1 rfl) ?_
  refine cl_Si (As := [.int v]) (rest := []) ⟨hx, hb, hml, hown, hts⟩ (M_X1_isKind l D cI cJ v) (va_cwS 1 hts gX4_mother_X1_isKind rfl rfl rfl qX1_isKind ⟨Nat.le_of_ble_eq_true rfl, Nat.le_of_ble_eq_true rfl⟩) E0_good hK hA hW trivial [] (fun _ => [xH x la ta ka tp sh fi ik, gW cI la G, aI cI fi 7 F]) rfl (fun _ => rfl) (fun _ => rfl) rfl hl.1 rfl (lv_room (Nat.le_of_ble_eq_true rfl)) dX4_mother_1 ⟨Nat.zero_le _, Nat.zero_le _⟩ (fun _ H locs _ hW => ?_)
  have him_ := inN_or v 6
  refine nn_zne (tgt := 14) hx hb dX4_mother_4 (by decide) (by omega) (fun c4 => ?_) (fun c4 => ?_)
  · refine lv_aload_n hx hb dX4_mother_14 rfl (lv_at hl 0 rfl) ?_
    refine sg_get (ci := 3) (C := RX4) (T := TX4) (N := 7) (v := .ref (la 0)) hx hb hts (fun _ h => List.mem_cons_of_mem _ (List.mem_append_left _ (List.mem_append_right _ h))) hown hK hW 0 0 rfl rfl rfl 0 (by decide) (hts _ (List.mem_of_getElem? (i := 2) rfl)) rfl dX4_mother_15 ?_
    refine sg_get (ci := 0) (C := RX0) (T := TX0) (N := 14) (v := .int (nI (G 40))) hx hb hts (fun _ h => List.mem_cons_of_mem _ (List.mem_append_right _ h)) hown hK hW 1 0 rfl rfl rfl 5 (by decide) (hts _ (List.mem_of_getElem? (i := 3) rfl)) rfl dX4_mother_18 ?_
    refine lv_bipush (v := nI 8) hx hb dX4_mother_21 (by decide +kernel) ?_
    refine nn_clt (tgt := 33) hx hb dX4_mother_23 (by decide) (by omega) (by decide) (fun c23 => ?_) (fun c23 => ?_)
    · obtain ⟨j, hj, ej⟩ : ∃ j : Nat, v = nI j ∧ v.toInt = (j : Int) := ⟨v.toInt.toNat, nI_ofZ rfl (by omega), by omega⟩
      rw [hj] at hl
      refine lv_aload_n hx hb dX4_mother_33 rfl (lv_at hl 0 rfl) ?_
      refine sg_get (ci := 3) (C := RX4) (T := TX4) (N := 7) (v := .ref (la 0)) hx hb hts (fun _ h => List.mem_cons_of_mem _ (List.mem_append_left _ (List.mem_append_right _ h))) hown hK hW 0 0 rfl rfl rfl 0 (by decide) (hts _ (List.mem_of_getElem? (i := 2) rfl)) rfl dX4_mother_34 ?_
      refine lv_iload_n hx hb dX4_mother_37 rfl (lv_at hl 1 rfl) ?_
      refine lv_bipush (v := nI 10) hx hb dX4_mother_38 (by decide +kernel) ?_
      refine lv_iconst (v := nI 0) hx hb dX4_mother_40 (by decide +kernel) ?_
      refine cl_Vi (As := [.int (nI j), .int (nI 10), .int (nI 0)]) (rest := []) (C := RX0) ⟨hx, hb, hml, hown, hts⟩ (M_X0_addMother l D cI cJ la G 99999 (by decide) hG j 10 0 (by omega)) (cwV 3 hts gX4_mother_X0_addMother rfl rfl rfl qX0_addMother ⟨Nat.le_of_ble_eq_true rfl, Nat.le_of_ble_eq_true rfl⟩) E0_good hK hA hW trivial [false, true] (fun _ => [xH x la ta ka tp sh fi ik, gW cI la (addM G j 10 0), aI cI fi 7 F]) rfl (fun _ => rfl) (fun _ => rfl) 1 0 rfl rfl rfl rfl hl.1 rfl (lv_room (Nat.le_of_ble_eq_true rfl)) dX4_mother_41 ⟨Nat.zero_le _, Nat.zero_le _⟩ (fun _ H locs _ hW => ?_)
      exact rt_i hQ hx hb hr hlocks hW dX4_mother_44 () (by (try simp only [motherV, ej, Int.toNat_natCast]); (repeat' split) <;> first | rfl | (exfalso; omega)) trivial (by (try simp only [motherG, motherF, ej, Int.toNat_natCast]); (repeat' split) <;> first | rfl | (exfalso; omega))
    · refine lv_aload_n hx hb dX4_mother_26 rfl (lv_at hl 0 rfl) ?_
      refine lv_ldc (v := -1000000002) hx hb hown (hts _ (List.mem_of_getElem? (i := 4) rfl)) dX4_mother_27 ?_
      refine cl_Vi (As := [.int (-1000000002)]) (rest := []) (C := RX4) ⟨hx, hb, hml, hown, hts⟩ (M_X4_tell l D cI cJ x fi ik la ta ka tp sh F 1 (by decide) (-1000000002) (by decide +kernel)) (cwV 1 hts gX4_mother_X4_tell rfl rfl rfl qX4_tell ⟨Nat.le_of_ble_eq_true rfl, Nat.le_of_ble_eq_true rfl⟩) E0_good hK hA hW trivial [true, false, true] (fun _ => [xH x la ta ka tp sh fi ik, gW cI la G, aI cI fi 7 (up F 1 (F 1 + 1))]) rfl (fun _ => rfl) (fun _ => rfl) 0 0 rfl rfl rfl rfl hl.1 rfl (lv_room (Nat.le_of_ble_eq_true rfl)) dX4_mother_29 ⟨Nat.zero_le _, Nat.zero_le _⟩ (fun _ H locs _ hW => ?_)
      exact rt_i hQ hx hb hr hlocks hW dX4_mother_32 () (by (try simp only [motherV]); (repeat' split) <;> first | rfl | (exfalso; omega)) trivial (by (try simp only [motherG, motherF]); (repeat' split) <;> first | rfl | (exfalso; omega))
  · refine lv_aload_n hx hb dX4_mother_7 rfl (lv_at hl 0 rfl) ?_
    refine lv_ldc (v := -1000000001) hx hb hown (hts _ (List.mem_of_getElem? (i := 1) rfl)) dX4_mother_8 ?_
    refine cl_Vi (As := [.int (-1000000001)]) (rest := []) (C := RX4) ⟨hx, hb, hml, hown, hts⟩ (M_X4_tell l D cI cJ x fi ik la ta ka tp sh F 0 (by decide) (-1000000001) (by decide +kernel)) (cwV 1 hts gX4_mother_X4_tell rfl rfl rfl qX4_tell ⟨Nat.le_of_ble_eq_true rfl, Nat.le_of_ble_eq_true rfl⟩) E0_good hK hA hW trivial [true, false, true] (fun _ => [xH x la ta ka tp sh fi ik, gW cI la G, aI cI fi 7 (up F 0 (F 0 + 1))]) rfl (fun _ => rfl) (fun _ => rfl) 0 0 rfl rfl rfl rfl hl.1 rfl (lv_room (Nat.le_of_ble_eq_true rfl)) dX4_mother_10 ⟨Nat.zero_le _, Nat.zero_le _⟩ (fun _ H locs _ hW => ?_)
    exact rt_i hQ hx hb hr hlocks hW dX4_mother_13 () (by (try simp only [motherV]); (repeat' split) <;> first | rfl | (exfalso; omega)) trivial (by (try simp only [motherG, motherF]); (repeat' split) <;> first | rfl | (exfalso; omega))
abbrev rmX4_of : Room := { frames := 2, cells := 0, slots := 0, locals := 50 }
set_option maxRecDepth 100000 in
set_option maxHeartbeats 4000000 in
theorem M_X4_of (l : Launch) (D : va_G) (cI cJ : ClassId) (x fi ik : Nat) (la ta ka tp sh : Nat → Nat) (G F : Nat → Nat) (hG : OkG 99999 G) (v w : Int32) : CE E0 l D vwCl [(cI, .int), (cJ, .long)] yX4_of wsX4_of rmX4_of [.ref x, .int v, .int w] [xH x la ta ka tp sh fi ik, gW cI la G, aI cI fi 7 F] (S := Unit) (some (.int (ofV G v.toInt w.toInt))) (fun _ => True) (fun _ : Unit => [xH x la ta ka tp sh fi ik, gW cI la (G), aI cI fi 7 (ofF G F v.toInt w.toInt)]) 0 0 := by
  refine CE.ofW (cc := cX4_of) (maxL := 3) (ret := (some .int)) (lv := [(0, .ref x), (1, .int v), (2, .int w)]) (by decide) rfl (Nat.le_of_ble_eq_true rfl) rfl ?_
  intro p e s m args below meth c ls A Q hQ hx hb hml hr hlocks hnm hown hts hK hA hE hW hl
  have hown : s.vm.findClass RX4 = some m.cls := hown
  obtain ⟨hg0, hg8, hg16, hg16b, hg24, hg32, hg40, hg48⟩ := hG.s
  refine lv_aload_n hx hb dX4_of_0 rfl (lv_at hl 0 rfl) ?_
  refine sg_get (ci := 3) (C := RX4) (T := TX4) (N := 7) (v := .ref (la 0)) hx hb hts (fun _ h => List.mem_cons_of_mem _ (List.mem_append_left _ (List.mem_append_right _ h))) hown hK hW 0 0 rfl rfl rfl 0 (by decide) (hts _ (List.mem_of_getElem? (i := 1) rfl)) rfl dX4_of_1 ?_
  refine lv_iload_n hx hb dX4_of_4 rfl (lv_at hl 1 rfl) ?_
  refine cl_Vi (As := [.int v]) (rest := []) (C := RX0) ⟨hx, hb, hml, hown, hts⟩ (M_X0_hasMother l D cI cJ la G 99999 (by decide) hG v) (cwV 1 hts gX4_of_X0_hasMother rfl rfl rfl qX0_hasMother ⟨Nat.le_of_ble_eq_true rfl, Nat.le_of_ble_eq_true rfl⟩) E0_good hK hA hW trivial [false, true] (fun _ => [xH x la ta ka tp sh fi ik, gW cI la G, aI cI fi 7 F]) rfl (fun _ => rfl) (fun _ => rfl) 1 0 rfl rfl rfl rfl hl.1 rfl (lv_room (Nat.le_of_ble_eq_true rfl)) dX4_of_5 ⟨Nat.zero_le _, Nat.zero_le _⟩ (fun _ H locs _ hW => ?_)
  have him_ := inN_or v (G 40)
  refine nn_zne (tgt := 18) hx hb dX4_of_8 (by decide) (by omega) (fun c8 => ?_) (fun c8 => ?_)
  · obtain ⟨j, hj, ej⟩ : ∃ j : Nat, v = nI j ∧ v.toInt = (j : Int) := ⟨v.toInt.toNat, nI_ofZ rfl (by omega), by omega⟩
    rw [hj] at hl
    have hmj := hG.m j (by omega)
    have hoj := outC_ge (G := G) (i := j) (by omega)
    have hoc8 := outC_le hG
    refine lv_iload_n hx hb dX4_of_18 rfl (lv_at hl 2 rfl) ?_
    rcases (show w.toInt = 0 ∨ w.toInt = 1 ∨ w.toInt = 2 ∨ w.toInt = 3 ∨ w.toInt = 4 ∨ w.toInt = 5 ∨ w.toInt = 6 ∨ (w.toInt < 0 ∨ 6 < w.toInt) by omega) with c19 | c19 | c19 | c19 | c19 | c19 | c19 | c19
    · refine zz_tsI (off := 41) (tgt := 60) hx hb dX4_of_19 (rfl : w.toInt = w.toInt) 0 (by omega) (by omega) rfl (by decide) ?_
      refine lv_aload_n hx hb dX4_of_60 rfl (lv_at hl 0 rfl) ?_
      refine sg_get (ci := 3) (C := RX4) (T := TX4) (N := 7) (v := .ref (la 0)) hx hb hts (fun _ h => List.mem_cons_of_mem _ (List.mem_append_left _ (List.mem_append_right _ h))) hown hK hW 0 0 rfl rfl rfl 0 (by decide) (hts _ (List.mem_of_getElem? (i := 1) rfl)) rfl dX4_of_61 ?_
      refine sg_get (ci := 0) (C := RX0) (T := TX0) (N := 14) (v := .ref (la 1)) hx hb hts (fun _ h => List.mem_cons_of_mem _ (List.mem_append_right _ h)) hown hK hW 1 0 rfl rfl rfl 6 (by decide) (hts _ (List.mem_of_getElem? (i := 3) rfl)) rfl dX4_of_64 ?_
      refine lv_iload_n hx hb dX4_of_67 rfl (lv_at hl 1 rfl) ?_
      refine sg_ild (v := nI (G (8 * j + 1))) hx hb hK hW 1 1 0 rfl rfl rfl (by omega) (by decide) rfl dX4_of_68 ?_
      exact rt_i hQ hx hb hr hlocks hW dX4_of_69 () (by (try simp only [ofV, speaksN, ej, Int.toNat_natCast]); (repeat' split) <;> first | rfl | (exact congrArg (fun z => some (Value.int (nI z))) (by omega)) | (exfalso; omega)) trivial (by (try simp only [ofF, ej, Int.toNat_natCast]); (repeat' split) <;> first | rfl | (exfalso; omega))
    · refine zz_tsI (off := 51) (tgt := 70) hx hb dX4_of_19 (rfl : w.toInt = w.toInt) 1 (by omega) (by omega) rfl (by decide) ?_
      refine lv_aload_n hx hb dX4_of_70 rfl (lv_at hl 0 rfl) ?_
      refine sg_get (ci := 3) (C := RX4) (T := TX4) (N := 7) (v := .ref (la 0)) hx hb hts (fun _ h => List.mem_cons_of_mem _ (List.mem_append_left _ (List.mem_append_right _ h))) hown hK hW 0 0 rfl rfl rfl 0 (by decide) (hts _ (List.mem_of_getElem? (i := 1) rfl)) rfl dX4_of_71 ?_
      refine sg_get (ci := 0) (C := RX0) (T := TX0) (N := 14) (v := .ref (la 2)) hx hb hts (fun _ h => List.mem_cons_of_mem _ (List.mem_append_right _ h)) hown hK hW 1 0 rfl rfl rfl 7 (by decide) (hts _ (List.mem_of_getElem? (i := 4) rfl)) rfl dX4_of_74 ?_
      refine lv_iload_n hx hb dX4_of_77 rfl (lv_at hl 1 rfl) ?_
      refine sg_ild (v := nI (G (8 * j + 2))) hx hb hK hW 1 2 0 rfl rfl rfl (by omega) (by decide) rfl dX4_of_78 ?_
      exact rt_i hQ hx hb hr hlocks hW dX4_of_79 () (by (try simp only [ofV, speaksN, ej, Int.toNat_natCast]); (repeat' split) <;> first | rfl | (exact congrArg (fun z => some (Value.int (nI z))) (by omega)) | (exfalso; omega)) trivial (by (try simp only [ofF, ej, Int.toNat_natCast]); (repeat' split) <;> first | rfl | (exfalso; omega))
    · refine zz_tsI (off := 61) (tgt := 80) hx hb dX4_of_19 (rfl : w.toInt = w.toInt) 2 (by omega) (by omega) rfl (by decide) ?_
      refine lv_aload_n hx hb dX4_of_80 rfl (lv_at hl 0 rfl) ?_
      refine sg_get (ci := 3) (C := RX4) (T := TX4) (N := 7) (v := .ref (la 0)) hx hb hts (fun _ h => List.mem_cons_of_mem _ (List.mem_append_left _ (List.mem_append_right _ h))) hown hK hW 0 0 rfl rfl rfl 0 (by decide) (hts _ (List.mem_of_getElem? (i := 1) rfl)) rfl dX4_of_81 ?_
      refine sg_get (ci := 0) (C := RX0) (T := TX0) (N := 14) (v := .ref (la 3)) hx hb hts (fun _ h => List.mem_cons_of_mem _ (List.mem_append_right _ h)) hown hK hW 1 0 rfl rfl rfl 8 (by decide) (hts _ (List.mem_of_getElem? (i := 5) rfl)) rfl dX4_of_84 ?_
      refine lv_iload_n hx hb dX4_of_87 rfl (lv_at hl 1 rfl) ?_
      refine sg_ild (v := nI (G (8 * j + 3))) hx hb hK hW 1 3 0 rfl rfl rfl (by omega) (by decide) rfl dX4_of_88 ?_
      exact rt_i hQ hx hb hr hlocks hW dX4_of_89 () (by (try simp only [ofV, speaksN, ej, Int.toNat_natCast]); (repeat' split) <;> first | rfl | (exact congrArg (fun z => some (Value.int (nI z))) (by omega)) | (exfalso; omega)) trivial (by (try simp only [ofF, ej, Int.toNat_natCast]); (repeat' split) <;> first | rfl | (exfalso; omega))
    · refine zz_tsI (off := 71) (tgt := 90) hx hb dX4_of_19 (rfl : w.toInt = w.toInt) 3 (by omega) (by omega) rfl (by decide) ?_
      refine lv_aload_n hx hb dX4_of_90 rfl (lv_at hl 0 rfl) ?_
      refine sg_get (ci := 3) (C := RX4) (T := TX4) (N := 7) (v := .ref (la 0)) hx hb hts (fun _ h => List.mem_cons_of_mem _ (List.mem_append_left _ (List.mem_append_right _ h))) hown hK hW 0 0 rfl rfl rfl 0 (by decide) (hts _ (List.mem_of_getElem? (i := 1) rfl)) rfl dX4_of_91 ?_
      refine sg_get (ci := 0) (C := RX0) (T := TX0) (N := 14) (v := .ref (la 4)) hx hb hts (fun _ h => List.mem_cons_of_mem _ (List.mem_append_right _ h)) hown hK hW 1 0 rfl rfl rfl 9 (by decide) (hts _ (List.mem_of_getElem? (i := 6) rfl)) rfl dX4_of_94 ?_
      refine lv_iload_n hx hb dX4_of_97 rfl (lv_at hl 1 rfl) ?_
      refine sg_ild (v := nI (G (8 * j + 4))) hx hb hK hW 1 4 0 rfl rfl rfl (by omega) (by decide) rfl dX4_of_98 ?_
      exact rt_i hQ hx hb hr hlocks hW dX4_of_99 () (by (try simp only [ofV, speaksN, ej, Int.toNat_natCast]); (repeat' split) <;> first | rfl | (exact congrArg (fun z => some (Value.int (nI z))) (by omega)) | (exfalso; omega)) trivial (by (try simp only [ofF, ej, Int.toNat_natCast]); (repeat' split) <;> first | rfl | (exfalso; omega))
    · refine zz_tsI (off := 81) (tgt := 100) hx hb dX4_of_19 (rfl : w.toInt = w.toInt) 4 (by omega) (by omega) rfl (by decide) ?_
      refine lv_aload_n hx hb dX4_of_100 rfl (lv_at hl 0 rfl) ?_
      refine sg_get (ci := 3) (C := RX4) (T := TX4) (N := 7) (v := .ref (la 0)) hx hb hts (fun _ h => List.mem_cons_of_mem _ (List.mem_append_left _ (List.mem_append_right _ h))) hown hK hW 0 0 rfl rfl rfl 0 (by decide) (hts _ (List.mem_of_getElem? (i := 1) rfl)) rfl dX4_of_101 ?_
      refine lv_iload_n hx hb dX4_of_104 rfl (lv_at hl 1 rfl) ?_
      refine lv_aload_n hx hb dX4_of_105 rfl (lv_at hl 0 rfl) ?_
      refine sg_get (ci := 3) (C := RX4) (T := TX4) (N := 7) (v := .ref (la 0)) hx hb hts (fun _ h => List.mem_cons_of_mem _ (List.mem_append_left _ (List.mem_append_right _ h))) hown hK hW 0 0 rfl rfl rfl 0 (by decide) (hts _ (List.mem_of_getElem? (i := 1) rfl)) rfl dX4_of_106 ?_
      refine cl_Vi (As := []) (rest := [.int (nI j), .ref (la 0)]) (C := RX0) ⟨hx, hb, hml, hown, hts⟩ (M_X0_outCount l D cI cJ la G 99999 (by decide) hG) (cwV 0 hts gX4_of_X0_outCount rfl rfl rfl qX0_outCount ⟨Nat.le_of_ble_eq_true rfl, Nat.le_of_ble_eq_true rfl⟩) E0_good hK hA hW trivial [false, true] (fun _ => [xH x la ta ka tp sh fi ik, gW cI la G, aI cI fi 7 F]) rfl (fun _ => rfl) (fun _ => rfl) 1 0 rfl rfl rfl rfl hl.1 rfl (lv_room (Nat.le_of_ble_eq_true rfl)) dX4_of_109 ⟨Nat.zero_le _, Nat.zero_le _⟩ (fun _ H locs _ hW => ?_)
      refine lv_aload_n hx hb dX4_of_112 rfl (lv_at hl 0 rfl) ?_
      refine sg_get (ci := 3) (C := RX4) (T := TX4) (N := 7) (v := .ref (la 0)) hx hb hts (fun _ h => List.mem_cons_of_mem _ (List.mem_append_left _ (List.mem_append_right _ h))) hown hK hW 0 0 rfl rfl rfl 0 (by decide) (hts _ (List.mem_of_getElem? (i := 1) rfl)) rfl dX4_of_113 ?_
      refine cl_Vi (As := []) (rest := [.int (nI (outC G)), .int (nI j), .ref (la 0)]) (C := RX0) ⟨hx, hb, hml, hown, hts⟩ (M_X0_isNight l D cI cJ la G 99999 (by decide) hG) (cwV 0 hts gX4_of_X0_isNight rfl rfl rfl qX0_isNight ⟨Nat.le_of_ble_eq_true rfl, Nat.le_of_ble_eq_true rfl⟩) E0_good hK hA hW trivial [false, true] (fun _ => [xH x la ta ka tp sh fi ik, gW cI la G, aI cI fi 7 F]) rfl (fun _ => rfl) (fun _ => rfl) 1 0 rfl rfl rfl rfl hl.1 rfl (lv_room (Nat.le_of_ble_eq_true rfl)) dX4_of_116 ⟨Nat.zero_le _, Nat.zero_le _⟩ (fun _ H locs _ hW => ?_)
      have hle_ := nightN_le G
      refine cl_Vi (As := [.int (nI j), .int (nI (outC G)), .int (nI (nightN G))]) (rest := []) (C := RX0) ⟨hx, hb, hml, hown, hts⟩ (M_X0_keepsNow l D cI cJ la G 99999 (by decide) hG j (outC G) (nightN G) (by omega) (by omega) (by omega) (by omega)) (cwV 3 hts gX4_of_X0_keepsNow rfl rfl rfl qX0_keepsNow ⟨Nat.le_of_ble_eq_true rfl, Nat.le_of_ble_eq_true rfl⟩) E0_good hK hA hW trivial [false, true] (fun _ => [xH x la ta ka tp sh fi ik, gW cI la G, aI cI fi 7 F]) rfl (fun _ => rfl) (fun _ => rfl) 1 0 rfl rfl rfl rfl hl.1 rfl (lv_room (Nat.le_of_ble_eq_true rfl)) dX4_of_119 ⟨Nat.zero_le _, Nat.zero_le _⟩ (fun _ H locs _ hW => ?_)
      exact rt_i hQ hx hb hr hlocks hW dX4_of_122 () (by (try simp only [ofV, speaksN, ej, Int.toNat_natCast]); (repeat' split) <;> first | rfl | (exact congrArg (fun z => some (Value.int (nI z))) (by omega)) | (exfalso; omega)) trivial (by (try simp only [ofF, ej, Int.toNat_natCast]); (repeat' split) <;> first | rfl | (exfalso; omega))
    · refine zz_tsI (off := 104) (tgt := 123) hx hb dX4_of_19 (rfl : w.toInt = w.toInt) 5 (by omega) (by omega) rfl (by decide) ?_
      refine lv_aload_n hx hb dX4_of_123 rfl (lv_at hl 0 rfl) ?_
      refine sg_get (ci := 3) (C := RX4) (T := TX4) (N := 7) (v := .ref (la 0)) hx hb hts (fun _ h => List.mem_cons_of_mem _ (List.mem_append_left _ (List.mem_append_right _ h))) hown hK hW 0 0 rfl rfl rfl 0 (by decide) (hts _ (List.mem_of_getElem? (i := 1) rfl)) rfl dX4_of_124 ?_
      refine lv_iload_n hx hb dX4_of_127 rfl (lv_at hl 1 rfl) ?_
      refine lv_aload_n hx hb dX4_of_128 rfl (lv_at hl 0 rfl) ?_
      refine sg_get (ci := 3) (C := RX4) (T := TX4) (N := 7) (v := .ref (la 0)) hx hb hts (fun _ h => List.mem_cons_of_mem _ (List.mem_append_left _ (List.mem_append_right _ h))) hown hK hW 0 0 rfl rfl rfl 0 (by decide) (hts _ (List.mem_of_getElem? (i := 1) rfl)) rfl dX4_of_129 ?_
      refine cl_Vi (As := []) (rest := [.int (nI j), .ref (la 0)]) (C := RX0) ⟨hx, hb, hml, hown, hts⟩ (M_X0_outCount l D cI cJ la G 99999 (by decide) hG) (cwV 0 hts gX4_of_X0_outCount rfl rfl rfl qX0_outCount ⟨Nat.le_of_ble_eq_true rfl, Nat.le_of_ble_eq_true rfl⟩) E0_good hK hA hW trivial [false, true] (fun _ => [xH x la ta ka tp sh fi ik, gW cI la G, aI cI fi 7 F]) rfl (fun _ => rfl) (fun _ => rfl) 1 0 rfl rfl rfl rfl hl.1 rfl (lv_room (Nat.le_of_ble_eq_true rfl)) dX4_of_132 ⟨Nat.zero_le _, Nat.zero_le _⟩ (fun _ H locs _ hW => ?_)
      refine lv_aload_n hx hb dX4_of_135 rfl (lv_at hl 0 rfl) ?_
      refine sg_get (ci := 3) (C := RX4) (T := TX4) (N := 7) (v := .ref (la 0)) hx hb hts (fun _ h => List.mem_cons_of_mem _ (List.mem_append_left _ (List.mem_append_right _ h))) hown hK hW 0 0 rfl rfl rfl 0 (by decide) (hts _ (List.mem_of_getElem? (i := 1) rfl)) rfl dX4_of_136 ?_
      refine cl_Vi (As := []) (rest := [.int (nI (outC G)), .int (nI j), .ref (la 0)]) (C := RX0) ⟨hx, hb, hml, hown, hts⟩ (M_X0_isNight l D cI cJ la G 99999 (by decide) hG) (cwV 0 hts gX4_of_X0_isNight rfl rfl rfl qX0_isNight ⟨Nat.le_of_ble_eq_true rfl, Nat.le_of_ble_eq_true rfl⟩) E0_good hK hA hW trivial [false, true] (fun _ => [xH x la ta ka tp sh fi ik, gW cI la G, aI cI fi 7 F]) rfl (fun _ => rfl) (fun _ => rfl) 1 0 rfl rfl rfl rfl hl.1 rfl (lv_room (Nat.le_of_ble_eq_true rfl)) dX4_of_139 ⟨Nat.zero_le _, Nat.zero_le _⟩ (fun _ H locs _ hW => ?_)
      have hle_ := nightN_le G
      refine cl_Vi (As := [.int (nI j), .int (nI (outC G)), .int (nI (nightN G))]) (rest := []) (C := RX0) ⟨hx, hb, hml, hown, hts⟩ (M_X0_speaksNow l D cI cJ la G 99999 (by decide) hG j (outC G) (nightN G) (by omega) (by omega) (by omega) (by omega)) (cwV 3 hts gX4_of_X0_speaksNow rfl rfl rfl qX0_speaksNow ⟨Nat.le_of_ble_eq_true rfl, Nat.le_of_ble_eq_true rfl⟩) E0_good hK hA hW trivial [false, true] (fun _ => [xH x la ta ka tp sh fi ik, gW cI la G, aI cI fi 7 F]) rfl (fun _ => rfl) (fun _ => rfl) 1 0 rfl rfl rfl rfl hl.1 rfl (lv_room (Nat.le_of_ble_eq_true rfl)) dX4_of_142 ⟨Nat.zero_le _, Nat.zero_le _⟩ (fun _ H locs _ hW => ?_)
      have hspk : speakK (G (8 * j + 1)) (G (8 * j + 4)) ((outC G) - G (8 * j + 2)) (nightN G) (G 24) ≤ 1 := speakK_le _ _ _ _ _
      refine nn_zeq (tgt := 152) hx hb dX4_of_145 (by decide) (by omega) (fun c145 => ?_) (fun c145 => ?_)
      · refine lv_iconst (v := nI 0) hx hb dX4_of_152 (by decide +kernel) ?_
        exact rt_i hQ hx hb hr hlocks hW dX4_of_153 () (by (try simp only [ofV, speaksN, ej, Int.toNat_natCast]); (repeat' split) <;> first | rfl | (exact congrArg (fun z => some (Value.int (nI z))) (by omega)) | (exfalso; omega)) trivial (by (try simp only [ofF, ej, Int.toNat_natCast]); (repeat' split) <;> first | rfl | (exfalso; omega))
      · refine lv_iconst (v := nI 1) hx hb dX4_of_148 (by decide +kernel) ?_
        refine lv_goto (tgt := 153) hx hb dX4_of_149 (by decide) ?_
        exact rt_i hQ hx hb hr hlocks hW dX4_of_153 () (by (try simp only [ofV, speaksN, ej, Int.toNat_natCast]); (repeat' split) <;> first | rfl | (exact congrArg (fun z => some (Value.int (nI z))) (by omega)) | (exfalso; omega)) trivial (by (try simp only [ofF, ej, Int.toNat_natCast]); (repeat' split) <;> first | rfl | (exfalso; omega))
    · refine zz_tsI (off := 135) (tgt := 154) hx hb dX4_of_19 (rfl : w.toInt = w.toInt) 6 (by omega) (by omega) rfl (by decide) ?_
      refine lv_aload_n hx hb dX4_of_154 rfl (lv_at hl 0 rfl) ?_
      refine sg_get (ci := 3) (C := RX4) (T := TX4) (N := 7) (v := .ref (la 0)) hx hb hts (fun _ h => List.mem_cons_of_mem _ (List.mem_append_left _ (List.mem_append_right _ h))) hown hK hW 0 0 rfl rfl rfl 0 (by decide) (hts _ (List.mem_of_getElem? (i := 1) rfl)) rfl dX4_of_155 ?_
      refine sg_get (ci := 0) (C := RX0) (T := TX0) (N := 14) (v := .ref (la 1)) hx hb hts (fun _ h => List.mem_cons_of_mem _ (List.mem_append_right _ h)) hown hK hW 1 0 rfl rfl rfl 6 (by decide) (hts _ (List.mem_of_getElem? (i := 3) rfl)) rfl dX4_of_158 ?_
      refine lv_iload_n hx hb dX4_of_161 rfl (lv_at hl 1 rfl) ?_
      refine sg_ild (v := nI (G (8 * j + 1))) hx hb hK hW 1 1 0 rfl rfl rfl (by omega) (by decide) rfl dX4_of_162 ?_
      refine cl_Si (As := [.int (nI (G (8 * j + 1)))]) (rest := []) ⟨hx, hb, hml, hown, hts⟩ (M_X1_tells l D cI cJ (G (8 * j + 1)) (by omega)) (va_cwS 1 hts gX4_of_X1_tells rfl rfl rfl qX1_tells ⟨Nat.le_of_ble_eq_true rfl, Nat.le_of_ble_eq_true rfl⟩) E0_good hK hA hW trivial [] (fun _ => [xH x la ta ka tp sh fi ik, gW cI la G, aI cI fi 7 F]) rfl (fun _ => rfl) (fun _ => rfl) rfl hl.1 rfl (lv_room (Nat.le_of_ble_eq_true rfl)) dX4_of_163 ⟨Nat.zero_le _, Nat.zero_le _⟩ (fun _ H locs _ hW => ?_)
      exact rt_i hQ hx hb hr hlocks hW dX4_of_166 () (by (try simp only [ofV, speaksN, ej, Int.toNat_natCast]); (repeat' split) <;> first | rfl | (exact congrArg (fun z => some (Value.int (nI z))) (by omega)) | (exfalso; omega)) trivial (by (try simp only [ofF, ej, Int.toNat_natCast]); (repeat' split) <;> first | rfl | (exfalso; omega))
    · refine zz_tsO (tgt := 167) hx hb dX4_of_19 (rfl : w.toInt = w.toInt) (by omega) (by decide) ?_
      refine lv_aload_n hx hb dX4_of_167 rfl (lv_at hl 0 rfl) ?_
      refine lv_ldc (v := -1000000001) hx hb hown (hts _ (List.mem_of_getElem? (i := 2) rfl)) dX4_of_168 ?_
      refine cl_Vi (As := [.int (-1000000001)]) (rest := []) (C := RX4) ⟨hx, hb, hml, hown, hts⟩ (M_X4_tell l D cI cJ x fi ik la ta ka tp sh F 0 (by decide) (-1000000001) (by decide +kernel)) (cwV 1 hts gX4_of_X4_tell rfl rfl rfl qX4_tell ⟨Nat.le_of_ble_eq_true rfl, Nat.le_of_ble_eq_true rfl⟩) E0_good hK hA hW trivial [true, false, true] (fun _ => [xH x la ta ka tp sh fi ik, gW cI la G, aI cI fi 7 (up F 0 (F 0 + 1))]) rfl (fun _ => rfl) (fun _ => rfl) 0 0 rfl rfl rfl rfl hl.1 rfl (lv_room (Nat.le_of_ble_eq_true rfl)) dX4_of_170 ⟨Nat.zero_le _, Nat.zero_le _⟩ (fun _ H locs _ hW => ?_)
      exact rt_i hQ hx hb hr hlocks hW dX4_of_173 () (by (try simp only [ofV, speaksN, ej, Int.toNat_natCast]); (repeat' split) <;> first | rfl | (exact congrArg (fun z => some (Value.int (nI z))) (by omega)) | (exfalso; omega)) trivial (by (try simp only [ofF, ej, Int.toNat_natCast]); (repeat' split) <;> first | rfl | (exfalso; omega))
  · refine lv_aload_n hx hb dX4_of_11 rfl (lv_at hl 0 rfl) ?_
    refine lv_ldc (v := -1000000001) hx hb hown (hts _ (List.mem_of_getElem? (i := 2) rfl)) dX4_of_12 ?_
    refine cl_Vi (As := [.int (-1000000001)]) (rest := []) (C := RX4) ⟨hx, hb, hml, hown, hts⟩ (M_X4_tell l D cI cJ x fi ik la ta ka tp sh F 0 (by decide) (-1000000001) (by decide +kernel)) (cwV 1 hts gX4_of_X4_tell rfl rfl rfl qX4_tell ⟨Nat.le_of_ble_eq_true rfl, Nat.le_of_ble_eq_true rfl⟩) E0_good hK hA hW trivial [true, false, true] (fun _ => [xH x la ta ka tp sh fi ik, gW cI la G, aI cI fi 7 (up F 0 (F 0 + 1))]) rfl (fun _ => rfl) (fun _ => rfl) 0 0 rfl rfl rfl rfl hl.1 rfl (lv_room (Nat.le_of_ble_eq_true rfl)) dX4_of_14 ⟨Nat.zero_le _, Nat.zero_le _⟩ (fun _ H locs _ hW => ?_)
    exact rt_i hQ hx hb hr hlocks hW dX4_of_17 () (by (try simp only [ofV, speaksN]); (repeat' split) <;> first | rfl | (exact congrArg (fun z => some (Value.int (nI z))) (by omega)) | (exfalso; omega)) trivial (by (try simp only [ofF]); (repeat' split) <;> first | rfl | (exfalso; omega))
abbrev rmX4_set : Room := { frames := 1, cells := 0, slots := 0, locals := 22 }
set_option maxRecDepth 100000 in
set_option maxHeartbeats 4000000 in
theorem M_X4_set (l : Launch) (D : va_G) (cI cJ : ClassId) (x fi ik : Nat) (la ta ka tp sh : Nat → Nat) (G F : Nat → Nat) (hG : OkG 99999 G) (v w z : Int32) : CE E0 l D vwCl [(cI, .int), (cJ, .long)] yX4_set wsX4_set rmX4_set [.ref x, .int v, .int w, .int z] [xH x la ta ka tp sh fi ik, gW cI la G, aI cI fi 7 F] (S := Unit) (some (.int (setV G v.toInt w.toInt z.toInt))) (fun _ => True) (fun _ : Unit => [xH x la ta ka tp sh fi ik, gW cI la (setG G v.toInt w.toInt z.toInt), aI cI fi 7 (setF G F v.toInt w.toInt z.toInt)]) 0 0 := by
  refine CE.ofW (cc := cX4_set) (maxL := 5) (ret := (some .int)) (lv := [(0, .ref x), (1, .int v), (2, .int w), (3, .int z)]) (by decide) rfl (Nat.le_of_ble_eq_true rfl) rfl ?_
  intro p e s m args below meth c ls A Q hQ hx hb hml hr hlocks hnm hown hts hK hA hE hW hl
  have hown : s.vm.findClass RX4 = some m.cls := hown
  obtain ⟨hg0, hg8, hg16, hg16b, hg24, hg32, hg40, hg48⟩ := hG.s
  refine lv_aload_n hx hb dX4_set_0 rfl (lv_at hl 0 rfl) ?_
  refine sg_get (ci := 3) (C := RX4) (T := TX4) (N := 7) (v := .ref (la 0)) hx hb hts (fun _ h => List.mem_cons_of_mem _ (List.mem_append_left _ (List.mem_append_right _ h))) hown hK hW 0 0 rfl rfl rfl 0 (by decide) (hts _ (List.mem_of_getElem? (i := 1) rfl)) rfl dX4_set_1 ?_
  refine lv_iload_n hx hb dX4_set_4 rfl (lv_at hl 1 rfl) ?_
  refine cl_Vi (As := [.int v]) (rest := []) (C := RX0) ⟨hx, hb, hml, hown, hts⟩ (M_X0_hasMother l D cI cJ la G 99999 (by decide) hG v) (cwV 1 hts gX4_set_X0_hasMother rfl rfl rfl qX0_hasMother ⟨Nat.le_of_ble_eq_true rfl, Nat.le_of_ble_eq_true rfl⟩) E0_good hK hA hW trivial [false, true] (fun _ => [xH x la ta ka tp sh fi ik, gW cI la G, aI cI fi 7 F]) rfl (fun _ => rfl) (fun _ => rfl) 1 0 rfl rfl rfl rfl hl.1 rfl (lv_room (Nat.le_of_ble_eq_true rfl)) dX4_set_5 ⟨Nat.zero_le _, Nat.zero_le _⟩ (fun _ H locs _ hW => ?_)
  have him_ := inN_or v (G 40)
  refine nn_zne (tgt := 18) hx hb dX4_set_8 (by decide) (by omega) (fun c8 => ?_) (fun c8 => ?_)
  · obtain ⟨j, hj, ej⟩ : ∃ j : Nat, v = nI j ∧ v.toInt = (j : Int) := ⟨v.toInt.toNat, nI_ofZ rfl (by omega), by omega⟩
    rw [hj] at hl
    refine lv_iload_n hx hb dX4_set_18 rfl (lv_at hl 2 rfl) ?_
    refine lv_iconst (v := nI 2) hx hb dX4_set_19 (by decide +kernel) ?_
    refine zz_cne (tgt := 57) hx hb dX4_set_20 (by decide) (rfl : w.toInt = w.toInt) (nI_toInt (n := 2) (by decide)) (fun c20 => ?_) (fun c20 => ?_)
    · refine lv_iload_n hx hb dX4_set_57 rfl (lv_at hl 2 rfl) ?_
      refine lv_iconst (v := nI 3) hx hb dX4_set_58 (by decide +kernel) ?_
      refine zz_cne (tgt := 97) hx hb dX4_set_59 (by decide) (rfl : w.toInt = w.toInt) (nI_toInt (n := 3) (by decide)) (fun c59 => ?_) (fun c59 => ?_)
      · refine lv_aload_n hx hb dX4_set_97 rfl (lv_at hl 0 rfl) ?_
        refine lv_ldc (v := -1000000001) hx hb hown (hts _ (List.mem_of_getElem? (i := 2) rfl)) dX4_set_98 ?_
        refine cl_Vi (As := [.int (-1000000001)]) (rest := []) (C := RX4) ⟨hx, hb, hml, hown, hts⟩ (M_X4_tell l D cI cJ x fi ik la ta ka tp sh F 0 (by decide) (-1000000001) (by decide +kernel)) (cwV 1 hts gX4_set_X4_tell rfl rfl rfl qX4_tell ⟨Nat.le_of_ble_eq_true rfl, Nat.le_of_ble_eq_true rfl⟩) E0_good hK hA hW trivial [true, false, true] (fun _ => [xH x la ta ka tp sh fi ik, gW cI la G, aI cI fi 7 (up F 0 (F 0 + 1))]) rfl (fun _ => rfl) (fun _ => rfl) 0 0 rfl rfl rfl rfl hl.1 rfl (lv_room (Nat.le_of_ble_eq_true rfl)) dX4_set_100 ⟨Nat.zero_le _, Nat.zero_le _⟩ (fun _ H locs _ hW => ?_)
        exact rt_i hQ hx hb hr hlocks hW dX4_set_103 () (by (try simp only [setV, ej, Int.toNat_natCast]); (repeat' split) <;> first | rfl | (exfalso; omega)) trivial (by (try simp only [setG, setF, ej, Int.toNat_natCast]); (repeat' split) <;> first | rfl | (exfalso; omega))
      · refine lv_iload_n hx hb dX4_set_62 rfl (lv_at hl 3 rfl) ?_
        refine zz_zlt (tgt := 97) hx hb dX4_set_63 (by decide) (rfl : z.toInt = z.toInt) (fun c63 => ?_) (fun c63 => ?_)
        · refine lv_aload_n hx hb dX4_set_97 rfl (lv_at hl 0 rfl) ?_
          refine lv_ldc (v := -1000000001) hx hb hown (hts _ (List.mem_of_getElem? (i := 2) rfl)) dX4_set_98 ?_
          refine cl_Vi (As := [.int (-1000000001)]) (rest := []) (C := RX4) ⟨hx, hb, hml, hown, hts⟩ (M_X4_tell l D cI cJ x fi ik la ta ka tp sh F 0 (by decide) (-1000000001) (by decide +kernel)) (cwV 1 hts gX4_set_X4_tell rfl rfl rfl qX4_tell ⟨Nat.le_of_ble_eq_true rfl, Nat.le_of_ble_eq_true rfl⟩) E0_good hK hA hW trivial [true, false, true] (fun _ => [xH x la ta ka tp sh fi ik, gW cI la G, aI cI fi 7 (up F 0 (F 0 + 1))]) rfl (fun _ => rfl) (fun _ => rfl) 0 0 rfl rfl rfl rfl hl.1 rfl (lv_room (Nat.le_of_ble_eq_true rfl)) dX4_set_100 ⟨Nat.zero_le _, Nat.zero_le _⟩ (fun _ H locs _ hW => ?_)
          exact rt_i hQ hx hb hr hlocks hW dX4_set_103 () (by (try simp only [setV, ej, Int.toNat_natCast]); (repeat' split) <;> first | rfl | (exfalso; omega)) trivial (by (try simp only [setG, setF, ej, Int.toNat_natCast]); (repeat' split) <;> first | rfl | (exfalso; omega))
        · refine lv_iload_n hx hb dX4_set_66 rfl (lv_at hl 3 rfl) ?_
          refine lv_sipush (v := nI 999) hx hb dX4_set_67 (by decide +kernel) ?_
          refine zz_cgt (tgt := 97) hx hb dX4_set_70 (by decide) (rfl : z.toInt = z.toInt) (nI_toInt (n := 999) (by decide)) (fun c70 => ?_) (fun c70 => ?_)
          · refine lv_aload_n hx hb dX4_set_97 rfl (lv_at hl 0 rfl) ?_
            refine lv_ldc (v := -1000000001) hx hb hown (hts _ (List.mem_of_getElem? (i := 2) rfl)) dX4_set_98 ?_
            refine cl_Vi (As := [.int (-1000000001)]) (rest := []) (C := RX4) ⟨hx, hb, hml, hown, hts⟩ (M_X4_tell l D cI cJ x fi ik la ta ka tp sh F 0 (by decide) (-1000000001) (by decide +kernel)) (cwV 1 hts gX4_set_X4_tell rfl rfl rfl qX4_tell ⟨Nat.le_of_ble_eq_true rfl, Nat.le_of_ble_eq_true rfl⟩) E0_good hK hA hW trivial [true, false, true] (fun _ => [xH x la ta ka tp sh fi ik, gW cI la G, aI cI fi 7 (up F 0 (F 0 + 1))]) rfl (fun _ => rfl) (fun _ => rfl) 0 0 rfl rfl rfl rfl hl.1 rfl (lv_room (Nat.le_of_ble_eq_true rfl)) dX4_set_100 ⟨Nat.zero_le _, Nat.zero_le _⟩ (fun _ H locs _ hW => ?_)
            exact rt_i hQ hx hb hr hlocks hW dX4_set_103 () (by (try simp only [setV, ej, Int.toNat_natCast]); (repeat' split) <;> first | rfl | (exfalso; omega)) trivial (by (try simp only [setG, setF, ej, Int.toNat_natCast]); (repeat' split) <;> first | rfl | (exfalso; omega))
          · obtain ⟨y, hy, ey⟩ : ∃ y : Nat, z = nI y ∧ z.toInt = (y : Int) := ⟨z.toInt.toNat, nI_ofZ rfl (by omega), by omega⟩
            rw [hy] at hl
            refine lv_aload_n hx hb dX4_set_73 rfl (lv_at hl 0 rfl) ?_
            refine sg_get (ci := 3) (C := RX4) (T := TX4) (N := 7) (v := .ref (la 0)) hx hb hts (fun _ h => List.mem_cons_of_mem _ (List.mem_append_left _ (List.mem_append_right _ h))) hown hK hW 0 0 rfl rfl rfl 0 (by decide) (hts _ (List.mem_of_getElem? (i := 1) rfl)) rfl dX4_set_74 ?_
            refine sg_get (ci := 0) (C := RX0) (T := TX0) (N := 14) (v := .ref (la 4)) hx hb hts (fun _ h => List.mem_cons_of_mem _ (List.mem_append_right _ h)) hown hK hW 1 0 rfl rfl rfl 9 (by decide) (hts _ (List.mem_of_getElem? (i := 4) rfl)) rfl dX4_set_77 ?_
            refine lv_iload_n hx hb dX4_set_80 rfl (lv_at hl 1 rfl) ?_
            refine sg_ild (v := nI (G (8 * j + 4))) hx hb hK hW 1 4 0 rfl rfl rfl (by omega) (by decide) rfl dX4_set_81 ?_
            refine lv_istore (lv' := [(4, .int (nI (G (8 * j + 4)))), (0, .ref x), (1, .int (nI j)), (2, .int w), (3, .int (nI y))]) hx hb dX4_set_82 hl (by decide) rfl (fun ls hl => ?_)
            refine lv_aload_n hx hb dX4_set_84 rfl (lv_at hl 1 rfl) ?_
            refine sg_get (ci := 3) (C := RX4) (T := TX4) (N := 7) (v := .ref (la 0)) hx hb hts (fun _ h => List.mem_cons_of_mem _ (List.mem_append_left _ (List.mem_append_right _ h))) hown hK hW 0 0 rfl rfl rfl 0 (by decide) (hts _ (List.mem_of_getElem? (i := 1) rfl)) rfl dX4_set_85 ?_
            refine sg_get (ci := 0) (C := RX0) (T := TX0) (N := 14) (v := .ref (la 4)) hx hb hts (fun _ h => List.mem_cons_of_mem _ (List.mem_append_right _ h)) hown hK hW 1 0 rfl rfl rfl 9 (by decide) (hts _ (List.mem_of_getElem? (i := 4) rfl)) rfl dX4_set_88 ?_
            refine lv_iload_n hx hb dX4_set_91 rfl (lv_at hl 2 rfl) ?_
            refine lv_iload_n hx hb dX4_set_92 rfl (lv_at hl 4 rfl) ?_
            refine sg_ist hx hb hK hW 1 4 0 rfl rfl rfl (by omega) (by decide) (gW_r4 cI la G j y) (ss' := [xH x la ta ka tp sh fi ik, gW cI la (up G (8 * j + 4) y), aI cI fi 7 F]) rfl dX4_set_93 (fun H locs hW => ?_)
            refine lv_iload hx hb dX4_set_94 (lv_at hl 0 rfl) ?_
            exact rt_i hQ hx hb hr hlocks hW dX4_set_96 () (by (try simp only [setV, ej, ey, Int.toNat_natCast]); (repeat' split) <;> first | rfl | (exfalso; omega)) trivial (by (try simp only [setG, setF, ej, ey, Int.toNat_natCast]); (repeat' split) <;> first | rfl | (exfalso; omega))
    · refine lv_iload_n hx hb dX4_set_23 rfl (lv_at hl 3 rfl) ?_
      refine zz_zlt (tgt := 57) hx hb dX4_set_24 (by decide) (rfl : z.toInt = z.toInt) (fun c24 => ?_) (fun c24 => ?_)
      · refine lv_iload_n hx hb dX4_set_57 rfl (lv_at hl 2 rfl) ?_
        refine lv_iconst (v := nI 3) hx hb dX4_set_58 (by decide +kernel) ?_
        refine zz_cne (tgt := 97) hx hb dX4_set_59 (by decide) (rfl : w.toInt = w.toInt) (nI_toInt (n := 3) (by decide)) (fun c59_1 => ?_) (fun c59_1 => ?_)
        · refine lv_aload_n hx hb dX4_set_97 rfl (lv_at hl 0 rfl) ?_
          refine lv_ldc (v := -1000000001) hx hb hown (hts _ (List.mem_of_getElem? (i := 2) rfl)) dX4_set_98 ?_
          refine cl_Vi (As := [.int (-1000000001)]) (rest := []) (C := RX4) ⟨hx, hb, hml, hown, hts⟩ (M_X4_tell l D cI cJ x fi ik la ta ka tp sh F 0 (by decide) (-1000000001) (by decide +kernel)) (cwV 1 hts gX4_set_X4_tell rfl rfl rfl qX4_tell ⟨Nat.le_of_ble_eq_true rfl, Nat.le_of_ble_eq_true rfl⟩) E0_good hK hA hW trivial [true, false, true] (fun _ => [xH x la ta ka tp sh fi ik, gW cI la G, aI cI fi 7 (up F 0 (F 0 + 1))]) rfl (fun _ => rfl) (fun _ => rfl) 0 0 rfl rfl rfl rfl hl.1 rfl (lv_room (Nat.le_of_ble_eq_true rfl)) dX4_set_100 ⟨Nat.zero_le _, Nat.zero_le _⟩ (fun _ H locs _ hW => ?_)
          exact rt_i hQ hx hb hr hlocks hW dX4_set_103 () (by (try simp only [setV, ej, Int.toNat_natCast]); (repeat' split) <;> first | rfl | (exfalso; omega)) trivial (by (try simp only [setG, setF, ej, Int.toNat_natCast]); (repeat' split) <;> first | rfl | (exfalso; omega))
        · refine lv_iload_n hx hb dX4_set_62 rfl (lv_at hl 3 rfl) ?_
          refine zz_zlt (tgt := 97) hx hb dX4_set_63 (by decide) (rfl : z.toInt = z.toInt) (fun c63_1 => ?_) (fun c63_1 => ?_)
          · refine lv_aload_n hx hb dX4_set_97 rfl (lv_at hl 0 rfl) ?_
            refine lv_ldc (v := -1000000001) hx hb hown (hts _ (List.mem_of_getElem? (i := 2) rfl)) dX4_set_98 ?_
            refine cl_Vi (As := [.int (-1000000001)]) (rest := []) (C := RX4) ⟨hx, hb, hml, hown, hts⟩ (M_X4_tell l D cI cJ x fi ik la ta ka tp sh F 0 (by decide) (-1000000001) (by decide +kernel)) (cwV 1 hts gX4_set_X4_tell rfl rfl rfl qX4_tell ⟨Nat.le_of_ble_eq_true rfl, Nat.le_of_ble_eq_true rfl⟩) E0_good hK hA hW trivial [true, false, true] (fun _ => [xH x la ta ka tp sh fi ik, gW cI la G, aI cI fi 7 (up F 0 (F 0 + 1))]) rfl (fun _ => rfl) (fun _ => rfl) 0 0 rfl rfl rfl rfl hl.1 rfl (lv_room (Nat.le_of_ble_eq_true rfl)) dX4_set_100 ⟨Nat.zero_le _, Nat.zero_le _⟩ (fun _ H locs _ hW => ?_)
            exact rt_i hQ hx hb hr hlocks hW dX4_set_103 () (by (try simp only [setV, ej, Int.toNat_natCast]); (repeat' split) <;> first | rfl | (exfalso; omega)) trivial (by (try simp only [setG, setF, ej, Int.toNat_natCast]); (repeat' split) <;> first | rfl | (exfalso; omega))
          · refine lv_iload_n hx hb dX4_set_66 rfl (lv_at hl 3 rfl) ?_
            refine lv_sipush (v := nI 999) hx hb dX4_set_67 (by decide +kernel) ?_
            refine zz_cgt (tgt := 97) hx hb dX4_set_70 (by decide) (rfl : z.toInt = z.toInt) (nI_toInt (n := 999) (by decide)) (fun c70_1 => ?_) (fun c70_1 => ?_)
            · refine lv_aload_n hx hb dX4_set_97 rfl (lv_at hl 0 rfl) ?_
              refine lv_ldc (v := -1000000001) hx hb hown (hts _ (List.mem_of_getElem? (i := 2) rfl)) dX4_set_98 ?_
              refine cl_Vi (As := [.int (-1000000001)]) (rest := []) (C := RX4) ⟨hx, hb, hml, hown, hts⟩ (M_X4_tell l D cI cJ x fi ik la ta ka tp sh F 0 (by decide) (-1000000001) (by decide +kernel)) (cwV 1 hts gX4_set_X4_tell rfl rfl rfl qX4_tell ⟨Nat.le_of_ble_eq_true rfl, Nat.le_of_ble_eq_true rfl⟩) E0_good hK hA hW trivial [true, false, true] (fun _ => [xH x la ta ka tp sh fi ik, gW cI la G, aI cI fi 7 (up F 0 (F 0 + 1))]) rfl (fun _ => rfl) (fun _ => rfl) 0 0 rfl rfl rfl rfl hl.1 rfl (lv_room (Nat.le_of_ble_eq_true rfl)) dX4_set_100 ⟨Nat.zero_le _, Nat.zero_le _⟩ (fun _ H locs _ hW => ?_)
              exact rt_i hQ hx hb hr hlocks hW dX4_set_103 () (by (try simp only [setV, ej, Int.toNat_natCast]); (repeat' split) <;> first | rfl | (exfalso; omega)) trivial (by (try simp only [setG, setF, ej, Int.toNat_natCast]); (repeat' split) <;> first | rfl | (exfalso; omega))
            · obtain ⟨y, hy, ey⟩ : ∃ y : Nat, z = nI y ∧ z.toInt = (y : Int) := ⟨z.toInt.toNat, nI_ofZ rfl (by omega), by omega⟩
              rw [hy] at hl
              refine lv_aload_n hx hb dX4_set_73 rfl (lv_at hl 0 rfl) ?_
              refine sg_get (ci := 3) (C := RX4) (T := TX4) (N := 7) (v := .ref (la 0)) hx hb hts (fun _ h => List.mem_cons_of_mem _ (List.mem_append_left _ (List.mem_append_right _ h))) hown hK hW 0 0 rfl rfl rfl 0 (by decide) (hts _ (List.mem_of_getElem? (i := 1) rfl)) rfl dX4_set_74 ?_
              refine sg_get (ci := 0) (C := RX0) (T := TX0) (N := 14) (v := .ref (la 4)) hx hb hts (fun _ h => List.mem_cons_of_mem _ (List.mem_append_right _ h)) hown hK hW 1 0 rfl rfl rfl 9 (by decide) (hts _ (List.mem_of_getElem? (i := 4) rfl)) rfl dX4_set_77 ?_
              refine lv_iload_n hx hb dX4_set_80 rfl (lv_at hl 1 rfl) ?_
              refine sg_ild (v := nI (G (8 * j + 4))) hx hb hK hW 1 4 0 rfl rfl rfl (by omega) (by decide) rfl dX4_set_81 ?_
              refine lv_istore (lv' := [(4, .int (nI (G (8 * j + 4)))), (0, .ref x), (1, .int (nI j)), (2, .int w), (3, .int (nI y))]) hx hb dX4_set_82 hl (by decide) rfl (fun ls hl => ?_)
              refine lv_aload_n hx hb dX4_set_84 rfl (lv_at hl 1 rfl) ?_
              refine sg_get (ci := 3) (C := RX4) (T := TX4) (N := 7) (v := .ref (la 0)) hx hb hts (fun _ h => List.mem_cons_of_mem _ (List.mem_append_left _ (List.mem_append_right _ h))) hown hK hW 0 0 rfl rfl rfl 0 (by decide) (hts _ (List.mem_of_getElem? (i := 1) rfl)) rfl dX4_set_85 ?_
              refine sg_get (ci := 0) (C := RX0) (T := TX0) (N := 14) (v := .ref (la 4)) hx hb hts (fun _ h => List.mem_cons_of_mem _ (List.mem_append_right _ h)) hown hK hW 1 0 rfl rfl rfl 9 (by decide) (hts _ (List.mem_of_getElem? (i := 4) rfl)) rfl dX4_set_88 ?_
              refine lv_iload_n hx hb dX4_set_91 rfl (lv_at hl 2 rfl) ?_
              refine lv_iload_n hx hb dX4_set_92 rfl (lv_at hl 4 rfl) ?_
              refine sg_ist hx hb hK hW 1 4 0 rfl rfl rfl (by omega) (by decide) (gW_r4 cI la G j y) (ss' := [xH x la ta ka tp sh fi ik, gW cI la (up G (8 * j + 4) y), aI cI fi 7 F]) rfl dX4_set_93 (fun H locs hW => ?_)
              refine lv_iload hx hb dX4_set_94 (lv_at hl 0 rfl) ?_
              exact rt_i hQ hx hb hr hlocks hW dX4_set_96 () (by (try simp only [setV, ej, ey, Int.toNat_natCast]); (repeat' split) <;> first | rfl | (exfalso; omega)) trivial (by (try simp only [setG, setF, ej, ey, Int.toNat_natCast]); (repeat' split) <;> first | rfl | (exfalso; omega))
      · refine lv_iload_n hx hb dX4_set_27 rfl (lv_at hl 3 rfl) ?_
        refine lv_bipush (v := nI 99) hx hb dX4_set_28 (by decide +kernel) ?_
        refine zz_cgt (tgt := 57) hx hb dX4_set_30 (by decide) (rfl : z.toInt = z.toInt) (nI_toInt (n := 99) (by decide)) (fun c30 => ?_) (fun c30 => ?_)
        · refine lv_iload_n hx hb dX4_set_57 rfl (lv_at hl 2 rfl) ?_
          refine lv_iconst (v := nI 3) hx hb dX4_set_58 (by decide +kernel) ?_
          refine zz_cne (tgt := 97) hx hb dX4_set_59 (by decide) (rfl : w.toInt = w.toInt) (nI_toInt (n := 3) (by decide)) (fun c59_2 => ?_) (fun c59_2 => ?_)
          · refine lv_aload_n hx hb dX4_set_97 rfl (lv_at hl 0 rfl) ?_
            refine lv_ldc (v := -1000000001) hx hb hown (hts _ (List.mem_of_getElem? (i := 2) rfl)) dX4_set_98 ?_
            refine cl_Vi (As := [.int (-1000000001)]) (rest := []) (C := RX4) ⟨hx, hb, hml, hown, hts⟩ (M_X4_tell l D cI cJ x fi ik la ta ka tp sh F 0 (by decide) (-1000000001) (by decide +kernel)) (cwV 1 hts gX4_set_X4_tell rfl rfl rfl qX4_tell ⟨Nat.le_of_ble_eq_true rfl, Nat.le_of_ble_eq_true rfl⟩) E0_good hK hA hW trivial [true, false, true] (fun _ => [xH x la ta ka tp sh fi ik, gW cI la G, aI cI fi 7 (up F 0 (F 0 + 1))]) rfl (fun _ => rfl) (fun _ => rfl) 0 0 rfl rfl rfl rfl hl.1 rfl (lv_room (Nat.le_of_ble_eq_true rfl)) dX4_set_100 ⟨Nat.zero_le _, Nat.zero_le _⟩ (fun _ H locs _ hW => ?_)
            exact rt_i hQ hx hb hr hlocks hW dX4_set_103 () (by (try simp only [setV, ej, Int.toNat_natCast]); (repeat' split) <;> first | rfl | (exfalso; omega)) trivial (by (try simp only [setG, setF, ej, Int.toNat_natCast]); (repeat' split) <;> first | rfl | (exfalso; omega))
          · refine lv_iload_n hx hb dX4_set_62 rfl (lv_at hl 3 rfl) ?_
            refine zz_zlt (tgt := 97) hx hb dX4_set_63 (by decide) (rfl : z.toInt = z.toInt) (fun c63_2 => ?_) (fun c63_2 => ?_)
            · refine lv_aload_n hx hb dX4_set_97 rfl (lv_at hl 0 rfl) ?_
              refine lv_ldc (v := -1000000001) hx hb hown (hts _ (List.mem_of_getElem? (i := 2) rfl)) dX4_set_98 ?_
              refine cl_Vi (As := [.int (-1000000001)]) (rest := []) (C := RX4) ⟨hx, hb, hml, hown, hts⟩ (M_X4_tell l D cI cJ x fi ik la ta ka tp sh F 0 (by decide) (-1000000001) (by decide +kernel)) (cwV 1 hts gX4_set_X4_tell rfl rfl rfl qX4_tell ⟨Nat.le_of_ble_eq_true rfl, Nat.le_of_ble_eq_true rfl⟩) E0_good hK hA hW trivial [true, false, true] (fun _ => [xH x la ta ka tp sh fi ik, gW cI la G, aI cI fi 7 (up F 0 (F 0 + 1))]) rfl (fun _ => rfl) (fun _ => rfl) 0 0 rfl rfl rfl rfl hl.1 rfl (lv_room (Nat.le_of_ble_eq_true rfl)) dX4_set_100 ⟨Nat.zero_le _, Nat.zero_le _⟩ (fun _ H locs _ hW => ?_)
              exact rt_i hQ hx hb hr hlocks hW dX4_set_103 () (by (try simp only [setV, ej, Int.toNat_natCast]); (repeat' split) <;> first | rfl | (exfalso; omega)) trivial (by (try simp only [setG, setF, ej, Int.toNat_natCast]); (repeat' split) <;> first | rfl | (exfalso; omega))
            · refine lv_iload_n hx hb dX4_set_66 rfl (lv_at hl 3 rfl) ?_
              refine lv_sipush (v := nI 999) hx hb dX4_set_67 (by decide +kernel) ?_
              refine zz_cgt (tgt := 97) hx hb dX4_set_70 (by decide) (rfl : z.toInt = z.toInt) (nI_toInt (n := 999) (by decide)) (fun c70_2 => ?_) (fun c70_2 => ?_)
              · refine lv_aload_n hx hb dX4_set_97 rfl (lv_at hl 0 rfl) ?_
                refine lv_ldc (v := -1000000001) hx hb hown (hts _ (List.mem_of_getElem? (i := 2) rfl)) dX4_set_98 ?_
                refine cl_Vi (As := [.int (-1000000001)]) (rest := []) (C := RX4) ⟨hx, hb, hml, hown, hts⟩ (M_X4_tell l D cI cJ x fi ik la ta ka tp sh F 0 (by decide) (-1000000001) (by decide +kernel)) (cwV 1 hts gX4_set_X4_tell rfl rfl rfl qX4_tell ⟨Nat.le_of_ble_eq_true rfl, Nat.le_of_ble_eq_true rfl⟩) E0_good hK hA hW trivial [true, false, true] (fun _ => [xH x la ta ka tp sh fi ik, gW cI la G, aI cI fi 7 (up F 0 (F 0 + 1))]) rfl (fun _ => rfl) (fun _ => rfl) 0 0 rfl rfl rfl rfl hl.1 rfl (lv_room (Nat.le_of_ble_eq_true rfl)) dX4_set_100 ⟨Nat.zero_le _, Nat.zero_le _⟩ (fun _ H locs _ hW => ?_)
                exact rt_i hQ hx hb hr hlocks hW dX4_set_103 () (by (try simp only [setV, ej, Int.toNat_natCast]); (repeat' split) <;> first | rfl | (exfalso; omega)) trivial (by (try simp only [setG, setF, ej, Int.toNat_natCast]); (repeat' split) <;> first | rfl | (exfalso; omega))
              · obtain ⟨y, hy, ey⟩ : ∃ y : Nat, z = nI y ∧ z.toInt = (y : Int) := ⟨z.toInt.toNat, nI_ofZ rfl (by omega), by omega⟩
                rw [hy] at hl
                refine lv_aload_n hx hb dX4_set_73 rfl (lv_at hl 0 rfl) ?_
                refine sg_get (ci := 3) (C := RX4) (T := TX4) (N := 7) (v := .ref (la 0)) hx hb hts (fun _ h => List.mem_cons_of_mem _ (List.mem_append_left _ (List.mem_append_right _ h))) hown hK hW 0 0 rfl rfl rfl 0 (by decide) (hts _ (List.mem_of_getElem? (i := 1) rfl)) rfl dX4_set_74 ?_
                refine sg_get (ci := 0) (C := RX0) (T := TX0) (N := 14) (v := .ref (la 4)) hx hb hts (fun _ h => List.mem_cons_of_mem _ (List.mem_append_right _ h)) hown hK hW 1 0 rfl rfl rfl 9 (by decide) (hts _ (List.mem_of_getElem? (i := 4) rfl)) rfl dX4_set_77 ?_
                refine lv_iload_n hx hb dX4_set_80 rfl (lv_at hl 1 rfl) ?_
                refine sg_ild (v := nI (G (8 * j + 4))) hx hb hK hW 1 4 0 rfl rfl rfl (by omega) (by decide) rfl dX4_set_81 ?_
                refine lv_istore (lv' := [(4, .int (nI (G (8 * j + 4)))), (0, .ref x), (1, .int (nI j)), (2, .int w), (3, .int (nI y))]) hx hb dX4_set_82 hl (by decide) rfl (fun ls hl => ?_)
                refine lv_aload_n hx hb dX4_set_84 rfl (lv_at hl 1 rfl) ?_
                refine sg_get (ci := 3) (C := RX4) (T := TX4) (N := 7) (v := .ref (la 0)) hx hb hts (fun _ h => List.mem_cons_of_mem _ (List.mem_append_left _ (List.mem_append_right _ h))) hown hK hW 0 0 rfl rfl rfl 0 (by decide) (hts _ (List.mem_of_getElem? (i := 1) rfl)) rfl dX4_set_85 ?_
                refine sg_get (ci := 0) (C := RX0) (T := TX0) (N := 14) (v := .ref (la 4)) hx hb hts (fun _ h => List.mem_cons_of_mem _ (List.mem_append_right _ h)) hown hK hW 1 0 rfl rfl rfl 9 (by decide) (hts _ (List.mem_of_getElem? (i := 4) rfl)) rfl dX4_set_88 ?_
                refine lv_iload_n hx hb dX4_set_91 rfl (lv_at hl 2 rfl) ?_
                refine lv_iload_n hx hb dX4_set_92 rfl (lv_at hl 4 rfl) ?_
                refine sg_ist hx hb hK hW 1 4 0 rfl rfl rfl (by omega) (by decide) (gW_r4 cI la G j y) (ss' := [xH x la ta ka tp sh fi ik, gW cI la (up G (8 * j + 4) y), aI cI fi 7 F]) rfl dX4_set_93 (fun H locs hW => ?_)
                refine lv_iload hx hb dX4_set_94 (lv_at hl 0 rfl) ?_
                exact rt_i hQ hx hb hr hlocks hW dX4_set_96 () (by (try simp only [setV, ej, ey, Int.toNat_natCast]); (repeat' split) <;> first | rfl | (exfalso; omega)) trivial (by (try simp only [setG, setF, ej, ey, Int.toNat_natCast]); (repeat' split) <;> first | rfl | (exfalso; omega))
        · obtain ⟨y, hy, ey⟩ : ∃ y : Nat, z = nI y ∧ z.toInt = (y : Int) := ⟨z.toInt.toNat, nI_ofZ rfl (by omega), by omega⟩
          rw [hy] at hl
          refine lv_aload_n hx hb dX4_set_33 rfl (lv_at hl 0 rfl) ?_
          refine sg_get (ci := 3) (C := RX4) (T := TX4) (N := 7) (v := .ref (la 0)) hx hb hts (fun _ h => List.mem_cons_of_mem _ (List.mem_append_left _ (List.mem_append_right _ h))) hown hK hW 0 0 rfl rfl rfl 0 (by decide) (hts _ (List.mem_of_getElem? (i := 1) rfl)) rfl dX4_set_34 ?_
          refine sg_get (ci := 0) (C := RX0) (T := TX0) (N := 14) (v := .ref (la 3)) hx hb hts (fun _ h => List.mem_cons_of_mem _ (List.mem_append_right _ h)) hown hK hW 1 0 rfl rfl rfl 8 (by decide) (hts _ (List.mem_of_getElem? (i := 3) rfl)) rfl dX4_set_37 ?_
          refine lv_iload_n hx hb dX4_set_40 rfl (lv_at hl 1 rfl) ?_
          refine sg_ild (v := nI (G (8 * j + 3))) hx hb hK hW 1 3 0 rfl rfl rfl (by omega) (by decide) rfl dX4_set_41 ?_
          refine lv_istore (lv' := [(4, .int (nI (G (8 * j + 3)))), (0, .ref x), (1, .int (nI j)), (2, .int w), (3, .int (nI y))]) hx hb dX4_set_42 hl (by decide) rfl (fun ls hl => ?_)
          refine lv_aload_n hx hb dX4_set_44 rfl (lv_at hl 1 rfl) ?_
          refine sg_get (ci := 3) (C := RX4) (T := TX4) (N := 7) (v := .ref (la 0)) hx hb hts (fun _ h => List.mem_cons_of_mem _ (List.mem_append_left _ (List.mem_append_right _ h))) hown hK hW 0 0 rfl rfl rfl 0 (by decide) (hts _ (List.mem_of_getElem? (i := 1) rfl)) rfl dX4_set_45 ?_
          refine sg_get (ci := 0) (C := RX0) (T := TX0) (N := 14) (v := .ref (la 3)) hx hb hts (fun _ h => List.mem_cons_of_mem _ (List.mem_append_right _ h)) hown hK hW 1 0 rfl rfl rfl 8 (by decide) (hts _ (List.mem_of_getElem? (i := 3) rfl)) rfl dX4_set_48 ?_
          refine lv_iload_n hx hb dX4_set_51 rfl (lv_at hl 2 rfl) ?_
          refine lv_iload_n hx hb dX4_set_52 rfl (lv_at hl 4 rfl) ?_
          refine sg_ist hx hb hK hW 1 3 0 rfl rfl rfl (by omega) (by decide) (gW_r3 cI la G j y) (ss' := [xH x la ta ka tp sh fi ik, gW cI la (up G (8 * j + 3) y), aI cI fi 7 F]) rfl dX4_set_53 (fun H locs hW => ?_)
          refine lv_iload hx hb dX4_set_54 (lv_at hl 0 rfl) ?_
          exact rt_i hQ hx hb hr hlocks hW dX4_set_56 () (by (try simp only [setV, ej, ey, Int.toNat_natCast]); (repeat' split) <;> first | rfl | (exfalso; omega)) trivial (by (try simp only [setG, setF, ej, ey, Int.toNat_natCast]); (repeat' split) <;> first | rfl | (exfalso; omega))
  · refine lv_aload_n hx hb dX4_set_11 rfl (lv_at hl 0 rfl) ?_
    refine lv_ldc (v := -1000000001) hx hb hown (hts _ (List.mem_of_getElem? (i := 2) rfl)) dX4_set_12 ?_
    refine cl_Vi (As := [.int (-1000000001)]) (rest := []) (C := RX4) ⟨hx, hb, hml, hown, hts⟩ (M_X4_tell l D cI cJ x fi ik la ta ka tp sh F 0 (by decide) (-1000000001) (by decide +kernel)) (cwV 1 hts gX4_set_X4_tell rfl rfl rfl qX4_tell ⟨Nat.le_of_ble_eq_true rfl, Nat.le_of_ble_eq_true rfl⟩) E0_good hK hA hW trivial [true, false, true] (fun _ => [xH x la ta ka tp sh fi ik, gW cI la G, aI cI fi 7 (up F 0 (F 0 + 1))]) rfl (fun _ => rfl) (fun _ => rfl) 0 0 rfl rfl rfl rfl hl.1 rfl (lv_room (Nat.le_of_ble_eq_true rfl)) dX4_set_14 ⟨Nat.zero_le _, Nat.zero_le _⟩ (fun _ H locs _ hW => ?_)
    exact rt_i hQ hx hb hr hlocks hW dX4_set_17 () (by (try simp only [setV]); (repeat' split) <;> first | rfl | (exfalso; omega)) trivial (by (try simp only [setG, setF]); (repeat' split) <;> first | rfl | (exfalso; omega))
abbrev rmX4_out : Room := { frames := 1, cells := 0, slots := 0, locals := 22 }
set_option maxRecDepth 100000 in
set_option maxHeartbeats 4000000 in
theorem M_X4_out (l : Launch) (D : va_G) (cI cJ : ClassId) (x fi ik : Nat) (la ta ka tp sh : Nat → Nat) (G F : Nat → Nat) (hG : OkG 99999 G) (v z : Int32) : CE E0 l D vwCl [(cI, .int), (cJ, .long)] yX4_out wsX4_out rmX4_out [.ref x, .int v, .int z] [xH x la ta ka tp sh fi ik, gW cI la G, aI cI fi 7 F] (S := Unit) (some (.int (outV G v.toInt z.toInt))) (fun _ => True) (fun _ : Unit => [xH x la ta ka tp sh fi ik, gW cI la (outG G v.toInt z.toInt), aI cI fi 7 (outF G F v.toInt z.toInt)]) 0 0 := by
  refine CE.ofW (cc := cX4_out) (maxL := 4) (ret := (some .int)) (lv := [(0, .ref x), (1, .int v), (2, .int z)]) (by decide) rfl (Nat.le_of_ble_eq_true rfl) rfl ?_
  intro p e s m args below meth c ls A Q hQ hx hb hml hr hlocks hnm hown hts hK hA hE hW hl
  have hown : s.vm.findClass RX4 = some m.cls := hown
  obtain ⟨hg0, hg8, hg16, hg16b, hg24, hg32, hg40, hg48⟩ := hG.s
  refine lv_aload_n hx hb dX4_out_0 rfl (lv_at hl 0 rfl) ?_
  refine sg_get (ci := 3) (C := RX4) (T := TX4) (N := 7) (v := .ref (la 0)) hx hb hts (fun _ h => List.mem_cons_of_mem _ (List.mem_append_left _ (List.mem_append_right _ h))) hown hK hW 0 0 rfl rfl rfl 0 (by decide) (hts _ (List.mem_of_getElem? (i := 1) rfl)) rfl dX4_out_1 ?_
  refine lv_iload_n hx hb dX4_out_4 rfl (lv_at hl 1 rfl) ?_
  refine cl_Vi (As := [.int v]) (rest := []) (C := RX0) ⟨hx, hb, hml, hown, hts⟩ (M_X0_hasMother l D cI cJ la G 99999 (by decide) hG v) (cwV 1 hts gX4_out_X0_hasMother rfl rfl rfl qX0_hasMother ⟨Nat.le_of_ble_eq_true rfl, Nat.le_of_ble_eq_true rfl⟩) E0_good hK hA hW trivial [false, true] (fun _ => [xH x la ta ka tp sh fi ik, gW cI la G, aI cI fi 7 F]) rfl (fun _ => rfl) (fun _ => rfl) 1 0 rfl rfl rfl rfl hl.1 rfl (lv_room (Nat.le_of_ble_eq_true rfl)) dX4_out_5 ⟨Nat.zero_le _, Nat.zero_le _⟩ (fun _ H locs _ hW => ?_)
  have him_ := inN_or v (G 40)
  refine nn_zeq (tgt := 20) hx hb dX4_out_8 (by decide) (by omega) (fun c8 => ?_) (fun c8 => ?_)
  · refine lv_aload_n hx hb dX4_out_20 rfl (lv_at hl 0 rfl) ?_
    refine lv_ldc (v := -1000000001) hx hb hown (hts _ (List.mem_of_getElem? (i := 2) rfl)) dX4_out_21 ?_
    refine cl_Vi (As := [.int (-1000000001)]) (rest := []) (C := RX4) ⟨hx, hb, hml, hown, hts⟩ (M_X4_tell l D cI cJ x fi ik la ta ka tp sh F 0 (by decide) (-1000000001) (by decide +kernel)) (cwV 1 hts gX4_out_X4_tell rfl rfl rfl qX4_tell ⟨Nat.le_of_ble_eq_true rfl, Nat.le_of_ble_eq_true rfl⟩) E0_good hK hA hW trivial [true, false, true] (fun _ => [xH x la ta ka tp sh fi ik, gW cI la G, aI cI fi 7 (up F 0 (F 0 + 1))]) rfl (fun _ => rfl) (fun _ => rfl) 0 0 rfl rfl rfl rfl hl.1 rfl (lv_room (Nat.le_of_ble_eq_true rfl)) dX4_out_23 ⟨Nat.zero_le _, Nat.zero_le _⟩ (fun _ H locs _ hW => ?_)
    exact rt_i hQ hx hb hr hlocks hW dX4_out_26 () (by (try simp only [outV]); (repeat' split) <;> first | rfl | (exfalso; omega)) trivial (by (try simp only [outG, outF]); (repeat' split) <;> first | rfl | (exfalso; omega))
  · refine lv_iload_n hx hb dX4_out_11 rfl (lv_at hl 2 rfl) ?_
    refine zz_zlt (tgt := 20) hx hb dX4_out_12 (by decide) (rfl : z.toInt = z.toInt) (fun c12 => ?_) (fun c12 => ?_)
    · refine lv_aload_n hx hb dX4_out_20 rfl (lv_at hl 0 rfl) ?_
      refine lv_ldc (v := -1000000001) hx hb hown (hts _ (List.mem_of_getElem? (i := 2) rfl)) dX4_out_21 ?_
      refine cl_Vi (As := [.int (-1000000001)]) (rest := []) (C := RX4) ⟨hx, hb, hml, hown, hts⟩ (M_X4_tell l D cI cJ x fi ik la ta ka tp sh F 0 (by decide) (-1000000001) (by decide +kernel)) (cwV 1 hts gX4_out_X4_tell rfl rfl rfl qX4_tell ⟨Nat.le_of_ble_eq_true rfl, Nat.le_of_ble_eq_true rfl⟩) E0_good hK hA hW trivial [true, false, true] (fun _ => [xH x la ta ka tp sh fi ik, gW cI la G, aI cI fi 7 (up F 0 (F 0 + 1))]) rfl (fun _ => rfl) (fun _ => rfl) 0 0 rfl rfl rfl rfl hl.1 rfl (lv_room (Nat.le_of_ble_eq_true rfl)) dX4_out_23 ⟨Nat.zero_le _, Nat.zero_le _⟩ (fun _ H locs _ hW => ?_)
      exact rt_i hQ hx hb hr hlocks hW dX4_out_26 () (by (try simp only [outV]); (repeat' split) <;> first | rfl | (exfalso; omega)) trivial (by (try simp only [outG, outF]); (repeat' split) <;> first | rfl | (exfalso; omega))
    · refine lv_iload_n hx hb dX4_out_15 rfl (lv_at hl 2 rfl) ?_
      refine lv_iconst (v := nI 1) hx hb dX4_out_16 (by decide +kernel) ?_
      refine zz_cle (tgt := 27) hx hb dX4_out_17 (by decide) (rfl : z.toInt = z.toInt) (nI_toInt (n := 1) (by decide)) (fun c17 => ?_) (fun c17 => ?_)
      · obtain ⟨j, hj, ej⟩ : ∃ j : Nat, v = nI j ∧ v.toInt = (j : Int) := ⟨v.toInt.toNat, nI_ofZ rfl (by omega), by omega⟩
        rw [hj] at hl
        obtain ⟨y, hy, ey⟩ : ∃ y : Nat, z = nI y ∧ z.toInt = (y : Int) := ⟨z.toInt.toNat, nI_ofZ rfl (by omega), by omega⟩
        rw [hy] at hl
        refine lv_aload_n hx hb dX4_out_27 rfl (lv_at hl 0 rfl) ?_
        refine sg_get (ci := 3) (C := RX4) (T := TX4) (N := 7) (v := .ref (la 0)) hx hb hts (fun _ h => List.mem_cons_of_mem _ (List.mem_append_left _ (List.mem_append_right _ h))) hown hK hW 0 0 rfl rfl rfl 0 (by decide) (hts _ (List.mem_of_getElem? (i := 1) rfl)) rfl dX4_out_28 ?_
        refine sg_get (ci := 0) (C := RX0) (T := TX0) (N := 14) (v := .ref (la 2)) hx hb hts (fun _ h => List.mem_cons_of_mem _ (List.mem_append_right _ h)) hown hK hW 1 0 rfl rfl rfl 7 (by decide) (hts _ (List.mem_of_getElem? (i := 3) rfl)) rfl dX4_out_31 ?_
        refine lv_iload_n hx hb dX4_out_34 rfl (lv_at hl 1 rfl) ?_
        refine sg_ild (v := nI (G (8 * j + 2))) hx hb hK hW 1 2 0 rfl rfl rfl (by omega) (by decide) rfl dX4_out_35 ?_
        refine lv_istore_n (lv' := [(3, .int (nI (G (8 * j + 2)))), (0, .ref x), (1, .int (nI j)), (2, .int (nI y))]) hx hb dX4_out_36 rfl hl (by decide) rfl (fun ls hl => ?_)
        refine lv_aload_n hx hb dX4_out_37 rfl (lv_at hl 1 rfl) ?_
        refine sg_get (ci := 3) (C := RX4) (T := TX4) (N := 7) (v := .ref (la 0)) hx hb hts (fun _ h => List.mem_cons_of_mem _ (List.mem_append_left _ (List.mem_append_right _ h))) hown hK hW 0 0 rfl rfl rfl 0 (by decide) (hts _ (List.mem_of_getElem? (i := 1) rfl)) rfl dX4_out_38 ?_
        refine lv_iload_n hx hb dX4_out_41 rfl (lv_at hl 2 rfl) ?_
        refine lv_iload_n hx hb dX4_out_42 rfl (lv_at hl 3 rfl) ?_
        refine cl_Vv (As := [.int (nI j), .int (nI y)]) (rest := []) (C := RX0) ⟨hx, hb, hml, hown, hts⟩ (M_X0_moveMother l D cI cJ la G 99999 (by decide) hG j y (by omega)) (cwV 2 hts gX4_out_X0_moveMother rfl rfl rfl qX0_moveMother ⟨Nat.le_of_ble_eq_true rfl, Nat.le_of_ble_eq_true rfl⟩) E0_good hK hA hW trivial [false, true] (fun _ => [xH x la ta ka tp sh fi ik, gW cI la (moveM G j y), aI cI fi 7 F]) rfl (fun _ => rfl) (fun _ => rfl) 1 0 rfl rfl rfl rfl hl.1 rfl (lv_room (Nat.le_of_ble_eq_true rfl)) dX4_out_43 ⟨Nat.zero_le _, Nat.zero_le _⟩ (fun _ H locs _ hW => ?_)
        refine lv_iload_n hx hb dX4_out_46 rfl (lv_at hl 0 rfl) ?_
        exact rt_i hQ hx hb hr hlocks hW dX4_out_47 () (by (try simp only [outV, ej, ey, Int.toNat_natCast]); (repeat' split) <;> first | rfl | (exfalso; omega)) trivial (by (try simp only [outG, outF, ej, ey, Int.toNat_natCast]); (repeat' split) <;> first | rfl | (exfalso; omega))
      · refine lv_aload_n hx hb dX4_out_20 rfl (lv_at hl 0 rfl) ?_
        refine lv_ldc (v := -1000000001) hx hb hown (hts _ (List.mem_of_getElem? (i := 2) rfl)) dX4_out_21 ?_
        refine cl_Vi (As := [.int (-1000000001)]) (rest := []) (C := RX4) ⟨hx, hb, hml, hown, hts⟩ (M_X4_tell l D cI cJ x fi ik la ta ka tp sh F 0 (by decide) (-1000000001) (by decide +kernel)) (cwV 1 hts gX4_out_X4_tell rfl rfl rfl qX4_tell ⟨Nat.le_of_ble_eq_true rfl, Nat.le_of_ble_eq_true rfl⟩) E0_good hK hA hW trivial [true, false, true] (fun _ => [xH x la ta ka tp sh fi ik, gW cI la G, aI cI fi 7 (up F 0 (F 0 + 1))]) rfl (fun _ => rfl) (fun _ => rfl) 0 0 rfl rfl rfl rfl hl.1 rfl (lv_room (Nat.le_of_ble_eq_true rfl)) dX4_out_23 ⟨Nat.zero_le _, Nat.zero_le _⟩ (fun _ H locs _ hW => ?_)
        exact rt_i hQ hx hb hr hlocks hW dX4_out_26 () (by (try simp only [outV]); (repeat' split) <;> first | rfl | (exfalso; omega)) trivial (by (try simp only [outG, outF]); (repeat' split) <;> first | rfl | (exfalso; omega))
abbrev rmX4_turn : Room := { frames := 1, cells := 0, slots := 0, locals := 22 }
set_option maxRecDepth 100000 in
set_option maxHeartbeats 4000000 in
theorem M_X4_turn (l : Launch) (D : va_G) (cI cJ : ClassId) (x fi ik : Nat) (la ta ka tp sh : Nat → Nat) (G F : Nat → Nat) (hG : OkG 99999 G) (v z : Int32) : CE E0 l D vwCl [(cI, .int), (cJ, .long)] yX4_turn wsX4_turn rmX4_turn [.ref x, .int v, .int z] [xH x la ta ka tp sh fi ik, gW cI la G, aI cI fi 7 F] (S := Unit) (some (.int (turnV G v.toInt z.toInt))) (fun _ => True) (fun _ : Unit => [xH x la ta ka tp sh fi ik, gW cI la (turnG G v.toInt z.toInt), aI cI fi 7 (turnF G F v.toInt z.toInt)]) 0 0 := by
  refine CE.ofW (cc := cX4_turn) (maxL := 4) (ret := (some .int)) (lv := [(0, .ref x), (1, .int v), (2, .int z)]) (by decide) rfl (Nat.le_of_ble_eq_true rfl) rfl ?_
  intro p e s m args below meth c ls A Q hQ hx hb hml hr hlocks hnm hown hts hK hA hE hW hl
  have hown : s.vm.findClass RX4 = some m.cls := hown
  obtain ⟨hg0, hg8, hg16, hg16b, hg24, hg32, hg40, hg48⟩ := hG.s
  refine lv_aload_n hx hb dX4_turn_0 rfl (lv_at hl 0 rfl) ?_
  refine sg_get (ci := 3) (C := RX4) (T := TX4) (N := 7) (v := .ref (la 0)) hx hb hts (fun _ h => List.mem_cons_of_mem _ (List.mem_append_left _ (List.mem_append_right _ h))) hown hK hW 0 0 rfl rfl rfl 0 (by decide) (hts _ (List.mem_of_getElem? (i := 1) rfl)) rfl dX4_turn_1 ?_
  refine lv_iload_n hx hb dX4_turn_4 rfl (lv_at hl 1 rfl) ?_
  refine cl_Vi (As := [.int v]) (rest := []) (C := RX0) ⟨hx, hb, hml, hown, hts⟩ (M_X0_hasMother l D cI cJ la G 99999 (by decide) hG v) (cwV 1 hts gX4_turn_X0_hasMother rfl rfl rfl qX0_hasMother ⟨Nat.le_of_ble_eq_true rfl, Nat.le_of_ble_eq_true rfl⟩) E0_good hK hA hW trivial [false, true] (fun _ => [xH x la ta ka tp sh fi ik, gW cI la G, aI cI fi 7 F]) rfl (fun _ => rfl) (fun _ => rfl) 1 0 rfl rfl rfl rfl hl.1 rfl (lv_room (Nat.le_of_ble_eq_true rfl)) dX4_turn_5 ⟨Nat.zero_le _, Nat.zero_le _⟩ (fun _ H locs _ hW => ?_)
  have him_ := inN_or v (G 40)
  refine nn_zeq (tgt := 18) hx hb dX4_turn_8 (by decide) (by omega) (fun c8 => ?_) (fun c8 => ?_)
  · refine lv_aload_n hx hb dX4_turn_18 rfl (lv_at hl 0 rfl) ?_
    refine lv_ldc (v := -1000000001) hx hb hown (hts _ (List.mem_of_getElem? (i := 2) rfl)) dX4_turn_19 ?_
    refine cl_Vi (As := [.int (-1000000001)]) (rest := []) (C := RX4) ⟨hx, hb, hml, hown, hts⟩ (M_X4_tell l D cI cJ x fi ik la ta ka tp sh F 0 (by decide) (-1000000001) (by decide +kernel)) (cwV 1 hts gX4_turn_X4_tell rfl rfl rfl qX4_tell ⟨Nat.le_of_ble_eq_true rfl, Nat.le_of_ble_eq_true rfl⟩) E0_good hK hA hW trivial [true, false, true] (fun _ => [xH x la ta ka tp sh fi ik, gW cI la G, aI cI fi 7 (up F 0 (F 0 + 1))]) rfl (fun _ => rfl) (fun _ => rfl) 0 0 rfl rfl rfl rfl hl.1 rfl (lv_room (Nat.le_of_ble_eq_true rfl)) dX4_turn_21 ⟨Nat.zero_le _, Nat.zero_le _⟩ (fun _ H locs _ hW => ?_)
    exact rt_i hQ hx hb hr hlocks hW dX4_turn_24 () (by (try simp only [turnV]); (repeat' split) <;> first | rfl | (exfalso; omega)) trivial (by (try simp only [turnG, turnF]); (repeat' split) <;> first | rfl | (exfalso; omega))
  · refine lv_iload_n hx hb dX4_turn_11 rfl (lv_at hl 2 rfl) ?_
    refine cl_Si (As := [.int z]) (rest := []) ⟨hx, hb, hml, hown, hts⟩ (M_X1_isKind l D cI cJ z) (va_cwS 1 hts gX4_turn_X1_isKind rfl rfl rfl qX1_isKind ⟨Nat.le_of_ble_eq_true rfl, Nat.le_of_ble_eq_true rfl⟩) E0_good hK hA hW trivial [] (fun _ => [xH x la ta ka tp sh fi ik, gW cI la G, aI cI fi 7 F]) rfl (fun _ => rfl) (fun _ => rfl) rfl hl.1 rfl (lv_room (Nat.le_of_ble_eq_true rfl)) dX4_turn_12 ⟨Nat.zero_le _, Nat.zero_le _⟩ (fun _ H locs _ hW => ?_)
    have him_ := inN_or z 6
    refine nn_zne (tgt := 25) hx hb dX4_turn_15 (by decide) (by omega) (fun c15 => ?_) (fun c15 => ?_)
    · obtain ⟨j, hj, ej⟩ : ∃ j : Nat, v = nI j ∧ v.toInt = (j : Int) := ⟨v.toInt.toNat, nI_ofZ rfl (by omega), by omega⟩
      rw [hj] at hl
      obtain ⟨y, hy, ey⟩ : ∃ y : Nat, z = nI y ∧ z.toInt = (y : Int) := ⟨z.toInt.toNat, nI_ofZ rfl (by omega), by omega⟩
      rw [hy] at hl
      refine lv_aload_n hx hb dX4_turn_25 rfl (lv_at hl 0 rfl) ?_
      refine sg_get (ci := 3) (C := RX4) (T := TX4) (N := 7) (v := .ref (la 0)) hx hb hts (fun _ h => List.mem_cons_of_mem _ (List.mem_append_left _ (List.mem_append_right _ h))) hown hK hW 0 0 rfl rfl rfl 0 (by decide) (hts _ (List.mem_of_getElem? (i := 1) rfl)) rfl dX4_turn_26 ?_
      refine sg_get (ci := 0) (C := RX0) (T := TX0) (N := 14) (v := .ref (la 1)) hx hb hts (fun _ h => List.mem_cons_of_mem _ (List.mem_append_right _ h)) hown hK hW 1 0 rfl rfl rfl 6 (by decide) (hts _ (List.mem_of_getElem? (i := 3) rfl)) rfl dX4_turn_29 ?_
      refine lv_iload_n hx hb dX4_turn_32 rfl (lv_at hl 1 rfl) ?_
      refine sg_ild (v := nI (G (8 * j + 1))) hx hb hK hW 1 1 0 rfl rfl rfl (by omega) (by decide) rfl dX4_turn_33 ?_
      refine lv_istore_n (lv' := [(3, .int (nI (G (8 * j + 1)))), (0, .ref x), (1, .int (nI j)), (2, .int (nI y))]) hx hb dX4_turn_34 rfl hl (by decide) rfl (fun ls hl => ?_)
      refine lv_aload_n hx hb dX4_turn_35 rfl (lv_at hl 1 rfl) ?_
      refine sg_get (ci := 3) (C := RX4) (T := TX4) (N := 7) (v := .ref (la 0)) hx hb hts (fun _ h => List.mem_cons_of_mem _ (List.mem_append_left _ (List.mem_append_right _ h))) hown hK hW 0 0 rfl rfl rfl 0 (by decide) (hts _ (List.mem_of_getElem? (i := 1) rfl)) rfl dX4_turn_36 ?_
      refine sg_get (ci := 0) (C := RX0) (T := TX0) (N := 14) (v := .ref (la 1)) hx hb hts (fun _ h => List.mem_cons_of_mem _ (List.mem_append_right _ h)) hown hK hW 1 0 rfl rfl rfl 6 (by decide) (hts _ (List.mem_of_getElem? (i := 3) rfl)) rfl dX4_turn_39 ?_
      refine lv_iload_n hx hb dX4_turn_42 rfl (lv_at hl 2 rfl) ?_
      refine lv_iload_n hx hb dX4_turn_43 rfl (lv_at hl 3 rfl) ?_
      refine sg_ist hx hb hK hW 1 1 0 rfl rfl rfl (by omega) (by decide) (gW_r1 cI la G j y) (ss' := [xH x la ta ka tp sh fi ik, gW cI la (up G (8 * j + 1) y), aI cI fi 7 F]) rfl dX4_turn_44 (fun H locs hW => ?_)
      refine lv_iload_n hx hb dX4_turn_45 rfl (lv_at hl 0 rfl) ?_
      exact rt_i hQ hx hb hr hlocks hW dX4_turn_46 () (by (try simp only [turnV, ej, ey, Int.toNat_natCast]); (repeat' split) <;> first | rfl | (exfalso; omega)) trivial (by (try simp only [turnG, turnF, ej, ey, Int.toNat_natCast]); (repeat' split) <;> first | rfl | (exfalso; omega))
    · refine lv_aload_n hx hb dX4_turn_18 rfl (lv_at hl 0 rfl) ?_
      refine lv_ldc (v := -1000000001) hx hb hown (hts _ (List.mem_of_getElem? (i := 2) rfl)) dX4_turn_19 ?_
      refine cl_Vi (As := [.int (-1000000001)]) (rest := []) (C := RX4) ⟨hx, hb, hml, hown, hts⟩ (M_X4_tell l D cI cJ x fi ik la ta ka tp sh F 0 (by decide) (-1000000001) (by decide +kernel)) (cwV 1 hts gX4_turn_X4_tell rfl rfl rfl qX4_tell ⟨Nat.le_of_ble_eq_true rfl, Nat.le_of_ble_eq_true rfl⟩) E0_good hK hA hW trivial [true, false, true] (fun _ => [xH x la ta ka tp sh fi ik, gW cI la G, aI cI fi 7 (up F 0 (F 0 + 1))]) rfl (fun _ => rfl) (fun _ => rfl) 0 0 rfl rfl rfl rfl hl.1 rfl (lv_room (Nat.le_of_ble_eq_true rfl)) dX4_turn_21 ⟨Nat.zero_le _, Nat.zero_le _⟩ (fun _ H locs _ hW => ?_)
      exact rt_i hQ hx hb hr hlocks hW dX4_turn_24 () (by (try simp only [turnV]); (repeat' split) <;> first | rfl | (exfalso; omega)) trivial (by (try simp only [turnG, turnF]); (repeat' split) <;> first | rfl | (exfalso; omega))
theorem underN_le (k j : Nat) : underN k j ≤ 1 := by unfold underN; split <;> omega
abbrev rmX4_as : Room := { frames := 2, cells := 0, slots := 0, locals := 41 }
set_option maxRecDepth 100000 in
set_option maxHeartbeats 4000000 in
theorem M_X4_as (l : Launch) (D : va_G) (cI cJ : ClassId) (x fi ik : Nat) (la ta ka tp sh : Nat → Nat) (G F : Nat → Nat) (hG : OkG 99999 G) (v z : Int32) : CE E0 l D vwCl [(cI, .int), (cJ, .long)] yX4_as wsX4_as rmX4_as [.ref x, .int v, .int z] [xH x la ta ka tp sh fi ik, gW cI la G, aI cI fi 7 F] (S := Unit) (some (.int (asV G v.toInt z.toInt))) (fun _ => True) (fun _ : Unit => [xH x la ta ka tp sh fi ik, gW cI la (G), aI cI fi 7 (asF G F v.toInt z.toInt)]) 0 0 := by
  refine CE.ofW (cc := cX4_as) (maxL := 3) (ret := (some .int)) (lv := [(0, .ref x), (1, .int v), (2, .int z)]) (by decide) rfl (Nat.le_of_ble_eq_true rfl) rfl ?_
  intro p e s m args below meth c ls A Q hQ hx hb hml hr hlocks hnm hown hts hK hA hE hW hl
  have hown : s.vm.findClass RX4 = some m.cls := hown
  obtain ⟨hg0, hg8, hg16, hg16b, hg24, hg32, hg40, hg48⟩ := hG.s
  refine lv_aload_n hx hb dX4_as_0 rfl (lv_at hl 0 rfl) ?_
  refine sg_get (ci := 3) (C := RX4) (T := TX4) (N := 7) (v := .ref (la 0)) hx hb hts (fun _ h => List.mem_cons_of_mem _ (List.mem_append_left _ (List.mem_append_right _ h))) hown hK hW 0 0 rfl rfl rfl 0 (by decide) (hts _ (List.mem_of_getElem? (i := 1) rfl)) rfl dX4_as_1 ?_
  refine lv_iload_n hx hb dX4_as_4 rfl (lv_at hl 1 rfl) ?_
  refine cl_Vi (As := [.int v]) (rest := []) (C := RX0) ⟨hx, hb, hml, hown, hts⟩ (M_X0_hasMother l D cI cJ la G 99999 (by decide) hG v) (cwV 1 hts gX4_as_X0_hasMother rfl rfl rfl qX0_hasMother ⟨Nat.le_of_ble_eq_true rfl, Nat.le_of_ble_eq_true rfl⟩) E0_good hK hA hW trivial [false, true] (fun _ => [xH x la ta ka tp sh fi ik, gW cI la G, aI cI fi 7 F]) rfl (fun _ => rfl) (fun _ => rfl) 1 0 rfl rfl rfl rfl hl.1 rfl (lv_room (Nat.le_of_ble_eq_true rfl)) dX4_as_5 ⟨Nat.zero_le _, Nat.zero_le _⟩ (fun _ H locs _ hW => ?_)
  have him_ := inN_or v (G 40)
  refine nn_zeq (tgt := 18) hx hb dX4_as_8 (by decide) (by omega) (fun c8 => ?_) (fun c8 => ?_)
  · refine lv_aload_n hx hb dX4_as_18 rfl (lv_at hl 0 rfl) ?_
    refine lv_ldc (v := -1000000001) hx hb hown (hts _ (List.mem_of_getElem? (i := 2) rfl)) dX4_as_19 ?_
    refine cl_Vi (As := [.int (-1000000001)]) (rest := []) (C := RX4) ⟨hx, hb, hml, hown, hts⟩ (M_X4_tell l D cI cJ x fi ik la ta ka tp sh F 0 (by decide) (-1000000001) (by decide +kernel)) (cwV 1 hts gX4_as_X4_tell rfl rfl rfl qX4_tell ⟨Nat.le_of_ble_eq_true rfl, Nat.le_of_ble_eq_true rfl⟩) E0_good hK hA hW trivial [true, false, true] (fun _ => [xH x la ta ka tp sh fi ik, gW cI la G, aI cI fi 7 (up F 0 (F 0 + 1))]) rfl (fun _ => rfl) (fun _ => rfl) 0 0 rfl rfl rfl rfl hl.1 rfl (lv_room (Nat.le_of_ble_eq_true rfl)) dX4_as_21 ⟨Nat.zero_le _, Nat.zero_le _⟩ (fun _ H locs _ hW => ?_)
    exact rt_i hQ hx hb hr hlocks hW dX4_as_24 () (by (try simp only [asV]); (repeat' split) <;> first | rfl | (exfalso; omega)) trivial (by (try simp only [asF]); (repeat' split) <;> first | rfl | (exfalso; omega))
  · refine lv_iload_n hx hb dX4_as_11 rfl (lv_at hl 2 rfl) ?_
    refine cl_Si (As := [.int z]) (rest := []) ⟨hx, hb, hml, hown, hts⟩ (M_X1_isKind l D cI cJ z) (va_cwS 1 hts gX4_as_X1_isKind rfl rfl rfl qX1_isKind ⟨Nat.le_of_ble_eq_true rfl, Nat.le_of_ble_eq_true rfl⟩) E0_good hK hA hW trivial [] (fun _ => [xH x la ta ka tp sh fi ik, gW cI la G, aI cI fi 7 F]) rfl (fun _ => rfl) (fun _ => rfl) rfl hl.1 rfl (lv_room (Nat.le_of_ble_eq_true rfl)) dX4_as_12 ⟨Nat.zero_le _, Nat.zero_le _⟩ (fun _ H locs _ hW => ?_)
    have him_ := inN_or z 6
    refine nn_zne (tgt := 25) hx hb dX4_as_15 (by decide) (by omega) (fun c15 => ?_) (fun c15 => ?_)
    · obtain ⟨j, hj, ej⟩ : ∃ j : Nat, v = nI j ∧ v.toInt = (j : Int) := ⟨v.toInt.toNat, nI_ofZ rfl (by omega), by omega⟩
      rw [hj] at hl
      obtain ⟨y, hy, ey⟩ : ∃ y : Nat, z = nI y ∧ z.toInt = (y : Int) := ⟨z.toInt.toNat, nI_ofZ rfl (by omega), by omega⟩
      rw [hy] at hl
      have hmj := hG.m j (by omega)
      have hul := underN_le (G (8 * j + 1)) y
      refine lv_aload_n hx hb dX4_as_25 rfl (lv_at hl 0 rfl) ?_
      refine sg_get (ci := 3) (C := RX4) (T := TX4) (N := 7) (v := .ref (la 0)) hx hb hts (fun _ h => List.mem_cons_of_mem _ (List.mem_append_left _ (List.mem_append_right _ h))) hown hK hW 0 0 rfl rfl rfl 0 (by decide) (hts _ (List.mem_of_getElem? (i := 1) rfl)) rfl dX4_as_26 ?_
      refine sg_get (ci := 0) (C := RX0) (T := TX0) (N := 14) (v := .ref (la 1)) hx hb hts (fun _ h => List.mem_cons_of_mem _ (List.mem_append_right _ h)) hown hK hW 1 0 rfl rfl rfl 6 (by decide) (hts _ (List.mem_of_getElem? (i := 3) rfl)) rfl dX4_as_29 ?_
      refine lv_iload_n hx hb dX4_as_32 rfl (lv_at hl 1 rfl) ?_
      refine sg_ild (v := nI (G (8 * j + 1))) hx hb hK hW 1 1 0 rfl rfl rfl (by omega) (by decide) rfl dX4_as_33 ?_
      refine lv_iload_n hx hb dX4_as_34 rfl (lv_at hl 2 rfl) ?_
      refine cl_Si (As := [.int (nI (G (8 * j + 1))), .int (nI y)]) (rest := []) ⟨hx, hb, hml, hown, hts⟩ (M_X1_isUnder l D cI cJ (G (8 * j + 1)) y (by omega) (by omega)) (va_cwS 2 hts gX4_as_X1_isUnder rfl rfl rfl qX1_isUnder ⟨Nat.le_of_ble_eq_true rfl, Nat.le_of_ble_eq_true rfl⟩) E0_good hK hA hW trivial [] (fun _ => [xH x la ta ka tp sh fi ik, gW cI la G, aI cI fi 7 F]) rfl (fun _ => rfl) (fun _ => rfl) rfl hl.1 rfl (lv_room (Nat.le_of_ble_eq_true rfl)) dX4_as_35 ⟨Nat.zero_le _, Nat.zero_le _⟩ (fun _ H locs _ hW => ?_)
      refine nn_zne (tgt := 48) hx hb dX4_as_38 (by decide) (by omega) (fun c38 => ?_) (fun c38 => ?_)
      · refine lv_aload_n hx hb dX4_as_48 rfl (lv_at hl 0 rfl) ?_
        refine sg_get (ci := 3) (C := RX4) (T := TX4) (N := 7) (v := .ref (la 0)) hx hb hts (fun _ h => List.mem_cons_of_mem _ (List.mem_append_left _ (List.mem_append_right _ h))) hown hK hW 0 0 rfl rfl rfl 0 (by decide) (hts _ (List.mem_of_getElem? (i := 1) rfl)) rfl dX4_as_49 ?_
        refine sg_get (ci := 0) (C := RX0) (T := TX0) (N := 14) (v := .ref (la 3)) hx hb hts (fun _ h => List.mem_cons_of_mem _ (List.mem_append_right _ h)) hown hK hW 1 0 rfl rfl rfl 8 (by decide) (hts _ (List.mem_of_getElem? (i := 5) rfl)) rfl dX4_as_52 ?_
        refine lv_iload_n hx hb dX4_as_55 rfl (lv_at hl 1 rfl) ?_
        refine sg_ild (v := nI (G (8 * j + 3))) hx hb hK hW 1 3 0 rfl rfl rfl (by omega) (by decide) rfl dX4_as_56 ?_
        exact rt_i hQ hx hb hr hlocks hW dX4_as_57 () (by (try simp only [asV, ej, ey, Int.toNat_natCast]); (repeat' split) <;> first | rfl | (exfalso; omega)) trivial (by (try simp only [asF, ej, ey, Int.toNat_natCast]); (repeat' split) <;> first | rfl | (exfalso; omega))
      · refine lv_aload_n hx hb dX4_as_41 rfl (lv_at hl 0 rfl) ?_
        refine lv_ldc (v := -1000000003) hx hb hown (hts _ (List.mem_of_getElem? (i := 4) rfl)) dX4_as_42 ?_
        refine cl_Vi (As := [.int (-1000000003)]) (rest := []) (C := RX4) ⟨hx, hb, hml, hown, hts⟩ (M_X4_tell l D cI cJ x fi ik la ta ka tp sh F 2 (by decide) (-1000000003) (by decide +kernel)) (cwV 1 hts gX4_as_X4_tell rfl rfl rfl qX4_tell ⟨Nat.le_of_ble_eq_true rfl, Nat.le_of_ble_eq_true rfl⟩) E0_good hK hA hW trivial [true, false, true] (fun _ => [xH x la ta ka tp sh fi ik, gW cI la G, aI cI fi 7 (up F 2 (F 2 + 1))]) rfl (fun _ => rfl) (fun _ => rfl) 0 0 rfl rfl rfl rfl hl.1 rfl (lv_room (Nat.le_of_ble_eq_true rfl)) dX4_as_44 ⟨Nat.zero_le _, Nat.zero_le _⟩ (fun _ H locs _ hW => ?_)
        exact rt_i hQ hx hb hr hlocks hW dX4_as_47 () (by (try simp only [asV, ej, ey, Int.toNat_natCast]); (repeat' split) <;> first | rfl | (exfalso; omega)) trivial (by (try simp only [asF, ej, ey, Int.toNat_natCast]); (repeat' split) <;> first | rfl | (exfalso; omega))
    · refine lv_aload_n hx hb dX4_as_18 rfl (lv_at hl 0 rfl) ?_
      refine lv_ldc (v := -1000000001) hx hb hown (hts _ (List.mem_of_getElem? (i := 2) rfl)) dX4_as_19 ?_
      refine cl_Vi (As := [.int (-1000000001)]) (rest := []) (C := RX4) ⟨hx, hb, hml, hown, hts⟩ (M_X4_tell l D cI cJ x fi ik la ta ka tp sh F 0 (by decide) (-1000000001) (by decide +kernel)) (cwV 1 hts gX4_as_X4_tell rfl rfl rfl qX4_tell ⟨Nat.le_of_ble_eq_true rfl, Nat.le_of_ble_eq_true rfl⟩) E0_good hK hA hW trivial [true, false, true] (fun _ => [xH x la ta ka tp sh fi ik, gW cI la G, aI cI fi 7 (up F 0 (F 0 + 1))]) rfl (fun _ => rfl) (fun _ => rfl) 0 0 rfl rfl rfl rfl hl.1 rfl (lv_room (Nat.le_of_ble_eq_true rfl)) dX4_as_21 ⟨Nat.zero_le _, Nat.zero_le _⟩ (fun _ H locs _ hW => ?_)
      exact rt_i hQ hx hb hr hlocks hW dX4_as_24 () (by (try simp only [asV]); (repeat' split) <;> first | rfl | (exfalso; omega)) trivial (by (try simp only [asF]); (repeat' split) <;> first | rfl | (exfalso; omega))
abbrev rmX4_child : Room := { frames := 1, cells := 0, slots := 0, locals := 23 }
set_option maxRecDepth 100000 in
set_option maxHeartbeats 4000000 in
theorem M_X4_child (l : Launch) (D : va_G) (cI cJ : ClassId) (x fi ik : Nat) (la ta ka tp sh : Nat → Nat) (G F : Nat → Nat) (hG : OkG 99999 G) (z : Int32) : CE E0 l D vwCl [(cI, .int), (cJ, .long)] yX4_child wsX4_child rmX4_child [.ref x, .int z] [xH x la ta ka tp sh fi ik, gW cI la G, aI cI fi 7 F] (S := Unit) (some (.int (childV G z.toInt))) (fun _ => True) (fun _ : Unit => [xH x la ta ka tp sh fi ik, gW cI la (childG G z.toInt), aI cI fi 7 (childF G F z.toInt)]) 0 0 := by
  refine CE.ofW (cc := cX4_child) (maxL := 2) (ret := (some .int)) (lv := [(0, .ref x), (1, .int z)]) (by decide) rfl (Nat.le_of_ble_eq_true rfl) rfl ?_
  intro p e s m args below meth c ls A Q hQ hx hb hml hr hlocks hnm hown hts hK hA hE hW hl
  have hown : s.vm.findClass RX4 = some m.cls := hown
  obtain ⟨hg0, hg8, hg16, hg16b, hg24, hg32, hg40, hg48⟩ := hG.s
  refine lv_iload_n hx hb dX4_child_0 rfl (lv_at hl 1 rfl) ?_
  refine zz_zlt (tgt := 11) hx hb dX4_child_1 (by decide) (rfl : z.toInt = z.toInt) (fun c1 => ?_) (fun c1 => ?_)
  · refine lv_aload_n hx hb dX4_child_11 rfl (lv_at hl 0 rfl) ?_
    refine lv_ldc (v := -1000000001) hx hb hown (hts _ (List.mem_of_getElem? (i := 1) rfl)) dX4_child_12 ?_
    refine cl_Vi (As := [.int (-1000000001)]) (rest := []) (C := RX4) ⟨hx, hb, hml, hown, hts⟩ (M_X4_tell l D cI cJ x fi ik la ta ka tp sh F 0 (by decide) (-1000000001) (by decide +kernel)) (cwV 1 hts gX4_child_X4_tell rfl rfl rfl qX4_tell ⟨Nat.le_of_ble_eq_true rfl, Nat.le_of_ble_eq_true rfl⟩) E0_good hK hA hW trivial [true, false, true] (fun _ => [xH x la ta ka tp sh fi ik, gW cI la G, aI cI fi 7 (up F 0 (F 0 + 1))]) rfl (fun _ => rfl) (fun _ => rfl) 0 0 rfl rfl rfl rfl hl.1 rfl (lv_room (Nat.le_of_ble_eq_true rfl)) dX4_child_14 ⟨Nat.zero_le _, Nat.zero_le _⟩ (fun _ H locs _ hW => ?_)
    exact rt_i hQ hx hb hr hlocks hW dX4_child_17 () (by (try simp only [childV]); (repeat' split) <;> first | rfl | (exfalso; omega)) trivial (by (try simp only [childG, childF]); (repeat' split) <;> first | rfl | (exfalso; omega))
  · refine lv_iload_n hx hb dX4_child_4 rfl (lv_at hl 1 rfl) ?_
    refine lv_sipush (v := nI 200) hx hb dX4_child_5 (by decide +kernel) ?_
    refine zz_cle (tgt := 18) hx hb dX4_child_8 (by decide) (rfl : z.toInt = z.toInt) (nI_toInt (n := 200) (by decide)) (fun c8 => ?_) (fun c8 => ?_)
    · refine lv_aload_n hx hb dX4_child_18 rfl (lv_at hl 0 rfl) ?_
      refine sg_get (ci := 3) (C := RX4) (T := TX4) (N := 7) (v := .ref (la 0)) hx hb hts (fun _ h => List.mem_cons_of_mem _ (List.mem_append_left _ (List.mem_append_right _ h))) hown hK hW 0 0 rfl rfl rfl 0 (by decide) (hts _ (List.mem_of_getElem? (i := 2) rfl)) rfl dX4_child_19 ?_
      refine sg_get (ci := 0) (C := RX0) (T := TX0) (N := 14) (v := .int (nI (G 48))) hx hb hts (fun _ h => List.mem_cons_of_mem _ (List.mem_append_right _ h)) hown hK hW 1 0 rfl rfl rfl 10 (by decide) (hts _ (List.mem_of_getElem? (i := 3) rfl)) rfl dX4_child_22 ?_
      refine lv_bipush (v := nI 6) hx hb dX4_child_25 (by decide +kernel) ?_
      refine nn_clt (tgt := 37) hx hb dX4_child_27 (by decide) (by omega) (by decide) (fun c27 => ?_) (fun c27 => ?_)
      · obtain ⟨y, hy, ey⟩ : ∃ y : Nat, z = nI y ∧ z.toInt = (y : Int) := ⟨z.toInt.toNat, nI_ofZ rfl (by omega), by omega⟩
        rw [hy] at hl
        refine lv_aload_n hx hb dX4_child_37 rfl (lv_at hl 0 rfl) ?_
        refine sg_get (ci := 3) (C := RX4) (T := TX4) (N := 7) (v := .ref (la 0)) hx hb hts (fun _ h => List.mem_cons_of_mem _ (List.mem_append_left _ (List.mem_append_right _ h))) hown hK hW 0 0 rfl rfl rfl 0 (by decide) (hts _ (List.mem_of_getElem? (i := 2) rfl)) rfl dX4_child_38 ?_
        refine lv_iload_n hx hb dX4_child_41 rfl (lv_at hl 1 rfl) ?_
        refine lv_iconst (v := nI 0) hx hb dX4_child_42 (by decide +kernel) ?_
        refine cl_Vi (As := [.int (nI y), .int (nI 0)]) (rest := []) (C := RX0) ⟨hx, hb, hml, hown, hts⟩ (M_X0_addChild l D cI cJ la G 99999 (by decide) hG y 0 (by omega)) (cwV 2 hts gX4_child_X0_addChild rfl rfl rfl qX0_addChild ⟨Nat.le_of_ble_eq_true rfl, Nat.le_of_ble_eq_true rfl⟩) E0_good hK hA hW trivial [false, true] (fun _ => [xH x la ta ka tp sh fi ik, gW cI la (addC G y 0), aI cI fi 7 F]) rfl (fun _ => rfl) (fun _ => rfl) 1 0 rfl rfl rfl rfl hl.1 rfl (lv_room (Nat.le_of_ble_eq_true rfl)) dX4_child_43 ⟨Nat.zero_le _, Nat.zero_le _⟩ (fun _ H locs _ hW => ?_)
        exact rt_i hQ hx hb hr hlocks hW dX4_child_46 () (by (try simp only [childV, ey, Int.toNat_natCast]); (repeat' split) <;> first | rfl | (exfalso; omega)) trivial (by (try simp only [childG, childF, ey, Int.toNat_natCast]); (repeat' split) <;> first | rfl | (exfalso; omega))
      · refine lv_aload_n hx hb dX4_child_30 rfl (lv_at hl 0 rfl) ?_
        refine lv_ldc (v := -1000000002) hx hb hown (hts _ (List.mem_of_getElem? (i := 4) rfl)) dX4_child_31 ?_
        refine cl_Vi (As := [.int (-1000000002)]) (rest := []) (C := RX4) ⟨hx, hb, hml, hown, hts⟩ (M_X4_tell l D cI cJ x fi ik la ta ka tp sh F 1 (by decide) (-1000000002) (by decide +kernel)) (cwV 1 hts gX4_child_X4_tell rfl rfl rfl qX4_tell ⟨Nat.le_of_ble_eq_true rfl, Nat.le_of_ble_eq_true rfl⟩) E0_good hK hA hW trivial [true, false, true] (fun _ => [xH x la ta ka tp sh fi ik, gW cI la G, aI cI fi 7 (up F 1 (F 1 + 1))]) rfl (fun _ => rfl) (fun _ => rfl) 0 0 rfl rfl rfl rfl hl.1 rfl (lv_room (Nat.le_of_ble_eq_true rfl)) dX4_child_33 ⟨Nat.zero_le _, Nat.zero_le _⟩ (fun _ H locs _ hW => ?_)
        exact rt_i hQ hx hb hr hlocks hW dX4_child_36 () (by (try simp only [childV]); (repeat' split) <;> first | rfl | (exfalso; omega)) trivial (by (try simp only [childG, childF]); (repeat' split) <;> first | rfl | (exfalso; omega))
    · refine lv_aload_n hx hb dX4_child_11 rfl (lv_at hl 0 rfl) ?_
      refine lv_ldc (v := -1000000001) hx hb hown (hts _ (List.mem_of_getElem? (i := 1) rfl)) dX4_child_12 ?_
      refine cl_Vi (As := [.int (-1000000001)]) (rest := []) (C := RX4) ⟨hx, hb, hml, hown, hts⟩ (M_X4_tell l D cI cJ x fi ik la ta ka tp sh F 0 (by decide) (-1000000001) (by decide +kernel)) (cwV 1 hts gX4_child_X4_tell rfl rfl rfl qX4_tell ⟨Nat.le_of_ble_eq_true rfl, Nat.le_of_ble_eq_true rfl⟩) E0_good hK hA hW trivial [true, false, true] (fun _ => [xH x la ta ka tp sh fi ik, gW cI la G, aI cI fi 7 (up F 0 (F 0 + 1))]) rfl (fun _ => rfl) (fun _ => rfl) 0 0 rfl rfl rfl rfl hl.1 rfl (lv_room (Nat.le_of_ble_eq_true rfl)) dX4_child_14 ⟨Nat.zero_le _, Nat.zero_le _⟩ (fun _ H locs _ hW => ?_)
      exact rt_i hQ hx hb hr hlocks hW dX4_child_17 () (by (try simp only [childV]); (repeat' split) <;> first | rfl | (exfalso; omega)) trivial (by (try simp only [childG, childF]); (repeat' split) <;> first | rfl | (exfalso; omega))
abbrev rmX4_childOf : Room := { frames := 1, cells := 0, slots := 0, locals := 22 }
set_option maxRecDepth 100000 in
set_option maxHeartbeats 4000000 in
theorem M_X4_childOf (l : Launch) (D : va_G) (cI cJ : ClassId) (x fi ik : Nat) (la ta ka tp sh : Nat → Nat) (G F : Nat → Nat) (hG : OkG 99999 G) (v w : Int32) : CE E0 l D vwCl [(cI, .int), (cJ, .long)] yX4_childOf wsX4_childOf rmX4_childOf [.ref x, .int v, .int w] [xH x la ta ka tp sh fi ik, gW cI la G, aI cI fi 7 F] (S := Unit) (some (.int (childOfV G v.toInt w.toInt))) (fun _ => True) (fun _ : Unit => [xH x la ta ka tp sh fi ik, gW cI la (G), aI cI fi 7 (childOfF G F v.toInt w.toInt)]) 0 0 := by
  refine CE.ofW (cc := cX4_childOf) (maxL := 3) (ret := (some .int)) (lv := [(0, .ref x), (1, .int v), (2, .int w)]) (by decide) rfl (Nat.le_of_ble_eq_true rfl) rfl ?_
  intro p e s m args below meth c ls A Q hQ hx hb hml hr hlocks hnm hown hts hK hA hE hW hl
  have hown : s.vm.findClass RX4 = some m.cls := hown
  obtain ⟨hg0, hg8, hg16, hg16b, hg24, hg32, hg40, hg48⟩ := hG.s
  refine lv_aload_n hx hb dX4_childOf_0 rfl (lv_at hl 0 rfl) ?_
  refine sg_get (ci := 3) (C := RX4) (T := TX4) (N := 7) (v := .ref (la 0)) hx hb hts (fun _ h => List.mem_cons_of_mem _ (List.mem_append_left _ (List.mem_append_right _ h))) hown hK hW 0 0 rfl rfl rfl 0 (by decide) (hts _ (List.mem_of_getElem? (i := 1) rfl)) rfl dX4_childOf_1 ?_
  refine lv_iload_n hx hb dX4_childOf_4 rfl (lv_at hl 1 rfl) ?_
  refine cl_Vi (As := [.int v]) (rest := []) (C := RX0) ⟨hx, hb, hml, hown, hts⟩ (M_X0_hasChild l D cI cJ la G 99999 (by decide) hG v) (cwV 1 hts gX4_childOf_X0_hasChild rfl rfl rfl qX0_hasChild ⟨Nat.le_of_ble_eq_true rfl, Nat.le_of_ble_eq_true rfl⟩) E0_good hK hA hW trivial [false, true] (fun _ => [xH x la ta ka tp sh fi ik, gW cI la G, aI cI fi 7 F]) rfl (fun _ => rfl) (fun _ => rfl) 1 0 rfl rfl rfl rfl hl.1 rfl (lv_room (Nat.le_of_ble_eq_true rfl)) dX4_childOf_5 ⟨Nat.zero_le _, Nat.zero_le _⟩ (fun _ H locs _ hW => ?_)
  have him_ := inN_or v (G 48)
  refine nn_zne (tgt := 18) hx hb dX4_childOf_8 (by decide) (by omega) (fun c8 => ?_) (fun c8 => ?_)
  · obtain ⟨j, hj, ej⟩ : ∃ j : Nat, v = nI j ∧ v.toInt = (j : Int) := ⟨v.toInt.toNat, nI_ofZ rfl (by omega), by omega⟩
    rw [hj] at hl
    refine lv_iload_n hx hb dX4_childOf_18 rfl (lv_at hl 2 rfl) ?_
    rcases (show w.toInt = 0 ∨ w.toInt = 1 ∨ w.toInt = 2 ∨ (w.toInt < 0 ∨ 2 < w.toInt) by omega) with c19 | c19 | c19 | c19
    · refine zz_tsI (off := 25) (tgt := 44) hx hb dX4_childOf_19 (rfl : w.toInt = w.toInt) 0 (by omega) (by omega) rfl (by decide) ?_
      refine lv_aload_n hx hb dX4_childOf_44 rfl (lv_at hl 0 rfl) ?_
      refine sg_get (ci := 3) (C := RX4) (T := TX4) (N := 7) (v := .ref (la 0)) hx hb hts (fun _ h => List.mem_cons_of_mem _ (List.mem_append_left _ (List.mem_append_right _ h))) hown hK hW 0 0 rfl rfl rfl 0 (by decide) (hts _ (List.mem_of_getElem? (i := 1) rfl)) rfl dX4_childOf_45 ?_
      refine sg_get (ci := 0) (C := RX0) (T := TX0) (N := 14) (v := .ref (la 5)) hx hb hts (fun _ h => List.mem_cons_of_mem _ (List.mem_append_right _ h)) hown hK hW 1 0 rfl rfl rfl 11 (by decide) (hts _ (List.mem_of_getElem? (i := 3) rfl)) rfl dX4_childOf_48 ?_
      refine lv_iload_n hx hb dX4_childOf_51 rfl (lv_at hl 1 rfl) ?_
      refine sg_ild (v := nI (G (8 * j + 5))) hx hb hK hW 1 5 0 rfl rfl rfl (by omega) (by decide) rfl dX4_childOf_52 ?_
      exact rt_i hQ hx hb hr hlocks hW dX4_childOf_53 () (by (try simp only [childOfV, ej, Int.toNat_natCast]); (repeat' split) <;> first | rfl | (exfalso; omega)) trivial (by (try simp only [childOfF, ej, Int.toNat_natCast]); (repeat' split) <;> first | rfl | (exfalso; omega))
    · refine zz_tsI (off := 35) (tgt := 54) hx hb dX4_childOf_19 (rfl : w.toInt = w.toInt) 1 (by omega) (by omega) rfl (by decide) ?_
      refine lv_aload_n hx hb dX4_childOf_54 rfl (lv_at hl 0 rfl) ?_
      refine sg_get (ci := 3) (C := RX4) (T := TX4) (N := 7) (v := .ref (la 0)) hx hb hts (fun _ h => List.mem_cons_of_mem _ (List.mem_append_left _ (List.mem_append_right _ h))) hown hK hW 0 0 rfl rfl rfl 0 (by decide) (hts _ (List.mem_of_getElem? (i := 1) rfl)) rfl dX4_childOf_55 ?_
      refine sg_get (ci := 0) (C := RX0) (T := TX0) (N := 14) (v := .ref (la 6)) hx hb hts (fun _ h => List.mem_cons_of_mem _ (List.mem_append_right _ h)) hown hK hW 1 0 rfl rfl rfl 12 (by decide) (hts _ (List.mem_of_getElem? (i := 4) rfl)) rfl dX4_childOf_58 ?_
      refine lv_iload_n hx hb dX4_childOf_61 rfl (lv_at hl 1 rfl) ?_
      refine sg_ild (v := nI (G (8 * j + 6))) hx hb hK hW 1 6 0 rfl rfl rfl (by omega) (by decide) rfl dX4_childOf_62 ?_
      exact rt_i hQ hx hb hr hlocks hW dX4_childOf_63 () (by (try simp only [childOfV, ej, Int.toNat_natCast]); (repeat' split) <;> first | rfl | (exfalso; omega)) trivial (by (try simp only [childOfF, ej, Int.toNat_natCast]); (repeat' split) <;> first | rfl | (exfalso; omega))
    · refine zz_tsI (off := 45) (tgt := 64) hx hb dX4_childOf_19 (rfl : w.toInt = w.toInt) 2 (by omega) (by omega) rfl (by decide) ?_
      refine lv_aload_n hx hb dX4_childOf_64 rfl (lv_at hl 0 rfl) ?_
      refine sg_get (ci := 3) (C := RX4) (T := TX4) (N := 7) (v := .ref (la 0)) hx hb hts (fun _ h => List.mem_cons_of_mem _ (List.mem_append_left _ (List.mem_append_right _ h))) hown hK hW 0 0 rfl rfl rfl 0 (by decide) (hts _ (List.mem_of_getElem? (i := 1) rfl)) rfl dX4_childOf_65 ?_
      refine sg_get (ci := 0) (C := RX0) (T := TX0) (N := 14) (v := .ref (la 7)) hx hb hts (fun _ h => List.mem_cons_of_mem _ (List.mem_append_right _ h)) hown hK hW 1 0 rfl rfl rfl 13 (by decide) (hts _ (List.mem_of_getElem? (i := 5) rfl)) rfl dX4_childOf_68 ?_
      refine lv_iload_n hx hb dX4_childOf_71 rfl (lv_at hl 1 rfl) ?_
      refine sg_ild (v := nI (G (8 * j + 7))) hx hb hK hW 1 7 0 rfl rfl rfl (by omega) (by decide) rfl dX4_childOf_72 ?_
      exact rt_i hQ hx hb hr hlocks hW dX4_childOf_73 () (by (try simp only [childOfV, ej, Int.toNat_natCast]); (repeat' split) <;> first | rfl | (exfalso; omega)) trivial (by (try simp only [childOfF, ej, Int.toNat_natCast]); (repeat' split) <;> first | rfl | (exfalso; omega))
    · refine zz_tsO (tgt := 74) hx hb dX4_childOf_19 (rfl : w.toInt = w.toInt) (by omega) (by decide) ?_
      refine lv_aload_n hx hb dX4_childOf_74 rfl (lv_at hl 0 rfl) ?_
      refine lv_ldc (v := -1000000001) hx hb hown (hts _ (List.mem_of_getElem? (i := 2) rfl)) dX4_childOf_75 ?_
      refine cl_Vi (As := [.int (-1000000001)]) (rest := []) (C := RX4) ⟨hx, hb, hml, hown, hts⟩ (M_X4_tell l D cI cJ x fi ik la ta ka tp sh F 0 (by decide) (-1000000001) (by decide +kernel)) (cwV 1 hts gX4_childOf_X4_tell rfl rfl rfl qX4_tell ⟨Nat.le_of_ble_eq_true rfl, Nat.le_of_ble_eq_true rfl⟩) E0_good hK hA hW trivial [true, false, true] (fun _ => [xH x la ta ka tp sh fi ik, gW cI la G, aI cI fi 7 (up F 0 (F 0 + 1))]) rfl (fun _ => rfl) (fun _ => rfl) 0 0 rfl rfl rfl rfl hl.1 rfl (lv_room (Nat.le_of_ble_eq_true rfl)) dX4_childOf_77 ⟨Nat.zero_le _, Nat.zero_le _⟩ (fun _ H locs _ hW => ?_)
      exact rt_i hQ hx hb hr hlocks hW dX4_childOf_80 () (by (try simp only [childOfV, ej, Int.toNat_natCast]); (repeat' split) <;> first | rfl | (exfalso; omega)) trivial (by (try simp only [childOfF, ej, Int.toNat_natCast]); (repeat' split) <;> first | rfl | (exfalso; omega))
  · refine lv_aload_n hx hb dX4_childOf_11 rfl (lv_at hl 0 rfl) ?_
    refine lv_ldc (v := -1000000001) hx hb hown (hts _ (List.mem_of_getElem? (i := 2) rfl)) dX4_childOf_12 ?_
    refine cl_Vi (As := [.int (-1000000001)]) (rest := []) (C := RX4) ⟨hx, hb, hml, hown, hts⟩ (M_X4_tell l D cI cJ x fi ik la ta ka tp sh F 0 (by decide) (-1000000001) (by decide +kernel)) (cwV 1 hts gX4_childOf_X4_tell rfl rfl rfl qX4_tell ⟨Nat.le_of_ble_eq_true rfl, Nat.le_of_ble_eq_true rfl⟩) E0_good hK hA hW trivial [true, false, true] (fun _ => [xH x la ta ka tp sh fi ik, gW cI la G, aI cI fi 7 (up F 0 (F 0 + 1))]) rfl (fun _ => rfl) (fun _ => rfl) 0 0 rfl rfl rfl rfl hl.1 rfl (lv_room (Nat.le_of_ble_eq_true rfl)) dX4_childOf_14 ⟨Nat.zero_le _, Nat.zero_le _⟩ (fun _ H locs _ hW => ?_)
    exact rt_i hQ hx hb hr hlocks hW dX4_childOf_17 () (by (try simp only [childOfV]); (repeat' split) <;> first | rfl | (exfalso; omega)) trivial (by (try simp only [childOfF]); (repeat' split) <;> first | rfl | (exfalso; omega))
abbrev rmX4_grip : Room := { frames := 1, cells := 0, slots := 0, locals := 22 }
set_option maxRecDepth 100000 in
set_option maxHeartbeats 4000000 in
theorem M_X4_grip (l : Launch) (D : va_G) (cI cJ : ClassId) (x fi ik : Nat) (la ta ka tp sh : Nat → Nat) (G F : Nat → Nat) (hG : OkG 99999 G) (v z : Int32) : CE E0 l D vwCl [(cI, .int), (cJ, .long)] yX4_grip wsX4_grip rmX4_grip [.ref x, .int v, .int z] [xH x la ta ka tp sh fi ik, gW cI la G, aI cI fi 7 F] (S := Unit) (some (.int (gripV G v.toInt z.toInt))) (fun _ => True) (fun _ : Unit => [xH x la ta ka tp sh fi ik, gW cI la (gripG G v.toInt z.toInt), aI cI fi 7 (gripF G F v.toInt z.toInt)]) 0 0 := by
  refine CE.ofW (cc := cX4_grip) (maxL := 4) (ret := (some .int)) (lv := [(0, .ref x), (1, .int v), (2, .int z)]) (by decide) rfl (Nat.le_of_ble_eq_true rfl) rfl ?_
  intro p e s m args below meth c ls A Q hQ hx hb hml hr hlocks hnm hown hts hK hA hE hW hl
  have hown : s.vm.findClass RX4 = some m.cls := hown
  obtain ⟨hg0, hg8, hg16, hg16b, hg24, hg32, hg40, hg48⟩ := hG.s
  refine lv_aload_n hx hb dX4_grip_0 rfl (lv_at hl 0 rfl) ?_
  refine sg_get (ci := 3) (C := RX4) (T := TX4) (N := 7) (v := .ref (la 0)) hx hb hts (fun _ h => List.mem_cons_of_mem _ (List.mem_append_left _ (List.mem_append_right _ h))) hown hK hW 0 0 rfl rfl rfl 0 (by decide) (hts _ (List.mem_of_getElem? (i := 1) rfl)) rfl dX4_grip_1 ?_
  refine lv_iload_n hx hb dX4_grip_4 rfl (lv_at hl 1 rfl) ?_
  refine cl_Vi (As := [.int v]) (rest := []) (C := RX0) ⟨hx, hb, hml, hown, hts⟩ (M_X0_hasChild l D cI cJ la G 99999 (by decide) hG v) (cwV 1 hts gX4_grip_X0_hasChild rfl rfl rfl qX0_hasChild ⟨Nat.le_of_ble_eq_true rfl, Nat.le_of_ble_eq_true rfl⟩) E0_good hK hA hW trivial [false, true] (fun _ => [xH x la ta ka tp sh fi ik, gW cI la G, aI cI fi 7 F]) rfl (fun _ => rfl) (fun _ => rfl) 1 0 rfl rfl rfl rfl hl.1 rfl (lv_room (Nat.le_of_ble_eq_true rfl)) dX4_grip_5 ⟨Nat.zero_le _, Nat.zero_le _⟩ (fun _ H locs _ hW => ?_)
  have him_ := inN_or v (G 48)
  refine nn_zeq (tgt := 22) hx hb dX4_grip_8 (by decide) (by omega) (fun c8 => ?_) (fun c8 => ?_)
  · refine lv_aload_n hx hb dX4_grip_22 rfl (lv_at hl 0 rfl) ?_
    refine lv_ldc (v := -1000000001) hx hb hown (hts _ (List.mem_of_getElem? (i := 2) rfl)) dX4_grip_23 ?_
    refine cl_Vi (As := [.int (-1000000001)]) (rest := []) (C := RX4) ⟨hx, hb, hml, hown, hts⟩ (M_X4_tell l D cI cJ x fi ik la ta ka tp sh F 0 (by decide) (-1000000001) (by decide +kernel)) (cwV 1 hts gX4_grip_X4_tell rfl rfl rfl qX4_tell ⟨Nat.le_of_ble_eq_true rfl, Nat.le_of_ble_eq_true rfl⟩) E0_good hK hA hW trivial [true, false, true] (fun _ => [xH x la ta ka tp sh fi ik, gW cI la G, aI cI fi 7 (up F 0 (F 0 + 1))]) rfl (fun _ => rfl) (fun _ => rfl) 0 0 rfl rfl rfl rfl hl.1 rfl (lv_room (Nat.le_of_ble_eq_true rfl)) dX4_grip_25 ⟨Nat.zero_le _, Nat.zero_le _⟩ (fun _ H locs _ hW => ?_)
    exact rt_i hQ hx hb hr hlocks hW dX4_grip_28 () (by (try simp only [gripV]); (repeat' split) <;> first | rfl | (exfalso; omega)) trivial (by (try simp only [gripG, gripF]); (repeat' split) <;> first | rfl | (exfalso; omega))
  · refine lv_iload_n hx hb dX4_grip_11 rfl (lv_at hl 2 rfl) ?_
    refine zz_zlt (tgt := 22) hx hb dX4_grip_12 (by decide) (rfl : z.toInt = z.toInt) (fun c12 => ?_) (fun c12 => ?_)
    · refine lv_aload_n hx hb dX4_grip_22 rfl (lv_at hl 0 rfl) ?_
      refine lv_ldc (v := -1000000001) hx hb hown (hts _ (List.mem_of_getElem? (i := 2) rfl)) dX4_grip_23 ?_
      refine cl_Vi (As := [.int (-1000000001)]) (rest := []) (C := RX4) ⟨hx, hb, hml, hown, hts⟩ (M_X4_tell l D cI cJ x fi ik la ta ka tp sh F 0 (by decide) (-1000000001) (by decide +kernel)) (cwV 1 hts gX4_grip_X4_tell rfl rfl rfl qX4_tell ⟨Nat.le_of_ble_eq_true rfl, Nat.le_of_ble_eq_true rfl⟩) E0_good hK hA hW trivial [true, false, true] (fun _ => [xH x la ta ka tp sh fi ik, gW cI la G, aI cI fi 7 (up F 0 (F 0 + 1))]) rfl (fun _ => rfl) (fun _ => rfl) 0 0 rfl rfl rfl rfl hl.1 rfl (lv_room (Nat.le_of_ble_eq_true rfl)) dX4_grip_25 ⟨Nat.zero_le _, Nat.zero_le _⟩ (fun _ H locs _ hW => ?_)
      exact rt_i hQ hx hb hr hlocks hW dX4_grip_28 () (by (try simp only [gripV]); (repeat' split) <;> first | rfl | (exfalso; omega)) trivial (by (try simp only [gripG, gripF]); (repeat' split) <;> first | rfl | (exfalso; omega))
    · refine lv_iload_n hx hb dX4_grip_15 rfl (lv_at hl 2 rfl) ?_
      refine lv_sipush (v := nI 200) hx hb dX4_grip_16 (by decide +kernel) ?_
      refine zz_cle (tgt := 29) hx hb dX4_grip_19 (by decide) (rfl : z.toInt = z.toInt) (nI_toInt (n := 200) (by decide)) (fun c19 => ?_) (fun c19 => ?_)
      · obtain ⟨j, hj, ej⟩ : ∃ j : Nat, v = nI j ∧ v.toInt = (j : Int) := ⟨v.toInt.toNat, nI_ofZ rfl (by omega), by omega⟩
        rw [hj] at hl
        obtain ⟨y, hy, ey⟩ : ∃ y : Nat, z = nI y ∧ z.toInt = (y : Int) := ⟨z.toInt.toNat, nI_ofZ rfl (by omega), by omega⟩
        rw [hy] at hl
        refine lv_aload_n hx hb dX4_grip_29 rfl (lv_at hl 0 rfl) ?_
        refine sg_get (ci := 3) (C := RX4) (T := TX4) (N := 7) (v := .ref (la 0)) hx hb hts (fun _ h => List.mem_cons_of_mem _ (List.mem_append_left _ (List.mem_append_right _ h))) hown hK hW 0 0 rfl rfl rfl 0 (by decide) (hts _ (List.mem_of_getElem? (i := 1) rfl)) rfl dX4_grip_30 ?_
        refine sg_get (ci := 0) (C := RX0) (T := TX0) (N := 14) (v := .ref (la 5)) hx hb hts (fun _ h => List.mem_cons_of_mem _ (List.mem_append_right _ h)) hown hK hW 1 0 rfl rfl rfl 11 (by decide) (hts _ (List.mem_of_getElem? (i := 3) rfl)) rfl dX4_grip_33 ?_
        refine lv_iload_n hx hb dX4_grip_36 rfl (lv_at hl 1 rfl) ?_
        refine sg_ild (v := nI (G (8 * j + 5))) hx hb hK hW 1 5 0 rfl rfl rfl (by omega) (by decide) rfl dX4_grip_37 ?_
        refine lv_istore_n (lv' := [(3, .int (nI (G (8 * j + 5)))), (0, .ref x), (1, .int (nI j)), (2, .int (nI y))]) hx hb dX4_grip_38 rfl hl (by decide) rfl (fun ls hl => ?_)
        refine lv_aload_n hx hb dX4_grip_39 rfl (lv_at hl 1 rfl) ?_
        refine sg_get (ci := 3) (C := RX4) (T := TX4) (N := 7) (v := .ref (la 0)) hx hb hts (fun _ h => List.mem_cons_of_mem _ (List.mem_append_left _ (List.mem_append_right _ h))) hown hK hW 0 0 rfl rfl rfl 0 (by decide) (hts _ (List.mem_of_getElem? (i := 1) rfl)) rfl dX4_grip_40 ?_
        refine sg_get (ci := 0) (C := RX0) (T := TX0) (N := 14) (v := .ref (la 5)) hx hb hts (fun _ h => List.mem_cons_of_mem _ (List.mem_append_right _ h)) hown hK hW 1 0 rfl rfl rfl 11 (by decide) (hts _ (List.mem_of_getElem? (i := 3) rfl)) rfl dX4_grip_43 ?_
        refine lv_iload_n hx hb dX4_grip_46 rfl (lv_at hl 2 rfl) ?_
        refine lv_iload_n hx hb dX4_grip_47 rfl (lv_at hl 3 rfl) ?_
        refine sg_ist hx hb hK hW 1 5 0 rfl rfl rfl (by omega) (by decide) (gW_r5 cI la G j y) (ss' := [xH x la ta ka tp sh fi ik, gW cI la (up G (8 * j + 5) y), aI cI fi 7 F]) rfl dX4_grip_48 (fun H locs hW => ?_)
        refine lv_iload_n hx hb dX4_grip_49 rfl (lv_at hl 0 rfl) ?_
        exact rt_i hQ hx hb hr hlocks hW dX4_grip_50 () (by (try simp only [gripV, ej, ey, Int.toNat_natCast]); (repeat' split) <;> first | rfl | (exfalso; omega)) trivial (by (try simp only [gripG, gripF, ej, ey, Int.toNat_natCast]); (repeat' split) <;> first | rfl | (exfalso; omega))
      · refine lv_aload_n hx hb dX4_grip_22 rfl (lv_at hl 0 rfl) ?_
        refine lv_ldc (v := -1000000001) hx hb hown (hts _ (List.mem_of_getElem? (i := 2) rfl)) dX4_grip_23 ?_
        refine cl_Vi (As := [.int (-1000000001)]) (rest := []) (C := RX4) ⟨hx, hb, hml, hown, hts⟩ (M_X4_tell l D cI cJ x fi ik la ta ka tp sh F 0 (by decide) (-1000000001) (by decide +kernel)) (cwV 1 hts gX4_grip_X4_tell rfl rfl rfl qX4_tell ⟨Nat.le_of_ble_eq_true rfl, Nat.le_of_ble_eq_true rfl⟩) E0_good hK hA hW trivial [true, false, true] (fun _ => [xH x la ta ka tp sh fi ik, gW cI la G, aI cI fi 7 (up F 0 (F 0 + 1))]) rfl (fun _ => rfl) (fun _ => rfl) 0 0 rfl rfl rfl rfl hl.1 rfl (lv_room (Nat.le_of_ble_eq_true rfl)) dX4_grip_25 ⟨Nat.zero_le _, Nat.zero_le _⟩ (fun _ H locs _ hW => ?_)
        exact rt_i hQ hx hb hr hlocks hW dX4_grip_28 () (by (try simp only [gripV]); (repeat' split) <;> first | rfl | (exfalso; omega)) trivial (by (try simp only [gripG, gripF]); (repeat' split) <;> first | rfl | (exfalso; omega))
abbrev rmX4_ride : Room := { frames := 1, cells := 0, slots := 0, locals := 22 }
set_option maxRecDepth 100000 in
set_option maxHeartbeats 4000000 in
theorem M_X4_ride (l : Launch) (D : va_G) (cI cJ : ClassId) (x fi ik : Nat) (la ta ka tp sh : Nat → Nat) (G F : Nat → Nat) (hG : OkG 99999 G) (v z : Int32) : CE E0 l D vwCl [(cI, .int), (cJ, .long)] yX4_ride wsX4_ride rmX4_ride [.ref x, .int v, .int z] [xH x la ta ka tp sh fi ik, gW cI la G, aI cI fi 7 F] (S := Unit) (some (.int (rideV G v.toInt z.toInt))) (fun _ => True) (fun _ : Unit => [xH x la ta ka tp sh fi ik, gW cI la (rideG G v.toInt z.toInt), aI cI fi 7 (rideF G F v.toInt z.toInt)]) 0 0 := by
  refine CE.ofW (cc := cX4_ride) (maxL := 3) (ret := (some .int)) (lv := [(0, .ref x), (1, .int v), (2, .int z)]) (by decide) rfl (Nat.le_of_ble_eq_true rfl) rfl ?_
  intro p e s m args below meth c ls A Q hQ hx hb hml hr hlocks hnm hown hts hK hA hE hW hl
  have hown : s.vm.findClass RX4 = some m.cls := hown
  obtain ⟨hg0, hg8, hg16, hg16b, hg24, hg32, hg40, hg48⟩ := hG.s
  refine lv_aload_n hx hb dX4_ride_0 rfl (lv_at hl 0 rfl) ?_
  refine sg_get (ci := 3) (C := RX4) (T := TX4) (N := 7) (v := .ref (la 0)) hx hb hts (fun _ h => List.mem_cons_of_mem _ (List.mem_append_left _ (List.mem_append_right _ h))) hown hK hW 0 0 rfl rfl rfl 0 (by decide) (hts _ (List.mem_of_getElem? (i := 1) rfl)) rfl dX4_ride_1 ?_
  refine lv_iload_n hx hb dX4_ride_4 rfl (lv_at hl 1 rfl) ?_
  refine cl_Vi (As := [.int v]) (rest := []) (C := RX0) ⟨hx, hb, hml, hown, hts⟩ (M_X0_hasChild l D cI cJ la G 99999 (by decide) hG v) (cwV 1 hts gX4_ride_X0_hasChild rfl rfl rfl qX0_hasChild ⟨Nat.le_of_ble_eq_true rfl, Nat.le_of_ble_eq_true rfl⟩) E0_good hK hA hW trivial [false, true] (fun _ => [xH x la ta ka tp sh fi ik, gW cI la G, aI cI fi 7 F]) rfl (fun _ => rfl) (fun _ => rfl) 1 0 rfl rfl rfl rfl hl.1 rfl (lv_room (Nat.le_of_ble_eq_true rfl)) dX4_ride_5 ⟨Nat.zero_le _, Nat.zero_le _⟩ (fun _ H locs _ hW => ?_)
  have him_ := inN_or v (G 48)
  refine nn_zeq (tgt := 20) hx hb dX4_ride_8 (by decide) (by omega) (fun c8 => ?_) (fun c8 => ?_)
  · refine lv_aload_n hx hb dX4_ride_20 rfl (lv_at hl 0 rfl) ?_
    refine lv_ldc (v := -1000000001) hx hb hown (hts _ (List.mem_of_getElem? (i := 2) rfl)) dX4_ride_21 ?_
    refine cl_Vi (As := [.int (-1000000001)]) (rest := []) (C := RX4) ⟨hx, hb, hml, hown, hts⟩ (M_X4_tell l D cI cJ x fi ik la ta ka tp sh F 0 (by decide) (-1000000001) (by decide +kernel)) (cwV 1 hts gX4_ride_X4_tell rfl rfl rfl qX4_tell ⟨Nat.le_of_ble_eq_true rfl, Nat.le_of_ble_eq_true rfl⟩) E0_good hK hA hW trivial [true, false, true] (fun _ => [xH x la ta ka tp sh fi ik, gW cI la G, aI cI fi 7 (up F 0 (F 0 + 1))]) rfl (fun _ => rfl) (fun _ => rfl) 0 0 rfl rfl rfl rfl hl.1 rfl (lv_room (Nat.le_of_ble_eq_true rfl)) dX4_ride_23 ⟨Nat.zero_le _, Nat.zero_le _⟩ (fun _ H locs _ hW => ?_)
    exact rt_i hQ hx hb hr hlocks hW dX4_ride_26 () (by (try simp only [rideV]); (repeat' split) <;> first | rfl | (exfalso; omega)) trivial (by (try simp only [rideG, rideF]); (repeat' split) <;> first | rfl | (exfalso; omega))
  · refine lv_iload_n hx hb dX4_ride_11 rfl (lv_at hl 2 rfl) ?_
    refine zz_zlt (tgt := 20) hx hb dX4_ride_12 (by decide) (rfl : z.toInt = z.toInt) (fun c12 => ?_) (fun c12 => ?_)
    · refine lv_aload_n hx hb dX4_ride_20 rfl (lv_at hl 0 rfl) ?_
      refine lv_ldc (v := -1000000001) hx hb hown (hts _ (List.mem_of_getElem? (i := 2) rfl)) dX4_ride_21 ?_
      refine cl_Vi (As := [.int (-1000000001)]) (rest := []) (C := RX4) ⟨hx, hb, hml, hown, hts⟩ (M_X4_tell l D cI cJ x fi ik la ta ka tp sh F 0 (by decide) (-1000000001) (by decide +kernel)) (cwV 1 hts gX4_ride_X4_tell rfl rfl rfl qX4_tell ⟨Nat.le_of_ble_eq_true rfl, Nat.le_of_ble_eq_true rfl⟩) E0_good hK hA hW trivial [true, false, true] (fun _ => [xH x la ta ka tp sh fi ik, gW cI la G, aI cI fi 7 (up F 0 (F 0 + 1))]) rfl (fun _ => rfl) (fun _ => rfl) 0 0 rfl rfl rfl rfl hl.1 rfl (lv_room (Nat.le_of_ble_eq_true rfl)) dX4_ride_23 ⟨Nat.zero_le _, Nat.zero_le _⟩ (fun _ H locs _ hW => ?_)
      exact rt_i hQ hx hb hr hlocks hW dX4_ride_26 () (by (try simp only [rideV]); (repeat' split) <;> first | rfl | (exfalso; omega)) trivial (by (try simp only [rideG, rideF]); (repeat' split) <;> first | rfl | (exfalso; omega))
    · refine lv_iload_n hx hb dX4_ride_15 rfl (lv_at hl 2 rfl) ?_
      refine lv_iconst (v := nI 1) hx hb dX4_ride_16 (by decide +kernel) ?_
      refine zz_cle (tgt := 27) hx hb dX4_ride_17 (by decide) (rfl : z.toInt = z.toInt) (nI_toInt (n := 1) (by decide)) (fun c17 => ?_) (fun c17 => ?_)
      · obtain ⟨j, hj, ej⟩ : ∃ j : Nat, v = nI j ∧ v.toInt = (j : Int) := ⟨v.toInt.toNat, nI_ofZ rfl (by omega), by omega⟩
        rw [hj] at hl
        obtain ⟨y, hy, ey⟩ : ∃ y : Nat, z = nI y ∧ z.toInt = (y : Int) := ⟨z.toInt.toNat, nI_ofZ rfl (by omega), by omega⟩
        rw [hy] at hl
        refine lv_aload_n hx hb dX4_ride_27 rfl (lv_at hl 0 rfl) ?_
        refine sg_get (ci := 3) (C := RX4) (T := TX4) (N := 7) (v := .ref (la 0)) hx hb hts (fun _ h => List.mem_cons_of_mem _ (List.mem_append_left _ (List.mem_append_right _ h))) hown hK hW 0 0 rfl rfl rfl 0 (by decide) (hts _ (List.mem_of_getElem? (i := 1) rfl)) rfl dX4_ride_28 ?_
        refine sg_get (ci := 0) (C := RX0) (T := TX0) (N := 14) (v := .ref (la 6)) hx hb hts (fun _ h => List.mem_cons_of_mem _ (List.mem_append_right _ h)) hown hK hW 1 0 rfl rfl rfl 12 (by decide) (hts _ (List.mem_of_getElem? (i := 3) rfl)) rfl dX4_ride_31 ?_
        refine lv_iload_n hx hb dX4_ride_34 rfl (lv_at hl 1 rfl) ?_
        refine lv_iload_n hx hb dX4_ride_35 rfl (lv_at hl 2 rfl) ?_
        refine sg_ist hx hb hK hW 1 6 0 rfl rfl rfl (by omega) (by decide) (gW_r6 cI la G j y) (ss' := [xH x la ta ka tp sh fi ik, gW cI la (up G (8 * j + 6) y), aI cI fi 7 F]) rfl dX4_ride_36 (fun H locs hW => ?_)
        refine lv_aload_n hx hb dX4_ride_37 rfl (lv_at hl 0 rfl) ?_
        refine sg_get (ci := 3) (C := RX4) (T := TX4) (N := 7) (v := .ref (la 0)) hx hb hts (fun _ h => List.mem_cons_of_mem _ (List.mem_append_left _ (List.mem_append_right _ h))) hown hK hW 0 0 rfl rfl rfl 0 (by decide) (hts _ (List.mem_of_getElem? (i := 1) rfl)) rfl dX4_ride_38 ?_
        refine cl_Vi (As := []) (rest := []) (C := RX0) ⟨hx, hb, hml, hown, hts⟩ (M_X0_onCount l D cI cJ la (up G (8 * j + 6) y) 99999 (by decide) (hG.r6 (a := j) (v := y) (by omega))) (cwV 0 hts gX4_ride_X0_onCount rfl rfl rfl qX0_onCount ⟨Nat.le_of_ble_eq_true rfl, Nat.le_of_ble_eq_true rfl⟩) E0_good hK hA hW trivial [false, true] (fun _ => [xH x la ta ka tp sh fi ik, gW cI la (up G (8 * j + 6) y), aI cI fi 7 F]) rfl (fun _ => rfl) (fun _ => rfl) 1 0 rfl rfl rfl rfl hl.1 rfl (lv_room (Nat.le_of_ble_eq_true rfl)) dX4_ride_41 ⟨Nat.zero_le _, Nat.zero_le _⟩ (fun _ H locs _ hW => ?_)
        exact rt_i hQ hx hb hr hlocks hW dX4_ride_44 () (by (try simp only [rideV, ej, ey, Int.toNat_natCast]); (repeat' split) <;> first | rfl | (exfalso; omega)) trivial (by (try simp only [rideG, rideF, ej, ey, Int.toNat_natCast]); (repeat' split) <;> first | rfl | (exfalso; omega))
      · refine lv_aload_n hx hb dX4_ride_20 rfl (lv_at hl 0 rfl) ?_
        refine lv_ldc (v := -1000000001) hx hb hown (hts _ (List.mem_of_getElem? (i := 2) rfl)) dX4_ride_21 ?_
        refine cl_Vi (As := [.int (-1000000001)]) (rest := []) (C := RX4) ⟨hx, hb, hml, hown, hts⟩ (M_X4_tell l D cI cJ x fi ik la ta ka tp sh F 0 (by decide) (-1000000001) (by decide +kernel)) (cwV 1 hts gX4_ride_X4_tell rfl rfl rfl qX4_tell ⟨Nat.le_of_ble_eq_true rfl, Nat.le_of_ble_eq_true rfl⟩) E0_good hK hA hW trivial [true, false, true] (fun _ => [xH x la ta ka tp sh fi ik, gW cI la G, aI cI fi 7 (up F 0 (F 0 + 1))]) rfl (fun _ => rfl) (fun _ => rfl) 0 0 rfl rfl rfl rfl hl.1 rfl (lv_room (Nat.le_of_ble_eq_true rfl)) dX4_ride_23 ⟨Nat.zero_le _, Nat.zero_le _⟩ (fun _ H locs _ hW => ?_)
        exact rt_i hQ hx hb hr hlocks hW dX4_ride_26 () (by (try simp only [rideV]); (repeat' split) <;> first | rfl | (exfalso; omega)) trivial (by (try simp only [rideG, rideF]); (repeat' split) <;> first | rfl | (exfalso; omega))
abbrev rmX4_minutes : Room := { frames := 5, cells := 0, slots := 0, locals := 120 }
set_option maxRecDepth 100000 in
set_option maxHeartbeats 4000000 in
theorem M_X4_minutes (l : Launch) (D : va_G) (cI cJ : ClassId) (x fi ik : Nat) (la ta ka tp sh : Nat → Nat) (G F : Nat → Nat) (hG : OkG 99999 G) (z : Int32) : CE E0 l D vwCl [(cI, .int), (cJ, .long)] yX4_minutes wsX4_minutes rmX4_minutes [.ref x, .int z] [xH x la ta ka tp sh fi ik, gW cI la G, aI cI fi 7 F] (S := Unit) (some (.int (minutesV G z.toInt))) (fun _ => True) (fun _ : Unit => [xH x la ta ka tp sh fi ik, gW cI la (minutesG G z.toInt), aI cI fi 7 (minutesF G F z.toInt)]) 0 0 := by
  refine CE.ofW (cc := cX4_minutes) (maxL := 2) (ret := (some .int)) (lv := [(0, .ref x), (1, .int z)]) (by decide) rfl (Nat.le_of_ble_eq_true rfl) rfl ?_
  intro p e s m args below meth c ls A Q hQ hx hb hml hr hlocks hnm hown hts hK hA hE hW hl
  have hown : s.vm.findClass RX4 = some m.cls := hown
  obtain ⟨hg0, hg8, hg16, hg16b, hg24, hg32, hg40, hg48⟩ := hG.s
  refine lv_iload_n hx hb dX4_minutes_0 rfl (lv_at hl 1 rfl) ?_
  refine lv_iconst (v := nI 1) hx hb dX4_minutes_1 (by decide +kernel) ?_
  refine zz_clt (tgt := 11) hx hb dX4_minutes_2 (by decide) (rfl : z.toInt = z.toInt) (nI_toInt (n := 1) (by decide)) (fun c2 => ?_) (fun c2 => ?_)
  · refine lv_aload_n hx hb dX4_minutes_11 rfl (lv_at hl 0 rfl) ?_
    refine lv_ldc (v := -1000000001) hx hb hown (hts _ (List.mem_of_getElem? (i := 1) rfl)) dX4_minutes_12 ?_
    refine cl_Vi (As := [.int (-1000000001)]) (rest := []) (C := RX4) ⟨hx, hb, hml, hown, hts⟩ (M_X4_tell l D cI cJ x fi ik la ta ka tp sh F 0 (by decide) (-1000000001) (by decide +kernel)) (cwV 1 hts gX4_minutes_X4_tell rfl rfl rfl qX4_tell ⟨Nat.le_of_ble_eq_true rfl, Nat.le_of_ble_eq_true rfl⟩) E0_good hK hA hW trivial [true, false, true] (fun _ => [xH x la ta ka tp sh fi ik, gW cI la G, aI cI fi 7 (up F 0 (F 0 + 1))]) rfl (fun _ => rfl) (fun _ => rfl) 0 0 rfl rfl rfl rfl hl.1 rfl (lv_room (Nat.le_of_ble_eq_true rfl)) dX4_minutes_14 ⟨Nat.zero_le _, Nat.zero_le _⟩ (fun _ H locs _ hW => ?_)
    exact rt_i hQ hx hb hr hlocks hW dX4_minutes_17 () (by (try simp only [minutesV]); (repeat' split) <;> first | rfl | (exfalso; omega)) trivial (by (try simp only [minutesG, minutesF]); (repeat' split) <;> first | rfl | (exfalso; omega))
  · refine lv_iload_n hx hb dX4_minutes_5 rfl (lv_at hl 1 rfl) ?_
    refine lv_bipush (v := nI 100) hx hb dX4_minutes_6 (by decide +kernel) ?_
    refine zz_cle (tgt := 18) hx hb dX4_minutes_8 (by decide) (rfl : z.toInt = z.toInt) (nI_toInt (n := 100) (by decide)) (fun c8 => ?_) (fun c8 => ?_)
    · obtain ⟨y, hy, ey⟩ : ∃ y : Nat, z = nI y ∧ z.toInt = (y : Int) := ⟨z.toInt.toNat, nI_ofZ rfl (by omega), by omega⟩
      rw [hy] at hl
      refine lv_aload_n hx hb dX4_minutes_18 rfl (lv_at hl 0 rfl) ?_
      refine sg_get (ci := 3) (C := RX4) (T := TX4) (N := 7) (v := .ref (la 0)) hx hb hts (fun _ h => List.mem_cons_of_mem _ (List.mem_append_left _ (List.mem_append_right _ h))) hown hK hW 0 0 rfl rfl rfl 0 (by decide) (hts _ (List.mem_of_getElem? (i := 2) rfl)) rfl dX4_minutes_19 ?_
      refine sg_get (ci := 0) (C := RX0) (T := TX0) (N := 14) (v := .int (nI (G 0))) hx hb hts (fun _ h => List.mem_cons_of_mem _ (List.mem_append_right _ h)) hown hK hW 1 0 rfl rfl rfl 0 (by decide) (hts _ (List.mem_of_getElem? (i := 3) rfl)) rfl dX4_minutes_22 ?_
      refine lv_iload_n hx hb dX4_minutes_25 rfl (lv_at hl 1 rfl) ?_
      refine nn_add hx hb dX4_minutes_26 ?_
      refine lv_ldc (v := 99999) hx hb hown (hts _ (List.mem_of_getElem? (i := 4) rfl)) dX4_minutes_27 ?_
      refine W.top (v' := .int (nI 99999)) rfl ?_
      refine nn_cle (tgt := 39) hx hb dX4_minutes_29 (by decide) (by omega) (by decide) (fun c29 => ?_) (fun c29 => ?_)
      · refine lv_aload_n hx hb dX4_minutes_39 rfl (lv_at hl 0 rfl) ?_
        refine sg_get (ci := 3) (C := RX4) (T := TX4) (N := 7) (v := .ref (la 0)) hx hb hts (fun _ h => List.mem_cons_of_mem _ (List.mem_append_left _ (List.mem_append_right _ h))) hown hK hW 0 0 rfl rfl rfl 0 (by decide) (hts _ (List.mem_of_getElem? (i := 2) rfl)) rfl dX4_minutes_40 ?_
        refine lv_iload_n hx hb dX4_minutes_43 rfl (lv_at hl 1 rfl) ?_
        refine cl_Vv (As := [.int (nI y)]) (rest := []) (C := RX0) ⟨hx, hb, hml, hown, hts⟩ (M_X0_passMinutes l D cI cJ la G 99999 (by decide) hG y (by omega)) (cwV 1 hts gX4_minutes_X0_passMinutes rfl rfl rfl qX0_passMinutes ⟨Nat.le_of_ble_eq_true rfl, Nat.le_of_ble_eq_true rfl⟩) E0_good hK hA hW trivial [false, true] (fun _ => [xH x la ta ka tp sh fi ik, gW cI la (stepN G y), aI cI fi 7 F]) rfl (fun _ => rfl) (fun _ => rfl) 1 0 rfl rfl rfl rfl hl.1 rfl (lv_room (Nat.le_of_ble_eq_true rfl)) dX4_minutes_44 ⟨Nat.zero_le _, Nat.zero_le _⟩ (fun _ H locs _ hW => ?_)
        refine lv_aload_n hx hb dX4_minutes_47 rfl (lv_at hl 0 rfl) ?_
        refine sg_get (ci := 3) (C := RX4) (T := TX4) (N := 7) (v := .ref (la 0)) hx hb hts (fun _ h => List.mem_cons_of_mem _ (List.mem_append_left _ (List.mem_append_right _ h))) hown hK hW 0 0 rfl rfl rfl 0 (by decide) (hts _ (List.mem_of_getElem? (i := 2) rfl)) rfl dX4_minutes_48 ?_
        refine sg_get (ci := 0) (C := RX0) (T := TX0) (N := 14) (v := .int (nI ((stepN G y) 24))) hx hb hts (fun _ h => List.mem_cons_of_mem _ (List.mem_append_right _ h)) hown hK hW 1 0 rfl rfl rfl 3 (by decide) (hts _ (List.mem_of_getElem? (i := 6) rfl)) rfl dX4_minutes_51 ?_
        exact rt_i hQ hx hb hr hlocks hW dX4_minutes_54 () (by (try simp only [minutesV, ey, Int.toNat_natCast]); (repeat' split) <;> first | rfl | (exfalso; omega)) trivial (by (try simp only [minutesG, minutesF, ey, Int.toNat_natCast]); (repeat' split) <;> first | rfl | (exfalso; omega))
      · refine lv_aload_n hx hb dX4_minutes_32 rfl (lv_at hl 0 rfl) ?_
        refine lv_ldc (v := -1000000005) hx hb hown (hts _ (List.mem_of_getElem? (i := 5) rfl)) dX4_minutes_33 ?_
        refine cl_Vi (As := [.int (-1000000005)]) (rest := []) (C := RX4) ⟨hx, hb, hml, hown, hts⟩ (M_X4_tell l D cI cJ x fi ik la ta ka tp sh F 4 (by decide) (-1000000005) (by decide +kernel)) (cwV 1 hts gX4_minutes_X4_tell rfl rfl rfl qX4_tell ⟨Nat.le_of_ble_eq_true rfl, Nat.le_of_ble_eq_true rfl⟩) E0_good hK hA hW trivial [true, false, true] (fun _ => [xH x la ta ka tp sh fi ik, gW cI la G, aI cI fi 7 (up F 4 (F 4 + 1))]) rfl (fun _ => rfl) (fun _ => rfl) 0 0 rfl rfl rfl rfl hl.1 rfl (lv_room (Nat.le_of_ble_eq_true rfl)) dX4_minutes_35 ⟨Nat.zero_le _, Nat.zero_le _⟩ (fun _ H locs _ hW => ?_)
        exact rt_i hQ hx hb hr hlocks hW dX4_minutes_38 () (by (try simp only [minutesV, ey, Int.toNat_natCast]); (repeat' split) <;> first | rfl | (exfalso; omega)) trivial (by (try simp only [minutesG, minutesF, ey, Int.toNat_natCast]); (repeat' split) <;> first | rfl | (exfalso; omega))
    · refine lv_aload_n hx hb dX4_minutes_11 rfl (lv_at hl 0 rfl) ?_
      refine lv_ldc (v := -1000000001) hx hb hown (hts _ (List.mem_of_getElem? (i := 1) rfl)) dX4_minutes_12 ?_
      refine cl_Vi (As := [.int (-1000000001)]) (rest := []) (C := RX4) ⟨hx, hb, hml, hown, hts⟩ (M_X4_tell l D cI cJ x fi ik la ta ka tp sh F 0 (by decide) (-1000000001) (by decide +kernel)) (cwV 1 hts gX4_minutes_X4_tell rfl rfl rfl qX4_tell ⟨Nat.le_of_ble_eq_true rfl, Nat.le_of_ble_eq_true rfl⟩) E0_good hK hA hW trivial [true, false, true] (fun _ => [xH x la ta ka tp sh fi ik, gW cI la G, aI cI fi 7 (up F 0 (F 0 + 1))]) rfl (fun _ => rfl) (fun _ => rfl) 0 0 rfl rfl rfl rfl hl.1 rfl (lv_room (Nat.le_of_ble_eq_true rfl)) dX4_minutes_14 ⟨Nat.zero_le _, Nat.zero_le _⟩ (fun _ H locs _ hW => ?_)
      exact rt_i hQ hx hb hr hlocks hW dX4_minutes_17 () (by (try simp only [minutesV]); (repeat' split) <;> first | rfl | (exfalso; omega)) trivial (by (try simp only [minutesG, minutesF]); (repeat' split) <;> first | rfl | (exfalso; omega))
