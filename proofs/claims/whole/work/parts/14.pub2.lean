theorem qX5_thinks : yX5_thinks.cls = RX5 ∧ yX5_thinks.cls ≠ "java/lang/invoke/MethodHandle" ∧ yX5_thinks.cls ≠ "java/lang/invoke/VarHandle" ∧ (parseMethodDescriptor yX5_thinks.desc).map (fun d => d.parameters.length) = some 0 := by decide +kernel
theorem qX5_orNone : yX5_orNone.cls = RX5 ∧ yX5_orNone.cls ≠ "java/lang/invoke/MethodHandle" ∧ yX5_orNone.cls ≠ "java/lang/invoke/VarHandle" ∧ (parseMethodDescriptor yX5_orNone.desc).map (fun d => d.parameters.length) = some 1 := by decide +kernel
theorem qX5_turnedOn : yX5_turnedOn.cls = RX5 ∧ yX5_turnedOn.cls ≠ "java/lang/invoke/MethodHandle" ∧ yX5_turnedOn.cls ≠ "java/lang/invoke/VarHandle" ∧ (parseMethodDescriptor yX5_turnedOn.desc).map (fun d => d.parameters.length) = some 1 := by decide +kernel
theorem qX5_allFlung : yX5_allFlung.cls = RX5 ∧ yX5_allFlung.cls ≠ "java/lang/invoke/MethodHandle" ∧ yX5_allFlung.cls ≠ "java/lang/invoke/VarHandle" ∧ (parseMethodDescriptor yX5_allFlung.desc).map (fun d => d.parameters.length) = some 0 := by decide +kernel
theorem qX5_pushWith : yX5_pushWith.cls = RX5 ∧ yX5_pushWith.cls ≠ "java/lang/invoke/MethodHandle" ∧ yX5_pushWith.cls ≠ "java/lang/invoke/VarHandle" ∧ (parseMethodDescriptor yX5_pushWith.desc).map (fun d => d.parameters.length) = some 1 := by decide +kernel
abbrev rmX5_on : Room := { frames := 7, cells := 0, slots := 0, locals := 159 }
set_option maxRecDepth 100000 in
set_option maxHeartbeats 4000000 in
theorem M_X5_on (l : Launch) (D : va_G) (cI cJ : ClassId) (mo R G Wa F : Nat → Nat) (hG : OkG 99999 G) (n v : Int32) : CE E0 l D vwCl [(cI, .int), (cJ, .long)] yX5_on wsX5_on rmX5_on [.ref (mo 0), .int n, .int v] [mH mo R, mR cI (mo 1) G, mR cI (mo 3) Wa, aI cI (mo 4) 7 F] (S := (Nat → Nat)) (some (.int (onV G n.toInt v.toInt))) (fun _ => True) (fun Wx : Nat → Nat => [mH mo R, mR cI (mo 1) G, mR cI (mo 3) Wx, aI cI (mo 4) 7 (onF F n.toInt v.toInt)]) 0 0 := by
  refine CE.ofW (cc := cX5_on) (maxL := 4) (ret := (some .int)) (lv := [(0, .ref (mo 0)), (1, .int n), (2, .int v)]) (by decide) rfl (Nat.le_of_ble_eq_true rfl) rfl ?_
  intro p e s m args below meth c ls A Q hQ hx hb hml hr hlocks hnm hown hts hK hA hE hW hl
  have hown : s.vm.findClass RX5 = some m.cls := hown
  obtain ⟨hg0, hg8, hg16, hg16b, hg24, hg32, hg40, hg48⟩ := hG.s
  refine lv_iload_n hx hb dX5_on_0 rfl (lv_at hl 1 rfl) ?_
  refine lv_i2l (v := (n).toInt64) hx hb dX5_on_1 rfl ?_
  refine lv_iconst (v := nI 0) hx hb dX5_on_2 (by decide +kernel) ?_
  refine lv_sipush (v := nI 200) hx hb dX5_on_3 (by decide +kernel) ?_
  refine cl_Si (As := [.long ((n).toInt64), .int (nI 0), .int (nI 200)]) (rest := []) ⟨hx, hb, hml, hown, hts⟩ (M_X5_in2 l D cI cJ ((n).toInt64) (nI 0) (nI 200) n.toInt ((0 : Nat) : Int) ((200 : Nat) : Int) ((Int32.toInt_toInt64 _).trans rfl) (nI_toInt (n := 0) (by decide)) (nI_toInt (n := 200) (by decide))) (va_cwS 3 hts gX5_on_X5_in rfl rfl rfl qX5_in ⟨Nat.le_of_ble_eq_true rfl, Nat.le_of_ble_eq_true rfl⟩) E0_good hK hA hW trivial [] (fun _ => [mH mo R, mR cI (mo 1) G, mR cI (mo 3) Wa, aI cI (mo 4) 7 F]) rfl (fun _ => rfl) (fun _ => rfl) rfl hl.1 rfl (lv_room (Nat.le_of_ble_eq_true rfl)) dX5_on_6 ⟨Nat.zero_le _, Nat.zero_le _⟩ (fun _ H locs _ hW => ?_)
  have hin_ := inZ_or n.toInt ((0 : Nat) : Int) ((200 : Nat) : Int)
  refine nn_zeq (tgt := 22) hx hb dX5_on_9 (by decide) (by omega) (fun c9 => ?_) (fun c9 => ?_)
  · refine lv_aload_n hx hb dX5_on_22 rfl (lv_at hl 0 rfl) ?_
    refine lv_ldc (v := -1000000001) hx hb hown (hts _ (List.mem_of_getElem? (i := 1) rfl)) dX5_on_23 ?_
    refine cl_Vi (As := [.int (-1000000001)]) (rest := []) (C := RX5) ⟨hx, hb, hml, hown, hts⟩ (M_X5_finds l D cI cJ mo R F 0 (by decide) (-1000000001) (by decide +kernel)) (cwV 1 hts gX5_on_X5_finds rfl rfl rfl qX5_finds ⟨Nat.le_of_ble_eq_true rfl, Nat.le_of_ble_eq_true rfl⟩) E0_good hK hA hW trivial [true, false, false, true] (fun _ => [mH mo R, mR cI (mo 1) G, mR cI (mo 3) Wa, aI cI (mo 4) 7 (up F 0 (F 0 + 1))]) rfl (fun _ => rfl) (fun _ => rfl) 0 0 rfl rfl rfl rfl hl.1 rfl (lv_room (Nat.le_of_ble_eq_true rfl)) dX5_on_25 ⟨Nat.zero_le _, Nat.zero_le _⟩ (fun _ H locs _ hW => ?_)
    exact rt_i hQ hx hb hr hlocks hW dX5_on_28 Wa (by (try simp only [onV]); (repeat' split) <;> first | rfl | (exfalso; omega)) trivial (by (try simp only [onF]); (repeat' split) <;> first | rfl | (exfalso; omega))
  · refine lv_iload_n hx hb dX5_on_12 rfl (lv_at hl 2 rfl) ?_
    refine lv_i2l (v := (v).toInt64) hx hb dX5_on_13 rfl ?_
    refine lv_iconst (v := nI 0) hx hb dX5_on_14 (by decide +kernel) ?_
    refine lv_iconst (v := nI 2) hx hb dX5_on_15 (by decide +kernel) ?_
    refine cl_Si (As := [.long ((v).toInt64), .int (nI 0), .int (nI 2)]) (rest := []) ⟨hx, hb, hml, hown, hts⟩ (M_X5_in2 l D cI cJ ((v).toInt64) (nI 0) (nI 2) v.toInt ((0 : Nat) : Int) ((2 : Nat) : Int) ((Int32.toInt_toInt64 _).trans rfl) (nI_toInt (n := 0) (by decide)) (nI_toInt (n := 2) (by decide))) (va_cwS 3 hts gX5_on_X5_in rfl rfl rfl qX5_in ⟨Nat.le_of_ble_eq_true rfl, Nat.le_of_ble_eq_true rfl⟩) E0_good hK hA hW trivial [] (fun _ => [mH mo R, mR cI (mo 1) G, mR cI (mo 3) Wa, aI cI (mo 4) 7 F]) rfl (fun _ => rfl) (fun _ => rfl) rfl hl.1 rfl (lv_room (Nat.le_of_ble_eq_true rfl)) dX5_on_16 ⟨Nat.zero_le _, Nat.zero_le _⟩ (fun _ H locs _ hW => ?_)
    have hin_ := inZ_or v.toInt ((0 : Nat) : Int) ((2 : Nat) : Int)
    refine nn_zne (tgt := 29) hx hb dX5_on_19 (by decide) (by omega) (fun c19 => ?_) (fun c19 => ?_)
    · obtain ⟨y, hy, ey⟩ : ∃ y : Nat, n = nI y ∧ n.toInt = (y : Int) := ⟨n.toInt.toNat, nI_ofZ rfl (by omega), by omega⟩
      rw [hy] at hl
      refine lv_aload_n hx hb dX5_on_29 rfl (lv_at hl 0 rfl) ?_
      refine cl_Vv (As := []) (rest := []) (C := RX5) ⟨hx, hb, hml, hown, hts⟩ (M_X5_thinks l D cI cJ mo R G Wa ) (cwV 0 hts gX5_on_X5_thinks rfl rfl rfl qX5_thinks ⟨Nat.le_of_ble_eq_true rfl, Nat.le_of_ble_eq_true rfl⟩) E0_good hK hA hW trivial [true, true, true] (fun _ => [mH mo R, mR cI (mo 1) G, mR cI (mo 3) G, aI cI (mo 4) 7 F]) rfl (fun _ => rfl) (fun _ => rfl) 0 0 rfl rfl rfl rfl hl.1 rfl (lv_room (Nat.le_of_ble_eq_true rfl)) dX5_on_30 ⟨Nat.zero_le _, Nat.zero_le _⟩ (fun _ H locs _ hW => ?_)
      refine lv_aload_n hx hb dX5_on_33 rfl (lv_at hl 0 rfl) ?_
      refine lv_iload_n hx hb dX5_on_34 rfl (lv_at hl 1 rfl) ?_
      refine cl_Vv (As := [.int (nI y)]) (rest := []) (C := RX5) ⟨hx, hb, hml, hown, hts⟩ (M_X5_goesFor l D cI cJ mo R G 99999 (by decide) hG y (by omega)) (cwV 1 hts gX5_on_X5_goesFor rfl rfl rfl qX5_goesFor ⟨Nat.le_of_ble_eq_true rfl, Nat.le_of_ble_eq_true rfl⟩) E0_good hK hA hW trivial [true, true] (fun _ => [mH mo R, mR cI (mo 1) (stepN G y), mR cI (mo 3) G, aI cI (mo 4) 7 F]) rfl (fun _ => rfl) (fun _ => rfl) 0 0 rfl rfl rfl rfl hl.1 rfl (lv_room (Nat.le_of_ble_eq_true rfl)) dX5_on_35 ⟨Nat.zero_le _, Nat.zero_le _⟩ (fun _ H locs _ hW => ?_)
      refine lv_iload_n hx hb dX5_on_38 rfl (lv_at hl 2 rfl) ?_
      refine lv_iconst (v := nI 2) hx hb dX5_on_39 (by decide +kernel) ?_
      refine zz_cne (tgt := 50) hx hb dX5_on_40 (by decide) (rfl : v.toInt = v.toInt) (nI_toInt (n := 2) (by decide)) (fun c40 => ?_) (fun c40 => ?_)
      · rcases (show v.toInt = 0 ∨ v.toInt = 1 by omega) with cq | cq
        · have hlit2 : v = nI 0 := zz_eq.mpr ((show v.toInt = 0 by omega).trans (by decide +kernel))
          rw [hlit2] at hl
          refine lv_aload_n hx hb dX5_on_50 rfl (lv_at hl 0 rfl) ?_
          refine sg_get (ci := 4) (C := RX5) (T := TX5) (N := 15) (v := .ref (mo 1)) hx hb hts (fun _ h => List.mem_cons_of_mem _ (List.mem_append_right _ h)) hown hK hW 0 0 rfl rfl rfl 0 (by decide) (hts _ (List.mem_of_getElem? (i := 2) rfl)) rfl dX5_on_51 ?_
          refine lv_iconst (v := nI 3) hx hb dX5_on_54 (by decide +kernel) ?_
          refine lv_iload_n hx hb dX5_on_55 rfl (lv_at hl 2 rfl) ?_
          refine nn_add hx hb dX5_on_56 ?_
          refine sg_ild (v := nI ((stepN G y) (mk (3 + 0)))) hx hb hK hW 1 0 0 rfl rfl rfl (by omega) (by decide) rfl dX5_on_57 ?_
          refine lv_istore_n (lv' := [(3, .int (nI ((stepN G y) (mk (3 + 0))))), (0, .ref (mo 0)), (1, .int (nI y)), (2, .int (nI 0))]) hx hb dX5_on_58 rfl hl (by decide) rfl (fun ls hl => ?_)
          refine lv_aload_n hx hb dX5_on_59 rfl (lv_at hl 1 rfl) ?_
          refine cl_Vv (As := []) (rest := []) (C := RX5) ⟨hx, hb, hml, hown, hts⟩ (M_X5_putsBack l D cI cJ mo R (stepN G y) G ) (cwV 0 hts gX5_on_X5_putsBack rfl rfl rfl qX5_putsBack ⟨Nat.le_of_ble_eq_true rfl, Nat.le_of_ble_eq_true rfl⟩) E0_good hK hA hW trivial [true, true, true] (fun _ => [mH mo R, mR cI (mo 1) G, mR cI (mo 3) G, aI cI (mo 4) 7 F]) rfl (fun _ => rfl) (fun _ => rfl) 0 0 rfl rfl rfl rfl hl.1 rfl (lv_room (Nat.le_of_ble_eq_true rfl)) dX5_on_60 ⟨Nat.zero_le _, Nat.zero_le _⟩ (fun _ H locs _ hW => ?_)
          refine lv_iload_n hx hb dX5_on_63 rfl (lv_at hl 0 rfl) ?_
          exact rt_i hQ hx hb hr hlocks hW dX5_on_64 G (by (try simp only [onV, ey, Int.toNat_natCast]); (repeat' split) <;> first | rfl | (exfalso; omega)) trivial (by (try simp only [onF, ey, Int.toNat_natCast]); (repeat' split) <;> first | rfl | (exfalso; omega))
        · have hlit2 : v = nI 1 := zz_eq.mpr ((show v.toInt = 1 by omega).trans (by decide +kernel))
          rw [hlit2] at hl
          refine lv_aload_n hx hb dX5_on_50 rfl (lv_at hl 0 rfl) ?_
          refine sg_get (ci := 4) (C := RX5) (T := TX5) (N := 15) (v := .ref (mo 1)) hx hb hts (fun _ h => List.mem_cons_of_mem _ (List.mem_append_right _ h)) hown hK hW 0 0 rfl rfl rfl 0 (by decide) (hts _ (List.mem_of_getElem? (i := 2) rfl)) rfl dX5_on_51 ?_
          refine lv_iconst (v := nI 3) hx hb dX5_on_54 (by decide +kernel) ?_
          refine lv_iload_n hx hb dX5_on_55 rfl (lv_at hl 2 rfl) ?_
          refine nn_add hx hb dX5_on_56 ?_
          refine sg_ild (v := nI ((stepN G y) (mk (3 + 1)))) hx hb hK hW 1 0 0 rfl rfl rfl (by omega) (by decide) rfl dX5_on_57 ?_
          refine lv_istore_n (lv' := [(3, .int (nI ((stepN G y) (mk (3 + 1))))), (0, .ref (mo 0)), (1, .int (nI y)), (2, .int (nI 1))]) hx hb dX5_on_58 rfl hl (by decide) rfl (fun ls hl => ?_)
          refine lv_aload_n hx hb dX5_on_59 rfl (lv_at hl 1 rfl) ?_
          refine cl_Vv (As := []) (rest := []) (C := RX5) ⟨hx, hb, hml, hown, hts⟩ (M_X5_putsBack l D cI cJ mo R (stepN G y) G ) (cwV 0 hts gX5_on_X5_putsBack rfl rfl rfl qX5_putsBack ⟨Nat.le_of_ble_eq_true rfl, Nat.le_of_ble_eq_true rfl⟩) E0_good hK hA hW trivial [true, true, true] (fun _ => [mH mo R, mR cI (mo 1) G, mR cI (mo 3) G, aI cI (mo 4) 7 F]) rfl (fun _ => rfl) (fun _ => rfl) 0 0 rfl rfl rfl rfl hl.1 rfl (lv_room (Nat.le_of_ble_eq_true rfl)) dX5_on_60 ⟨Nat.zero_le _, Nat.zero_le _⟩ (fun _ H locs _ hW => ?_)
          refine lv_iload_n hx hb dX5_on_63 rfl (lv_at hl 0 rfl) ?_
          exact rt_i hQ hx hb hr hlocks hW dX5_on_64 G (by (try simp only [onV, ey, Int.toNat_natCast]); (repeat' split) <;> first | rfl | (exfalso; omega)) trivial (by (try simp only [onF, ey, Int.toNat_natCast]); (repeat' split) <;> first | rfl | (exfalso; omega))
      · refine lv_aload_n hx hb dX5_on_43 rfl (lv_at hl 0 rfl) ?_
        refine cl_Vi (As := []) (rest := []) (C := RX5) ⟨hx, hb, hml, hown, hts⟩ (M_X5_riders l D cI cJ mo R (stepN G y) (99999 + y) (by omega) (stepN_ok hG y) ) (cwV 0 hts gX5_on_X5_riders rfl rfl rfl qX5_riders ⟨Nat.le_of_ble_eq_true rfl, Nat.le_of_ble_eq_true rfl⟩) E0_good hK hA hW trivial [true, true] (fun _ => [mH mo R, mR cI (mo 1) (stepN G y), mR cI (mo 3) G, aI cI (mo 4) 7 F]) rfl (fun _ => rfl) (fun _ => rfl) 0 0 rfl rfl rfl rfl hl.1 rfl (lv_room (Nat.le_of_ble_eq_true rfl)) dX5_on_44 ⟨Nat.zero_le _, Nat.zero_le _⟩ (fun _ H locs _ hW => ?_)
        have hrs_ := onS_lt ((stepN_ok hG y))
        refine lv_goto (tgt := 58) hx hb dX5_on_47 (by decide) ?_
        refine lv_istore_n (lv' := [(3, .int (nI (onS (stepN G y)))), (0, .ref (mo 0)), (1, .int (nI y)), (2, .int v)]) hx hb dX5_on_58 rfl hl (by decide) rfl (fun ls hl => ?_)
        refine lv_aload_n hx hb dX5_on_59 rfl (lv_at hl 1 rfl) ?_
        refine cl_Vv (As := []) (rest := []) (C := RX5) ⟨hx, hb, hml, hown, hts⟩ (M_X5_putsBack l D cI cJ mo R (stepN G y) G ) (cwV 0 hts gX5_on_X5_putsBack rfl rfl rfl qX5_putsBack ⟨Nat.le_of_ble_eq_true rfl, Nat.le_of_ble_eq_true rfl⟩) E0_good hK hA hW trivial [true, true, true] (fun _ => [mH mo R, mR cI (mo 1) G, mR cI (mo 3) G, aI cI (mo 4) 7 F]) rfl (fun _ => rfl) (fun _ => rfl) 0 0 rfl rfl rfl rfl hl.1 rfl (lv_room (Nat.le_of_ble_eq_true rfl)) dX5_on_60 ⟨Nat.zero_le _, Nat.zero_le _⟩ (fun _ H locs _ hW => ?_)
        refine lv_iload_n hx hb dX5_on_63 rfl (lv_at hl 0 rfl) ?_
        exact rt_i hQ hx hb hr hlocks hW dX5_on_64 G (by (try simp only [onV, ey, Int.toNat_natCast]); (repeat' split) <;> first | rfl | (exfalso; omega)) trivial (by (try simp only [onF, ey, Int.toNat_natCast]); (repeat' split) <;> first | rfl | (exfalso; omega))
    · refine lv_aload_n hx hb dX5_on_22 rfl (lv_at hl 0 rfl) ?_
      refine lv_ldc (v := -1000000001) hx hb hown (hts _ (List.mem_of_getElem? (i := 1) rfl)) dX5_on_23 ?_
      refine cl_Vi (As := [.int (-1000000001)]) (rest := []) (C := RX5) ⟨hx, hb, hml, hown, hts⟩ (M_X5_finds l D cI cJ mo R F 0 (by decide) (-1000000001) (by decide +kernel)) (cwV 1 hts gX5_on_X5_finds rfl rfl rfl qX5_finds ⟨Nat.le_of_ble_eq_true rfl, Nat.le_of_ble_eq_true rfl⟩) E0_good hK hA hW trivial [true, false, false, true] (fun _ => [mH mo R, mR cI (mo 1) G, mR cI (mo 3) Wa, aI cI (mo 4) 7 (up F 0 (F 0 + 1))]) rfl (fun _ => rfl) (fun _ => rfl) 0 0 rfl rfl rfl rfl hl.1 rfl (lv_room (Nat.le_of_ble_eq_true rfl)) dX5_on_25 ⟨Nat.zero_le _, Nat.zero_le _⟩ (fun _ H locs _ hW => ?_)
      exact rt_i hQ hx hb hr hlocks hW dX5_on_28 Wa (by (try simp only [onV]); (repeat' split) <;> first | rfl | (exfalso; omega)) trivial (by (try simp only [onF]); (repeat' split) <;> first | rfl | (exfalso; omega))
abbrev rmX5_then : Room := { frames := 7, cells := 0, slots := 0, locals := 159 }
set_option maxRecDepth 100000 in
set_option maxHeartbeats 4000000 in
theorem M_X5_then (l : Launch) (D : va_G) (cI cJ : ClassId) (mo R G Wa F : Nat → Nat) (hG : OkG 99999 G) (v n w : Int32) : CE E0 l D vwCl [(cI, .int), (cJ, .long)] yX5_then wsX5_then rmX5_then [.ref (mo 0), .int v, .int n, .int w] [mH mo R, mR cI (mo 1) G, mR cI (mo 3) Wa, aI cI (mo 4) 7 F] (S := (Nat → Nat)) (some (.int (thenV G v.toInt n.toInt w.toInt))) (fun _ => True) (fun Wx : Nat → Nat => [mH mo R, mR cI (mo 1) G, mR cI (mo 3) Wx, aI cI (mo 4) 7 (thenF G F v.toInt n.toInt w.toInt)]) 0 0 := by
  refine CE.ofW (cc := cX5_then) (maxL := 5) (ret := (some .int)) (lv := [(0, .ref (mo 0)), (1, .int v), (2, .int n), (3, .int w)]) (by decide) rfl (Nat.le_of_ble_eq_true rfl) rfl ?_
  intro p e s m args below meth c ls A Q hQ hx hb hml hr hlocks hnm hown hts hK hA hE hW hl
  have hown : s.vm.findClass RX5 = some m.cls := hown
  obtain ⟨hg0, hg8, hg16, hg16b, hg24, hg32, hg40, hg48⟩ := hG.s
  refine lv_aload_n hx hb dX5_then_0 rfl (lv_at hl 0 rfl) ?_
  refine lv_iload_n hx hb dX5_then_1 rfl (lv_at hl 1 rfl) ?_
  refine cl_Vi (As := [.int v]) (rest := []) (C := RX5) ⟨hx, hb, hml, hown, hts⟩ (M_X5_isMother l D cI cJ mo R G 99999 (by decide) hG v) (cwV 1 hts gX5_then_X5_isMother rfl rfl rfl qX5_isMother ⟨Nat.le_of_ble_eq_true rfl, Nat.le_of_ble_eq_true rfl⟩) E0_good hK hA hW trivial [true, true] (fun _ => [mH mo R, mR cI (mo 1) G, mR cI (mo 3) Wa, aI cI (mo 4) 7 F]) rfl (fun _ => rfl) (fun _ => rfl) 0 0 rfl rfl rfl rfl hl.1 rfl (lv_room (Nat.le_of_ble_eq_true rfl)) dX5_then_2 ⟨Nat.zero_le _, Nat.zero_le _⟩ (fun _ H locs _ hW => ?_)
  have him_ := inN_or v (G 40)
  refine nn_zeq (tgt := 30) hx hb dX5_then_5 (by decide) (by omega) (fun c5 => ?_) (fun c5 => ?_)
  · refine lv_aload_n hx hb dX5_then_30 rfl (lv_at hl 0 rfl) ?_
    refine lv_ldc (v := -1000000001) hx hb hown (hts _ (List.mem_of_getElem? (i := 1) rfl)) dX5_then_31 ?_
    refine cl_Vi (As := [.int (-1000000001)]) (rest := []) (C := RX5) ⟨hx, hb, hml, hown, hts⟩ (M_X5_finds l D cI cJ mo R F 0 (by decide) (-1000000001) (by decide +kernel)) (cwV 1 hts gX5_then_X5_finds rfl rfl rfl qX5_finds ⟨Nat.le_of_ble_eq_true rfl, Nat.le_of_ble_eq_true rfl⟩) E0_good hK hA hW trivial [true, false, false, true] (fun _ => [mH mo R, mR cI (mo 1) G, mR cI (mo 3) Wa, aI cI (mo 4) 7 (up F 0 (F 0 + 1))]) rfl (fun _ => rfl) (fun _ => rfl) 0 0 rfl rfl rfl rfl hl.1 rfl (lv_room (Nat.le_of_ble_eq_true rfl)) dX5_then_33 ⟨Nat.zero_le _, Nat.zero_le _⟩ (fun _ H locs _ hW => ?_)
    exact rt_i hQ hx hb hr hlocks hW dX5_then_36 Wa (by (try simp only [thenV]); (repeat' split) <;> first | rfl | (exfalso; omega)) trivial (by (try simp only [thenF]); (repeat' split) <;> first | rfl | (exfalso; omega))
  · refine lv_iload_n hx hb dX5_then_8 rfl (lv_at hl 2 rfl) ?_
    refine lv_i2l (v := (n).toInt64) hx hb dX5_then_9 rfl ?_
    refine lv_iconst (v := nI 0) hx hb dX5_then_10 (by decide +kernel) ?_
    refine lv_sipush (v := nI 200) hx hb dX5_then_11 (by decide +kernel) ?_
    refine cl_Si (As := [.long ((n).toInt64), .int (nI 0), .int (nI 200)]) (rest := []) ⟨hx, hb, hml, hown, hts⟩ (M_X5_in2 l D cI cJ ((n).toInt64) (nI 0) (nI 200) n.toInt ((0 : Nat) : Int) ((200 : Nat) : Int) ((Int32.toInt_toInt64 _).trans rfl) (nI_toInt (n := 0) (by decide)) (nI_toInt (n := 200) (by decide))) (va_cwS 3 hts gX5_then_X5_in rfl rfl rfl qX5_in ⟨Nat.le_of_ble_eq_true rfl, Nat.le_of_ble_eq_true rfl⟩) E0_good hK hA hW trivial [] (fun _ => [mH mo R, mR cI (mo 1) G, mR cI (mo 3) Wa, aI cI (mo 4) 7 F]) rfl (fun _ => rfl) (fun _ => rfl) rfl hl.1 rfl (lv_room (Nat.le_of_ble_eq_true rfl)) dX5_then_14 ⟨Nat.zero_le _, Nat.zero_le _⟩ (fun _ H locs _ hW => ?_)
    have hin_ := inZ_or n.toInt ((0 : Nat) : Int) ((200 : Nat) : Int)
    refine nn_zeq (tgt := 30) hx hb dX5_then_17 (by decide) (by omega) (fun c17 => ?_) (fun c17 => ?_)
    · refine lv_aload_n hx hb dX5_then_30 rfl (lv_at hl 0 rfl) ?_
      refine lv_ldc (v := -1000000001) hx hb hown (hts _ (List.mem_of_getElem? (i := 1) rfl)) dX5_then_31 ?_
      refine cl_Vi (As := [.int (-1000000001)]) (rest := []) (C := RX5) ⟨hx, hb, hml, hown, hts⟩ (M_X5_finds l D cI cJ mo R F 0 (by decide) (-1000000001) (by decide +kernel)) (cwV 1 hts gX5_then_X5_finds rfl rfl rfl qX5_finds ⟨Nat.le_of_ble_eq_true rfl, Nat.le_of_ble_eq_true rfl⟩) E0_good hK hA hW trivial [true, false, false, true] (fun _ => [mH mo R, mR cI (mo 1) G, mR cI (mo 3) Wa, aI cI (mo 4) 7 (up F 0 (F 0 + 1))]) rfl (fun _ => rfl) (fun _ => rfl) 0 0 rfl rfl rfl rfl hl.1 rfl (lv_room (Nat.le_of_ble_eq_true rfl)) dX5_then_33 ⟨Nat.zero_le _, Nat.zero_le _⟩ (fun _ H locs _ hW => ?_)
      exact rt_i hQ hx hb hr hlocks hW dX5_then_36 Wa (by (try simp only [thenV]); (repeat' split) <;> first | rfl | (exfalso; omega)) trivial (by (try simp only [thenF]); (repeat' split) <;> first | rfl | (exfalso; omega))
    · refine lv_iload_n hx hb dX5_then_20 rfl (lv_at hl 3 rfl) ?_
      refine lv_i2l (v := (w).toInt64) hx hb dX5_then_21 rfl ?_
      refine lv_iconst (v := nI 0) hx hb dX5_then_22 (by decide +kernel) ?_
      refine lv_iconst (v := nI 1) hx hb dX5_then_23 (by decide +kernel) ?_
      refine cl_Si (As := [.long ((w).toInt64), .int (nI 0), .int (nI 1)]) (rest := []) ⟨hx, hb, hml, hown, hts⟩ (M_X5_in2 l D cI cJ ((w).toInt64) (nI 0) (nI 1) w.toInt ((0 : Nat) : Int) ((1 : Nat) : Int) ((Int32.toInt_toInt64 _).trans rfl) (nI_toInt (n := 0) (by decide)) (nI_toInt (n := 1) (by decide))) (va_cwS 3 hts gX5_then_X5_in rfl rfl rfl qX5_in ⟨Nat.le_of_ble_eq_true rfl, Nat.le_of_ble_eq_true rfl⟩) E0_good hK hA hW trivial [] (fun _ => [mH mo R, mR cI (mo 1) G, mR cI (mo 3) Wa, aI cI (mo 4) 7 F]) rfl (fun _ => rfl) (fun _ => rfl) rfl hl.1 rfl (lv_room (Nat.le_of_ble_eq_true rfl)) dX5_then_24 ⟨Nat.zero_le _, Nat.zero_le _⟩ (fun _ H locs _ hW => ?_)
      have hin_ := inZ_or w.toInt ((0 : Nat) : Int) ((1 : Nat) : Int)
      refine nn_zne (tgt := 37) hx hb dX5_then_27 (by decide) (by omega) (fun c27 => ?_) (fun c27 => ?_)
      · obtain ⟨j, hj, ej⟩ : ∃ j : Nat, v = nI j ∧ v.toInt = (j : Int) := ⟨v.toInt.toNat, nI_ofZ rfl (by omega), by omega⟩
        rw [hj] at hl
        obtain ⟨y, hy, ey⟩ : ∃ y : Nat, n = nI y ∧ n.toInt = (y : Int) := ⟨n.toInt.toNat, nI_ofZ rfl (by omega), by omega⟩
        rw [hy] at hl
        have h40y := stepN_40 G y
        refine lv_aload_n hx hb dX5_then_37 rfl (lv_at hl 0 rfl) ?_
        refine cl_Vv (As := []) (rest := []) (C := RX5) ⟨hx, hb, hml, hown, hts⟩ (M_X5_thinks l D cI cJ mo R G Wa ) (cwV 0 hts gX5_then_X5_thinks rfl rfl rfl qX5_thinks ⟨Nat.le_of_ble_eq_true rfl, Nat.le_of_ble_eq_true rfl⟩) E0_good hK hA hW trivial [true, true, true] (fun _ => [mH mo R, mR cI (mo 1) G, mR cI (mo 3) G, aI cI (mo 4) 7 F]) rfl (fun _ => rfl) (fun _ => rfl) 0 0 rfl rfl rfl rfl hl.1 rfl (lv_room (Nat.le_of_ble_eq_true rfl)) dX5_then_38 ⟨Nat.zero_le _, Nat.zero_le _⟩ (fun _ H locs _ hW => ?_)
        refine lv_aload_n hx hb dX5_then_41 rfl (lv_at hl 0 rfl) ?_
        refine lv_iload_n hx hb dX5_then_42 rfl (lv_at hl 2 rfl) ?_
        refine cl_Vv (As := [.int (nI y)]) (rest := []) (C := RX5) ⟨hx, hb, hml, hown, hts⟩ (M_X5_goesFor l D cI cJ mo R G 99999 (by decide) hG y (by omega)) (cwV 1 hts gX5_then_X5_goesFor rfl rfl rfl qX5_goesFor ⟨Nat.le_of_ble_eq_true rfl, Nat.le_of_ble_eq_true rfl⟩) E0_good hK hA hW trivial [true, true] (fun _ => [mH mo R, mR cI (mo 1) (stepN G y), mR cI (mo 3) G, aI cI (mo 4) 7 F]) rfl (fun _ => rfl) (fun _ => rfl) 0 0 rfl rfl rfl rfl hl.1 rfl (lv_room (Nat.le_of_ble_eq_true rfl)) dX5_then_43 ⟨Nat.zero_le _, Nat.zero_le _⟩ (fun _ H locs _ hW => ?_)
        rcases (show w.toInt = 0 ∨ w.toInt = 1 by omega) with cq | cq
        · have hlit3 : w = nI 0 := zz_eq.mpr ((show w.toInt = 0 by omega).trans (by decide +kernel))
          rw [hlit3] at hl
          refine lv_aload_n hx hb dX5_then_46 rfl (lv_at hl 0 rfl) ?_
          refine lv_iload_n hx hb dX5_then_47 rfl (lv_at hl 1 rfl) ?_
          refine lv_iconst (v := nI 2) hx hb dX5_then_48 (by decide +kernel) ?_
          refine lv_iload_n hx hb dX5_then_49 rfl (lv_at hl 3 rfl) ?_
          refine nn_add hx hb dX5_then_50 ?_
          refine cl_Vi (As := [.int (nI j), .int (nI (2 + 0))]) (rest := []) (C := RX5) ⟨hx, hb, hml, hown, hts⟩ (M_X5_it l D cI cJ mo R (stepN G y) j (2 + 0) (1 + 2 + 0) (by omega) (by omega) rfl) (cwV 2 hts gX5_then_X5_it rfl rfl rfl qX5_it ⟨Nat.le_of_ble_eq_true rfl, Nat.le_of_ble_eq_true rfl⟩) E0_good hK hA hW trivial [true, true] (fun _ => [mH mo R, mR cI (mo 1) (stepN G y), mR cI (mo 3) G, aI cI (mo 4) 7 F]) rfl (fun _ => rfl) (fun _ => rfl) 0 0 rfl rfl rfl rfl hl.1 rfl (lv_room (Nat.le_of_ble_eq_true rfl)) dX5_then_51 ⟨Nat.zero_le _, Nat.zero_le _⟩ (fun _ H locs _ hW => ?_)
          refine lv_istore (lv' := [(4, .int (nI ((stepN G y) (8 * j + (1 + 2 + 0))))), (0, .ref (mo 0)), (1, .int (nI j)), (2, .int (nI y)), (3, .int (nI 0))]) hx hb dX5_then_54 hl (by decide) rfl (fun ls hl => ?_)
          refine lv_aload_n hx hb dX5_then_56 rfl (lv_at hl 1 rfl) ?_
          refine cl_Vv (As := []) (rest := []) (C := RX5) ⟨hx, hb, hml, hown, hts⟩ (M_X5_putsBack l D cI cJ mo R (stepN G y) G ) (cwV 0 hts gX5_then_X5_putsBack rfl rfl rfl qX5_putsBack ⟨Nat.le_of_ble_eq_true rfl, Nat.le_of_ble_eq_true rfl⟩) E0_good hK hA hW trivial [true, true, true] (fun _ => [mH mo R, mR cI (mo 1) G, mR cI (mo 3) G, aI cI (mo 4) 7 F]) rfl (fun _ => rfl) (fun _ => rfl) 0 0 rfl rfl rfl rfl hl.1 rfl (lv_room (Nat.le_of_ble_eq_true rfl)) dX5_then_57 ⟨Nat.zero_le _, Nat.zero_le _⟩ (fun _ H locs _ hW => ?_)
          refine lv_iload hx hb dX5_then_60 (lv_at hl 0 rfl) ?_
          exact rt_i hQ hx hb hr hlocks hW dX5_then_62 G (by (try simp only [thenV, ej, ey, Int.toNat_natCast]); (repeat' split) <;> first | rfl | (exfalso; omega)) trivial (by (try simp only [thenF, ej, ey, Int.toNat_natCast]); (repeat' split) <;> first | rfl | (exfalso; omega))
        · have hlit3 : w = nI 1 := zz_eq.mpr ((show w.toInt = 1 by omega).trans (by decide +kernel))
          rw [hlit3] at hl
          refine lv_aload_n hx hb dX5_then_46 rfl (lv_at hl 0 rfl) ?_
          refine lv_iload_n hx hb dX5_then_47 rfl (lv_at hl 1 rfl) ?_
          refine lv_iconst (v := nI 2) hx hb dX5_then_48 (by decide +kernel) ?_
          refine lv_iload_n hx hb dX5_then_49 rfl (lv_at hl 3 rfl) ?_
          refine nn_add hx hb dX5_then_50 ?_
          refine cl_Vi (As := [.int (nI j), .int (nI (2 + 1))]) (rest := []) (C := RX5) ⟨hx, hb, hml, hown, hts⟩ (M_X5_it l D cI cJ mo R (stepN G y) j (2 + 1) (1 + 2 + 1) (by omega) (by omega) rfl) (cwV 2 hts gX5_then_X5_it rfl rfl rfl qX5_it ⟨Nat.le_of_ble_eq_true rfl, Nat.le_of_ble_eq_true rfl⟩) E0_good hK hA hW trivial [true, true] (fun _ => [mH mo R, mR cI (mo 1) (stepN G y), mR cI (mo 3) G, aI cI (mo 4) 7 F]) rfl (fun _ => rfl) (fun _ => rfl) 0 0 rfl rfl rfl rfl hl.1 rfl (lv_room (Nat.le_of_ble_eq_true rfl)) dX5_then_51 ⟨Nat.zero_le _, Nat.zero_le _⟩ (fun _ H locs _ hW => ?_)
          refine lv_istore (lv' := [(4, .int (nI ((stepN G y) (8 * j + (1 + 2 + 1))))), (0, .ref (mo 0)), (1, .int (nI j)), (2, .int (nI y)), (3, .int (nI 1))]) hx hb dX5_then_54 hl (by decide) rfl (fun ls hl => ?_)
          refine lv_aload_n hx hb dX5_then_56 rfl (lv_at hl 1 rfl) ?_
          refine cl_Vv (As := []) (rest := []) (C := RX5) ⟨hx, hb, hml, hown, hts⟩ (M_X5_putsBack l D cI cJ mo R (stepN G y) G ) (cwV 0 hts gX5_then_X5_putsBack rfl rfl rfl qX5_putsBack ⟨Nat.le_of_ble_eq_true rfl, Nat.le_of_ble_eq_true rfl⟩) E0_good hK hA hW trivial [true, true, true] (fun _ => [mH mo R, mR cI (mo 1) G, mR cI (mo 3) G, aI cI (mo 4) 7 F]) rfl (fun _ => rfl) (fun _ => rfl) 0 0 rfl rfl rfl rfl hl.1 rfl (lv_room (Nat.le_of_ble_eq_true rfl)) dX5_then_57 ⟨Nat.zero_le _, Nat.zero_le _⟩ (fun _ H locs _ hW => ?_)
          refine lv_iload hx hb dX5_then_60 (lv_at hl 0 rfl) ?_
          exact rt_i hQ hx hb hr hlocks hW dX5_then_62 G (by (try simp only [thenV, ej, ey, Int.toNat_natCast]); (repeat' split) <;> first | rfl | (exfalso; omega)) trivial (by (try simp only [thenF, ej, ey, Int.toNat_natCast]); (repeat' split) <;> first | rfl | (exfalso; omega))
      · refine lv_aload_n hx hb dX5_then_30 rfl (lv_at hl 0 rfl) ?_
        refine lv_ldc (v := -1000000001) hx hb hown (hts _ (List.mem_of_getElem? (i := 1) rfl)) dX5_then_31 ?_
        refine cl_Vi (As := [.int (-1000000001)]) (rest := []) (C := RX5) ⟨hx, hb, hml, hown, hts⟩ (M_X5_finds l D cI cJ mo R F 0 (by decide) (-1000000001) (by decide +kernel)) (cwV 1 hts gX5_then_X5_finds rfl rfl rfl qX5_finds ⟨Nat.le_of_ble_eq_true rfl, Nat.le_of_ble_eq_true rfl⟩) E0_good hK hA hW trivial [true, false, false, true] (fun _ => [mH mo R, mR cI (mo 1) G, mR cI (mo 3) Wa, aI cI (mo 4) 7 (up F 0 (F 0 + 1))]) rfl (fun _ => rfl) (fun _ => rfl) 0 0 rfl rfl rfl rfl hl.1 rfl (lv_room (Nat.le_of_ble_eq_true rfl)) dX5_then_33 ⟨Nat.zero_le _, Nat.zero_le _⟩ (fun _ H locs _ hW => ?_)
        exact rt_i hQ hx hb hr hlocks hW dX5_then_36 Wa (by (try simp only [thenV]); (repeat' split) <;> first | rfl | (exfalso; omega)) trivial (by (try simp only [thenF]); (repeat' split) <;> first | rfl | (exfalso; omega))
abbrev rmX5_quick : Room := { frames := 6, cells := 0, slots := 0, locals := 137 }
set_option maxRecDepth 100000 in
set_option maxHeartbeats 4000000 in
theorem M_X5_quick (l : Launch) (D : va_G) (cI cJ : ClassId) (mo R G Wa F : Nat → Nat) (hG : OkG 99999 G) (z : Int32) : CE E0 l D vwCl [(cI, .int), (cJ, .long)] yX5_quick wsX5_quick rmX5_quick [.ref (mo 0), .int z] [mH mo R, mR cI (mo 1) G, mR cI (mo 3) Wa, aI cI (mo 4) 7 F] (S := (Nat → Nat)) (some (.int (quickV G z.toInt))) (fun _ => True) (fun Wx : Nat → Nat => [mH mo R, mR cI (mo 1) G, mR cI (mo 3) Wx, aI cI (mo 4) 7 (quickF G F z.toInt)]) 0 0 := by
  refine CE.ofW (cc := cX5_quick) (maxL := 3) (ret := (some .int)) (lv := [(0, .ref (mo 0)), (1, .int z)]) (by decide) rfl (Nat.le_of_ble_eq_true rfl) rfl ?_
  intro p e s m args below meth c ls A Q hQ hx hb hml hr hlocks hnm hown hts hK hA hE hW hl
  have hown : s.vm.findClass RX5 = some m.cls := hown
  obtain ⟨hg0, hg8, hg16, hg16b, hg24, hg32, hg40, hg48⟩ := hG.s
  refine lv_iload_n hx hb dX5_quick_0 rfl (lv_at hl 1 rfl) ?_
  refine lv_i2l (v := (z).toInt64) hx hb dX5_quick_1 rfl ?_
  refine lv_iconst (v := nI 0) hx hb dX5_quick_2 (by decide +kernel) ?_
  refine lv_sipush (v := nI 200) hx hb dX5_quick_3 (by decide +kernel) ?_
  refine cl_Si (As := [.long ((z).toInt64), .int (nI 0), .int (nI 200)]) (rest := []) ⟨hx, hb, hml, hown, hts⟩ (M_X5_in2 l D cI cJ ((z).toInt64) (nI 0) (nI 200) z.toInt ((0 : Nat) : Int) ((200 : Nat) : Int) ((Int32.toInt_toInt64 _).trans rfl) (nI_toInt (n := 0) (by decide)) (nI_toInt (n := 200) (by decide))) (va_cwS 3 hts gX5_quick_X5_in rfl rfl rfl qX5_in ⟨Nat.le_of_ble_eq_true rfl, Nat.le_of_ble_eq_true rfl⟩) E0_good hK hA hW trivial [] (fun _ => [mH mo R, mR cI (mo 1) G, mR cI (mo 3) Wa, aI cI (mo 4) 7 F]) rfl (fun _ => rfl) (fun _ => rfl) rfl hl.1 rfl (lv_room (Nat.le_of_ble_eq_true rfl)) dX5_quick_6 ⟨Nat.zero_le _, Nat.zero_le _⟩ (fun _ H locs _ hW => ?_)
  have hin_ := inZ_or z.toInt ((0 : Nat) : Int) ((200 : Nat) : Int)
  refine nn_zne (tgt := 19) hx hb dX5_quick_9 (by decide) (by omega) (fun c9 => ?_) (fun c9 => ?_)
  · obtain ⟨y, hy, ey⟩ : ∃ y : Nat, z = nI y ∧ z.toInt = (y : Int) := ⟨z.toInt.toNat, nI_ofZ rfl (by omega), by omega⟩
    rw [hy] at hl
    refine lv_aload_n hx hb dX5_quick_19 rfl (lv_at hl 0 rfl) ?_
    refine cl_Vv (As := []) (rest := []) (C := RX5) ⟨hx, hb, hml, hown, hts⟩ (M_X5_thinks l D cI cJ mo R G Wa ) (cwV 0 hts gX5_quick_X5_thinks rfl rfl rfl qX5_thinks ⟨Nat.le_of_ble_eq_true rfl, Nat.le_of_ble_eq_true rfl⟩) E0_good hK hA hW trivial [true, true, true] (fun _ => [mH mo R, mR cI (mo 1) G, mR cI (mo 3) G, aI cI (mo 4) 7 F]) rfl (fun _ => rfl) (fun _ => rfl) 0 0 rfl rfl rfl rfl hl.1 rfl (lv_room (Nat.le_of_ble_eq_true rfl)) dX5_quick_20 ⟨Nat.zero_le _, Nat.zero_le _⟩ (fun _ H locs _ hW => ?_)
    refine lv_iconst (v := nI 0) hx hb dX5_quick_23 (by decide +kernel) ?_
    refine lv_istore_n (lv' := [(2, .int (nI 0)), (0, .ref (mo 0)), (1, .int (nI y))]) hx hb dX5_quick_24 rfl hl (by decide) rfl (fun ls hl => ?_)
    have lp25 : ∀ (n : Nat) (i : Nat), 201 - i < n → 0 ≤ i ∧ i ≤ 201 → seek (fun i => decide (y ≤ stepN G i 24)) (201 - i) i = seek (fun i => decide (y ≤ stepN G i 24)) (201 - 0) 0 → ∀ (H : Heap) (locs : List Loc), Wo D vwCl A s.heap H locs [mH mo R, mR cI (mo 1) (stepN G i), mR cI (mo 3) G, aI cI (mo 4) 7 F] → ∀ ls : Array Slot, lv_has ls 3 [(2, .int (nI i)), (0, .ref (mo 0)), (1, .int (nI y))] → W p l e rmX5_quick s m args below meth c H locs 0 0 Q (F0 m 25 ls []) := by
      intro n
      induction n with
      | zero => intro i hm; exact absurd hm (Nat.not_lt_zero _)
      | succ n ih =>
        intro i hm hi hsk H locs hW ls hl
        have hTi := stepN_ok hG i
        have hTs := hTi.s
        refine lv_iload_n hx hb dX5_quick_25 rfl (lv_at hl 0 rfl) ?_
        refine lv_sipush (v := nI 200) hx hb dX5_quick_26 (by decide +kernel) ?_
        refine nn_cgt (tgt := 52) hx hb dX5_quick_29 (by decide) (by omega) (by decide) (fun c29 => ?_) (fun c29 => ?_)
        · have hsx : seek (fun i => decide (y ≤ stepN G i 24)) 201 0 = i := hsk.symm.trans (by first | exact (seek_t (p := (fun i => decide (y ≤ stepN G i 24))) (e := 201) (i := i) (by omega) (decide_eq_true (by omega))) | (rw [seek_e (fun i => decide (y ≤ stepN G i 24)) (e := 201) (i := i) (by omega)]; omega))
          refine lv_aload_n hx hb dX5_quick_52 rfl (lv_at hl 1 rfl) ?_
          refine cl_Vv (As := []) (rest := []) (C := RX5) ⟨hx, hb, hml, hown, hts⟩ (M_X5_putsBack l D cI cJ mo R (stepN G i) G ) (cwV 0 hts gX5_quick_X5_putsBack rfl rfl rfl qX5_putsBack ⟨Nat.le_of_ble_eq_true rfl, Nat.le_of_ble_eq_true rfl⟩) E0_good hK hA hW trivial [true, true, true] (fun _ => [mH mo R, mR cI (mo 1) G, mR cI (mo 3) G, aI cI (mo 4) 7 F]) rfl (fun _ => rfl) (fun _ => rfl) 0 0 rfl rfl rfl rfl hl.1 rfl (lv_room (Nat.le_of_ble_eq_true rfl)) dX5_quick_53 ⟨Nat.zero_le _, Nat.zero_le _⟩ (fun _ H locs _ hW => ?_)
          refine lv_iload_n hx hb dX5_quick_56 rfl (lv_at hl 0 rfl) ?_
          refine lv_sipush (v := nI 200) hx hb dX5_quick_57 (by decide +kernel) ?_
          refine nn_cle (tgt := 72) hx hb dX5_quick_60 (by decide) (by omega) (by decide) (fun c60 => ?_) (fun c60 => ?_)
          · refine lv_iload_n hx hb dX5_quick_72 rfl (lv_at hl 0 rfl) ?_
            exact rt_i hQ hx hb hr hlocks hW dX5_quick_73 G (by (try simp only [quickV, skV, ey, hsx, Int.toNat_natCast]); (repeat' split) <;> first | rfl | (exfalso; omega)) trivial (by (try simp only [quickF, skF, ey, hsx, Int.toNat_natCast]); (repeat' split) <;> first | rfl | (exfalso; omega))
          · refine lv_aload_n hx hb dX5_quick_63 rfl (lv_at hl 1 rfl) ?_
            refine lv_ldc (v := -1000000004) hx hb hown (hts _ (List.mem_of_getElem? (i := 3) rfl)) dX5_quick_64 ?_
            refine cl_Vi (As := [.int (-1000000004)]) (rest := []) (C := RX5) ⟨hx, hb, hml, hown, hts⟩ (M_X5_finds l D cI cJ mo R F 3 (by decide) (-1000000004) (by decide +kernel)) (cwV 1 hts gX5_quick_X5_finds rfl rfl rfl qX5_finds ⟨Nat.le_of_ble_eq_true rfl, Nat.le_of_ble_eq_true rfl⟩) E0_good hK hA hW trivial [true, false, false, true] (fun _ => [mH mo R, mR cI (mo 1) G, mR cI (mo 3) G, aI cI (mo 4) 7 (up F 3 (F 3 + 1))]) rfl (fun _ => rfl) (fun _ => rfl) 0 0 rfl rfl rfl rfl hl.1 rfl (lv_room (Nat.le_of_ble_eq_true rfl)) dX5_quick_66 ⟨Nat.zero_le _, Nat.zero_le _⟩ (fun _ H locs _ hW => ?_)
            refine lv_goto (tgt := 73) hx hb dX5_quick_69 (by decide) ?_
            exact rt_i hQ hx hb hr hlocks hW dX5_quick_73 G (by (try simp only [quickV, skV, ey, hsx, Int.toNat_natCast]); (repeat' split) <;> first | rfl | (exfalso; omega)) trivial (by (try simp only [quickF, skF, ey, hsx, Int.toNat_natCast]); (repeat' split) <;> first | rfl | (exfalso; omega))
        · refine lv_aload_n hx hb dX5_quick_32 rfl (lv_at hl 1 rfl) ?_
          refine sg_get (ci := 4) (C := RX5) (T := TX5) (N := 15) (v := .ref (mo 1)) hx hb hts (fun _ h => List.mem_cons_of_mem _ (List.mem_append_right _ h)) hown hK hW 0 0 rfl rfl rfl 0 (by decide) (hts _ (List.mem_of_getElem? (i := 2) rfl)) rfl dX5_quick_33 ?_
          refine lv_iconst (v := nI 3) hx hb dX5_quick_36 (by decide +kernel) ?_
          refine sg_ild (v := nI ((stepN G i) 24)) hx hb hK hW 1 0 0 rfl rfl rfl (by decide) (by decide) rfl dX5_quick_37 ?_
          refine lv_iload_n hx hb dX5_quick_38 rfl (lv_at hl 2 rfl) ?_
          refine nn_cge (tgt := 52) hx hb dX5_quick_39 (by decide) (by omega) (by omega) (fun c39 => ?_) (fun c39 => ?_)
          · have hsx : seek (fun i => decide (y ≤ stepN G i 24)) 201 0 = i := hsk.symm.trans (by first | exact (seek_t (p := (fun i => decide (y ≤ stepN G i 24))) (e := 201) (i := i) (by omega) (decide_eq_true (by omega))) | (rw [seek_e (fun i => decide (y ≤ stepN G i 24)) (e := 201) (i := i) (by omega)]; omega))
            refine lv_aload_n hx hb dX5_quick_52 rfl (lv_at hl 1 rfl) ?_
            refine cl_Vv (As := []) (rest := []) (C := RX5) ⟨hx, hb, hml, hown, hts⟩ (M_X5_putsBack l D cI cJ mo R (stepN G i) G ) (cwV 0 hts gX5_quick_X5_putsBack rfl rfl rfl qX5_putsBack ⟨Nat.le_of_ble_eq_true rfl, Nat.le_of_ble_eq_true rfl⟩) E0_good hK hA hW trivial [true, true, true] (fun _ => [mH mo R, mR cI (mo 1) G, mR cI (mo 3) G, aI cI (mo 4) 7 F]) rfl (fun _ => rfl) (fun _ => rfl) 0 0 rfl rfl rfl rfl hl.1 rfl (lv_room (Nat.le_of_ble_eq_true rfl)) dX5_quick_53 ⟨Nat.zero_le _, Nat.zero_le _⟩ (fun _ H locs _ hW => ?_)
            refine lv_iload_n hx hb dX5_quick_56 rfl (lv_at hl 0 rfl) ?_
            refine lv_sipush (v := nI 200) hx hb dX5_quick_57 (by decide +kernel) ?_
            refine nn_cle (tgt := 72) hx hb dX5_quick_60 (by decide) (by omega) (by decide) (fun c60_1 => ?_) (fun c60_1 => ?_)
            · refine lv_iload_n hx hb dX5_quick_72 rfl (lv_at hl 0 rfl) ?_
              exact rt_i hQ hx hb hr hlocks hW dX5_quick_73 G (by (try simp only [quickV, skV, ey, hsx, Int.toNat_natCast]); (repeat' split) <;> first | rfl | (exfalso; omega)) trivial (by (try simp only [quickF, skF, ey, hsx, Int.toNat_natCast]); (repeat' split) <;> first | rfl | (exfalso; omega))
            · refine lv_aload_n hx hb dX5_quick_63 rfl (lv_at hl 1 rfl) ?_
              refine lv_ldc (v := -1000000004) hx hb hown (hts _ (List.mem_of_getElem? (i := 3) rfl)) dX5_quick_64 ?_
              refine cl_Vi (As := [.int (-1000000004)]) (rest := []) (C := RX5) ⟨hx, hb, hml, hown, hts⟩ (M_X5_finds l D cI cJ mo R F 3 (by decide) (-1000000004) (by decide +kernel)) (cwV 1 hts gX5_quick_X5_finds rfl rfl rfl qX5_finds ⟨Nat.le_of_ble_eq_true rfl, Nat.le_of_ble_eq_true rfl⟩) E0_good hK hA hW trivial [true, false, false, true] (fun _ => [mH mo R, mR cI (mo 1) G, mR cI (mo 3) G, aI cI (mo 4) 7 (up F 3 (F 3 + 1))]) rfl (fun _ => rfl) (fun _ => rfl) 0 0 rfl rfl rfl rfl hl.1 rfl (lv_room (Nat.le_of_ble_eq_true rfl)) dX5_quick_66 ⟨Nat.zero_le _, Nat.zero_le _⟩ (fun _ H locs _ hW => ?_)
              refine lv_goto (tgt := 73) hx hb dX5_quick_69 (by decide) ?_
              exact rt_i hQ hx hb hr hlocks hW dX5_quick_73 G (by (try simp only [quickV, skV, ey, hsx, Int.toNat_natCast]); (repeat' split) <;> first | rfl | (exfalso; omega)) trivial (by (try simp only [quickF, skF, ey, hsx, Int.toNat_natCast]); (repeat' split) <;> first | rfl | (exfalso; omega))
          · refine lv_aload_n hx hb dX5_quick_42 rfl (lv_at hl 1 rfl) ?_
            refine cl_Vv (As := []) (rest := []) (C := RX5) ⟨hx, hb, hml, hown, hts⟩ (M_X5_goes l D cI cJ mo R (stepN G i) (99999 + i) (by omega) hTi ) (cwV 0 hts gX5_quick_X5_goes rfl rfl rfl qX5_goes ⟨Nat.le_of_ble_eq_true rfl, Nat.le_of_ble_eq_true rfl⟩) E0_good hK hA hW trivial [true, true] (fun _ => [mH mo R, mR cI (mo 1) (stepG (stepN G i)), mR cI (mo 3) G, aI cI (mo 4) 7 F]) rfl (fun _ => rfl) (fun _ => rfl) 0 0 rfl rfl rfl rfl hl.1 rfl (lv_room (Nat.le_of_ble_eq_true rfl)) dX5_quick_43 ⟨Nat.zero_le _, Nat.zero_le _⟩ (fun _ H locs _ hW => ?_)
            refine lv_iinc (v := nI (i + 1)) (lv' := [(2, .int (nI (i + 1))), (0, .ref (mo 0)), (1, .int (nI y))]) hx hb dX5_quick_46 hl (k := 0) rfl (nI_add _ 1) (by decide) rfl (fun ls hl => ?_)
            refine lv_goto (tgt := 25) hx hb dX5_quick_49 (by decide) ?_
            have hW := hW.to (ss' := [mH mo R, mR cI (mo 1) (stepN G (i + 1)), mR cI (mo 3) G, aI cI (mo 4) 7 F]) rfl
            exact ih (i + 1) (by omega) (by omega) ((seek_f (p := (fun i => decide (y ≤ stepN G i 24))) (e := 201) (by omega) (decide_eq_false (by omega))).symm.trans hsk) _ _ hW _ (lv_sub hl [0, 1, 2] rfl)
    have hW := hW.to (ss' := [mH mo R, mR cI (mo 1) (stepN G 0), mR cI (mo 3) G, aI cI (mo 4) 7 F]) rfl
    exact lp25 (201 - 0 + 1) 0 (Nat.lt_succ_self _) (by omega) rfl _ _ hW _ (lv_sub hl [0, 1, 2] rfl)
  · refine lv_aload_n hx hb dX5_quick_12 rfl (lv_at hl 0 rfl) ?_
    refine lv_ldc (v := -1000000001) hx hb hown (hts _ (List.mem_of_getElem? (i := 1) rfl)) dX5_quick_13 ?_
    refine cl_Vi (As := [.int (-1000000001)]) (rest := []) (C := RX5) ⟨hx, hb, hml, hown, hts⟩ (M_X5_finds l D cI cJ mo R F 0 (by decide) (-1000000001) (by decide +kernel)) (cwV 1 hts gX5_quick_X5_finds rfl rfl rfl qX5_finds ⟨Nat.le_of_ble_eq_true rfl, Nat.le_of_ble_eq_true rfl⟩) E0_good hK hA hW trivial [true, false, false, true] (fun _ => [mH mo R, mR cI (mo 1) G, mR cI (mo 3) Wa, aI cI (mo 4) 7 (up F 0 (F 0 + 1))]) rfl (fun _ => rfl) (fun _ => rfl) 0 0 rfl rfl rfl rfl hl.1 rfl (lv_room (Nat.le_of_ble_eq_true rfl)) dX5_quick_15 ⟨Nat.zero_le _, Nat.zero_le _⟩ (fun _ H locs _ hW => ?_)
    exact rt_i hQ hx hb hr hlocks hW dX5_quick_18 Wa (by (try simp only [quickV, skV]); (repeat' split) <;> first | rfl | (exfalso; omega)) trivial (by (try simp only [quickF, skF]); (repeat' split) <;> first | rfl | (exfalso; omega))
abbrev rmX5_stands : Room := { frames := 6, cells := 0, slots := 0, locals := 137 }
set_option maxRecDepth 100000 in
set_option maxHeartbeats 4000000 in
theorem M_X5_stands (l : Launch) (D : va_G) (cI cJ : ClassId) (mo R G Wa F : Nat → Nat) (hG : OkG 99999 G)  : CE E0 l D vwCl [(cI, .int), (cJ, .long)] yX5_stands wsX5_stands rmX5_stands [.ref (mo 0)] [mH mo R, mR cI (mo 1) G, mR cI (mo 3) Wa, aI cI (mo 4) 7 F] (S := (Nat → Nat)) (some (.int (standsV G))) (fun _ => True) (fun Wx : Nat → Nat => [mH mo R, mR cI (mo 1) G, mR cI (mo 3) Wx, aI cI (mo 4) 7 (standsF G F)]) 0 0 := by
  refine CE.ofW (cc := cX5_stands) (maxL := 2) (ret := (some .int)) (lv := [(0, .ref (mo 0))]) (by decide) rfl (Nat.le_of_ble_eq_true rfl) rfl ?_
  intro p e s m args below meth c ls A Q hQ hx hb hml hr hlocks hnm hown hts hK hA hE hW hl
  have hown : s.vm.findClass RX5 = some m.cls := hown
  obtain ⟨hg0, hg8, hg16, hg16b, hg24, hg32, hg40, hg48⟩ := hG.s
  refine lv_aload_n hx hb dX5_stands_0 rfl (lv_at hl 0 rfl) ?_
  refine cl_Vv (As := []) (rest := []) (C := RX5) ⟨hx, hb, hml, hown, hts⟩ (M_X5_thinks l D cI cJ mo R G Wa ) (cwV 0 hts gX5_stands_X5_thinks rfl rfl rfl qX5_thinks ⟨Nat.le_of_ble_eq_true rfl, Nat.le_of_ble_eq_true rfl⟩) E0_good hK hA hW trivial [true, true, true] (fun _ => [mH mo R, mR cI (mo 1) G, mR cI (mo 3) G, aI cI (mo 4) 7 F]) rfl (fun _ => rfl) (fun _ => rfl) 0 0 rfl rfl rfl rfl hl.1 rfl (lv_room (Nat.le_of_ble_eq_true rfl)) dX5_stands_1 ⟨Nat.zero_le _, Nat.zero_le _⟩ (fun _ H locs _ hW => ?_)
  refine lv_iconst (v := nI 0) hx hb dX5_stands_4 (by decide +kernel) ?_
  refine lv_istore_n (lv' := [(1, .int (nI 0)), (0, .ref (mo 0))]) hx hb dX5_stands_5 rfl hl (by decide) rfl (fun ls hl => ?_)
  have lp6 : ∀ (n : Nat) (i : Nat), 201 - i < n → 0 ≤ i ∧ i ≤ 201 → seek (fun i => decide (stepN G i 24 = 0)) (201 - i) i = seek (fun i => decide (stepN G i 24 = 0)) (201 - 0) 0 → ∀ (H : Heap) (locs : List Loc), Wo D vwCl A s.heap H locs [mH mo R, mR cI (mo 1) (stepN G i), mR cI (mo 3) G, aI cI (mo 4) 7 F] → ∀ ls : Array Slot, lv_has ls 2 [(1, .int (nI i)), (0, .ref (mo 0))] → W p l e rmX5_stands s m args below meth c H locs 0 0 Q (F0 m 6 ls []) := by
    intro n
    induction n with
    | zero => intro i hm; exact absurd hm (Nat.not_lt_zero _)
    | succ n ih =>
      intro i hm hi hsk H locs hW ls hl
      have hTi := stepN_ok hG i
      have hTs := hTi.s
      refine lv_iload_n hx hb dX5_stands_6 rfl (lv_at hl 0 rfl) ?_
      refine lv_sipush (v := nI 200) hx hb dX5_stands_7 (by decide +kernel) ?_
      refine nn_cgt (tgt := 32) hx hb dX5_stands_10 (by decide) (by omega) (by decide) (fun c10 => ?_) (fun c10 => ?_)
      · have hsx : seek (fun i => decide (stepN G i 24 = 0)) 201 0 = i := hsk.symm.trans (by first | exact (seek_t (p := (fun i => decide (stepN G i 24 = 0))) (e := 201) (i := i) (by omega) (decide_eq_true (by omega))) | (rw [seek_e (fun i => decide (stepN G i 24 = 0)) (e := 201) (i := i) (by omega)]; omega))
        refine lv_aload_n hx hb dX5_stands_32 rfl (lv_at hl 1 rfl) ?_
        refine cl_Vv (As := []) (rest := []) (C := RX5) ⟨hx, hb, hml, hown, hts⟩ (M_X5_putsBack l D cI cJ mo R (stepN G i) G ) (cwV 0 hts gX5_stands_X5_putsBack rfl rfl rfl qX5_putsBack ⟨Nat.le_of_ble_eq_true rfl, Nat.le_of_ble_eq_true rfl⟩) E0_good hK hA hW trivial [true, true, true] (fun _ => [mH mo R, mR cI (mo 1) G, mR cI (mo 3) G, aI cI (mo 4) 7 F]) rfl (fun _ => rfl) (fun _ => rfl) 0 0 rfl rfl rfl rfl hl.1 rfl (lv_room (Nat.le_of_ble_eq_true rfl)) dX5_stands_33 ⟨Nat.zero_le _, Nat.zero_le _⟩ (fun _ H locs _ hW => ?_)
        refine lv_iload_n hx hb dX5_stands_36 rfl (lv_at hl 0 rfl) ?_
        refine lv_sipush (v := nI 200) hx hb dX5_stands_37 (by decide +kernel) ?_
        refine nn_cle (tgt := 52) hx hb dX5_stands_40 (by decide) (by omega) (by decide) (fun c40 => ?_) (fun c40 => ?_)
        · refine lv_iload_n hx hb dX5_stands_52 rfl (lv_at hl 0 rfl) ?_
          exact rt_i hQ hx hb hr hlocks hW dX5_stands_53 G (by (try simp only [standsV, skV, hsx, Int.toNat_natCast]); (repeat' split) <;> first | rfl | (exfalso; omega)) trivial (by (try simp only [standsF, skF, hsx, Int.toNat_natCast]); (repeat' split) <;> first | rfl | (exfalso; omega))
        · refine lv_aload_n hx hb dX5_stands_43 rfl (lv_at hl 1 rfl) ?_
          refine lv_ldc (v := -1000000004) hx hb hown (hts _ (List.mem_of_getElem? (i := 2) rfl)) dX5_stands_44 ?_
          refine cl_Vi (As := [.int (-1000000004)]) (rest := []) (C := RX5) ⟨hx, hb, hml, hown, hts⟩ (M_X5_finds l D cI cJ mo R F 3 (by decide) (-1000000004) (by decide +kernel)) (cwV 1 hts gX5_stands_X5_finds rfl rfl rfl qX5_finds ⟨Nat.le_of_ble_eq_true rfl, Nat.le_of_ble_eq_true rfl⟩) E0_good hK hA hW trivial [true, false, false, true] (fun _ => [mH mo R, mR cI (mo 1) G, mR cI (mo 3) G, aI cI (mo 4) 7 (up F 3 (F 3 + 1))]) rfl (fun _ => rfl) (fun _ => rfl) 0 0 rfl rfl rfl rfl hl.1 rfl (lv_room (Nat.le_of_ble_eq_true rfl)) dX5_stands_46 ⟨Nat.zero_le _, Nat.zero_le _⟩ (fun _ H locs _ hW => ?_)
          refine lv_goto (tgt := 53) hx hb dX5_stands_49 (by decide) ?_
          exact rt_i hQ hx hb hr hlocks hW dX5_stands_53 G (by (try simp only [standsV, skV, hsx, Int.toNat_natCast]); (repeat' split) <;> first | rfl | (exfalso; omega)) trivial (by (try simp only [standsF, skF, hsx, Int.toNat_natCast]); (repeat' split) <;> first | rfl | (exfalso; omega))
      · refine lv_aload_n hx hb dX5_stands_13 rfl (lv_at hl 1 rfl) ?_
        refine sg_get (ci := 4) (C := RX5) (T := TX5) (N := 15) (v := .ref (mo 1)) hx hb hts (fun _ h => List.mem_cons_of_mem _ (List.mem_append_right _ h)) hown hK hW 0 0 rfl rfl rfl 0 (by decide) (hts _ (List.mem_of_getElem? (i := 1) rfl)) rfl dX5_stands_14 ?_
        refine lv_iconst (v := nI 3) hx hb dX5_stands_17 (by decide +kernel) ?_
        refine sg_ild (v := nI ((stepN G i) 24)) hx hb hK hW 1 0 0 rfl rfl rfl (by decide) (by decide) rfl dX5_stands_18 ?_
        refine nn_zle (tgt := 32) hx hb dX5_stands_19 (by decide) (by omega) (fun c19 => ?_) (fun c19 => ?_)
        · have hsx : seek (fun i => decide (stepN G i 24 = 0)) 201 0 = i := hsk.symm.trans (by first | exact (seek_t (p := (fun i => decide (stepN G i 24 = 0))) (e := 201) (i := i) (by omega) (decide_eq_true (by omega))) | (rw [seek_e (fun i => decide (stepN G i 24 = 0)) (e := 201) (i := i) (by omega)]; omega))
          refine lv_aload_n hx hb dX5_stands_32 rfl (lv_at hl 1 rfl) ?_
          refine cl_Vv (As := []) (rest := []) (C := RX5) ⟨hx, hb, hml, hown, hts⟩ (M_X5_putsBack l D cI cJ mo R (stepN G i) G ) (cwV 0 hts gX5_stands_X5_putsBack rfl rfl rfl qX5_putsBack ⟨Nat.le_of_ble_eq_true rfl, Nat.le_of_ble_eq_true rfl⟩) E0_good hK hA hW trivial [true, true, true] (fun _ => [mH mo R, mR cI (mo 1) G, mR cI (mo 3) G, aI cI (mo 4) 7 F]) rfl (fun _ => rfl) (fun _ => rfl) 0 0 rfl rfl rfl rfl hl.1 rfl (lv_room (Nat.le_of_ble_eq_true rfl)) dX5_stands_33 ⟨Nat.zero_le _, Nat.zero_le _⟩ (fun _ H locs _ hW => ?_)
          refine lv_iload_n hx hb dX5_stands_36 rfl (lv_at hl 0 rfl) ?_
          refine lv_sipush (v := nI 200) hx hb dX5_stands_37 (by decide +kernel) ?_
          refine nn_cle (tgt := 52) hx hb dX5_stands_40 (by decide) (by omega) (by decide) (fun c40_1 => ?_) (fun c40_1 => ?_)
          · refine lv_iload_n hx hb dX5_stands_52 rfl (lv_at hl 0 rfl) ?_
            exact rt_i hQ hx hb hr hlocks hW dX5_stands_53 G (by (try simp only [standsV, skV, hsx, Int.toNat_natCast]); (repeat' split) <;> first | rfl | (exfalso; omega)) trivial (by (try simp only [standsF, skF, hsx, Int.toNat_natCast]); (repeat' split) <;> first | rfl | (exfalso; omega))
          · refine lv_aload_n hx hb dX5_stands_43 rfl (lv_at hl 1 rfl) ?_
            refine lv_ldc (v := -1000000004) hx hb hown (hts _ (List.mem_of_getElem? (i := 2) rfl)) dX5_stands_44 ?_
            refine cl_Vi (As := [.int (-1000000004)]) (rest := []) (C := RX5) ⟨hx, hb, hml, hown, hts⟩ (M_X5_finds l D cI cJ mo R F 3 (by decide) (-1000000004) (by decide +kernel)) (cwV 1 hts gX5_stands_X5_finds rfl rfl rfl qX5_finds ⟨Nat.le_of_ble_eq_true rfl, Nat.le_of_ble_eq_true rfl⟩) E0_good hK hA hW trivial [true, false, false, true] (fun _ => [mH mo R, mR cI (mo 1) G, mR cI (mo 3) G, aI cI (mo 4) 7 (up F 3 (F 3 + 1))]) rfl (fun _ => rfl) (fun _ => rfl) 0 0 rfl rfl rfl rfl hl.1 rfl (lv_room (Nat.le_of_ble_eq_true rfl)) dX5_stands_46 ⟨Nat.zero_le _, Nat.zero_le _⟩ (fun _ H locs _ hW => ?_)
            refine lv_goto (tgt := 53) hx hb dX5_stands_49 (by decide) ?_
            exact rt_i hQ hx hb hr hlocks hW dX5_stands_53 G (by (try simp only [standsV, skV, hsx, Int.toNat_natCast]); (repeat' split) <;> first | rfl | (exfalso; omega)) trivial (by (try simp only [standsF, skF, hsx, Int.toNat_natCast]); (repeat' split) <;> first | rfl | (exfalso; omega))
        · refine lv_aload_n hx hb dX5_stands_22 rfl (lv_at hl 1 rfl) ?_
          refine cl_Vv (As := []) (rest := []) (C := RX5) ⟨hx, hb, hml, hown, hts⟩ (M_X5_goes l D cI cJ mo R (stepN G i) (99999 + i) (by omega) hTi ) (cwV 0 hts gX5_stands_X5_goes rfl rfl rfl qX5_goes ⟨Nat.le_of_ble_eq_true rfl, Nat.le_of_ble_eq_true rfl⟩) E0_good hK hA hW trivial [true, true] (fun _ => [mH mo R, mR cI (mo 1) (stepG (stepN G i)), mR cI (mo 3) G, aI cI (mo 4) 7 F]) rfl (fun _ => rfl) (fun _ => rfl) 0 0 rfl rfl rfl rfl hl.1 rfl (lv_room (Nat.le_of_ble_eq_true rfl)) dX5_stands_23 ⟨Nat.zero_le _, Nat.zero_le _⟩ (fun _ H locs _ hW => ?_)
          refine lv_iinc (v := nI (i + 1)) (lv' := [(1, .int (nI (i + 1))), (0, .ref (mo 0))]) hx hb dX5_stands_26 hl (k := 0) rfl (nI_add _ 1) (by decide) rfl (fun ls hl => ?_)
          refine lv_goto (tgt := 6) hx hb dX5_stands_29 (by decide) ?_
          have hW := hW.to (ss' := [mH mo R, mR cI (mo 1) (stepN G (i + 1)), mR cI (mo 3) G, aI cI (mo 4) 7 F]) rfl
          exact ih (i + 1) (by omega) (by omega) ((seek_f (p := (fun i => decide (stepN G i 24 = 0))) (e := 201) (by omega) (decide_eq_false (by omega))).symm.trans hsk) _ _ hW _ (lv_sub hl [0, 1] rfl)
  have hW := hW.to (ss' := [mH mo R, mR cI (mo 1) (stepN G 0), mR cI (mo 3) G, aI cI (mo 4) 7 F]) rfl
  exact lp6 (201 - 0 + 1) 0 (Nat.lt_succ_self _) (by omega) rfl _ _ hW _ (lv_sub hl [0, 1] rfl)
abbrev rmX5_flung : Room := { frames := 6, cells := 0, slots := 0, locals := 137 }
set_option maxRecDepth 100000 in
set_option maxHeartbeats 4000000 in
theorem M_X5_flung (l : Launch) (D : va_G) (cI cJ : ClassId) (mo R G Wa F : Nat → Nat) (hG : OkG 99999 G) (v : Int32) : CE E0 l D vwCl [(cI, .int), (cJ, .long)] yX5_flung wsX5_flung rmX5_flung [.ref (mo 0), .int v] [mH mo R, mR cI (mo 1) G, mR cI (mo 3) Wa, aI cI (mo 4) 7 F] (S := (Nat → Nat)) (some (.int (flungV G v.toInt))) (fun _ => True) (fun Wx : Nat → Nat => [mH mo R, mR cI (mo 1) G, mR cI (mo 3) Wx, aI cI (mo 4) 7 (flungF G F v.toInt)]) 0 0 := by
  refine CE.ofW (cc := cX5_flung) (maxL := 4) (ret := (some .int)) (lv := [(0, .ref (mo 0)), (1, .int v)]) (by decide) rfl (Nat.le_of_ble_eq_true rfl) rfl ?_
  intro p e s m args below meth c ls A Q hQ hx hb hml hr hlocks hnm hown hts hK hA hE hW hl
  have hown : s.vm.findClass RX5 = some m.cls := hown
  obtain ⟨hg0, hg8, hg16, hg16b, hg24, hg32, hg40, hg48⟩ := hG.s
  refine lv_aload_n hx hb dX5_flung_0 rfl (lv_at hl 0 rfl) ?_
  refine lv_iload_n hx hb dX5_flung_1 rfl (lv_at hl 1 rfl) ?_
  refine cl_Vi (As := [.int v]) (rest := []) (C := RX5) ⟨hx, hb, hml, hown, hts⟩ (M_X5_isChild l D cI cJ mo R G 99999 (by decide) hG v) (cwV 1 hts gX5_flung_X5_isChild rfl rfl rfl qX5_isChild ⟨Nat.le_of_ble_eq_true rfl, Nat.le_of_ble_eq_true rfl⟩) E0_good hK hA hW trivial [true, true] (fun _ => [mH mo R, mR cI (mo 1) G, mR cI (mo 3) Wa, aI cI (mo 4) 7 F]) rfl (fun _ => rfl) (fun _ => rfl) 0 0 rfl rfl rfl rfl hl.1 rfl (lv_room (Nat.le_of_ble_eq_true rfl)) dX5_flung_2 ⟨Nat.zero_le _, Nat.zero_le _⟩ (fun _ H locs _ hW => ?_)
  have him_ := inN_or v (G 48)
  refine nn_zne (tgt := 15) hx hb dX5_flung_5 (by decide) (by omega) (fun c5 => ?_) (fun c5 => ?_)
  · obtain ⟨j, hj, ej⟩ : ∃ j : Nat, v = nI j ∧ v.toInt = (j : Int) := ⟨v.toInt.toNat, nI_ofZ rfl (by omega), by omega⟩
    rw [hj] at hl
    have hcj := hG.c j (by omega)
    refine lv_aload_n hx hb dX5_flung_15 rfl (lv_at hl 0 rfl) ?_
    refine cl_Vv (As := []) (rest := []) (C := RX5) ⟨hx, hb, hml, hown, hts⟩ (M_X5_thinks l D cI cJ mo R G Wa ) (cwV 0 hts gX5_flung_X5_thinks rfl rfl rfl qX5_thinks ⟨Nat.le_of_ble_eq_true rfl, Nat.le_of_ble_eq_true rfl⟩) E0_good hK hA hW trivial [true, true, true] (fun _ => [mH mo R, mR cI (mo 1) G, mR cI (mo 3) G, aI cI (mo 4) 7 F]) rfl (fun _ => rfl) (fun _ => rfl) 0 0 rfl rfl rfl rfl hl.1 rfl (lv_room (Nat.le_of_ble_eq_true rfl)) dX5_flung_16 ⟨Nat.zero_le _, Nat.zero_le _⟩ (fun _ H locs _ hW => ?_)
    refine lv_aload_n hx hb dX5_flung_19 rfl (lv_at hl 0 rfl) ?_
    refine lv_iload_n hx hb dX5_flung_20 rfl (lv_at hl 1 rfl) ?_
    refine lv_iconst (v := nI 2) hx hb dX5_flung_21 (by decide +kernel) ?_
    refine cl_Vi (As := [.int (nI j), .int (nI 2)]) (rest := []) (C := RX5) ⟨hx, hb, hml, hown, hts⟩ (M_X5_about l D cI cJ mo R G j 2 7 (by omega) (by decide) rfl) (cwV 2 hts gX5_flung_X5_about rfl rfl rfl qX5_about ⟨Nat.le_of_ble_eq_true rfl, Nat.le_of_ble_eq_true rfl⟩) E0_good hK hA hW trivial [true, true] (fun _ => [mH mo R, mR cI (mo 1) G, mR cI (mo 3) G, aI cI (mo 4) 7 F]) rfl (fun _ => rfl) (fun _ => rfl) 0 0 rfl rfl rfl rfl hl.1 rfl (lv_room (Nat.le_of_ble_eq_true rfl)) dX5_flung_22 ⟨Nat.zero_le _, Nat.zero_le _⟩ (fun _ H locs _ hW => ?_)
    refine lv_istore_n (lv' := [(2, .int (nI (G (8 * j + 7)))), (0, .ref (mo 0)), (1, .int (nI j))]) hx hb dX5_flung_25 rfl hl (by decide) rfl (fun ls hl => ?_)
    refine lv_iconst (v := nI 1) hx hb dX5_flung_26 (by decide +kernel) ?_
    refine lv_istore_n (lv' := [(3, .int (nI 1)), (2, .int (nI (G (8 * j + 7)))), (0, .ref (mo 0)), (1, .int (nI j))]) hx hb dX5_flung_27 rfl hl (by decide) rfl (fun ls hl => ?_)
    refine lv_aload_n hx hb dX5_flung_28 rfl (lv_at hl 2 rfl) ?_
    refine cl_Vv (As := []) (rest := []) (C := RX5) ⟨hx, hb, hml, hown, hts⟩ (M_X5_goes l D cI cJ mo R G 99999 (by decide) hG ) (cwV 0 hts gX5_flung_X5_goes rfl rfl rfl qX5_goes ⟨Nat.le_of_ble_eq_true rfl, Nat.le_of_ble_eq_true rfl⟩) E0_good hK hA hW trivial [true, true] (fun _ => [mH mo R, mR cI (mo 1) (stepG G), mR cI (mo 3) G, aI cI (mo 4) 7 F]) rfl (fun _ => rfl) (fun _ => rfl) 0 0 rfl rfl rfl rfl hl.1 rfl (lv_room (Nat.le_of_ble_eq_true rfl)) dX5_flung_29 ⟨Nat.zero_le _, Nat.zero_le _⟩ (fun _ H locs _ hW => ?_)
    have lp32 : ∀ (n : Nat) (i : Nat), 201 - i < n → 1 ≤ i ∧ i ≤ 201 → seek (fun i => decide (¬ stepN G i (8 * j + 7) = G (8 * j + 7))) (201 - i) i = seek (fun i => decide (¬ stepN G i (8 * j + 7) = G (8 * j + 7))) (201 - 1) 1 → ∀ (H : Heap) (locs : List Loc), Wo D vwCl A s.heap H locs [mH mo R, mR cI (mo 1) (stepN G i), mR cI (mo 3) G, aI cI (mo 4) 7 F] → ∀ ls : Array Slot, lv_has ls 4 [(3, .int (nI i)), (2, .int (nI (G (8 * j + 7)))), (0, .ref (mo 0)), (1, .int (nI j))] → W p l e rmX5_flung s m args below meth c H locs 0 0 Q (F0 m 32 ls []) := by
      intro n
      induction n with
      | zero => intro i hm; exact absurd hm (Nat.not_lt_zero _)
      | succ n ih =>
        intro i hm hi hsk H locs hW ls hl
        have hTi := stepN_ok hG i
        have hTs := hTi.s
        have hTc := hTi.c j (by omega)
        refine lv_iload_n hx hb dX5_flung_32 rfl (lv_at hl 0 rfl) ?_
        refine lv_sipush (v := nI 200) hx hb dX5_flung_33 (by decide +kernel) ?_
        refine nn_cgt (tgt := 59) hx hb dX5_flung_36 (by decide) (by omega) (by decide) (fun c36 => ?_) (fun c36 => ?_)
        · have hsx : seek (fun i => decide (¬ stepN G i (8 * j + 7) = G (8 * j + 7))) 200 1 = i := hsk.symm.trans (by first | exact (seek_t (p := (fun i => decide (¬ stepN G i (8 * j + 7) = G (8 * j + 7)))) (e := 201) (i := i) (by omega) (decide_eq_true (by omega))) | (rw [seek_e (fun i => decide (¬ stepN G i (8 * j + 7) = G (8 * j + 7))) (e := 201) (i := i) (by omega)]; omega))
          refine lv_aload_n hx hb dX5_flung_59 rfl (lv_at hl 2 rfl) ?_
          refine cl_Vv (As := []) (rest := []) (C := RX5) ⟨hx, hb, hml, hown, hts⟩ (M_X5_putsBack l D cI cJ mo R (stepN G i) G ) (cwV 0 hts gX5_flung_X5_putsBack rfl rfl rfl qX5_putsBack ⟨Nat.le_of_ble_eq_true rfl, Nat.le_of_ble_eq_true rfl⟩) E0_good hK hA hW trivial [true, true, true] (fun _ => [mH mo R, mR cI (mo 1) G, mR cI (mo 3) G, aI cI (mo 4) 7 F]) rfl (fun _ => rfl) (fun _ => rfl) 0 0 rfl rfl rfl rfl hl.1 rfl (lv_room (Nat.le_of_ble_eq_true rfl)) dX5_flung_60 ⟨Nat.zero_le _, Nat.zero_le _⟩ (fun _ H locs _ hW => ?_)
          refine lv_iload_n hx hb dX5_flung_63 rfl (lv_at hl 0 rfl) ?_
          refine lv_sipush (v := nI 200) hx hb dX5_flung_64 (by decide +kernel) ?_
          refine nn_cle (tgt := 79) hx hb dX5_flung_67 (by decide) (by omega) (by decide) (fun c67 => ?_) (fun c67 => ?_)
          · refine lv_iload_n hx hb dX5_flung_79 rfl (lv_at hl 0 rfl) ?_
            exact rt_i hQ hx hb hr hlocks hW dX5_flung_80 G (by (try simp only [flungV, skV, ej, hsx, Int.toNat_natCast]); (repeat' split) <;> first | rfl | (exfalso; omega)) trivial (by (try simp only [flungF, skF, ej, hsx, Int.toNat_natCast]); (repeat' split) <;> first | rfl | (exfalso; omega))
          · refine lv_aload_n hx hb dX5_flung_70 rfl (lv_at hl 2 rfl) ?_
            refine lv_ldc (v := -1000000004) hx hb hown (hts _ (List.mem_of_getElem? (i := 2) rfl)) dX5_flung_71 ?_
            refine cl_Vi (As := [.int (-1000000004)]) (rest := []) (C := RX5) ⟨hx, hb, hml, hown, hts⟩ (M_X5_finds l D cI cJ mo R F 3 (by decide) (-1000000004) (by decide +kernel)) (cwV 1 hts gX5_flung_X5_finds rfl rfl rfl qX5_finds ⟨Nat.le_of_ble_eq_true rfl, Nat.le_of_ble_eq_true rfl⟩) E0_good hK hA hW trivial [true, false, false, true] (fun _ => [mH mo R, mR cI (mo 1) G, mR cI (mo 3) G, aI cI (mo 4) 7 (up F 3 (F 3 + 1))]) rfl (fun _ => rfl) (fun _ => rfl) 0 0 rfl rfl rfl rfl hl.1 rfl (lv_room (Nat.le_of_ble_eq_true rfl)) dX5_flung_73 ⟨Nat.zero_le _, Nat.zero_le _⟩ (fun _ H locs _ hW => ?_)
            refine lv_goto (tgt := 80) hx hb dX5_flung_76 (by decide) ?_
            exact rt_i hQ hx hb hr hlocks hW dX5_flung_80 G (by (try simp only [flungV, skV, ej, hsx, Int.toNat_natCast]); (repeat' split) <;> first | rfl | (exfalso; omega)) trivial (by (try simp only [flungF, skF, ej, hsx, Int.toNat_natCast]); (repeat' split) <;> first | rfl | (exfalso; omega))
        · refine lv_aload_n hx hb dX5_flung_39 rfl (lv_at hl 2 rfl) ?_
          refine lv_iload_n hx hb dX5_flung_40 rfl (lv_at hl 3 rfl) ?_
          refine lv_iconst (v := nI 2) hx hb dX5_flung_41 (by decide +kernel) ?_
          refine cl_Vi (As := [.int (nI j), .int (nI 2)]) (rest := []) (C := RX5) ⟨hx, hb, hml, hown, hts⟩ (M_X5_about l D cI cJ mo R (stepN G i) j 2 7 (by omega) (by decide) rfl) (cwV 2 hts gX5_flung_X5_about rfl rfl rfl qX5_about ⟨Nat.le_of_ble_eq_true rfl, Nat.le_of_ble_eq_true rfl⟩) E0_good hK hA hW trivial [true, true] (fun _ => [mH mo R, mR cI (mo 1) (stepN G i), mR cI (mo 3) G, aI cI (mo 4) 7 F]) rfl (fun _ => rfl) (fun _ => rfl) 0 0 rfl rfl rfl rfl hl.1 rfl (lv_room (Nat.le_of_ble_eq_true rfl)) dX5_flung_42 ⟨Nat.zero_le _, Nat.zero_le _⟩ (fun _ H locs _ hW => ?_)
          refine lv_iload_n hx hb dX5_flung_45 rfl (lv_at hl 1 rfl) ?_
          refine nn_cne (tgt := 59) hx hb dX5_flung_46 (by decide) (by omega) (by omega) (fun c46 => ?_) (fun c46 => ?_)
          · have hsx : seek (fun i => decide (¬ stepN G i (8 * j + 7) = G (8 * j + 7))) 200 1 = i := hsk.symm.trans (by first | exact (seek_t (p := (fun i => decide (¬ stepN G i (8 * j + 7) = G (8 * j + 7)))) (e := 201) (i := i) (by omega) (decide_eq_true (by omega))) | (rw [seek_e (fun i => decide (¬ stepN G i (8 * j + 7) = G (8 * j + 7))) (e := 201) (i := i) (by omega)]; omega))
            refine lv_aload_n hx hb dX5_flung_59 rfl (lv_at hl 2 rfl) ?_
            refine cl_Vv (As := []) (rest := []) (C := RX5) ⟨hx, hb, hml, hown, hts⟩ (M_X5_putsBack l D cI cJ mo R (stepN G i) G ) (cwV 0 hts gX5_flung_X5_putsBack rfl rfl rfl qX5_putsBack ⟨Nat.le_of_ble_eq_true rfl, Nat.le_of_ble_eq_true rfl⟩) E0_good hK hA hW trivial [true, true, true] (fun _ => [mH mo R, mR cI (mo 1) G, mR cI (mo 3) G, aI cI (mo 4) 7 F]) rfl (fun _ => rfl) (fun _ => rfl) 0 0 rfl rfl rfl rfl hl.1 rfl (lv_room (Nat.le_of_ble_eq_true rfl)) dX5_flung_60 ⟨Nat.zero_le _, Nat.zero_le _⟩ (fun _ H locs _ hW => ?_)
            refine lv_iload_n hx hb dX5_flung_63 rfl (lv_at hl 0 rfl) ?_
            refine lv_sipush (v := nI 200) hx hb dX5_flung_64 (by decide +kernel) ?_
            refine nn_cle (tgt := 79) hx hb dX5_flung_67 (by decide) (by omega) (by decide) (fun c67_1 => ?_) (fun c67_1 => ?_)
            · refine lv_iload_n hx hb dX5_flung_79 rfl (lv_at hl 0 rfl) ?_
              exact rt_i hQ hx hb hr hlocks hW dX5_flung_80 G (by (try simp only [flungV, skV, ej, hsx, Int.toNat_natCast]); (repeat' split) <;> first | rfl | (exfalso; omega)) trivial (by (try simp only [flungF, skF, ej, hsx, Int.toNat_natCast]); (repeat' split) <;> first | rfl | (exfalso; omega))
            · refine lv_aload_n hx hb dX5_flung_70 rfl (lv_at hl 2 rfl) ?_
              refine lv_ldc (v := -1000000004) hx hb hown (hts _ (List.mem_of_getElem? (i := 2) rfl)) dX5_flung_71 ?_
              refine cl_Vi (As := [.int (-1000000004)]) (rest := []) (C := RX5) ⟨hx, hb, hml, hown, hts⟩ (M_X5_finds l D cI cJ mo R F 3 (by decide) (-1000000004) (by decide +kernel)) (cwV 1 hts gX5_flung_X5_finds rfl rfl rfl qX5_finds ⟨Nat.le_of_ble_eq_true rfl, Nat.le_of_ble_eq_true rfl⟩) E0_good hK hA hW trivial [true, false, false, true] (fun _ => [mH mo R, mR cI (mo 1) G, mR cI (mo 3) G, aI cI (mo 4) 7 (up F 3 (F 3 + 1))]) rfl (fun _ => rfl) (fun _ => rfl) 0 0 rfl rfl rfl rfl hl.1 rfl (lv_room (Nat.le_of_ble_eq_true rfl)) dX5_flung_73 ⟨Nat.zero_le _, Nat.zero_le _⟩ (fun _ H locs _ hW => ?_)
              refine lv_goto (tgt := 80) hx hb dX5_flung_76 (by decide) ?_
              exact rt_i hQ hx hb hr hlocks hW dX5_flung_80 G (by (try simp only [flungV, skV, ej, hsx, Int.toNat_natCast]); (repeat' split) <;> first | rfl | (exfalso; omega)) trivial (by (try simp only [flungF, skF, ej, hsx, Int.toNat_natCast]); (repeat' split) <;> first | rfl | (exfalso; omega))
          · refine lv_aload_n hx hb dX5_flung_49 rfl (lv_at hl 2 rfl) ?_
            refine cl_Vv (As := []) (rest := []) (C := RX5) ⟨hx, hb, hml, hown, hts⟩ (M_X5_goes l D cI cJ mo R (stepN G i) (99999 + i) (by omega) hTi ) (cwV 0 hts gX5_flung_X5_goes rfl rfl rfl qX5_goes ⟨Nat.le_of_ble_eq_true rfl, Nat.le_of_ble_eq_true rfl⟩) E0_good hK hA hW trivial [true, true] (fun _ => [mH mo R, mR cI (mo 1) (stepG (stepN G i)), mR cI (mo 3) G, aI cI (mo 4) 7 F]) rfl (fun _ => rfl) (fun _ => rfl) 0 0 rfl rfl rfl rfl hl.1 rfl (lv_room (Nat.le_of_ble_eq_true rfl)) dX5_flung_50 ⟨Nat.zero_le _, Nat.zero_le _⟩ (fun _ H locs _ hW => ?_)
            refine lv_iinc (v := nI (i + 1)) (lv' := [(3, .int (nI (i + 1))), (2, .int (nI (G (8 * j + 7)))), (0, .ref (mo 0)), (1, .int (nI j))]) hx hb dX5_flung_53 hl (k := 0) rfl (nI_add _ 1) (by decide) rfl (fun ls hl => ?_)
            refine lv_goto (tgt := 32) hx hb dX5_flung_56 (by decide) ?_
            have hW := hW.to (ss' := [mH mo R, mR cI (mo 1) (stepN G (i + 1)), mR cI (mo 3) G, aI cI (mo 4) 7 F]) rfl
            exact ih (i + 1) (by omega) (by omega) ((seek_f (p := (fun i => decide (¬ stepN G i (8 * j + 7) = G (8 * j + 7)))) (e := 201) (by omega) (decide_eq_false (by omega))).symm.trans hsk) _ _ hW _ (lv_sub hl [0, 1, 2, 3] rfl)
    have hW := hW.to (ss' := [mH mo R, mR cI (mo 1) (stepN G 1), mR cI (mo 3) G, aI cI (mo 4) 7 F]) rfl
    exact lp32 (201 - 1 + 1) 1 (Nat.lt_succ_self _) (by omega) rfl _ _ hW _ (lv_sub hl [0, 1, 2, 3] rfl)
  · refine lv_aload_n hx hb dX5_flung_8 rfl (lv_at hl 0 rfl) ?_
    refine lv_ldc (v := -1000000001) hx hb hown (hts _ (List.mem_of_getElem? (i := 1) rfl)) dX5_flung_9 ?_
    refine cl_Vi (As := [.int (-1000000001)]) (rest := []) (C := RX5) ⟨hx, hb, hml, hown, hts⟩ (M_X5_finds l D cI cJ mo R F 0 (by decide) (-1000000001) (by decide +kernel)) (cwV 1 hts gX5_flung_X5_finds rfl rfl rfl qX5_finds ⟨Nat.le_of_ble_eq_true rfl, Nat.le_of_ble_eq_true rfl⟩) E0_good hK hA hW trivial [true, false, false, true] (fun _ => [mH mo R, mR cI (mo 1) G, mR cI (mo 3) Wa, aI cI (mo 4) 7 (up F 0 (F 0 + 1))]) rfl (fun _ => rfl) (fun _ => rfl) 0 0 rfl rfl rfl rfl hl.1 rfl (lv_room (Nat.le_of_ble_eq_true rfl)) dX5_flung_11 ⟨Nat.zero_le _, Nat.zero_le _⟩ (fun _ H locs _ hW => ?_)
    exact rt_i hQ hx hb hr hlocks hW dX5_flung_14 Wa (by (try simp only [flungV, skV]); (repeat' split) <;> first | rfl | (exfalso; omega)) trivial (by (try simp only [flungF, skF]); (repeat' split) <;> first | rfl | (exfalso; omega))
theorem turned_le {b : Nat} {G : Nat → Nat} (h : OkG b G) (n : Nat) : stepN G n 32 ≤ 999999 := (stepN_ok h n).s.2.2.2.2.2.1
theorem sendSt_le {b : Nat} {G : Nat → Nat} (h : OkG b G) (n : Nat) : ∀ k, (sendSt G n k).1 ≤ k ∧ (sendSt G n k).2 ≤ 999999
  | 0 => ⟨Nat.le_refl _, Nat.zero_le _⟩
  | k + 1 => by
    have h1 := sendSt_le h n k
    have h2 := turned_le (moveM_ok h (a := k) (o := 0) (by omega)) n
    show (if G (8 * k + 2) = 1 then (if (sendSt G n k).1 = 0 ∨ stepN (moveM G k 0) n 32 < (sendSt G n k).2 then (k + 1, stepN (moveM G k 0) n 32) else sendSt G n k) else sendSt G n k).1 ≤ _ ∧ (if G (8 * k + 2) = 1 then (if (sendSt G n k).1 = 0 ∨ stepN (moveM G k 0) n 32 < (sendSt G n k).2 then (k + 1, stepN (moveM G k 0) n 32) else sendSt G n k) else sendSt G n k).2 ≤ _
    repeat' split
    all_goals first | exact ⟨Nat.le_refl _, h2⟩ | exact ⟨by omega, h1.2⟩
theorem sendSt_in {b : Nat} {G : Nat → Nat} (h : OkG b G) (n k : Nat) (_ : k ≤ 8) {o q : Nat} (e : sendSt G n k = (o, q)) : o ≤ k ∧ q ≤ 999999 := by
  have := sendSt_le h n k
  rw [e] at this; exact this
abbrev rmX5_send : Room := { frames := 8, cells := 0, slots := 0, locals := 181 }
set_option maxRecDepth 100000 in
set_option maxHeartbeats 4000000 in
theorem M_X5_send (l : Launch) (D : va_G) (cI cJ : ClassId) (mo R G Wa F : Nat → Nat) (hG : OkG 99999 G) (z : Int32) : CE E0 l D vwCl [(cI, .int), (cJ, .long)] yX5_send wsX5_send rmX5_send [.ref (mo 0), .int z] [mH mo R, mR cI (mo 1) G, mR cI (mo 3) Wa, aI cI (mo 4) 7 F] (S := (Nat → Nat)) (some (.int (sendV G z.toInt))) (fun _ => True) (fun Wx : Nat → Nat => [mH mo R, mR cI (mo 1) G, mR cI (mo 3) Wx, aI cI (mo 4) 7 (sendF G F z.toInt)]) 0 0 := by
  refine CE.ofW (cc := cX5_send) (maxL := 8) (ret := (some .int)) (lv := [(0, .ref (mo 0)), (1, .int z)]) (by decide) rfl (Nat.le_of_ble_eq_true rfl) rfl ?_
  intro p e s m args below meth c ls A Q hQ hx hb hml hr hlocks hnm hown hts hK hA hE hW hl
  have hown : s.vm.findClass RX5 = some m.cls := hown
  obtain ⟨hg0, hg8, hg16, hg16b, hg24, hg32, hg40, hg48⟩ := hG.s
  refine lv_iload_n hx hb dX5_send_0 rfl (lv_at hl 1 rfl) ?_
  refine lv_i2l (v := (z).toInt64) hx hb dX5_send_1 rfl ?_
  refine lv_iconst (v := nI 1) hx hb dX5_send_2 (by decide +kernel) ?_
  refine lv_bipush (v := nI 60) hx hb dX5_send_3 (by decide +kernel) ?_
  refine cl_Si (As := [.long ((z).toInt64), .int (nI 1), .int (nI 60)]) (rest := []) ⟨hx, hb, hml, hown, hts⟩ (M_X5_in2 l D cI cJ ((z).toInt64) (nI 1) (nI 60) z.toInt ((1 : Nat) : Int) ((60 : Nat) : Int) ((Int32.toInt_toInt64 _).trans rfl) (nI_toInt (n := 1) (by decide)) (nI_toInt (n := 60) (by decide))) (va_cwS 3 hts gX5_send_X5_in rfl rfl rfl qX5_in ⟨Nat.le_of_ble_eq_true rfl, Nat.le_of_ble_eq_true rfl⟩) E0_good hK hA hW trivial [] (fun _ => [mH mo R, mR cI (mo 1) G, mR cI (mo 3) Wa, aI cI (mo 4) 7 F]) rfl (fun _ => rfl) (fun _ => rfl) rfl hl.1 rfl (lv_room (Nat.le_of_ble_eq_true rfl)) dX5_send_5 ⟨Nat.zero_le _, Nat.zero_le _⟩ (fun _ H locs _ hW => ?_)
  have hin_ := inZ_or z.toInt ((1 : Nat) : Int) ((60 : Nat) : Int)
  refine nn_zne (tgt := 18) hx hb dX5_send_8 (by decide) (by omega) (fun c8 => ?_) (fun c8 => ?_)
  · obtain ⟨y, hy, ey⟩ : ∃ y : Nat, z = nI y ∧ z.toInt = (y : Int) := ⟨z.toInt.toNat, nI_ofZ rfl (by omega), by omega⟩
    rw [hy] at hl
    refine lv_aload_n hx hb dX5_send_18 rfl (lv_at hl 0 rfl) ?_
    refine cl_Vv (As := []) (rest := []) (C := RX5) ⟨hx, hb, hml, hown, hts⟩ (M_X5_thinks l D cI cJ mo R G Wa ) (cwV 0 hts gX5_send_X5_thinks rfl rfl rfl qX5_thinks ⟨Nat.le_of_ble_eq_true rfl, Nat.le_of_ble_eq_true rfl⟩) E0_good hK hA hW trivial [true, true, true] (fun _ => [mH mo R, mR cI (mo 1) G, mR cI (mo 3) G, aI cI (mo 4) 7 F]) rfl (fun _ => rfl) (fun _ => rfl) 0 0 rfl rfl rfl rfl hl.1 rfl (lv_room (Nat.le_of_ble_eq_true rfl)) dX5_send_19 ⟨Nat.zero_le _, Nat.zero_le _⟩ (fun _ H locs _ hW => ?_)
    refine lv_iconst (v := -1) hx hb dX5_send_22 (by decide +kernel) ?_
    refine lv_istore_n (lv' := [(2, .int (-1)), (0, .ref (mo 0)), (1, .int (nI y))]) hx hb dX5_send_23 rfl hl (by decide) rfl (fun ls hl => ?_)
    refine lv_iconst (v := nI 0) hx hb dX5_send_24 (by decide +kernel) ?_
    refine lv_istore_n (lv' := [(3, .int (nI 0)), (2, .int (-1)), (0, .ref (mo 0)), (1, .int (nI y))]) hx hb dX5_send_25 rfl hl (by decide) rfl (fun ls hl => ?_)
    refine lv_iconst (v := nI 0) hx hb dX5_send_26 (by decide +kernel) ?_
    refine lv_istore (lv' := [(4, .int (nI 0)), (3, .int (nI 0)), (2, .int (-1)), (0, .ref (mo 0)), (1, .int (nI y))]) hx hb dX5_send_27 hl (by decide) rfl (fun ls hl => ?_)
    have lp29 : ∀ (n : Nat) (i : Nat) (o : Nat) (q : Nat), G 40 - i < n → i ≤ G 40 → sendSt G y i = (o, q) → ∀ (H : Heap) (locs : List Loc), Wo D vwCl A s.heap H locs [mH mo R, mR cI (mo 1) G, mR cI (mo 3) G, aI cI (mo 4) 7 F] → ∀ ls : Array Slot, lv_has ls 8 [(4, .int (nI i)), (3, .int (nI q)), (2, .int (bst o)), (0, .ref (mo 0)), (1, .int (nI y))] → W p l e rmX5_send s m args below meth c H locs 0 0 Q (F0 m 29 ls []) := by
      intro n
      induction n with
      | zero => intro i o q hm; exact absurd hm (Nat.not_lt_zero _)
      | succ n ih =>
        intro i o q hm hi hst H locs hW ls hl
        have hstl : o ≤ i ∧ q ≤ 999999 := sendSt_in hG y i (by omega) hst
        refine lv_iload hx hb dX5_send_29 (lv_at hl 0 rfl) ?_
        refine lv_aload_n hx hb dX5_send_31 rfl (lv_at hl 3 rfl) ?_
        refine sg_get (ci := 4) (C := RX5) (T := TX5) (N := 15) (v := .ref (mo 1)) hx hb hts (fun _ h => List.mem_cons_of_mem _ (List.mem_append_right _ h)) hown hK hW 0 0 rfl rfl rfl 0 (by decide) (hts _ (List.mem_of_getElem? (i := 2) rfl)) rfl dX5_send_32 ?_
        refine lv_iconst (v := nI 5) hx hb dX5_send_35 (by decide +kernel) ?_
        refine sg_ild (v := nI (G 40)) hx hb hK hW 1 0 0 rfl rfl rfl (by decide) (by decide) rfl dX5_send_36 ?_
        refine nn_cge (tgt := 114) hx hb dX5_send_37 (by decide) (by omega) (by omega) (fun c37 => ?_) (fun c37 => ?_)
        · have hsx : sendSt G y (G 40) = (o, q) := by rw [← show i = G 40 by omega]; exact hst
          refine lv_aload_n hx hb dX5_send_114 rfl (lv_at hl 3 rfl) ?_
          refine lv_iload_n hx hb dX5_send_115 rfl (lv_at hl 2 rfl) ?_
          refine cl_Vi (As := [.int (bst o)]) (rest := []) (C := RX5) ⟨hx, hb, hml, hown, hts⟩ (M_X5_orNone l D cI cJ mo R F o (by omega)) (cwV 1 hts gX5_send_X5_orNone rfl rfl rfl qX5_orNone ⟨Nat.le_of_ble_eq_true rfl, Nat.le_of_ble_eq_true rfl⟩) E0_good hK hA hW trivial [true, false, false, true] (fun _ => [mH mo R, mR cI (mo 1) G, mR cI (mo 3) G, aI cI (mo 4) 7 (orF F o)]) rfl (fun _ => rfl) (fun _ => rfl) 0 0 rfl rfl rfl rfl hl.1 rfl (lv_room (Nat.le_of_ble_eq_true rfl)) dX5_send_116 ⟨Nat.zero_le _, Nat.zero_le _⟩ (fun _ H locs _ hW => ?_)
          exact rt_i hQ hx hb hr hlocks hW dX5_send_119 G (by (try simp only [sendV, ey, hsx, Int.toNat_natCast]); (repeat' split) <;> first | rfl | (exfalso; omega)) trivial (by (try simp only [sendF, ey, hsx, Int.toNat_natCast]); (repeat' split) <;> first | rfl | (exfalso; omega))
        · have hmi := hG.m i (by omega)
          have htl := turned_le (moveM_ok hG (a := i) (o := 0) (by omega)) y
          refine lv_aload_n hx hb dX5_send_40 rfl (lv_at hl 3 rfl) ?_
          refine lv_iload hx hb dX5_send_41 (lv_at hl 0 rfl) ?_
          refine lv_iconst (v := nI 1) hx hb dX5_send_43 (by decide +kernel) ?_
          refine cl_Vi (As := [.int (nI i), .int (nI 1)]) (rest := []) (C := RX5) ⟨hx, hb, hml, hown, hts⟩ (M_X5_it l D cI cJ mo R G i 1 2 (by omega) (by decide) rfl) (cwV 2 hts gX5_send_X5_it rfl rfl rfl qX5_it ⟨Nat.le_of_ble_eq_true rfl, Nat.le_of_ble_eq_true rfl⟩) E0_good hK hA hW trivial [true, true] (fun _ => [mH mo R, mR cI (mo 1) G, mR cI (mo 3) G, aI cI (mo 4) 7 F]) rfl (fun _ => rfl) (fun _ => rfl) 0 0 rfl rfl rfl rfl hl.1 rfl (lv_room (Nat.le_of_ble_eq_true rfl)) dX5_send_44 ⟨Nat.zero_le _, Nat.zero_le _⟩ (fun _ H locs _ hW => ?_)
          refine lv_iconst (v := nI 1) hx hb dX5_send_47 (by decide +kernel) ?_
          refine nn_cne (tgt := 108) hx hb dX5_send_48 (by decide) (by omega) (by decide) (fun c48 => ?_) (fun c48 => ?_)
          · have hst2 : sendSt G y (i + 1) = (o, q) := by
              show (if G (8 * i + 2) = 1 then _ else sendSt G y i) = (o, q)
              rw [if_neg (by omega), hst]
            refine lv_iinc (v := nI (i + 1)) (lv' := [(4, .int (nI (i + 1))), (3, .int (nI q)), (2, .int (bst o)), (0, .ref (mo 0)), (1, .int (nI y))]) hx hb dX5_send_108 hl (k := 0) rfl (nI_add _ 1) (by decide) rfl (fun ls hl => ?_)
            refine lv_goto (tgt := 29) hx hb dX5_send_111 (by decide) ?_
            exact ih (i + 1) o q (by omega) (by omega) hst2 _ _ hW _ (lv_sub hl [0, 1, 2, 3, 4] rfl)
          · refine lv_aload_n hx hb dX5_send_51 rfl (lv_at hl 3 rfl) ?_
            refine lv_iload hx hb dX5_send_52 (lv_at hl 0 rfl) ?_
            refine lv_iconst (v := nI 0) hx hb dX5_send_54 (by decide +kernel) ?_
            refine cl_Vi (As := [.int (nI i), .int (nI 0)]) (rest := []) (C := RX5) ⟨hx, hb, hml, hown, hts⟩ (M_X5_moves l D cI cJ mo R G 99999 (by decide) hG i 0 (by omega)) (cwV 2 hts gX5_send_X5_moves rfl rfl rfl qX5_moves ⟨Nat.le_of_ble_eq_true rfl, Nat.le_of_ble_eq_true rfl⟩) E0_good hK hA hW trivial [true, true] (fun _ => [mH mo R, mR cI (mo 1) (moveM G i 0), mR cI (mo 3) G, aI cI (mo 4) 7 F]) rfl (fun _ => rfl) (fun _ => rfl) 0 0 rfl rfl rfl rfl hl.1 rfl (lv_room (Nat.le_of_ble_eq_true rfl)) dX5_send_55 ⟨Nat.zero_le _, Nat.zero_le _⟩ (fun _ H locs _ hW => ?_)
            refine lv_istore (lv' := [(5, .int (nI (G (8 * i + 2)))), (4, .int (nI i)), (3, .int (nI q)), (2, .int (bst o)), (0, .ref (mo 0)), (1, .int (nI y))]) hx hb dX5_send_58 hl (by decide) rfl (fun ls hl => ?_)
            refine lv_aload_n hx hb dX5_send_60 rfl (lv_at hl 4 rfl) ?_
            refine lv_iload_n hx hb dX5_send_61 rfl (lv_at hl 5 rfl) ?_
            refine cl_Vi (As := [.int (nI y)]) (rest := []) (C := RX5) ⟨hx, hb, hml, hown, hts⟩ (M_X5_turnedOn l D cI cJ mo R (moveM G i 0) G 99999 (by decide) (moveM_ok hG (by omega)) y (by omega)) (cwV 1 hts gX5_send_X5_turnedOn rfl rfl rfl qX5_turnedOn ⟨Nat.le_of_ble_eq_true rfl, Nat.le_of_ble_eq_true rfl⟩) E0_good hK hA hW trivial [true, true, true] (fun _ => [mH mo R, mR cI (mo 1) G, mR cI (mo 3) G, aI cI (mo 4) 7 F]) rfl (fun _ => rfl) (fun _ => rfl) 0 0 rfl rfl rfl rfl hl.1 rfl (lv_room (Nat.le_of_ble_eq_true rfl)) dX5_send_62 ⟨Nat.zero_le _, Nat.zero_le _⟩ (fun _ H locs _ hW => ?_)
            refine lv_istore (lv' := [(6, .int (nI (stepN (moveM G i 0) y 32))), (5, .int (nI (G (8 * i + 2)))), (4, .int (nI i)), (3, .int (nI q)), (2, .int (bst o)), (0, .ref (mo 0)), (1, .int (nI y))]) hx hb dX5_send_65 hl (by decide) rfl (fun ls hl => ?_)
            refine lv_iload_n hx hb dX5_send_67 rfl (lv_at hl 4 rfl) ?_
            refine zz_zlt (tgt := 77) hx hb dX5_send_68 (by decide) (bst_toInt (o := o) (by omega)) (fun c68 => ?_) (fun c68 => ?_)
            · refine lv_iconst (v := nI 1) hx hb dX5_send_77 (by decide +kernel) ?_
              refine lv_goto (tgt := 82) hx hb dX5_send_78 (by decide) ?_
              refine lv_istore (lv' := [(7, .int (nI 1)), (6, .int (nI (stepN (moveM G i 0) y 32))), (5, .int (nI (G (8 * i + 2)))), (4, .int (nI i)), (3, .int (nI q)), (2, .int (bst o)), (0, .ref (mo 0)), (1, .int (nI y))]) hx hb dX5_send_82 hl (by decide) rfl (fun ls hl => ?_)
              refine lv_iload hx hb dX5_send_84 (lv_at hl 0 rfl) ?_
              refine nn_zeq (tgt := 94) hx hb dX5_send_86 (by decide) (by decide) (fun c86 => ?_) (fun c86 => ?_)
              · exfalso; omega
              · refine lv_iload hx hb dX5_send_89 (lv_at hl 3 rfl) ?_
                refine lv_goto (tgt := 95) hx hb dX5_send_91 (by decide) ?_
                refine lv_istore_n (lv' := [(2, .int (nI i)), (7, .int (nI 1)), (6, .int (nI (stepN (moveM G i 0) y 32))), (5, .int (nI (G (8 * i + 2)))), (4, .int (nI i)), (3, .int (nI q)), (0, .ref (mo 0)), (1, .int (nI y))]) hx hb dX5_send_95 rfl hl (by decide) rfl (fun ls hl => ?_)
                refine lv_iload hx hb dX5_send_96 (lv_at hl 1 rfl) ?_
                refine nn_zeq (tgt := 106) hx hb dX5_send_98 (by decide) (by decide) (fun c98 => ?_) (fun c98 => ?_)
                · exfalso; omega
                · refine lv_iload hx hb dX5_send_101 (lv_at hl 2 rfl) ?_
                  refine lv_goto (tgt := 107) hx hb dX5_send_103 (by decide) ?_
                  refine lv_istore_n (lv' := [(3, .int (nI (stepN (moveM G i 0) y 32))), (2, .int (nI i)), (7, .int (nI 1)), (6, .int (nI (stepN (moveM G i 0) y 32))), (5, .int (nI (G (8 * i + 2)))), (4, .int (nI i)), (0, .ref (mo 0)), (1, .int (nI y))]) hx hb dX5_send_107 rfl hl (by decide) rfl (fun ls hl => ?_)
                  have hst2 : sendSt G y (i + 1) = (i + 1, stepN (moveM G i 0) y 32) := by
                    show (if G (8 * i + 2) = 1 then (if (sendSt G y i).1 = 0 ∨ stepN (moveM G i 0) y 32 < (sendSt G y i).2 then (i + 1, stepN (moveM G i 0) y 32) else sendSt G y i) else sendSt G y i) = _
                    rw [if_pos (by omega), hst, if_pos (by show o = 0 ∨ _ < q; omega)]
                  have hbq : nI i = bst (i + 1) := (if_neg (Nat.succ_ne_zero _)).symm
                  have hl : lv_has ls 8 [(3, .int (nI (stepN (moveM G i 0) y 32))), (2, .int (bst (i + 1))), (7, .int (nI 1)), (6, .int (nI (stepN (moveM G i 0) y 32))), (5, .int (nI (G (8 * i + 2)))), (4, .int (nI i)), (0, .ref (mo 0)), (1, .int (nI y))] := by rw [← hbq]; exact hl
                  refine lv_iinc (v := nI (i + 1)) (lv' := [(4, .int (nI (i + 1))), (3, .int (nI (stepN (moveM G i 0) y 32))), (2, .int (bst (i + 1))), (7, .int (nI 1)), (6, .int (nI (stepN (moveM G i 0) y 32))), (5, .int (nI (G (8 * i + 2)))), (0, .ref (mo 0)), (1, .int (nI y))]) hx hb dX5_send_108 hl (k := 5) rfl (nI_add _ 1) (by decide) rfl (fun ls hl => ?_)
                  refine lv_goto (tgt := 29) hx hb dX5_send_111 (by decide) ?_
                  exact ih (i + 1) (i + 1) (stepN (moveM G i 0) y 32) (by omega) (by omega) hst2 _ _ hW _ (lv_sub hl [0, 1, 2, 6, 7] rfl)
            · refine lv_iload hx hb dX5_send_71 (lv_at hl 0 rfl) ?_
              refine lv_iload_n hx hb dX5_send_73 rfl (lv_at hl 3 rfl) ?_
              refine nn_cge (tgt := 81) hx hb dX5_send_74 (by decide) (by omega) (by omega) (fun c74 => ?_) (fun c74 => ?_)
              · refine lv_iconst (v := nI 0) hx hb dX5_send_81 (by decide +kernel) ?_
                refine lv_istore (lv' := [(7, .int (nI 0)), (6, .int (nI (stepN (moveM G i 0) y 32))), (5, .int (nI (G (8 * i + 2)))), (4, .int (nI i)), (3, .int (nI q)), (2, .int (bst o)), (0, .ref (mo 0)), (1, .int (nI y))]) hx hb dX5_send_82 hl (by decide) rfl (fun ls hl => ?_)
                refine lv_iload hx hb dX5_send_84 (lv_at hl 0 rfl) ?_
                refine nn_zeq (tgt := 94) hx hb dX5_send_86 (by decide) (by decide) (fun c86_1 => ?_) (fun c86_1 => ?_)
                · refine lv_iload_n hx hb dX5_send_94 rfl (lv_at hl 5 rfl) ?_
                  refine lv_istore_n (lv' := [(2, .int (bst o)), (7, .int (nI 0)), (6, .int (nI (stepN (moveM G i 0) y 32))), (5, .int (nI (G (8 * i + 2)))), (4, .int (nI i)), (3, .int (nI q)), (0, .ref (mo 0)), (1, .int (nI y))]) hx hb dX5_send_95 rfl hl (by decide) rfl (fun ls hl => ?_)
                  refine lv_iload hx hb dX5_send_96 (lv_at hl 1 rfl) ?_
                  refine nn_zeq (tgt := 106) hx hb dX5_send_98 (by decide) (by decide) (fun c98_1 => ?_) (fun c98_1 => ?_)
                  · refine lv_iload_n hx hb dX5_send_106 rfl (lv_at hl 5 rfl) ?_
                    refine lv_istore_n (lv' := [(3, .int (nI q)), (2, .int (bst o)), (7, .int (nI 0)), (6, .int (nI (stepN (moveM G i 0) y 32))), (5, .int (nI (G (8 * i + 2)))), (4, .int (nI i)), (0, .ref (mo 0)), (1, .int (nI y))]) hx hb dX5_send_107 rfl hl (by decide) rfl (fun ls hl => ?_)
                    have hst2 : sendSt G y (i + 1) = (o, q) := by
                      show (if G (8 * i + 2) = 1 then (if (sendSt G y i).1 = 0 ∨ stepN (moveM G i 0) y 32 < (sendSt G y i).2 then (i + 1, stepN (moveM G i 0) y 32) else sendSt G y i) else sendSt G y i) = _
                      rw [if_pos (by omega), hst, if_neg (by show ¬ (o = 0 ∨ _ < q); omega)]
                    refine lv_iinc (v := nI (i + 1)) (lv' := [(4, .int (nI (i + 1))), (3, .int (nI q)), (2, .int (bst o)), (7, .int (nI 0)), (6, .int (nI (stepN (moveM G i 0) y 32))), (5, .int (nI (G (8 * i + 2)))), (0, .ref (mo 0)), (1, .int (nI y))]) hx hb dX5_send_108 hl (k := 5) rfl (nI_add _ 1) (by decide) rfl (fun ls hl => ?_)
                    refine lv_goto (tgt := 29) hx hb dX5_send_111 (by decide) ?_
                    exact ih (i + 1) o q (by omega) (by omega) hst2 _ _ hW _ (lv_sub hl [0, 1, 2, 6, 7] rfl)
                  · exfalso; omega
                · exfalso; omega
              · refine lv_iconst (v := nI 1) hx hb dX5_send_77 (by decide +kernel) ?_
                refine lv_goto (tgt := 82) hx hb dX5_send_78 (by decide) ?_
                refine lv_istore (lv' := [(7, .int (nI 1)), (6, .int (nI (stepN (moveM G i 0) y 32))), (5, .int (nI (G (8 * i + 2)))), (4, .int (nI i)), (3, .int (nI q)), (2, .int (bst o)), (0, .ref (mo 0)), (1, .int (nI y))]) hx hb dX5_send_82 hl (by decide) rfl (fun ls hl => ?_)
                refine lv_iload hx hb dX5_send_84 (lv_at hl 0 rfl) ?_
                refine nn_zeq (tgt := 94) hx hb dX5_send_86 (by decide) (by decide) (fun c86_2 => ?_) (fun c86_2 => ?_)
                · exfalso; omega
                · refine lv_iload hx hb dX5_send_89 (lv_at hl 3 rfl) ?_
                  refine lv_goto (tgt := 95) hx hb dX5_send_91 (by decide) ?_
                  refine lv_istore_n (lv' := [(2, .int (nI i)), (7, .int (nI 1)), (6, .int (nI (stepN (moveM G i 0) y 32))), (5, .int (nI (G (8 * i + 2)))), (4, .int (nI i)), (3, .int (nI q)), (0, .ref (mo 0)), (1, .int (nI y))]) hx hb dX5_send_95 rfl hl (by decide) rfl (fun ls hl => ?_)
                  refine lv_iload hx hb dX5_send_96 (lv_at hl 1 rfl) ?_
                  refine nn_zeq (tgt := 106) hx hb dX5_send_98 (by decide) (by decide) (fun c98_2 => ?_) (fun c98_2 => ?_)
                  · exfalso; omega
                  · refine lv_iload hx hb dX5_send_101 (lv_at hl 2 rfl) ?_
                    refine lv_goto (tgt := 107) hx hb dX5_send_103 (by decide) ?_
                    refine lv_istore_n (lv' := [(3, .int (nI (stepN (moveM G i 0) y 32))), (2, .int (nI i)), (7, .int (nI 1)), (6, .int (nI (stepN (moveM G i 0) y 32))), (5, .int (nI (G (8 * i + 2)))), (4, .int (nI i)), (0, .ref (mo 0)), (1, .int (nI y))]) hx hb dX5_send_107 rfl hl (by decide) rfl (fun ls hl => ?_)
                    have hst2 : sendSt G y (i + 1) = (i + 1, stepN (moveM G i 0) y 32) := by
                      show (if G (8 * i + 2) = 1 then (if (sendSt G y i).1 = 0 ∨ stepN (moveM G i 0) y 32 < (sendSt G y i).2 then (i + 1, stepN (moveM G i 0) y 32) else sendSt G y i) else sendSt G y i) = _
                      rw [if_pos (by omega), hst, if_pos (by show o = 0 ∨ _ < q; omega)]
                    have hbq : nI i = bst (i + 1) := (if_neg (Nat.succ_ne_zero _)).symm
                    have hl : lv_has ls 8 [(3, .int (nI (stepN (moveM G i 0) y 32))), (2, .int (bst (i + 1))), (7, .int (nI 1)), (6, .int (nI (stepN (moveM G i 0) y 32))), (5, .int (nI (G (8 * i + 2)))), (4, .int (nI i)), (0, .ref (mo 0)), (1, .int (nI y))] := by rw [← hbq]; exact hl
                    refine lv_iinc (v := nI (i + 1)) (lv' := [(4, .int (nI (i + 1))), (3, .int (nI (stepN (moveM G i 0) y 32))), (2, .int (bst (i + 1))), (7, .int (nI 1)), (6, .int (nI (stepN (moveM G i 0) y 32))), (5, .int (nI (G (8 * i + 2)))), (0, .ref (mo 0)), (1, .int (nI y))]) hx hb dX5_send_108 hl (k := 5) rfl (nI_add _ 1) (by decide) rfl (fun ls hl => ?_)
                    refine lv_goto (tgt := 29) hx hb dX5_send_111 (by decide) ?_
                    exact ih (i + 1) (i + 1) (stepN (moveM G i 0) y 32) (by omega) (by omega) hst2 _ _ hW _ (lv_sub hl [0, 1, 2, 6, 7] rfl)
    exact lp29 (G 40 - 0 + 1) 0 0 0 (Nat.lt_succ_self _) (by omega) rfl _ _ hW _ (lv_sub hl [0, 1, 2, 3, 4] rfl)
  · refine lv_aload_n hx hb dX5_send_11 rfl (lv_at hl 0 rfl) ?_
    refine lv_ldc (v := -1000000001) hx hb hown (hts _ (List.mem_of_getElem? (i := 1) rfl)) dX5_send_12 ?_
    refine cl_Vi (As := [.int (-1000000001)]) (rest := []) (C := RX5) ⟨hx, hb, hml, hown, hts⟩ (M_X5_finds l D cI cJ mo R F 0 (by decide) (-1000000001) (by decide +kernel)) (cwV 1 hts gX5_send_X5_finds rfl rfl rfl qX5_finds ⟨Nat.le_of_ble_eq_true rfl, Nat.le_of_ble_eq_true rfl⟩) E0_good hK hA hW trivial [true, false, false, true] (fun _ => [mH mo R, mR cI (mo 1) G, mR cI (mo 3) Wa, aI cI (mo 4) 7 (up F 0 (F 0 + 1))]) rfl (fun _ => rfl) (fun _ => rfl) 0 0 rfl rfl rfl rfl hl.1 rfl (lv_room (Nat.le_of_ble_eq_true rfl)) dX5_send_14 ⟨Nat.zero_le _, Nat.zero_le _⟩ (fun _ H locs _ hW => ?_)
    exact rt_i hQ hx hb hr hlocks hW dX5_send_17 Wa (by (try simp only [sendV]); (repeat' split) <;> first | rfl | (exfalso; omega)) trivial (by (try simp only [sendF]); (repeat' split) <;> first | rfl | (exfalso; omega))
theorem kindSt_le {b : Nat} {G : Nat → Nat} (h : OkG b G) (a n : Nat) : ∀ k, k ≤ 6 → (kindSt G a n k).1 ≤ k ∧ (kindSt G a n k).2 ≤ 1000000
  | 0, _ => ⟨Nat.le_refl _, Nat.zero_le _⟩
  | k + 1, hk => by
    have h1 := kindSt_le h a n k (by omega)
    have h2 := turned_le (h.r1 (a := a) (v := k) (by omega)) n
    show (if (kindSt G a n k).2 < stepN (up G (8 * a + 1) k) n 32 + 1 then (k, stepN (up G (8 * a + 1) k) n 32 + 1) else kindSt G a n k).1 ≤ _ ∧ (if (kindSt G a n k).2 < stepN (up G (8 * a + 1) k) n 32 + 1 then (k, stepN (up G (8 * a + 1) k) n 32 + 1) else kindSt G a n k).2 ≤ _
    split
    · exact ⟨Nat.le_succ _, Nat.succ_le_succ h2⟩
    · exact ⟨by omega, h1.2⟩
theorem weathSt_le {b : Nat} {G : Nat → Nat} (h : OkG b G) (n : Nat) : ∀ k, k ≤ 5 → (weathSt G n k).1 ≤ k ∧ (weathSt G n k).2 ≤ 1000000 := by
  intro k
  induction k with
  | zero => intro _; exact ⟨Nat.le_refl _, Nat.zero_le _⟩
  | succ k ih =>
    intro hk
    have h1 := ih (by omega)
    have h3 := turned_le h n
    have hx : ∀ r, r < 32 → ∀ k, k < 5 → (r ^^^ 1 * 2 ^ k) ≤ 31 := by decide +kernel
    have h2 := turned_le (h.s8 (v := G 8 ^^^ 1 * 2 ^ k) (hx (G 8) (by have := h.s; omega) k (by omega))) n
    have h4 : weathD G n k ≤ 999999 := by unfold weathD absD; split <;> omega
    show (if (weathSt G n k).2 < weathD G n k + 1 then (k, weathD G n k + 1) else weathSt G n k).1 ≤ _ ∧ (if (weathSt G n k).2 < weathD G n k + 1 then (k, weathD G n k + 1) else weathSt G n k).2 ≤ _
    split
    · exact ⟨Nat.le_succ _, Nat.succ_le_succ h4⟩
    · exact ⟨by omega, h1.2⟩
theorem rain_x : ∀ r, r < 32 → ∀ k, k < 5 → (r ^^^ 1 * 2 ^ k) ≤ 31 := by decide +kernel
theorem sk_or {S o lim : Nat} (F : Nat → Nat) (h : (o = 0 ∧ lim < S) ∨ (o = S + 1 ∧ S ≤ lim)) : skV S lim = orV o ∧ skF F S lim = orF F o := by
  unfold skV skF orV orF
  rcases h with ⟨h1, h2⟩ | ⟨h1, h2⟩
  · rw [if_neg (by omega), if_pos h1, if_neg (by omega), if_pos h1]; exact ⟨rfl, rfl⟩
  · rw [if_pos h2, if_neg (by omega), if_pos h2, if_neg (by omega), h1]; exact ⟨rfl, rfl⟩
theorem ab_neg {a b : Nat} (h : a ≤ b) : -(nI a - nI b) = nI (absD a b) := by
  unfold absD; rw [if_pos h, ← pk_sub h]
  rw [Int32.neg_sub]
theorem ab_pos {a b : Nat} (h : b ≤ a) : nI a - nI b = nI (absD a b) := by
  unfold absD
  by_cases q : a ≤ b
  · rw [if_pos q, show a = b by omega, Nat.sub_self, Int32.sub_self]; exact nI_0.symm
  · rw [if_neg q, pk_sub h]
abbrev rmX5_kind : Room := { frames := 8, cells := 0, slots := 0, locals := 181 }
set_option maxRecDepth 100000 in
set_option maxHeartbeats 4000000 in
theorem M_X5_kind (l : Launch) (D : va_G) (cI cJ : ClassId) (mo R G Wa F : Nat → Nat) (hG : OkG 99999 G) (v z : Int32) : CE E0 l D vwCl [(cI, .int), (cJ, .long)] yX5_kind wsX5_kind rmX5_kind [.ref (mo 0), .int v, .int z] [mH mo R, mR cI (mo 1) G, mR cI (mo 3) Wa, aI cI (mo 4) 7 F] (S := (Nat → Nat)) (some (.int (kindV G v.toInt z.toInt))) (fun _ => True) (fun Wx : Nat → Nat => [mH mo R, mR cI (mo 1) G, mR cI (mo 3) Wx, aI cI (mo 4) 7 (kindF G F v.toInt z.toInt)]) 0 0 := by
  refine CE.ofW (cc := cX5_kind) (maxL := 7) (ret := (some .int)) (lv := [(0, .ref (mo 0)), (1, .int v), (2, .int z)]) (by decide) rfl (Nat.le_of_ble_eq_true rfl) rfl ?_
  intro p e s m args below meth c ls A Q hQ hx hb hml hr hlocks hnm hown hts hK hA hE hW hl
  have hown : s.vm.findClass RX5 = some m.cls := hown
  obtain ⟨hg0, hg8, hg16, hg16b, hg24, hg32, hg40, hg48⟩ := hG.s
  refine lv_aload_n hx hb dX5_kind_0 rfl (lv_at hl 0 rfl) ?_
  refine lv_iload_n hx hb dX5_kind_1 rfl (lv_at hl 1 rfl) ?_
  refine cl_Vi (As := [.int v]) (rest := []) (C := RX5) ⟨hx, hb, hml, hown, hts⟩ (M_X5_isMother l D cI cJ mo R G 99999 (by decide) hG v) (cwV 1 hts gX5_kind_X5_isMother rfl rfl rfl qX5_isMother ⟨Nat.le_of_ble_eq_true rfl, Nat.le_of_ble_eq_true rfl⟩) E0_good hK hA hW trivial [true, true] (fun _ => [mH mo R, mR cI (mo 1) G, mR cI (mo 3) Wa, aI cI (mo 4) 7 F]) rfl (fun _ => rfl) (fun _ => rfl) 0 0 rfl rfl rfl rfl hl.1 rfl (lv_room (Nat.le_of_ble_eq_true rfl)) dX5_kind_2 ⟨Nat.zero_le _, Nat.zero_le _⟩ (fun _ H locs _ hW => ?_)
  have him_ := inN_or v (G 40)
  refine nn_zeq (tgt := 19) hx hb dX5_kind_5 (by decide) (by omega) (fun c5 => ?_) (fun c5 => ?_)
  · refine lv_aload_n hx hb dX5_kind_19 rfl (lv_at hl 0 rfl) ?_
    refine lv_ldc (v := -1000000001) hx hb hown (hts _ (List.mem_of_getElem? (i := 1) rfl)) dX5_kind_20 ?_
    refine cl_Vi (As := [.int (-1000000001)]) (rest := []) (C := RX5) ⟨hx, hb, hml, hown, hts⟩ (M_X5_finds l D cI cJ mo R F 0 (by decide) (-1000000001) (by decide +kernel)) (cwV 1 hts gX5_kind_X5_finds rfl rfl rfl qX5_finds ⟨Nat.le_of_ble_eq_true rfl, Nat.le_of_ble_eq_true rfl⟩) E0_good hK hA hW trivial [true, false, false, true] (fun _ => [mH mo R, mR cI (mo 1) G, mR cI (mo 3) Wa, aI cI (mo 4) 7 (up F 0 (F 0 + 1))]) rfl (fun _ => rfl) (fun _ => rfl) 0 0 rfl rfl rfl rfl hl.1 rfl (lv_room (Nat.le_of_ble_eq_true rfl)) dX5_kind_22 ⟨Nat.zero_le _, Nat.zero_le _⟩ (fun _ H locs _ hW => ?_)
    exact rt_i hQ hx hb hr hlocks hW dX5_kind_25 Wa (by (try simp only [kindV]); (repeat' split) <;> first | rfl | (exfalso; omega)) trivial (by (try simp only [kindF]); (repeat' split) <;> first | rfl | (exfalso; omega))
  · refine lv_iload_n hx hb dX5_kind_8 rfl (lv_at hl 2 rfl) ?_
    refine lv_i2l (v := (z).toInt64) hx hb dX5_kind_9 rfl ?_
    refine lv_iconst (v := nI 1) hx hb dX5_kind_10 (by decide +kernel) ?_
    refine lv_bipush (v := nI 60) hx hb dX5_kind_11 (by decide +kernel) ?_
    refine cl_Si (As := [.long ((z).toInt64), .int (nI 1), .int (nI 60)]) (rest := []) ⟨hx, hb, hml, hown, hts⟩ (M_X5_in2 l D cI cJ ((z).toInt64) (nI 1) (nI 60) z.toInt ((1 : Nat) : Int) ((60 : Nat) : Int) ((Int32.toInt_toInt64 _).trans rfl) (nI_toInt (n := 1) (by decide)) (nI_toInt (n := 60) (by decide))) (va_cwS 3 hts gX5_kind_X5_in rfl rfl rfl qX5_in ⟨Nat.le_of_ble_eq_true rfl, Nat.le_of_ble_eq_true rfl⟩) E0_good hK hA hW trivial [] (fun _ => [mH mo R, mR cI (mo 1) G, mR cI (mo 3) Wa, aI cI (mo 4) 7 F]) rfl (fun _ => rfl) (fun _ => rfl) rfl hl.1 rfl (lv_room (Nat.le_of_ble_eq_true rfl)) dX5_kind_13 ⟨Nat.zero_le _, Nat.zero_le _⟩ (fun _ H locs _ hW => ?_)
    have hin_ := inZ_or z.toInt ((1 : Nat) : Int) ((60 : Nat) : Int)
    refine nn_zne (tgt := 26) hx hb dX5_kind_16 (by decide) (by omega) (fun c16 => ?_) (fun c16 => ?_)
    · obtain ⟨j, hj, ej⟩ : ∃ j : Nat, v = nI j ∧ v.toInt = (j : Int) := ⟨v.toInt.toNat, nI_ofZ rfl (by omega), by omega⟩
      rw [hj] at hl
      obtain ⟨y, hy, ey⟩ : ∃ y : Nat, z = nI y ∧ z.toInt = (y : Int) := ⟨z.toInt.toNat, nI_ofZ rfl (by omega), by omega⟩
      rw [hy] at hl
      refine lv_aload_n hx hb dX5_kind_26 rfl (lv_at hl 0 rfl) ?_
      refine cl_Vv (As := []) (rest := []) (C := RX5) ⟨hx, hb, hml, hown, hts⟩ (M_X5_thinks l D cI cJ mo R G Wa ) (cwV 0 hts gX5_kind_X5_thinks rfl rfl rfl qX5_thinks ⟨Nat.le_of_ble_eq_true rfl, Nat.le_of_ble_eq_true rfl⟩) E0_good hK hA hW trivial [true, true, true] (fun _ => [mH mo R, mR cI (mo 1) G, mR cI (mo 3) G, aI cI (mo 4) 7 F]) rfl (fun _ => rfl) (fun _ => rfl) 0 0 rfl rfl rfl rfl hl.1 rfl (lv_room (Nat.le_of_ble_eq_true rfl)) dX5_kind_27 ⟨Nat.zero_le _, Nat.zero_le _⟩ (fun _ H locs _ hW => ?_)
      refine lv_iconst (v := nI 0) hx hb dX5_kind_30 (by decide +kernel) ?_
      refine lv_istore_n (lv' := [(3, .int (nI 0)), (0, .ref (mo 0)), (1, .int (nI j)), (2, .int (nI y))]) hx hb dX5_kind_31 rfl hl (by decide) rfl (fun ls hl => ?_)
      refine lv_iconst (v := -1) hx hb dX5_kind_32 (by decide +kernel) ?_
      refine lv_istore (lv' := [(4, .int (-1)), (3, .int (nI 0)), (0, .ref (mo 0)), (1, .int (nI j)), (2, .int (nI y))]) hx hb dX5_kind_33 hl (by decide) rfl (fun ls hl => ?_)
      refine lv_iconst (v := nI 0) hx hb dX5_kind_35 (by decide +kernel) ?_
      refine lv_istore (lv' := [(5, .int (nI 0)), (4, .int (-1)), (3, .int (nI 0)), (0, .ref (mo 0)), (1, .int (nI j)), (2, .int (nI y))]) hx hb dX5_kind_36 hl (by decide) rfl (fun ls hl => ?_)
      have lp38 : ∀ (n : Nat) (k : Nat) (kb : Nat) (pp : Nat), 6 - k < n → k ≤ 6 → kindSt G j y k = (kb, pp) → ∀ (H : Heap) (locs : List Loc), Wo D vwCl A s.heap H locs [mH mo R, mR cI (mo 1) G, mR cI (mo 3) G, aI cI (mo 4) 7 F] → ∀ ls : Array Slot, lv_has ls 7 [(5, .int (nI k)), (4, .int (bst pp)), (3, .int (nI kb)), (0, .ref (mo 0)), (1, .int (nI j)), (2, .int (nI y))] → W p l e rmX5_kind s m args below meth c H locs 0 0 Q (F0 m 38 ls []) := by
        intro n
        induction n with
        | zero => intro k kb pp hm; exact absurd hm (Nat.not_lt_zero _)
        | succ n ih =>
          intro k kb pp hm hi hst H locs hW ls hl
          have hstl := kindSt_le hG j y k hi
          rw [hst] at hstl
          have hstl1 : kb ≤ k ∧ pp ≤ 1000000 := hstl
          refine lv_iload hx hb dX5_kind_38 (lv_at hl 0 rfl) ?_
          refine lv_iconst (v := nI 5) hx hb dX5_kind_40 (by decide +kernel) ?_
          refine nn_cgt (tgt := 95) hx hb dX5_kind_41 (by decide) (by omega) (by decide) (fun c41 => ?_) (fun c41 => ?_)
          · have hsx : kindSt G j y 6 = (kb, pp) := by rw [← show k = 6 by omega]; exact hst
            refine lv_iload_n hx hb dX5_kind_95 rfl (lv_at hl 2 rfl) ?_
            exact rt_i hQ hx hb hr hlocks hW dX5_kind_96 G (by (try simp only [kindV, ej, ey, hsx, Int.toNat_natCast]); (repeat' split) <;> first | rfl | (exfalso; omega)) trivial (by (try simp only [kindF, ej, ey, hsx, Int.toNat_natCast]); (repeat' split) <;> first | rfl | (exfalso; omega))
          · have htl := turned_le (hG.r1 (a := j) (v := k) (by omega)) y
            refine lv_aload_n hx hb dX5_kind_44 rfl (lv_at hl 3 rfl) ?_
            refine lv_iload_n hx hb dX5_kind_45 rfl (lv_at hl 4 rfl) ?_
            refine lv_iconst (v := nI 0) hx hb dX5_kind_46 (by decide +kernel) ?_
            refine lv_iload hx hb dX5_kind_47 (lv_at hl 0 rfl) ?_
            refine cl_Vv (As := [.int (nI j), .int (nI 0), .int (nI k)]) (rest := []) (C := RX5) ⟨hx, hb, hml, hown, hts⟩ (M_X5_put l D cI cJ mo R G j 0 1 k (by omega) (by decide) rfl) (cwV 3 hts gX5_kind_X5_put rfl rfl rfl qX5_put ⟨Nat.le_of_ble_eq_true rfl, Nat.le_of_ble_eq_true rfl⟩) E0_good hK hA hW trivial [true, true] (fun _ => [mH mo R, mR cI (mo 1) (up G (8 * j + 1) k), mR cI (mo 3) G, aI cI (mo 4) 7 F]) rfl (fun _ => rfl) (fun _ => rfl) 0 0 rfl rfl rfl rfl hl.1 rfl (lv_room (Nat.le_of_ble_eq_true rfl)) dX5_kind_49 ⟨Nat.zero_le _, Nat.zero_le _⟩ (fun _ H locs _ hW => ?_)
            refine lv_aload_n hx hb dX5_kind_52 rfl (lv_at hl 3 rfl) ?_
            refine lv_iload_n hx hb dX5_kind_53 rfl (lv_at hl 5 rfl) ?_
            refine cl_Vi (As := [.int (nI y)]) (rest := []) (C := RX5) ⟨hx, hb, hml, hown, hts⟩ (M_X5_turnedOn l D cI cJ mo R (up G (8 * j + 1) k) G 99999 (by decide) (hG.r1 (a := j) (v := k) (by omega)) y (by omega)) (cwV 1 hts gX5_kind_X5_turnedOn rfl rfl rfl qX5_turnedOn ⟨Nat.le_of_ble_eq_true rfl, Nat.le_of_ble_eq_true rfl⟩) E0_good hK hA hW trivial [true, true, true] (fun _ => [mH mo R, mR cI (mo 1) G, mR cI (mo 3) G, aI cI (mo 4) 7 F]) rfl (fun _ => rfl) (fun _ => rfl) 0 0 rfl rfl rfl rfl hl.1 rfl (lv_room (Nat.le_of_ble_eq_true rfl)) dX5_kind_54 ⟨Nat.zero_le _, Nat.zero_le _⟩ (fun _ H locs _ hW => ?_)
            refine lv_istore (lv' := [(6, .int (nI (stepN (up G (8 * j + 1) k) y 32))), (5, .int (nI k)), (4, .int (bst pp)), (3, .int (nI kb)), (0, .ref (mo 0)), (1, .int (nI j)), (2, .int (nI y))]) hx hb dX5_kind_57 hl (by decide) rfl (fun ls hl => ?_)
            refine lv_iload hx hb dX5_kind_59 (lv_at hl 0 rfl) ?_
            refine lv_iload hx hb dX5_kind_61 (lv_at hl 2 rfl) ?_
            refine zz_cle (tgt := 71) hx hb dX5_kind_63 (by decide) (nI_toInt (n := stepN (up G (8 * j + 1) k) y 32) (by omega)) (bst_toInt (o := pp) (by omega)) (fun c63 => ?_) (fun c63 => ?_)
            · refine lv_iload_n hx hb dX5_kind_71 rfl (lv_at hl 3 rfl) ?_
              refine lv_istore_n (lv' := [(3, .int (nI kb)), (6, .int (nI (stepN (up G (8 * j + 1) k) y 32))), (5, .int (nI k)), (4, .int (bst pp)), (0, .ref (mo 0)), (1, .int (nI j)), (2, .int (nI y))]) hx hb dX5_kind_72 rfl hl (by decide) rfl (fun ls hl => ?_)
              refine lv_iload hx hb dX5_kind_73 (lv_at hl 1 rfl) ?_
              refine lv_iload hx hb dX5_kind_75 (lv_at hl 3 rfl) ?_
              refine zz_cle (tgt := 85) hx hb dX5_kind_77 (by decide) (nI_toInt (n := stepN (up G (8 * j + 1) k) y 32) (by omega)) (bst_toInt (o := pp) (by omega)) (fun c77 => ?_) (fun c77 => ?_)
              · refine lv_iload hx hb dX5_kind_85 (lv_at hl 3 rfl) ?_
                refine lv_istore (lv' := [(4, .int (bst pp)), (3, .int (nI kb)), (6, .int (nI (stepN (up G (8 * j + 1) k) y 32))), (5, .int (nI k)), (0, .ref (mo 0)), (1, .int (nI j)), (2, .int (nI y))]) hx hb dX5_kind_87 hl (by decide) rfl (fun ls hl => ?_)
                have hst2 : kindSt G j y (k + 1) = (kb, pp) := by
                  show (if (kindSt G j y k).2 < stepN (up G (8 * j + 1) k) y 32 + 1 then (k, stepN (up G (8 * j + 1) k) y 32 + 1) else kindSt G j y k) = _
                  rw [hst, if_neg (by show ¬ pp < _; omega)]
                refine lv_iinc (v := nI (k + 1)) (lv' := [(5, .int (nI (k + 1))), (4, .int (bst pp)), (3, .int (nI kb)), (6, .int (nI (stepN (up G (8 * j + 1) k) y 32))), (0, .ref (mo 0)), (1, .int (nI j)), (2, .int (nI y))]) hx hb dX5_kind_89 hl (k := 3) rfl (nI_add _ 1) (by decide) rfl (fun ls hl => ?_)
                refine lv_goto (tgt := 38) hx hb dX5_kind_92 (by decide) ?_
                exact ih (k + 1) kb pp (by omega) (by omega) hst2 _ _ hW _ (lv_sub hl [0, 1, 2, 4, 5, 6] rfl)
              · exfalso; omega
            · refine lv_iload hx hb dX5_kind_66 (lv_at hl 1 rfl) ?_
              refine lv_goto (tgt := 72) hx hb dX5_kind_68 (by decide) ?_
              refine lv_istore_n (lv' := [(3, .int (nI k)), (6, .int (nI (stepN (up G (8 * j + 1) k) y 32))), (5, .int (nI k)), (4, .int (bst pp)), (0, .ref (mo 0)), (1, .int (nI j)), (2, .int (nI y))]) hx hb dX5_kind_72 rfl hl (by decide) rfl (fun ls hl => ?_)
              refine lv_iload hx hb dX5_kind_73 (lv_at hl 1 rfl) ?_
              refine lv_iload hx hb dX5_kind_75 (lv_at hl 3 rfl) ?_
              refine zz_cle (tgt := 85) hx hb dX5_kind_77 (by decide) (nI_toInt (n := stepN (up G (8 * j + 1) k) y 32) (by omega)) (bst_toInt (o := pp) (by omega)) (fun c77_1 => ?_) (fun c77_1 => ?_)
              · exfalso; omega
              · refine lv_iload hx hb dX5_kind_80 (lv_at hl 1 rfl) ?_
                refine lv_goto (tgt := 87) hx hb dX5_kind_82 (by decide) ?_
                refine lv_istore (lv' := [(4, .int (nI (stepN (up G (8 * j + 1) k) y 32))), (3, .int (nI k)), (6, .int (nI (stepN (up G (8 * j + 1) k) y 32))), (5, .int (nI k)), (0, .ref (mo 0)), (1, .int (nI j)), (2, .int (nI y))]) hx hb dX5_kind_87 hl (by decide) rfl (fun ls hl => ?_)
                have hst2 : kindSt G j y (k + 1) = (k, stepN (up G (8 * j + 1) k) y 32 + 1) := by
                  show (if (kindSt G j y k).2 < stepN (up G (8 * j + 1) k) y 32 + 1 then (k, stepN (up G (8 * j + 1) k) y 32 + 1) else kindSt G j y k) = _
                  rw [hst, if_pos (by show pp < _; omega)]
                have hb1 : nI (stepN (up G (8 * j + 1) k) y 32) = bst (stepN (up G (8 * j + 1) k) y 32 + 1) := (if_neg (Nat.succ_ne_zero _)).symm
                have hl : lv_has ls 7 [(4, .int (bst (stepN (up G (8 * j + 1) k) y 32 + 1))), (3, .int (nI k)), (6, .int (nI (stepN (up G (8 * j + 1) k) y 32))), (5, .int (nI k)), (0, .ref (mo 0)), (1, .int (nI j)), (2, .int (nI y))] := by rw [← hb1]; exact hl
                refine lv_iinc (v := nI (k + 1)) (lv' := [(5, .int (nI (k + 1))), (4, .int (bst (stepN (up G (8 * j + 1) k) y 32 + 1))), (3, .int (nI k)), (6, .int (nI (stepN (up G (8 * j + 1) k) y 32))), (0, .ref (mo 0)), (1, .int (nI j)), (2, .int (nI y))]) hx hb dX5_kind_89 hl (k := 3) rfl (nI_add _ 1) (by decide) rfl (fun ls hl => ?_)
                refine lv_goto (tgt := 38) hx hb dX5_kind_92 (by decide) ?_
                exact ih (k + 1) k (stepN (up G (8 * j + 1) k) y 32 + 1) (by omega) (by omega) hst2 _ _ hW _ (lv_sub hl [0, 1, 2, 4, 5, 6] rfl)
      exact lp38 (6 - 0 + 1) 0 0 0 (Nat.lt_succ_self _) (by omega) rfl _ _ hW _ (lv_sub hl [0, 1, 2, 3, 4, 5] rfl)
    · refine lv_aload_n hx hb dX5_kind_19 rfl (lv_at hl 0 rfl) ?_
      refine lv_ldc (v := -1000000001) hx hb hown (hts _ (List.mem_of_getElem? (i := 1) rfl)) dX5_kind_20 ?_
      refine cl_Vi (As := [.int (-1000000001)]) (rest := []) (C := RX5) ⟨hx, hb, hml, hown, hts⟩ (M_X5_finds l D cI cJ mo R F 0 (by decide) (-1000000001) (by decide +kernel)) (cwV 1 hts gX5_kind_X5_finds rfl rfl rfl qX5_finds ⟨Nat.le_of_ble_eq_true rfl, Nat.le_of_ble_eq_true rfl⟩) E0_good hK hA hW trivial [true, false, false, true] (fun _ => [mH mo R, mR cI (mo 1) G, mR cI (mo 3) Wa, aI cI (mo 4) 7 (up F 0 (F 0 + 1))]) rfl (fun _ => rfl) (fun _ => rfl) 0 0 rfl rfl rfl rfl hl.1 rfl (lv_room (Nat.le_of_ble_eq_true rfl)) dX5_kind_22 ⟨Nat.zero_le _, Nat.zero_le _⟩ (fun _ H locs _ hW => ?_)
      exact rt_i hQ hx hb hr hlocks hW dX5_kind_25 Wa (by (try simp only [kindV]); (repeat' split) <;> first | rfl | (exfalso; omega)) trivial (by (try simp only [kindF]); (repeat' split) <;> first | rfl | (exfalso; omega))
abbrev rmX5_firm : Room := { frames := 7, cells := 0, slots := 0, locals := 159 }
set_option maxRecDepth 100000 in
set_option maxHeartbeats 4000000 in
theorem M_X5_firm (l : Launch) (D : va_G) (cI cJ : ClassId) (mo R G Wa F : Nat → Nat) (hG : OkG 99999 G) (v z : Int32) : CE E0 l D vwCl [(cI, .int), (cJ, .long)] yX5_firm wsX5_firm rmX5_firm [.ref (mo 0), .int v, .int z] [mH mo R, mR cI (mo 1) G, mR cI (mo 3) Wa, aI cI (mo 4) 7 F] (S := (Nat → Nat)) (some (.int (firmV G v.toInt z.toInt))) (fun _ => True) (fun Wx : Nat → Nat => [mH mo R, mR cI (mo 1) G, mR cI (mo 3) Wx, aI cI (mo 4) 7 (firmF G F v.toInt z.toInt)]) 0 0 := by
  refine CE.ofW (cc := cX5_firm) (maxL := 6) (ret := (some .int)) (lv := [(0, .ref (mo 0)), (1, .int v), (2, .int z)]) (by decide) rfl (Nat.le_of_ble_eq_true rfl) rfl ?_
  intro p e s m args below meth c ls A Q hQ hx hb hml hr hlocks hnm hown hts hK hA hE hW hl
  have hown : s.vm.findClass RX5 = some m.cls := hown
  obtain ⟨hg0, hg8, hg16, hg16b, hg24, hg32, hg40, hg48⟩ := hG.s
  refine lv_aload_n hx hb dX5_firm_0 rfl (lv_at hl 0 rfl) ?_
  refine lv_iload_n hx hb dX5_firm_1 rfl (lv_at hl 1 rfl) ?_
  refine cl_Vi (As := [.int v]) (rest := []) (C := RX5) ⟨hx, hb, hml, hown, hts⟩ (M_X5_isChild l D cI cJ mo R G 99999 (by decide) hG v) (cwV 1 hts gX5_firm_X5_isChild rfl rfl rfl qX5_isChild ⟨Nat.le_of_ble_eq_true rfl, Nat.le_of_ble_eq_true rfl⟩) E0_good hK hA hW trivial [true, true] (fun _ => [mH mo R, mR cI (mo 1) G, mR cI (mo 3) Wa, aI cI (mo 4) 7 F]) rfl (fun _ => rfl) (fun _ => rfl) 0 0 rfl rfl rfl rfl hl.1 rfl (lv_room (Nat.le_of_ble_eq_true rfl)) dX5_firm_2 ⟨Nat.zero_le _, Nat.zero_le _⟩ (fun _ H locs _ hW => ?_)
  have him_ := inN_or v (G 48)
  refine nn_zeq (tgt := 19) hx hb dX5_firm_5 (by decide) (by omega) (fun c5 => ?_) (fun c5 => ?_)
  · refine lv_aload_n hx hb dX5_firm_19 rfl (lv_at hl 0 rfl) ?_
    refine lv_ldc (v := -1000000001) hx hb hown (hts _ (List.mem_of_getElem? (i := 1) rfl)) dX5_firm_20 ?_
    refine cl_Vi (As := [.int (-1000000001)]) (rest := []) (C := RX5) ⟨hx, hb, hml, hown, hts⟩ (M_X5_finds l D cI cJ mo R F 0 (by decide) (-1000000001) (by decide +kernel)) (cwV 1 hts gX5_firm_X5_finds rfl rfl rfl qX5_finds ⟨Nat.le_of_ble_eq_true rfl, Nat.le_of_ble_eq_true rfl⟩) E0_good hK hA hW trivial [true, false, false, true] (fun _ => [mH mo R, mR cI (mo 1) G, mR cI (mo 3) Wa, aI cI (mo 4) 7 (up F 0 (F 0 + 1))]) rfl (fun _ => rfl) (fun _ => rfl) 0 0 rfl rfl rfl rfl hl.1 rfl (lv_room (Nat.le_of_ble_eq_true rfl)) dX5_firm_22 ⟨Nat.zero_le _, Nat.zero_le _⟩ (fun _ H locs _ hW => ?_)
    exact rt_i hQ hx hb hr hlocks hW dX5_firm_25 Wa (by (try simp only [firmV]); (repeat' split) <;> first | rfl | (exfalso; omega)) trivial (by (try simp only [firmF]); (repeat' split) <;> first | rfl | (exfalso; omega))
  · refine lv_iload_n hx hb dX5_firm_8 rfl (lv_at hl 2 rfl) ?_
    refine lv_i2l (v := (z).toInt64) hx hb dX5_firm_9 rfl ?_
    refine lv_iconst (v := nI 1) hx hb dX5_firm_10 (by decide +kernel) ?_
    refine lv_bipush (v := nI 60) hx hb dX5_firm_11 (by decide +kernel) ?_
    refine cl_Si (As := [.long ((z).toInt64), .int (nI 1), .int (nI 60)]) (rest := []) ⟨hx, hb, hml, hown, hts⟩ (M_X5_in2 l D cI cJ ((z).toInt64) (nI 1) (nI 60) z.toInt ((1 : Nat) : Int) ((60 : Nat) : Int) ((Int32.toInt_toInt64 _).trans rfl) (nI_toInt (n := 1) (by decide)) (nI_toInt (n := 60) (by decide))) (va_cwS 3 hts gX5_firm_X5_in rfl rfl rfl qX5_in ⟨Nat.le_of_ble_eq_true rfl, Nat.le_of_ble_eq_true rfl⟩) E0_good hK hA hW trivial [] (fun _ => [mH mo R, mR cI (mo 1) G, mR cI (mo 3) Wa, aI cI (mo 4) 7 F]) rfl (fun _ => rfl) (fun _ => rfl) rfl hl.1 rfl (lv_room (Nat.le_of_ble_eq_true rfl)) dX5_firm_13 ⟨Nat.zero_le _, Nat.zero_le _⟩ (fun _ H locs _ hW => ?_)
    have hin_ := inZ_or z.toInt ((1 : Nat) : Int) ((60 : Nat) : Int)
    refine nn_zne (tgt := 26) hx hb dX5_firm_16 (by decide) (by omega) (fun c16 => ?_) (fun c16 => ?_)
    · obtain ⟨j, hj, ej⟩ : ∃ j : Nat, v = nI j ∧ v.toInt = (j : Int) := ⟨v.toInt.toNat, nI_ofZ rfl (by omega), by omega⟩
      rw [hj] at hl
      obtain ⟨y, hy, ey⟩ : ∃ y : Nat, z = nI y ∧ z.toInt = (y : Int) := ⟨z.toInt.toNat, nI_ofZ rfl (by omega), by omega⟩
      rw [hy] at hl
      have hcj := hG.c j (by omega)
      refine lv_aload_n hx hb dX5_firm_26 rfl (lv_at hl 0 rfl) ?_
      refine cl_Vv (As := []) (rest := []) (C := RX5) ⟨hx, hb, hml, hown, hts⟩ (M_X5_thinks l D cI cJ mo R G Wa ) (cwV 0 hts gX5_firm_X5_thinks rfl rfl rfl qX5_thinks ⟨Nat.le_of_ble_eq_true rfl, Nat.le_of_ble_eq_true rfl⟩) E0_good hK hA hW trivial [true, true, true] (fun _ => [mH mo R, mR cI (mo 1) G, mR cI (mo 3) G, aI cI (mo 4) 7 F]) rfl (fun _ => rfl) (fun _ => rfl) 0 0 rfl rfl rfl rfl hl.1 rfl (lv_room (Nat.le_of_ble_eq_true rfl)) dX5_firm_27 ⟨Nat.zero_le _, Nat.zero_le _⟩ (fun _ H locs _ hW => ?_)
      refine lv_aload_n hx hb dX5_firm_30 rfl (lv_at hl 0 rfl) ?_
      refine lv_iload_n hx hb dX5_firm_31 rfl (lv_at hl 1 rfl) ?_
      refine lv_iconst (v := nI 2) hx hb dX5_firm_32 (by decide +kernel) ?_
      refine cl_Vi (As := [.int (nI j), .int (nI 2)]) (rest := []) (C := RX5) ⟨hx, hb, hml, hown, hts⟩ (M_X5_about l D cI cJ mo R G j 2 7 (by omega) (by decide) rfl) (cwV 2 hts gX5_firm_X5_about rfl rfl rfl qX5_about ⟨Nat.le_of_ble_eq_true rfl, Nat.le_of_ble_eq_true rfl⟩) E0_good hK hA hW trivial [true, true] (fun _ => [mH mo R, mR cI (mo 1) G, mR cI (mo 3) G, aI cI (mo 4) 7 F]) rfl (fun _ => rfl) (fun _ => rfl) 0 0 rfl rfl rfl rfl hl.1 rfl (lv_room (Nat.le_of_ble_eq_true rfl)) dX5_firm_33 ⟨Nat.zero_le _, Nat.zero_le _⟩ (fun _ H locs _ hW => ?_)
      refine lv_istore_n (lv' := [(3, .int (nI (G (8 * j + 7)))), (0, .ref (mo 0)), (1, .int (nI j)), (2, .int (nI y))]) hx hb dX5_firm_36 rfl hl (by decide) rfl (fun ls hl => ?_)
      refine lv_iconst (v := -1) hx hb dX5_firm_37 (by decide +kernel) ?_
      refine lv_istore (lv' := [(4, .int (-1)), (3, .int (nI (G (8 * j + 7)))), (0, .ref (mo 0)), (1, .int (nI j)), (2, .int (nI y))]) hx hb dX5_firm_38 hl (by decide) rfl (fun ls hl => ?_)
      refine lv_iconst (v := nI 0) hx hb dX5_firm_40 (by decide +kernel) ?_
      refine lv_istore (lv' := [(5, .int (nI 0)), (4, .int (-1)), (3, .int (nI (G (8 * j + 7)))), (0, .ref (mo 0)), (1, .int (nI j)), (2, .int (nI y))]) hx hb dX5_firm_41 hl (by decide) rfl (fun ls hl => ?_)
      have lp43 : ∀ (n : Nat) (i : Nat) (o : Nat), 201 - i < n → 0 ≤ i ∧ i ≤ 201 → (o = 0 ∧ seek (fun g => decide (stepN (up G (8 * j + 5) g) y (8 * j + 7) = G (8 * j + 7))) (201 - i) i = seek (fun g => decide (stepN (up G (8 * j + 5) g) y (8 * j + 7) = G (8 * j + 7))) (201 - 0) 0) ∨ (o = i ∧ 0 < i ∧ seek (fun g => decide (stepN (up G (8 * j + 5) g) y (8 * j + 7) = G (8 * j + 7))) (201 - 0) 0 = i - 1) → ∀ (H : Heap) (locs : List Loc), Wo D vwCl A s.heap H locs [mH mo R, mR cI (mo 1) G, mR cI (mo 3) G, aI cI (mo 4) 7 F] → ∀ ls : Array Slot, lv_has ls 6 [(5, .int (nI i)), (4, .int (bst o)), (3, .int (nI (G (8 * j + 7)))), (0, .ref (mo 0)), (1, .int (nI j)), (2, .int (nI y))] → W p l e rmX5_firm s m args below meth c H locs 0 0 Q (F0 m 43 ls []) := by
        intro n
        induction n with
        | zero => intro i o hm; exact absurd hm (Nat.not_lt_zero _)
        | succ n ih =>
          intro i o hm hi hsk H locs hW ls hl
          refine lv_iload hx hb dX5_firm_43 (lv_at hl 0 rfl) ?_
          refine lv_sipush (v := nI 200) hx hb dX5_firm_45 (by decide +kernel) ?_
          refine nn_cgt (tgt := 97) hx hb dX5_firm_48 (by decide) (by omega) (by decide) (fun c48 => ?_) (fun c48 => ?_)
          · have hse := fun q => seek_e (fun g => decide (stepN (up G (8 * j + 5) g) y (8 * j + 7) = G (8 * j + 7))) (e := 201) (i := i) q
            have hsx : skV (firmR G j y) 200 = orV o ∧ skF F (firmR G j y) 200 = orF F o := sk_or F (show (o = 0 ∧ 200 < seek (fun g => decide (stepN (up G (8 * j + 5) g) y (8 * j + 7) = G (8 * j + 7))) (201 - 0) 0) ∨ (o = seek (fun g => decide (stepN (up G (8 * j + 5) g) y (8 * j + 7) = G (8 * j + 7))) (201 - 0) 0 + 1 ∧ seek (fun g => decide (stepN (up G (8 * j + 5) g) y (8 * j + 7) = G (8 * j + 7))) (201 - 0) 0 ≤ 200) by rcases hsk with ⟨q, q2⟩ | ⟨q, q2, q3⟩ <;> first | omega | (have := hse (by omega); omega))
            refine lv_aload_n hx hb dX5_firm_97 rfl (lv_at hl 3 rfl) ?_
            refine lv_iload hx hb dX5_firm_98 (lv_at hl 1 rfl) ?_
            refine cl_Vi (As := [.int (bst o)]) (rest := []) (C := RX5) ⟨hx, hb, hml, hown, hts⟩ (M_X5_orNone l D cI cJ mo R F o (by omega)) (cwV 1 hts gX5_firm_X5_orNone rfl rfl rfl qX5_orNone ⟨Nat.le_of_ble_eq_true rfl, Nat.le_of_ble_eq_true rfl⟩) E0_good hK hA hW trivial [true, false, false, true] (fun _ => [mH mo R, mR cI (mo 1) G, mR cI (mo 3) G, aI cI (mo 4) 7 (orF F o)]) rfl (fun _ => rfl) (fun _ => rfl) 0 0 rfl rfl rfl rfl hl.1 rfl (lv_room (Nat.le_of_ble_eq_true rfl)) dX5_firm_100 ⟨Nat.zero_le _, Nat.zero_le _⟩ (fun _ H locs _ hW => ?_)
            exact rt_i hQ hx hb hr hlocks hW dX5_firm_103 G (by (try simp only [firmV, ej, ey, hsx.1, hsx.2, Int.toNat_natCast]); (repeat' split) <;> first | rfl | (exfalso; omega)) trivial (by (try simp only [firmF, ej, ey, hsx.1, hsx.2, Int.toNat_natCast]); (repeat' split) <;> first | rfl | (exfalso; omega))
          · refine lv_iload hx hb dX5_firm_51 (lv_at hl 1 rfl) ?_
            refine zz_zge (tgt := 97) hx hb dX5_firm_53 (by decide) (bst_toInt (o := o) (by omega)) (fun c53 => ?_) (fun c53 => ?_)
            · have hse := fun q => seek_e (fun g => decide (stepN (up G (8 * j + 5) g) y (8 * j + 7) = G (8 * j + 7))) (e := 201) (i := i) q
              have hsx : skV (firmR G j y) 200 = orV o ∧ skF F (firmR G j y) 200 = orF F o := sk_or F (show (o = 0 ∧ 200 < seek (fun g => decide (stepN (up G (8 * j + 5) g) y (8 * j + 7) = G (8 * j + 7))) (201 - 0) 0) ∨ (o = seek (fun g => decide (stepN (up G (8 * j + 5) g) y (8 * j + 7) = G (8 * j + 7))) (201 - 0) 0 + 1 ∧ seek (fun g => decide (stepN (up G (8 * j + 5) g) y (8 * j + 7) = G (8 * j + 7))) (201 - 0) 0 ≤ 200) by rcases hsk with ⟨q, q2⟩ | ⟨q, q2, q3⟩ <;> first | omega | (have := hse (by omega); omega))
              refine lv_aload_n hx hb dX5_firm_97 rfl (lv_at hl 3 rfl) ?_
              refine lv_iload hx hb dX5_firm_98 (lv_at hl 1 rfl) ?_
              refine cl_Vi (As := [.int (bst o)]) (rest := []) (C := RX5) ⟨hx, hb, hml, hown, hts⟩ (M_X5_orNone l D cI cJ mo R F o (by omega)) (cwV 1 hts gX5_firm_X5_orNone rfl rfl rfl qX5_orNone ⟨Nat.le_of_ble_eq_true rfl, Nat.le_of_ble_eq_true rfl⟩) E0_good hK hA hW trivial [true, false, false, true] (fun _ => [mH mo R, mR cI (mo 1) G, mR cI (mo 3) G, aI cI (mo 4) 7 (orF F o)]) rfl (fun _ => rfl) (fun _ => rfl) 0 0 rfl rfl rfl rfl hl.1 rfl (lv_room (Nat.le_of_ble_eq_true rfl)) dX5_firm_100 ⟨Nat.zero_le _, Nat.zero_le _⟩ (fun _ H locs _ hW => ?_)
              exact rt_i hQ hx hb hr hlocks hW dX5_firm_103 G (by (try simp only [firmV, ej, ey, hsx.1, hsx.2, Int.toNat_natCast]); (repeat' split) <;> first | rfl | (exfalso; omega)) trivial (by (try simp only [firmF, ej, ey, hsx.1, hsx.2, Int.toNat_natCast]); (repeat' split) <;> first | rfl | (exfalso; omega))
            · have hst9 := (stepN_ok (hG.r5 (a := j) (v := i) (by omega)) y).c j (by omega)
              refine lv_aload_n hx hb dX5_firm_56 rfl (lv_at hl 3 rfl) ?_
              refine lv_iload_n hx hb dX5_firm_57 rfl (lv_at hl 4 rfl) ?_
              refine lv_iconst (v := nI 0) hx hb dX5_firm_58 (by decide +kernel) ?_
              refine lv_iload hx hb dX5_firm_59 (lv_at hl 0 rfl) ?_
              refine cl_Vv (As := [.int (nI j), .int (nI 0), .int (nI i)]) (rest := []) (C := RX5) ⟨hx, hb, hml, hown, hts⟩ (M_X5_lets l D cI cJ mo R G j 0 5 i (by omega) (by decide) rfl) (cwV 3 hts gX5_firm_X5_lets rfl rfl rfl qX5_lets ⟨Nat.le_of_ble_eq_true rfl, Nat.le_of_ble_eq_true rfl⟩) E0_good hK hA hW trivial [true, true] (fun _ => [mH mo R, mR cI (mo 1) (up G (8 * j + 5) i), mR cI (mo 3) G, aI cI (mo 4) 7 F]) rfl (fun _ => rfl) (fun _ => rfl) 0 0 rfl rfl rfl rfl hl.1 rfl (lv_room (Nat.le_of_ble_eq_true rfl)) dX5_firm_61 ⟨Nat.zero_le _, Nat.zero_le _⟩ (fun _ H locs _ hW => ?_)
              refine lv_aload_n hx hb dX5_firm_64 rfl (lv_at hl 3 rfl) ?_
              refine lv_iload_n hx hb dX5_firm_65 rfl (lv_at hl 5 rfl) ?_
              refine cl_Vv (As := [.int (nI y)]) (rest := []) (C := RX5) ⟨hx, hb, hml, hown, hts⟩ (M_X5_goesFor l D cI cJ mo R (up G (8 * j + 5) i) 99999 (by decide) (hG.r5 (a := j) (v := i) (by omega)) y (by omega)) (cwV 1 hts gX5_firm_X5_goesFor rfl rfl rfl qX5_goesFor ⟨Nat.le_of_ble_eq_true rfl, Nat.le_of_ble_eq_true rfl⟩) E0_good hK hA hW trivial [true, true] (fun _ => [mH mo R, mR cI (mo 1) (stepN (up G (8 * j + 5) i) y), mR cI (mo 3) G, aI cI (mo 4) 7 F]) rfl (fun _ => rfl) (fun _ => rfl) 0 0 rfl rfl rfl rfl hl.1 rfl (lv_room (Nat.le_of_ble_eq_true rfl)) dX5_firm_66 ⟨Nat.zero_le _, Nat.zero_le _⟩ (fun _ H locs _ hW => ?_)
              refine lv_aload_n hx hb dX5_firm_69 rfl (lv_at hl 3 rfl) ?_
              refine lv_iload_n hx hb dX5_firm_70 rfl (lv_at hl 4 rfl) ?_
              refine lv_iconst (v := nI 2) hx hb dX5_firm_71 (by decide +kernel) ?_
              refine cl_Vi (As := [.int (nI j), .int (nI 2)]) (rest := []) (C := RX5) ⟨hx, hb, hml, hown, hts⟩ (M_X5_about l D cI cJ mo R (stepN (up G (8 * j + 5) i) y) j 2 7 (by omega) (by decide) rfl) (cwV 2 hts gX5_firm_X5_about rfl rfl rfl qX5_about ⟨Nat.le_of_ble_eq_true rfl, Nat.le_of_ble_eq_true rfl⟩) E0_good hK hA hW trivial [true, true] (fun _ => [mH mo R, mR cI (mo 1) (stepN (up G (8 * j + 5) i) y), mR cI (mo 3) G, aI cI (mo 4) 7 F]) rfl (fun _ => rfl) (fun _ => rfl) 0 0 rfl rfl rfl rfl hl.1 rfl (lv_room (Nat.le_of_ble_eq_true rfl)) dX5_firm_72 ⟨Nat.zero_le _, Nat.zero_le _⟩ (fun _ H locs _ hW => ?_)
              refine lv_iload_n hx hb dX5_firm_75 rfl (lv_at hl 2 rfl) ?_
              refine nn_cne (tgt := 84) hx hb dX5_firm_76 (by decide) (by omega) (by omega) (fun c76 => ?_) (fun c76 => ?_)
              · refine lv_iconst (v := -1) hx hb dX5_firm_84 (by decide +kernel) ?_
                refine lv_istore (lv' := [(4, .int (-1)), (5, .int (nI i)), (3, .int (nI (G (8 * j + 7)))), (0, .ref (mo 0)), (1, .int (nI j)), (2, .int (nI y))]) hx hb dX5_firm_85 hl (by decide) rfl (fun ls hl => ?_)
                refine lv_aload_n hx hb dX5_firm_87 rfl (lv_at hl 3 rfl) ?_
                refine cl_Vv (As := []) (rest := []) (C := RX5) ⟨hx, hb, hml, hown, hts⟩ (M_X5_putsBack l D cI cJ mo R (stepN (up G (8 * j + 5) i) y) G ) (cwV 0 hts gX5_firm_X5_putsBack rfl rfl rfl qX5_putsBack ⟨Nat.le_of_ble_eq_true rfl, Nat.le_of_ble_eq_true rfl⟩) E0_good hK hA hW trivial [true, true, true] (fun _ => [mH mo R, mR cI (mo 1) G, mR cI (mo 3) G, aI cI (mo 4) 7 F]) rfl (fun _ => rfl) (fun _ => rfl) 0 0 rfl rfl rfl rfl hl.1 rfl (lv_room (Nat.le_of_ble_eq_true rfl)) dX5_firm_88 ⟨Nat.zero_le _, Nat.zero_le _⟩ (fun _ H locs _ hW => ?_)
                have hsk0 : seek (fun g => decide (stepN (up G (8 * j + 5) g) y (8 * j + 7) = G (8 * j + 7))) (201 - i) i = seek (fun g => decide (stepN (up G (8 * j + 5) g) y (8 * j + 7) = G (8 * j + 7))) (201 - 0) 0 := by rcases hsk with ⟨_, q⟩ | ⟨q, q2, _⟩ <;> first | exact q | omega
                have hb1 : (-1) = bst 0 := rfl
                have hl : lv_has ls 6 [(4, .int (bst 0)), (5, .int (nI i)), (3, .int (nI (G (8 * j + 7)))), (0, .ref (mo 0)), (1, .int (nI j)), (2, .int (nI y))] := by rw [← hb1]; exact hl
                refine lv_iinc (v := nI (i + 1)) (lv' := [(5, .int (nI (i + 1))), (4, .int (bst 0)), (3, .int (nI (G (8 * j + 7)))), (0, .ref (mo 0)), (1, .int (nI j)), (2, .int (nI y))]) hx hb dX5_firm_91 hl (k := 1) rfl (nI_add _ 1) (by decide) rfl (fun ls hl => ?_)
                refine lv_goto (tgt := 43) hx hb dX5_firm_94 (by decide) ?_
                exact ih (i + 1) 0 (by omega) (by omega) (Or.inl ⟨rfl, (seek_f (p := (fun g => decide (stepN (up G (8 * j + 5) g) y (8 * j + 7) = G (8 * j + 7)))) (e := 201) (i := i) (by omega) (decide_eq_false (by omega))).symm.trans hsk0⟩) _ _ hW _ (lv_sub hl [0, 1, 2, 3, 4, 5] rfl)
              · refine lv_iload hx hb dX5_firm_79 (lv_at hl 0 rfl) ?_
                refine lv_goto (tgt := 85) hx hb dX5_firm_81 (by decide) ?_
                refine lv_istore (lv' := [(4, .int (nI i)), (5, .int (nI i)), (3, .int (nI (G (8 * j + 7)))), (0, .ref (mo 0)), (1, .int (nI j)), (2, .int (nI y))]) hx hb dX5_firm_85 hl (by decide) rfl (fun ls hl => ?_)
                refine lv_aload_n hx hb dX5_firm_87 rfl (lv_at hl 3 rfl) ?_
                refine cl_Vv (As := []) (rest := []) (C := RX5) ⟨hx, hb, hml, hown, hts⟩ (M_X5_putsBack l D cI cJ mo R (stepN (up G (8 * j + 5) i) y) G ) (cwV 0 hts gX5_firm_X5_putsBack rfl rfl rfl qX5_putsBack ⟨Nat.le_of_ble_eq_true rfl, Nat.le_of_ble_eq_true rfl⟩) E0_good hK hA hW trivial [true, true, true] (fun _ => [mH mo R, mR cI (mo 1) G, mR cI (mo 3) G, aI cI (mo 4) 7 F]) rfl (fun _ => rfl) (fun _ => rfl) 0 0 rfl rfl rfl rfl hl.1 rfl (lv_room (Nat.le_of_ble_eq_true rfl)) dX5_firm_88 ⟨Nat.zero_le _, Nat.zero_le _⟩ (fun _ H locs _ hW => ?_)
                have hsk0 : seek (fun g => decide (stepN (up G (8 * j + 5) g) y (8 * j + 7) = G (8 * j + 7))) (201 - i) i = seek (fun g => decide (stepN (up G (8 * j + 5) g) y (8 * j + 7) = G (8 * j + 7))) (201 - 0) 0 := by rcases hsk with ⟨_, q⟩ | ⟨q, q2, _⟩ <;> first | exact q | omega
                have hb2 : nI i = bst (i + 1) := (if_neg (Nat.succ_ne_zero _)).symm
                have hl : lv_has ls 6 [(4, .int (bst (i + 1))), (5, .int (nI i)), (3, .int (nI (G (8 * j + 7)))), (0, .ref (mo 0)), (1, .int (nI j)), (2, .int (nI y))] := by rw [← hb2]; exact hl
                refine lv_iinc (v := nI (i + 1)) (lv' := [(5, .int (nI (i + 1))), (4, .int (bst (i + 1))), (3, .int (nI (G (8 * j + 7)))), (0, .ref (mo 0)), (1, .int (nI j)), (2, .int (nI y))]) hx hb dX5_firm_91 hl (k := 1) rfl (nI_add _ 1) (by decide) rfl (fun ls hl => ?_)
                refine lv_goto (tgt := 43) hx hb dX5_firm_94 (by decide) ?_
                exact ih (i + 1) (i + 1) (by omega) (by omega) (Or.inr ⟨rfl, by omega, by rw [← hsk0, seek_t (p := (fun g => decide (stepN (up G (8 * j + 5) g) y (8 * j + 7) = G (8 * j + 7)))) (e := 201) (i := i) (by omega) (decide_eq_true (by omega))]; omega⟩) _ _ hW _ (lv_sub hl [0, 1, 2, 3, 4, 5] rfl)
      exact lp43 (201 - 0 + 1) 0 0 (Nat.lt_succ_self _) (by omega) (Or.inl ⟨rfl, rfl⟩) _ _ hW _ (lv_sub hl [0, 1, 2, 3, 4, 5] rfl)
    · refine lv_aload_n hx hb dX5_firm_19 rfl (lv_at hl 0 rfl) ?_
      refine lv_ldc (v := -1000000001) hx hb hown (hts _ (List.mem_of_getElem? (i := 1) rfl)) dX5_firm_20 ?_
      refine cl_Vi (As := [.int (-1000000001)]) (rest := []) (C := RX5) ⟨hx, hb, hml, hown, hts⟩ (M_X5_finds l D cI cJ mo R F 0 (by decide) (-1000000001) (by decide +kernel)) (cwV 1 hts gX5_firm_X5_finds rfl rfl rfl qX5_finds ⟨Nat.le_of_ble_eq_true rfl, Nat.le_of_ble_eq_true rfl⟩) E0_good hK hA hW trivial [true, false, false, true] (fun _ => [mH mo R, mR cI (mo 1) G, mR cI (mo 3) Wa, aI cI (mo 4) 7 (up F 0 (F 0 + 1))]) rfl (fun _ => rfl) (fun _ => rfl) 0 0 rfl rfl rfl rfl hl.1 rfl (lv_room (Nat.le_of_ble_eq_true rfl)) dX5_firm_22 ⟨Nat.zero_le _, Nat.zero_le _⟩ (fun _ H locs _ hW => ?_)
      exact rt_i hQ hx hb hr hlocks hW dX5_firm_25 Wa (by (try simp only [firmV]); (repeat' split) <;> first | rfl | (exfalso; omega)) trivial (by (try simp only [firmF]); (repeat' split) <;> first | rfl | (exfalso; omega))
abbrev rmX5_heavy : Room := { frames := 7, cells := 0, slots := 0, locals := 159 }
set_option maxRecDepth 100000 in
set_option maxHeartbeats 4000000 in
theorem M_X5_heavy (l : Launch) (D : va_G) (cI cJ : ClassId) (mo R G Wa F : Nat → Nat) (hG : OkG 99999 G) (z : Int32) : CE E0 l D vwCl [(cI, .int), (cJ, .long)] yX5_heavy wsX5_heavy rmX5_heavy [.ref (mo 0), .int z] [mH mo R, mR cI (mo 1) G, mR cI (mo 3) Wa, aI cI (mo 4) 7 F] (S := (Nat → Nat)) (some (.int (heavyV G z.toInt))) (fun _ => True) (fun Wx : Nat → Nat => [mH mo R, mR cI (mo 1) G, mR cI (mo 3) Wx, aI cI (mo 4) 7 (heavyF G F z.toInt)]) 0 0 := by
  refine CE.ofW (cc := cX5_heavy) (maxL := 5) (ret := (some .int)) (lv := [(0, .ref (mo 0)), (1, .int z)]) (by decide) rfl (Nat.le_of_ble_eq_true rfl) rfl ?_
  intro p e s m args below meth c ls A Q hQ hx hb hml hr hlocks hnm hown hts hK hA hE hW hl
  have hown : s.vm.findClass RX5 = some m.cls := hown
  obtain ⟨hg0, hg8, hg16, hg16b, hg24, hg32, hg40, hg48⟩ := hG.s
  refine lv_iload_n hx hb dX5_heavy_0 rfl (lv_at hl 1 rfl) ?_
  refine lv_i2l (v := (z).toInt64) hx hb dX5_heavy_1 rfl ?_
  refine lv_iconst (v := nI 1) hx hb dX5_heavy_2 (by decide +kernel) ?_
  refine lv_bipush (v := nI 60) hx hb dX5_heavy_3 (by decide +kernel) ?_
  refine cl_Si (As := [.long ((z).toInt64), .int (nI 1), .int (nI 60)]) (rest := []) ⟨hx, hb, hml, hown, hts⟩ (M_X5_in2 l D cI cJ ((z).toInt64) (nI 1) (nI 60) z.toInt ((1 : Nat) : Int) ((60 : Nat) : Int) ((Int32.toInt_toInt64 _).trans rfl) (nI_toInt (n := 1) (by decide)) (nI_toInt (n := 60) (by decide))) (va_cwS 3 hts gX5_heavy_X5_in rfl rfl rfl qX5_in ⟨Nat.le_of_ble_eq_true rfl, Nat.le_of_ble_eq_true rfl⟩) E0_good hK hA hW trivial [] (fun _ => [mH mo R, mR cI (mo 1) G, mR cI (mo 3) Wa, aI cI (mo 4) 7 F]) rfl (fun _ => rfl) (fun _ => rfl) rfl hl.1 rfl (lv_room (Nat.le_of_ble_eq_true rfl)) dX5_heavy_5 ⟨Nat.zero_le _, Nat.zero_le _⟩ (fun _ H locs _ hW => ?_)
  have hin_ := inZ_or z.toInt ((1 : Nat) : Int) ((60 : Nat) : Int)
  refine nn_zne (tgt := 18) hx hb dX5_heavy_8 (by decide) (by omega) (fun c8 => ?_) (fun c8 => ?_)
  · obtain ⟨y, hy, ey⟩ : ∃ y : Nat, z = nI y ∧ z.toInt = (y : Int) := ⟨z.toInt.toNat, nI_ofZ rfl (by omega), by omega⟩
    rw [hy] at hl
    have hfl0 := flC_le hG
    refine lv_aload_n hx hb dX5_heavy_18 rfl (lv_at hl 0 rfl) ?_
    refine cl_Vv (As := []) (rest := []) (C := RX5) ⟨hx, hb, hml, hown, hts⟩ (M_X5_thinks l D cI cJ mo R G Wa ) (cwV 0 hts gX5_heavy_X5_thinks rfl rfl rfl qX5_thinks ⟨Nat.le_of_ble_eq_true rfl, Nat.le_of_ble_eq_true rfl⟩) E0_good hK hA hW trivial [true, true, true] (fun _ => [mH mo R, mR cI (mo 1) G, mR cI (mo 3) G, aI cI (mo 4) 7 F]) rfl (fun _ => rfl) (fun _ => rfl) 0 0 rfl rfl rfl rfl hl.1 rfl (lv_room (Nat.le_of_ble_eq_true rfl)) dX5_heavy_19 ⟨Nat.zero_le _, Nat.zero_le _⟩ (fun _ H locs _ hW => ?_)
    refine lv_aload_n hx hb dX5_heavy_22 rfl (lv_at hl 0 rfl) ?_
    refine cl_Vi (As := []) (rest := []) (C := RX5) ⟨hx, hb, hml, hown, hts⟩ (M_X5_allFlung l D cI cJ mo R G 99999 (by decide) hG ) (cwV 0 hts gX5_heavy_X5_allFlung rfl rfl rfl qX5_allFlung ⟨Nat.le_of_ble_eq_true rfl, Nat.le_of_ble_eq_true rfl⟩) E0_good hK hA hW trivial [true, true] (fun _ => [mH mo R, mR cI (mo 1) G, mR cI (mo 3) G, aI cI (mo 4) 7 F]) rfl (fun _ => rfl) (fun _ => rfl) 0 0 rfl rfl rfl rfl hl.1 rfl (lv_room (Nat.le_of_ble_eq_true rfl)) dX5_heavy_23 ⟨Nat.zero_le _, Nat.zero_le _⟩ (fun _ H locs _ hW => ?_)
    refine lv_istore_n (lv' := [(2, .int (nI (flC G))), (0, .ref (mo 0)), (1, .int (nI y))]) hx hb dX5_heavy_26 rfl hl (by decide) rfl (fun ls hl => ?_)
    refine lv_iconst (v := -1) hx hb dX5_heavy_27 (by decide +kernel) ?_
    refine lv_istore_n (lv' := [(3, .int (-1)), (2, .int (nI (flC G))), (0, .ref (mo 0)), (1, .int (nI y))]) hx hb dX5_heavy_28 rfl hl (by decide) rfl (fun ls hl => ?_)
    refine lv_iconst (v := nI 1) hx hb dX5_heavy_29 (by decide +kernel) ?_
    refine lv_istore (lv' := [(4, .int (nI 1)), (3, .int (-1)), (2, .int (nI (flC G))), (0, .ref (mo 0)), (1, .int (nI y))]) hx hb dX5_heavy_30 hl (by decide) rfl (fun ls hl => ?_)
    have lp32 : ∀ (n : Nat) (i : Nat) (o : Nat), 51 - i < n → 1 ≤ i ∧ i ≤ 51 → (o = 0 ∧ seek (fun h => decide (flC (stepN (up G 16 h) y) = flC G)) (51 - i) i = seek (fun h => decide (flC (stepN (up G 16 h) y) = flC G)) (51 - 1) 1) ∨ (o = i ∧ 1 < i ∧ seek (fun h => decide (flC (stepN (up G 16 h) y) = flC G)) (51 - 1) 1 = i - 1) → ∀ (H : Heap) (locs : List Loc), Wo D vwCl A s.heap H locs [mH mo R, mR cI (mo 1) G, mR cI (mo 3) G, aI cI (mo 4) 7 F] → ∀ ls : Array Slot, lv_has ls 5 [(4, .int (nI i)), (3, .int (bst o)), (2, .int (nI (flC G))), (0, .ref (mo 0)), (1, .int (nI y))] → W p l e rmX5_heavy s m args below meth c H locs 0 0 Q (F0 m 32 ls []) := by
      intro n
      induction n with
      | zero => intro i o hm; exact absurd hm (Nat.not_lt_zero _)
      | succ n ih =>
        intro i o hm hi hsk H locs hW ls hl
        refine lv_iload hx hb dX5_heavy_32 (lv_at hl 0 rfl) ?_
        refine lv_bipush (v := nI 50) hx hb dX5_heavy_34 (by decide +kernel) ?_
        refine nn_cgt (tgt := 81) hx hb dX5_heavy_36 (by decide) (by omega) (by decide) (fun c36 => ?_) (fun c36 => ?_)
        · have hse := fun q => seek_e (fun h => decide (flC (stepN (up G 16 h) y) = flC G)) (e := 51) (i := i) q
          have hsx : skV (heavyR G y) 50 = orV o ∧ skF F (heavyR G y) 50 = orF F o := sk_or F (show (o = 0 ∧ 50 < seek (fun h => decide (flC (stepN (up G 16 h) y) = flC G)) (51 - 1) 1) ∨ (o = seek (fun h => decide (flC (stepN (up G 16 h) y) = flC G)) (51 - 1) 1 + 1 ∧ seek (fun h => decide (flC (stepN (up G 16 h) y) = flC G)) (51 - 1) 1 ≤ 50) by rcases hsk with ⟨q, q2⟩ | ⟨q, q2, q3⟩ <;> first | omega | (have := hse (by omega); omega))
          refine lv_aload_n hx hb dX5_heavy_81 rfl (lv_at hl 3 rfl) ?_
          refine lv_iload_n hx hb dX5_heavy_82 rfl (lv_at hl 1 rfl) ?_
          refine cl_Vi (As := [.int (bst o)]) (rest := []) (C := RX5) ⟨hx, hb, hml, hown, hts⟩ (M_X5_orNone l D cI cJ mo R F o (by omega)) (cwV 1 hts gX5_heavy_X5_orNone rfl rfl rfl qX5_orNone ⟨Nat.le_of_ble_eq_true rfl, Nat.le_of_ble_eq_true rfl⟩) E0_good hK hA hW trivial [true, false, false, true] (fun _ => [mH mo R, mR cI (mo 1) G, mR cI (mo 3) G, aI cI (mo 4) 7 (orF F o)]) rfl (fun _ => rfl) (fun _ => rfl) 0 0 rfl rfl rfl rfl hl.1 rfl (lv_room (Nat.le_of_ble_eq_true rfl)) dX5_heavy_83 ⟨Nat.zero_le _, Nat.zero_le _⟩ (fun _ H locs _ hW => ?_)
          exact rt_i hQ hx hb hr hlocks hW dX5_heavy_86 G (by (try simp only [heavyV, ey, hsx.1, hsx.2, Int.toNat_natCast]); (repeat' split) <;> first | rfl | (exfalso; omega)) trivial (by (try simp only [heavyF, ey, hsx.1, hsx.2, Int.toNat_natCast]); (repeat' split) <;> first | rfl | (exfalso; omega))
        · refine lv_iload_n hx hb dX5_heavy_39 rfl (lv_at hl 1 rfl) ?_
          refine zz_zge (tgt := 81) hx hb dX5_heavy_40 (by decide) (bst_toInt (o := o) (by omega)) (fun c40 => ?_) (fun c40 => ?_)
          · have hse := fun q => seek_e (fun h => decide (flC (stepN (up G 16 h) y) = flC G)) (e := 51) (i := i) q
            have hsx : skV (heavyR G y) 50 = orV o ∧ skF F (heavyR G y) 50 = orF F o := sk_or F (show (o = 0 ∧ 50 < seek (fun h => decide (flC (stepN (up G 16 h) y) = flC G)) (51 - 1) 1) ∨ (o = seek (fun h => decide (flC (stepN (up G 16 h) y) = flC G)) (51 - 1) 1 + 1 ∧ seek (fun h => decide (flC (stepN (up G 16 h) y) = flC G)) (51 - 1) 1 ≤ 50) by rcases hsk with ⟨q, q2⟩ | ⟨q, q2, q3⟩ <;> first | omega | (have := hse (by omega); omega))
            refine lv_aload_n hx hb dX5_heavy_81 rfl (lv_at hl 3 rfl) ?_
            refine lv_iload_n hx hb dX5_heavy_82 rfl (lv_at hl 1 rfl) ?_
            refine cl_Vi (As := [.int (bst o)]) (rest := []) (C := RX5) ⟨hx, hb, hml, hown, hts⟩ (M_X5_orNone l D cI cJ mo R F o (by omega)) (cwV 1 hts gX5_heavy_X5_orNone rfl rfl rfl qX5_orNone ⟨Nat.le_of_ble_eq_true rfl, Nat.le_of_ble_eq_true rfl⟩) E0_good hK hA hW trivial [true, false, false, true] (fun _ => [mH mo R, mR cI (mo 1) G, mR cI (mo 3) G, aI cI (mo 4) 7 (orF F o)]) rfl (fun _ => rfl) (fun _ => rfl) 0 0 rfl rfl rfl rfl hl.1 rfl (lv_room (Nat.le_of_ble_eq_true rfl)) dX5_heavy_83 ⟨Nat.zero_le _, Nat.zero_le _⟩ (fun _ H locs _ hW => ?_)
            exact rt_i hQ hx hb hr hlocks hW dX5_heavy_86 G (by (try simp only [heavyV, ey, hsx.1, hsx.2, Int.toNat_natCast]); (repeat' split) <;> first | rfl | (exfalso; omega)) trivial (by (try simp only [heavyF, ey, hsx.1, hsx.2, Int.toNat_natCast]); (repeat' split) <;> first | rfl | (exfalso; omega))
          · have hst9 := flC_le (stepN_ok (hG.s16 (v := i) (by omega)) y)
            refine lv_aload_n hx hb dX5_heavy_43 rfl (lv_at hl 3 rfl) ?_
            refine sg_get (ci := 4) (C := RX5) (T := TX5) (N := 15) (v := .ref (mo 1)) hx hb hts (fun _ h => List.mem_cons_of_mem _ (List.mem_append_right _ h)) hown hK hW 0 0 rfl rfl rfl 0 (by decide) (hts _ (List.mem_of_getElem? (i := 2) rfl)) rfl dX5_heavy_44 ?_
            refine lv_iconst (v := nI 2) hx hb dX5_heavy_47 (by decide +kernel) ?_
            refine lv_iload hx hb dX5_heavy_48 (lv_at hl 0 rfl) ?_
            refine sg_ist hx hb hK hW 1 0 0 rfl rfl rfl (by decide) (by decide) (mR_set cI (mo 1) G 2 i) (ss' := [mH mo R, mR cI (mo 1) (up G 16 i), mR cI (mo 3) G, aI cI (mo 4) 7 F]) rfl dX5_heavy_50 (fun H locs hW => ?_)
            refine lv_aload_n hx hb dX5_heavy_51 rfl (lv_at hl 3 rfl) ?_
            refine lv_iload_n hx hb dX5_heavy_52 rfl (lv_at hl 4 rfl) ?_
            refine cl_Vv (As := [.int (nI y)]) (rest := []) (C := RX5) ⟨hx, hb, hml, hown, hts⟩ (M_X5_goesFor l D cI cJ mo R (up G 16 i) 99999 (by decide) (hG.s16 (v := i) (by omega)) y (by omega)) (cwV 1 hts gX5_heavy_X5_goesFor rfl rfl rfl qX5_goesFor ⟨Nat.le_of_ble_eq_true rfl, Nat.le_of_ble_eq_true rfl⟩) E0_good hK hA hW trivial [true, true] (fun _ => [mH mo R, mR cI (mo 1) (stepN (up G 16 i) y), mR cI (mo 3) G, aI cI (mo 4) 7 F]) rfl (fun _ => rfl) (fun _ => rfl) 0 0 rfl rfl rfl rfl hl.1 rfl (lv_room (Nat.le_of_ble_eq_true rfl)) dX5_heavy_53 ⟨Nat.zero_le _, Nat.zero_le _⟩ (fun _ H locs _ hW => ?_)
            refine lv_aload_n hx hb dX5_heavy_56 rfl (lv_at hl 3 rfl) ?_
            refine cl_Vi (As := []) (rest := []) (C := RX5) ⟨hx, hb, hml, hown, hts⟩ (M_X5_allFlung l D cI cJ mo R (stepN (up G 16 i) y) (99999 + y) (by omega) (stepN_ok (hG.s16 (v := i) (by omega)) y) ) (cwV 0 hts gX5_heavy_X5_allFlung rfl rfl rfl qX5_allFlung ⟨Nat.le_of_ble_eq_true rfl, Nat.le_of_ble_eq_true rfl⟩) E0_good hK hA hW trivial [true, true] (fun _ => [mH mo R, mR cI (mo 1) (stepN (up G 16 i) y), mR cI (mo 3) G, aI cI (mo 4) 7 F]) rfl (fun _ => rfl) (fun _ => rfl) 0 0 rfl rfl rfl rfl hl.1 rfl (lv_room (Nat.le_of_ble_eq_true rfl)) dX5_heavy_57 ⟨Nat.zero_le _, Nat.zero_le _⟩ (fun _ H locs _ hW => ?_)
            refine lv_iload_n hx hb dX5_heavy_60 rfl (lv_at hl 2 rfl) ?_
            refine nn_cne (tgt := 69) hx hb dX5_heavy_61 (by decide) (by omega) (by omega) (fun c61 => ?_) (fun c61 => ?_)
            · refine lv_iconst (v := -1) hx hb dX5_heavy_69 (by decide +kernel) ?_
              refine lv_istore_n (lv' := [(3, .int (-1)), (4, .int (nI i)), (2, .int (nI (flC G))), (0, .ref (mo 0)), (1, .int (nI y))]) hx hb dX5_heavy_70 rfl hl (by decide) rfl (fun ls hl => ?_)
              refine lv_aload_n hx hb dX5_heavy_71 rfl (lv_at hl 3 rfl) ?_
              refine cl_Vv (As := []) (rest := []) (C := RX5) ⟨hx, hb, hml, hown, hts⟩ (M_X5_putsBack l D cI cJ mo R (stepN (up G 16 i) y) G ) (cwV 0 hts gX5_heavy_X5_putsBack rfl rfl rfl qX5_putsBack ⟨Nat.le_of_ble_eq_true rfl, Nat.le_of_ble_eq_true rfl⟩) E0_good hK hA hW trivial [true, true, true] (fun _ => [mH mo R, mR cI (mo 1) G, mR cI (mo 3) G, aI cI (mo 4) 7 F]) rfl (fun _ => rfl) (fun _ => rfl) 0 0 rfl rfl rfl rfl hl.1 rfl (lv_room (Nat.le_of_ble_eq_true rfl)) dX5_heavy_72 ⟨Nat.zero_le _, Nat.zero_le _⟩ (fun _ H locs _ hW => ?_)
              have hsk0 : seek (fun h => decide (flC (stepN (up G 16 h) y) = flC G)) (51 - i) i = seek (fun h => decide (flC (stepN (up G 16 h) y) = flC G)) (51 - 1) 1 := by rcases hsk with ⟨_, q⟩ | ⟨q, q2, _⟩ <;> first | exact q | omega
              have hb1 : (-1) = bst 0 := rfl
              have hl : lv_has ls 5 [(3, .int (bst 0)), (4, .int (nI i)), (2, .int (nI (flC G))), (0, .ref (mo 0)), (1, .int (nI y))] := by rw [← hb1]; exact hl
              refine lv_iinc (v := nI (i + 1)) (lv' := [(4, .int (nI (i + 1))), (3, .int (bst 0)), (2, .int (nI (flC G))), (0, .ref (mo 0)), (1, .int (nI y))]) hx hb dX5_heavy_75 hl (k := 1) rfl (nI_add _ 1) (by decide) rfl (fun ls hl => ?_)
              refine lv_goto (tgt := 32) hx hb dX5_heavy_78 (by decide) ?_
              exact ih (i + 1) 0 (by omega) (by omega) (Or.inl ⟨rfl, (seek_f (p := (fun h => decide (flC (stepN (up G 16 h) y) = flC G))) (e := 51) (i := i) (by omega) (decide_eq_false (by omega))).symm.trans hsk0⟩) _ _ hW _ (lv_sub hl [0, 1, 2, 3, 4] rfl)
            · refine lv_iload hx hb dX5_heavy_64 (lv_at hl 0 rfl) ?_
              refine lv_goto (tgt := 70) hx hb dX5_heavy_66 (by decide) ?_
              refine lv_istore_n (lv' := [(3, .int (nI i)), (4, .int (nI i)), (2, .int (nI (flC G))), (0, .ref (mo 0)), (1, .int (nI y))]) hx hb dX5_heavy_70 rfl hl (by decide) rfl (fun ls hl => ?_)
              refine lv_aload_n hx hb dX5_heavy_71 rfl (lv_at hl 3 rfl) ?_
              refine cl_Vv (As := []) (rest := []) (C := RX5) ⟨hx, hb, hml, hown, hts⟩ (M_X5_putsBack l D cI cJ mo R (stepN (up G 16 i) y) G ) (cwV 0 hts gX5_heavy_X5_putsBack rfl rfl rfl qX5_putsBack ⟨Nat.le_of_ble_eq_true rfl, Nat.le_of_ble_eq_true rfl⟩) E0_good hK hA hW trivial [true, true, true] (fun _ => [mH mo R, mR cI (mo 1) G, mR cI (mo 3) G, aI cI (mo 4) 7 F]) rfl (fun _ => rfl) (fun _ => rfl) 0 0 rfl rfl rfl rfl hl.1 rfl (lv_room (Nat.le_of_ble_eq_true rfl)) dX5_heavy_72 ⟨Nat.zero_le _, Nat.zero_le _⟩ (fun _ H locs _ hW => ?_)
              have hsk0 : seek (fun h => decide (flC (stepN (up G 16 h) y) = flC G)) (51 - i) i = seek (fun h => decide (flC (stepN (up G 16 h) y) = flC G)) (51 - 1) 1 := by rcases hsk with ⟨_, q⟩ | ⟨q, q2, _⟩ <;> first | exact q | omega
              have hb2 : nI i = bst (i + 1) := (if_neg (Nat.succ_ne_zero _)).symm
              have hl : lv_has ls 5 [(3, .int (bst (i + 1))), (4, .int (nI i)), (2, .int (nI (flC G))), (0, .ref (mo 0)), (1, .int (nI y))] := by rw [← hb2]; exact hl
              refine lv_iinc (v := nI (i + 1)) (lv' := [(4, .int (nI (i + 1))), (3, .int (bst (i + 1))), (2, .int (nI (flC G))), (0, .ref (mo 0)), (1, .int (nI y))]) hx hb dX5_heavy_75 hl (k := 1) rfl (nI_add _ 1) (by decide) rfl (fun ls hl => ?_)
              refine lv_goto (tgt := 32) hx hb dX5_heavy_78 (by decide) ?_
              exact ih (i + 1) (i + 1) (by omega) (by omega) (Or.inr ⟨rfl, by omega, by rw [← hsk0, seek_t (p := (fun h => decide (flC (stepN (up G 16 h) y) = flC G))) (e := 51) (i := i) (by omega) (decide_eq_true (by omega))]; omega⟩) _ _ hW _ (lv_sub hl [0, 1, 2, 3, 4] rfl)
    exact lp32 (51 - 1 + 1) 1 0 (Nat.lt_succ_self _) (by omega) (Or.inl ⟨rfl, rfl⟩) _ _ hW _ (lv_sub hl [0, 1, 2, 3, 4] rfl)
  · refine lv_aload_n hx hb dX5_heavy_11 rfl (lv_at hl 0 rfl) ?_
    refine lv_ldc (v := -1000000001) hx hb hown (hts _ (List.mem_of_getElem? (i := 1) rfl)) dX5_heavy_12 ?_
    refine cl_Vi (As := [.int (-1000000001)]) (rest := []) (C := RX5) ⟨hx, hb, hml, hown, hts⟩ (M_X5_finds l D cI cJ mo R F 0 (by decide) (-1000000001) (by decide +kernel)) (cwV 1 hts gX5_heavy_X5_finds rfl rfl rfl qX5_finds ⟨Nat.le_of_ble_eq_true rfl, Nat.le_of_ble_eq_true rfl⟩) E0_good hK hA hW trivial [true, false, false, true] (fun _ => [mH mo R, mR cI (mo 1) G, mR cI (mo 3) Wa, aI cI (mo 4) 7 (up F 0 (F 0 + 1))]) rfl (fun _ => rfl) (fun _ => rfl) 0 0 rfl rfl rfl rfl hl.1 rfl (lv_room (Nat.le_of_ble_eq_true rfl)) dX5_heavy_14 ⟨Nat.zero_le _, Nat.zero_le _⟩ (fun _ H locs _ hW => ?_)
    exact rt_i hQ hx hb hr hlocks hW dX5_heavy_17 Wa (by (try simp only [heavyV]); (repeat' split) <;> first | rfl | (exfalso; omega)) trivial (by (try simp only [heavyF]); (repeat' split) <;> first | rfl | (exfalso; omega))
theorem fewSt_le (G : Nat → Nat) (v : Nat) : ∀ t, fewSt G v t ≤ t
  | 0 => Nat.le_refl _
  | t + 1 => by
    have h := fewSt_le G v t
    show (if t &&& outS G = 0 ∧ (fewSt G v t = 0 ∨ bitsN t < bitsN (fewSt G v t - 1)) ∧ v ≤ pushN (comeG G t) then t + 1 else fewSt G v t) ≤ t + 1
    split <;> omega
theorem bitsN_le (n : Nat) : bitsN n ≤ 8 := sumN_le (n := 8) (b := 1) (fun i _ => by have : n / 2 ^ i % 2 < 2 := Nat.mod_lt _ (by decide); omega)
abbrev rmX5_fewest : Room := { frames := 6, cells := 0, slots := 0, locals := 135 }
set_option maxRecDepth 100000 in
set_option maxHeartbeats 4000000 in
theorem M_X5_fewest (l : Launch) (D : va_G) (cI cJ : ClassId) (mo R G Wa F : Nat → Nat) (hG : OkG 99999 G) (z : Int32) : CE E0 l D vwCl [(cI, .int), (cJ, .long)] yX5_fewest wsX5_fewest rmX5_fewest [.ref (mo 0), .int z] [mH mo R, mR cI (mo 1) G, mR cI (mo 3) Wa, aI cI (mo 4) 7 F] (S := (Nat → Nat)) (some (.int (fewestV G z.toInt))) (fun _ => True) (fun Wx : Nat → Nat => [mH mo R, mR cI (mo 1) G, mR cI (mo 3) Wx, aI cI (mo 4) 7 (fewestF G F z.toInt)]) 0 0 := by
  refine CE.ofW (cc := cX5_fewest) (maxL := 5) (ret := (some .int)) (lv := [(0, .ref (mo 0)), (1, .int z)]) (by decide) rfl (Nat.le_of_ble_eq_true rfl) rfl ?_
  intro p e s m args below meth c ls A Q hQ hx hb hml hr hlocks hnm hown hts hK hA hE hW hl
  have hown : s.vm.findClass RX5 = some m.cls := hown
  obtain ⟨hg0, hg8, hg16, hg16b, hg24, hg32, hg40, hg48⟩ := hG.s
  refine lv_iload_n hx hb dX5_fewest_0 rfl (lv_at hl 1 rfl) ?_
  refine lv_i2l (v := (z).toInt64) hx hb dX5_fewest_1 rfl ?_
  refine lv_iconst (v := nI 0) hx hb dX5_fewest_2 (by decide +kernel) ?_
  refine lv_sipush (v := nI 9999) hx hb dX5_fewest_3 (by decide +kernel) ?_
  refine cl_Si (As := [.long ((z).toInt64), .int (nI 0), .int (nI 9999)]) (rest := []) ⟨hx, hb, hml, hown, hts⟩ (M_X5_in2 l D cI cJ ((z).toInt64) (nI 0) (nI 9999) z.toInt ((0 : Nat) : Int) ((9999 : Nat) : Int) ((Int32.toInt_toInt64 _).trans rfl) (nI_toInt (n := 0) (by decide)) (nI_toInt (n := 9999) (by decide))) (va_cwS 3 hts gX5_fewest_X5_in rfl rfl rfl qX5_in ⟨Nat.le_of_ble_eq_true rfl, Nat.le_of_ble_eq_true rfl⟩) E0_good hK hA hW trivial [] (fun _ => [mH mo R, mR cI (mo 1) G, mR cI (mo 3) Wa, aI cI (mo 4) 7 F]) rfl (fun _ => rfl) (fun _ => rfl) rfl hl.1 rfl (lv_room (Nat.le_of_ble_eq_true rfl)) dX5_fewest_6 ⟨Nat.zero_le _, Nat.zero_le _⟩ (fun _ H locs _ hW => ?_)
  have hin_ := inZ_or z.toInt ((0 : Nat) : Int) ((9999 : Nat) : Int)
  refine nn_zne (tgt := 19) hx hb dX5_fewest_9 (by decide) (by omega) (fun c9 => ?_) (fun c9 => ?_)
  · obtain ⟨y, hy, ey⟩ : ∃ y : Nat, z = nI y ∧ z.toInt = (y : Int) := ⟨z.toInt.toNat, nI_ofZ rfl (by omega), by omega⟩
    rw [hy] at hl
    have h256 := pow8 hg40
    have hos9 := outS_lt hG
    refine lv_aload_n hx hb dX5_fewest_19 rfl (lv_at hl 0 rfl) ?_
    refine cl_Vv (As := []) (rest := []) (C := RX5) ⟨hx, hb, hml, hown, hts⟩ (M_X5_thinks l D cI cJ mo R G Wa ) (cwV 0 hts gX5_fewest_X5_thinks rfl rfl rfl qX5_thinks ⟨Nat.le_of_ble_eq_true rfl, Nat.le_of_ble_eq_true rfl⟩) E0_good hK hA hW trivial [true, true, true] (fun _ => [mH mo R, mR cI (mo 1) G, mR cI (mo 3) G, aI cI (mo 4) 7 F]) rfl (fun _ => rfl) (fun _ => rfl) 0 0 rfl rfl rfl rfl hl.1 rfl (lv_room (Nat.le_of_ble_eq_true rfl)) dX5_fewest_20 ⟨Nat.zero_le _, Nat.zero_le _⟩ (fun _ H locs _ hW => ?_)
    refine lv_iconst (v := -1) hx hb dX5_fewest_23 (by decide +kernel) ?_
    refine lv_istore_n (lv' := [(2, .int (-1)), (0, .ref (mo 0)), (1, .int (nI y))]) hx hb dX5_fewest_24 rfl hl (by decide) rfl (fun ls hl => ?_)
    refine lv_iconst (v := nI 0) hx hb dX5_fewest_25 (by decide +kernel) ?_
    refine lv_istore_n (lv' := [(3, .int (nI 0)), (2, .int (-1)), (0, .ref (mo 0)), (1, .int (nI y))]) hx hb dX5_fewest_26 rfl hl (by decide) rfl (fun ls hl => ?_)
    have lp27 : ∀ (n : Nat) (i : Nat) (o : Nat), 2 ^ G 40 - i < n → i ≤ 2 ^ G 40 → fewSt G y i = o → ∀ (H : Heap) (locs : List Loc), Wo D vwCl A s.heap H locs [mH mo R, mR cI (mo 1) G, mR cI (mo 3) G, aI cI (mo 4) 7 F] → ∀ ls : Array Slot, lv_has ls 5 [(3, .int (nI i)), (2, .int (bst o)), (0, .ref (mo 0)), (1, .int (nI y))] → W p l e rmX5_fewest s m args below meth c H locs 0 0 Q (F0 m 27 ls []) := by
      intro n
      induction n with
      | zero => intro i o hm; exact absurd hm (Nat.not_lt_zero _)
      | succ n ih =>
        intro i o hm hi hst H locs hW ls hl
        have hstl : o ≤ i := by have := fewSt_le G y i; omega
        refine lv_iload_n hx hb dX5_fewest_27 rfl (lv_at hl 0 rfl) ?_
        refine lv_iconst (v := nI 1) hx hb dX5_fewest_28 (by decide +kernel) ?_
        refine lv_aload_n hx hb dX5_fewest_29 rfl (lv_at hl 2 rfl) ?_
        refine sg_get (ci := 4) (C := RX5) (T := TX5) (N := 15) (v := .ref (mo 1)) hx hb hts (fun _ h => List.mem_cons_of_mem _ (List.mem_append_right _ h)) hown hK hW 0 0 rfl rfl rfl 0 (by decide) (hts _ (List.mem_of_getElem? (i := 2) rfl)) rfl dX5_fewest_30 ?_
        refine lv_iconst (v := nI 5) hx hb dX5_fewest_33 (by decide +kernel) ?_
        refine sg_ild (v := nI (G 40)) hx hb hK hW 1 0 0 rfl rfl rfl (by decide) (by decide) rfl dX5_fewest_34 ?_
        refine nn_shl hx hb dX5_fewest_35 (by omega) ?_
        refine nn_cge (tgt := 96) hx hb dX5_fewest_36 (by decide) (by omega) (by omega) (fun c36 => ?_) (fun c36 => ?_)
        · have hsx : fewSt G y (2 ^ G 40) = o := by rw [← show i = 2 ^ G 40 by omega]; exact hst
          refine lv_aload_n hx hb dX5_fewest_96 rfl (lv_at hl 2 rfl) ?_
          refine lv_iload_n hx hb dX5_fewest_97 rfl (lv_at hl 1 rfl) ?_
          refine cl_Vi (As := [.int (bst o)]) (rest := []) (C := RX5) ⟨hx, hb, hml, hown, hts⟩ (M_X5_orNone l D cI cJ mo R F o (by omega)) (cwV 1 hts gX5_fewest_X5_orNone rfl rfl rfl qX5_orNone ⟨Nat.le_of_ble_eq_true rfl, Nat.le_of_ble_eq_true rfl⟩) E0_good hK hA hW trivial [true, false, false, true] (fun _ => [mH mo R, mR cI (mo 1) G, mR cI (mo 3) G, aI cI (mo 4) 7 (orF F o)]) rfl (fun _ => rfl) (fun _ => rfl) 0 0 rfl rfl rfl rfl hl.1 rfl (lv_room (Nat.le_of_ble_eq_true rfl)) dX5_fewest_98 ⟨Nat.zero_le _, Nat.zero_le _⟩ (fun _ H locs _ hW => ?_)
          exact rt_i hQ hx hb hr hlocks hW dX5_fewest_101 G (by (try simp only [fewestV, ey, hsx, Int.toNat_natCast]); (repeat' split) <;> first | rfl | (exfalso; omega)) trivial (by (try simp only [fewestF, ey, hsx, Int.toNat_natCast]); (repeat' split) <;> first | rfl | (exfalso; omega))
        · refine lv_iload_n hx hb dX5_fewest_39 rfl (lv_at hl 0 rfl) ?_
          refine lv_aload_n hx hb dX5_fewest_40 rfl (lv_at hl 2 rfl) ?_
          refine cl_Vi (As := []) (rest := [.int (nI i)]) (C := RX5) ⟨hx, hb, hml, hown, hts⟩ (M_X5_outOnes l D cI cJ mo R G 99999 (by decide) hG ) (cwV 0 hts gX5_fewest_X5_outOnes rfl rfl rfl qX5_outOnes ⟨Nat.le_of_ble_eq_true rfl, Nat.le_of_ble_eq_true rfl⟩) E0_good hK hA hW trivial [true, true] (fun _ => [mH mo R, mR cI (mo 1) G, mR cI (mo 3) G, aI cI (mo 4) 7 F]) rfl (fun _ => rfl) (fun _ => rfl) 0 0 rfl rfl rfl rfl hl.1 rfl (lv_room (Nat.le_of_ble_eq_true rfl)) dX5_fewest_41 ⟨Nat.zero_le _, Nat.zero_le _⟩ (fun _ H locs _ hW => ?_)
          have hos_ := outS_lt (hG)
          refine nn_and hx hb dX5_fewest_44 ?_
          have hand := Nat.and_le_right (n := i) (m := outS G)
          have hbi := bitsN_le i
          have hbo9 := bitsN_le (o - 1)
          have hpc := pushN_le (comeTo_ok hG i (G 40))
          have hpc : pushN (comeG G i) ≤ 8800 := hpc
          refine nn_zne (tgt := 67) hx hb dX5_fewest_45 (by decide) (by omega) (fun c45 => ?_) (fun c45 => ?_)
          · refine lv_iconst (v := nI 0) hx hb dX5_fewest_67 (by decide +kernel) ?_
            refine lv_istore (lv' := [(4, .int (nI 0)), (3, .int (nI i)), (2, .int (bst o)), (0, .ref (mo 0)), (1, .int (nI y))]) hx hb dX5_fewest_68 hl (by decide) rfl (fun ls hl => ?_)
            refine lv_iload hx hb dX5_fewest_70 (lv_at hl 0 rfl) ?_
            refine nn_zeq (tgt := 88) hx hb dX5_fewest_72 (by decide) (by decide) (fun c72 => ?_) (fun c72 => ?_)
            · refine lv_iload_n hx hb dX5_fewest_88 rfl (lv_at hl 2 rfl) ?_
              refine lv_istore_n (lv' := [(2, .int (bst o)), (4, .int (nI 0)), (3, .int (nI i)), (0, .ref (mo 0)), (1, .int (nI y))]) hx hb dX5_fewest_89 rfl hl (by decide) rfl (fun ls hl => ?_)
              have hst2 : fewSt G y (i + 1) = o := by
                show (if i &&& outS G = 0 ∧ (fewSt G y i = 0 ∨ bitsN i < bitsN (fewSt G y i - 1)) ∧ y ≤ pushN (comeG G i) then i + 1 else fewSt G y i) = _
                rw [hst, if_neg (by omega)]
              refine lv_iinc (v := nI (i + 1)) (lv' := [(3, .int (nI (i + 1))), (2, .int (bst o)), (4, .int (nI 0)), (0, .ref (mo 0)), (1, .int (nI y))]) hx hb dX5_fewest_90 hl (k := 2) rfl (nI_add _ 1) (by decide) rfl (fun ls hl => ?_)
              refine lv_goto (tgt := 27) hx hb dX5_fewest_93 (by decide) ?_
              exact ih (i + 1) o (by omega) (by omega) hst2 _ _ hW _ (lv_sub hl [0, 1, 3, 4] rfl)
            · exfalso; omega
          · refine lv_iload_n hx hb dX5_fewest_48 rfl (lv_at hl 1 rfl) ?_
            refine zz_zlt (tgt := 63) hx hb dX5_fewest_49 (by decide) (bst_toInt (o := o) (by omega)) (fun c49 => ?_) (fun c49 => ?_)
            · refine lv_iconst (v := nI 1) hx hb dX5_fewest_63 (by decide +kernel) ?_
              refine lv_goto (tgt := 68) hx hb dX5_fewest_64 (by decide) ?_
              refine lv_istore (lv' := [(4, .int (nI 1)), (3, .int (nI i)), (2, .int (bst o)), (0, .ref (mo 0)), (1, .int (nI y))]) hx hb dX5_fewest_68 hl (by decide) rfl (fun ls hl => ?_)
              refine lv_iload hx hb dX5_fewest_70 (lv_at hl 0 rfl) ?_
              refine nn_zeq (tgt := 88) hx hb dX5_fewest_72 (by decide) (by decide) (fun c72_1 => ?_) (fun c72_1 => ?_)
              · exfalso; omega
              · refine lv_aload_n hx hb dX5_fewest_75 rfl (lv_at hl 3 rfl) ?_
                refine lv_iload_n hx hb dX5_fewest_76 rfl (lv_at hl 1 rfl) ?_
                refine cl_Vi (As := [.int (nI i)]) (rest := []) (C := RX5) ⟨hx, hb, hml, hown, hts⟩ (M_X5_pushWith l D cI cJ mo R G G 99999 (by decide) hG i (by omega)) (cwV 1 hts gX5_fewest_X5_pushWith rfl rfl rfl qX5_pushWith ⟨Nat.le_of_ble_eq_true rfl, Nat.le_of_ble_eq_true rfl⟩) E0_good hK hA hW trivial [true, true, true] (fun _ => [mH mo R, mR cI (mo 1) G, mR cI (mo 3) G, aI cI (mo 4) 7 F]) rfl (fun _ => rfl) (fun _ => rfl) 0 0 rfl rfl rfl rfl hl.1 rfl (lv_room (Nat.le_of_ble_eq_true rfl)) dX5_fewest_77 ⟨Nat.zero_le _, Nat.zero_le _⟩ (fun _ H locs _ hW => ?_)
                refine lv_iload_n hx hb dX5_fewest_80 rfl (lv_at hl 4 rfl) ?_
                refine nn_clt (tgt := 88) hx hb dX5_fewest_81 (by decide) (by omega) (by omega) (fun c81 => ?_) (fun c81 => ?_)
                · refine lv_iload_n hx hb dX5_fewest_88 rfl (lv_at hl 2 rfl) ?_
                  refine lv_istore_n (lv' := [(2, .int (bst o)), (4, .int (nI 1)), (3, .int (nI i)), (0, .ref (mo 0)), (1, .int (nI y))]) hx hb dX5_fewest_89 rfl hl (by decide) rfl (fun ls hl => ?_)
                  have hst2 : fewSt G y (i + 1) = o := by
                    show (if i &&& outS G = 0 ∧ (fewSt G y i = 0 ∨ bitsN i < bitsN (fewSt G y i - 1)) ∧ y ≤ pushN (comeG G i) then i + 1 else fewSt G y i) = _
                    rw [hst, if_neg (by omega)]
                  refine lv_iinc (v := nI (i + 1)) (lv' := [(3, .int (nI (i + 1))), (2, .int (bst o)), (4, .int (nI 1)), (0, .ref (mo 0)), (1, .int (nI y))]) hx hb dX5_fewest_90 hl (k := 2) rfl (nI_add _ 1) (by decide) rfl (fun ls hl => ?_)
                  refine lv_goto (tgt := 27) hx hb dX5_fewest_93 (by decide) ?_
                  exact ih (i + 1) o (by omega) (by omega) hst2 _ _ hW _ (lv_sub hl [0, 1, 3, 4] rfl)
                · refine lv_iload_n hx hb dX5_fewest_84 rfl (lv_at hl 1 rfl) ?_
                  refine lv_goto (tgt := 89) hx hb dX5_fewest_85 (by decide) ?_
                  refine lv_istore_n (lv' := [(2, .int (nI i)), (4, .int (nI 1)), (3, .int (nI i)), (0, .ref (mo 0)), (1, .int (nI y))]) hx hb dX5_fewest_89 rfl hl (by decide) rfl (fun ls hl => ?_)
                  have hst2 : fewSt G y (i + 1) = i + 1 := by
                    show (if i &&& outS G = 0 ∧ (fewSt G y i = 0 ∨ bitsN i < bitsN (fewSt G y i - 1)) ∧ y ≤ pushN (comeG G i) then i + 1 else fewSt G y i) = _
                    rw [hst, if_pos (by omega)]
                  have hb1 : nI i = bst (i + 1) := (if_neg (Nat.succ_ne_zero _)).symm
                  have hl : lv_has ls 5 [(2, .int (bst (i + 1))), (4, .int (nI 1)), (3, .int (nI i)), (0, .ref (mo 0)), (1, .int (nI y))] := by rw [← hb1]; exact hl
                  refine lv_iinc (v := nI (i + 1)) (lv' := [(3, .int (nI (i + 1))), (2, .int (bst (i + 1))), (4, .int (nI 1)), (0, .ref (mo 0)), (1, .int (nI y))]) hx hb dX5_fewest_90 hl (k := 2) rfl (nI_add _ 1) (by decide) rfl (fun ls hl => ?_)
                  refine lv_goto (tgt := 27) hx hb dX5_fewest_93 (by decide) ?_
                  exact ih (i + 1) (i + 1) (by omega) (by omega) hst2 _ _ hW _ (lv_sub hl [0, 1, 3, 4] rfl)
            · have hbo : bst o = nI (o - 1) := if_neg (by omega)
              have hb2 : bst o = nI (o - 1) := hbo
              have hl : lv_has ls 5 [(3, .int (nI i)), (2, .int (nI (o - 1))), (0, .ref (mo 0)), (1, .int (nI y))] := by rw [← hb2]; exact hl
              refine lv_iload_n hx hb dX5_fewest_52 rfl (lv_at hl 0 rfl) ?_
              refine cl_Si (As := [.int (nI i)]) (rest := []) ⟨hx, hb, hml, hown, hts⟩ (M_X5_bits l D cI cJ i (by omega)) (va_cwS 1 hts gX5_fewest_X5_bits rfl rfl rfl qX5_bits ⟨Nat.le_of_ble_eq_true rfl, Nat.le_of_ble_eq_true rfl⟩) E0_good hK hA hW trivial [] (fun _ => [mH mo R, mR cI (mo 1) G, mR cI (mo 3) G, aI cI (mo 4) 7 F]) rfl (fun _ => rfl) (fun _ => rfl) rfl hl.1 rfl (lv_room (Nat.le_of_ble_eq_true rfl)) dX5_fewest_53 ⟨Nat.zero_le _, Nat.zero_le _⟩ (fun _ H locs _ hW => ?_)
              refine lv_iload_n hx hb dX5_fewest_56 rfl (lv_at hl 1 rfl) ?_
              refine cl_Si (As := [.int (nI (o - 1))]) (rest := [.int (nI (bitsN i))]) ⟨hx, hb, hml, hown, hts⟩ (M_X5_bits l D cI cJ (o - 1) (by omega)) (va_cwS 1 hts gX5_fewest_X5_bits rfl rfl rfl qX5_bits ⟨Nat.le_of_ble_eq_true rfl, Nat.le_of_ble_eq_true rfl⟩) E0_good hK hA hW trivial [] (fun _ => [mH mo R, mR cI (mo 1) G, mR cI (mo 3) G, aI cI (mo 4) 7 F]) rfl (fun _ => rfl) (fun _ => rfl) rfl hl.1 rfl (lv_room (Nat.le_of_ble_eq_true rfl)) dX5_fewest_57 ⟨Nat.zero_le _, Nat.zero_le _⟩ (fun _ H locs _ hW => ?_)
              refine nn_cge (tgt := 67) hx hb dX5_fewest_60 (by decide) (by omega) (by omega) (fun c60 => ?_) (fun c60 => ?_)
              · refine lv_iconst (v := nI 0) hx hb dX5_fewest_67 (by decide +kernel) ?_
                refine lv_istore (lv' := [(4, .int (nI 0)), (3, .int (nI i)), (2, .int (nI (o - 1))), (0, .ref (mo 0)), (1, .int (nI y))]) hx hb dX5_fewest_68 hl (by decide) rfl (fun ls hl => ?_)
                refine lv_iload hx hb dX5_fewest_70 (lv_at hl 0 rfl) ?_
                refine nn_zeq (tgt := 88) hx hb dX5_fewest_72 (by decide) (by decide) (fun c72_2 => ?_) (fun c72_2 => ?_)
                · refine lv_iload_n hx hb dX5_fewest_88 rfl (lv_at hl 2 rfl) ?_
                  refine lv_istore_n (lv' := [(2, .int (nI (o - 1))), (4, .int (nI 0)), (3, .int (nI i)), (0, .ref (mo 0)), (1, .int (nI y))]) hx hb dX5_fewest_89 rfl hl (by decide) rfl (fun ls hl => ?_)
                  have hst2 : fewSt G y (i + 1) = o := by
                    show (if i &&& outS G = 0 ∧ (fewSt G y i = 0 ∨ bitsN i < bitsN (fewSt G y i - 1)) ∧ y ≤ pushN (comeG G i) then i + 1 else fewSt G y i) = _
                    rw [hst, if_neg (by omega)]
                  have hb3 : nI (o - 1) = bst o := hbo.symm
                  have hl : lv_has ls 5 [(2, .int (bst o)), (4, .int (nI 0)), (3, .int (nI i)), (0, .ref (mo 0)), (1, .int (nI y))] := by rw [← hb3]; exact hl
                  refine lv_iinc (v := nI (i + 1)) (lv' := [(3, .int (nI (i + 1))), (2, .int (bst o)), (4, .int (nI 0)), (0, .ref (mo 0)), (1, .int (nI y))]) hx hb dX5_fewest_90 hl (k := 2) rfl (nI_add _ 1) (by decide) rfl (fun ls hl => ?_)
                  refine lv_goto (tgt := 27) hx hb dX5_fewest_93 (by decide) ?_
                  exact ih (i + 1) o (by omega) (by omega) hst2 _ _ hW _ (lv_sub hl [0, 1, 3, 4] rfl)
                · exfalso; omega
              · refine lv_iconst (v := nI 1) hx hb dX5_fewest_63 (by decide +kernel) ?_
                refine lv_goto (tgt := 68) hx hb dX5_fewest_64 (by decide) ?_
                refine lv_istore (lv' := [(4, .int (nI 1)), (3, .int (nI i)), (2, .int (nI (o - 1))), (0, .ref (mo 0)), (1, .int (nI y))]) hx hb dX5_fewest_68 hl (by decide) rfl (fun ls hl => ?_)
                refine lv_iload hx hb dX5_fewest_70 (lv_at hl 0 rfl) ?_
                refine nn_zeq (tgt := 88) hx hb dX5_fewest_72 (by decide) (by decide) (fun c72_3 => ?_) (fun c72_3 => ?_)
                · exfalso; omega
                · refine lv_aload_n hx hb dX5_fewest_75 rfl (lv_at hl 3 rfl) ?_
                  refine lv_iload_n hx hb dX5_fewest_76 rfl (lv_at hl 1 rfl) ?_
                  refine cl_Vi (As := [.int (nI i)]) (rest := []) (C := RX5) ⟨hx, hb, hml, hown, hts⟩ (M_X5_pushWith l D cI cJ mo R G G 99999 (by decide) hG i (by omega)) (cwV 1 hts gX5_fewest_X5_pushWith rfl rfl rfl qX5_pushWith ⟨Nat.le_of_ble_eq_true rfl, Nat.le_of_ble_eq_true rfl⟩) E0_good hK hA hW trivial [true, true, true] (fun _ => [mH mo R, mR cI (mo 1) G, mR cI (mo 3) G, aI cI (mo 4) 7 F]) rfl (fun _ => rfl) (fun _ => rfl) 0 0 rfl rfl rfl rfl hl.1 rfl (lv_room (Nat.le_of_ble_eq_true rfl)) dX5_fewest_77 ⟨Nat.zero_le _, Nat.zero_le _⟩ (fun _ H locs _ hW => ?_)
                  refine lv_iload_n hx hb dX5_fewest_80 rfl (lv_at hl 4 rfl) ?_
                  refine nn_clt (tgt := 88) hx hb dX5_fewest_81 (by decide) (by omega) (by omega) (fun c81_1 => ?_) (fun c81_1 => ?_)
                  · refine lv_iload_n hx hb dX5_fewest_88 rfl (lv_at hl 2 rfl) ?_
                    refine lv_istore_n (lv' := [(2, .int (nI (o - 1))), (4, .int (nI 1)), (3, .int (nI i)), (0, .ref (mo 0)), (1, .int (nI y))]) hx hb dX5_fewest_89 rfl hl (by decide) rfl (fun ls hl => ?_)
                    have hst2 : fewSt G y (i + 1) = o := by
                      show (if i &&& outS G = 0 ∧ (fewSt G y i = 0 ∨ bitsN i < bitsN (fewSt G y i - 1)) ∧ y ≤ pushN (comeG G i) then i + 1 else fewSt G y i) = _
                      rw [hst, if_neg (by omega)]
                    have hb4 : nI (o - 1) = bst o := hbo.symm
                    have hl : lv_has ls 5 [(2, .int (bst o)), (4, .int (nI 1)), (3, .int (nI i)), (0, .ref (mo 0)), (1, .int (nI y))] := by rw [← hb4]; exact hl
                    refine lv_iinc (v := nI (i + 1)) (lv' := [(3, .int (nI (i + 1))), (2, .int (bst o)), (4, .int (nI 1)), (0, .ref (mo 0)), (1, .int (nI y))]) hx hb dX5_fewest_90 hl (k := 2) rfl (nI_add _ 1) (by decide) rfl (fun ls hl => ?_)
                    refine lv_goto (tgt := 27) hx hb dX5_fewest_93 (by decide) ?_
                    exact ih (i + 1) o (by omega) (by omega) hst2 _ _ hW _ (lv_sub hl [0, 1, 3, 4] rfl)
                  · refine lv_iload_n hx hb dX5_fewest_84 rfl (lv_at hl 1 rfl) ?_
                    refine lv_goto (tgt := 89) hx hb dX5_fewest_85 (by decide) ?_
                    refine lv_istore_n (lv' := [(2, .int (nI i)), (4, .int (nI 1)), (3, .int (nI i)), (0, .ref (mo 0)), (1, .int (nI y))]) hx hb dX5_fewest_89 rfl hl (by decide) rfl (fun ls hl => ?_)
                    have hst2 : fewSt G y (i + 1) = i + 1 := by
                      show (if i &&& outS G = 0 ∧ (fewSt G y i = 0 ∨ bitsN i < bitsN (fewSt G y i - 1)) ∧ y ≤ pushN (comeG G i) then i + 1 else fewSt G y i) = _
                      rw [hst, if_pos (by omega)]
                    have hb5 : nI i = bst (i + 1) := (if_neg (Nat.succ_ne_zero _)).symm
                    have hl : lv_has ls 5 [(2, .int (bst (i + 1))), (4, .int (nI 1)), (3, .int (nI i)), (0, .ref (mo 0)), (1, .int (nI y))] := by rw [← hb5]; exact hl
                    refine lv_iinc (v := nI (i + 1)) (lv' := [(3, .int (nI (i + 1))), (2, .int (bst (i + 1))), (4, .int (nI 1)), (0, .ref (mo 0)), (1, .int (nI y))]) hx hb dX5_fewest_90 hl (k := 2) rfl (nI_add _ 1) (by decide) rfl (fun ls hl => ?_)
                    refine lv_goto (tgt := 27) hx hb dX5_fewest_93 (by decide) ?_
                    exact ih (i + 1) (i + 1) (by omega) (by omega) hst2 _ _ hW _ (lv_sub hl [0, 1, 3, 4] rfl)
    exact lp27 (2 ^ G 40 - 0 + 1) 0 0 (Nat.lt_succ_self _) (Nat.zero_le _) rfl _ _ hW _ (lv_sub hl [0, 1, 2, 3] rfl)
  · refine lv_aload_n hx hb dX5_fewest_12 rfl (lv_at hl 0 rfl) ?_
    refine lv_ldc (v := -1000000001) hx hb hown (hts _ (List.mem_of_getElem? (i := 1) rfl)) dX5_fewest_13 ?_
    refine cl_Vi (As := [.int (-1000000001)]) (rest := []) (C := RX5) ⟨hx, hb, hml, hown, hts⟩ (M_X5_finds l D cI cJ mo R F 0 (by decide) (-1000000001) (by decide +kernel)) (cwV 1 hts gX5_fewest_X5_finds rfl rfl rfl qX5_finds ⟨Nat.le_of_ble_eq_true rfl, Nat.le_of_ble_eq_true rfl⟩) E0_good hK hA hW trivial [true, false, false, true] (fun _ => [mH mo R, mR cI (mo 1) G, mR cI (mo 3) Wa, aI cI (mo 4) 7 (up F 0 (F 0 + 1))]) rfl (fun _ => rfl) (fun _ => rfl) 0 0 rfl rfl rfl rfl hl.1 rfl (lv_room (Nat.le_of_ble_eq_true rfl)) dX5_fewest_15 ⟨Nat.zero_le _, Nat.zero_le _⟩ (fun _ H locs _ hW => ?_)
    exact rt_i hQ hx hb hr hlocks hW dX5_fewest_18 Wa (by (try simp only [fewestV]); (repeat' split) <;> first | rfl | (exfalso; omega)) trivial (by (try simp only [fewestF]); (repeat' split) <;> first | rfl | (exfalso; omega))
abbrev rmX5_weather : Room := { frames := 8, cells := 0, slots := 0, locals := 181 }
set_option maxRecDepth 100000 in
set_option maxHeartbeats 4000000 in
theorem M_X5_weather (l : Launch) (D : va_G) (cI cJ : ClassId) (mo R G Wa F : Nat → Nat) (hG : OkG 99999 G) (z : Int32) : CE E0 l D vwCl [(cI, .int), (cJ, .long)] yX5_weather wsX5_weather rmX5_weather [.ref (mo 0), .int z] [mH mo R, mR cI (mo 1) G, mR cI (mo 3) Wa, aI cI (mo 4) 7 F] (S := (Nat → Nat)) (some (.int (weatherV G z.toInt))) (fun _ => True) (fun Wx : Nat → Nat => [mH mo R, mR cI (mo 1) G, mR cI (mo 3) Wx, aI cI (mo 4) 7 (weatherF F z.toInt)]) 0 0 := by
  refine CE.ofW (cc := cX5_weather) (maxL := 7) (ret := (some .int)) (lv := [(0, .ref (mo 0)), (1, .int z)]) (by decide) rfl (Nat.le_of_ble_eq_true rfl) rfl ?_
  intro p e s m args below meth c ls A Q hQ hx hb hml hr hlocks hnm hown hts hK hA hE hW hl
  have hown : s.vm.findClass RX5 = some m.cls := hown
  obtain ⟨hg0, hg8, hg16, hg16b, hg24, hg32, hg40, hg48⟩ := hG.s
  refine lv_iload_n hx hb dX5_weather_0 rfl (lv_at hl 1 rfl) ?_
  refine lv_i2l (v := (z).toInt64) hx hb dX5_weather_1 rfl ?_
  refine lv_iconst (v := nI 1) hx hb dX5_weather_2 (by decide +kernel) ?_
  refine lv_bipush (v := nI 60) hx hb dX5_weather_3 (by decide +kernel) ?_
  refine cl_Si (As := [.long ((z).toInt64), .int (nI 1), .int (nI 60)]) (rest := []) ⟨hx, hb, hml, hown, hts⟩ (M_X5_in2 l D cI cJ ((z).toInt64) (nI 1) (nI 60) z.toInt ((1 : Nat) : Int) ((60 : Nat) : Int) ((Int32.toInt_toInt64 _).trans rfl) (nI_toInt (n := 1) (by decide)) (nI_toInt (n := 60) (by decide))) (va_cwS 3 hts gX5_weather_X5_in rfl rfl rfl qX5_in ⟨Nat.le_of_ble_eq_true rfl, Nat.le_of_ble_eq_true rfl⟩) E0_good hK hA hW trivial [] (fun _ => [mH mo R, mR cI (mo 1) G, mR cI (mo 3) Wa, aI cI (mo 4) 7 F]) rfl (fun _ => rfl) (fun _ => rfl) rfl hl.1 rfl (lv_room (Nat.le_of_ble_eq_true rfl)) dX5_weather_5 ⟨Nat.zero_le _, Nat.zero_le _⟩ (fun _ H locs _ hW => ?_)
  have hin_ := inZ_or z.toInt ((1 : Nat) : Int) ((60 : Nat) : Int)
  refine nn_zne (tgt := 18) hx hb dX5_weather_8 (by decide) (by omega) (fun c8 => ?_) (fun c8 => ?_)
  · obtain ⟨y, hy, ey⟩ : ∃ y : Nat, z = nI y ∧ z.toInt = (y : Int) := ⟨z.toInt.toNat, nI_ofZ rfl (by omega), by omega⟩
    rw [hy] at hl
    refine lv_aload_n hx hb dX5_weather_18 rfl (lv_at hl 0 rfl) ?_
    refine cl_Vv (As := []) (rest := []) (C := RX5) ⟨hx, hb, hml, hown, hts⟩ (M_X5_thinks l D cI cJ mo R G Wa ) (cwV 0 hts gX5_weather_X5_thinks rfl rfl rfl qX5_thinks ⟨Nat.le_of_ble_eq_true rfl, Nat.le_of_ble_eq_true rfl⟩) E0_good hK hA hW trivial [true, true, true] (fun _ => [mH mo R, mR cI (mo 1) G, mR cI (mo 3) G, aI cI (mo 4) 7 F]) rfl (fun _ => rfl) (fun _ => rfl) 0 0 rfl rfl rfl rfl hl.1 rfl (lv_room (Nat.le_of_ble_eq_true rfl)) dX5_weather_19 ⟨Nat.zero_le _, Nat.zero_le _⟩ (fun _ H locs _ hW => ?_)
    refine lv_aload_n hx hb dX5_weather_22 rfl (lv_at hl 0 rfl) ?_
    refine lv_iload_n hx hb dX5_weather_23 rfl (lv_at hl 1 rfl) ?_
    refine cl_Vi (As := [.int (nI y)]) (rest := []) (C := RX5) ⟨hx, hb, hml, hown, hts⟩ (M_X5_turnedOn l D cI cJ mo R G G 99999 (by decide) hG y (by omega)) (cwV 1 hts gX5_weather_X5_turnedOn rfl rfl rfl qX5_turnedOn ⟨Nat.le_of_ble_eq_true rfl, Nat.le_of_ble_eq_true rfl⟩) E0_good hK hA hW trivial [true, true, true] (fun _ => [mH mo R, mR cI (mo 1) G, mR cI (mo 3) G, aI cI (mo 4) 7 F]) rfl (fun _ => rfl) (fun _ => rfl) 0 0 rfl rfl rfl rfl hl.1 rfl (lv_room (Nat.le_of_ble_eq_true rfl)) dX5_weather_24 ⟨Nat.zero_le _, Nat.zero_le _⟩ (fun _ H locs _ hW => ?_)
    refine lv_istore_n (lv' := [(2, .int (nI (stepN G y 32))), (0, .ref (mo 0)), (1, .int (nI y))]) hx hb dX5_weather_27 rfl hl (by decide) rfl (fun ls hl => ?_)
    refine lv_iconst (v := nI 0) hx hb dX5_weather_28 (by decide +kernel) ?_
    refine lv_istore_n (lv' := [(3, .int (nI 0)), (2, .int (nI (stepN G y 32))), (0, .ref (mo 0)), (1, .int (nI y))]) hx hb dX5_weather_29 rfl hl (by decide) rfl (fun ls hl => ?_)
    refine lv_iconst (v := -1) hx hb dX5_weather_30 (by decide +kernel) ?_
    refine lv_istore (lv' := [(4, .int (-1)), (3, .int (nI 0)), (2, .int (nI (stepN G y 32))), (0, .ref (mo 0)), (1, .int (nI y))]) hx hb dX5_weather_31 hl (by decide) rfl (fun ls hl => ?_)
    refine lv_iconst (v := nI 0) hx hb dX5_weather_33 (by decide +kernel) ?_
    refine lv_istore (lv' := [(5, .int (nI 0)), (4, .int (-1)), (3, .int (nI 0)), (2, .int (nI (stepN G y 32))), (0, .ref (mo 0)), (1, .int (nI y))]) hx hb dX5_weather_34 hl (by decide) rfl (fun ls hl => ?_)
    have lp36 : ∀ (n : Nat) (k : Nat) (kb : Nat) (pp : Nat), 5 - k < n → k ≤ 5 → weathSt G y k = (kb, pp) → ∀ (H : Heap) (locs : List Loc), Wo D vwCl A s.heap H locs [mH mo R, mR cI (mo 1) G, mR cI (mo 3) G, aI cI (mo 4) 7 F] → ∀ ls : Array Slot, lv_has ls 7 [(5, .int (nI k)), (4, .int (bst pp)), (3, .int (nI kb)), (2, .int (nI (stepN G y 32))), (0, .ref (mo 0)), (1, .int (nI y))] → W p l e rmX5_weather s m args below meth c H locs 0 0 Q (F0 m 36 ls []) := by
      intro n
      induction n with
      | zero => intro k kb pp hm; exact absurd hm (Nat.not_lt_zero _)
      | succ n ih =>
        intro k kb pp hm hi hst H locs hW ls hl
        have hstl := weathSt_le hG y k hi
        rw [hst] at hstl
        have hstl1 : kb ≤ k ∧ pp ≤ 1000000 := hstl
        refine lv_iload hx hb dX5_weather_36 (lv_at hl 0 rfl) ?_
        refine lv_iconst (v := nI 5) hx hb dX5_weather_38 (by decide +kernel) ?_
        refine nn_cge (tgt := 115) hx hb dX5_weather_39 (by decide) (by omega) (by decide) (fun c39 => ?_) (fun c39 => ?_)
        · have hsx : weathSt G y 5 = (kb, pp) := by rw [← show k = 5 by omega]; exact hst
          refine lv_iload_n hx hb dX5_weather_115 rfl (lv_at hl 2 rfl) ?_
          exact rt_i hQ hx hb hr hlocks hW dX5_weather_116 G (by (try simp only [weatherV, ey, hsx, Int.toNat_natCast]); (repeat' split) <;> first | rfl | (exfalso; omega)) trivial (by (try simp only [weatherF, ey, hsx, Int.toNat_natCast]); (repeat' split) <;> first | rfl | (exfalso; omega))
        · have hxr := rain_x (G 8) (by omega) k (by omega)
          have htl := turned_le (hG.s8 (v := G 8 ^^^ 1 * 2 ^ k) hxr) y
          have htl0 := turned_le hG y
          have hwd9 : weathD G y k ≤ 999999 := by unfold weathD absD; split <;> omega
          refine lv_aload_n hx hb dX5_weather_42 rfl (lv_at hl 4 rfl) ?_
          refine sg_get (ci := 4) (C := RX5) (T := TX5) (N := 15) (v := .ref (mo 1)) hx hb hts (fun _ h => List.mem_cons_of_mem _ (List.mem_append_right _ h)) hown hK hW 0 0 rfl rfl rfl 0 (by decide) (hts _ (List.mem_of_getElem? (i := 2) rfl)) rfl dX5_weather_43 ?_
          refine lv_iconst (v := nI 1) hx hb dX5_weather_46 (by decide +kernel) ?_
          refine lv_dup2_11 hx hb dX5_weather_47 rfl rfl ?_
          refine sg_ild (v := nI (G 8)) hx hb hK hW 1 0 0 rfl rfl rfl (by decide) (by decide) rfl dX5_weather_48 ?_
          refine lv_iconst (v := nI 1) hx hb dX5_weather_49 (by decide +kernel) ?_
          refine lv_iload hx hb dX5_weather_50 (lv_at hl 0 rfl) ?_
          refine nn_shl hx hb dX5_weather_52 (by omega) ?_
          refine nn_xor hx hb dX5_weather_53 ?_
          refine sg_ist hx hb hK hW 1 0 0 rfl rfl rfl (by decide) (by decide) (mR_set cI (mo 1) G 1 ((G 8) ^^^ (1 * 2 ^ k))) (ss' := [mH mo R, mR cI (mo 1) (up G 8 ((G 8) ^^^ (1 * 2 ^ k))), mR cI (mo 3) G, aI cI (mo 4) 7 F]) rfl dX5_weather_54 (fun H locs hW => ?_)
          refine lv_aload_n hx hb dX5_weather_55 rfl (lv_at hl 4 rfl) ?_
          refine lv_iload_n hx hb dX5_weather_56 rfl (lv_at hl 5 rfl) ?_
          refine cl_Vi (As := [.int (nI y)]) (rest := []) (C := RX5) ⟨hx, hb, hml, hown, hts⟩ (M_X5_turnedOn l D cI cJ mo R (up G 8 ((G 8) ^^^ (1 * 2 ^ k))) G 99999 (by decide) (hG.s8 (v := G 8 ^^^ 1 * 2 ^ k) hxr) y (by omega)) (cwV 1 hts gX5_weather_X5_turnedOn rfl rfl rfl qX5_turnedOn ⟨Nat.le_of_ble_eq_true rfl, Nat.le_of_ble_eq_true rfl⟩) E0_good hK hA hW trivial [true, true, true] (fun _ => [mH mo R, mR cI (mo 1) G, mR cI (mo 3) G, aI cI (mo 4) 7 F]) rfl (fun _ => rfl) (fun _ => rfl) 0 0 rfl rfl rfl rfl hl.1 rfl (lv_room (Nat.le_of_ble_eq_true rfl)) dX5_weather_57 ⟨Nat.zero_le _, Nat.zero_le _⟩ (fun _ H locs _ hW => ?_)
          refine lv_iload_n hx hb dX5_weather_60 rfl (lv_at hl 3 rfl) ?_
          refine lv_isub hx hb dX5_weather_61 ?_
          refine lv_istore (lv' := [(6, .int ((nI (stepN (up G 8 ((G 8) ^^^ (1 * 2 ^ k))) y 32)) - (nI (stepN G y 32)))), (5, .int (nI k)), (4, .int (bst pp)), (3, .int (nI kb)), (2, .int (nI (stepN G y 32))), (0, .ref (mo 0)), (1, .int (nI y))]) hx hb dX5_weather_62 hl (by decide) rfl (fun ls hl => ?_)
          refine lv_iload hx hb dX5_weather_64 (lv_at hl 0 rfl) ?_
          refine zz_zge (tgt := 75) hx hb dX5_weather_66 (by decide) (pk_sub_toInt (by omega) (by omega)) (fun c66 => ?_) (fun c66 => ?_)
          · refine lv_iload hx hb dX5_weather_75 (lv_at hl 0 rfl) ?_
            refine W.top (v' := .int (nI (weathD G y k))) (congrArg Value.int (ab_pos (by omega))) ?_
            refine lv_istore (lv' := [(6, .int (nI (weathD G y k))), (5, .int (nI k)), (4, .int (bst pp)), (3, .int (nI kb)), (2, .int (nI (stepN G y 32))), (0, .ref (mo 0)), (1, .int (nI y))]) hx hb dX5_weather_77 hl (by decide) rfl (fun ls hl => ?_)
            refine lv_iload hx hb dX5_weather_79 (lv_at hl 0 rfl) ?_
            refine lv_iload hx hb dX5_weather_81 (lv_at hl 2 rfl) ?_
            refine zz_cle (tgt := 91) hx hb dX5_weather_83 (by decide) (nI_toInt (n := weathD G y k) (by omega)) (bst_toInt (o := pp) (by omega)) (fun c83 => ?_) (fun c83 => ?_)
            · refine lv_iload_n hx hb dX5_weather_91 rfl (lv_at hl 3 rfl) ?_
              refine lv_istore_n (lv' := [(3, .int (nI kb)), (6, .int (nI (weathD G y k))), (5, .int (nI k)), (4, .int (bst pp)), (2, .int (nI (stepN G y 32))), (0, .ref (mo 0)), (1, .int (nI y))]) hx hb dX5_weather_92 rfl hl (by decide) rfl (fun ls hl => ?_)
              refine lv_iload hx hb dX5_weather_93 (lv_at hl 1 rfl) ?_
              refine lv_iload hx hb dX5_weather_95 (lv_at hl 3 rfl) ?_
              refine zz_cle (tgt := 105) hx hb dX5_weather_97 (by decide) (nI_toInt (n := weathD G y k) (by omega)) (bst_toInt (o := pp) (by omega)) (fun c97 => ?_) (fun c97 => ?_)
              · refine lv_iload hx hb dX5_weather_105 (lv_at hl 3 rfl) ?_
                refine lv_istore (lv' := [(4, .int (bst pp)), (3, .int (nI kb)), (6, .int (nI (weathD G y k))), (5, .int (nI k)), (2, .int (nI (stepN G y 32))), (0, .ref (mo 0)), (1, .int (nI y))]) hx hb dX5_weather_107 hl (by decide) rfl (fun ls hl => ?_)
                have hst2 : weathSt G y (k + 1) = (kb, pp) := by
                  show (if (weathSt G y k).2 < weathD G y k + 1 then (k, weathD G y k + 1) else weathSt G y k) = _
                  rw [hst, if_neg (by show ¬ pp < _; omega)]
                refine lv_iinc (v := nI (k + 1)) (lv' := [(5, .int (nI (k + 1))), (4, .int (bst pp)), (3, .int (nI kb)), (6, .int (nI (weathD G y k))), (2, .int (nI (stepN G y 32))), (0, .ref (mo 0)), (1, .int (nI y))]) hx hb dX5_weather_109 hl (k := 3) rfl (nI_add _ 1) (by decide) rfl (fun ls hl => ?_)
                refine lv_goto (tgt := 36) hx hb dX5_weather_112 (by decide) ?_
                exact ih (k + 1) kb pp (by omega) (by omega) hst2 _ _ hW _ (lv_sub hl [0, 1, 2, 4, 5, 6] rfl)
              · exfalso; omega
            · refine lv_iload hx hb dX5_weather_86 (lv_at hl 1 rfl) ?_
              refine lv_goto (tgt := 92) hx hb dX5_weather_88 (by decide) ?_
              refine lv_istore_n (lv' := [(3, .int (nI k)), (6, .int (nI (weathD G y k))), (5, .int (nI k)), (4, .int (bst pp)), (2, .int (nI (stepN G y 32))), (0, .ref (mo 0)), (1, .int (nI y))]) hx hb dX5_weather_92 rfl hl (by decide) rfl (fun ls hl => ?_)
              refine lv_iload hx hb dX5_weather_93 (lv_at hl 1 rfl) ?_
              refine lv_iload hx hb dX5_weather_95 (lv_at hl 3 rfl) ?_
              refine zz_cle (tgt := 105) hx hb dX5_weather_97 (by decide) (nI_toInt (n := weathD G y k) (by omega)) (bst_toInt (o := pp) (by omega)) (fun c97_1 => ?_) (fun c97_1 => ?_)
              · exfalso; omega
              · refine lv_iload hx hb dX5_weather_100 (lv_at hl 1 rfl) ?_
                refine lv_goto (tgt := 107) hx hb dX5_weather_102 (by decide) ?_
                refine lv_istore (lv' := [(4, .int (nI (weathD G y k))), (3, .int (nI k)), (6, .int (nI (weathD G y k))), (5, .int (nI k)), (2, .int (nI (stepN G y 32))), (0, .ref (mo 0)), (1, .int (nI y))]) hx hb dX5_weather_107 hl (by decide) rfl (fun ls hl => ?_)
                have hst2 : weathSt G y (k + 1) = (k, weathD G y k + 1) := by
                  show (if (weathSt G y k).2 < weathD G y k + 1 then (k, weathD G y k + 1) else weathSt G y k) = _
                  rw [hst, if_pos (by show pp < _; omega)]
                have hb1 : nI (weathD G y k) = bst (weathD G y k + 1) := (if_neg (Nat.succ_ne_zero _)).symm
                have hl : lv_has ls 7 [(4, .int (bst (weathD G y k + 1))), (3, .int (nI k)), (6, .int (nI (weathD G y k))), (5, .int (nI k)), (2, .int (nI (stepN G y 32))), (0, .ref (mo 0)), (1, .int (nI y))] := by rw [← hb1]; exact hl
                refine lv_iinc (v := nI (k + 1)) (lv' := [(5, .int (nI (k + 1))), (4, .int (bst (weathD G y k + 1))), (3, .int (nI k)), (6, .int (nI (weathD G y k))), (2, .int (nI (stepN G y 32))), (0, .ref (mo 0)), (1, .int (nI y))]) hx hb dX5_weather_109 hl (k := 3) rfl (nI_add _ 1) (by decide) rfl (fun ls hl => ?_)
                refine lv_goto (tgt := 36) hx hb dX5_weather_112 (by decide) ?_
                exact ih (k + 1) k (weathD G y k + 1) (by omega) (by omega) hst2 _ _ hW _ (lv_sub hl [0, 1, 2, 4, 5, 6] rfl)
          · refine lv_iload hx hb dX5_weather_69 (lv_at hl 0 rfl) ?_
            refine lv_ineg hx hb dX5_weather_71 ?_
            refine W.top (v' := .int (nI (weathD G y k))) (congrArg Value.int (ab_neg (by omega))) ?_
            refine lv_goto (tgt := 77) hx hb dX5_weather_72 (by decide) ?_
            refine lv_istore (lv' := [(6, .int (nI (weathD G y k))), (5, .int (nI k)), (4, .int (bst pp)), (3, .int (nI kb)), (2, .int (nI (stepN G y 32))), (0, .ref (mo 0)), (1, .int (nI y))]) hx hb dX5_weather_77 hl (by decide) rfl (fun ls hl => ?_)
            refine lv_iload hx hb dX5_weather_79 (lv_at hl 0 rfl) ?_
            refine lv_iload hx hb dX5_weather_81 (lv_at hl 2 rfl) ?_
            refine zz_cle (tgt := 91) hx hb dX5_weather_83 (by decide) (nI_toInt (n := weathD G y k) (by omega)) (bst_toInt (o := pp) (by omega)) (fun c83_1 => ?_) (fun c83_1 => ?_)
            · refine lv_iload_n hx hb dX5_weather_91 rfl (lv_at hl 3 rfl) ?_
              refine lv_istore_n (lv' := [(3, .int (nI kb)), (6, .int (nI (weathD G y k))), (5, .int (nI k)), (4, .int (bst pp)), (2, .int (nI (stepN G y 32))), (0, .ref (mo 0)), (1, .int (nI y))]) hx hb dX5_weather_92 rfl hl (by decide) rfl (fun ls hl => ?_)
              refine lv_iload hx hb dX5_weather_93 (lv_at hl 1 rfl) ?_
              refine lv_iload hx hb dX5_weather_95 (lv_at hl 3 rfl) ?_
              refine zz_cle (tgt := 105) hx hb dX5_weather_97 (by decide) (nI_toInt (n := weathD G y k) (by omega)) (bst_toInt (o := pp) (by omega)) (fun c97_2 => ?_) (fun c97_2 => ?_)
              · refine lv_iload hx hb dX5_weather_105 (lv_at hl 3 rfl) ?_
                refine lv_istore (lv' := [(4, .int (bst pp)), (3, .int (nI kb)), (6, .int (nI (weathD G y k))), (5, .int (nI k)), (2, .int (nI (stepN G y 32))), (0, .ref (mo 0)), (1, .int (nI y))]) hx hb dX5_weather_107 hl (by decide) rfl (fun ls hl => ?_)
                have hst2 : weathSt G y (k + 1) = (kb, pp) := by
                  show (if (weathSt G y k).2 < weathD G y k + 1 then (k, weathD G y k + 1) else weathSt G y k) = _
                  rw [hst, if_neg (by show ¬ pp < _; omega)]
                refine lv_iinc (v := nI (k + 1)) (lv' := [(5, .int (nI (k + 1))), (4, .int (bst pp)), (3, .int (nI kb)), (6, .int (nI (weathD G y k))), (2, .int (nI (stepN G y 32))), (0, .ref (mo 0)), (1, .int (nI y))]) hx hb dX5_weather_109 hl (k := 3) rfl (nI_add _ 1) (by decide) rfl (fun ls hl => ?_)
                refine lv_goto (tgt := 36) hx hb dX5_weather_112 (by decide) ?_
                exact ih (k + 1) kb pp (by omega) (by omega) hst2 _ _ hW _ (lv_sub hl [0, 1, 2, 4, 5, 6] rfl)
              · exfalso; omega
            · refine lv_iload hx hb dX5_weather_86 (lv_at hl 1 rfl) ?_
              refine lv_goto (tgt := 92) hx hb dX5_weather_88 (by decide) ?_
              refine lv_istore_n (lv' := [(3, .int (nI k)), (6, .int (nI (weathD G y k))), (5, .int (nI k)), (4, .int (bst pp)), (2, .int (nI (stepN G y 32))), (0, .ref (mo 0)), (1, .int (nI y))]) hx hb dX5_weather_92 rfl hl (by decide) rfl (fun ls hl => ?_)
              refine lv_iload hx hb dX5_weather_93 (lv_at hl 1 rfl) ?_
              refine lv_iload hx hb dX5_weather_95 (lv_at hl 3 rfl) ?_
              refine zz_cle (tgt := 105) hx hb dX5_weather_97 (by decide) (nI_toInt (n := weathD G y k) (by omega)) (bst_toInt (o := pp) (by omega)) (fun c97_3 => ?_) (fun c97_3 => ?_)
              · exfalso; omega
              · refine lv_iload hx hb dX5_weather_100 (lv_at hl 1 rfl) ?_
                refine lv_goto (tgt := 107) hx hb dX5_weather_102 (by decide) ?_
                refine lv_istore (lv' := [(4, .int (nI (weathD G y k))), (3, .int (nI k)), (6, .int (nI (weathD G y k))), (5, .int (nI k)), (2, .int (nI (stepN G y 32))), (0, .ref (mo 0)), (1, .int (nI y))]) hx hb dX5_weather_107 hl (by decide) rfl (fun ls hl => ?_)
                have hst2 : weathSt G y (k + 1) = (k, weathD G y k + 1) := by
                  show (if (weathSt G y k).2 < weathD G y k + 1 then (k, weathD G y k + 1) else weathSt G y k) = _
                  rw [hst, if_pos (by show pp < _; omega)]
                have hb2 : nI (weathD G y k) = bst (weathD G y k + 1) := (if_neg (Nat.succ_ne_zero _)).symm
                have hl : lv_has ls 7 [(4, .int (bst (weathD G y k + 1))), (3, .int (nI k)), (6, .int (nI (weathD G y k))), (5, .int (nI k)), (2, .int (nI (stepN G y 32))), (0, .ref (mo 0)), (1, .int (nI y))] := by rw [← hb2]; exact hl
                refine lv_iinc (v := nI (k + 1)) (lv' := [(5, .int (nI (k + 1))), (4, .int (bst (weathD G y k + 1))), (3, .int (nI k)), (6, .int (nI (weathD G y k))), (2, .int (nI (stepN G y 32))), (0, .ref (mo 0)), (1, .int (nI y))]) hx hb dX5_weather_109 hl (k := 3) rfl (nI_add _ 1) (by decide) rfl (fun ls hl => ?_)
                refine lv_goto (tgt := 36) hx hb dX5_weather_112 (by decide) ?_
                exact ih (k + 1) k (weathD G y k + 1) (by omega) (by omega) hst2 _ _ hW _ (lv_sub hl [0, 1, 2, 4, 5, 6] rfl)
    exact lp36 (5 - 0 + 1) 0 0 0 (Nat.lt_succ_self _) (by omega) rfl _ _ hW _ (lv_sub hl [0, 1, 2, 3, 4, 5] rfl)
  · refine lv_aload_n hx hb dX5_weather_11 rfl (lv_at hl 0 rfl) ?_
    refine lv_ldc (v := -1000000001) hx hb hown (hts _ (List.mem_of_getElem? (i := 1) rfl)) dX5_weather_12 ?_
    refine cl_Vi (As := [.int (-1000000001)]) (rest := []) (C := RX5) ⟨hx, hb, hml, hown, hts⟩ (M_X5_finds l D cI cJ mo R F 0 (by decide) (-1000000001) (by decide +kernel)) (cwV 1 hts gX5_weather_X5_finds rfl rfl rfl qX5_finds ⟨Nat.le_of_ble_eq_true rfl, Nat.le_of_ble_eq_true rfl⟩) E0_good hK hA hW trivial [true, false, false, true] (fun _ => [mH mo R, mR cI (mo 1) G, mR cI (mo 3) Wa, aI cI (mo 4) 7 (up F 0 (F 0 + 1))]) rfl (fun _ => rfl) (fun _ => rfl) 0 0 rfl rfl rfl rfl hl.1 rfl (lv_room (Nat.le_of_ble_eq_true rfl)) dX5_weather_14 ⟨Nat.zero_le _, Nat.zero_le _⟩ (fun _ H locs _ hW => ?_)
    exact rt_i hQ hx hb hr hlocks hW dX5_weather_17 Wa (by (try simp only [weatherV]); (repeat' split) <;> first | rfl | (exfalso; omega)) trivial (by (try simp only [weatherF]); (repeat' split) <;> first | rfl | (exfalso; omega))
theorem deepSt_in (G : Nat → Nat) : ∀ a, (deepSt G a).1 ≤ a ∧ (((deepSt G a).1 = 0 ∧ (deepSt G a).2 = 0) ∨ (1 ≤ (deepSt G a).1 ∧ (deepSt G a).2 = keepsN G ((deepSt G a).1 - 1) + 1))
  | 0 => ⟨Nat.le_refl _, Or.inl ⟨rfl, rfl⟩⟩
  | a + 1 => by
    have h := deepSt_in G a
    show (if G (8 * a + 2) = 1 ∧ (deepSt G a).2 < keepsN G a + 1 then (a + 1, keepsN G a + 1) else deepSt G a).1 ≤ a + 1 ∧ (((if G (8 * a + 2) = 1 ∧ (deepSt G a).2 < keepsN G a + 1 then (a + 1, keepsN G a + 1) else deepSt G a).1 = 0 ∧ (if G (8 * a + 2) = 1 ∧ (deepSt G a).2 < keepsN G a + 1 then (a + 1, keepsN G a + 1) else deepSt G a).2 = 0) ∨ (1 ≤ (if G (8 * a + 2) = 1 ∧ (deepSt G a).2 < keepsN G a + 1 then (a + 1, keepsN G a + 1) else deepSt G a).1 ∧ (if G (8 * a + 2) = 1 ∧ (deepSt G a).2 < keepsN G a + 1 then (a + 1, keepsN G a + 1) else deepSt G a).2 = keepsN G ((if G (8 * a + 2) = 1 ∧ (deepSt G a).2 < keepsN G a + 1 then (a + 1, keepsN G a + 1) else deepSt G a).1 - 1) + 1))
    by_cases q : G (8 * a + 2) = 1 ∧ (deepSt G a).2 < keepsN G a + 1
    · rw [if_pos q]; exact ⟨Nat.le_refl _, Or.inr ⟨Nat.succ_le_succ (Nat.zero_le _), rfl⟩⟩
    · rw [if_neg q]; exact ⟨Nat.le_succ_of_le h.1, h.2⟩
abbrev rmX5_deepest : Room := { frames := 7, cells := 0, slots := 0, locals := 159 }
set_option maxRecDepth 100000 in
set_option maxHeartbeats 4000000 in
theorem M_X5_deepest (l : Launch) (D : va_G) (cI cJ : ClassId) (mo R G Wa F : Nat → Nat) (hG : OkG 99999 G) (z : Int32) : CE E0 l D vwCl [(cI, .int), (cJ, .long)] yX5_deepest wsX5_deepest rmX5_deepest [.ref (mo 0), .int z] [mH mo R, mR cI (mo 1) G, mR cI (mo 3) Wa, aI cI (mo 4) 7 F] (S := (Nat → Nat)) (some (.int (deepestV G z.toInt))) (fun _ => True) (fun Wx : Nat → Nat => [mH mo R, mR cI (mo 1) G, mR cI (mo 3) Wx, aI cI (mo 4) 7 (deepestF G F z.toInt)]) 0 0 := by
  refine CE.ofW (cc := cX5_deepest) (maxL := 4) (ret := (some .int)) (lv := [(0, .ref (mo 0)), (1, .int z)]) (by decide) rfl (Nat.le_of_ble_eq_true rfl) rfl ?_
  intro p e s m args below meth c ls A Q hQ hx hb hml hr hlocks hnm hown hts hK hA hE hW hl
  have hown : s.vm.findClass RX5 = some m.cls := hown
  obtain ⟨hg0, hg8, hg16, hg16b, hg24, hg32, hg40, hg48⟩ := hG.s
  refine lv_iload_n hx hb dX5_deepest_0 rfl (lv_at hl 1 rfl) ?_
  refine lv_i2l (v := (z).toInt64) hx hb dX5_deepest_1 rfl ?_
  refine lv_iconst (v := nI 0) hx hb dX5_deepest_2 (by decide +kernel) ?_
  refine lv_sipush (v := nI 200) hx hb dX5_deepest_3 (by decide +kernel) ?_
  refine cl_Si (As := [.long ((z).toInt64), .int (nI 0), .int (nI 200)]) (rest := []) ⟨hx, hb, hml, hown, hts⟩ (M_X5_in2 l D cI cJ ((z).toInt64) (nI 0) (nI 200) z.toInt ((0 : Nat) : Int) ((200 : Nat) : Int) ((Int32.toInt_toInt64 _).trans rfl) (nI_toInt (n := 0) (by decide)) (nI_toInt (n := 200) (by decide))) (va_cwS 3 hts gX5_deepest_X5_in rfl rfl rfl qX5_in ⟨Nat.le_of_ble_eq_true rfl, Nat.le_of_ble_eq_true rfl⟩) E0_good hK hA hW trivial [] (fun _ => [mH mo R, mR cI (mo 1) G, mR cI (mo 3) Wa, aI cI (mo 4) 7 F]) rfl (fun _ => rfl) (fun _ => rfl) rfl hl.1 rfl (lv_room (Nat.le_of_ble_eq_true rfl)) dX5_deepest_6 ⟨Nat.zero_le _, Nat.zero_le _⟩ (fun _ H locs _ hW => ?_)
  have hin_ := inZ_or z.toInt ((0 : Nat) : Int) ((200 : Nat) : Int)
  refine nn_zne (tgt := 19) hx hb dX5_deepest_9 (by decide) (by omega) (fun c9 => ?_) (fun c9 => ?_)
  · obtain ⟨y, hy, ey⟩ : ∃ y : Nat, z = nI y ∧ z.toInt = (y : Int) := ⟨z.toInt.toNat, nI_ofZ rfl (by omega), by omega⟩
    rw [hy] at hl
    refine lv_aload_n hx hb dX5_deepest_19 rfl (lv_at hl 0 rfl) ?_
    refine cl_Vv (As := []) (rest := []) (C := RX5) ⟨hx, hb, hml, hown, hts⟩ (M_X5_thinks l D cI cJ mo R G Wa ) (cwV 0 hts gX5_deepest_X5_thinks rfl rfl rfl qX5_thinks ⟨Nat.le_of_ble_eq_true rfl, Nat.le_of_ble_eq_true rfl⟩) E0_good hK hA hW trivial [true, true, true] (fun _ => [mH mo R, mR cI (mo 1) G, mR cI (mo 3) G, aI cI (mo 4) 7 F]) rfl (fun _ => rfl) (fun _ => rfl) 0 0 rfl rfl rfl rfl hl.1 rfl (lv_room (Nat.le_of_ble_eq_true rfl)) dX5_deepest_20 ⟨Nat.zero_le _, Nat.zero_le _⟩ (fun _ H locs _ hW => ?_)
    refine lv_aload_n hx hb dX5_deepest_23 rfl (lv_at hl 0 rfl) ?_
    refine lv_iload_n hx hb dX5_deepest_24 rfl (lv_at hl 1 rfl) ?_
    refine cl_Vv (As := [.int (nI y)]) (rest := []) (C := RX5) ⟨hx, hb, hml, hown, hts⟩ (M_X5_goesFor l D cI cJ mo R G 99999 (by decide) hG y (by omega)) (cwV 1 hts gX5_deepest_X5_goesFor rfl rfl rfl qX5_goesFor ⟨Nat.le_of_ble_eq_true rfl, Nat.le_of_ble_eq_true rfl⟩) E0_good hK hA hW trivial [true, true] (fun _ => [mH mo R, mR cI (mo 1) (stepN G y), mR cI (mo 3) G, aI cI (mo 4) 7 F]) rfl (fun _ => rfl) (fun _ => rfl) 0 0 rfl rfl rfl rfl hl.1 rfl (lv_room (Nat.le_of_ble_eq_true rfl)) dX5_deepest_25 ⟨Nat.zero_le _, Nat.zero_le _⟩ (fun _ H locs _ hW => ?_)
    have hTy := stepN_ok hG y
    have h40y := stepN_40 G y
    refine lv_iconst (v := -1) hx hb dX5_deepest_28 (by decide +kernel) ?_
    refine lv_istore_n (lv' := [(2, .int (-1)), (0, .ref (mo 0)), (1, .int (nI y))]) hx hb dX5_deepest_29 rfl hl (by decide) rfl (fun ls hl => ?_)
    refine lv_iconst (v := nI 0) hx hb dX5_deepest_30 (by decide +kernel) ?_
    refine lv_istore_n (lv' := [(3, .int (nI 0)), (2, .int (-1)), (0, .ref (mo 0)), (1, .int (nI y))]) hx hb dX5_deepest_31 rfl hl (by decide) rfl (fun ls hl => ?_)
    have lp32 : ∀ (n : Nat) (i : Nat) (o : Nat) (pp : Nat), G 40 - i < n → i ≤ G 40 → deepSt (stepN G y) i = (o, pp) → ∀ (H : Heap) (locs : List Loc), Wo D vwCl A s.heap H locs [mH mo R, mR cI (mo 1) (stepN G y), mR cI (mo 3) G, aI cI (mo 4) 7 F] → ∀ ls : Array Slot, lv_has ls 4 [(3, .int (nI i)), (2, .int (bst o)), (0, .ref (mo 0)), (1, .int (nI y))] → W p l e rmX5_deepest s m args below meth c H locs 0 0 Q (F0 m 32 ls []) := by
      intro n
      induction n with
      | zero => intro i o pp hm; exact absurd hm (Nat.not_lt_zero _)
      | succ n ih =>
        intro i o pp hm hi hst H locs hW ls hl
        have hstl := deepSt_in (stepN G y) i
        rw [hst] at hstl
        have hstl1 : o ≤ i ∧ ((o = 0 ∧ pp = 0) ∨ (1 ≤ o ∧ pp = keepsN (stepN G y) (o - 1) + 1)) := hstl
        refine lv_iload_n hx hb dX5_deepest_32 rfl (lv_at hl 0 rfl) ?_
        refine lv_aload_n hx hb dX5_deepest_33 rfl (lv_at hl 2 rfl) ?_
        refine sg_get (ci := 4) (C := RX5) (T := TX5) (N := 15) (v := .ref (mo 1)) hx hb hts (fun _ h => List.mem_cons_of_mem _ (List.mem_append_right _ h)) hown hK hW 0 0 rfl rfl rfl 0 (by decide) (hts _ (List.mem_of_getElem? (i := 2) rfl)) rfl dX5_deepest_34 ?_
        refine lv_iconst (v := nI 5) hx hb dX5_deepest_37 (by decide +kernel) ?_
        refine sg_ild (v := nI ((stepN G y) 40)) hx hb hK hW 1 0 0 rfl rfl rfl (by decide) (by decide) rfl dX5_deepest_38 ?_
        refine nn_cge (tgt := 81) hx hb dX5_deepest_39 (by decide) (by omega) (by omega) (fun c39 => ?_) (fun c39 => ?_)
        · have hsx : deepSt (stepN G y) (G 40) = (o, pp) := by rw [← show i = G 40 by omega]; exact hst
          refine lv_aload_n hx hb dX5_deepest_81 rfl (lv_at hl 2 rfl) ?_
          refine cl_Vv (As := []) (rest := []) (C := RX5) ⟨hx, hb, hml, hown, hts⟩ (M_X5_putsBack l D cI cJ mo R (stepN G y) G ) (cwV 0 hts gX5_deepest_X5_putsBack rfl rfl rfl qX5_putsBack ⟨Nat.le_of_ble_eq_true rfl, Nat.le_of_ble_eq_true rfl⟩) E0_good hK hA hW trivial [true, true, true] (fun _ => [mH mo R, mR cI (mo 1) G, mR cI (mo 3) G, aI cI (mo 4) 7 F]) rfl (fun _ => rfl) (fun _ => rfl) 0 0 rfl rfl rfl rfl hl.1 rfl (lv_room (Nat.le_of_ble_eq_true rfl)) dX5_deepest_82 ⟨Nat.zero_le _, Nat.zero_le _⟩ (fun _ H locs _ hW => ?_)
          refine lv_aload_n hx hb dX5_deepest_85 rfl (lv_at hl 2 rfl) ?_
          refine lv_iload_n hx hb dX5_deepest_86 rfl (lv_at hl 1 rfl) ?_
          refine cl_Vi (As := [.int (bst o)]) (rest := []) (C := RX5) ⟨hx, hb, hml, hown, hts⟩ (M_X5_orNone l D cI cJ mo R F o (by omega)) (cwV 1 hts gX5_deepest_X5_orNone rfl rfl rfl qX5_orNone ⟨Nat.le_of_ble_eq_true rfl, Nat.le_of_ble_eq_true rfl⟩) E0_good hK hA hW trivial [true, false, false, true] (fun _ => [mH mo R, mR cI (mo 1) G, mR cI (mo 3) G, aI cI (mo 4) 7 (orF F o)]) rfl (fun _ => rfl) (fun _ => rfl) 0 0 rfl rfl rfl rfl hl.1 rfl (lv_room (Nat.le_of_ble_eq_true rfl)) dX5_deepest_87 ⟨Nat.zero_le _, Nat.zero_le _⟩ (fun _ H locs _ hW => ?_)
          exact rt_i hQ hx hb hr hlocks hW dX5_deepest_90 G (by (try simp only [deepestV, ey, hsx, Int.toNat_natCast]); (repeat' split) <;> first | rfl | (exfalso; omega)) trivial (by (try simp only [deepestF, ey, hsx, Int.toNat_natCast]); (repeat' split) <;> first | rfl | (exfalso; omega))
        · have hmi := hTy.m i (by omega)
          have hki := keepsN_le hTy (a := i) (by omega)
          refine lv_aload_n hx hb dX5_deepest_42 rfl (lv_at hl 2 rfl) ?_
          refine lv_iload_n hx hb dX5_deepest_43 rfl (lv_at hl 0 rfl) ?_
          refine lv_iconst (v := nI 1) hx hb dX5_deepest_44 (by decide +kernel) ?_
          refine cl_Vi (As := [.int (nI i), .int (nI 1)]) (rest := []) (C := RX5) ⟨hx, hb, hml, hown, hts⟩ (M_X5_it l D cI cJ mo R (stepN G y) i 1 2 (by omega) (by decide) rfl) (cwV 2 hts gX5_deepest_X5_it rfl rfl rfl qX5_it ⟨Nat.le_of_ble_eq_true rfl, Nat.le_of_ble_eq_true rfl⟩) E0_good hK hA hW trivial [true, true] (fun _ => [mH mo R, mR cI (mo 1) (stepN G y), mR cI (mo 3) G, aI cI (mo 4) 7 F]) rfl (fun _ => rfl) (fun _ => rfl) 0 0 rfl rfl rfl rfl hl.1 rfl (lv_room (Nat.le_of_ble_eq_true rfl)) dX5_deepest_45 ⟨Nat.zero_le _, Nat.zero_le _⟩ (fun _ H locs _ hW => ?_)
          refine lv_iconst (v := nI 1) hx hb dX5_deepest_48 (by decide +kernel) ?_
          refine nn_cne (tgt := 73) hx hb dX5_deepest_49 (by decide) (by omega) (by decide) (fun c49 => ?_) (fun c49 => ?_)
          · refine lv_iload_n hx hb dX5_deepest_73 rfl (lv_at hl 1 rfl) ?_
            refine lv_istore_n (lv' := [(2, .int (bst o)), (3, .int (nI i)), (0, .ref (mo 0)), (1, .int (nI y))]) hx hb dX5_deepest_74 rfl hl (by decide) rfl (fun ls hl => ?_)
            have hst2 : deepSt (stepN G y) (i + 1) = (o, pp) := by
              show (if stepN G y (8 * i + 2) = 1 ∧ (deepSt (stepN G y) i).2 < keepsN (stepN G y) i + 1 then (i + 1, keepsN (stepN G y) i + 1) else deepSt (stepN G y) i) = _
              rw [hst, if_neg (by show ¬ (_ ∧ pp < _); omega)]
            refine lv_iinc (v := nI (i + 1)) (lv' := [(3, .int (nI (i + 1))), (2, .int (bst o)), (0, .ref (mo 0)), (1, .int (nI y))]) hx hb dX5_deepest_75 hl (k := 1) rfl (nI_add _ 1) (by decide) rfl (fun ls hl => ?_)
            refine lv_goto (tgt := 32) hx hb dX5_deepest_78 (by decide) ?_
            exact ih (i + 1) o pp (by omega) (by omega) hst2 _ _ hW _ (lv_sub hl [0, 1, 2, 3] rfl)
          · refine lv_iload_n hx hb dX5_deepest_52 rfl (lv_at hl 1 rfl) ?_
            refine zz_zlt (tgt := 69) hx hb dX5_deepest_53 (by decide) (bst_toInt (o := o) (by omega)) (fun c53 => ?_) (fun c53 => ?_)
            · refine lv_iload_n hx hb dX5_deepest_69 rfl (lv_at hl 0 rfl) ?_
              refine lv_goto (tgt := 74) hx hb dX5_deepest_70 (by decide) ?_
              refine lv_istore_n (lv' := [(2, .int (nI i)), (3, .int (nI i)), (0, .ref (mo 0)), (1, .int (nI y))]) hx hb dX5_deepest_74 rfl hl (by decide) rfl (fun ls hl => ?_)
              have hst2 : deepSt (stepN G y) (i + 1) = (i + 1, keepsN (stepN G y) i + 1) := by
                show (if stepN G y (8 * i + 2) = 1 ∧ (deepSt (stepN G y) i).2 < keepsN (stepN G y) i + 1 then (i + 1, keepsN (stepN G y) i + 1) else deepSt (stepN G y) i) = _
                rw [hst, if_pos (by show _ ∧ pp < _; omega)]
              have hb1 : nI i = bst (i + 1) := (if_neg (Nat.succ_ne_zero _)).symm
              have hl : lv_has ls 4 [(2, .int (bst (i + 1))), (3, .int (nI i)), (0, .ref (mo 0)), (1, .int (nI y))] := by rw [← hb1]; exact hl
              refine lv_iinc (v := nI (i + 1)) (lv' := [(3, .int (nI (i + 1))), (2, .int (bst (i + 1))), (0, .ref (mo 0)), (1, .int (nI y))]) hx hb dX5_deepest_75 hl (k := 1) rfl (nI_add _ 1) (by decide) rfl (fun ls hl => ?_)
              refine lv_goto (tgt := 32) hx hb dX5_deepest_78 (by decide) ?_
              exact ih (i + 1) (i + 1) (keepsN (stepN G y) i + 1) (by omega) (by omega) hst2 _ _ hW _ (lv_sub hl [0, 1, 2, 3] rfl)
            · have hbo : bst o = nI (o - 1) := if_neg (by omega)
              have hb2 : bst o = nI (o - 1) := hbo
              have hl : lv_has ls 4 [(3, .int (nI i)), (2, .int (nI (o - 1))), (0, .ref (mo 0)), (1, .int (nI y))] := by rw [← hb2]; exact hl
              have hko := keepsN_le hTy (a := o - 1) (by omega)
              refine lv_aload_n hx hb dX5_deepest_56 rfl (lv_at hl 2 rfl) ?_
              refine lv_iload_n hx hb dX5_deepest_57 rfl (lv_at hl 0 rfl) ?_
              refine cl_Vi (As := [.int (nI i)]) (rest := []) (C := RX5) ⟨hx, hb, hml, hown, hts⟩ (M_X5_keepsBack l D cI cJ mo R (stepN G y) (99999 + y) (by omega) (stepN_ok hG y) i (by omega)) (cwV 1 hts gX5_deepest_X5_keepsBack rfl rfl rfl qX5_keepsBack ⟨Nat.le_of_ble_eq_true rfl, Nat.le_of_ble_eq_true rfl⟩) E0_good hK hA hW trivial [true, true] (fun _ => [mH mo R, mR cI (mo 1) (stepN G y), mR cI (mo 3) G, aI cI (mo 4) 7 F]) rfl (fun _ => rfl) (fun _ => rfl) 0 0 rfl rfl rfl rfl hl.1 rfl (lv_room (Nat.le_of_ble_eq_true rfl)) dX5_deepest_58 ⟨Nat.zero_le _, Nat.zero_le _⟩ (fun _ H locs _ hW => ?_)
              refine lv_aload_n hx hb dX5_deepest_61 rfl (lv_at hl 2 rfl) ?_
              refine lv_iload_n hx hb dX5_deepest_62 rfl (lv_at hl 1 rfl) ?_
              refine cl_Vi (As := [.int (nI (o - 1))]) (rest := [.int (nI (keepsN (stepN G y) i))]) (C := RX5) ⟨hx, hb, hml, hown, hts⟩ (M_X5_keepsBack l D cI cJ mo R (stepN G y) (99999 + y) (by omega) (stepN_ok hG y) (o - 1) (by omega)) (cwV 1 hts gX5_deepest_X5_keepsBack rfl rfl rfl qX5_keepsBack ⟨Nat.le_of_ble_eq_true rfl, Nat.le_of_ble_eq_true rfl⟩) E0_good hK hA hW trivial [true, true] (fun _ => [mH mo R, mR cI (mo 1) (stepN G y), mR cI (mo 3) G, aI cI (mo 4) 7 F]) rfl (fun _ => rfl) (fun _ => rfl) 0 0 rfl rfl rfl rfl hl.1 rfl (lv_room (Nat.le_of_ble_eq_true rfl)) dX5_deepest_63 ⟨Nat.zero_le _, Nat.zero_le _⟩ (fun _ H locs _ hW => ?_)
              refine nn_cle (tgt := 73) hx hb dX5_deepest_66 (by decide) (by omega) (by omega) (fun c66 => ?_) (fun c66 => ?_)
              · refine lv_iload_n hx hb dX5_deepest_73 rfl (lv_at hl 1 rfl) ?_
                refine lv_istore_n (lv' := [(2, .int (nI (o - 1))), (3, .int (nI i)), (0, .ref (mo 0)), (1, .int (nI y))]) hx hb dX5_deepest_74 rfl hl (by decide) rfl (fun ls hl => ?_)
                have hst2 : deepSt (stepN G y) (i + 1) = (o, pp) := by
                  show (if stepN G y (8 * i + 2) = 1 ∧ (deepSt (stepN G y) i).2 < keepsN (stepN G y) i + 1 then (i + 1, keepsN (stepN G y) i + 1) else deepSt (stepN G y) i) = _
                  rw [hst, if_neg (by show ¬ (_ ∧ pp < _); omega)]
                have hb3 : nI (o - 1) = bst o := hbo.symm
                have hl : lv_has ls 4 [(2, .int (bst o)), (3, .int (nI i)), (0, .ref (mo 0)), (1, .int (nI y))] := by rw [← hb3]; exact hl
                refine lv_iinc (v := nI (i + 1)) (lv' := [(3, .int (nI (i + 1))), (2, .int (bst o)), (0, .ref (mo 0)), (1, .int (nI y))]) hx hb dX5_deepest_75 hl (k := 1) rfl (nI_add _ 1) (by decide) rfl (fun ls hl => ?_)
                refine lv_goto (tgt := 32) hx hb dX5_deepest_78 (by decide) ?_
                exact ih (i + 1) o pp (by omega) (by omega) hst2 _ _ hW _ (lv_sub hl [0, 1, 2, 3] rfl)
              · refine lv_iload_n hx hb dX5_deepest_69 rfl (lv_at hl 0 rfl) ?_
                refine lv_goto (tgt := 74) hx hb dX5_deepest_70 (by decide) ?_
                refine lv_istore_n (lv' := [(2, .int (nI i)), (3, .int (nI i)), (0, .ref (mo 0)), (1, .int (nI y))]) hx hb dX5_deepest_74 rfl hl (by decide) rfl (fun ls hl => ?_)
                have hst2 : deepSt (stepN G y) (i + 1) = (i + 1, keepsN (stepN G y) i + 1) := by
                  show (if stepN G y (8 * i + 2) = 1 ∧ (deepSt (stepN G y) i).2 < keepsN (stepN G y) i + 1 then (i + 1, keepsN (stepN G y) i + 1) else deepSt (stepN G y) i) = _
                  rw [hst, if_pos (by show _ ∧ pp < _; omega)]
                have hb4 : nI i = bst (i + 1) := (if_neg (Nat.succ_ne_zero _)).symm
                have hl : lv_has ls 4 [(2, .int (bst (i + 1))), (3, .int (nI i)), (0, .ref (mo 0)), (1, .int (nI y))] := by rw [← hb4]; exact hl
                refine lv_iinc (v := nI (i + 1)) (lv' := [(3, .int (nI (i + 1))), (2, .int (bst (i + 1))), (0, .ref (mo 0)), (1, .int (nI y))]) hx hb dX5_deepest_75 hl (k := 1) rfl (nI_add _ 1) (by decide) rfl (fun ls hl => ?_)
                refine lv_goto (tgt := 32) hx hb dX5_deepest_78 (by decide) ?_
                exact ih (i + 1) (i + 1) (keepsN (stepN G y) i + 1) (by omega) (by omega) hst2 _ _ hW _ (lv_sub hl [0, 1, 2, 3] rfl)
    exact lp32 (G 40 - 0 + 1) 0 0 0 (Nat.lt_succ_self _) (by omega) rfl _ _ hW _ (lv_sub hl [0, 1, 2, 3] rfl)
  · refine lv_aload_n hx hb dX5_deepest_12 rfl (lv_at hl 0 rfl) ?_
    refine lv_ldc (v := -1000000001) hx hb hown (hts _ (List.mem_of_getElem? (i := 1) rfl)) dX5_deepest_13 ?_
    refine cl_Vi (As := [.int (-1000000001)]) (rest := []) (C := RX5) ⟨hx, hb, hml, hown, hts⟩ (M_X5_finds l D cI cJ mo R F 0 (by decide) (-1000000001) (by decide +kernel)) (cwV 1 hts gX5_deepest_X5_finds rfl rfl rfl qX5_finds ⟨Nat.le_of_ble_eq_true rfl, Nat.le_of_ble_eq_true rfl⟩) E0_good hK hA hW trivial [true, false, false, true] (fun _ => [mH mo R, mR cI (mo 1) G, mR cI (mo 3) Wa, aI cI (mo 4) 7 (up F 0 (F 0 + 1))]) rfl (fun _ => rfl) (fun _ => rfl) 0 0 rfl rfl rfl rfl hl.1 rfl (lv_room (Nat.le_of_ble_eq_true rfl)) dX5_deepest_15 ⟨Nat.zero_le _, Nat.zero_le _⟩ (fun _ H locs _ hW => ?_)
    exact rt_i hQ hx hb hr hlocks hW dX5_deepest_18 Wa (by (try simp only [deepestV]); (repeat' split) <;> first | rfl | (exfalso; omega)) trivial (by (try simp only [deepestF]); (repeat' split) <;> first | rfl | (exfalso; omega))
