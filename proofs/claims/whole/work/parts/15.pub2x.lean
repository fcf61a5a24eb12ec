theorem qX0_become : yX0_become.cls = RX0 ∧ yX0_become.cls ≠ "java/lang/invoke/MethodHandle" ∧ yX0_become.cls ≠ "java/lang/invoke/VarHandle" ∧ (parseMethodDescriptor yX0_become.desc).map (fun d => d.parameters.length) = some 1 := by decide +kernel
theorem qX4_isNear : yX4_isNear.cls ≠ "java/lang/invoke/MethodHandle" ∧ yX4_isNear.cls ≠ "java/lang/invoke/VarHandle" ∧ (parseMethodDescriptor yX4_isNear.desc).map (fun d => d.parameters.length) = some 1 := by decide +kernel
theorem qX0_flingsOfAll : yX0_flingsOfAll.cls = RX0 ∧ yX0_flingsOfAll.cls ≠ "java/lang/invoke/MethodHandle" ∧ yX0_flingsOfAll.cls ≠ "java/lang/invoke/VarHandle" ∧ (parseMethodDescriptor yX0_flingsOfAll.desc).map (fun d => d.parameters.length) = some 0 := by decide +kernel
abbrev rmX4_on : Room := { frames := 5, cells := 0, slots := 0, locals := 120 }
set_option maxRecDepth 100000 in
set_option maxHeartbeats 4000000 in
theorem M_X4_on (l : Launch) (D : va_G) (cI cJ : ClassId) (x fi ik : Nat) (la ta ka tp sh : Nat → Nat) (G T F : Nat → Nat) (hG : OkG 99999 G) (n v : Int32) : CE E0 l D vwCl [(cI, .int), (cJ, .long)] yX4_on wsX4_on rmX4_on [.ref x, .int n, .int v] [xH x la ta ka tp sh fi ik, gW cI la G, gW cI ta T, aI cI fi 7 F] (S := (Nat → Nat)) (some (.int (onV G n.toInt v.toInt))) (fun _ => True) (fun Tx : Nat → Nat => [xH x la ta ka tp sh fi ik, gW cI la G, gW cI ta Tx, aI cI fi 7 (onF F n.toInt v.toInt)]) 0 0 := by
  refine CE.ofW (cc := cX4_on) (maxL := 3) (ret := (some .int)) (lv := [(0, .ref x), (1, .int n), (2, .int v)]) (by decide) rfl (Nat.le_of_ble_eq_true rfl) rfl ?_
  intro p e s m args below meth c ls A Q hQ hx hb hml hr hlocks hnm hown hts hK hA hE hW hl
  have hown : s.vm.findClass RX4 = some m.cls := hown
  obtain ⟨hg0, hg8, hg16, hg16b, hg24, hg32, hg40, hg48⟩ := hG.s
  refine lv_iload_n hx hb dX4_on_0 rfl (lv_at hl 1 rfl) ?_
  refine zz_zlt (tgt := 20) hx hb dX4_on_1 (by decide) (rfl : n.toInt = n.toInt) (fun c1 => ?_) (fun c1 => ?_)
  · refine lv_aload_n hx hb dX4_on_20 rfl (lv_at hl 0 rfl) ?_
    refine lv_ldc (v := -1000000001) hx hb hown (hts _ (List.mem_of_getElem? (i := 1) rfl)) dX4_on_21 ?_
    refine cl_Vi (As := [.int (-1000000001)]) (rest := []) (C := RX4) ⟨hx, hb, hml, hown, hts⟩ (M_X4_tell l D cI cJ x fi ik la ta ka tp sh F 0 (by decide) (-1000000001) (by decide +kernel)) (cwV 1 hts gX4_on_X4_tell rfl rfl rfl qX4_tell ⟨Nat.le_of_ble_eq_true rfl, Nat.le_of_ble_eq_true rfl⟩) E0_good hK hA hW trivial [true, false, false, true] (fun _ => [xH x la ta ka tp sh fi ik, gW cI la G, gW cI ta T, aI cI fi 7 (up F 0 (F 0 + 1))]) rfl (fun _ => rfl) (fun _ => rfl) 0 0 rfl rfl rfl rfl hl.1 rfl (lv_room (Nat.le_of_ble_eq_true rfl)) dX4_on_23 ⟨Nat.zero_le _, Nat.zero_le _⟩ (fun _ H locs _ hW => ?_)
    exact rt_i hQ hx hb hr hlocks hW dX4_on_26 T (by (try simp only [onV]); (repeat' split) <;> first | rfl | (exfalso; omega)) trivial (by (try simp only [onF]); (repeat' split) <;> first | rfl | (exfalso; omega))
  · refine lv_iload_n hx hb dX4_on_4 rfl (lv_at hl 1 rfl) ?_
    refine lv_sipush (v := nI 200) hx hb dX4_on_5 (by decide +kernel) ?_
    refine zz_cgt (tgt := 20) hx hb dX4_on_8 (by decide) (rfl : n.toInt = n.toInt) (nI_toInt (n := 200) (by decide)) (fun c8 => ?_) (fun c8 => ?_)
    · refine lv_aload_n hx hb dX4_on_20 rfl (lv_at hl 0 rfl) ?_
      refine lv_ldc (v := -1000000001) hx hb hown (hts _ (List.mem_of_getElem? (i := 1) rfl)) dX4_on_21 ?_
      refine cl_Vi (As := [.int (-1000000001)]) (rest := []) (C := RX4) ⟨hx, hb, hml, hown, hts⟩ (M_X4_tell l D cI cJ x fi ik la ta ka tp sh F 0 (by decide) (-1000000001) (by decide +kernel)) (cwV 1 hts gX4_on_X4_tell rfl rfl rfl qX4_tell ⟨Nat.le_of_ble_eq_true rfl, Nat.le_of_ble_eq_true rfl⟩) E0_good hK hA hW trivial [true, false, false, true] (fun _ => [xH x la ta ka tp sh fi ik, gW cI la G, gW cI ta T, aI cI fi 7 (up F 0 (F 0 + 1))]) rfl (fun _ => rfl) (fun _ => rfl) 0 0 rfl rfl rfl rfl hl.1 rfl (lv_room (Nat.le_of_ble_eq_true rfl)) dX4_on_23 ⟨Nat.zero_le _, Nat.zero_le _⟩ (fun _ H locs _ hW => ?_)
      exact rt_i hQ hx hb hr hlocks hW dX4_on_26 T (by (try simp only [onV]); (repeat' split) <;> first | rfl | (exfalso; omega)) trivial (by (try simp only [onF]); (repeat' split) <;> first | rfl | (exfalso; omega))
    · refine lv_iload_n hx hb dX4_on_11 rfl (lv_at hl 2 rfl) ?_
      refine zz_zlt (tgt := 20) hx hb dX4_on_12 (by decide) (rfl : v.toInt = v.toInt) (fun c12 => ?_) (fun c12 => ?_)
      · refine lv_aload_n hx hb dX4_on_20 rfl (lv_at hl 0 rfl) ?_
        refine lv_ldc (v := -1000000001) hx hb hown (hts _ (List.mem_of_getElem? (i := 1) rfl)) dX4_on_21 ?_
        refine cl_Vi (As := [.int (-1000000001)]) (rest := []) (C := RX4) ⟨hx, hb, hml, hown, hts⟩ (M_X4_tell l D cI cJ x fi ik la ta ka tp sh F 0 (by decide) (-1000000001) (by decide +kernel)) (cwV 1 hts gX4_on_X4_tell rfl rfl rfl qX4_tell ⟨Nat.le_of_ble_eq_true rfl, Nat.le_of_ble_eq_true rfl⟩) E0_good hK hA hW trivial [true, false, false, true] (fun _ => [xH x la ta ka tp sh fi ik, gW cI la G, gW cI ta T, aI cI fi 7 (up F 0 (F 0 + 1))]) rfl (fun _ => rfl) (fun _ => rfl) 0 0 rfl rfl rfl rfl hl.1 rfl (lv_room (Nat.le_of_ble_eq_true rfl)) dX4_on_23 ⟨Nat.zero_le _, Nat.zero_le _⟩ (fun _ H locs _ hW => ?_)
        exact rt_i hQ hx hb hr hlocks hW dX4_on_26 T (by (try simp only [onV]); (repeat' split) <;> first | rfl | (exfalso; omega)) trivial (by (try simp only [onF]); (repeat' split) <;> first | rfl | (exfalso; omega))
      · refine lv_iload_n hx hb dX4_on_15 rfl (lv_at hl 2 rfl) ?_
        refine lv_iconst (v := nI 2) hx hb dX4_on_16 (by decide +kernel) ?_
        refine zz_cle (tgt := 27) hx hb dX4_on_17 (by decide) (rfl : v.toInt = v.toInt) (nI_toInt (n := 2) (by decide)) (fun c17 => ?_) (fun c17 => ?_)
        · obtain ⟨y, hy, ey⟩ : ∃ y : Nat, n = nI y ∧ n.toInt = (y : Int) := ⟨n.toInt.toNat, nI_ofZ rfl (by omega), by omega⟩
          rw [hy] at hl
          refine lv_aload_n hx hb dX4_on_27 rfl (lv_at hl 0 rfl) ?_
          refine sg_get (ci := 3) (C := RX4) (T := TX4) (N := 7) (v := .ref (ta 0)) hx hb hts (fun _ h => List.mem_cons_of_mem _ (List.mem_append_left _ (List.mem_append_right _ h))) hown hK hW 0 0 rfl rfl rfl 1 (by decide) (hts _ (List.mem_of_getElem? (i := 2) rfl)) rfl dX4_on_28 ?_
          refine lv_aload_n hx hb dX4_on_31 rfl (lv_at hl 0 rfl) ?_
          refine sg_get (ci := 3) (C := RX4) (T := TX4) (N := 7) (v := .ref (la 0)) hx hb hts (fun _ h => List.mem_cons_of_mem _ (List.mem_append_left _ (List.mem_append_right _ h))) hown hK hW 0 0 rfl rfl rfl 0 (by decide) (hts _ (List.mem_of_getElem? (i := 3) rfl)) rfl dX4_on_32 ?_
          refine cl_Vv (As := [.ref (la 0)]) (rest := []) (C := RX0) ⟨hx, hb, hml, hown, hts⟩ (M_X0_become2 l D cI cJ ta la T G) (cwV 1 hts gX4_on_X0_become rfl rfl rfl qX0_become ⟨Nat.le_of_ble_eq_true rfl, Nat.le_of_ble_eq_true rfl⟩) E0_good hK hA hW trivial [false, true, true] (fun _ => [xH x la ta ka tp sh fi ik, gW cI la G, gW cI ta G, aI cI fi 7 F]) rfl (fun _ => rfl) (fun _ => rfl) 2 0 rfl rfl rfl rfl hl.1 rfl (lv_room (Nat.le_of_ble_eq_true rfl)) dX4_on_35 ⟨Nat.zero_le _, Nat.zero_le _⟩ (fun _ H locs _ hW => ?_)
          refine lv_aload_n hx hb dX4_on_38 rfl (lv_at hl 0 rfl) ?_
          refine sg_get (ci := 3) (C := RX4) (T := TX4) (N := 7) (v := .ref (ta 0)) hx hb hts (fun _ h => List.mem_cons_of_mem _ (List.mem_append_left _ (List.mem_append_right _ h))) hown hK hW 0 0 rfl rfl rfl 1 (by decide) (hts _ (List.mem_of_getElem? (i := 2) rfl)) rfl dX4_on_39 ?_
          refine lv_iload_n hx hb dX4_on_42 rfl (lv_at hl 1 rfl) ?_
          refine cl_Vv (As := [.int (nI y)]) (rest := []) (C := RX0) ⟨hx, hb, hml, hown, hts⟩ (M_X0_passMinutes l D cI cJ ta G 99999 (by decide) hG y (by omega)) (cwV 1 hts gX4_on_X0_passMinutes rfl rfl rfl qX0_passMinutes ⟨Nat.le_of_ble_eq_true rfl, Nat.le_of_ble_eq_true rfl⟩) E0_good hK hA hW trivial [false, false, true] (fun _ => [xH x la ta ka tp sh fi ik, gW cI la G, gW cI ta (stepN G y), aI cI fi 7 F]) rfl (fun _ => rfl) (fun _ => rfl) 2 0 rfl rfl rfl rfl hl.1 rfl (lv_room (Nat.le_of_ble_eq_true rfl)) dX4_on_43 ⟨Nat.zero_le _, Nat.zero_le _⟩ (fun _ H locs _ hW => ?_)
          refine lv_iload_n hx hb dX4_on_46 rfl (lv_at hl 2 rfl) ?_
          rcases (show v.toInt = 0 ∨ v.toInt = 1 ∨ (¬ v.toInt = 0 ∧ ¬ v.toInt = 1) by omega) with c47 | c47 | c47
          · refine zz_lk (off := 25) (tgt := 72) hx hb dX4_on_47 (by decide) ((rfl : v.toInt = v.toInt).trans (show _ = (0 : Int) by omega)) (by decide) (by decide) ?_
            refine lv_aload_n hx hb dX4_on_72 rfl (lv_at hl 0 rfl) ?_
            refine sg_get (ci := 3) (C := RX4) (T := TX4) (N := 7) (v := .ref (ta 0)) hx hb hts (fun _ h => List.mem_cons_of_mem _ (List.mem_append_left _ (List.mem_append_right _ h))) hown hK hW 0 0 rfl rfl rfl 1 (by decide) (hts _ (List.mem_of_getElem? (i := 2) rfl)) rfl dX4_on_73 ?_
            refine sg_get (ci := 0) (C := RX0) (T := TX0) (N := 14) (v := .int (nI ((stepN G y) 24))) hx hb hts (fun _ h => List.mem_cons_of_mem _ (List.mem_append_right _ h)) hown hK hW 2 0 rfl rfl rfl 3 (by decide) (hts _ (List.mem_of_getElem? (i := 4) rfl)) rfl dX4_on_76 ?_
            exact rt_i hQ hx hb hr hlocks hW dX4_on_79 (stepN G y) (by (try simp only [onV, ey, Int.toNat_natCast]); (repeat' split) <;> first | rfl | (exfalso; omega)) trivial (by (try simp only [onF, ey, Int.toNat_natCast]); (repeat' split) <;> first | rfl | (exfalso; omega))
          · refine zz_lk (off := 33) (tgt := 80) hx hb dX4_on_47 (by decide) ((rfl : v.toInt = v.toInt).trans (show _ = (1 : Int) by omega)) (by decide) (by decide) ?_
            refine lv_aload_n hx hb dX4_on_80 rfl (lv_at hl 0 rfl) ?_
            refine sg_get (ci := 3) (C := RX4) (T := TX4) (N := 7) (v := .ref (ta 0)) hx hb hts (fun _ h => List.mem_cons_of_mem _ (List.mem_append_left _ (List.mem_append_right _ h))) hown hK hW 0 0 rfl rfl rfl 1 (by decide) (hts _ (List.mem_of_getElem? (i := 2) rfl)) rfl dX4_on_81 ?_
            refine sg_get (ci := 0) (C := RX0) (T := TX0) (N := 14) (v := .int (nI ((stepN G y) 32))) hx hb hts (fun _ h => List.mem_cons_of_mem _ (List.mem_append_right _ h)) hown hK hW 2 0 rfl rfl rfl 4 (by decide) (hts _ (List.mem_of_getElem? (i := 5) rfl)) rfl dX4_on_84 ?_
            exact rt_i hQ hx hb hr hlocks hW dX4_on_87 (stepN G y) (by (try simp only [onV, ey, Int.toNat_natCast]); (repeat' split) <;> first | rfl | (exfalso; omega)) trivial (by (try simp only [onF, ey, Int.toNat_natCast]); (repeat' split) <;> first | rfl | (exfalso; omega))
          · refine zz_lk (off := 41) (tgt := 88) hx hb dX4_on_47 (by decide) (rfl : v.toInt = v.toInt) (by simp [Op.lookupswitch.offset]; omega) (by decide) ?_
            refine lv_aload_n hx hb dX4_on_88 rfl (lv_at hl 0 rfl) ?_
            refine sg_get (ci := 3) (C := RX4) (T := TX4) (N := 7) (v := .ref (ta 0)) hx hb hts (fun _ h => List.mem_cons_of_mem _ (List.mem_append_left _ (List.mem_append_right _ h))) hown hK hW 0 0 rfl rfl rfl 1 (by decide) (hts _ (List.mem_of_getElem? (i := 2) rfl)) rfl dX4_on_89 ?_
            refine cl_Vi (As := []) (rest := []) (C := RX0) ⟨hx, hb, hml, hown, hts⟩ (M_X0_onSet l D cI cJ ta (stepN G y) (99999 + y) (by omega) (stepN_ok hG y)) (cwV 0 hts gX4_on_X0_onSet rfl rfl rfl qX0_onSet ⟨Nat.le_of_ble_eq_true rfl, Nat.le_of_ble_eq_true rfl⟩) E0_good hK hA hW trivial [false, false, true] (fun _ => [xH x la ta ka tp sh fi ik, gW cI la G, gW cI ta (stepN G y), aI cI fi 7 F]) rfl (fun _ => rfl) (fun _ => rfl) 2 0 rfl rfl rfl rfl hl.1 rfl (lv_room (Nat.le_of_ble_eq_true rfl)) dX4_on_92 ⟨Nat.zero_le _, Nat.zero_le _⟩ (fun _ H locs _ hW => ?_)
            exact rt_i hQ hx hb hr hlocks hW dX4_on_95 (stepN G y) (by (try simp only [onV, ey, Int.toNat_natCast]); (repeat' split) <;> first | rfl | (exfalso; omega)) trivial (by (try simp only [onF, ey, Int.toNat_natCast]); (repeat' split) <;> first | rfl | (exfalso; omega))
        · refine lv_aload_n hx hb dX4_on_20 rfl (lv_at hl 0 rfl) ?_
          refine lv_ldc (v := -1000000001) hx hb hown (hts _ (List.mem_of_getElem? (i := 1) rfl)) dX4_on_21 ?_
          refine cl_Vi (As := [.int (-1000000001)]) (rest := []) (C := RX4) ⟨hx, hb, hml, hown, hts⟩ (M_X4_tell l D cI cJ x fi ik la ta ka tp sh F 0 (by decide) (-1000000001) (by decide +kernel)) (cwV 1 hts gX4_on_X4_tell rfl rfl rfl qX4_tell ⟨Nat.le_of_ble_eq_true rfl, Nat.le_of_ble_eq_true rfl⟩) E0_good hK hA hW trivial [true, false, false, true] (fun _ => [xH x la ta ka tp sh fi ik, gW cI la G, gW cI ta T, aI cI fi 7 (up F 0 (F 0 + 1))]) rfl (fun _ => rfl) (fun _ => rfl) 0 0 rfl rfl rfl rfl hl.1 rfl (lv_room (Nat.le_of_ble_eq_true rfl)) dX4_on_23 ⟨Nat.zero_le _, Nat.zero_le _⟩ (fun _ H locs _ hW => ?_)
          exact rt_i hQ hx hb hr hlocks hW dX4_on_26 T (by (try simp only [onV]); (repeat' split) <;> first | rfl | (exfalso; omega)) trivial (by (try simp only [onF]); (repeat' split) <;> first | rfl | (exfalso; omega))
abbrev rmX4_then : Room := { frames := 5, cells := 0, slots := 0, locals := 120 }
set_option maxRecDepth 100000 in
set_option maxHeartbeats 4000000 in
theorem M_X4_then (l : Launch) (D : va_G) (cI cJ : ClassId) (x fi ik : Nat) (la ta ka tp sh : Nat → Nat) (G T F : Nat → Nat) (hG : OkG 99999 G) (v n w : Int32) : CE E0 l D vwCl [(cI, .int), (cJ, .long)] yX4_then wsX4_then rmX4_then [.ref x, .int v, .int n, .int w] [xH x la ta ka tp sh fi ik, gW cI la G, gW cI ta T, aI cI fi 7 F] (S := (Nat → Nat)) (some (.int (thenV G v.toInt n.toInt w.toInt))) (fun _ => True) (fun Tx : Nat → Nat => [xH x la ta ka tp sh fi ik, gW cI la G, gW cI ta Tx, aI cI fi 7 (thenF G F v.toInt n.toInt w.toInt)]) 0 0 := by
  refine CE.ofW (cc := cX4_then) (maxL := 4) (ret := (some .int)) (lv := [(0, .ref x), (1, .int v), (2, .int n), (3, .int w)]) (by decide) rfl (Nat.le_of_ble_eq_true rfl) rfl ?_
  intro p e s m args below meth c ls A Q hQ hx hb hml hr hlocks hnm hown hts hK hA hE hW hl
  have hown : s.vm.findClass RX4 = some m.cls := hown
  obtain ⟨hg0, hg8, hg16, hg16b, hg24, hg32, hg40, hg48⟩ := hG.s
  refine lv_aload_n hx hb dX4_then_0 rfl (lv_at hl 0 rfl) ?_
  refine sg_get (ci := 3) (C := RX4) (T := TX4) (N := 7) (v := .ref (la 0)) hx hb hts (fun _ h => List.mem_cons_of_mem _ (List.mem_append_left _ (List.mem_append_right _ h))) hown hK hW 0 0 rfl rfl rfl 0 (by decide) (hts _ (List.mem_of_getElem? (i := 1) rfl)) rfl dX4_then_1 ?_
  refine lv_iload_n hx hb dX4_then_4 rfl (lv_at hl 1 rfl) ?_
  refine cl_Vi (As := [.int v]) (rest := []) (C := RX0) ⟨hx, hb, hml, hown, hts⟩ (M_X0_hasMother l D cI cJ la G 99999 (by decide) hG v) (cwV 1 hts gX4_then_X0_hasMother rfl rfl rfl qX0_hasMother ⟨Nat.le_of_ble_eq_true rfl, Nat.le_of_ble_eq_true rfl⟩) E0_good hK hA hW trivial [false, true] (fun _ => [xH x la ta ka tp sh fi ik, gW cI la G, gW cI ta T, aI cI fi 7 F]) rfl (fun _ => rfl) (fun _ => rfl) 1 0 rfl rfl rfl rfl hl.1 rfl (lv_room (Nat.le_of_ble_eq_true rfl)) dX4_then_5 ⟨Nat.zero_le _, Nat.zero_le _⟩ (fun _ H locs _ hW => ?_)
  have him_ := inN_or v (G 40)
  refine nn_zeq (tgt := 31) hx hb dX4_then_8 (by decide) (by omega) (fun c8 => ?_) (fun c8 => ?_)
  · refine lv_aload_n hx hb dX4_then_31 rfl (lv_at hl 0 rfl) ?_
    refine lv_ldc (v := -1000000001) hx hb hown (hts _ (List.mem_of_getElem? (i := 2) rfl)) dX4_then_32 ?_
    refine cl_Vi (As := [.int (-1000000001)]) (rest := []) (C := RX4) ⟨hx, hb, hml, hown, hts⟩ (M_X4_tell l D cI cJ x fi ik la ta ka tp sh F 0 (by decide) (-1000000001) (by decide +kernel)) (cwV 1 hts gX4_then_X4_tell rfl rfl rfl qX4_tell ⟨Nat.le_of_ble_eq_true rfl, Nat.le_of_ble_eq_true rfl⟩) E0_good hK hA hW trivial [true, false, false, true] (fun _ => [xH x la ta ka tp sh fi ik, gW cI la G, gW cI ta T, aI cI fi 7 (up F 0 (F 0 + 1))]) rfl (fun _ => rfl) (fun _ => rfl) 0 0 rfl rfl rfl rfl hl.1 rfl (lv_room (Nat.le_of_ble_eq_true rfl)) dX4_then_34 ⟨Nat.zero_le _, Nat.zero_le _⟩ (fun _ H locs _ hW => ?_)
    exact rt_i hQ hx hb hr hlocks hW dX4_then_37 T (by (try simp only [thenV]); (repeat' split) <;> first | rfl | (exfalso; omega)) trivial (by (try simp only [thenF]); (repeat' split) <;> first | rfl | (exfalso; omega))
  · refine lv_iload_n hx hb dX4_then_11 rfl (lv_at hl 2 rfl) ?_
    refine zz_zlt (tgt := 31) hx hb dX4_then_12 (by decide) (rfl : n.toInt = n.toInt) (fun c12 => ?_) (fun c12 => ?_)
    · refine lv_aload_n hx hb dX4_then_31 rfl (lv_at hl 0 rfl) ?_
      refine lv_ldc (v := -1000000001) hx hb hown (hts _ (List.mem_of_getElem? (i := 2) rfl)) dX4_then_32 ?_
      refine cl_Vi (As := [.int (-1000000001)]) (rest := []) (C := RX4) ⟨hx, hb, hml, hown, hts⟩ (M_X4_tell l D cI cJ x fi ik la ta ka tp sh F 0 (by decide) (-1000000001) (by decide +kernel)) (cwV 1 hts gX4_then_X4_tell rfl rfl rfl qX4_tell ⟨Nat.le_of_ble_eq_true rfl, Nat.le_of_ble_eq_true rfl⟩) E0_good hK hA hW trivial [true, false, false, true] (fun _ => [xH x la ta ka tp sh fi ik, gW cI la G, gW cI ta T, aI cI fi 7 (up F 0 (F 0 + 1))]) rfl (fun _ => rfl) (fun _ => rfl) 0 0 rfl rfl rfl rfl hl.1 rfl (lv_room (Nat.le_of_ble_eq_true rfl)) dX4_then_34 ⟨Nat.zero_le _, Nat.zero_le _⟩ (fun _ H locs _ hW => ?_)
      exact rt_i hQ hx hb hr hlocks hW dX4_then_37 T (by (try simp only [thenV]); (repeat' split) <;> first | rfl | (exfalso; omega)) trivial (by (try simp only [thenF]); (repeat' split) <;> first | rfl | (exfalso; omega))
    · refine lv_iload_n hx hb dX4_then_15 rfl (lv_at hl 2 rfl) ?_
      refine lv_sipush (v := nI 200) hx hb dX4_then_16 (by decide +kernel) ?_
      refine zz_cgt (tgt := 31) hx hb dX4_then_19 (by decide) (rfl : n.toInt = n.toInt) (nI_toInt (n := 200) (by decide)) (fun c19 => ?_) (fun c19 => ?_)
      · refine lv_aload_n hx hb dX4_then_31 rfl (lv_at hl 0 rfl) ?_
        refine lv_ldc (v := -1000000001) hx hb hown (hts _ (List.mem_of_getElem? (i := 2) rfl)) dX4_then_32 ?_
        refine cl_Vi (As := [.int (-1000000001)]) (rest := []) (C := RX4) ⟨hx, hb, hml, hown, hts⟩ (M_X4_tell l D cI cJ x fi ik la ta ka tp sh F 0 (by decide) (-1000000001) (by decide +kernel)) (cwV 1 hts gX4_then_X4_tell rfl rfl rfl qX4_tell ⟨Nat.le_of_ble_eq_true rfl, Nat.le_of_ble_eq_true rfl⟩) E0_good hK hA hW trivial [true, false, false, true] (fun _ => [xH x la ta ka tp sh fi ik, gW cI la G, gW cI ta T, aI cI fi 7 (up F 0 (F 0 + 1))]) rfl (fun _ => rfl) (fun _ => rfl) 0 0 rfl rfl rfl rfl hl.1 rfl (lv_room (Nat.le_of_ble_eq_true rfl)) dX4_then_34 ⟨Nat.zero_le _, Nat.zero_le _⟩ (fun _ H locs _ hW => ?_)
        exact rt_i hQ hx hb hr hlocks hW dX4_then_37 T (by (try simp only [thenV]); (repeat' split) <;> first | rfl | (exfalso; omega)) trivial (by (try simp only [thenF]); (repeat' split) <;> first | rfl | (exfalso; omega))
      · refine lv_iload_n hx hb dX4_then_22 rfl (lv_at hl 3 rfl) ?_
        refine zz_zlt (tgt := 31) hx hb dX4_then_23 (by decide) (rfl : w.toInt = w.toInt) (fun c23 => ?_) (fun c23 => ?_)
        · refine lv_aload_n hx hb dX4_then_31 rfl (lv_at hl 0 rfl) ?_
          refine lv_ldc (v := -1000000001) hx hb hown (hts _ (List.mem_of_getElem? (i := 2) rfl)) dX4_then_32 ?_
          refine cl_Vi (As := [.int (-1000000001)]) (rest := []) (C := RX4) ⟨hx, hb, hml, hown, hts⟩ (M_X4_tell l D cI cJ x fi ik la ta ka tp sh F 0 (by decide) (-1000000001) (by decide +kernel)) (cwV 1 hts gX4_then_X4_tell rfl rfl rfl qX4_tell ⟨Nat.le_of_ble_eq_true rfl, Nat.le_of_ble_eq_true rfl⟩) E0_good hK hA hW trivial [true, false, false, true] (fun _ => [xH x la ta ka tp sh fi ik, gW cI la G, gW cI ta T, aI cI fi 7 (up F 0 (F 0 + 1))]) rfl (fun _ => rfl) (fun _ => rfl) 0 0 rfl rfl rfl rfl hl.1 rfl (lv_room (Nat.le_of_ble_eq_true rfl)) dX4_then_34 ⟨Nat.zero_le _, Nat.zero_le _⟩ (fun _ H locs _ hW => ?_)
          exact rt_i hQ hx hb hr hlocks hW dX4_then_37 T (by (try simp only [thenV]); (repeat' split) <;> first | rfl | (exfalso; omega)) trivial (by (try simp only [thenF]); (repeat' split) <;> first | rfl | (exfalso; omega))
        · refine lv_iload_n hx hb dX4_then_26 rfl (lv_at hl 3 rfl) ?_
          refine lv_iconst (v := nI 1) hx hb dX4_then_27 (by decide +kernel) ?_
          refine zz_cle (tgt := 38) hx hb dX4_then_28 (by decide) (rfl : w.toInt = w.toInt) (nI_toInt (n := 1) (by decide)) (fun c28 => ?_) (fun c28 => ?_)
          · obtain ⟨j, hj, ej⟩ : ∃ j : Nat, v = nI j ∧ v.toInt = (j : Int) := ⟨v.toInt.toNat, nI_ofZ rfl (by omega), by omega⟩
            rw [hj] at hl
            obtain ⟨y, hy, ey⟩ : ∃ y : Nat, n = nI y ∧ n.toInt = (y : Int) := ⟨n.toInt.toNat, nI_ofZ rfl (by omega), by omega⟩
            rw [hy] at hl
            have h40y := stepN_40 G y
            refine lv_aload_n hx hb dX4_then_38 rfl (lv_at hl 0 rfl) ?_
            refine sg_get (ci := 3) (C := RX4) (T := TX4) (N := 7) (v := .ref (ta 0)) hx hb hts (fun _ h => List.mem_cons_of_mem _ (List.mem_append_left _ (List.mem_append_right _ h))) hown hK hW 0 0 rfl rfl rfl 1 (by decide) (hts _ (List.mem_of_getElem? (i := 3) rfl)) rfl dX4_then_39 ?_
            refine lv_aload_n hx hb dX4_then_42 rfl (lv_at hl 0 rfl) ?_
            refine sg_get (ci := 3) (C := RX4) (T := TX4) (N := 7) (v := .ref (la 0)) hx hb hts (fun _ h => List.mem_cons_of_mem _ (List.mem_append_left _ (List.mem_append_right _ h))) hown hK hW 0 0 rfl rfl rfl 0 (by decide) (hts _ (List.mem_of_getElem? (i := 1) rfl)) rfl dX4_then_43 ?_
            refine cl_Vv (As := [.ref (la 0)]) (rest := []) (C := RX0) ⟨hx, hb, hml, hown, hts⟩ (M_X0_become2 l D cI cJ ta la T G) (cwV 1 hts gX4_then_X0_become rfl rfl rfl qX0_become ⟨Nat.le_of_ble_eq_true rfl, Nat.le_of_ble_eq_true rfl⟩) E0_good hK hA hW trivial [false, true, true] (fun _ => [xH x la ta ka tp sh fi ik, gW cI la G, gW cI ta G, aI cI fi 7 F]) rfl (fun _ => rfl) (fun _ => rfl) 2 0 rfl rfl rfl rfl hl.1 rfl (lv_room (Nat.le_of_ble_eq_true rfl)) dX4_then_46 ⟨Nat.zero_le _, Nat.zero_le _⟩ (fun _ H locs _ hW => ?_)
            refine lv_aload_n hx hb dX4_then_49 rfl (lv_at hl 0 rfl) ?_
            refine sg_get (ci := 3) (C := RX4) (T := TX4) (N := 7) (v := .ref (ta 0)) hx hb hts (fun _ h => List.mem_cons_of_mem _ (List.mem_append_left _ (List.mem_append_right _ h))) hown hK hW 0 0 rfl rfl rfl 1 (by decide) (hts _ (List.mem_of_getElem? (i := 3) rfl)) rfl dX4_then_50 ?_
            refine lv_iload_n hx hb dX4_then_53 rfl (lv_at hl 2 rfl) ?_
            refine cl_Vv (As := [.int (nI y)]) (rest := []) (C := RX0) ⟨hx, hb, hml, hown, hts⟩ (M_X0_passMinutes l D cI cJ ta G 99999 (by decide) hG y (by omega)) (cwV 1 hts gX4_then_X0_passMinutes rfl rfl rfl qX0_passMinutes ⟨Nat.le_of_ble_eq_true rfl, Nat.le_of_ble_eq_true rfl⟩) E0_good hK hA hW trivial [false, false, true] (fun _ => [xH x la ta ka tp sh fi ik, gW cI la G, gW cI ta (stepN G y), aI cI fi 7 F]) rfl (fun _ => rfl) (fun _ => rfl) 2 0 rfl rfl rfl rfl hl.1 rfl (lv_room (Nat.le_of_ble_eq_true rfl)) dX4_then_54 ⟨Nat.zero_le _, Nat.zero_le _⟩ (fun _ H locs _ hW => ?_)
            refine lv_iload_n hx hb dX4_then_57 rfl (lv_at hl 3 rfl) ?_
            refine zz_zne (tgt := 73) hx hb dX4_then_58 (by decide) (rfl : w.toInt = w.toInt) (fun c58 => ?_) (fun c58 => ?_)
            · refine lv_aload_n hx hb dX4_then_73 rfl (lv_at hl 0 rfl) ?_
              refine sg_get (ci := 3) (C := RX4) (T := TX4) (N := 7) (v := .ref (ta 0)) hx hb hts (fun _ h => List.mem_cons_of_mem _ (List.mem_append_left _ (List.mem_append_right _ h))) hown hK hW 0 0 rfl rfl rfl 1 (by decide) (hts _ (List.mem_of_getElem? (i := 3) rfl)) rfl dX4_then_74 ?_
              refine sg_get (ci := 0) (C := RX0) (T := TX0) (N := 14) (v := .ref (ta 4)) hx hb hts (fun _ h => List.mem_cons_of_mem _ (List.mem_append_right _ h)) hown hK hW 2 0 rfl rfl rfl 9 (by decide) (hts _ (List.mem_of_getElem? (i := 5) rfl)) rfl dX4_then_77 ?_
              refine lv_iload_n hx hb dX4_then_80 rfl (lv_at hl 1 rfl) ?_
              refine sg_ild (v := nI ((stepN G y) (8 * j + 4))) hx hb hK hW 2 4 0 rfl rfl rfl (by omega) (by decide) rfl dX4_then_81 ?_
              exact rt_i hQ hx hb hr hlocks hW dX4_then_82 (stepN G y) (by (try simp only [thenV, ej, ey, Int.toNat_natCast]); (repeat' split) <;> first | rfl | (exfalso; omega)) trivial (by (try simp only [thenF, ej, ey, Int.toNat_natCast]); (repeat' split) <;> first | rfl | (exfalso; omega))
            · refine lv_aload_n hx hb dX4_then_61 rfl (lv_at hl 0 rfl) ?_
              refine sg_get (ci := 3) (C := RX4) (T := TX4) (N := 7) (v := .ref (ta 0)) hx hb hts (fun _ h => List.mem_cons_of_mem _ (List.mem_append_left _ (List.mem_append_right _ h))) hown hK hW 0 0 rfl rfl rfl 1 (by decide) (hts _ (List.mem_of_getElem? (i := 3) rfl)) rfl dX4_then_62 ?_
              refine sg_get (ci := 0) (C := RX0) (T := TX0) (N := 14) (v := .ref (ta 3)) hx hb hts (fun _ h => List.mem_cons_of_mem _ (List.mem_append_right _ h)) hown hK hW 2 0 rfl rfl rfl 8 (by decide) (hts _ (List.mem_of_getElem? (i := 4) rfl)) rfl dX4_then_65 ?_
              refine lv_iload_n hx hb dX4_then_68 rfl (lv_at hl 1 rfl) ?_
              refine sg_ild (v := nI ((stepN G y) (8 * j + 3))) hx hb hK hW 2 3 0 rfl rfl rfl (by omega) (by decide) rfl dX4_then_69 ?_
              refine lv_goto (tgt := 82) hx hb dX4_then_70 (by decide) ?_
              exact rt_i hQ hx hb hr hlocks hW dX4_then_82 (stepN G y) (by (try simp only [thenV, ej, ey, Int.toNat_natCast]); (repeat' split) <;> first | rfl | (exfalso; omega)) trivial (by (try simp only [thenF, ej, ey, Int.toNat_natCast]); (repeat' split) <;> first | rfl | (exfalso; omega))
          · refine lv_aload_n hx hb dX4_then_31 rfl (lv_at hl 0 rfl) ?_
            refine lv_ldc (v := -1000000001) hx hb hown (hts _ (List.mem_of_getElem? (i := 2) rfl)) dX4_then_32 ?_
            refine cl_Vi (As := [.int (-1000000001)]) (rest := []) (C := RX4) ⟨hx, hb, hml, hown, hts⟩ (M_X4_tell l D cI cJ x fi ik la ta ka tp sh F 0 (by decide) (-1000000001) (by decide +kernel)) (cwV 1 hts gX4_then_X4_tell rfl rfl rfl qX4_tell ⟨Nat.le_of_ble_eq_true rfl, Nat.le_of_ble_eq_true rfl⟩) E0_good hK hA hW trivial [true, false, false, true] (fun _ => [xH x la ta ka tp sh fi ik, gW cI la G, gW cI ta T, aI cI fi 7 (up F 0 (F 0 + 1))]) rfl (fun _ => rfl) (fun _ => rfl) 0 0 rfl rfl rfl rfl hl.1 rfl (lv_room (Nat.le_of_ble_eq_true rfl)) dX4_then_34 ⟨Nat.zero_le _, Nat.zero_le _⟩ (fun _ H locs _ hW => ?_)
            exact rt_i hQ hx hb hr hlocks hW dX4_then_37 T (by (try simp only [thenV]); (repeat' split) <;> first | rfl | (exfalso; omega)) trivial (by (try simp only [thenF]); (repeat' split) <;> first | rfl | (exfalso; omega))
abbrev rmX4_quick : Room := { frames := 4, cells := 0, slots := 0, locals := 98 }
set_option maxRecDepth 100000 in
set_option maxHeartbeats 4000000 in
theorem M_X4_quick (l : Launch) (D : va_G) (cI cJ : ClassId) (x fi ik : Nat) (la ta ka tp sh : Nat → Nat) (G T F : Nat → Nat) (hG : OkG 99999 G) (z : Int32) : CE E0 l D vwCl [(cI, .int), (cJ, .long)] yX4_quick wsX4_quick rmX4_quick [.ref x, .int z] [xH x la ta ka tp sh fi ik, gW cI la G, gW cI ta T, aI cI fi 7 F] (S := (Nat → Nat)) (some (.int (quickV G z.toInt))) (fun _ => True) (fun Tx : Nat → Nat => [xH x la ta ka tp sh fi ik, gW cI la G, gW cI ta Tx, aI cI fi 7 (quickF G F z.toInt)]) 0 0 := by
  refine CE.ofW (cc := cX4_quick) (maxL := 3) (ret := (some .int)) (lv := [(0, .ref x), (1, .int z)]) (by decide) rfl (Nat.le_of_ble_eq_true rfl) rfl ?_
  intro p e s m args below meth c ls A Q hQ hx hb hml hr hlocks hnm hown hts hK hA hE hW hl
  have hown : s.vm.findClass RX4 = some m.cls := hown
  obtain ⟨hg0, hg8, hg16, hg16b, hg24, hg32, hg40, hg48⟩ := hG.s
  refine lv_iload_n hx hb dX4_quick_0 rfl (lv_at hl 1 rfl) ?_
  refine zz_zlt (tgt := 11) hx hb dX4_quick_1 (by decide) (rfl : z.toInt = z.toInt) (fun c1 => ?_) (fun c1 => ?_)
  · refine lv_aload_n hx hb dX4_quick_11 rfl (lv_at hl 0 rfl) ?_
    refine lv_ldc (v := -1000000001) hx hb hown (hts _ (List.mem_of_getElem? (i := 1) rfl)) dX4_quick_12 ?_
    refine cl_Vi (As := [.int (-1000000001)]) (rest := []) (C := RX4) ⟨hx, hb, hml, hown, hts⟩ (M_X4_tell l D cI cJ x fi ik la ta ka tp sh F 0 (by decide) (-1000000001) (by decide +kernel)) (cwV 1 hts gX4_quick_X4_tell rfl rfl rfl qX4_tell ⟨Nat.le_of_ble_eq_true rfl, Nat.le_of_ble_eq_true rfl⟩) E0_good hK hA hW trivial [true, false, false, true] (fun _ => [xH x la ta ka tp sh fi ik, gW cI la G, gW cI ta T, aI cI fi 7 (up F 0 (F 0 + 1))]) rfl (fun _ => rfl) (fun _ => rfl) 0 0 rfl rfl rfl rfl hl.1 rfl (lv_room (Nat.le_of_ble_eq_true rfl)) dX4_quick_14 ⟨Nat.zero_le _, Nat.zero_le _⟩ (fun _ H locs _ hW => ?_)
    exact rt_i hQ hx hb hr hlocks hW dX4_quick_17 T (by (try simp only [quickV, skV]); (repeat' split) <;> first | rfl | (exfalso; omega)) trivial (by (try simp only [quickF, skF]); (repeat' split) <;> first | rfl | (exfalso; omega))
  · refine lv_iload_n hx hb dX4_quick_4 rfl (lv_at hl 1 rfl) ?_
    refine lv_sipush (v := nI 200) hx hb dX4_quick_5 (by decide +kernel) ?_
    refine zz_cle (tgt := 18) hx hb dX4_quick_8 (by decide) (rfl : z.toInt = z.toInt) (nI_toInt (n := 200) (by decide)) (fun c8 => ?_) (fun c8 => ?_)
    · obtain ⟨y, hy, ey⟩ : ∃ y : Nat, z = nI y ∧ z.toInt = (y : Int) := ⟨z.toInt.toNat, nI_ofZ rfl (by omega), by omega⟩
      rw [hy] at hl
      refine lv_aload_n hx hb dX4_quick_18 rfl (lv_at hl 0 rfl) ?_
      refine sg_get (ci := 3) (C := RX4) (T := TX4) (N := 7) (v := .ref (ta 0)) hx hb hts (fun _ h => List.mem_cons_of_mem _ (List.mem_append_left _ (List.mem_append_right _ h))) hown hK hW 0 0 rfl rfl rfl 1 (by decide) (hts _ (List.mem_of_getElem? (i := 2) rfl)) rfl dX4_quick_19 ?_
      refine lv_aload_n hx hb dX4_quick_22 rfl (lv_at hl 0 rfl) ?_
      refine sg_get (ci := 3) (C := RX4) (T := TX4) (N := 7) (v := .ref (la 0)) hx hb hts (fun _ h => List.mem_cons_of_mem _ (List.mem_append_left _ (List.mem_append_right _ h))) hown hK hW 0 0 rfl rfl rfl 0 (by decide) (hts _ (List.mem_of_getElem? (i := 3) rfl)) rfl dX4_quick_23 ?_
      refine cl_Vv (As := [.ref (la 0)]) (rest := []) (C := RX0) ⟨hx, hb, hml, hown, hts⟩ (M_X0_become2 l D cI cJ ta la T G) (cwV 1 hts gX4_quick_X0_become rfl rfl rfl qX0_become ⟨Nat.le_of_ble_eq_true rfl, Nat.le_of_ble_eq_true rfl⟩) E0_good hK hA hW trivial [false, true, true] (fun _ => [xH x la ta ka tp sh fi ik, gW cI la G, gW cI ta G, aI cI fi 7 F]) rfl (fun _ => rfl) (fun _ => rfl) 2 0 rfl rfl rfl rfl hl.1 rfl (lv_room (Nat.le_of_ble_eq_true rfl)) dX4_quick_26 ⟨Nat.zero_le _, Nat.zero_le _⟩ (fun _ H locs _ hW => ?_)
      refine lv_iconst (v := nI 0) hx hb dX4_quick_29 (by decide +kernel) ?_
      refine lv_istore_n (lv' := [(2, .int (nI 0)), (0, .ref x), (1, .int (nI y))]) hx hb dX4_quick_30 rfl hl (by decide) rfl (fun ls hl => ?_)
      have lp31 : ∀ (n : Nat) (i : Nat), 201 - i < n → 0 ≤ i ∧ i ≤ 201 → seek (fun i => decide (y ≤ stepN G i 24)) (201 - i) i = seek (fun i => decide (y ≤ stepN G i 24)) (201 - 0) 0 → ∀ (H : Heap) (locs : List Loc), Wo D vwCl A s.heap H locs [xH x la ta ka tp sh fi ik, gW cI la G, gW cI ta (stepN G i), aI cI fi 7 F] → ∀ ls : Array Slot, lv_has ls 3 [(2, .int (nI i)), (0, .ref x), (1, .int (nI y))] → W p l e rmX4_quick s m args below meth c H locs 0 0 Q (F0 m 31 ls []) := by
        intro n
        induction n with
        | zero => intro i hm; exact absurd hm (Nat.not_lt_zero _)
        | succ n ih =>
          intro i hm hi hsk H locs hW ls hl
          have hTi := stepN_ok hG i
          have hTs := hTi.s
          refine lv_iload_n hx hb dX4_quick_31 rfl (lv_at hl 0 rfl) ?_
          refine lv_sipush (v := nI 200) hx hb dX4_quick_32 (by decide +kernel) ?_
          refine nn_cgt (tgt := 64) hx hb dX4_quick_35 (by decide) (by omega) (by decide) (fun c35 => ?_) (fun c35 => ?_)
          · have hsx : seek (fun i => decide (y ≤ stepN G i 24)) 201 0 = 201 := hsk.symm.trans (seek_e (fun i => decide (y ≤ stepN G i 24)) (e := 201) (i := i) (by omega))
            refine lv_aload_n hx hb dX4_quick_64 rfl (lv_at hl 1 rfl) ?_
            refine lv_ldc (v := -1000000004) hx hb hown (hts _ (List.mem_of_getElem? (i := 5) rfl)) dX4_quick_65 ?_
            refine cl_Vi (As := [.int (-1000000004)]) (rest := []) (C := RX4) ⟨hx, hb, hml, hown, hts⟩ (M_X4_tell l D cI cJ x fi ik la ta ka tp sh F 3 (by decide) (-1000000004) (by decide +kernel)) (cwV 1 hts gX4_quick_X4_tell rfl rfl rfl qX4_tell ⟨Nat.le_of_ble_eq_true rfl, Nat.le_of_ble_eq_true rfl⟩) E0_good hK hA hW trivial [true, false, false, true] (fun _ => [xH x la ta ka tp sh fi ik, gW cI la G, gW cI ta (stepN G i), aI cI fi 7 (up F 3 (F 3 + 1))]) rfl (fun _ => rfl) (fun _ => rfl) 0 0 rfl rfl rfl rfl hl.1 rfl (lv_room (Nat.le_of_ble_eq_true rfl)) dX4_quick_67 ⟨Nat.zero_le _, Nat.zero_le _⟩ (fun _ H locs _ hW => ?_)
            exact rt_i hQ hx hb hr hlocks hW dX4_quick_70 (stepN G i) (by (try simp only [quickV, skV, ey, hsx, Int.toNat_natCast]); (repeat' split) <;> first | rfl | (exfalso; omega)) trivial (by (try simp only [quickF, skF, ey, hsx, Int.toNat_natCast]); (repeat' split) <;> first | rfl | (exfalso; omega))
          · refine lv_aload_n hx hb dX4_quick_38 rfl (lv_at hl 1 rfl) ?_
            refine sg_get (ci := 3) (C := RX4) (T := TX4) (N := 7) (v := .ref (ta 0)) hx hb hts (fun _ h => List.mem_cons_of_mem _ (List.mem_append_left _ (List.mem_append_right _ h))) hown hK hW 0 0 rfl rfl rfl 1 (by decide) (hts _ (List.mem_of_getElem? (i := 2) rfl)) rfl dX4_quick_39 ?_
            refine sg_get (ci := 0) (C := RX0) (T := TX0) (N := 14) (v := .int (nI ((stepN G i) 24))) hx hb hts (fun _ h => List.mem_cons_of_mem _ (List.mem_append_right _ h)) hown hK hW 2 0 rfl rfl rfl 3 (by decide) (hts _ (List.mem_of_getElem? (i := 4) rfl)) rfl dX4_quick_42 ?_
            refine lv_iload_n hx hb dX4_quick_45 rfl (lv_at hl 2 rfl) ?_
            refine nn_clt (tgt := 51) hx hb dX4_quick_46 (by decide) (by omega) (by omega) (fun c46 => ?_) (fun c46 => ?_)
            · refine lv_aload_n hx hb dX4_quick_51 rfl (lv_at hl 1 rfl) ?_
              refine sg_get (ci := 3) (C := RX4) (T := TX4) (N := 7) (v := .ref (ta 0)) hx hb hts (fun _ h => List.mem_cons_of_mem _ (List.mem_append_left _ (List.mem_append_right _ h))) hown hK hW 0 0 rfl rfl rfl 1 (by decide) (hts _ (List.mem_of_getElem? (i := 2) rfl)) rfl dX4_quick_52 ?_
              refine cl_Vv (As := []) (rest := []) (C := RX0) ⟨hx, hb, hml, hown, hts⟩ (M_X0_passMinute l D cI cJ ta (stepN G i) (99999 + i) (by omega) hTi) (cwV 0 hts gX4_quick_X0_passMinute rfl rfl rfl qX0_passMinute ⟨Nat.le_of_ble_eq_true rfl, Nat.le_of_ble_eq_true rfl⟩) E0_good hK hA hW trivial [false, false, true] (fun _ => [xH x la ta ka tp sh fi ik, gW cI la G, gW cI ta (stepG (stepN G i)), aI cI fi 7 F]) rfl (fun _ => rfl) (fun _ => rfl) 2 0 rfl rfl rfl rfl hl.1 rfl (lv_room (Nat.le_of_ble_eq_true rfl)) dX4_quick_55 ⟨Nat.zero_le _, Nat.zero_le _⟩ (fun _ H locs _ hW => ?_)
              refine lv_iinc (v := nI (i + 1)) (lv' := [(2, .int (nI (i + 1))), (0, .ref x), (1, .int (nI y))]) hx hb dX4_quick_58 hl (k := 0) rfl (nI_add _ 1) (by decide) rfl (fun ls hl => ?_)
              refine lv_goto (tgt := 31) hx hb dX4_quick_61 (by decide) ?_
              have hW := hW.to (ss' := [xH x la ta ka tp sh fi ik, gW cI la G, gW cI ta (stepN G (i + 1)), aI cI fi 7 F]) rfl
              exact ih (i + 1) (by omega) (by omega) ((seek_f (p := (fun i => decide (y ≤ stepN G i 24))) (e := 201) (by omega) (decide_eq_false (by omega))).symm.trans hsk) _ _ hW _ (lv_sub hl [0, 1, 2] rfl)
            · have hsx : seek (fun i => decide (y ≤ stepN G i 24)) 201 0 = i := hsk.symm.trans (seek_t (p := (fun i => decide (y ≤ stepN G i 24))) (e := 201) (i := i) (by omega) (decide_eq_true (by omega)))
              refine lv_iload_n hx hb dX4_quick_49 rfl (lv_at hl 0 rfl) ?_
              exact rt_i hQ hx hb hr hlocks hW dX4_quick_50 (stepN G i) (by (try simp only [quickV, skV, ey, hsx, Int.toNat_natCast]); (repeat' split) <;> first | rfl | (exfalso; omega)) trivial (by (try simp only [quickF, skF, ey, hsx, Int.toNat_natCast]); (repeat' split) <;> first | rfl | (exfalso; omega))
      have hW := hW.to (ss' := [xH x la ta ka tp sh fi ik, gW cI la G, gW cI ta (stepN G 0), aI cI fi 7 F]) rfl
      exact lp31 (201 - 0 + 1) 0 (Nat.lt_succ_self _) (by omega) rfl _ _ hW _ (lv_sub hl [0, 1, 2] rfl)
    · refine lv_aload_n hx hb dX4_quick_11 rfl (lv_at hl 0 rfl) ?_
      refine lv_ldc (v := -1000000001) hx hb hown (hts _ (List.mem_of_getElem? (i := 1) rfl)) dX4_quick_12 ?_
      refine cl_Vi (As := [.int (-1000000001)]) (rest := []) (C := RX4) ⟨hx, hb, hml, hown, hts⟩ (M_X4_tell l D cI cJ x fi ik la ta ka tp sh F 0 (by decide) (-1000000001) (by decide +kernel)) (cwV 1 hts gX4_quick_X4_tell rfl rfl rfl qX4_tell ⟨Nat.le_of_ble_eq_true rfl, Nat.le_of_ble_eq_true rfl⟩) E0_good hK hA hW trivial [true, false, false, true] (fun _ => [xH x la ta ka tp sh fi ik, gW cI la G, gW cI ta T, aI cI fi 7 (up F 0 (F 0 + 1))]) rfl (fun _ => rfl) (fun _ => rfl) 0 0 rfl rfl rfl rfl hl.1 rfl (lv_room (Nat.le_of_ble_eq_true rfl)) dX4_quick_14 ⟨Nat.zero_le _, Nat.zero_le _⟩ (fun _ H locs _ hW => ?_)
      exact rt_i hQ hx hb hr hlocks hW dX4_quick_17 T (by (try simp only [quickV, skV]); (repeat' split) <;> first | rfl | (exfalso; omega)) trivial (by (try simp only [quickF, skF]); (repeat' split) <;> first | rfl | (exfalso; omega))
abbrev rmX4_stands : Room := { frames := 4, cells := 0, slots := 0, locals := 98 }
set_option maxRecDepth 100000 in
set_option maxHeartbeats 4000000 in
theorem M_X4_stands (l : Launch) (D : va_G) (cI cJ : ClassId) (x fi ik : Nat) (la ta ka tp sh : Nat → Nat) (G T F : Nat → Nat) (hG : OkG 99999 G)  : CE E0 l D vwCl [(cI, .int), (cJ, .long)] yX4_stands wsX4_stands rmX4_stands [.ref x] [xH x la ta ka tp sh fi ik, gW cI la G, gW cI ta T, aI cI fi 7 F] (S := (Nat → Nat)) (some (.int (standsV G))) (fun _ => True) (fun Tx : Nat → Nat => [xH x la ta ka tp sh fi ik, gW cI la G, gW cI ta Tx, aI cI fi 7 (standsF G F)]) 0 0 := by
  refine CE.ofW (cc := cX4_stands) (maxL := 2) (ret := (some .int)) (lv := [(0, .ref x)]) (by decide) rfl (Nat.le_of_ble_eq_true rfl) rfl ?_
  intro p e s m args below meth c ls A Q hQ hx hb hml hr hlocks hnm hown hts hK hA hE hW hl
  have hown : s.vm.findClass RX4 = some m.cls := hown
  obtain ⟨hg0, hg8, hg16, hg16b, hg24, hg32, hg40, hg48⟩ := hG.s
  refine lv_aload_n hx hb dX4_stands_0 rfl (lv_at hl 0 rfl) ?_
  refine sg_get (ci := 3) (C := RX4) (T := TX4) (N := 7) (v := .ref (ta 0)) hx hb hts (fun _ h => List.mem_cons_of_mem _ (List.mem_append_left _ (List.mem_append_right _ h))) hown hK hW 0 0 rfl rfl rfl 1 (by decide) (hts _ (List.mem_of_getElem? (i := 1) rfl)) rfl dX4_stands_1 ?_
  refine lv_aload_n hx hb dX4_stands_4 rfl (lv_at hl 0 rfl) ?_
  refine sg_get (ci := 3) (C := RX4) (T := TX4) (N := 7) (v := .ref (la 0)) hx hb hts (fun _ h => List.mem_cons_of_mem _ (List.mem_append_left _ (List.mem_append_right _ h))) hown hK hW 0 0 rfl rfl rfl 0 (by decide) (hts _ (List.mem_of_getElem? (i := 2) rfl)) rfl dX4_stands_5 ?_
  refine cl_Vv (As := [.ref (la 0)]) (rest := []) (C := RX0) ⟨hx, hb, hml, hown, hts⟩ (M_X0_become2 l D cI cJ ta la T G) (cwV 1 hts gX4_stands_X0_become rfl rfl rfl qX0_become ⟨Nat.le_of_ble_eq_true rfl, Nat.le_of_ble_eq_true rfl⟩) E0_good hK hA hW trivial [false, true, true] (fun _ => [xH x la ta ka tp sh fi ik, gW cI la G, gW cI ta G, aI cI fi 7 F]) rfl (fun _ => rfl) (fun _ => rfl) 2 0 rfl rfl rfl rfl hl.1 rfl (lv_room (Nat.le_of_ble_eq_true rfl)) dX4_stands_8 ⟨Nat.zero_le _, Nat.zero_le _⟩ (fun _ H locs _ hW => ?_)
  refine lv_iconst (v := nI 0) hx hb dX4_stands_11 (by decide +kernel) ?_
  refine lv_istore_n (lv' := [(1, .int (nI 0)), (0, .ref x)]) hx hb dX4_stands_12 rfl hl (by decide) rfl (fun ls hl => ?_)
  have lp13 : ∀ (n : Nat) (i : Nat), 201 - i < n → 0 ≤ i ∧ i ≤ 201 → seek (fun i => decide (stepN G i 24 = 0)) (201 - i) i = seek (fun i => decide (stepN G i 24 = 0)) (201 - 0) 0 → ∀ (H : Heap) (locs : List Loc), Wo D vwCl A s.heap H locs [xH x la ta ka tp sh fi ik, gW cI la G, gW cI ta (stepN G i), aI cI fi 7 F] → ∀ ls : Array Slot, lv_has ls 2 [(1, .int (nI i)), (0, .ref x)] → W p l e rmX4_stands s m args below meth c H locs 0 0 Q (F0 m 13 ls []) := by
    intro n
    induction n with
    | zero => intro i hm; exact absurd hm (Nat.not_lt_zero _)
    | succ n ih =>
      intro i hm hi hsk H locs hW ls hl
      have hTi := stepN_ok hG i
      have hTs := hTi.s
      refine lv_iload_n hx hb dX4_stands_13 rfl (lv_at hl 0 rfl) ?_
      refine lv_sipush (v := nI 200) hx hb dX4_stands_14 (by decide +kernel) ?_
      refine nn_cgt (tgt := 45) hx hb dX4_stands_17 (by decide) (by omega) (by decide) (fun c17 => ?_) (fun c17 => ?_)
      · have hsx : seek (fun i => decide (stepN G i 24 = 0)) 201 0 = 201 := hsk.symm.trans (seek_e (fun i => decide (stepN G i 24 = 0)) (e := 201) (i := i) (by omega))
        refine lv_aload_n hx hb dX4_stands_45 rfl (lv_at hl 1 rfl) ?_
        refine lv_ldc (v := -1000000004) hx hb hown (hts _ (List.mem_of_getElem? (i := 4) rfl)) dX4_stands_46 ?_
        refine cl_Vi (As := [.int (-1000000004)]) (rest := []) (C := RX4) ⟨hx, hb, hml, hown, hts⟩ (M_X4_tell l D cI cJ x fi ik la ta ka tp sh F 3 (by decide) (-1000000004) (by decide +kernel)) (cwV 1 hts gX4_stands_X4_tell rfl rfl rfl qX4_tell ⟨Nat.le_of_ble_eq_true rfl, Nat.le_of_ble_eq_true rfl⟩) E0_good hK hA hW trivial [true, false, false, true] (fun _ => [xH x la ta ka tp sh fi ik, gW cI la G, gW cI ta (stepN G i), aI cI fi 7 (up F 3 (F 3 + 1))]) rfl (fun _ => rfl) (fun _ => rfl) 0 0 rfl rfl rfl rfl hl.1 rfl (lv_room (Nat.le_of_ble_eq_true rfl)) dX4_stands_48 ⟨Nat.zero_le _, Nat.zero_le _⟩ (fun _ H locs _ hW => ?_)
        exact rt_i hQ hx hb hr hlocks hW dX4_stands_51 (stepN G i) (by (try simp only [standsV, skV, hsx, Int.toNat_natCast]); (repeat' split) <;> first | rfl | (exfalso; omega)) trivial (by (try simp only [standsF, skF, hsx, Int.toNat_natCast]); (repeat' split) <;> first | rfl | (exfalso; omega))
      · refine lv_aload_n hx hb dX4_stands_20 rfl (lv_at hl 1 rfl) ?_
        refine sg_get (ci := 3) (C := RX4) (T := TX4) (N := 7) (v := .ref (ta 0)) hx hb hts (fun _ h => List.mem_cons_of_mem _ (List.mem_append_left _ (List.mem_append_right _ h))) hown hK hW 0 0 rfl rfl rfl 1 (by decide) (hts _ (List.mem_of_getElem? (i := 1) rfl)) rfl dX4_stands_21 ?_
        refine sg_get (ci := 0) (C := RX0) (T := TX0) (N := 14) (v := .int (nI ((stepN G i) 24))) hx hb hts (fun _ h => List.mem_cons_of_mem _ (List.mem_append_right _ h)) hown hK hW 2 0 rfl rfl rfl 3 (by decide) (hts _ (List.mem_of_getElem? (i := 3) rfl)) rfl dX4_stands_24 ?_
        refine nn_zne (tgt := 32) hx hb dX4_stands_27 (by decide) (by omega) (fun c27 => ?_) (fun c27 => ?_)
        · refine lv_aload_n hx hb dX4_stands_32 rfl (lv_at hl 1 rfl) ?_
          refine sg_get (ci := 3) (C := RX4) (T := TX4) (N := 7) (v := .ref (ta 0)) hx hb hts (fun _ h => List.mem_cons_of_mem _ (List.mem_append_left _ (List.mem_append_right _ h))) hown hK hW 0 0 rfl rfl rfl 1 (by decide) (hts _ (List.mem_of_getElem? (i := 1) rfl)) rfl dX4_stands_33 ?_
          refine cl_Vv (As := []) (rest := []) (C := RX0) ⟨hx, hb, hml, hown, hts⟩ (M_X0_passMinute l D cI cJ ta (stepN G i) (99999 + i) (by omega) hTi) (cwV 0 hts gX4_stands_X0_passMinute rfl rfl rfl qX0_passMinute ⟨Nat.le_of_ble_eq_true rfl, Nat.le_of_ble_eq_true rfl⟩) E0_good hK hA hW trivial [false, false, true] (fun _ => [xH x la ta ka tp sh fi ik, gW cI la G, gW cI ta (stepG (stepN G i)), aI cI fi 7 F]) rfl (fun _ => rfl) (fun _ => rfl) 2 0 rfl rfl rfl rfl hl.1 rfl (lv_room (Nat.le_of_ble_eq_true rfl)) dX4_stands_36 ⟨Nat.zero_le _, Nat.zero_le _⟩ (fun _ H locs _ hW => ?_)
          refine lv_iinc (v := nI (i + 1)) (lv' := [(1, .int (nI (i + 1))), (0, .ref x)]) hx hb dX4_stands_39 hl (k := 0) rfl (nI_add _ 1) (by decide) rfl (fun ls hl => ?_)
          refine lv_goto (tgt := 13) hx hb dX4_stands_42 (by decide) ?_
          have hW := hW.to (ss' := [xH x la ta ka tp sh fi ik, gW cI la G, gW cI ta (stepN G (i + 1)), aI cI fi 7 F]) rfl
          exact ih (i + 1) (by omega) (by omega) ((seek_f (p := (fun i => decide (stepN G i 24 = 0))) (e := 201) (by omega) (decide_eq_false (by omega))).symm.trans hsk) _ _ hW _ (lv_sub hl [0, 1] rfl)
        · have hsx : seek (fun i => decide (stepN G i 24 = 0)) 201 0 = i := hsk.symm.trans (seek_t (p := (fun i => decide (stepN G i 24 = 0))) (e := 201) (i := i) (by omega) (decide_eq_true (by omega)))
          refine lv_iload_n hx hb dX4_stands_30 rfl (lv_at hl 0 rfl) ?_
          exact rt_i hQ hx hb hr hlocks hW dX4_stands_31 (stepN G i) (by (try simp only [standsV, skV, hsx, Int.toNat_natCast]); (repeat' split) <;> first | rfl | (exfalso; omega)) trivial (by (try simp only [standsF, skF, hsx, Int.toNat_natCast]); (repeat' split) <;> first | rfl | (exfalso; omega))
  have hW := hW.to (ss' := [xH x la ta ka tp sh fi ik, gW cI la G, gW cI ta (stepN G 0), aI cI fi 7 F]) rfl
  exact lp13 (201 - 0 + 1) 0 (Nat.lt_succ_self _) (by omega) rfl _ _ hW _ (lv_sub hl [0, 1] rfl)
abbrev rmX4_flung : Room := { frames := 4, cells := 0, slots := 0, locals := 98 }
set_option maxRecDepth 100000 in
set_option maxHeartbeats 4000000 in
theorem M_X4_flung (l : Launch) (D : va_G) (cI cJ : ClassId) (x fi ik : Nat) (la ta ka tp sh : Nat → Nat) (G T F : Nat → Nat) (hG : OkG 99999 G) (hfl9 : ∀ c, c < 6 → G (8 * c + 7) < 9999) (v : Int32) : CE E0 l D vwCl [(cI, .int), (cJ, .long)] yX4_flung wsX4_flung rmX4_flung [.ref x, .int v] [xH x la ta ka tp sh fi ik, gW cI la G, gW cI ta T, aI cI fi 7 F] (S := (Nat → Nat)) (some (.int (flungV G v.toInt))) (fun _ => True) (fun Tx : Nat → Nat => [xH x la ta ka tp sh fi ik, gW cI la G, gW cI ta Tx, aI cI fi 7 (flungF G F v.toInt)]) 0 0 := by
  refine CE.ofW (cc := cX4_flung) (maxL := 3) (ret := (some .int)) (lv := [(0, .ref x), (1, .int v)]) (by decide) rfl (Nat.le_of_ble_eq_true rfl) rfl ?_
  intro p e s m args below meth c ls A Q hQ hx hb hml hr hlocks hnm hown hts hK hA hE hW hl
  have hown : s.vm.findClass RX4 = some m.cls := hown
  obtain ⟨hg0, hg8, hg16, hg16b, hg24, hg32, hg40, hg48⟩ := hG.s
  refine lv_aload_n hx hb dX4_flung_0 rfl (lv_at hl 0 rfl) ?_
  refine sg_get (ci := 3) (C := RX4) (T := TX4) (N := 7) (v := .ref (la 0)) hx hb hts (fun _ h => List.mem_cons_of_mem _ (List.mem_append_left _ (List.mem_append_right _ h))) hown hK hW 0 0 rfl rfl rfl 0 (by decide) (hts _ (List.mem_of_getElem? (i := 1) rfl)) rfl dX4_flung_1 ?_
  refine lv_iload_n hx hb dX4_flung_4 rfl (lv_at hl 1 rfl) ?_
  refine cl_Vi (As := [.int v]) (rest := []) (C := RX0) ⟨hx, hb, hml, hown, hts⟩ (M_X0_hasChild l D cI cJ la G 99999 (by decide) hG v) (cwV 1 hts gX4_flung_X0_hasChild rfl rfl rfl qX0_hasChild ⟨Nat.le_of_ble_eq_true rfl, Nat.le_of_ble_eq_true rfl⟩) E0_good hK hA hW trivial [false, true] (fun _ => [xH x la ta ka tp sh fi ik, gW cI la G, gW cI ta T, aI cI fi 7 F]) rfl (fun _ => rfl) (fun _ => rfl) 1 0 rfl rfl rfl rfl hl.1 rfl (lv_room (Nat.le_of_ble_eq_true rfl)) dX4_flung_5 ⟨Nat.zero_le _, Nat.zero_le _⟩ (fun _ H locs _ hW => ?_)
  have him_ := inN_or v (G 48)
  refine nn_zne (tgt := 18) hx hb dX4_flung_8 (by decide) (by omega) (fun c8 => ?_) (fun c8 => ?_)
  · obtain ⟨j, hj, ej⟩ : ∃ j : Nat, v = nI j ∧ v.toInt = (j : Int) := ⟨v.toInt.toNat, nI_ofZ rfl (by omega), by omega⟩
    rw [hj] at hl
    have hcj := hG.c j (by omega)
    have hf9 := hfl9 j (by omega)
    refine lv_aload_n hx hb dX4_flung_18 rfl (lv_at hl 0 rfl) ?_
    refine sg_get (ci := 3) (C := RX4) (T := TX4) (N := 7) (v := .ref (ta 0)) hx hb hts (fun _ h => List.mem_cons_of_mem _ (List.mem_append_left _ (List.mem_append_right _ h))) hown hK hW 0 0 rfl rfl rfl 1 (by decide) (hts _ (List.mem_of_getElem? (i := 3) rfl)) rfl dX4_flung_19 ?_
    refine lv_aload_n hx hb dX4_flung_22 rfl (lv_at hl 0 rfl) ?_
    refine sg_get (ci := 3) (C := RX4) (T := TX4) (N := 7) (v := .ref (la 0)) hx hb hts (fun _ h => List.mem_cons_of_mem _ (List.mem_append_left _ (List.mem_append_right _ h))) hown hK hW 0 0 rfl rfl rfl 0 (by decide) (hts _ (List.mem_of_getElem? (i := 1) rfl)) rfl dX4_flung_23 ?_
    refine cl_Vv (As := [.ref (la 0)]) (rest := []) (C := RX0) ⟨hx, hb, hml, hown, hts⟩ (M_X0_become2 l D cI cJ ta la T G) (cwV 1 hts gX4_flung_X0_become rfl rfl rfl qX0_become ⟨Nat.le_of_ble_eq_true rfl, Nat.le_of_ble_eq_true rfl⟩) E0_good hK hA hW trivial [false, true, true] (fun _ => [xH x la ta ka tp sh fi ik, gW cI la G, gW cI ta G, aI cI fi 7 F]) rfl (fun _ => rfl) (fun _ => rfl) 2 0 rfl rfl rfl rfl hl.1 rfl (lv_room (Nat.le_of_ble_eq_true rfl)) dX4_flung_26 ⟨Nat.zero_le _, Nat.zero_le _⟩ (fun _ H locs _ hW => ?_)
    refine lv_iconst (v := nI 1) hx hb dX4_flung_29 (by decide +kernel) ?_
    refine lv_istore_n (lv' := [(2, .int (nI 1)), (0, .ref x), (1, .int (nI j))]) hx hb dX4_flung_30 rfl hl (by decide) rfl (fun ls hl => ?_)
    have lp31 : ∀ (n : Nat) (i : Nat), 201 - i < n → i ≤ 200 → seek (fun i => decide (¬ stepN G i (8 * j + 7) = G (8 * j + 7))) (201 - (i + 1)) (i + 1) = seek (fun i => decide (¬ stepN G i (8 * j + 7) = G (8 * j + 7))) (201 - (1)) (1) → stepN G i (8 * j + 7) = G (8 * j + 7) → ∀ (H : Heap) (locs : List Loc), Wo D vwCl A s.heap H locs [xH x la ta ka tp sh fi ik, gW cI la G, gW cI ta (stepN G i), aI cI fi 7 F] → ∀ ls : Array Slot, lv_has ls 3 [(2, .int (nI (i + 1))), (0, .ref x), (1, .int (nI j))] → W p l e rmX4_flung s m args below meth c H locs 0 0 Q (F0 m 31 ls []) := by
      intro n
      induction n with
      | zero => intro i hm; exact absurd hm (Nat.not_lt_zero _)
      | succ n ih =>
        intro i hm hi hsk hfl H locs hW ls hl
        have hTi := stepN_ok hG i
        have hTs := hTi.s
        have hTc := hTi.c j (by omega)
        refine lv_iload_n hx hb dX4_flung_31 rfl (lv_at hl 0 rfl) ?_
        refine lv_sipush (v := nI 200) hx hb dX4_flung_32 (by decide +kernel) ?_
        refine nn_cgt (tgt := 78) hx hb dX4_flung_35 (by decide) (by omega) (by decide) (fun c35 => ?_) (fun c35 => ?_)
        · have hsx : seek (fun i => decide (¬ stepN G i (8 * j + 7) = G (8 * j + 7))) 200 1 = 201 := hsk.symm.trans (seek_none (p := (fun i => decide (¬ stepN G i (8 * j + 7) = G (8 * j + 7)))) (e := 201) (201 - (i + 1)) (i + 1) rfl (by omega) (fun k h1 h2 => decide_eq_false (by
            intro h3; apply h3; rw [← hfl]
            by_cases q : stepN G i (8 * j + 6) = 1
            · omega
            · have := stepN_off (G := G) (c := j) (i := i) (by omega) q (r := 7) (by omega) (k - i); rw [show i + (k - i) = k by omega] at this; exact this)))
          refine lv_aload_n hx hb dX4_flung_78 rfl (lv_at hl 1 rfl) ?_
          refine lv_ldc (v := -1000000004) hx hb hown (hts _ (List.mem_of_getElem? (i := 5) rfl)) dX4_flung_79 ?_
          refine cl_Vi (As := [.int (-1000000004)]) (rest := []) (C := RX4) ⟨hx, hb, hml, hown, hts⟩ (M_X4_tell l D cI cJ x fi ik la ta ka tp sh F 3 (by decide) (-1000000004) (by decide +kernel)) (cwV 1 hts gX4_flung_X4_tell rfl rfl rfl qX4_tell ⟨Nat.le_of_ble_eq_true rfl, Nat.le_of_ble_eq_true rfl⟩) E0_good hK hA hW trivial [true, false, false, true] (fun _ => [xH x la ta ka tp sh fi ik, gW cI la G, gW cI ta (stepN G i), aI cI fi 7 (up F 3 (F 3 + 1))]) rfl (fun _ => rfl) (fun _ => rfl) 0 0 rfl rfl rfl rfl hl.1 rfl (lv_room (Nat.le_of_ble_eq_true rfl)) dX4_flung_81 ⟨Nat.zero_le _, Nat.zero_le _⟩ (fun _ H locs _ hW => ?_)
          exact rt_i hQ hx hb hr hlocks hW dX4_flung_84 (stepN G i) (by (try simp only [flungV, skV, ej, hsx, Int.toNat_natCast]); (repeat' split) <;> first | rfl | (exfalso; omega)) trivial (by (try simp only [flungF, skF, ej, hsx, Int.toNat_natCast]); (repeat' split) <;> first | rfl | (exfalso; omega))
        · refine lv_aload_n hx hb dX4_flung_38 rfl (lv_at hl 1 rfl) ?_
          refine sg_get (ci := 3) (C := RX4) (T := TX4) (N := 7) (v := .ref (ta 0)) hx hb hts (fun _ h => List.mem_cons_of_mem _ (List.mem_append_left _ (List.mem_append_right _ h))) hown hK hW 0 0 rfl rfl rfl 1 (by decide) (hts _ (List.mem_of_getElem? (i := 3) rfl)) rfl dX4_flung_39 ?_
          refine sg_get (ci := 0) (C := RX0) (T := TX0) (N := 14) (v := .ref (ta 6)) hx hb hts (fun _ h => List.mem_cons_of_mem _ (List.mem_append_right _ h)) hown hK hW 2 0 rfl rfl rfl 12 (by decide) (hts _ (List.mem_of_getElem? (i := 4) rfl)) rfl dX4_flung_42 ?_
          refine lv_iload_n hx hb dX4_flung_45 rfl (lv_at hl 2 rfl) ?_
          refine sg_ild (v := nI ((stepN G i) (8 * j + 6))) hx hb hK hW 2 6 0 rfl rfl rfl (by omega) (by decide) rfl dX4_flung_46 ?_
          refine lv_iconst (v := nI 1) hx hb dX4_flung_47 (by decide +kernel) ?_
          refine nn_cne (tgt := 78) hx hb dX4_flung_48 (by decide) (by omega) (by decide) (fun c48 => ?_) (fun c48 => ?_)
          · have hsx : seek (fun i => decide (¬ stepN G i (8 * j + 7) = G (8 * j + 7))) 200 1 = 201 := hsk.symm.trans (seek_none (p := (fun i => decide (¬ stepN G i (8 * j + 7) = G (8 * j + 7)))) (e := 201) (201 - (i + 1)) (i + 1) rfl (by omega) (fun k h1 h2 => decide_eq_false (by
              intro h3; apply h3; rw [← hfl]
              by_cases q : stepN G i (8 * j + 6) = 1
              · omega
              · have := stepN_off (G := G) (c := j) (i := i) (by omega) q (r := 7) (by omega) (k - i); rw [show i + (k - i) = k by omega] at this; exact this)))
            refine lv_aload_n hx hb dX4_flung_78 rfl (lv_at hl 1 rfl) ?_
            refine lv_ldc (v := -1000000004) hx hb hown (hts _ (List.mem_of_getElem? (i := 5) rfl)) dX4_flung_79 ?_
            refine cl_Vi (As := [.int (-1000000004)]) (rest := []) (C := RX4) ⟨hx, hb, hml, hown, hts⟩ (M_X4_tell l D cI cJ x fi ik la ta ka tp sh F 3 (by decide) (-1000000004) (by decide +kernel)) (cwV 1 hts gX4_flung_X4_tell rfl rfl rfl qX4_tell ⟨Nat.le_of_ble_eq_true rfl, Nat.le_of_ble_eq_true rfl⟩) E0_good hK hA hW trivial [true, false, false, true] (fun _ => [xH x la ta ka tp sh fi ik, gW cI la G, gW cI ta (stepN G i), aI cI fi 7 (up F 3 (F 3 + 1))]) rfl (fun _ => rfl) (fun _ => rfl) 0 0 rfl rfl rfl rfl hl.1 rfl (lv_room (Nat.le_of_ble_eq_true rfl)) dX4_flung_81 ⟨Nat.zero_le _, Nat.zero_le _⟩ (fun _ H locs _ hW => ?_)
            exact rt_i hQ hx hb hr hlocks hW dX4_flung_84 (stepN G i) (by (try simp only [flungV, skV, ej, hsx, Int.toNat_natCast]); (repeat' split) <;> first | rfl | (exfalso; omega)) trivial (by (try simp only [flungF, skF, ej, hsx, Int.toNat_natCast]); (repeat' split) <;> first | rfl | (exfalso; omega))
          · refine lv_aload_n hx hb dX4_flung_51 rfl (lv_at hl 1 rfl) ?_
            refine sg_get (ci := 3) (C := RX4) (T := TX4) (N := 7) (v := .ref (ta 0)) hx hb hts (fun _ h => List.mem_cons_of_mem _ (List.mem_append_left _ (List.mem_append_right _ h))) hown hK hW 0 0 rfl rfl rfl 1 (by decide) (hts _ (List.mem_of_getElem? (i := 3) rfl)) rfl dX4_flung_52 ?_
            refine cl_Vv (As := []) (rest := []) (C := RX0) ⟨hx, hb, hml, hown, hts⟩ (M_X0_passMinute l D cI cJ ta (stepN G i) (99999 + i) (by omega) hTi) (cwV 0 hts gX4_flung_X0_passMinute rfl rfl rfl qX0_passMinute ⟨Nat.le_of_ble_eq_true rfl, Nat.le_of_ble_eq_true rfl⟩) E0_good hK hA hW trivial [false, false, true] (fun _ => [xH x la ta ka tp sh fi ik, gW cI la G, gW cI ta (stepG (stepN G i)), aI cI fi 7 F]) rfl (fun _ => rfl) (fun _ => rfl) 2 0 rfl rfl rfl rfl hl.1 rfl (lv_room (Nat.le_of_ble_eq_true rfl)) dX4_flung_55 ⟨Nat.zero_le _, Nat.zero_le _⟩ (fun _ H locs _ hW => ?_)
            have hW := hW.to (ss' := [xH x la ta ka tp sh fi ik, gW cI la G, gW cI ta (stepN G (i + 1)), aI cI fi 7 F]) rfl
            have hso := step_on (G := stepN G i) (c := j) (by rw [stepN_48]; omega) (by omega)
            have hTn := (stepN_ok hG (i + 1)).c j (by omega)
            have hTe : stepN G (i + 1) = stepG (stepN G i) := rfl
            rw [← hTe] at hso
            refine lv_aload_n hx hb dX4_flung_58 rfl (lv_at hl 1 rfl) ?_
            refine sg_get (ci := 3) (C := RX4) (T := TX4) (N := 7) (v := .ref (ta 0)) hx hb hts (fun _ h => List.mem_cons_of_mem _ (List.mem_append_left _ (List.mem_append_right _ h))) hown hK hW 0 0 rfl rfl rfl 1 (by decide) (hts _ (List.mem_of_getElem? (i := 3) rfl)) rfl dX4_flung_59 ?_
            refine sg_get (ci := 0) (C := RX0) (T := TX0) (N := 14) (v := .ref (ta 6)) hx hb hts (fun _ h => List.mem_cons_of_mem _ (List.mem_append_right _ h)) hown hK hW 2 0 rfl rfl rfl 12 (by decide) (hts _ (List.mem_of_getElem? (i := 4) rfl)) rfl dX4_flung_62 ?_
            refine lv_iload_n hx hb dX4_flung_65 rfl (lv_at hl 2 rfl) ?_
            refine sg_ild (v := nI ((stepN G (i + 1)) (8 * j + 6))) hx hb hK hW 2 6 0 rfl rfl rfl (by omega) (by decide) rfl dX4_flung_66 ?_
            refine nn_zne (tgt := 72) hx hb dX4_flung_67 (by decide) (by omega) (fun c67 => ?_) (fun c67 => ?_)
            · refine lv_iinc (v := nI (i + 1 + 1)) (lv' := [(2, .int (nI (i + 1 + 1))), (0, .ref x), (1, .int (nI j))]) hx hb dX4_flung_72 hl (k := 0) rfl (nI_add _ 1) (by decide) rfl (fun ls hl => ?_)
              refine lv_goto (tgt := 31) hx hb dX4_flung_75 (by decide) ?_
              have hW := hW.to (ss' := [xH x la ta ka tp sh fi ik, gW cI la G, gW cI ta (stepN G (i + 1)), aI cI fi 7 F]) rfl
              exact ih (i + 1) (by omega) (by omega) ((seek_f (p := (fun i => decide (¬ stepN G i (8 * j + 7) = G (8 * j + 7)))) (e := 201) (i := i + 1) (by omega) (decide_eq_false (by omega))).symm.trans hsk) (by omega) _ _ hW _ (lv_sub hl [0, 1, 2] rfl)
            · have hsx : seek (fun i => decide (¬ stepN G i (8 * j + 7) = G (8 * j + 7))) 200 1 = i + 1 := hsk.symm.trans (seek_t (p := (fun i => decide (¬ stepN G i (8 * j + 7) = G (8 * j + 7)))) (e := 201) (i := i + 1) (by omega) (decide_eq_true (by omega)))
              refine lv_iload_n hx hb dX4_flung_70 rfl (lv_at hl 0 rfl) ?_
              exact rt_i hQ hx hb hr hlocks hW dX4_flung_71 (stepN G (i + 1)) (by (try simp only [flungV, skV, ej, hsx, Int.toNat_natCast]); (repeat' split) <;> first | rfl | (exfalso; omega)) trivial (by (try simp only [flungF, skF, ej, hsx, Int.toNat_natCast]); (repeat' split) <;> first | rfl | (exfalso; omega))
    have hW := hW.to (ss' := [xH x la ta ka tp sh fi ik, gW cI la G, gW cI ta (stepN G 0), aI cI fi 7 F]) rfl
    exact lp31 (201 - 0 + 1) 0 (Nat.lt_succ_self _) (by omega) rfl rfl _ _ hW _ (lv_sub hl [0, 1, 2] rfl)
  · refine lv_aload_n hx hb dX4_flung_11 rfl (lv_at hl 0 rfl) ?_
    refine lv_ldc (v := -1000000001) hx hb hown (hts _ (List.mem_of_getElem? (i := 2) rfl)) dX4_flung_12 ?_
    refine cl_Vi (As := [.int (-1000000001)]) (rest := []) (C := RX4) ⟨hx, hb, hml, hown, hts⟩ (M_X4_tell l D cI cJ x fi ik la ta ka tp sh F 0 (by decide) (-1000000001) (by decide +kernel)) (cwV 1 hts gX4_flung_X4_tell rfl rfl rfl qX4_tell ⟨Nat.le_of_ble_eq_true rfl, Nat.le_of_ble_eq_true rfl⟩) E0_good hK hA hW trivial [true, false, false, true] (fun _ => [xH x la ta ka tp sh fi ik, gW cI la G, gW cI ta T, aI cI fi 7 (up F 0 (F 0 + 1))]) rfl (fun _ => rfl) (fun _ => rfl) 0 0 rfl rfl rfl rfl hl.1 rfl (lv_room (Nat.le_of_ble_eq_true rfl)) dX4_flung_14 ⟨Nat.zero_le _, Nat.zero_le _⟩ (fun _ H locs _ hW => ?_)
    exact rt_i hQ hx hb hr hlocks hW dX4_flung_17 T (by (try simp only [flungV, skV]); (repeat' split) <;> first | rfl | (exfalso; omega)) trivial (by (try simp only [flungF, skF]); (repeat' split) <;> first | rfl | (exfalso; omega))
abbrev rmX4_send : Room := { frames := 5, cells := 0, slots := 0, locals := 120 }
set_option maxRecDepth 100000 in
set_option maxHeartbeats 4000000 in
theorem M_X4_send (l : Launch) (D : va_G) (cI cJ : ClassId) (x fi ik : Nat) (la ta ka tp sh : Nat → Nat) (G T F : Nat → Nat) (hG : OkG 99999 G) (z : Int32) : CE E0 l D vwCl [(cI, .int), (cJ, .long)] yX4_send wsX4_send rmX4_send [.ref x, .int z] [xH x la ta ka tp sh fi ik, gW cI la G, gW cI ta T, aI cI fi 7 F] (S := (Nat → Nat)) (some (.int (sendV G z.toInt))) (fun _ => True) (fun Tx : Nat → Nat => [xH x la ta ka tp sh fi ik, gW cI la G, gW cI ta Tx, aI cI fi 7 (sendF G F z.toInt)]) 0 0 := by
  refine CE.ofW (cc := cX4_send) (maxL := 5) (ret := (some .int)) (lv := [(0, .ref x), (1, .int z)]) (by decide) rfl (Nat.le_of_ble_eq_true rfl) rfl ?_
  intro p e s m args below meth c ls A Q hQ hx hb hml hr hlocks hnm hown hts hK hA hE hW hl
  have hown : s.vm.findClass RX4 = some m.cls := hown
  obtain ⟨hg0, hg8, hg16, hg16b, hg24, hg32, hg40, hg48⟩ := hG.s
  refine lv_iload_n hx hb dX4_send_0 rfl (lv_at hl 1 rfl) ?_
  refine cl_Si (As := [.int z]) (rest := []) ⟨hx, hb, hml, hown, hts⟩ (M_X4_isNear l D cI cJ z) (va_cwS 1 hts gX4_send_X4_isNear rfl rfl rfl qX4_isNear ⟨Nat.le_of_ble_eq_true rfl, Nat.le_of_ble_eq_true rfl⟩) E0_good hK hA hW trivial [] (fun _ => [xH x la ta ka tp sh fi ik, gW cI la G, gW cI ta T, aI cI fi 7 F]) rfl (fun _ => rfl) (fun _ => rfl) rfl hl.1 rfl (lv_room (Nat.le_of_ble_eq_true rfl)) dX4_send_1 ⟨Nat.zero_le _, Nat.zero_le _⟩ (fun _ H locs _ hW => ?_)
  have hin_ := inZ_or z.toInt 1 60
  refine nn_zne (tgt := 14) hx hb dX4_send_4 (by decide) (by omega) (fun c4 => ?_) (fun c4 => ?_)
  · obtain ⟨y, hy, ey⟩ : ∃ y : Nat, z = nI y ∧ z.toInt = (y : Int) := ⟨z.toInt.toNat, nI_ofZ rfl (by omega), by omega⟩
    rw [hy] at hl
    refine lv_iconst (v := -1) hx hb dX4_send_14 (by decide +kernel) ?_
    refine lv_istore_n (lv' := [(2, .int (-1)), (0, .ref x), (1, .int (nI y))]) hx hb dX4_send_15 rfl hl (by decide) rfl (fun ls hl => ?_)
    refine lv_iconst (v := nI 0) hx hb dX4_send_16 (by decide +kernel) ?_
    refine lv_istore_n (lv' := [(3, .int (nI 0)), (2, .int (-1)), (0, .ref x), (1, .int (nI y))]) hx hb dX4_send_17 rfl hl (by decide) rfl (fun ls hl => ?_)
    refine lv_iconst (v := nI 0) hx hb dX4_send_18 (by decide +kernel) ?_
    refine lv_istore (lv' := [(4, .int (nI 0)), (3, .int (nI 0)), (2, .int (-1)), (0, .ref x), (1, .int (nI y))]) hx hb dX4_send_19 hl (by decide) rfl (fun ls hl => ?_)
    have lp21 : ∀ (n : Nat) (i : Nat) (o : Nat) (q : Nat) (Ty : Nat → Nat), G 40 - i < n → i ≤ G 40 → sendSt G y i = (o, q) → ∀ (H : Heap) (locs : List Loc), Wo D vwCl A s.heap H locs [xH x la ta ka tp sh fi ik, gW cI la G, gW cI ta Ty, aI cI fi 7 F] → ∀ ls : Array Slot, lv_has ls 5 [(4, .int (nI i)), (3, .int (nI q)), (2, .int (bst o)), (0, .ref x), (1, .int (nI y))] → W p l e rmX4_send s m args below meth c H locs 0 0 Q (F0 m 21 ls []) := by
      intro n
      induction n with
      | zero => intro i o q Ty hm; exact absurd hm (Nat.not_lt_zero _)
      | succ n ih =>
        intro i o q Ty hm hi hst H locs hW ls hl
        have hstl : o ≤ i ∧ q ≤ 999999 := sendSt_in hG y i (by omega) hst
        refine lv_iload hx hb dX4_send_21 (lv_at hl 0 rfl) ?_
        refine lv_aload_n hx hb dX4_send_23 rfl (lv_at hl 3 rfl) ?_
        refine sg_get (ci := 3) (C := RX4) (T := TX4) (N := 7) (v := .ref (la 0)) hx hb hts (fun _ h => List.mem_cons_of_mem _ (List.mem_append_left _ (List.mem_append_right _ h))) hown hK hW 0 0 rfl rfl rfl 0 (by decide) (hts _ (List.mem_of_getElem? (i := 2) rfl)) rfl dX4_send_24 ?_
        refine sg_get (ci := 0) (C := RX0) (T := TX0) (N := 14) (v := .int (nI (G 40))) hx hb hts (fun _ h => List.mem_cons_of_mem _ (List.mem_append_right _ h)) hown hK hW 1 0 rfl rfl rfl 5 (by decide) (hts _ (List.mem_of_getElem? (i := 3) rfl)) rfl dX4_send_27 ?_
        refine nn_cge (tgt := 108) hx hb dX4_send_30 (by decide) (by omega) (by omega) (fun c30 => ?_) (fun c30 => ?_)
        · have hsx : sendSt G y (G 40) = (o, q) := by rw [← show i = G 40 by omega]; exact hst
          refine lv_iload_n hx hb dX4_send_108 rfl (lv_at hl 2 rfl) ?_
          refine zz_zge (tgt := 121) hx hb dX4_send_109 (by decide) (bst_toInt (o := o) (by omega)) (fun c109 => ?_) (fun c109 => ?_)
          · refine lv_iload_n hx hb dX4_send_121 rfl (lv_at hl 2 rfl) ?_
            exact rt_i hQ hx hb hr hlocks hW dX4_send_122 Ty (by (try simp only [sendV, orV, bst, ey, hsx, Int.toNat_natCast]); (repeat' split) <;> first | rfl | (exfalso; omega)) trivial (by (try simp only [sendF, orF, ey, hsx, Int.toNat_natCast]); (repeat' split) <;> first | rfl | (exfalso; omega))
          · refine lv_aload_n hx hb dX4_send_112 rfl (lv_at hl 3 rfl) ?_
            refine lv_ldc (v := -1000000004) hx hb hown (hts _ (List.mem_of_getElem? (i := 7) rfl)) dX4_send_113 ?_
            refine cl_Vi (As := [.int (-1000000004)]) (rest := []) (C := RX4) ⟨hx, hb, hml, hown, hts⟩ (M_X4_tell l D cI cJ x fi ik la ta ka tp sh F 3 (by decide) (-1000000004) (by decide +kernel)) (cwV 1 hts gX4_send_X4_tell rfl rfl rfl qX4_tell ⟨Nat.le_of_ble_eq_true rfl, Nat.le_of_ble_eq_true rfl⟩) E0_good hK hA hW trivial [true, false, false, true] (fun _ => [xH x la ta ka tp sh fi ik, gW cI la G, gW cI ta Ty, aI cI fi 7 (up F 3 (F 3 + 1))]) rfl (fun _ => rfl) (fun _ => rfl) 0 0 rfl rfl rfl rfl hl.1 rfl (lv_room (Nat.le_of_ble_eq_true rfl)) dX4_send_115 ⟨Nat.zero_le _, Nat.zero_le _⟩ (fun _ H locs _ hW => ?_)
            refine lv_goto (tgt := 122) hx hb dX4_send_118 (by decide) ?_
            exact rt_i hQ hx hb hr hlocks hW dX4_send_122 Ty (by (try simp only [sendV, orV, bst, ey, hsx, Int.toNat_natCast]); (repeat' split) <;> first | rfl | (exfalso; omega)) trivial (by (try simp only [sendF, orF, ey, hsx, Int.toNat_natCast]); (repeat' split) <;> first | rfl | (exfalso; omega))
        · have hmi := hG.m i (by omega)
          have htl := turned_le (moveM_ok hG (a := i) (o := 0) (by omega)) y
          refine lv_aload_n hx hb dX4_send_33 rfl (lv_at hl 3 rfl) ?_
          refine sg_get (ci := 3) (C := RX4) (T := TX4) (N := 7) (v := .ref (la 0)) hx hb hts (fun _ h => List.mem_cons_of_mem _ (List.mem_append_left _ (List.mem_append_right _ h))) hown hK hW 0 0 rfl rfl rfl 0 (by decide) (hts _ (List.mem_of_getElem? (i := 2) rfl)) rfl dX4_send_34 ?_
          refine sg_get (ci := 0) (C := RX0) (T := TX0) (N := 14) (v := .ref (la 2)) hx hb hts (fun _ h => List.mem_cons_of_mem _ (List.mem_append_right _ h)) hown hK hW 1 0 rfl rfl rfl 7 (by decide) (hts _ (List.mem_of_getElem? (i := 4) rfl)) rfl dX4_send_37 ?_
          refine lv_iload hx hb dX4_send_40 (lv_at hl 0 rfl) ?_
          refine sg_ild (v := nI (G (8 * i + 2))) hx hb hK hW 1 2 0 rfl rfl rfl (by omega) (by decide) rfl dX4_send_42 ?_
          refine lv_iconst (v := nI 1) hx hb dX4_send_43 (by decide +kernel) ?_
          refine nn_cne (tgt := 102) hx hb dX4_send_44 (by decide) (by omega) (by decide) (fun c44 => ?_) (fun c44 => ?_)
          · have hst2 : sendSt G y (i + 1) = (o, q) := by
              show (if G (8 * i + 2) = 1 then _ else sendSt G y i) = (o, q)
              rw [if_neg (by omega), hst]
            refine lv_iinc (v := nI (i + 1)) (lv' := [(4, .int (nI (i + 1))), (3, .int (nI q)), (2, .int (bst o)), (0, .ref x), (1, .int (nI y))]) hx hb dX4_send_102 hl (k := 0) rfl (nI_add _ 1) (by decide) rfl (fun ls hl => ?_)
            refine lv_goto (tgt := 21) hx hb dX4_send_105 (by decide) ?_
            exact ih (i + 1) o q Ty (by omega) (by omega) hst2 _ _ hW _ (lv_sub hl [0, 1, 2, 3, 4] rfl)
          · refine lv_aload_n hx hb dX4_send_47 rfl (lv_at hl 3 rfl) ?_
            refine sg_get (ci := 3) (C := RX4) (T := TX4) (N := 7) (v := .ref (ta 0)) hx hb hts (fun _ h => List.mem_cons_of_mem _ (List.mem_append_left _ (List.mem_append_right _ h))) hown hK hW 0 0 rfl rfl rfl 1 (by decide) (hts _ (List.mem_of_getElem? (i := 5) rfl)) rfl dX4_send_48 ?_
            refine lv_aload_n hx hb dX4_send_51 rfl (lv_at hl 3 rfl) ?_
            refine sg_get (ci := 3) (C := RX4) (T := TX4) (N := 7) (v := .ref (la 0)) hx hb hts (fun _ h => List.mem_cons_of_mem _ (List.mem_append_left _ (List.mem_append_right _ h))) hown hK hW 0 0 rfl rfl rfl 0 (by decide) (hts _ (List.mem_of_getElem? (i := 2) rfl)) rfl dX4_send_52 ?_
            refine cl_Vv (As := [.ref (la 0)]) (rest := []) (C := RX0) ⟨hx, hb, hml, hown, hts⟩ (M_X0_become2 l D cI cJ ta la Ty G) (cwV 1 hts gX4_send_X0_become rfl rfl rfl qX0_become ⟨Nat.le_of_ble_eq_true rfl, Nat.le_of_ble_eq_true rfl⟩) E0_good hK hA hW trivial [false, true, true] (fun _ => [xH x la ta ka tp sh fi ik, gW cI la G, gW cI ta G, aI cI fi 7 F]) rfl (fun _ => rfl) (fun _ => rfl) 2 0 rfl rfl rfl rfl hl.1 rfl (lv_room (Nat.le_of_ble_eq_true rfl)) dX4_send_55 ⟨Nat.zero_le _, Nat.zero_le _⟩ (fun _ H locs _ hW => ?_)
            refine lv_aload_n hx hb dX4_send_58 rfl (lv_at hl 3 rfl) ?_
            refine sg_get (ci := 3) (C := RX4) (T := TX4) (N := 7) (v := .ref (ta 0)) hx hb hts (fun _ h => List.mem_cons_of_mem _ (List.mem_append_left _ (List.mem_append_right _ h))) hown hK hW 0 0 rfl rfl rfl 1 (by decide) (hts _ (List.mem_of_getElem? (i := 5) rfl)) rfl dX4_send_59 ?_
            refine lv_iload hx hb dX4_send_62 (lv_at hl 0 rfl) ?_
            refine lv_iconst (v := nI 0) hx hb dX4_send_64 (by decide +kernel) ?_
            refine cl_Vv (As := [.int (nI i), .int (nI 0)]) (rest := []) (C := RX0) ⟨hx, hb, hml, hown, hts⟩ (M_X0_moveMother l D cI cJ ta G 99999 (by decide) hG i 0 (by omega)) (cwV 2 hts gX4_send_X0_moveMother rfl rfl rfl qX0_moveMother ⟨Nat.le_of_ble_eq_true rfl, Nat.le_of_ble_eq_true rfl⟩) E0_good hK hA hW trivial [false, false, true] (fun _ => [xH x la ta ka tp sh fi ik, gW cI la G, gW cI ta (moveM G i 0), aI cI fi 7 F]) rfl (fun _ => rfl) (fun _ => rfl) 2 0 rfl rfl rfl rfl hl.1 rfl (lv_room (Nat.le_of_ble_eq_true rfl)) dX4_send_65 ⟨Nat.zero_le _, Nat.zero_le _⟩ (fun _ H locs _ hW => ?_)
            refine lv_aload_n hx hb dX4_send_68 rfl (lv_at hl 3 rfl) ?_
            refine sg_get (ci := 3) (C := RX4) (T := TX4) (N := 7) (v := .ref (ta 0)) hx hb hts (fun _ h => List.mem_cons_of_mem _ (List.mem_append_left _ (List.mem_append_right _ h))) hown hK hW 0 0 rfl rfl rfl 1 (by decide) (hts _ (List.mem_of_getElem? (i := 5) rfl)) rfl dX4_send_69 ?_
            refine lv_iload_n hx hb dX4_send_72 rfl (lv_at hl 4 rfl) ?_
            refine cl_Vv (As := [.int (nI y)]) (rest := []) (C := RX0) ⟨hx, hb, hml, hown, hts⟩ (M_X0_passMinutes l D cI cJ ta (moveM G i 0) 99999 (by decide) (moveM_ok hG (by omega)) y (by omega)) (cwV 1 hts gX4_send_X0_passMinutes rfl rfl rfl qX0_passMinutes ⟨Nat.le_of_ble_eq_true rfl, Nat.le_of_ble_eq_true rfl⟩) E0_good hK hA hW trivial [false, false, true] (fun _ => [xH x la ta ka tp sh fi ik, gW cI la G, gW cI ta (stepN (moveM G i 0) y), aI cI fi 7 F]) rfl (fun _ => rfl) (fun _ => rfl) 2 0 rfl rfl rfl rfl hl.1 rfl (lv_room (Nat.le_of_ble_eq_true rfl)) dX4_send_73 ⟨Nat.zero_le _, Nat.zero_le _⟩ (fun _ H locs _ hW => ?_)
            refine lv_iload_n hx hb dX4_send_76 rfl (lv_at hl 2 rfl) ?_
            refine zz_zlt (tgt := 91) hx hb dX4_send_77 (by decide) (bst_toInt (o := o) (by omega)) (fun c77 => ?_) (fun c77 => ?_)
            · refine lv_iload hx hb dX4_send_91 (lv_at hl 0 rfl) ?_
              refine lv_istore_n (lv' := [(2, .int (nI i)), (4, .int (nI i)), (3, .int (nI q)), (0, .ref x), (1, .int (nI y))]) hx hb dX4_send_93 rfl hl (by decide) rfl (fun ls hl => ?_)
              refine lv_aload_n hx hb dX4_send_94 rfl (lv_at hl 3 rfl) ?_
              refine sg_get (ci := 3) (C := RX4) (T := TX4) (N := 7) (v := .ref (ta 0)) hx hb hts (fun _ h => List.mem_cons_of_mem _ (List.mem_append_left _ (List.mem_append_right _ h))) hown hK hW 0 0 rfl rfl rfl 1 (by decide) (hts _ (List.mem_of_getElem? (i := 5) rfl)) rfl dX4_send_95 ?_
              refine sg_get (ci := 0) (C := RX0) (T := TX0) (N := 14) (v := .int (nI ((stepN (moveM G i 0) y) 32))) hx hb hts (fun _ h => List.mem_cons_of_mem _ (List.mem_append_right _ h)) hown hK hW 2 0 rfl rfl rfl 4 (by decide) (hts _ (List.mem_of_getElem? (i := 6) rfl)) rfl dX4_send_98 ?_
              refine lv_istore_n (lv' := [(3, .int (nI ((stepN (moveM G i 0) y) 32))), (2, .int (nI i)), (4, .int (nI i)), (0, .ref x), (1, .int (nI y))]) hx hb dX4_send_101 rfl hl (by decide) rfl (fun ls hl => ?_)
              have hst2 : sendSt G y (i + 1) = (i + 1, stepN (moveM G i 0) y 32) := by
                show (if G (8 * i + 2) = 1 then (if (sendSt G y i).1 = 0 ∨ stepN (moveM G i 0) y 32 < (sendSt G y i).2 then (i + 1, stepN (moveM G i 0) y 32) else sendSt G y i) else sendSt G y i) = _
                rw [if_pos (by omega), hst, if_pos (by show o = 0 ∨ _ < q; omega)]
              have hb1 : nI i = bst (i + 1) := (if_neg (Nat.succ_ne_zero _)).symm
              have hl : lv_has ls 5 [(3, .int (nI ((stepN (moveM G i 0) y) 32))), (2, .int (bst (i + 1))), (4, .int (nI i)), (0, .ref x), (1, .int (nI y))] := by rw [← hb1]; exact hl
              refine lv_iinc (v := nI (i + 1)) (lv' := [(4, .int (nI (i + 1))), (3, .int (nI ((stepN (moveM G i 0) y) 32))), (2, .int (bst (i + 1))), (0, .ref x), (1, .int (nI y))]) hx hb dX4_send_102 hl (k := 2) rfl (nI_add _ 1) (by decide) rfl (fun ls hl => ?_)
              refine lv_goto (tgt := 21) hx hb dX4_send_105 (by decide) ?_
              exact ih (i + 1) (i + 1) (stepN (moveM G i 0) y 32) (stepN (moveM G i 0) y) (by omega) (by omega) hst2 _ _ hW _ (lv_sub hl [0, 1, 2, 3, 4] rfl)
            · refine lv_aload_n hx hb dX4_send_80 rfl (lv_at hl 3 rfl) ?_
              refine sg_get (ci := 3) (C := RX4) (T := TX4) (N := 7) (v := .ref (ta 0)) hx hb hts (fun _ h => List.mem_cons_of_mem _ (List.mem_append_left _ (List.mem_append_right _ h))) hown hK hW 0 0 rfl rfl rfl 1 (by decide) (hts _ (List.mem_of_getElem? (i := 5) rfl)) rfl dX4_send_81 ?_
              refine sg_get (ci := 0) (C := RX0) (T := TX0) (N := 14) (v := .int (nI ((stepN (moveM G i 0) y) 32))) hx hb hts (fun _ h => List.mem_cons_of_mem _ (List.mem_append_right _ h)) hown hK hW 2 0 rfl rfl rfl 4 (by decide) (hts _ (List.mem_of_getElem? (i := 6) rfl)) rfl dX4_send_84 ?_
              refine lv_iload_n hx hb dX4_send_87 rfl (lv_at hl 1 rfl) ?_
              refine nn_cge (tgt := 102) hx hb dX4_send_88 (by decide) (by omega) (by omega) (fun c88 => ?_) (fun c88 => ?_)
              · have hst2 : sendSt G y (i + 1) = (o, q) := by
                  show (if G (8 * i + 2) = 1 then (if (sendSt G y i).1 = 0 ∨ stepN (moveM G i 0) y 32 < (sendSt G y i).2 then (i + 1, stepN (moveM G i 0) y 32) else sendSt G y i) else sendSt G y i) = _
                  rw [if_pos (by omega), hst, if_neg (by show ¬ (o = 0 ∨ _ < q); omega)]
                refine lv_iinc (v := nI (i + 1)) (lv' := [(4, .int (nI (i + 1))), (3, .int (nI q)), (2, .int (bst o)), (0, .ref x), (1, .int (nI y))]) hx hb dX4_send_102 hl (k := 0) rfl (nI_add _ 1) (by decide) rfl (fun ls hl => ?_)
                refine lv_goto (tgt := 21) hx hb dX4_send_105 (by decide) ?_
                exact ih (i + 1) o q (stepN (moveM G i 0) y) (by omega) (by omega) hst2 _ _ hW _ (lv_sub hl [0, 1, 2, 3, 4] rfl)
              · refine lv_iload hx hb dX4_send_91 (lv_at hl 0 rfl) ?_
                refine lv_istore_n (lv' := [(2, .int (nI i)), (4, .int (nI i)), (3, .int (nI q)), (0, .ref x), (1, .int (nI y))]) hx hb dX4_send_93 rfl hl (by decide) rfl (fun ls hl => ?_)
                refine lv_aload_n hx hb dX4_send_94 rfl (lv_at hl 3 rfl) ?_
                refine sg_get (ci := 3) (C := RX4) (T := TX4) (N := 7) (v := .ref (ta 0)) hx hb hts (fun _ h => List.mem_cons_of_mem _ (List.mem_append_left _ (List.mem_append_right _ h))) hown hK hW 0 0 rfl rfl rfl 1 (by decide) (hts _ (List.mem_of_getElem? (i := 5) rfl)) rfl dX4_send_95 ?_
                refine sg_get (ci := 0) (C := RX0) (T := TX0) (N := 14) (v := .int (nI ((stepN (moveM G i 0) y) 32))) hx hb hts (fun _ h => List.mem_cons_of_mem _ (List.mem_append_right _ h)) hown hK hW 2 0 rfl rfl rfl 4 (by decide) (hts _ (List.mem_of_getElem? (i := 6) rfl)) rfl dX4_send_98 ?_
                refine lv_istore_n (lv' := [(3, .int (nI ((stepN (moveM G i 0) y) 32))), (2, .int (nI i)), (4, .int (nI i)), (0, .ref x), (1, .int (nI y))]) hx hb dX4_send_101 rfl hl (by decide) rfl (fun ls hl => ?_)
                have hst2 : sendSt G y (i + 1) = (i + 1, stepN (moveM G i 0) y 32) := by
                  show (if G (8 * i + 2) = 1 then (if (sendSt G y i).1 = 0 ∨ stepN (moveM G i 0) y 32 < (sendSt G y i).2 then (i + 1, stepN (moveM G i 0) y 32) else sendSt G y i) else sendSt G y i) = _
                  rw [if_pos (by omega), hst, if_pos (by show o = 0 ∨ _ < q; omega)]
                have hb2 : nI i = bst (i + 1) := (if_neg (Nat.succ_ne_zero _)).symm
                have hl : lv_has ls 5 [(3, .int (nI ((stepN (moveM G i 0) y) 32))), (2, .int (bst (i + 1))), (4, .int (nI i)), (0, .ref x), (1, .int (nI y))] := by rw [← hb2]; exact hl
                refine lv_iinc (v := nI (i + 1)) (lv' := [(4, .int (nI (i + 1))), (3, .int (nI ((stepN (moveM G i 0) y) 32))), (2, .int (bst (i + 1))), (0, .ref x), (1, .int (nI y))]) hx hb dX4_send_102 hl (k := 2) rfl (nI_add _ 1) (by decide) rfl (fun ls hl => ?_)
                refine lv_goto (tgt := 21) hx hb dX4_send_105 (by decide) ?_
                exact ih (i + 1) (i + 1) (stepN (moveM G i 0) y 32) (stepN (moveM G i 0) y) (by omega) (by omega) hst2 _ _ hW _ (lv_sub hl [0, 1, 2, 3, 4] rfl)
    exact lp21 (G 40 - 0 + 1) 0 0 0 T (Nat.lt_succ_self _) (by omega) rfl _ _ hW _ (lv_sub hl [0, 1, 2, 3, 4] rfl)
  · refine lv_aload_n hx hb dX4_send_7 rfl (lv_at hl 0 rfl) ?_
    refine lv_ldc (v := -1000000001) hx hb hown (hts _ (List.mem_of_getElem? (i := 1) rfl)) dX4_send_8 ?_
    refine cl_Vi (As := [.int (-1000000001)]) (rest := []) (C := RX4) ⟨hx, hb, hml, hown, hts⟩ (M_X4_tell l D cI cJ x fi ik la ta ka tp sh F 0 (by decide) (-1000000001) (by decide +kernel)) (cwV 1 hts gX4_send_X4_tell rfl rfl rfl qX4_tell ⟨Nat.le_of_ble_eq_true rfl, Nat.le_of_ble_eq_true rfl⟩) E0_good hK hA hW trivial [true, false, false, true] (fun _ => [xH x la ta ka tp sh fi ik, gW cI la G, gW cI ta T, aI cI fi 7 (up F 0 (F 0 + 1))]) rfl (fun _ => rfl) (fun _ => rfl) 0 0 rfl rfl rfl rfl hl.1 rfl (lv_room (Nat.le_of_ble_eq_true rfl)) dX4_send_10 ⟨Nat.zero_le _, Nat.zero_le _⟩ (fun _ H locs _ hW => ?_)
    exact rt_i hQ hx hb hr hlocks hW dX4_send_13 T (by (try simp only [sendV, orV, bst]); (repeat' split) <;> first | rfl | (exfalso; omega)) trivial (by (try simp only [sendF, orF]); (repeat' split) <;> first | rfl | (exfalso; omega))
abbrev rmX4_kind : Room := { frames := 5, cells := 0, slots := 0, locals := 120 }
set_option maxRecDepth 100000 in
set_option maxHeartbeats 4000000 in
theorem M_X4_kind (l : Launch) (D : va_G) (cI cJ : ClassId) (x fi ik : Nat) (la ta ka tp sh : Nat → Nat) (G T F : Nat → Nat) (hG : OkG 99999 G) (v z : Int32) : CE E0 l D vwCl [(cI, .int), (cJ, .long)] yX4_kind wsX4_kind rmX4_kind [.ref x, .int v, .int z] [xH x la ta ka tp sh fi ik, gW cI la G, gW cI ta T, aI cI fi 7 F] (S := (Nat → Nat)) (some (.int (kindV G v.toInt z.toInt))) (fun _ => True) (fun Tx : Nat → Nat => [xH x la ta ka tp sh fi ik, gW cI la G, gW cI ta Tx, aI cI fi 7 (kindF G F v.toInt z.toInt)]) 0 0 := by
  refine CE.ofW (cc := cX4_kind) (maxL := 6) (ret := (some .int)) (lv := [(0, .ref x), (1, .int v), (2, .int z)]) (by decide) rfl (Nat.le_of_ble_eq_true rfl) rfl ?_
  intro p e s m args below meth c ls A Q hQ hx hb hml hr hlocks hnm hown hts hK hA hE hW hl
  have hown : s.vm.findClass RX4 = some m.cls := hown
  obtain ⟨hg0, hg8, hg16, hg16b, hg24, hg32, hg40, hg48⟩ := hG.s
  refine lv_aload_n hx hb dX4_kind_0 rfl (lv_at hl 0 rfl) ?_
  refine sg_get (ci := 3) (C := RX4) (T := TX4) (N := 7) (v := .ref (la 0)) hx hb hts (fun _ h => List.mem_cons_of_mem _ (List.mem_append_left _ (List.mem_append_right _ h))) hown hK hW 0 0 rfl rfl rfl 0 (by decide) (hts _ (List.mem_of_getElem? (i := 1) rfl)) rfl dX4_kind_1 ?_
  refine lv_iload_n hx hb dX4_kind_4 rfl (lv_at hl 1 rfl) ?_
  refine cl_Vi (As := [.int v]) (rest := []) (C := RX0) ⟨hx, hb, hml, hown, hts⟩ (M_X0_hasMother l D cI cJ la G 99999 (by decide) hG v) (cwV 1 hts gX4_kind_X0_hasMother rfl rfl rfl qX0_hasMother ⟨Nat.le_of_ble_eq_true rfl, Nat.le_of_ble_eq_true rfl⟩) E0_good hK hA hW trivial [false, true] (fun _ => [xH x la ta ka tp sh fi ik, gW cI la G, gW cI ta T, aI cI fi 7 F]) rfl (fun _ => rfl) (fun _ => rfl) 1 0 rfl rfl rfl rfl hl.1 rfl (lv_room (Nat.le_of_ble_eq_true rfl)) dX4_kind_5 ⟨Nat.zero_le _, Nat.zero_le _⟩ (fun _ H locs _ hW => ?_)
  have him_ := inN_or v (G 40)
  refine nn_zeq (tgt := 18) hx hb dX4_kind_8 (by decide) (by omega) (fun c8 => ?_) (fun c8 => ?_)
  · refine lv_aload_n hx hb dX4_kind_18 rfl (lv_at hl 0 rfl) ?_
    refine lv_ldc (v := -1000000001) hx hb hown (hts _ (List.mem_of_getElem? (i := 2) rfl)) dX4_kind_19 ?_
    refine cl_Vi (As := [.int (-1000000001)]) (rest := []) (C := RX4) ⟨hx, hb, hml, hown, hts⟩ (M_X4_tell l D cI cJ x fi ik la ta ka tp sh F 0 (by decide) (-1000000001) (by decide +kernel)) (cwV 1 hts gX4_kind_X4_tell rfl rfl rfl qX4_tell ⟨Nat.le_of_ble_eq_true rfl, Nat.le_of_ble_eq_true rfl⟩) E0_good hK hA hW trivial [true, false, false, true] (fun _ => [xH x la ta ka tp sh fi ik, gW cI la G, gW cI ta T, aI cI fi 7 (up F 0 (F 0 + 1))]) rfl (fun _ => rfl) (fun _ => rfl) 0 0 rfl rfl rfl rfl hl.1 rfl (lv_room (Nat.le_of_ble_eq_true rfl)) dX4_kind_21 ⟨Nat.zero_le _, Nat.zero_le _⟩ (fun _ H locs _ hW => ?_)
    exact rt_i hQ hx hb hr hlocks hW dX4_kind_24 T (by (try simp only [kindV]); (repeat' split) <;> first | rfl | (exfalso; omega)) trivial (by (try simp only [kindF]); (repeat' split) <;> first | rfl | (exfalso; omega))
  · refine lv_iload_n hx hb dX4_kind_11 rfl (lv_at hl 2 rfl) ?_
    refine cl_Si (As := [.int z]) (rest := []) ⟨hx, hb, hml, hown, hts⟩ (M_X4_isNear l D cI cJ z) (va_cwS 1 hts gX4_kind_X4_isNear rfl rfl rfl qX4_isNear ⟨Nat.le_of_ble_eq_true rfl, Nat.le_of_ble_eq_true rfl⟩) E0_good hK hA hW trivial [] (fun _ => [xH x la ta ka tp sh fi ik, gW cI la G, gW cI ta T, aI cI fi 7 F]) rfl (fun _ => rfl) (fun _ => rfl) rfl hl.1 rfl (lv_room (Nat.le_of_ble_eq_true rfl)) dX4_kind_12 ⟨Nat.zero_le _, Nat.zero_le _⟩ (fun _ H locs _ hW => ?_)
    have hin_ := inZ_or z.toInt 1 60
    refine nn_zne (tgt := 25) hx hb dX4_kind_15 (by decide) (by omega) (fun c15 => ?_) (fun c15 => ?_)
    · obtain ⟨j, hj, ej⟩ : ∃ j : Nat, v = nI j ∧ v.toInt = (j : Int) := ⟨v.toInt.toNat, nI_ofZ rfl (by omega), by omega⟩
      rw [hj] at hl
      obtain ⟨y, hy, ey⟩ : ∃ y : Nat, z = nI y ∧ z.toInt = (y : Int) := ⟨z.toInt.toNat, nI_ofZ rfl (by omega), by omega⟩
      rw [hy] at hl
      refine lv_iconst (v := nI 0) hx hb dX4_kind_25 (by decide +kernel) ?_
      refine lv_istore_n (lv' := [(3, .int (nI 0)), (0, .ref x), (1, .int (nI j)), (2, .int (nI y))]) hx hb dX4_kind_26 rfl hl (by decide) rfl (fun ls hl => ?_)
      refine lv_iconst (v := -1) hx hb dX4_kind_27 (by decide +kernel) ?_
      refine lv_istore (lv' := [(4, .int (-1)), (3, .int (nI 0)), (0, .ref x), (1, .int (nI j)), (2, .int (nI y))]) hx hb dX4_kind_28 hl (by decide) rfl (fun ls hl => ?_)
      refine lv_iconst (v := nI 0) hx hb dX4_kind_30 (by decide +kernel) ?_
      refine lv_istore (lv' := [(5, .int (nI 0)), (4, .int (-1)), (3, .int (nI 0)), (0, .ref x), (1, .int (nI j)), (2, .int (nI y))]) hx hb dX4_kind_31 hl (by decide) rfl (fun ls hl => ?_)
      have lp33 : ∀ (n : Nat) (k : Nat) (kb : Nat) (pp : Nat) (Ty : Nat → Nat), 6 - k < n → k ≤ 6 → kindSt G j y k = (kb, pp) → ∀ (H : Heap) (locs : List Loc), Wo D vwCl A s.heap H locs [xH x la ta ka tp sh fi ik, gW cI la G, gW cI ta Ty, aI cI fi 7 F] → ∀ ls : Array Slot, lv_has ls 6 [(5, .int (nI k)), (4, .int (bst pp)), (3, .int (nI kb)), (0, .ref x), (1, .int (nI j)), (2, .int (nI y))] → W p l e rmX4_kind s m args below meth c H locs 0 0 Q (F0 m 33 ls []) := by
        intro n
        induction n with
        | zero => intro k kb pp Ty hm; exact absurd hm (Nat.not_lt_zero _)
        | succ n ih =>
          intro k kb pp Ty hm hi hst H locs hW ls hl
          have hstl := kindSt_le hG j y k hi
          rw [hst] at hstl
          have hstl1 : kb ≤ k ∧ pp ≤ 1000000 := hstl
          refine lv_iload hx hb dX4_kind_33 (lv_at hl 0 rfl) ?_
          refine lv_bipush (v := nI 6) hx hb dX4_kind_35 (by decide +kernel) ?_
          refine nn_cge (tgt := 100) hx hb dX4_kind_37 (by decide) (by omega) (by decide) (fun c37 => ?_) (fun c37 => ?_)
          · have hsx : kindSt G j y 6 = (kb, pp) := by rw [← show k = 6 by omega]; exact hst
            refine lv_iload_n hx hb dX4_kind_100 rfl (lv_at hl 2 rfl) ?_
            exact rt_i hQ hx hb hr hlocks hW dX4_kind_101 Ty (by (try simp only [kindV, ej, ey, hsx, Int.toNat_natCast]); (repeat' split) <;> first | rfl | (exfalso; omega)) trivial (by (try simp only [kindF, ej, ey, hsx, Int.toNat_natCast]); (repeat' split) <;> first | rfl | (exfalso; omega))
          · have htl := turned_le (hG.r1 (a := j) (v := k) (by omega)) y
            refine lv_aload_n hx hb dX4_kind_40 rfl (lv_at hl 3 rfl) ?_
            refine sg_get (ci := 3) (C := RX4) (T := TX4) (N := 7) (v := .ref (ta 0)) hx hb hts (fun _ h => List.mem_cons_of_mem _ (List.mem_append_left _ (List.mem_append_right _ h))) hown hK hW 0 0 rfl rfl rfl 1 (by decide) (hts _ (List.mem_of_getElem? (i := 3) rfl)) rfl dX4_kind_41 ?_
            refine lv_aload_n hx hb dX4_kind_44 rfl (lv_at hl 3 rfl) ?_
            refine sg_get (ci := 3) (C := RX4) (T := TX4) (N := 7) (v := .ref (la 0)) hx hb hts (fun _ h => List.mem_cons_of_mem _ (List.mem_append_left _ (List.mem_append_right _ h))) hown hK hW 0 0 rfl rfl rfl 0 (by decide) (hts _ (List.mem_of_getElem? (i := 1) rfl)) rfl dX4_kind_45 ?_
            refine cl_Vv (As := [.ref (la 0)]) (rest := []) (C := RX0) ⟨hx, hb, hml, hown, hts⟩ (M_X0_become2 l D cI cJ ta la Ty G) (cwV 1 hts gX4_kind_X0_become rfl rfl rfl qX0_become ⟨Nat.le_of_ble_eq_true rfl, Nat.le_of_ble_eq_true rfl⟩) E0_good hK hA hW trivial [false, true, true] (fun _ => [xH x la ta ka tp sh fi ik, gW cI la G, gW cI ta G, aI cI fi 7 F]) rfl (fun _ => rfl) (fun _ => rfl) 2 0 rfl rfl rfl rfl hl.1 rfl (lv_room (Nat.le_of_ble_eq_true rfl)) dX4_kind_48 ⟨Nat.zero_le _, Nat.zero_le _⟩ (fun _ H locs _ hW => ?_)
            refine lv_aload_n hx hb dX4_kind_51 rfl (lv_at hl 3 rfl) ?_
            refine sg_get (ci := 3) (C := RX4) (T := TX4) (N := 7) (v := .ref (ta 0)) hx hb hts (fun _ h => List.mem_cons_of_mem _ (List.mem_append_left _ (List.mem_append_right _ h))) hown hK hW 0 0 rfl rfl rfl 1 (by decide) (hts _ (List.mem_of_getElem? (i := 3) rfl)) rfl dX4_kind_52 ?_
            refine sg_get (ci := 0) (C := RX0) (T := TX0) (N := 14) (v := .ref (ta 1)) hx hb hts (fun _ h => List.mem_cons_of_mem _ (List.mem_append_right _ h)) hown hK hW 2 0 rfl rfl rfl 6 (by decide) (hts _ (List.mem_of_getElem? (i := 4) rfl)) rfl dX4_kind_55 ?_
            refine lv_iload_n hx hb dX4_kind_58 rfl (lv_at hl 4 rfl) ?_
            refine lv_iload hx hb dX4_kind_59 (lv_at hl 0 rfl) ?_
            refine sg_ist hx hb hK hW 2 1 0 rfl rfl rfl (by omega) (by decide) (gW_r1 cI ta G j k) (ss' := [xH x la ta ka tp sh fi ik, gW cI la G, gW cI ta (up G (8 * j + 1) k), aI cI fi 7 F]) rfl dX4_kind_61 (fun H locs hW => ?_)
            refine lv_aload_n hx hb dX4_kind_62 rfl (lv_at hl 3 rfl) ?_
            refine sg_get (ci := 3) (C := RX4) (T := TX4) (N := 7) (v := .ref (ta 0)) hx hb hts (fun _ h => List.mem_cons_of_mem _ (List.mem_append_left _ (List.mem_append_right _ h))) hown hK hW 0 0 rfl rfl rfl 1 (by decide) (hts _ (List.mem_of_getElem? (i := 3) rfl)) rfl dX4_kind_63 ?_
            refine lv_iload_n hx hb dX4_kind_66 rfl (lv_at hl 5 rfl) ?_
            refine cl_Vv (As := [.int (nI y)]) (rest := []) (C := RX0) ⟨hx, hb, hml, hown, hts⟩ (M_X0_passMinutes l D cI cJ ta (up G (8 * j + 1) k) 99999 (by decide) (hG.r1 (a := j) (v := k) (by omega)) y (by omega)) (cwV 1 hts gX4_kind_X0_passMinutes rfl rfl rfl qX0_passMinutes ⟨Nat.le_of_ble_eq_true rfl, Nat.le_of_ble_eq_true rfl⟩) E0_good hK hA hW trivial [false, false, true] (fun _ => [xH x la ta ka tp sh fi ik, gW cI la G, gW cI ta (stepN (up G (8 * j + 1) k) y), aI cI fi 7 F]) rfl (fun _ => rfl) (fun _ => rfl) 2 0 rfl rfl rfl rfl hl.1 rfl (lv_room (Nat.le_of_ble_eq_true rfl)) dX4_kind_67 ⟨Nat.zero_le _, Nat.zero_le _⟩ (fun _ H locs _ hW => ?_)
            refine lv_aload_n hx hb dX4_kind_70 rfl (lv_at hl 3 rfl) ?_
            refine sg_get (ci := 3) (C := RX4) (T := TX4) (N := 7) (v := .ref (ta 0)) hx hb hts (fun _ h => List.mem_cons_of_mem _ (List.mem_append_left _ (List.mem_append_right _ h))) hown hK hW 0 0 rfl rfl rfl 1 (by decide) (hts _ (List.mem_of_getElem? (i := 3) rfl)) rfl dX4_kind_71 ?_
            refine sg_get (ci := 0) (C := RX0) (T := TX0) (N := 14) (v := .int (nI ((stepN (up G (8 * j + 1) k) y) 32))) hx hb hts (fun _ h => List.mem_cons_of_mem _ (List.mem_append_right _ h)) hown hK hW 2 0 rfl rfl rfl 4 (by decide) (hts _ (List.mem_of_getElem? (i := 5) rfl)) rfl dX4_kind_74 ?_
            refine lv_iload hx hb dX4_kind_77 (lv_at hl 1 rfl) ?_
            refine zz_cle (tgt := 94) hx hb dX4_kind_79 (by decide) (nI_toInt (n := (stepN (up G (8 * j + 1) k) y) 32) (by omega)) (bst_toInt (o := pp) (by omega)) (fun c79 => ?_) (fun c79 => ?_)
            · have hst2 : kindSt G j y (k + 1) = (kb, pp) := by
                show (if (kindSt G j y k).2 < stepN (up G (8 * j + 1) k) y 32 + 1 then (k, stepN (up G (8 * j + 1) k) y 32 + 1) else kindSt G j y k) = _
                rw [hst, if_neg (by show ¬ pp < _; omega)]
              refine lv_iinc (v := nI (k + 1)) (lv' := [(5, .int (nI (k + 1))), (4, .int (bst pp)), (3, .int (nI kb)), (0, .ref x), (1, .int (nI j)), (2, .int (nI y))]) hx hb dX4_kind_94 hl (k := 0) rfl (nI_add _ 1) (by decide) rfl (fun ls hl => ?_)
              refine lv_goto (tgt := 33) hx hb dX4_kind_97 (by decide) ?_
              exact ih (k + 1) kb pp (stepN (up G (8 * j + 1) k) y) (by omega) (by omega) hst2 _ _ hW _ (lv_sub hl [0, 1, 2, 3, 4, 5] rfl)
            · refine lv_iload hx hb dX4_kind_82 (lv_at hl 0 rfl) ?_
              refine lv_istore_n (lv' := [(3, .int (nI k)), (5, .int (nI k)), (4, .int (bst pp)), (0, .ref x), (1, .int (nI j)), (2, .int (nI y))]) hx hb dX4_kind_84 rfl hl (by decide) rfl (fun ls hl => ?_)
              refine lv_aload_n hx hb dX4_kind_85 rfl (lv_at hl 3 rfl) ?_
              refine sg_get (ci := 3) (C := RX4) (T := TX4) (N := 7) (v := .ref (ta 0)) hx hb hts (fun _ h => List.mem_cons_of_mem _ (List.mem_append_left _ (List.mem_append_right _ h))) hown hK hW 0 0 rfl rfl rfl 1 (by decide) (hts _ (List.mem_of_getElem? (i := 3) rfl)) rfl dX4_kind_86 ?_
              refine sg_get (ci := 0) (C := RX0) (T := TX0) (N := 14) (v := .int (nI ((stepN (up G (8 * j + 1) k) y) 32))) hx hb hts (fun _ h => List.mem_cons_of_mem _ (List.mem_append_right _ h)) hown hK hW 2 0 rfl rfl rfl 4 (by decide) (hts _ (List.mem_of_getElem? (i := 5) rfl)) rfl dX4_kind_89 ?_
              refine lv_istore (lv' := [(4, .int (nI ((stepN (up G (8 * j + 1) k) y) 32))), (3, .int (nI k)), (5, .int (nI k)), (0, .ref x), (1, .int (nI j)), (2, .int (nI y))]) hx hb dX4_kind_92 hl (by decide) rfl (fun ls hl => ?_)
              have hst2 : kindSt G j y (k + 1) = (k, stepN (up G (8 * j + 1) k) y 32 + 1) := by
                show (if (kindSt G j y k).2 < stepN (up G (8 * j + 1) k) y 32 + 1 then (k, stepN (up G (8 * j + 1) k) y 32 + 1) else kindSt G j y k) = _
                rw [hst, if_pos (by show pp < _; omega)]
              have hb1 : nI ((stepN (up G (8 * j + 1) k) y) 32) = bst (stepN (up G (8 * j + 1) k) y 32 + 1) := (if_neg (Nat.succ_ne_zero _)).symm
              have hl : lv_has ls 6 [(4, .int (bst (stepN (up G (8 * j + 1) k) y 32 + 1))), (3, .int (nI k)), (5, .int (nI k)), (0, .ref x), (1, .int (nI j)), (2, .int (nI y))] := by rw [← hb1]; exact hl
              refine lv_iinc (v := nI (k + 1)) (lv' := [(5, .int (nI (k + 1))), (4, .int (bst (stepN (up G (8 * j + 1) k) y 32 + 1))), (3, .int (nI k)), (0, .ref x), (1, .int (nI j)), (2, .int (nI y))]) hx hb dX4_kind_94 hl (k := 2) rfl (nI_add _ 1) (by decide) rfl (fun ls hl => ?_)
              refine lv_goto (tgt := 33) hx hb dX4_kind_97 (by decide) ?_
              exact ih (k + 1) k (stepN (up G (8 * j + 1) k) y 32 + 1) (stepN (up G (8 * j + 1) k) y) (by omega) (by omega) hst2 _ _ hW _ (lv_sub hl [0, 1, 2, 3, 4, 5] rfl)
      exact lp33 (6 - 0 + 1) 0 0 0 T (Nat.lt_succ_self _) (by omega) rfl _ _ hW _ (lv_sub hl [0, 1, 2, 3, 4, 5] rfl)
    · refine lv_aload_n hx hb dX4_kind_18 rfl (lv_at hl 0 rfl) ?_
      refine lv_ldc (v := -1000000001) hx hb hown (hts _ (List.mem_of_getElem? (i := 2) rfl)) dX4_kind_19 ?_
      refine cl_Vi (As := [.int (-1000000001)]) (rest := []) (C := RX4) ⟨hx, hb, hml, hown, hts⟩ (M_X4_tell l D cI cJ x fi ik la ta ka tp sh F 0 (by decide) (-1000000001) (by decide +kernel)) (cwV 1 hts gX4_kind_X4_tell rfl rfl rfl qX4_tell ⟨Nat.le_of_ble_eq_true rfl, Nat.le_of_ble_eq_true rfl⟩) E0_good hK hA hW trivial [true, false, false, true] (fun _ => [xH x la ta ka tp sh fi ik, gW cI la G, gW cI ta T, aI cI fi 7 (up F 0 (F 0 + 1))]) rfl (fun _ => rfl) (fun _ => rfl) 0 0 rfl rfl rfl rfl hl.1 rfl (lv_room (Nat.le_of_ble_eq_true rfl)) dX4_kind_21 ⟨Nat.zero_le _, Nat.zero_le _⟩ (fun _ H locs _ hW => ?_)
      exact rt_i hQ hx hb hr hlocks hW dX4_kind_24 T (by (try simp only [kindV]); (repeat' split) <;> first | rfl | (exfalso; omega)) trivial (by (try simp only [kindF]); (repeat' split) <;> first | rfl | (exfalso; omega))
abbrev rmX4_heavy : Room := { frames := 5, cells := 0, slots := 0, locals := 120 }
set_option maxRecDepth 100000 in
set_option maxHeartbeats 4000000 in
theorem M_X4_heavy (l : Launch) (D : va_G) (cI cJ : ClassId) (x fi ik : Nat) (la ta ka tp sh : Nat → Nat) (G T F : Nat → Nat) (hG : OkG 99999 G) (z : Int32) : CE E0 l D vwCl [(cI, .int), (cJ, .long)] yX4_heavy wsX4_heavy rmX4_heavy [.ref x, .int z] [xH x la ta ka tp sh fi ik, gW cI la G, gW cI ta T, aI cI fi 7 F] (S := (Nat → Nat)) (some (.int (heavyV G z.toInt))) (fun _ => True) (fun Tx : Nat → Nat => [xH x la ta ka tp sh fi ik, gW cI la G, gW cI ta Tx, aI cI fi 7 (heavyF G F z.toInt)]) 0 0 := by
  refine CE.ofW (cc := cX4_heavy) (maxL := 4) (ret := (some .int)) (lv := [(0, .ref x), (1, .int z)]) (by decide) rfl (Nat.le_of_ble_eq_true rfl) rfl ?_
  intro p e s m args below meth c ls A Q hQ hx hb hml hr hlocks hnm hown hts hK hA hE hW hl
  have hown : s.vm.findClass RX4 = some m.cls := hown
  obtain ⟨hg0, hg8, hg16, hg16b, hg24, hg32, hg40, hg48⟩ := hG.s
  refine lv_iload_n hx hb dX4_heavy_0 rfl (lv_at hl 1 rfl) ?_
  refine cl_Si (As := [.int z]) (rest := []) ⟨hx, hb, hml, hown, hts⟩ (M_X4_isNear l D cI cJ z) (va_cwS 1 hts gX4_heavy_X4_isNear rfl rfl rfl qX4_isNear ⟨Nat.le_of_ble_eq_true rfl, Nat.le_of_ble_eq_true rfl⟩) E0_good hK hA hW trivial [] (fun _ => [xH x la ta ka tp sh fi ik, gW cI la G, gW cI ta T, aI cI fi 7 F]) rfl (fun _ => rfl) (fun _ => rfl) rfl hl.1 rfl (lv_room (Nat.le_of_ble_eq_true rfl)) dX4_heavy_1 ⟨Nat.zero_le _, Nat.zero_le _⟩ (fun _ H locs _ hW => ?_)
  have hin_ := inZ_or z.toInt 1 60
  refine nn_zne (tgt := 14) hx hb dX4_heavy_4 (by decide) (by omega) (fun c4 => ?_) (fun c4 => ?_)
  · obtain ⟨y, hy, ey⟩ : ∃ y : Nat, z = nI y ∧ z.toInt = (y : Int) := ⟨z.toInt.toNat, nI_ofZ rfl (by omega), by omega⟩
    rw [hy] at hl
    have hfl0 := flC_le hG
    refine lv_aload_n hx hb dX4_heavy_14 rfl (lv_at hl 0 rfl) ?_
    refine sg_get (ci := 3) (C := RX4) (T := TX4) (N := 7) (v := .ref (la 0)) hx hb hts (fun _ h => List.mem_cons_of_mem _ (List.mem_append_left _ (List.mem_append_right _ h))) hown hK hW 0 0 rfl rfl rfl 0 (by decide) (hts _ (List.mem_of_getElem? (i := 2) rfl)) rfl dX4_heavy_15 ?_
    refine cl_Vi (As := []) (rest := []) (C := RX0) ⟨hx, hb, hml, hown, hts⟩ (M_X0_flingsOfAll l D cI cJ la G 99999 (by decide) hG) (cwV 0 hts gX4_heavy_X0_flingsOfAll rfl rfl rfl qX0_flingsOfAll ⟨Nat.le_of_ble_eq_true rfl, Nat.le_of_ble_eq_true rfl⟩) E0_good hK hA hW trivial [false, true] (fun _ => [xH x la ta ka tp sh fi ik, gW cI la G, gW cI ta T, aI cI fi 7 F]) rfl (fun _ => rfl) (fun _ => rfl) 1 0 rfl rfl rfl rfl hl.1 rfl (lv_room (Nat.le_of_ble_eq_true rfl)) dX4_heavy_18 ⟨Nat.zero_le _, Nat.zero_le _⟩ (fun _ H locs _ hW => ?_)
    refine lv_istore_n (lv' := [(2, .int (nI (flC G))), (0, .ref x), (1, .int (nI y))]) hx hb dX4_heavy_21 rfl hl (by decide) rfl (fun ls hl => ?_)
    refine lv_iconst (v := nI 1) hx hb dX4_heavy_22 (by decide +kernel) ?_
    refine lv_istore_n (lv' := [(3, .int (nI 1)), (2, .int (nI (flC G))), (0, .ref x), (1, .int (nI y))]) hx hb dX4_heavy_23 rfl hl (by decide) rfl (fun ls hl => ?_)
    have lp24 : ∀ (n : Nat) (i : Nat) (Ty : Nat → Nat), 51 - i < n → 1 ≤ i ∧ i ≤ 51 → seek (fun h => decide (flC (stepN (up G 16 h) y) = flC G)) (51 - i) i = seek (fun h => decide (flC (stepN (up G 16 h) y) = flC G)) (51 - 1) 1 → ∀ (H : Heap) (locs : List Loc), Wo D vwCl A s.heap H locs [xH x la ta ka tp sh fi ik, gW cI la G, gW cI ta Ty, aI cI fi 7 F] → ∀ ls : Array Slot, lv_has ls 4 [(3, .int (nI i)), (2, .int (nI (flC G))), (0, .ref x), (1, .int (nI y))] → W p l e rmX4_heavy s m args below meth c H locs 0 0 Q (F0 m 24 ls []) := by
      intro n
      induction n with
      | zero => intro i Ty hm; exact absurd hm (Nat.not_lt_zero _)
      | succ n ih =>
        intro i Ty hm hi hsk H locs hW ls hl
        refine lv_iload_n hx hb dX4_heavy_24 rfl (lv_at hl 0 rfl) ?_
        refine lv_bipush (v := nI 50) hx hb dX4_heavy_25 (by decide +kernel) ?_
        refine nn_cgt (tgt := 76) hx hb dX4_heavy_27 (by decide) (by omega) (by decide) (fun c27 => ?_) (fun c27 => ?_)
        · have hsx : seek (fun h => decide (flC (stepN (up G 16 h) y) = flC G)) 50 1 = 51 := hsk.symm.trans (seek_e (fun h => decide (flC (stepN (up G 16 h) y) = flC G)) (e := 51) (i := i) (by omega))
          have hsx : heavyR G y = 51 := hsx
          refine lv_aload_n hx hb dX4_heavy_76 rfl (lv_at hl 2 rfl) ?_
          refine lv_ldc (v := -1000000004) hx hb hown (hts _ (List.mem_of_getElem? (i := 5) rfl)) dX4_heavy_77 ?_
          refine cl_Vi (As := [.int (-1000000004)]) (rest := []) (C := RX4) ⟨hx, hb, hml, hown, hts⟩ (M_X4_tell l D cI cJ x fi ik la ta ka tp sh F 3 (by decide) (-1000000004) (by decide +kernel)) (cwV 1 hts gX4_heavy_X4_tell rfl rfl rfl qX4_tell ⟨Nat.le_of_ble_eq_true rfl, Nat.le_of_ble_eq_true rfl⟩) E0_good hK hA hW trivial [true, false, false, true] (fun _ => [xH x la ta ka tp sh fi ik, gW cI la G, gW cI ta Ty, aI cI fi 7 (up F 3 (F 3 + 1))]) rfl (fun _ => rfl) (fun _ => rfl) 0 0 rfl rfl rfl rfl hl.1 rfl (lv_room (Nat.le_of_ble_eq_true rfl)) dX4_heavy_79 ⟨Nat.zero_le _, Nat.zero_le _⟩ (fun _ H locs _ hW => ?_)
          exact rt_i hQ hx hb hr hlocks hW dX4_heavy_82 Ty (by (try simp only [heavyV, skV, ey, hsx, Int.toNat_natCast]); (repeat' split) <;> first | rfl | (exfalso; omega)) trivial (by (try simp only [heavyF, skF, ey, hsx, Int.toNat_natCast]); (repeat' split) <;> first | rfl | (exfalso; omega))
        · have hst9 := flC_le (stepN_ok (hG.s16 (v := i) (by omega)) y)
          have hmono := stepN_flC (hG.s16 (v := i) (by omega)) y
          have hfle : flC (up G 16 i) = flC G := by unfold flC; rw [up_ne (by decide)]; exact sumN_cong (fun k _ => up_ne (by omega))
          refine lv_aload_n hx hb dX4_heavy_30 rfl (lv_at hl 2 rfl) ?_
          refine sg_get (ci := 3) (C := RX4) (T := TX4) (N := 7) (v := .ref (ta 0)) hx hb hts (fun _ h => List.mem_cons_of_mem _ (List.mem_append_left _ (List.mem_append_right _ h))) hown hK hW 0 0 rfl rfl rfl 1 (by decide) (hts _ (List.mem_of_getElem? (i := 3) rfl)) rfl dX4_heavy_31 ?_
          refine lv_aload_n hx hb dX4_heavy_34 rfl (lv_at hl 2 rfl) ?_
          refine sg_get (ci := 3) (C := RX4) (T := TX4) (N := 7) (v := .ref (la 0)) hx hb hts (fun _ h => List.mem_cons_of_mem _ (List.mem_append_left _ (List.mem_append_right _ h))) hown hK hW 0 0 rfl rfl rfl 0 (by decide) (hts _ (List.mem_of_getElem? (i := 2) rfl)) rfl dX4_heavy_35 ?_
          refine cl_Vv (As := [.ref (la 0)]) (rest := []) (C := RX0) ⟨hx, hb, hml, hown, hts⟩ (M_X0_become2 l D cI cJ ta la Ty G) (cwV 1 hts gX4_heavy_X0_become rfl rfl rfl qX0_become ⟨Nat.le_of_ble_eq_true rfl, Nat.le_of_ble_eq_true rfl⟩) E0_good hK hA hW trivial [false, true, true] (fun _ => [xH x la ta ka tp sh fi ik, gW cI la G, gW cI ta G, aI cI fi 7 F]) rfl (fun _ => rfl) (fun _ => rfl) 2 0 rfl rfl rfl rfl hl.1 rfl (lv_room (Nat.le_of_ble_eq_true rfl)) dX4_heavy_38 ⟨Nat.zero_le _, Nat.zero_le _⟩ (fun _ H locs _ hW => ?_)
          refine lv_aload_n hx hb dX4_heavy_41 rfl (lv_at hl 2 rfl) ?_
          refine sg_get (ci := 3) (C := RX4) (T := TX4) (N := 7) (v := .ref (ta 0)) hx hb hts (fun _ h => List.mem_cons_of_mem _ (List.mem_append_left _ (List.mem_append_right _ h))) hown hK hW 0 0 rfl rfl rfl 1 (by decide) (hts _ (List.mem_of_getElem? (i := 3) rfl)) rfl dX4_heavy_42 ?_
          refine lv_iload_n hx hb dX4_heavy_45 rfl (lv_at hl 0 rfl) ?_
          refine sg_put (ci := 0) (C := RX0) (T := TX0) (N := 14) hx hb hts (fun _ h => List.mem_cons_of_mem _ (List.mem_append_right _ h)) tyX0 tyX0_ok nmX0 hown hK hW 2 0 rfl rfl rfl 2 (by decide) (hts _ (List.mem_of_getElem? (i := 4) rfl)) rfl rfl rfl (Nat.le_of_ble_eq_true rfl) (gW_s16 cI ta G i) (ss' := [xH x la ta ka tp sh fi ik, gW cI la G, gW cI ta (up G 16 i), aI cI fi 7 F]) rfl dX4_heavy_46 (fun H locs hW => ?_)
          refine lv_aload_n hx hb dX4_heavy_49 rfl (lv_at hl 2 rfl) ?_
          refine sg_get (ci := 3) (C := RX4) (T := TX4) (N := 7) (v := .ref (ta 0)) hx hb hts (fun _ h => List.mem_cons_of_mem _ (List.mem_append_left _ (List.mem_append_right _ h))) hown hK hW 0 0 rfl rfl rfl 1 (by decide) (hts _ (List.mem_of_getElem? (i := 3) rfl)) rfl dX4_heavy_50 ?_
          refine lv_iload_n hx hb dX4_heavy_53 rfl (lv_at hl 3 rfl) ?_
          refine cl_Vv (As := [.int (nI y)]) (rest := []) (C := RX0) ⟨hx, hb, hml, hown, hts⟩ (M_X0_passMinutes l D cI cJ ta (up G 16 i) 99999 (by decide) (hG.s16 (v := i) (by omega)) y (by omega)) (cwV 1 hts gX4_heavy_X0_passMinutes rfl rfl rfl qX0_passMinutes ⟨Nat.le_of_ble_eq_true rfl, Nat.le_of_ble_eq_true rfl⟩) E0_good hK hA hW trivial [false, false, true] (fun _ => [xH x la ta ka tp sh fi ik, gW cI la G, gW cI ta (stepN (up G 16 i) y), aI cI fi 7 F]) rfl (fun _ => rfl) (fun _ => rfl) 2 0 rfl rfl rfl rfl hl.1 rfl (lv_room (Nat.le_of_ble_eq_true rfl)) dX4_heavy_54 ⟨Nat.zero_le _, Nat.zero_le _⟩ (fun _ H locs _ hW => ?_)
          refine lv_aload_n hx hb dX4_heavy_57 rfl (lv_at hl 2 rfl) ?_
          refine sg_get (ci := 3) (C := RX4) (T := TX4) (N := 7) (v := .ref (ta 0)) hx hb hts (fun _ h => List.mem_cons_of_mem _ (List.mem_append_left _ (List.mem_append_right _ h))) hown hK hW 0 0 rfl rfl rfl 1 (by decide) (hts _ (List.mem_of_getElem? (i := 3) rfl)) rfl dX4_heavy_58 ?_
          refine cl_Vi (As := []) (rest := []) (C := RX0) ⟨hx, hb, hml, hown, hts⟩ (M_X0_flingsOfAll l D cI cJ ta (stepN (up G 16 i) y) (99999 + y) (by omega) (stepN_ok (hG.s16 (v := i) (by omega)) y)) (cwV 0 hts gX4_heavy_X0_flingsOfAll rfl rfl rfl qX0_flingsOfAll ⟨Nat.le_of_ble_eq_true rfl, Nat.le_of_ble_eq_true rfl⟩) E0_good hK hA hW trivial [false, false, true] (fun _ => [xH x la ta ka tp sh fi ik, gW cI la G, gW cI ta (stepN (up G 16 i) y), aI cI fi 7 F]) rfl (fun _ => rfl) (fun _ => rfl) 2 0 rfl rfl rfl rfl hl.1 rfl (lv_room (Nat.le_of_ble_eq_true rfl)) dX4_heavy_61 ⟨Nat.zero_le _, Nat.zero_le _⟩ (fun _ H locs _ hW => ?_)
          refine lv_iload_n hx hb dX4_heavy_64 rfl (lv_at hl 1 rfl) ?_
          refine nn_cgt (tgt := 70) hx hb dX4_heavy_65 (by decide) (by omega) (by omega) (fun c65 => ?_) (fun c65 => ?_)
          · refine lv_iinc (v := nI (i + 1)) (lv' := [(3, .int (nI (i + 1))), (2, .int (nI (flC G))), (0, .ref x), (1, .int (nI y))]) hx hb dX4_heavy_70 hl (k := 0) rfl (nI_add _ 1) (by decide) rfl (fun ls hl => ?_)
            refine lv_goto (tgt := 24) hx hb dX4_heavy_73 (by decide) ?_
            exact ih (i + 1) (stepN (up G 16 i) y) (by omega) (by omega) ((seek_f (p := (fun h => decide (flC (stepN (up G 16 h) y) = flC G))) (e := 51) (by omega) (decide_eq_false (by omega))).symm.trans hsk) _ _ hW _ (lv_sub hl [0, 1, 2, 3] rfl)
          · have hsx : seek (fun h => decide (flC (stepN (up G 16 h) y) = flC G)) 50 1 = i := hsk.symm.trans (seek_t (p := (fun h => decide (flC (stepN (up G 16 h) y) = flC G))) (e := 51) (i := i) (by omega) (decide_eq_true (by omega)))
            have hsx : heavyR G y = i := hsx
            refine lv_iload_n hx hb dX4_heavy_68 rfl (lv_at hl 0 rfl) ?_
            exact rt_i hQ hx hb hr hlocks hW dX4_heavy_69 (stepN (up G 16 i) y) (by (try simp only [heavyV, skV, ey, hsx, Int.toNat_natCast]); (repeat' split) <;> first | rfl | (exfalso; omega)) trivial (by (try simp only [heavyF, skF, ey, hsx, Int.toNat_natCast]); (repeat' split) <;> first | rfl | (exfalso; omega))
    exact lp24 (51 - 1 + 1) 1 T (Nat.lt_succ_self _) (by omega) rfl _ _ hW _ (lv_sub hl [0, 1, 2, 3] rfl)
  · refine lv_aload_n hx hb dX4_heavy_7 rfl (lv_at hl 0 rfl) ?_
    refine lv_ldc (v := -1000000001) hx hb hown (hts _ (List.mem_of_getElem? (i := 1) rfl)) dX4_heavy_8 ?_
    refine cl_Vi (As := [.int (-1000000001)]) (rest := []) (C := RX4) ⟨hx, hb, hml, hown, hts⟩ (M_X4_tell l D cI cJ x fi ik la ta ka tp sh F 0 (by decide) (-1000000001) (by decide +kernel)) (cwV 1 hts gX4_heavy_X4_tell rfl rfl rfl qX4_tell ⟨Nat.le_of_ble_eq_true rfl, Nat.le_of_ble_eq_true rfl⟩) E0_good hK hA hW trivial [true, false, false, true] (fun _ => [xH x la ta ka tp sh fi ik, gW cI la G, gW cI ta T, aI cI fi 7 (up F 0 (F 0 + 1))]) rfl (fun _ => rfl) (fun _ => rfl) 0 0 rfl rfl rfl rfl hl.1 rfl (lv_room (Nat.le_of_ble_eq_true rfl)) dX4_heavy_10 ⟨Nat.zero_le _, Nat.zero_le _⟩ (fun _ H locs _ hW => ?_)
    exact rt_i hQ hx hb hr hlocks hW dX4_heavy_13 T (by (try simp only [heavyV, skV]); (repeat' split) <;> first | rfl | (exfalso; omega)) trivial (by (try simp only [heavyF, skF]); (repeat' split) <;> first | rfl | (exfalso; omega))
