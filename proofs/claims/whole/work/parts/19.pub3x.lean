abbrev rmX4_count : Room := { frames := 1, cells := 0, slots := 0, locals := 22 }
set_option maxRecDepth 100000 in
set_option maxHeartbeats 4000000 in
theorem M_X4_count (l : Launch) (D : va_G) (cI cJ : ClassId) (x fi ik : Nat) (la ta ka tp sh : Nat → Nat) (G Tp Rt F : Nat → Nat) (hG : OkG 99999 G) (v : Int32) : CE E0 l D vwCl [(cI, .int), (cJ, .long)] yX4_count wsX4_count rmX4_count [.ref x, .int v] [xH x la ta ka tp sh fi ik, gW cI la G, tW cI tp Tp Rt, aI cI fi 7 F] (S := Unit) (some (.int (countV G (Rt 0) v.toInt))) (fun _ => True) (fun _ : Unit => [xH x la ta ka tp sh fi ik, gW cI la G, tW cI tp Tp Rt, aI cI fi 7 (countF F v.toInt)]) 0 0 := by
  refine CE.ofW (cc := cX4_count) (maxL := 2) (ret := (some .int)) (lv := [(0, .ref x), (1, .int v)]) (by decide) rfl (Nat.le_of_ble_eq_true rfl) rfl ?_
  intro p e s m args below meth c ls A Q hQ hx hb hml hr hlocks hnm hown hts hK hA hE hW hl
  have hown : s.vm.findClass RX4 = some m.cls := hown
  obtain ⟨hg0, hg8, hg16, hg16b, hg24, hg32, hg40, hg48⟩ := hG.s
  refine lv_iload_n hx hb dX4_count_0 rfl (lv_at hl 1 rfl) ?_
  rcases (show v.toInt = 0 ∨ v.toInt = 1 ∨ v.toInt = 2 ∨ v.toInt = 3 ∨ (v.toInt < 0 ∨ 3 < v.toInt) by omega) with c1 | c1 | c1 | c1 | c1
  · refine zz_tsI (off := 31) (tgt := 32) hx hb dX4_count_1 (rfl : v.toInt = v.toInt) 0 (by omega) (by omega) rfl (by decide) ?_
    refine lv_aload_n hx hb dX4_count_32 rfl (lv_at hl 0 rfl) ?_
    refine sg_get (ci := 3) (C := RX4) (T := TX4) (N := 7) (v := .ref (la 0)) hx hb hts (fun _ h => List.mem_cons_of_mem _ (List.mem_append_left _ (List.mem_append_left _ (List.mem_append_right _ h)))) hown hK hW 0 0 rfl rfl rfl 0 (by decide) (hts _ (List.mem_of_getElem? (i := 1) rfl)) rfl dX4_count_33 ?_
    refine sg_get (ci := 0) (C := RX0) (T := TX0) (N := 14) (v := .int (nI (G 40))) hx hb hts (fun _ h => List.mem_cons_of_mem _ (List.mem_append_left _ (List.mem_append_right _ h))) hown hK hW 1 0 rfl rfl rfl 5 (by decide) (hts _ (List.mem_of_getElem? (i := 2) rfl)) rfl dX4_count_36 ?_
    exact rt_i hQ hx hb hr hlocks hW dX4_count_39 () (by (try simp only [countV]); (repeat' split) <;> first | rfl | (exfalso; omega)) trivial (by (try simp only [countF]); (repeat' split) <;> first | rfl | (exfalso; omega))
  · refine zz_tsI (off := 39) (tgt := 40) hx hb dX4_count_1 (rfl : v.toInt = v.toInt) 1 (by omega) (by omega) rfl (by decide) ?_
    refine lv_aload_n hx hb dX4_count_40 rfl (lv_at hl 0 rfl) ?_
    refine sg_get (ci := 3) (C := RX4) (T := TX4) (N := 7) (v := .ref (la 0)) hx hb hts (fun _ h => List.mem_cons_of_mem _ (List.mem_append_left _ (List.mem_append_left _ (List.mem_append_right _ h)))) hown hK hW 0 0 rfl rfl rfl 0 (by decide) (hts _ (List.mem_of_getElem? (i := 1) rfl)) rfl dX4_count_41 ?_
    refine sg_get (ci := 0) (C := RX0) (T := TX0) (N := 14) (v := .int (nI (G 48))) hx hb hts (fun _ h => List.mem_cons_of_mem _ (List.mem_append_left _ (List.mem_append_right _ h))) hown hK hW 1 0 rfl rfl rfl 10 (by decide) (hts _ (List.mem_of_getElem? (i := 3) rfl)) rfl dX4_count_44 ?_
    exact rt_i hQ hx hb hr hlocks hW dX4_count_47 () (by (try simp only [countV]); (repeat' split) <;> first | rfl | (exfalso; omega)) trivial (by (try simp only [countF]); (repeat' split) <;> first | rfl | (exfalso; omega))
  · refine zz_tsI (off := 47) (tgt := 48) hx hb dX4_count_1 (rfl : v.toInt = v.toInt) 2 (by omega) (by omega) rfl (by decide) ?_
    refine lv_aload_n hx hb dX4_count_48 rfl (lv_at hl 0 rfl) ?_
    refine sg_get (ci := 3) (C := RX4) (T := TX4) (N := 7) (v := .ref (tp 0)) hx hb hts (fun _ h => List.mem_cons_of_mem _ (List.mem_append_left _ (List.mem_append_left _ (List.mem_append_right _ h)))) hown hK hW 0 0 rfl rfl rfl 4 (by decide) (hts _ (List.mem_of_getElem? (i := 4) rfl)) rfl dX4_count_49 ?_
    refine sg_get (ci := 2) (C := RX3) (T := TX3) (N := 6) (v := .int (nI (Rt 0))) hx hb hts (fun _ h => List.mem_cons_of_mem _ (List.mem_append_right _ h)) hown hK hW 2 0 rfl rfl rfl 1 (by decide) (hts _ (List.mem_of_getElem? (i := 5) rfl)) rfl dX4_count_52 ?_
    exact rt_i hQ hx hb hr hlocks hW dX4_count_55 () (by (try simp only [countV]); (repeat' split) <;> first | rfl | (exfalso; omega)) trivial (by (try simp only [countF]); (repeat' split) <;> first | rfl | (exfalso; omega))
  · refine zz_tsI (off := 55) (tgt := 56) hx hb dX4_count_1 (rfl : v.toInt = v.toInt) 3 (by omega) (by omega) rfl (by decide) ?_
    refine lv_aload_n hx hb dX4_count_56 rfl (lv_at hl 0 rfl) ?_
    refine sg_get (ci := 3) (C := RX4) (T := TX4) (N := 7) (v := .ref (la 0)) hx hb hts (fun _ h => List.mem_cons_of_mem _ (List.mem_append_left _ (List.mem_append_left _ (List.mem_append_right _ h)))) hown hK hW 0 0 rfl rfl rfl 0 (by decide) (hts _ (List.mem_of_getElem? (i := 1) rfl)) rfl dX4_count_57 ?_
    refine cl_Vi (As := []) (rest := []) (C := RX0) ⟨hx, hb, hml, hown, hts⟩ (M_X0_flingsOfAll l D cI cJ la G 99999 (by decide) hG) (cwV 0 hts gX4_count_X0_flingsOfAll rfl rfl rfl qX0_flingsOfAll ⟨Nat.le_of_ble_eq_true rfl, Nat.le_of_ble_eq_true rfl⟩) E0_good hK hA hW trivial [false, true] (fun _ => [xH x la ta ka tp sh fi ik, gW cI la G, tW cI tp Tp Rt, aI cI fi 7 F]) rfl (fun _ => rfl) (fun _ => rfl) 1 0 rfl rfl rfl rfl hl.1 rfl (lv_room (Nat.le_of_ble_eq_true rfl)) dX4_count_60 ⟨Nat.zero_le _, Nat.zero_le _⟩ (fun _ H locs _ hW => ?_)
    exact rt_i hQ hx hb hr hlocks hW dX4_count_63 () (by (try simp only [countV]); (repeat' split) <;> first | rfl | (exfalso; omega)) trivial (by (try simp only [countF]); (repeat' split) <;> first | rfl | (exfalso; omega))
  · refine zz_tsO (tgt := 64) hx hb dX4_count_1 (rfl : v.toInt = v.toInt) (by omega) (by decide) ?_
    refine lv_aload_n hx hb dX4_count_64 rfl (lv_at hl 0 rfl) ?_
    refine lv_ldc (v := -1000000001) hx hb hown (hts _ (List.mem_of_getElem? (i := 6) rfl)) dX4_count_65 ?_
    refine cl_Vi (As := [.int (-1000000001)]) (rest := []) (C := RX4) ⟨hx, hb, hml, hown, hts⟩ (M_X4_tell l D cI cJ x fi ik la ta ka tp sh F 0 (by decide) (-1000000001) (by decide +kernel)) (cwV 1 hts gX4_count_X4_tell rfl rfl rfl qX4_tell ⟨Nat.le_of_ble_eq_true rfl, Nat.le_of_ble_eq_true rfl⟩) E0_good hK hA hW trivial [true, false, false, true] (fun _ => [xH x la ta ka tp sh fi ik, gW cI la G, tW cI tp Tp Rt, aI cI fi 7 (up F 0 (F 0 + 1))]) rfl (fun _ => rfl) (fun _ => rfl) 0 0 rfl rfl rfl rfl hl.1 rfl (lv_room (Nat.le_of_ble_eq_true rfl)) dX4_count_67 ⟨Nat.zero_le _, Nat.zero_le _⟩ (fun _ H locs _ hW => ?_)
    exact rt_i hQ hx hb hr hlocks hW dX4_count_70 () (by (try simp only [countV]); (repeat' split) <;> first | rfl | (exfalso; omega)) trivial (by (try simp only [countF]); (repeat' split) <;> first | rfl | (exfalso; omega))
abbrev rmX4_status : Room := { frames := 1, cells := 0, slots := 0, locals := 22 }
set_option maxRecDepth 100000 in
set_option maxHeartbeats 4000000 in
theorem M_X4_status (l : Launch) (D : va_G) (cI cJ : ClassId) (x fi ik : Nat) (la ta ka tp sh : Nat → Nat) (F : Nat → Nat) (v : Int32) : CE E0 l D vwCl [(cI, .int), (cJ, .long)] yX4_status wsX4_status rmX4_status [.ref x, .int v] [xH x la ta ka tp sh fi ik, aI cI fi 7 F] (S := Unit) (some (.int (statusV F v.toInt))) (fun _ => True) (fun _ : Unit => [xH x la ta ka tp sh fi ik, aI cI fi 7 (statusF F v.toInt)]) 0 0 := by
  refine CE.ofW (cc := cX4_status) (maxL := 4) (ret := (some .int)) (lv := [(0, .ref x), (1, .int v)]) (by decide) rfl (Nat.le_of_ble_eq_true rfl) rfl ?_
  intro p e s m args below meth c ls A Q hQ hx hb hml hr hlocks hnm hown hts hK hA hE hW hl
  have hown : s.vm.findClass RX4 = some m.cls := hown
  refine lv_iload_n hx hb dX4_status_0 rfl (lv_at hl 1 rfl) ?_
  refine lv_iconst (v := -1) hx hb dX4_status_1 (by decide +kernel) ?_
  refine zz_clt (tgt := 11) hx hb dX4_status_2 (by decide) (rfl : v.toInt = v.toInt) (show ((-1) : Int32).toInt = (-1) by decide +kernel) (fun c2 => ?_) (fun c2 => ?_)
  · refine lv_aload_n hx hb dX4_status_11 rfl (lv_at hl 0 rfl) ?_
    refine lv_ldc (v := -1000000001) hx hb hown (hts _ (List.mem_of_getElem? (i := 1) rfl)) dX4_status_12 ?_
    refine cl_Vi (As := [.int (-1000000001)]) (rest := []) (C := RX4) ⟨hx, hb, hml, hown, hts⟩ (M_X4_tell l D cI cJ x fi ik la ta ka tp sh F 0 (by decide) (-1000000001) (by decide +kernel)) (cwV 1 hts gX4_status_X4_tell rfl rfl rfl qX4_tell ⟨Nat.le_of_ble_eq_true rfl, Nat.le_of_ble_eq_true rfl⟩) E0_good hK hA hW trivial [true, true] (fun _ => [xH x la ta ka tp sh fi ik, aI cI fi 7 (up F 0 (F 0 + 1))]) rfl (fun _ => rfl) (fun _ => rfl) 0 0 rfl rfl rfl rfl hl.1 rfl (lv_room (Nat.le_of_ble_eq_true rfl)) dX4_status_14 ⟨Nat.zero_le _, Nat.zero_le _⟩ (fun _ H locs _ hW => ?_)
    exact rt_i hQ hx hb hr hlocks hW dX4_status_17 () (by (try simp only [statusV]); (repeat' split) <;> first | rfl | (exfalso; omega)) trivial (by (try simp only [statusF]); (repeat' split) <;> first | rfl | (exfalso; omega))
  · refine lv_iload_n hx hb dX4_status_5 rfl (lv_at hl 1 rfl) ?_
    refine lv_bipush (v := nI 7) hx hb dX4_status_6 (by decide +kernel) ?_
    refine zz_clt (tgt := 18) hx hb dX4_status_8 (by decide) (rfl : v.toInt = v.toInt) (nI_toInt (n := 7) (by decide)) (fun c8 => ?_) (fun c8 => ?_)
    · refine lv_iload_n hx hb dX4_status_18 rfl (lv_at hl 1 rfl) ?_
      refine zz_zlt (tgt := 29) hx hb dX4_status_19 (by decide) (rfl : v.toInt = v.toInt) (fun c19 => ?_) (fun c19 => ?_)
      · refine lv_iconst (v := nI 0) hx hb dX4_status_29 (by decide +kernel) ?_
        refine lv_istore_n (lv' := [(2, .int (nI 0)), (0, .ref x), (1, .int v)]) hx hb dX4_status_30 rfl hl (by decide) rfl (fun ls hl => ?_)
        refine lv_iconst (v := nI 0) hx hb dX4_status_31 (by decide +kernel) ?_
        refine lv_istore_n (lv' := [(3, .int (nI 0)), (2, .int (nI 0)), (0, .ref x), (1, .int v)]) hx hb dX4_status_32 rfl hl (by decide) rfl (fun ls hl => ?_)
        have lp33 : ∀ (n : Nat) (k : Nat), 7 - k < n → k ≤ 7 → ∀ (H : Heap) (locs : List Loc), Wo D vwCl A s.heap H locs [xH x la ta ka tp sh fi ik, aI cI fi 7 F] → ∀ ls : Array Slot, lv_has ls 4 [(3, .int (nI k)), (2, .int (nI (sumN F k))), (0, .ref x), (1, .int v)] → W p l e rmX4_status s m args below meth c H locs 0 0 Q (F0 m 33 ls []) := by
          intro n
          induction n with
          | zero => intro k hm; exact absurd hm (Nat.not_lt_zero _)
          | succ n ih =>
            intro k hm hi H locs hW ls hl
            refine lv_iload_n hx hb dX4_status_33 rfl (lv_at hl 0 rfl) ?_
            refine lv_bipush (v := nI 7) hx hb dX4_status_34 (by decide +kernel) ?_
            refine nn_cge (tgt := 54) hx hb dX4_status_36 (by decide) (by omega) (by decide) (fun c36 => ?_) (fun c36 => ?_)
            · refine lv_iload_n hx hb dX4_status_54 rfl (lv_at hl 1 rfl) ?_
              have hk7 : k = 7 := by omega
              subst hk7
              exact rt_i hQ hx hb hr hlocks hW dX4_status_55 () (by (try simp only [statusV]); (repeat' split) <;> first | rfl | (exfalso; omega)) trivial (by (try simp only [statusF]); (repeat' split) <;> first | rfl | (exfalso; omega))
            · refine lv_iload_n hx hb dX4_status_39 rfl (lv_at hl 1 rfl) ?_
              refine lv_aload_n hx hb dX4_status_40 rfl (lv_at hl 2 rfl) ?_
              refine sg_get (ci := 3) (C := RX4) (T := TX4) (N := 7) (v := .ref fi) hx hb hts (fun _ h => List.mem_cons_of_mem _ (List.mem_append_right _ h)) hown hK hW 0 0 rfl rfl rfl 6 (by decide) (hts _ (List.mem_of_getElem? (i := 2) rfl)) rfl dX4_status_41 ?_
              refine lv_iload_n hx hb dX4_status_44 rfl (lv_at hl 0 rfl) ?_
              refine sg_ild (v := nI (F k)) hx hb hK hW 1 0 0 rfl rfl rfl (by omega) (by decide) rfl dX4_status_45 ?_
              refine nn_add hx hb dX4_status_46 ?_
              refine lv_istore_n (lv' := [(2, .int (nI ((sumN F k) + (F k)))), (3, .int (nI k)), (0, .ref x), (1, .int v)]) hx hb dX4_status_47 rfl hl (by decide) rfl (fun ls hl => ?_)
              refine lv_iinc (v := nI (k + 1)) (lv' := [(3, .int (nI (k + 1))), (2, .int (nI ((sumN F k) + (F k)))), (0, .ref x), (1, .int v)]) hx hb dX4_status_48 hl (k := 1) rfl (nI_add _ 1) (by decide) rfl (fun ls hl => ?_)
              refine lv_goto (tgt := 33) hx hb dX4_status_51 (by decide) ?_
              exact ih (k + 1) (by omega) (by omega) _ _ hW _ (lv_sub hl [0, 1, 2, 3] rfl)
        exact lp33 (7 - 0 + 1) 0 (Nat.lt_succ_self _) (by omega) _ _ hW _ (lv_sub hl [0, 1, 2, 3] rfl)
      · obtain ⟨j, hj, ej⟩ : ∃ j : Nat, v = nI j ∧ v.toInt = (j : Int) := ⟨v.toInt.toNat, nI_ofZ rfl (by omega), by omega⟩
        rw [hj] at hl
        refine lv_aload_n hx hb dX4_status_22 rfl (lv_at hl 0 rfl) ?_
        refine sg_get (ci := 3) (C := RX4) (T := TX4) (N := 7) (v := .ref fi) hx hb hts (fun _ h => List.mem_cons_of_mem _ (List.mem_append_right _ h)) hown hK hW 0 0 rfl rfl rfl 6 (by decide) (hts _ (List.mem_of_getElem? (i := 2) rfl)) rfl dX4_status_23 ?_
        refine lv_iload_n hx hb dX4_status_26 rfl (lv_at hl 1 rfl) ?_
        refine sg_ild (v := nI (F j)) hx hb hK hW 1 0 0 rfl rfl rfl (by omega) (by decide) rfl dX4_status_27 ?_
        exact rt_i hQ hx hb hr hlocks hW dX4_status_28 () (by (try simp only [statusV, ej, Int.toNat_natCast]); (repeat' split) <;> first | rfl | (exfalso; omega)) trivial (by (try simp only [statusF, ej, Int.toNat_natCast]); (repeat' split) <;> first | rfl | (exfalso; omega))
    · refine lv_aload_n hx hb dX4_status_11 rfl (lv_at hl 0 rfl) ?_
      refine lv_ldc (v := -1000000001) hx hb hown (hts _ (List.mem_of_getElem? (i := 1) rfl)) dX4_status_12 ?_
      refine cl_Vi (As := [.int (-1000000001)]) (rest := []) (C := RX4) ⟨hx, hb, hml, hown, hts⟩ (M_X4_tell l D cI cJ x fi ik la ta ka tp sh F 0 (by decide) (-1000000001) (by decide +kernel)) (cwV 1 hts gX4_status_X4_tell rfl rfl rfl qX4_tell ⟨Nat.le_of_ble_eq_true rfl, Nat.le_of_ble_eq_true rfl⟩) E0_good hK hA hW trivial [true, true] (fun _ => [xH x la ta ka tp sh fi ik, aI cI fi 7 (up F 0 (F 0 + 1))]) rfl (fun _ => rfl) (fun _ => rfl) 0 0 rfl rfl rfl rfl hl.1 rfl (lv_room (Nat.le_of_ble_eq_true rfl)) dX4_status_14 ⟨Nat.zero_le _, Nat.zero_le _⟩ (fun _ H locs _ hW => ?_)
      exact rt_i hQ hx hb hr hlocks hW dX4_status_17 () (by (try simp only [statusV]); (repeat' split) <;> first | rfl | (exfalso; omega)) trivial (by (try simp only [statusF]); (repeat' split) <;> first | rfl | (exfalso; omega))
abbrev rmX4_image : Room := { frames := 2, cells := 0, slots := 0, locals := 69 }
set_option maxRecDepth 100000 in
set_option maxHeartbeats 4000000 in
theorem M_X4_image (l : Launch) (D : va_G) (cI cJ : ClassId) (x fi ik : Nat) (la ta ka tp sh : Nat → Nat) (G K : Nat → Nat) : CE E0 l D vwCl [(cI, .int), (cJ, .long)] yX4_image wsX4_image rmX4_image [.ref x] [xH x la ta ka tp sh fi ik, gW cI la G, gW cI ka K] (S := Unit) (some (.int (nI 1))) (fun _ => True) (fun _ : Unit => [xH x la ta ka tp sh fi 1, gW cI la G, gW cI ka G]) 0 0 := by
  refine CE.ofW (cc := cX4_image) (maxL := 1) (ret := (some .int)) (lv := [(0, .ref x)]) (by decide) rfl (Nat.le_of_ble_eq_true rfl) rfl ?_
  intro p e s m args below meth c ls A Q hQ hx hb hml hr hlocks hnm hown hts hK hA hE hW hl
  have hown : s.vm.findClass RX4 = some m.cls := hown
  refine lv_aload_n hx hb dX4_image_0 rfl (lv_at hl 0 rfl) ?_
  refine sg_get (ci := 3) (C := RX4) (T := TX4) (N := 7) (v := .ref (ka 0)) hx hb hts (fun _ h => List.mem_cons_of_mem _ (List.mem_append_left _ (List.mem_append_right _ h))) hown hK hW 0 0 rfl rfl rfl 2 (by decide) (hts _ (List.mem_of_getElem? (i := 1) rfl)) rfl dX4_image_1 ?_
  refine lv_aload_n hx hb dX4_image_4 rfl (lv_at hl 0 rfl) ?_
  refine sg_get (ci := 3) (C := RX4) (T := TX4) (N := 7) (v := .ref (la 0)) hx hb hts (fun _ h => List.mem_cons_of_mem _ (List.mem_append_left _ (List.mem_append_right _ h))) hown hK hW 0 0 rfl rfl rfl 0 (by decide) (hts _ (List.mem_of_getElem? (i := 2) rfl)) rfl dX4_image_5 ?_
  refine cl_Vv (As := [.ref (la 0)]) (rest := []) (C := RX0) ⟨hx, hb, hml, hown, hts⟩ (M_X0_become2 l D cI cJ ka la K G) (cwV 1 hts gX4_image_X0_become rfl rfl rfl qX0_become ⟨Nat.le_of_ble_eq_true rfl, Nat.le_of_ble_eq_true rfl⟩) E0_good hK hA hW trivial [false, true, true] (fun _ => [xH x la ta ka tp sh fi ik, gW cI la G, gW cI ka G]) rfl (fun _ => rfl) (fun _ => rfl) 2 0 rfl rfl rfl rfl hl.1 rfl (lv_room (Nat.le_of_ble_eq_true rfl)) dX4_image_8 ⟨Nat.zero_le _, Nat.zero_le _⟩ (fun _ H locs _ hW => ?_)
  refine lv_aload_n hx hb dX4_image_11 rfl (lv_at hl 0 rfl) ?_
  refine lv_iconst (v := nI 1) hx hb dX4_image_12 (by decide +kernel) ?_
  refine sg_put (ci := 3) (C := RX4) (T := TX4) (N := 7) hx hb hts (fun _ h => List.mem_cons_of_mem _ (List.mem_append_left _ (List.mem_append_right _ h))) tyX4 tyX4_ok nmX4 hown hK hW 0 0 rfl rfl rfl 3 (by decide) (hts _ (List.mem_of_getElem? (i := 3) rfl)) rfl (by decide +kernel) (by decide +kernel) (Nat.le_of_ble_eq_true rfl) rfl (ss' := [xH x la ta ka tp sh fi 1, gW cI la G, gW cI ka G]) rfl dX4_image_13 (fun H locs hW => ?_)
  refine lv_iconst (v := nI 1) hx hb dX4_image_16 (by decide +kernel) ?_
  exact rt_i hQ hx hb hr hlocks hW dX4_image_17 () rfl trivial rfl
abbrev rmX4_undo : Room := { frames := 2, cells := 0, slots := 0, locals := 69 }
set_option maxRecDepth 100000 in
set_option maxHeartbeats 4000000 in
theorem M_X4_undo (l : Launch) (D : va_G) (cI cJ : ClassId) (x fi ik : Nat) (la ta ka tp sh : Nat → Nat) (G K F : Nat → Nat) (hik : ik ≤ 1) : CE E0 l D vwCl [(cI, .int), (cJ, .long)] yX4_undo wsX4_undo rmX4_undo [.ref x] [xH x la ta ka tp sh fi ik, gW cI la G, gW cI ka K, aI cI fi 7 F] (S := Unit) (some (.int (undoV K ik))) (fun _ => True) (fun _ : Unit => [xH x la ta ka tp sh fi ik, gW cI la (undoG G K ik), gW cI ka K, aI cI fi 7 (undoF F ik)]) 0 0 := by
  refine CE.ofW (cc := cX4_undo) (maxL := 1) (ret := (some .int)) (lv := [(0, .ref x)]) (by decide) rfl (Nat.le_of_ble_eq_true rfl) rfl ?_
  intro p e s m args below meth c ls A Q hQ hx hb hml hr hlocks hnm hown hts hK hA hE hW hl
  have hown : s.vm.findClass RX4 = some m.cls := hown
  refine lv_aload_n hx hb dX4_undo_0 rfl (lv_at hl 0 rfl) ?_
  refine sg_get (ci := 3) (C := RX4) (T := TX4) (N := 7) (v := .int (nI ik)) hx hb hts (fun _ h => List.mem_cons_of_mem _ (List.mem_append_left _ (List.mem_append_right _ h))) hown hK hW 0 0 rfl rfl rfl 3 (by decide) (hts _ (List.mem_of_getElem? (i := 1) rfl)) rfl dX4_undo_1 ?_
  refine nn_zne (tgt := 14) hx hb dX4_undo_4 (by decide) (by omega) (fun c4 => ?_) (fun c4 => ?_)
  · refine lv_aload_n hx hb dX4_undo_14 rfl (lv_at hl 0 rfl) ?_
    refine sg_get (ci := 3) (C := RX4) (T := TX4) (N := 7) (v := .ref (la 0)) hx hb hts (fun _ h => List.mem_cons_of_mem _ (List.mem_append_left _ (List.mem_append_right _ h))) hown hK hW 0 0 rfl rfl rfl 0 (by decide) (hts _ (List.mem_of_getElem? (i := 3) rfl)) rfl dX4_undo_15 ?_
    refine lv_aload_n hx hb dX4_undo_18 rfl (lv_at hl 0 rfl) ?_
    refine sg_get (ci := 3) (C := RX4) (T := TX4) (N := 7) (v := .ref (ka 0)) hx hb hts (fun _ h => List.mem_cons_of_mem _ (List.mem_append_left _ (List.mem_append_right _ h))) hown hK hW 0 0 rfl rfl rfl 2 (by decide) (hts _ (List.mem_of_getElem? (i := 4) rfl)) rfl dX4_undo_19 ?_
    refine cl_Vv (As := [.ref (ka 0)]) (rest := []) (C := RX0) ⟨hx, hb, hml, hown, hts⟩ (M_X0_become l D cI cJ la ka G K) (cwV 1 hts gX4_undo_X0_become rfl rfl rfl qX0_become ⟨Nat.le_of_ble_eq_true rfl, Nat.le_of_ble_eq_true rfl⟩) E0_good hK hA hW trivial [false, true, true] (fun _ => [xH x la ta ka tp sh fi ik, gW cI la K, gW cI ka K, aI cI fi 7 F]) rfl (fun _ => rfl) (fun _ => rfl) 1 0 rfl rfl rfl rfl hl.1 rfl (lv_room (Nat.le_of_ble_eq_true rfl)) dX4_undo_22 ⟨Nat.zero_le _, Nat.zero_le _⟩ (fun _ H locs _ hW => ?_)
    refine lv_aload_n hx hb dX4_undo_25 rfl (lv_at hl 0 rfl) ?_
    refine sg_get (ci := 3) (C := RX4) (T := TX4) (N := 7) (v := .ref (la 0)) hx hb hts (fun _ h => List.mem_cons_of_mem _ (List.mem_append_left _ (List.mem_append_right _ h))) hown hK hW 0 0 rfl rfl rfl 0 (by decide) (hts _ (List.mem_of_getElem? (i := 3) rfl)) rfl dX4_undo_26 ?_
    refine sg_get (ci := 0) (C := RX0) (T := TX0) (N := 14) (v := .int (nI (K 40))) hx hb hts (fun _ h => List.mem_cons_of_mem _ (List.mem_append_right _ h)) hown hK hW 1 0 rfl rfl rfl 5 (by decide) (hts _ (List.mem_of_getElem? (i := 5) rfl)) rfl dX4_undo_29 ?_
    exact rt_i hQ hx hb hr hlocks hW dX4_undo_32 () (by (try simp only [undoV]); (repeat' split) <;> first | rfl | (exfalso; omega)) trivial (by (try simp only [undoG, undoF]); (repeat' split) <;> first | rfl | (exfalso; omega))
  · refine lv_aload_n hx hb dX4_undo_7 rfl (lv_at hl 0 rfl) ?_
    refine lv_ldc (v := -1000000004) hx hb hown (hts _ (List.mem_of_getElem? (i := 2) rfl)) dX4_undo_8 ?_
    refine cl_Vi (As := [.int (-1000000004)]) (rest := []) (C := RX4) ⟨hx, hb, hml, hown, hts⟩ (M_X4_tell l D cI cJ x fi ik la ta ka tp sh F 3 (by decide) (-1000000004) (by decide +kernel)) (cwV 1 hts gX4_undo_X4_tell rfl rfl rfl qX4_tell ⟨Nat.le_of_ble_eq_true rfl, Nat.le_of_ble_eq_true rfl⟩) E0_good hK hA hW trivial [true, false, false, true] (fun _ => [xH x la ta ka tp sh fi ik, gW cI la G, gW cI ka K, aI cI fi 7 (up F 3 (F 3 + 1))]) rfl (fun _ => rfl) (fun _ => rfl) 0 0 rfl rfl rfl rfl hl.1 rfl (lv_room (Nat.le_of_ble_eq_true rfl)) dX4_undo_10 ⟨Nat.zero_le _, Nat.zero_le _⟩ (fun _ H locs _ hW => ?_)
    exact rt_i hQ hx hb hr hlocks hW dX4_undo_13 () (by (try simp only [undoV]); (repeat' split) <;> first | rfl | (exfalso; omega)) trivial (by (try simp only [undoG, undoF]); (repeat' split) <;> first | rfl | (exfalso; omega))
abbrev rmX4_tear : Room := { frames := 0, cells := 0, slots := 0, locals := 0 }
set_option maxRecDepth 100000 in
set_option maxHeartbeats 4000000 in
theorem M_X4_tear (l : Launch) (D : va_G) (cI cJ : ClassId) (x fi ik : Nat) (la ta ka tp sh : Nat → Nat) (hik : ik ≤ 1) : CE E0 l D vwCl [(cI, .int), (cJ, .long)] yX4_tear wsX4_tear rmX4_tear [.ref x] [xH x la ta ka tp sh fi ik] (S := Unit) (some (.int (nI ik))) (fun _ => True) (fun _ : Unit => [xH x la ta ka tp sh fi 0]) 0 0 := by
  refine CE.ofW (cc := cX4_tear) (maxL := 2) (ret := (some .int)) (lv := [(0, .ref x)]) (by decide) rfl (Nat.le_of_ble_eq_true rfl) rfl ?_
  intro p e s m args below meth c ls A Q hQ hx hb hml hr hlocks hnm hown hts hK hA hE hW hl
  have hown : s.vm.findClass RX4 = some m.cls := hown
  refine lv_aload_n hx hb dX4_tear_0 rfl (lv_at hl 0 rfl) ?_
  refine sg_get (ci := 3) (C := RX4) (T := TX4) (N := 7) (v := .int (nI ik)) hx hb hts (fun _ h => List.mem_cons_of_mem _ (List.mem_append_right _ h)) hown hK hW 0 0 rfl rfl rfl 3 (by decide) (hts _ (List.mem_of_getElem? (i := 1) rfl)) rfl dX4_tear_1 ?_
  refine nn_zeq (tgt := 11) hx hb dX4_tear_4 (by decide) (by omega) (fun c4 => ?_) (fun c4 => ?_)
  · refine lv_iconst (v := nI 0) hx hb dX4_tear_11 (by decide +kernel) ?_
    refine lv_istore_n (lv' := [(1, .int (nI 0)), (0, .ref x)]) hx hb dX4_tear_12 rfl hl (by decide) rfl (fun ls hl => ?_)
    refine lv_aload_n hx hb dX4_tear_13 rfl (lv_at hl 1 rfl) ?_
    refine lv_iconst (v := nI 0) hx hb dX4_tear_14 (by decide +kernel) ?_
    refine sg_put (ci := 3) (C := RX4) (T := TX4) (N := 7) hx hb hts (fun _ h => List.mem_cons_of_mem _ (List.mem_append_right _ h)) tyX4 tyX4_ok nmX4 hown hK hW 0 0 rfl rfl rfl 3 (by decide) (hts _ (List.mem_of_getElem? (i := 1) rfl)) rfl (by decide +kernel) (by decide +kernel) (Nat.le_of_ble_eq_true rfl) rfl (ss' := [xH x la ta ka tp sh fi 0]) rfl dX4_tear_15 (fun H locs hW => ?_)
    refine lv_iload_n hx hb dX4_tear_18 rfl (lv_at hl 0 rfl) ?_
    exact rt_i hQ hx hb hr hlocks hW dX4_tear_19 () (congrArg (fun z => some (Value.int (nI z))) (by omega)) trivial rfl
  · refine lv_iconst (v := nI 1) hx hb dX4_tear_7 (by decide +kernel) ?_
    refine lv_goto (tgt := 12) hx hb dX4_tear_8 (by decide) ?_
    refine lv_istore_n (lv' := [(1, .int (nI 1)), (0, .ref x)]) hx hb dX4_tear_12 rfl hl (by decide) rfl (fun ls hl => ?_)
    refine lv_aload_n hx hb dX4_tear_13 rfl (lv_at hl 1 rfl) ?_
    refine lv_iconst (v := nI 0) hx hb dX4_tear_14 (by decide +kernel) ?_
    refine sg_put (ci := 3) (C := RX4) (T := TX4) (N := 7) hx hb hts (fun _ h => List.mem_cons_of_mem _ (List.mem_append_right _ h)) tyX4 tyX4_ok nmX4 hown hK hW 0 0 rfl rfl rfl 3 (by decide) (hts _ (List.mem_of_getElem? (i := 1) rfl)) rfl (by decide +kernel) (by decide +kernel) (Nat.le_of_ble_eq_true rfl) rfl (ss' := [xH x la ta ka tp sh fi 0]) rfl dX4_tear_15 (fun H locs hW => ?_)
    refine lv_iload_n hx hb dX4_tear_18 rfl (lv_at hl 0 rfl) ?_
    exact rt_i hQ hx hb hr hlocks hW dX4_tear_19 () (congrArg (fun z => some (Value.int (nI z))) (by omega)) trivial rfl
abbrev rmX4_wipe : Room := { frames := 0, cells := 0, slots := 0, locals := 0 }
set_option maxRecDepth 100000 in
set_option maxHeartbeats 4000000 in
theorem M_X4_wipe (l : Launch) (D : va_G) (cI cJ : ClassId) (x fi ik : Nat) (la ta ka tp sh : Nat → Nat) (Tp Rt : Nat → Nat) : CE E0 l D vwCl [(cI, .int), (cJ, .long)] yX4_wipe wsX4_wipe rmX4_wipe [.ref x] [xH x la ta ka tp sh fi ik, tW cI tp Tp Rt] (S := Unit) (some (.int (nI (Rt 0)))) (fun _ => True) (fun _ : Unit => [xH x la ta ka tp sh fi ik, tW cI tp Tp (up Rt 0 0)]) 0 0 := by
  refine CE.ofW (cc := cX4_wipe) (maxL := 2) (ret := (some .int)) (lv := [(0, .ref x)]) (by decide) rfl (Nat.le_of_ble_eq_true rfl) rfl ?_
  intro p e s m args below meth c ls A Q hQ hx hb hml hr hlocks hnm hown hts hK hA hE hW hl
  have hown : s.vm.findClass RX4 = some m.cls := hown
  refine lv_aload_n hx hb dX4_wipe_0 rfl (lv_at hl 0 rfl) ?_
  refine sg_get (ci := 3) (C := RX4) (T := TX4) (N := 7) (v := .ref (tp 0)) hx hb hts (fun _ h => List.mem_cons_of_mem _ (List.mem_append_left _ (List.mem_append_right _ h))) hown hK hW 0 0 rfl rfl rfl 4 (by decide) (hts _ (List.mem_of_getElem? (i := 1) rfl)) rfl dX4_wipe_1 ?_
  refine sg_get (ci := 2) (C := RX3) (T := TX3) (N := 6) (v := .int (nI (Rt 0))) hx hb hts (fun _ h => List.mem_cons_of_mem _ (List.mem_append_right _ h)) hown hK hW 1 0 rfl rfl rfl 1 (by decide) (hts _ (List.mem_of_getElem? (i := 2) rfl)) rfl dX4_wipe_4 ?_
  refine lv_istore_n (lv' := [(1, .int (nI (Rt 0))), (0, .ref x)]) hx hb dX4_wipe_7 rfl hl (by decide) rfl (fun ls hl => ?_)
  refine lv_aload_n hx hb dX4_wipe_8 rfl (lv_at hl 1 rfl) ?_
  refine sg_get (ci := 3) (C := RX4) (T := TX4) (N := 7) (v := .ref (tp 0)) hx hb hts (fun _ h => List.mem_cons_of_mem _ (List.mem_append_left _ (List.mem_append_right _ h))) hown hK hW 0 0 rfl rfl rfl 4 (by decide) (hts _ (List.mem_of_getElem? (i := 1) rfl)) rfl dX4_wipe_9 ?_
  refine lv_iconst (v := nI 0) hx hb dX4_wipe_12 (by decide +kernel) ?_
  refine sg_put (ci := 2) (C := RX3) (T := TX3) (N := 6) hx hb hts (fun _ h => List.mem_cons_of_mem _ (List.mem_append_right _ h)) tyX3 tyX3_ok nmX3 hown hK hW 1 0 rfl rfl rfl 1 (by decide) (hts _ (List.mem_of_getElem? (i := 2) rfl)) rfl (by decide +kernel) (by decide +kernel) (Nat.le_of_ble_eq_true rfl) (tW_s0 cI tp Tp Rt 0) (ss' := [xH x la ta ka tp sh fi ik, tW cI tp Tp (up Rt 0 0)]) rfl dX4_wipe_13 (fun H locs hW => ?_)
  refine lv_iload_n hx hb dX4_wipe_16 rfl (lv_at hl 0 rfl) ?_
  exact rt_i hQ hx hb hr hlocks hW dX4_wipe_17 () rfl trivial rfl
abbrev rmX4_feed : Room := { frames := 1, cells := 0, slots := 0, locals := 22 }
set_option maxRecDepth 100000 in
set_option maxHeartbeats 4000000 in
theorem M_X4_feed (l : Launch) (D : va_G) (cI cJ : ClassId) (x fi ik : Nat) (la ta ka tp sh : Nat → Nat) (Tp Rt F : Nat → Nat) (hr1 : Rt 0 ≤ 120) (v z : Int32) : CE E0 l D vwCl [(cI, .int), (cJ, .long)] yX4_feed wsX4_feed rmX4_feed [.ref x, .int v, .int z] [xH x la ta ka tp sh fi ik, tW cI tp Tp Rt, aI cI fi 7 F] (S := Unit) (some (.int (feedV (Rt 0) z.toInt))) (fun _ => True) (fun _ : Unit => [xH x la ta ka tp sh fi ik, tW cI tp (feedT Tp (Rt 0) v z.toInt) (up Rt 0 (feedN (Rt 0) z.toInt)), aI cI fi 7 (feedF F (Rt 0) z.toInt)]) 0 0 := by
  refine CE.ofW (cc := cX4_feed) (maxL := 4) (ret := (some .int)) (lv := [(0, .ref x), (1, .int v), (2, .int z)]) (by decide) rfl (Nat.le_of_ble_eq_true rfl) rfl ?_
  intro p e s m args below meth c ls A Q hQ hx hb hml hr hlocks hnm hown hts hK hA hE hW hl
  have hown : s.vm.findClass RX4 = some m.cls := hown
  refine lv_iload_n hx hb dX4_feed_0 rfl (lv_at hl 2 rfl) ?_
  refine lv_iconst (v := nI 1) hx hb dX4_feed_1 (by decide +kernel) ?_
  refine zz_clt (tgt := 10) hx hb dX4_feed_2 (by decide) (rfl : z.toInt = z.toInt) (nI_toInt (n := 1) (by decide)) (fun c2 => ?_) (fun c2 => ?_)
  · refine lv_aload_n hx hb dX4_feed_10 rfl (lv_at hl 0 rfl) ?_
    refine lv_ldc (v := -1000000001) hx hb hown (hts _ (List.mem_of_getElem? (i := 1) rfl)) dX4_feed_11 ?_
    refine cl_Vi (As := [.int (-1000000001)]) (rest := []) (C := RX4) ⟨hx, hb, hml, hown, hts⟩ (M_X4_tell l D cI cJ x fi ik la ta ka tp sh F 0 (by decide) (-1000000001) (by decide +kernel)) (cwV 1 hts gX4_feed_X4_tell rfl rfl rfl qX4_tell ⟨Nat.le_of_ble_eq_true rfl, Nat.le_of_ble_eq_true rfl⟩) E0_good hK hA hW trivial [true, false, true] (fun _ => [xH x la ta ka tp sh fi ik, tW cI tp Tp Rt, aI cI fi 7 (up F 0 (F 0 + 1))]) rfl (fun _ => rfl) (fun _ => rfl) 0 0 rfl rfl rfl rfl hl.1 rfl (lv_room (Nat.le_of_ble_eq_true rfl)) dX4_feed_13 ⟨Nat.zero_le _, Nat.zero_le _⟩ (fun _ H locs _ hW => ?_)
    exact rt_i hQ hx hb hr hlocks hW dX4_feed_16 () (by (try simp only [feedV]); (repeat' split) <;> first | rfl | (exfalso; omega)) trivial (by (try simp only [feedN, feedF, feedT, up_self]); (repeat' split) <;> first | rfl | (exfalso; omega))
  · refine lv_iload_n hx hb dX4_feed_5 rfl (lv_at hl 2 rfl) ?_
    refine lv_iconst (v := nI 4) hx hb dX4_feed_6 (by decide +kernel) ?_
    refine zz_cle (tgt := 17) hx hb dX4_feed_7 (by decide) (rfl : z.toInt = z.toInt) (nI_toInt (n := 4) (by decide)) (fun c7 => ?_) (fun c7 => ?_)
    · obtain ⟨y, hy, ey⟩ : ∃ y : Nat, z = nI y ∧ z.toInt = (y : Int) := ⟨z.toInt.toNat, nI_ofZ rfl (by omega), by omega⟩
      rw [hy] at hl
      refine lv_aload_n hx hb dX4_feed_17 rfl (lv_at hl 0 rfl) ?_
      refine sg_get (ci := 3) (C := RX4) (T := TX4) (N := 7) (v := .ref (tp 0)) hx hb hts (fun _ h => List.mem_cons_of_mem _ (List.mem_append_left _ (List.mem_append_right _ h))) hown hK hW 0 0 rfl rfl rfl 4 (by decide) (hts _ (List.mem_of_getElem? (i := 2) rfl)) rfl dX4_feed_18 ?_
      refine sg_get (ci := 2) (C := RX3) (T := TX3) (N := 6) (v := .int (nI (Rt 0))) hx hb hts (fun _ h => List.mem_cons_of_mem _ (List.mem_append_right _ h)) hown hK hW 1 0 rfl rfl rfl 1 (by decide) (hts _ (List.mem_of_getElem? (i := 3) rfl)) rfl dX4_feed_21 ?_
      refine lv_iload_n hx hb dX4_feed_24 rfl (lv_at hl 2 rfl) ?_
      refine nn_add hx hb dX4_feed_25 ?_
      refine lv_bipush (v := nI 120) hx hb dX4_feed_26 (by decide +kernel) ?_
      refine nn_cle (tgt := 38) hx hb dX4_feed_28 (by decide) (by omega) (by decide) (fun c28 => ?_) (fun c28 => ?_)
      · refine lv_iload_n hx hb dX4_feed_38 rfl (lv_at hl 2 rfl) ?_
        refine lv_iconst (v := nI 1) hx hb dX4_feed_39 (by decide +kernel) ?_
        refine nn_sub hx hb dX4_feed_40 (by omega) ?_
        refine lv_istore_n (lv' := [(3, .int (nI (y - 1))), (0, .ref x), (1, .int v), (2, .int (nI y))]) hx hb dX4_feed_41 rfl hl (by decide) rfl (fun ls hl => ?_)
        have lp42 : ∀ (n : Nat) (i : Nat), y - i < n → i ≤ y → ∀ (H : Heap) (locs : List Loc), Wo D vwCl A s.heap H locs [xH x la ta ka tp sh fi ik, tW cI tp (fdT Tp (Rt 0) v y i) (up Rt 0 (Rt 0 + i)), aI cI fi 7 F] → ∀ ls : Array Slot, lv_has ls 4 [(3, .int (bst (y - i))), (0, .ref x), (1, .int v), (2, .int (nI y))] → W p l e rmX4_feed s m args below meth c H locs 0 0 Q (F0 m 42 ls []) := by
          intro n
          induction n with
          | zero => intro i hm; exact absurd hm (Nat.not_lt_zero _)
          | succ n ih =>
            intro i hm hi H locs hW ls hl
            refine lv_iload_n hx hb dX4_feed_42 rfl (lv_at hl 0 rfl) ?_
            refine zz_zlt (tgt := 90) hx hb dX4_feed_43 (by decide) (bst_toInt (o := y - i) (by omega)) (fun c43 => ?_) (fun c43 => ?_)
            · have hiy : i = y := by omega
              subst hiy
              refine lv_aload_n hx hb dX4_feed_90 rfl (lv_at hl 1 rfl) ?_
              refine sg_get (ci := 3) (C := RX4) (T := TX4) (N := 7) (v := .ref (tp 0)) hx hb hts (fun _ h => List.mem_cons_of_mem _ (List.mem_append_left _ (List.mem_append_right _ h))) hown hK hW 0 0 rfl rfl rfl 4 (by decide) (hts _ (List.mem_of_getElem? (i := 2) rfl)) rfl dX4_feed_91 ?_
              refine sg_get (ci := 2) (C := RX3) (T := TX3) (N := 6) (v := .int (nI (Rt 0 + i))) hx hb hts (fun _ h => List.mem_cons_of_mem _ (List.mem_append_right _ h)) hown hK hW 1 0 rfl rfl rfl 1 (by decide) (hts _ (List.mem_of_getElem? (i := 3) rfl)) (congrArg (fun z => some (Value.int (nI z))) (up_eq _ _ _)) dX4_feed_94 ?_
              exact rt_i hQ hx hb hr hlocks hW dX4_feed_97 () (by (try simp only [feedV, ey, Int.toNat_natCast]); (repeat' split) <;> first | rfl | (exfalso; omega)) trivial (by (try simp only [feedN, feedF, feedT, up_self, ey, Int.toNat_natCast]); (repeat' split) <;> first | rfl | (exfalso; omega))
            · have hb1 : bst (y - i) = nI (y - i - 1) := (if_neg (by omega))
              have hl : lv_has ls 4 [(3, .int (nI (y - i - 1))), (0, .ref x), (1, .int v), (2, .int (nI y))] := by rw [← hb1]; exact hl
              refine lv_aload_n hx hb dX4_feed_46 rfl (lv_at hl 1 rfl) ?_
              refine sg_get (ci := 3) (C := RX4) (T := TX4) (N := 7) (v := .ref (tp 0)) hx hb hts (fun _ h => List.mem_cons_of_mem _ (List.mem_append_left _ (List.mem_append_right _ h))) hown hK hW 0 0 rfl rfl rfl 4 (by decide) (hts _ (List.mem_of_getElem? (i := 2) rfl)) rfl dX4_feed_47 ?_
              refine sg_get (ci := 2) (C := RX3) (T := TX3) (N := 6) (v := .ref (tp 1)) hx hb hts (fun _ h => List.mem_cons_of_mem _ (List.mem_append_right _ h)) hown hK hW 1 0 rfl rfl rfl 0 (by decide) (hts _ (List.mem_of_getElem? (i := 5) rfl)) rfl dX4_feed_50 ?_
              refine lv_aload_n hx hb dX4_feed_53 rfl (lv_at hl 1 rfl) ?_
              refine sg_get (ci := 3) (C := RX4) (T := TX4) (N := 7) (v := .ref (tp 0)) hx hb hts (fun _ h => List.mem_cons_of_mem _ (List.mem_append_left _ (List.mem_append_right _ h))) hown hK hW 0 0 rfl rfl rfl 4 (by decide) (hts _ (List.mem_of_getElem? (i := 2) rfl)) rfl dX4_feed_54 ?_
              refine sg_get (ci := 2) (C := RX3) (T := TX3) (N := 6) (v := .int (nI (Rt 0 + i))) hx hb hts (fun _ h => List.mem_cons_of_mem _ (List.mem_append_right _ h)) hown hK hW 1 0 rfl rfl rfl 1 (by decide) (hts _ (List.mem_of_getElem? (i := 3) rfl)) (congrArg (fun z => some (Value.int (nI z))) (up_eq _ _ _)) dX4_feed_57 ?_
              refine lv_iload_n hx hb dX4_feed_60 rfl (lv_at hl 2 rfl) ?_
              refine lv_bipush (v := nI 8) hx hb dX4_feed_61 (by decide +kernel) ?_
              refine lv_iload_n hx hb dX4_feed_63 rfl (lv_at hl 0 rfl) ?_
              refine nn_mul hx hb dX4_feed_64 ?_
              refine lv_ishr hx hb dX4_feed_65 ?_
              refine lv_sipush (v := nI 255) hx hb dX4_feed_66 (by decide +kernel) ?_
              refine lv_iand hx hb dX4_feed_69 ?_
              refine W.top (v' := .int (nI (byteN v (y - 1 - i)))) (congrArg Value.int ((byte_and _).trans (by rw [show y - i - 1 = y - 1 - i by omega]; rfl))) ?_
              refine sg_ist hx hb hK hW 1 1 0 rfl rfl rfl (by omega) (by decide) (tW_r1 cI tp (fdT Tp (Rt 0) v y i) (up Rt 0 (Rt 0 + i)) (Rt 0 + i) (byteN v (y - 1 - i))) (ss' := [xH x la ta ka tp sh fi ik, tW cI tp (up (fdT Tp (Rt 0) v y i) (Rt 0 + i) (byteN v (y - 1 - i))) (up Rt 0 (Rt 0 + i)), aI cI fi 7 F]) rfl dX4_feed_70 (fun H locs hW => ?_)
              refine lv_aload_n hx hb dX4_feed_71 rfl (lv_at hl 1 rfl) ?_
              refine sg_get (ci := 3) (C := RX4) (T := TX4) (N := 7) (v := .ref (tp 0)) hx hb hts (fun _ h => List.mem_cons_of_mem _ (List.mem_append_left _ (List.mem_append_right _ h))) hown hK hW 0 0 rfl rfl rfl 4 (by decide) (hts _ (List.mem_of_getElem? (i := 2) rfl)) rfl dX4_feed_72 ?_
              refine lv_dup hx hb dX4_feed_75 rfl ?_
              refine sg_get (ci := 2) (C := RX3) (T := TX3) (N := 6) (v := .int (nI (Rt 0 + i))) hx hb hts (fun _ h => List.mem_cons_of_mem _ (List.mem_append_right _ h)) hown hK hW 1 0 rfl rfl rfl 1 (by decide) (hts _ (List.mem_of_getElem? (i := 3) rfl)) (congrArg (fun z => some (Value.int (nI z))) (up_eq _ _ _)) dX4_feed_76 ?_
              refine lv_iconst (v := nI 1) hx hb dX4_feed_79 (by decide +kernel) ?_
              refine nn_add hx hb dX4_feed_80 ?_
              refine sg_put (ci := 2) (C := RX3) (T := TX3) (N := 6) hx hb hts (fun _ h => List.mem_cons_of_mem _ (List.mem_append_right _ h)) tyX3 tyX3_ok nmX3 hown hK hW 1 0 rfl rfl rfl 1 (by decide) (hts _ (List.mem_of_getElem? (i := 3) rfl)) rfl rfl rfl (Nat.le_of_ble_eq_true rfl) (tW_s0 cI tp (up (fdT Tp (Rt 0) v y i) (Rt 0 + i) (byteN v (y - 1 - i))) (up Rt 0 (Rt 0 + i)) ((Rt 0 + i) + 1)) (ss' := [xH x la ta ka tp sh fi ik, tW cI tp (up (fdT Tp (Rt 0) v y i) (Rt 0 + i) (byteN v (y - 1 - i))) (up (up Rt 0 (Rt 0 + i)) 0 ((Rt 0 + i) + 1)), aI cI fi 7 F]) rfl dX4_feed_81 (fun H locs hW => ?_)
              refine lv_iinc (v := bst (y - i - 1)) (lv' := [(3, .int (bst (y - i - 1))), (0, .ref x), (1, .int v), (2, .int (nI y))]) hx hb dX4_feed_84 hl (k := 0) rfl (bst_dec (r := y - i) (by omega)) (by decide) rfl (fun ls hl => ?_)
              refine lv_goto (tgt := 42) hx hb dX4_feed_87 (by decide) ?_
              have e2 : bst (y - i - 1) = bst (y - (i + 1)) := (by rw [Nat.sub_sub])
              rw [e2] at hl
              have hW := hW.to (ss' := [xH x la ta ka tp sh fi ik, tW cI tp (fdT Tp (Rt 0) v y (i + 1)) (up Rt 0 (Rt 0 + (i + 1))), aI cI fi 7 F]) (by rw [up_up, Nat.add_assoc]; rfl)
              exact ih (i + 1) (by omega) (by omega) _ _ hW _ (lv_sub hl [0, 1, 2, 3] rfl)
        have e3 : nI (y - 1) = bst (y - 0) := (if_neg (by omega)).symm
        rw [e3] at hl
        have hW := hW.to (ss' := [xH x la ta ka tp sh fi ik, tW cI tp (fdT Tp (Rt 0) v y 0) (up Rt 0 (Rt 0 + 0)), aI cI fi 7 F]) (by rw [Nat.add_zero, up_self]; rfl)
        exact lp42 (y - 0 + 1) 0 (Nat.lt_succ_self _) (by omega) _ _ hW _ (lv_sub hl [0, 1, 2, 3] rfl)
      · refine lv_aload_n hx hb dX4_feed_31 rfl (lv_at hl 0 rfl) ?_
        refine lv_ldc (v := -1000000002) hx hb hown (hts _ (List.mem_of_getElem? (i := 4) rfl)) dX4_feed_32 ?_
        refine cl_Vi (As := [.int (-1000000002)]) (rest := []) (C := RX4) ⟨hx, hb, hml, hown, hts⟩ (M_X4_tell l D cI cJ x fi ik la ta ka tp sh F 1 (by decide) (-1000000002) (by decide +kernel)) (cwV 1 hts gX4_feed_X4_tell rfl rfl rfl qX4_tell ⟨Nat.le_of_ble_eq_true rfl, Nat.le_of_ble_eq_true rfl⟩) E0_good hK hA hW trivial [true, false, true] (fun _ => [xH x la ta ka tp sh fi ik, tW cI tp Tp Rt, aI cI fi 7 (up F 1 (F 1 + 1))]) rfl (fun _ => rfl) (fun _ => rfl) 0 0 rfl rfl rfl rfl hl.1 rfl (lv_room (Nat.le_of_ble_eq_true rfl)) dX4_feed_34 ⟨Nat.zero_le _, Nat.zero_le _⟩ (fun _ H locs _ hW => ?_)
        exact rt_i hQ hx hb hr hlocks hW dX4_feed_37 () (by (try simp only [feedV, ey, Int.toNat_natCast]); (repeat' split) <;> first | rfl | (exfalso; omega)) trivial (by (try simp only [feedN, feedF, feedT, up_self, ey, Int.toNat_natCast]); (repeat' split) <;> first | rfl | (exfalso; omega))
    · refine lv_aload_n hx hb dX4_feed_10 rfl (lv_at hl 0 rfl) ?_
      refine lv_ldc (v := -1000000001) hx hb hown (hts _ (List.mem_of_getElem? (i := 1) rfl)) dX4_feed_11 ?_
      refine cl_Vi (As := [.int (-1000000001)]) (rest := []) (C := RX4) ⟨hx, hb, hml, hown, hts⟩ (M_X4_tell l D cI cJ x fi ik la ta ka tp sh F 0 (by decide) (-1000000001) (by decide +kernel)) (cwV 1 hts gX4_feed_X4_tell rfl rfl rfl qX4_tell ⟨Nat.le_of_ble_eq_true rfl, Nat.le_of_ble_eq_true rfl⟩) E0_good hK hA hW trivial [true, false, true] (fun _ => [xH x la ta ka tp sh fi ik, tW cI tp Tp Rt, aI cI fi 7 (up F 0 (F 0 + 1))]) rfl (fun _ => rfl) (fun _ => rfl) 0 0 rfl rfl rfl rfl hl.1 rfl (lv_room (Nat.le_of_ble_eq_true rfl)) dX4_feed_13 ⟨Nat.zero_le _, Nat.zero_le _⟩ (fun _ H locs _ hW => ?_)
      exact rt_i hQ hx hb hr hlocks hW dX4_feed_16 () (by (try simp only [feedV]); (repeat' split) <;> first | rfl | (exfalso; omega)) trivial (by (try simp only [feedN, feedF, feedT, up_self]); (repeat' split) <;> first | rfl | (exfalso; omega))
