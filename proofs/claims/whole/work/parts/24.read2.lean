theorem qX4_turnsAsTold : yX4_turnsAsTold.cls = RX4 ∧ yX4_turnsAsTold.cls ≠ "java/lang/invoke/MethodHandle" ∧ yX4_turnsAsTold.cls ≠ "java/lang/invoke/VarHandle" ∧ (parseMethodDescriptor yX4_turnsAsTold.desc).map (fun d => d.parameters.length) = some 4 := by decide +kernel
theorem qX5_isBook : yX5_isBook.cls = RX5 ∧ yX5_isBook.cls ≠ "java/lang/invoke/MethodHandle" ∧ yX5_isBook.cls ≠ "java/lang/invoke/VarHandle" ∧ (parseMethodDescriptor yX5_isBook.desc).map (fun d => d.parameters.length) = some 1 := by decide +kernel
abbrev rmX4_turnsAsTold : Room := { frames := 4, cells := 0, slots := 0, locals := 98 }
set_option maxRecDepth 100000 in
set_option maxHeartbeats 4000000 in
theorem M_X4_turnsAsTold (l : Launch) (D : va_G) (cI cJ : ClassId) (x fi ik : Nat) (la ta ka tp sh G T B Z : Nat → Nat) (C : Nat → Int64) (hG : OkG 99999 G) (hS : OkS B Z) (j a k q : Nat) (hj : j < 4) (ha : a < 8) (hk5 : k ≤ 5) (hq : q ≤ 99) : CE E0 l D vwCl [(cI, .int), (cJ, .long)] yX4_turnsAsTold wsX4_turnsAsTold rmX4_turnsAsTold [.ref x, .int (nI j), .int (nI a), .int (nI k), .int (nI q)] [xH x la ta ka tp sh fi ik, gW cI la G, gW cI ta T, sW cI cJ sh B Z C] (S := (Nat → Nat)) (some (.int (nI (bkB (up (up G (8 * a + 1) k) (8 * a + 3) q) C j (Z j))))) (fun _ => True) (fun Tx : Nat → Nat => [xH x la ta ka tp sh fi ik, gW cI la G, gW cI ta Tx, sW cI cJ sh B Z C]) 0 0 := by
  refine CE.ofW (cc := cX4_turnsAsTold) (maxL := 6) (ret := (some .boolean)) (lv := [(0, .ref x), (1, .int (nI j)), (2, .int (nI a)), (3, .int (nI k)), (4, .int (nI q))]) (by decide) rfl (Nat.le_of_ble_eq_true rfl) rfl ?_
  intro p e s m args below meth c ls A Q hQ hx hb hml hr hlocks hnm hown hts hK hA hE hW hl
  have hown : s.vm.findClass RX4 = some m.cls := hown
  obtain ⟨hg0, hg8, hg16, hg16b, hg24, hg32, hg40, hg48⟩ := hG.s
  have hSj := hS j hj
  have hK1 : OkG 99999 (up (up G (8 * a + 1) k) (8 * a + 3) q) := (hG.r1 (a := a) (v := k) (by omega)).r3 (by omega)
  refine lv_aload_n hx hb dX4_turnsAsTold_0 rfl (lv_at hl 0 rfl) ?_
  refine sg_get (ci := 3) (C := RX4) (T := TX4) (N := 7) (v := .ref (ta 0)) hx hb hts (fun _ h => List.mem_cons_of_mem _ (List.mem_append_left _ (List.mem_append_left _ (List.mem_append_right _ h)))) hown hK hW 0 0 rfl rfl rfl 1 (by decide) (hts _ (List.mem_of_getElem? (i := 1) rfl)) rfl dX4_turnsAsTold_1 ?_
  refine lv_aload_n hx hb dX4_turnsAsTold_4 rfl (lv_at hl 0 rfl) ?_
  refine sg_get (ci := 3) (C := RX4) (T := TX4) (N := 7) (v := .ref (la 0)) hx hb hts (fun _ h => List.mem_cons_of_mem _ (List.mem_append_left _ (List.mem_append_left _ (List.mem_append_right _ h)))) hown hK hW 0 0 rfl rfl rfl 0 (by decide) (hts _ (List.mem_of_getElem? (i := 2) rfl)) rfl dX4_turnsAsTold_5 ?_
  refine cl_Vv (As := [.ref (la 0)]) (rest := []) (C := RX0) ⟨hx, hb, hml, hown, hts⟩ (M_X0_become2 l D cI cJ ta la T G) (cwV 1 hts gX4_turnsAsTold_X0_become rfl rfl rfl qX0_become ⟨Nat.le_of_ble_eq_true rfl, Nat.le_of_ble_eq_true rfl⟩) E0_good hK hA hW trivial [false, true, true] (fun _ => [xH x la ta ka tp sh fi ik, gW cI la G, gW cI ta G, sW cI cJ sh B Z C]) rfl (fun _ => rfl) (fun _ => rfl) 2 0 rfl rfl rfl rfl hl.1 rfl (lv_room (Nat.le_of_ble_eq_true rfl)) dX4_turnsAsTold_8 ⟨Nat.zero_le _, Nat.zero_le _⟩ (fun _ H locs _ hW => ?_)
  refine lv_aload_n hx hb dX4_turnsAsTold_11 rfl (lv_at hl 0 rfl) ?_
  refine sg_get (ci := 3) (C := RX4) (T := TX4) (N := 7) (v := .ref (ta 0)) hx hb hts (fun _ h => List.mem_cons_of_mem _ (List.mem_append_left _ (List.mem_append_left _ (List.mem_append_right _ h)))) hown hK hW 0 0 rfl rfl rfl 1 (by decide) (hts _ (List.mem_of_getElem? (i := 1) rfl)) rfl dX4_turnsAsTold_12 ?_
  refine sg_get (ci := 0) (C := RX0) (T := TX0) (N := 14) (v := .ref (ta 1)) hx hb hts (fun _ h => List.mem_cons_of_mem _ (List.mem_append_left _ (List.mem_append_right _ h))) hown hK hW 2 0 rfl rfl rfl 6 (by decide) (hts _ (List.mem_of_getElem? (i := 3) rfl)) rfl dX4_turnsAsTold_15 ?_
  refine lv_iload_n hx hb dX4_turnsAsTold_18 rfl (lv_at hl 2 rfl) ?_
  refine lv_iload_n hx hb dX4_turnsAsTold_19 rfl (lv_at hl 3 rfl) ?_
  refine sg_ist hx hb hK hW 2 1 0 rfl rfl rfl (by omega) (by decide) (gW_r1 cI ta G a k) (ss' := [xH x la ta ka tp sh fi ik, gW cI la G, gW cI ta (up G (8 * a + 1) k), sW cI cJ sh B Z C]) rfl dX4_turnsAsTold_20 (fun H locs hW => ?_)
  refine lv_aload_n hx hb dX4_turnsAsTold_21 rfl (lv_at hl 0 rfl) ?_
  refine sg_get (ci := 3) (C := RX4) (T := TX4) (N := 7) (v := .ref (ta 0)) hx hb hts (fun _ h => List.mem_cons_of_mem _ (List.mem_append_left _ (List.mem_append_left _ (List.mem_append_right _ h)))) hown hK hW 0 0 rfl rfl rfl 1 (by decide) (hts _ (List.mem_of_getElem? (i := 1) rfl)) rfl dX4_turnsAsTold_22 ?_
  refine sg_get (ci := 0) (C := RX0) (T := TX0) (N := 14) (v := .ref (ta 3)) hx hb hts (fun _ h => List.mem_cons_of_mem _ (List.mem_append_left _ (List.mem_append_right _ h))) hown hK hW 2 0 rfl rfl rfl 8 (by decide) (hts _ (List.mem_of_getElem? (i := 4) rfl)) rfl dX4_turnsAsTold_25 ?_
  refine lv_iload_n hx hb dX4_turnsAsTold_28 rfl (lv_at hl 2 rfl) ?_
  refine lv_iload hx hb dX4_turnsAsTold_29 (lv_at hl 4 rfl) ?_
  refine sg_ist hx hb hK hW 2 3 0 rfl rfl rfl (by omega) (by decide) (gW_r3 cI ta (up G (8 * a + 1) k) a q) (ss' := [xH x la ta ka tp sh fi ik, gW cI la G, gW cI ta (up (up G (8 * a + 1) k) (8 * a + 3) q), sW cI cJ sh B Z C]) rfl dX4_turnsAsTold_31 (fun H locs hW => ?_)
  refine lv_iconst (v := nI 0) hx hb dX4_turnsAsTold_32 (by decide +kernel) ?_
  refine lv_istore (lv' := [(5, .int (nI 0)), (0, .ref x), (1, .int (nI j)), (2, .int (nI a)), (3, .int (nI k)), (4, .int (nI q))]) hx hb dX4_turnsAsTold_33 hl (by decide) rfl (fun ls hl => ?_)
  have lp35 : ∀ (n : Nat) (i : Nat), 40 - i < n → i ≤ Z j → bkB (up (up G (8 * a + 1) k) (8 * a + 3) q) C j i = 1 → ∀ (H : Heap) (locs : List Loc), Wo D vwCl A s.heap H locs [xH x la ta ka tp sh fi ik, gW cI la G, gW cI ta (stepN (up (up G (8 * a + 1) k) (8 * a + 3) q) (i - 1)), sW cI cJ sh B Z C] → ∀ ls : Array Slot, lv_has ls 6 [(5, .int (nI i)), (0, .ref x), (1, .int (nI j)), (2, .int (nI a)), (3, .int (nI k)), (4, .int (nI q))] → W p l e rmX4_turnsAsTold s m args below meth c H locs 0 0 Q (F0 m 35 ls []) := by
    intro n
    induction n with
    | zero => intro i hm; exact absurd hm (Nat.not_lt_zero _)
    | succ n ih =>
      intro i hm hi hbk H locs hW ls hl
      refine lv_iload hx hb dX4_turnsAsTold_35 (lv_at hl 0 rfl) ?_
      refine lv_aload_n hx hb dX4_turnsAsTold_37 rfl (lv_at hl 1 rfl) ?_
      refine sg_get (ci := 3) (C := RX4) (T := TX4) (N := 7) (v := .ref (sh 0)) hx hb hts (fun _ h => List.mem_cons_of_mem _ (List.mem_append_left _ (List.mem_append_left _ (List.mem_append_right _ h)))) hown hK hW 0 0 rfl rfl rfl 5 (by decide) (hts _ (List.mem_of_getElem? (i := 5) rfl)) rfl dX4_turnsAsTold_38 ?_
      refine sg_get (ci := 1) (C := RX2) (T := TX2) (N := 3) (v := .ref (sh 2)) hx hb hts (fun _ h => List.mem_cons_of_mem _ (List.mem_append_right _ h)) hown hK hW 3 0 rfl rfl rfl 1 (by decide) (hts _ (List.mem_of_getElem? (i := 6) rfl)) rfl dX4_turnsAsTold_41 ?_
      refine lv_iload_n hx hb dX4_turnsAsTold_44 rfl (lv_at hl 2 rfl) ?_
      refine sg_ild (v := nI (Z j)) hx hb hK hW 3 2 0 rfl rfl rfl (by omega) (by decide) rfl dX4_turnsAsTold_45 ?_
      refine nn_cge (tgt := 91) hx hb dX4_turnsAsTold_46 (by decide) (by omega) (by omega) (fun c46 => ?_) (fun c46 => ?_)
      · refine lv_iconst (v := nI 1) hx hb dX4_turnsAsTold_91 (by decide +kernel) ?_
        exact rt_z hQ hx hb hr hlocks hW dX4_turnsAsTold_92 (by decide +kernel) (stepN (up (up G (8 * a + 1) k) (8 * a + 3) q) (i - 1)) (by rw [← show i = Z j by omega, hbk]) trivial rfl
      · refine lv_iload hx hb dX4_turnsAsTold_49 (lv_at hl 0 rfl) ?_
        refine nn_zle (tgt := 61) hx hb dX4_turnsAsTold_51 (by decide) (by omega) (fun c51 => ?_) (fun c51 => ?_)
        · have hW := hW.to (ss' := [xH x la ta ka tp sh fi ik, gW cI la G, gW cI ta (stepN (up (up G (8 * a + 1) k) (8 * a + 3) q) i), sW cI cJ sh B Z C]) (by rw [show i = 0 by omega])
          have hTj := stepN_ok hK1 i
          have hTjs := hTj.s
          refine lv_aload_n hx hb dX4_turnsAsTold_61 rfl (lv_at hl 1 rfl) ?_
          refine sg_get (ci := 3) (C := RX4) (T := TX4) (N := 7) (v := .ref (sh 0)) hx hb hts (fun _ h => List.mem_cons_of_mem _ (List.mem_append_left _ (List.mem_append_left _ (List.mem_append_right _ h)))) hown hK hW 0 0 rfl rfl rfl 5 (by decide) (hts _ (List.mem_of_getElem? (i := 5) rfl)) rfl dX4_turnsAsTold_62 ?_
          refine lv_iload_n hx hb dX4_turnsAsTold_65 rfl (lv_at hl 2 rfl) ?_
          refine lv_iload hx hb dX4_turnsAsTold_66 (lv_at hl 0 rfl) ?_
          refine cl_Vl (As := [.int (nI j), .int (nI i)]) (rest := []) (C := RX2) ⟨hx, hb, hml, hown, hts⟩ (M_X2_numberAt l D cI cJ sh B Z C j i (by omega) (by omega)) (cwV 2 hts gX4_turnsAsTold_X2_numberAt rfl rfl rfl qX2_numberAt ⟨Nat.le_of_ble_eq_true rfl, Nat.le_of_ble_eq_true rfl⟩) E0_good hK hA hW trivial [false, false, false, true] (fun _ => [xH x la ta ka tp sh fi ik, gW cI la G, gW cI ta (stepN (up (up G (8 * a + 1) k) (8 * a + 3) q) i), sW cI cJ sh B Z C]) rfl (fun _ => rfl) (fun _ => rfl) 3 0 rfl rfl rfl rfl hl.1 rfl (lv_room (Nat.le_of_ble_eq_true rfl)) dX4_turnsAsTold_68 ⟨Nat.zero_le _, Nat.zero_le _⟩ (fun _ H locs _ hW => ?_)
          refine lv_aload_n hx hb dX4_turnsAsTold_71 rfl (lv_at hl 1 rfl) ?_
          refine sg_get (ci := 3) (C := RX4) (T := TX4) (N := 7) (v := .ref (ta 0)) hx hb hts (fun _ h => List.mem_cons_of_mem _ (List.mem_append_left _ (List.mem_append_left _ (List.mem_append_right _ h)))) hown hK hW 0 0 rfl rfl rfl 1 (by decide) (hts _ (List.mem_of_getElem? (i := 1) rfl)) rfl dX4_turnsAsTold_72 ?_
          refine sg_get (ci := 0) (C := RX0) (T := TX0) (N := 14) (v := .int (nI ((stepN (up (up G (8 * a + 1) k) (8 * a + 3) q) i) 24))) hx hb hts (fun _ h => List.mem_cons_of_mem _ (List.mem_append_left _ (List.mem_append_right _ h))) hown hK hW 2 0 rfl rfl rfl 3 (by decide) (hts _ (List.mem_of_getElem? (i := 7) rfl)) rfl dX4_turnsAsTold_75 ?_
          refine lv_i2l (v := (nI ((stepN (up (up G (8 * a + 1) k) (8 * a + 3) q) i) 24)).toInt64) hx hb dX4_turnsAsTold_78 rfl ?_
          refine W.lcmp hx hb dX4_turnsAsTold_79 ?_
          refine lc_zeq (tgt := 85) hx hb dX4_turnsAsTold_80 (by decide) (fun c80 => ?_) (fun c80 => ?_)
          · refine lv_iinc (v := nI (i + 1)) (lv' := [(5, .int (nI (i + 1))), (0, .ref x), (1, .int (nI j)), (2, .int (nI a)), (3, .int (nI k)), (4, .int (nI q))]) hx hb dX4_turnsAsTold_85 hl (k := 0) rfl (nI_add _ 1) (by decide) rfl (fun ls hl => ?_)
            refine lv_goto (tgt := 35) hx hb dX4_turnsAsTold_88 (by decide) ?_
            have hW := hW.to (ss' := [xH x la ta ka tp sh fi ik, gW cI la G, gW cI ta (stepN (up (up G (8 * a + 1) k) (8 * a + 3) q) ((i + 1) - 1)), sW cI cJ sh B Z C]) (by rw [Nat.add_sub_cancel])
            exact ih (i + 1) (by omega) (by omega) (bkB_1 hbk (by assumption)) _ _ hW _ (lv_sub hl [0, 1, 2, 3, 4, 5] rfl)
          · refine lv_iconst (v := nI 0) hx hb dX4_turnsAsTold_83 (by decide +kernel) ?_
            exact rt_z hQ hx hb hr hlocks hW dX4_turnsAsTold_84 (by decide +kernel) (stepN (up (up G (8 * a + 1) k) (8 * a + 3) q) i) (by rw [bkB_ne (i := i) (by omega) (by assumption)]) trivial rfl
        · refine lv_aload_n hx hb dX4_turnsAsTold_54 rfl (lv_at hl 1 rfl) ?_
          refine sg_get (ci := 3) (C := RX4) (T := TX4) (N := 7) (v := .ref (ta 0)) hx hb hts (fun _ h => List.mem_cons_of_mem _ (List.mem_append_left _ (List.mem_append_left _ (List.mem_append_right _ h)))) hown hK hW 0 0 rfl rfl rfl 1 (by decide) (hts _ (List.mem_of_getElem? (i := 1) rfl)) rfl dX4_turnsAsTold_55 ?_
          refine cl_Vv (As := []) (rest := []) (C := RX0) ⟨hx, hb, hml, hown, hts⟩ (M_X0_passMinute l D cI cJ ta (stepN (up (up G (8 * a + 1) k) (8 * a + 3) q) (i - 1)) (99999 + (i - 1)) (by omega) (stepN_ok hK1 (i - 1))) (cwV 0 hts gX4_turnsAsTold_X0_passMinute rfl rfl rfl qX0_passMinute ⟨Nat.le_of_ble_eq_true rfl, Nat.le_of_ble_eq_true rfl⟩) E0_good hK hA hW trivial [false, false, true] (fun _ => [xH x la ta ka tp sh fi ik, gW cI la G, gW cI ta (stepG (stepN (up (up G (8 * a + 1) k) (8 * a + 3) q) (i - 1))), sW cI cJ sh B Z C]) rfl (fun _ => rfl) (fun _ => rfl) 2 0 rfl rfl rfl rfl hl.1 rfl (lv_room (Nat.le_of_ble_eq_true rfl)) dX4_turnsAsTold_58 ⟨Nat.zero_le _, Nat.zero_le _⟩ (fun _ H locs _ hW => ?_)
          have hW := hW.to (ss' := [xH x la ta ka tp sh fi ik, gW cI la G, gW cI ta (stepN (up (up G (8 * a + 1) k) (8 * a + 3) q) i), sW cI cJ sh B Z C]) (by rw [stepN_pred (up (up G (8 * a + 1) k) (8 * a + 3) q) (by omega)])
          have hTj := stepN_ok hK1 i
          have hTjs := hTj.s
          refine lv_aload_n hx hb dX4_turnsAsTold_61 rfl (lv_at hl 1 rfl) ?_
          refine sg_get (ci := 3) (C := RX4) (T := TX4) (N := 7) (v := .ref (sh 0)) hx hb hts (fun _ h => List.mem_cons_of_mem _ (List.mem_append_left _ (List.mem_append_left _ (List.mem_append_right _ h)))) hown hK hW 0 0 rfl rfl rfl 5 (by decide) (hts _ (List.mem_of_getElem? (i := 5) rfl)) rfl dX4_turnsAsTold_62 ?_
          refine lv_iload_n hx hb dX4_turnsAsTold_65 rfl (lv_at hl 2 rfl) ?_
          refine lv_iload hx hb dX4_turnsAsTold_66 (lv_at hl 0 rfl) ?_
          refine cl_Vl (As := [.int (nI j), .int (nI i)]) (rest := []) (C := RX2) ⟨hx, hb, hml, hown, hts⟩ (M_X2_numberAt l D cI cJ sh B Z C j i (by omega) (by omega)) (cwV 2 hts gX4_turnsAsTold_X2_numberAt rfl rfl rfl qX2_numberAt ⟨Nat.le_of_ble_eq_true rfl, Nat.le_of_ble_eq_true rfl⟩) E0_good hK hA hW trivial [false, false, false, true] (fun _ => [xH x la ta ka tp sh fi ik, gW cI la G, gW cI ta (stepN (up (up G (8 * a + 1) k) (8 * a + 3) q) i), sW cI cJ sh B Z C]) rfl (fun _ => rfl) (fun _ => rfl) 3 0 rfl rfl rfl rfl hl.1 rfl (lv_room (Nat.le_of_ble_eq_true rfl)) dX4_turnsAsTold_68 ⟨Nat.zero_le _, Nat.zero_le _⟩ (fun _ H locs _ hW => ?_)
          refine lv_aload_n hx hb dX4_turnsAsTold_71 rfl (lv_at hl 1 rfl) ?_
          refine sg_get (ci := 3) (C := RX4) (T := TX4) (N := 7) (v := .ref (ta 0)) hx hb hts (fun _ h => List.mem_cons_of_mem _ (List.mem_append_left _ (List.mem_append_left _ (List.mem_append_right _ h)))) hown hK hW 0 0 rfl rfl rfl 1 (by decide) (hts _ (List.mem_of_getElem? (i := 1) rfl)) rfl dX4_turnsAsTold_72 ?_
          refine sg_get (ci := 0) (C := RX0) (T := TX0) (N := 14) (v := .int (nI ((stepN (up (up G (8 * a + 1) k) (8 * a + 3) q) i) 24))) hx hb hts (fun _ h => List.mem_cons_of_mem _ (List.mem_append_left _ (List.mem_append_right _ h))) hown hK hW 2 0 rfl rfl rfl 3 (by decide) (hts _ (List.mem_of_getElem? (i := 7) rfl)) rfl dX4_turnsAsTold_75 ?_
          refine lv_i2l (v := (nI ((stepN (up (up G (8 * a + 1) k) (8 * a + 3) q) i) 24)).toInt64) hx hb dX4_turnsAsTold_78 rfl ?_
          refine W.lcmp hx hb dX4_turnsAsTold_79 ?_
          refine lc_zeq (tgt := 85) hx hb dX4_turnsAsTold_80 (by decide) (fun c80_1 => ?_) (fun c80_1 => ?_)
          · refine lv_iinc (v := nI (i + 1)) (lv' := [(5, .int (nI (i + 1))), (0, .ref x), (1, .int (nI j)), (2, .int (nI a)), (3, .int (nI k)), (4, .int (nI q))]) hx hb dX4_turnsAsTold_85 hl (k := 0) rfl (nI_add _ 1) (by decide) rfl (fun ls hl => ?_)
            refine lv_goto (tgt := 35) hx hb dX4_turnsAsTold_88 (by decide) ?_
            have hW := hW.to (ss' := [xH x la ta ka tp sh fi ik, gW cI la G, gW cI ta (stepN (up (up G (8 * a + 1) k) (8 * a + 3) q) ((i + 1) - 1)), sW cI cJ sh B Z C]) (by rw [Nat.add_sub_cancel])
            exact ih (i + 1) (by omega) (by omega) (bkB_1 hbk (by assumption)) _ _ hW _ (lv_sub hl [0, 1, 2, 3, 4, 5] rfl)
          · refine lv_iconst (v := nI 0) hx hb dX4_turnsAsTold_83 (by decide +kernel) ?_
            exact rt_z hQ hx hb hr hlocks hW dX4_turnsAsTold_84 (by decide +kernel) (stepN (up (up G (8 * a + 1) k) (8 * a + 3) q) i) (by rw [bkB_ne (i := i) (by omega) (by assumption)]) trivial rfl
  have hW := hW.to (ss' := [xH x la ta ka tp sh fi ik, gW cI la G, gW cI ta (stepN (up (up G (8 * a + 1) k) (8 * a + 3) q) (0 - 1)), sW cI cJ sh B Z C]) rfl
  exact lp35 (40 - 0 + 1) 0 (Nat.lt_succ_self _) (by omega) rfl _ _ hW _ (lv_sub hl [0, 1, 2, 3, 4, 5] rfl)
abbrev rmX4_read : Room := { frames := 5, cells := 0, slots := 0, locals := 123 }
set_option maxRecDepth 100000 in
set_option maxHeartbeats 4000000 in
theorem M_X4_read (l : Launch) (D : va_G) (cI cJ : ClassId) (x fi ik : Nat) (la ta ka tp sh G T B Z F : Nat → Nat) (C : Nat → Int64) (hG : OkG 99999 G) (hS : OkS B Z) (v w : Int32) : CE E0 l D vwCl [(cI, .int), (cJ, .long)] yX4_read wsX4_read rmX4_read [.ref x, .int v, .int w] [xH x la ta ka tp sh fi ik, gW cI la G, gW cI ta T, sW cI cJ sh B Z C, aI cI fi 7 F] (S := (Nat → Nat)) (some (.int (readV G B Z C v.toInt w.toInt))) (fun _ => True) (fun Tx : Nat → Nat => [xH x la ta ka tp sh fi ik, gW cI la G, gW cI ta Tx, sW cI cJ sh B Z C, aI cI fi 7 (readF G B F v.toInt w.toInt)]) 0 0 := by
  refine CE.ofW (cc := cX4_read) (maxL := 6) (ret := (some .int)) (lv := [(0, .ref x), (1, .int v), (2, .int w)]) (by decide) rfl (Nat.le_of_ble_eq_true rfl) rfl ?_
  intro p e s m args below meth c ls A Q hQ hx hb hml hr hlocks hnm hown hts hK hA hE hW hl
  have hown : s.vm.findClass RX4 = some m.cls := hown
  obtain ⟨hg0, hg8, hg16, hg16b, hg24, hg32, hg40, hg48⟩ := hG.s
  refine lv_aload_n hx hb dX4_read_0 rfl (lv_at hl 0 rfl) ?_
  refine sg_get (ci := 3) (C := RX4) (T := TX4) (N := 7) (v := .ref (sh 0)) hx hb hts (fun _ h => List.mem_cons_of_mem _ (List.mem_append_left _ (List.mem_append_left _ (List.mem_append_right _ h)))) hown hK hW 0 0 rfl rfl rfl 5 (by decide) (hts _ (List.mem_of_getElem? (i := 1) rfl)) rfl dX4_read_1 ?_
  refine lv_iload_n hx hb dX4_read_4 rfl (lv_at hl 1 rfl) ?_
  refine cl_Vi (As := [.int v]) (rest := []) (C := RX2) ⟨hx, hb, hml, hown, hts⟩ (M_X2_isSheet l D cI cJ sh B Z C v) (cwV 1 hts gX4_read_X2_isSheet rfl rfl rfl qX2_isSheet ⟨Nat.le_of_ble_eq_true rfl, Nat.le_of_ble_eq_true rfl⟩) E0_good hK hA hW trivial [false, false, false, true] (fun _ => [xH x la ta ka tp sh fi ik, gW cI la G, gW cI ta T, sW cI cJ sh B Z C, aI cI fi 7 F]) rfl (fun _ => rfl) (fun _ => rfl) 3 0 rfl rfl rfl rfl hl.1 rfl (lv_room (Nat.le_of_ble_eq_true rfl)) dX4_read_5 ⟨Nat.zero_le _, Nat.zero_le _⟩ (fun _ H locs _ hW => ?_)
  have him_ := inN_or v 4
  refine nn_zne (tgt := 18) hx hb dX4_read_8 (by decide) (by omega) (fun c8 => ?_) (fun c8 => ?_)
  · obtain ⟨j, hj, ej⟩ : ∃ j : Nat, v = nI j ∧ v.toInt = (j : Int) := ⟨v.toInt.toNat, nI_ofZ rfl (by omega), by omega⟩
    rw [hj] at hl
    have hSj := hS j (by omega)
    refine lv_aload_n hx hb dX4_read_18 rfl (lv_at hl 0 rfl) ?_
    refine sg_get (ci := 3) (C := RX4) (T := TX4) (N := 7) (v := .ref (sh 0)) hx hb hts (fun _ h => List.mem_cons_of_mem _ (List.mem_append_left _ (List.mem_append_left _ (List.mem_append_right _ h)))) hown hK hW 0 0 rfl rfl rfl 5 (by decide) (hts _ (List.mem_of_getElem? (i := 1) rfl)) rfl dX4_read_19 ?_
    refine lv_iload_n hx hb dX4_read_22 rfl (lv_at hl 1 rfl) ?_
    refine cl_Vi (As := [.int (nI j)]) (rest := []) (C := RX2) ⟨hx, hb, hml, hown, hts⟩ (M_X2_isMissing l D cI cJ sh B Z C hS j (by omega)) (cwV 1 hts gX4_read_X2_isMissing rfl rfl rfl qX2_isMissing ⟨Nat.le_of_ble_eq_true rfl, Nat.le_of_ble_eq_true rfl⟩) E0_good hK hA hW trivial [false, false, false, true] (fun _ => [xH x la ta ka tp sh fi ik, gW cI la G, gW cI ta T, sW cI cJ sh B Z C, aI cI fi 7 F]) rfl (fun _ => rfl) (fun _ => rfl) 3 0 rfl rfl rfl rfl hl.1 rfl (lv_room (Nat.le_of_ble_eq_true rfl)) dX4_read_23 ⟨Nat.zero_le _, Nat.zero_le _⟩ (fun _ H locs _ hW => ?_)
    have hms_ : ((if B j = 0 then 1 else 0) = 1 ∧ B j = 0) ∨ ((if B j = 0 then 1 else 0) = 0 ∧ ¬ B j = 0) := ite01 _
    refine nn_zeq (tgt := 36) hx hb dX4_read_26 (by decide) (by omega) (fun c26 => ?_) (fun c26 => ?_)
    · refine lv_aload_n hx hb dX4_read_36 rfl (lv_at hl 0 rfl) ?_
      refine sg_get (ci := 3) (C := RX4) (T := TX4) (N := 7) (v := .ref (la 0)) hx hb hts (fun _ h => List.mem_cons_of_mem _ (List.mem_append_left _ (List.mem_append_left _ (List.mem_append_right _ h)))) hown hK hW 0 0 rfl rfl rfl 0 (by decide) (hts _ (List.mem_of_getElem? (i := 4) rfl)) rfl dX4_read_37 ?_
      refine lv_iload_n hx hb dX4_read_40 rfl (lv_at hl 2 rfl) ?_
      refine cl_Vi (As := [.int w]) (rest := []) (C := RX0) ⟨hx, hb, hml, hown, hts⟩ (M_X0_hasMother l D cI cJ la G 99999 (by decide) hG w) (cwV 1 hts gX4_read_X0_hasMother rfl rfl rfl qX0_hasMother ⟨Nat.le_of_ble_eq_true rfl, Nat.le_of_ble_eq_true rfl⟩) E0_good hK hA hW trivial [false, true] (fun _ => [xH x la ta ka tp sh fi ik, gW cI la G, gW cI ta T, sW cI cJ sh B Z C, aI cI fi 7 F]) rfl (fun _ => rfl) (fun _ => rfl) 1 0 rfl rfl rfl rfl hl.1 rfl (lv_room (Nat.le_of_ble_eq_true rfl)) dX4_read_41 ⟨Nat.zero_le _, Nat.zero_le _⟩ (fun _ H locs _ hW => ?_)
      have him_ := inN_or w (G 40)
      refine nn_zne (tgt := 54) hx hb dX4_read_44 (by decide) (by omega) (fun c44 => ?_) (fun c44 => ?_)
      · obtain ⟨a, ha, ea⟩ : ∃ a : Nat, w = nI a ∧ w.toInt = (a : Int) := ⟨w.toInt.toNat, nI_ofZ rfl (by omega), by omega⟩
        rw [ha] at hl
        have hmj := hG.m a (by omega)
        refine lv_sipush (v := nI 600) hx hb dX4_read_54 (by decide +kernel) ?_
        refine lv_istore_n (lv' := [(3, .int (nI 600)), (0, .ref x), (1, .int (nI j)), (2, .int (nI a))]) hx hb dX4_read_57 rfl hl (by decide) rfl (fun ls hl => ?_)
        refine lv_aload_n hx hb dX4_read_58 rfl (lv_at hl 1 rfl) ?_
        refine sg_get (ci := 3) (C := RX4) (T := TX4) (N := 7) (v := .ref (la 0)) hx hb hts (fun _ h => List.mem_cons_of_mem _ (List.mem_append_left _ (List.mem_append_left _ (List.mem_append_right _ h)))) hown hK hW 0 0 rfl rfl rfl 0 (by decide) (hts _ (List.mem_of_getElem? (i := 4) rfl)) rfl dX4_read_59 ?_
        refine sg_get (ci := 0) (C := RX0) (T := TX0) (N := 14) (v := .ref (la 2)) hx hb hts (fun _ h => List.mem_cons_of_mem _ (List.mem_append_left _ (List.mem_append_right _ h))) hown hK hW 1 0 rfl rfl rfl 7 (by decide) (hts _ (List.mem_of_getElem? (i := 5) rfl)) rfl dX4_read_62 ?_
        refine lv_iload_n hx hb dX4_read_65 rfl (lv_at hl 3 rfl) ?_
        refine sg_ild (v := nI (G (8 * a + 2))) hx hb hK hW 1 2 0 rfl rfl rfl (by omega) (by decide) rfl dX4_read_66 ?_
        refine nn_zne (tgt := 87) hx hb dX4_read_67 (by decide) (by omega) (fun c67 => ?_) (fun c67 => ?_)
        · refine lv_iconst (v := nI 0) hx hb dX4_read_87 (by decide +kernel) ?_
          refine lv_istore (lv' := [(4, .int (nI 0)), (3, .int (nI 600)), (0, .ref x), (1, .int (nI j)), (2, .int (nI a))]) hx hb dX4_read_88 hl (by decide) rfl (fun ls hl => ?_)
          refine lv_iconst (v := nI 0) hx hb dX4_read_90 (by decide +kernel) ?_
          refine lv_istore (lv' := [(5, .int (nI 0)), (4, .int (nI 0)), (3, .int (nI 600)), (0, .ref x), (1, .int (nI j)), (2, .int (nI a))]) hx hb dX4_read_91 hl (by decide) rfl (fun ls hl => ?_)
          have lp93 : ∀ (n : Nat) (i : Nat) (T : Nat → Nat), 600 - i < n → i ≤ 600 → ∀ (H : Heap) (locs : List Loc), Wo D vwCl A s.heap H locs [xH x la ta ka tp sh fi ik, gW cI la G, gW cI ta T, sW cI cJ sh B Z C, aI cI fi 7 F] → ∀ ls : Array Slot, lv_has ls 6 [(5, .int (nI i)), (4, .int (nI (readN G C a j (Z j) i))), (3, .int (nI 600)), (0, .ref x), (1, .int (nI j)), (2, .int (nI a))] → W p l e rmX4_read s m args below meth c H locs 0 0 Q (F0 m 93 ls []) := by
            intro n
            induction n with
            | zero => intro i T hm; exact absurd hm (Nat.not_lt_zero _)
            | succ n ih =>
              intro i T hm hi H locs hW ls hl
              have hrl := readN_le G C a j (Z j) i
              refine lv_iload hx hb dX4_read_93 (lv_at hl 0 rfl) ?_
              refine lv_iload_n hx hb dX4_read_95 rfl (lv_at hl 2 rfl) ?_
              refine nn_cge (tgt := 127) hx hb dX4_read_96 (by decide) (by omega) (by decide) (fun c96 => ?_) (fun c96 => ?_)
              · have h600 : i = 600 := by omega
                rw [h600] at hl
                refine lv_iload hx hb dX4_read_127 (lv_at hl 1 rfl) ?_
                exact rt_i hQ hx hb hr hlocks hW dX4_read_129 T (by (try simp only [readV, ej, ea, Int.toNat_natCast]); (repeat' split) <;> first | rfl | (exfalso; omega)) trivial (by (try simp only [readF, ej, ea, Int.toNat_natCast]); (repeat' split) <;> first | rfl | (exfalso; omega))
              · refine lv_aload_n hx hb dX4_read_99 rfl (lv_at hl 3 rfl) ?_
                refine lv_iload_n hx hb dX4_read_100 rfl (lv_at hl 4 rfl) ?_
                refine lv_iload_n hx hb dX4_read_101 rfl (lv_at hl 5 rfl) ?_
                refine lv_iload hx hb dX4_read_102 (lv_at hl 0 rfl) ?_
                refine lv_bipush (v := nI 100) hx hb dX4_read_104 (by decide +kernel) ?_
                refine nn_div hx hb dX4_read_106 (by omega) (by decide) (by decide) ?_
                refine lv_iload hx hb dX4_read_107 (lv_at hl 0 rfl) ?_
                refine lv_bipush (v := nI 100) hx hb dX4_read_109 (by decide +kernel) ?_
                refine nn_rem hx hb dX4_read_111 (by omega) (by decide) (by decide) ?_
                refine cl_Vi (As := [.int (nI j), .int (nI a), .int (nI (i / 100)), .int (nI (i % 100))]) (rest := []) (C := RX4) ⟨hx, hb, hml, hown, hts⟩ (M_X4_turnsAsTold l D cI cJ x fi ik la ta ka tp sh G T B Z C hG hS j a (i / 100) (i % 100) (by omega) (by omega) (by omega) (by omega)) (cwV 4 hts gX4_read_X4_turnsAsTold rfl rfl rfl qX4_turnsAsTold ⟨Nat.le_of_ble_eq_true rfl, Nat.le_of_ble_eq_true rfl⟩) E0_good hK hA hW trivial [true, true, true, true] (fun _ => [xH x la ta ka tp sh fi ik, gW cI la G, gW cI ta _, sW cI cJ sh B Z C, aI cI fi 7 F]) rfl (fun _ => rfl) (fun _ => rfl) 0 0 rfl rfl rfl rfl hl.1 rfl (lv_room (Nat.le_of_ble_eq_true rfl)) dX4_read_112 ⟨Nat.zero_le _, Nat.zero_le _⟩ (fun _ H locs _ hW => ?_)
                have hbl_ := bkB_le (up (up G (8 * a + 1) (i / 100)) (8 * a + 3) (i % 100)) C j (Z j)
                refine nn_zeq (tgt := 121) hx hb dX4_read_115 (by decide) (by omega) (fun c115 => ?_) (fun c115 => ?_)
                · refine lv_iinc (v := nI (i + 1)) (lv' := [(5, .int (nI (i + 1))), (4, .int (nI (readN G C a j (Z j) i))), (3, .int (nI 600)), (0, .ref x), (1, .int (nI j)), (2, .int (nI a))]) hx hb dX4_read_121 hl (k := 0) rfl (nI_add _ 1) (by decide) rfl (fun ls hl => ?_)
                  refine lv_goto (tgt := 93) hx hb dX4_read_124 (by decide) ?_
                  have e1 : nI (readN G C a j (Z j) i) = nI (readN G C a j (Z j) (i + 1)) := (congrArg nI (by show _ = readN G C a j (Z j) i + bkB _ C j (Z j); omega))
                  rw [e1] at hl
                  exact ih (i + 1) _ (by omega) (by omega) _ _ hW _ (lv_sub hl [0, 1, 2, 3, 4, 5] rfl)
                · refine lv_iinc (v := nI (readN G C a j (Z j) i + 1)) (lv' := [(4, .int (nI (readN G C a j (Z j) i + 1))), (5, .int (nI i)), (3, .int (nI 600)), (0, .ref x), (1, .int (nI j)), (2, .int (nI a))]) hx hb dX4_read_118 hl (k := 1) rfl (nI_add _ 1) (by decide) rfl (fun ls hl => ?_)
                  refine lv_iinc (v := nI (i + 1)) (lv' := [(5, .int (nI (i + 1))), (4, .int (nI (readN G C a j (Z j) i + 1))), (3, .int (nI 600)), (0, .ref x), (1, .int (nI j)), (2, .int (nI a))]) hx hb dX4_read_121 hl (k := 1) rfl (nI_add _ 1) (by decide) rfl (fun ls hl => ?_)
                  refine lv_goto (tgt := 93) hx hb dX4_read_124 (by decide) ?_
                  have e2 : nI (readN G C a j (Z j) i + 1) = nI (readN G C a j (Z j) (i + 1)) := (congrArg nI (by show _ = readN G C a j (Z j) i + bkB _ C j (Z j); omega))
                  rw [e2] at hl
                  exact ih (i + 1) _ (by omega) (by omega) _ _ hW _ (lv_sub hl [0, 1, 2, 3, 4, 5] rfl)
          exact lp93 (600 - 0 + 1) 0 T (Nat.lt_succ_self _) (by omega) _ _ hW _ (lv_sub hl [0, 1, 2, 3, 4, 5] rfl)
        · refine lv_aload_n hx hb dX4_read_70 rfl (lv_at hl 1 rfl) ?_
          refine lv_iload_n hx hb dX4_read_71 rfl (lv_at hl 2 rfl) ?_
          refine lv_iload_n hx hb dX4_read_72 rfl (lv_at hl 3 rfl) ?_
          refine lv_iconst (v := nI 0) hx hb dX4_read_73 (by decide +kernel) ?_
          refine lv_iconst (v := nI 0) hx hb dX4_read_74 (by decide +kernel) ?_
          refine cl_Vi (As := [.int (nI j), .int (nI a), .int (nI 0), .int (nI 0)]) (rest := []) (C := RX4) ⟨hx, hb, hml, hown, hts⟩ (M_X4_turnsAsTold l D cI cJ x fi ik la ta ka tp sh G T B Z C hG hS j a 0 0 (by omega) (by omega) (by omega) (by omega)) (cwV 4 hts gX4_read_X4_turnsAsTold rfl rfl rfl qX4_turnsAsTold ⟨Nat.le_of_ble_eq_true rfl, Nat.le_of_ble_eq_true rfl⟩) E0_good hK hA hW trivial [true, true, true, true] (fun _ => [xH x la ta ka tp sh fi ik, gW cI la G, gW cI ta _, sW cI cJ sh B Z C, aI cI fi 7 F]) rfl (fun _ => rfl) (fun _ => rfl) 0 0 rfl rfl rfl rfl hl.1 rfl (lv_room (Nat.le_of_ble_eq_true rfl)) dX4_read_75 ⟨Nat.zero_le _, Nat.zero_le _⟩ (fun _ H locs _ hW => ?_)
          have hbl_ := bkB_le (up (up G (8 * a + 1) 0) (8 * a + 3) 0) C j (Z j)
          refine nn_zeq (tgt := 85) hx hb dX4_read_78 (by decide) (by omega) (fun c78 => ?_) (fun c78 => ?_)
          · have hfl : readN G C a j (Z j) 600 = 0 := readN_000 (by omega) (by omega)
            refine lv_iconst (v := nI 0) hx hb dX4_read_85 (by decide +kernel) ?_
            exact rt_i hQ hx hb hr hlocks hW dX4_read_86 _ (by (try simp only [readV, ej, ea, hfl, Int.toNat_natCast]); (repeat' split) <;> first | rfl | (exfalso; omega)) trivial (by (try simp only [readF, ej, ea, hfl, Int.toNat_natCast]); (repeat' split) <;> first | rfl | (exfalso; omega))
          · have hfl : readN G C a j (Z j) 600 = 600 := readN_600 (by omega) (by omega)
            refine lv_iload_n hx hb dX4_read_81 rfl (lv_at hl 0 rfl) ?_
            refine lv_goto (tgt := 86) hx hb dX4_read_82 (by decide) ?_
            exact rt_i hQ hx hb hr hlocks hW dX4_read_86 _ (by (try simp only [readV, ej, ea, hfl, Int.toNat_natCast]); (repeat' split) <;> first | rfl | (exfalso; omega)) trivial (by (try simp only [readF, ej, ea, hfl, Int.toNat_natCast]); (repeat' split) <;> first | rfl | (exfalso; omega))
      · refine lv_aload_n hx hb dX4_read_47 rfl (lv_at hl 0 rfl) ?_
        refine lv_ldc (v := -1000000001) hx hb hown (hts _ (List.mem_of_getElem? (i := 2) rfl)) dX4_read_48 ?_
        refine cl_Vi (As := [.int (-1000000001)]) (rest := []) (C := RX4) ⟨hx, hb, hml, hown, hts⟩ (M_X4_tell l D cI cJ x fi ik la ta ka tp sh F 0 (by decide) (-1000000001) (by decide +kernel)) (cwV 1 hts gX4_read_X4_tell rfl rfl rfl qX4_tell ⟨Nat.le_of_ble_eq_true rfl, Nat.le_of_ble_eq_true rfl⟩) E0_good hK hA hW trivial [true, false, false, false, true] (fun _ => [xH x la ta ka tp sh fi ik, gW cI la G, gW cI ta T, sW cI cJ sh B Z C, aI cI fi 7 (up F 0 (F 0 + 1))]) rfl (fun _ => rfl) (fun _ => rfl) 0 0 rfl rfl rfl rfl hl.1 rfl (lv_room (Nat.le_of_ble_eq_true rfl)) dX4_read_50 ⟨Nat.zero_le _, Nat.zero_le _⟩ (fun _ H locs _ hW => ?_)
        exact rt_i hQ hx hb hr hlocks hW dX4_read_53 T (by (try simp only [readV, ej, Int.toNat_natCast]); (repeat' split) <;> first | rfl | (exfalso; omega)) trivial (by (try simp only [readF, ej, Int.toNat_natCast]); (repeat' split) <;> first | rfl | (exfalso; omega))
    · refine lv_aload_n hx hb dX4_read_29 rfl (lv_at hl 0 rfl) ?_
      refine lv_ldc (v := -1000000006) hx hb hown (hts _ (List.mem_of_getElem? (i := 3) rfl)) dX4_read_30 ?_
      refine cl_Vi (As := [.int (-1000000006)]) (rest := []) (C := RX4) ⟨hx, hb, hml, hown, hts⟩ (M_X4_tell l D cI cJ x fi ik la ta ka tp sh F 5 (by decide) (-1000000006) (by decide +kernel)) (cwV 1 hts gX4_read_X4_tell rfl rfl rfl qX4_tell ⟨Nat.le_of_ble_eq_true rfl, Nat.le_of_ble_eq_true rfl⟩) E0_good hK hA hW trivial [true, false, false, false, true] (fun _ => [xH x la ta ka tp sh fi ik, gW cI la G, gW cI ta T, sW cI cJ sh B Z C, aI cI fi 7 (up F 5 (F 5 + 1))]) rfl (fun _ => rfl) (fun _ => rfl) 0 0 rfl rfl rfl rfl hl.1 rfl (lv_room (Nat.le_of_ble_eq_true rfl)) dX4_read_32 ⟨Nat.zero_le _, Nat.zero_le _⟩ (fun _ H locs _ hW => ?_)
      exact rt_i hQ hx hb hr hlocks hW dX4_read_35 T (by (try simp only [readV, ej, Int.toNat_natCast]); (repeat' split) <;> first | rfl | (exfalso; omega)) trivial (by (try simp only [readF, ej, Int.toNat_natCast]); (repeat' split) <;> first | rfl | (exfalso; omega))
  · refine lv_aload_n hx hb dX4_read_11 rfl (lv_at hl 0 rfl) ?_
    refine lv_ldc (v := -1000000001) hx hb hown (hts _ (List.mem_of_getElem? (i := 2) rfl)) dX4_read_12 ?_
    refine cl_Vi (As := [.int (-1000000001)]) (rest := []) (C := RX4) ⟨hx, hb, hml, hown, hts⟩ (M_X4_tell l D cI cJ x fi ik la ta ka tp sh F 0 (by decide) (-1000000001) (by decide +kernel)) (cwV 1 hts gX4_read_X4_tell rfl rfl rfl qX4_tell ⟨Nat.le_of_ble_eq_true rfl, Nat.le_of_ble_eq_true rfl⟩) E0_good hK hA hW trivial [true, false, false, false, true] (fun _ => [xH x la ta ka tp sh fi ik, gW cI la G, gW cI ta T, sW cI cJ sh B Z C, aI cI fi 7 (up F 0 (F 0 + 1))]) rfl (fun _ => rfl) (fun _ => rfl) 0 0 rfl rfl rfl rfl hl.1 rfl (lv_room (Nat.le_of_ble_eq_true rfl)) dX4_read_14 ⟨Nat.zero_le _, Nat.zero_le _⟩ (fun _ H locs _ hW => ?_)
    exact rt_i hQ hx hb hr hlocks hW dX4_read_17 T (by (try simp only [readV]); (repeat' split) <;> first | rfl | (exfalso; omega)) trivial (by (try simp only [readF]); (repeat' split) <;> first | rfl | (exfalso; omega))
abbrev rmX5_isBook : Room := { frames := 6, cells := 0, slots := 0, locals := 137 }
set_option maxRecDepth 100000 in
set_option maxHeartbeats 4000000 in
theorem M_X5_isBook (l : Launch) (D : va_G) (cI cJ : ClassId) (mo R G Wa Z : Nat → Nat) (C : Nat → Int64) (hG : OkG 99999 G) (hZ : ∀ j, j < 4 → Z j ≤ 40) (j : Nat) (hj : j < 4) : CE E0 l D vwCl [(cI, .int), (cJ, .long)] yX5_isBook wsX5_isBook rmX5_isBook [.ref (mo 0), .int (nI j)] [mH mo R, mR cI (mo 1) G, mR cI (mo 3) Wa, aI cI (mo 7) 4 Z, aJ cJ (mo 8) 160 C] (S := Unit) (some (.int (nI (bkB G C j (Z j))))) (fun _ => True) (fun _ : Unit => [mH mo R, mR cI (mo 1) Wa, mR cI (mo 3) Wa, aI cI (mo 7) 4 Z, aJ cJ (mo 8) 160 C]) 0 0 := by
  refine CE.ofW (cc := cX5_isBook) (maxL := 4) (ret := (some .boolean)) (lv := [(0, .ref (mo 0)), (1, .int (nI j))]) (by decide) rfl (Nat.le_of_ble_eq_true rfl) rfl ?_
  intro p e s m args below meth c ls A Q hQ hx hb hml hr hlocks hnm hown hts hK hA hE hW hl
  have hown : s.vm.findClass RX5 = some m.cls := hown
  obtain ⟨hg0, hg8, hg16, hg16b, hg24, hg32, hg40, hg48⟩ := hG.s
  have hZj := hZ j hj
  refine lv_iconst (v := nI 1) hx hb dX5_isBook_0 (by decide +kernel) ?_
  refine lv_istore_n (lv' := [(2, .int (nI 1)), (0, .ref (mo 0)), (1, .int (nI j))]) hx hb dX5_isBook_1 rfl hl (by decide) rfl (fun ls hl => ?_)
  refine lv_iconst (v := nI 0) hx hb dX5_isBook_2 (by decide +kernel) ?_
  refine lv_istore_n (lv' := [(3, .int (nI 0)), (2, .int (nI 1)), (0, .ref (mo 0)), (1, .int (nI j))]) hx hb dX5_isBook_3 rfl hl (by decide) rfl (fun ls hl => ?_)
  have lp4 : ∀ (n : Nat) (i : Nat), 40 - i < n → i ≤ Z j → ∀ (H : Heap) (locs : List Loc), Wo D vwCl A s.heap H locs [mH mo R, mR cI (mo 1) (stepN G i), mR cI (mo 3) Wa, aI cI (mo 7) 4 Z, aJ cJ (mo 8) 160 C] → ∀ ls : Array Slot, lv_has ls 4 [(3, .int (nI i)), (2, .int (nI (bkB G C j i))), (0, .ref (mo 0)), (1, .int (nI j))] → W p l e rmX5_isBook s m args below meth c H locs 0 0 Q (F0 m 4 ls []) := by
    intro n
    induction n with
    | zero => intro i hm; exact absurd hm (Nat.not_lt_zero _)
    | succ n ih =>
      intro i hm hi H locs hW ls hl
      have hTi := stepN_ok hG i
      have hTs := hTi.s
      have hbl := bkB_le G C j i
      refine lv_iload_n hx hb dX5_isBook_4 rfl (lv_at hl 0 rfl) ?_
      refine lv_aload_n hx hb dX5_isBook_5 rfl (lv_at hl 2 rfl) ?_
      refine sg_get (ci := 4) (C := RX5) (T := TX5) (N := 15) (v := .ref (mo 7)) hx hb hts (fun _ h => List.mem_cons_of_mem _ (List.mem_append_right _ h)) hown hK hW 0 0 rfl rfl rfl 13 (by decide) (hts _ (List.mem_of_getElem? (i := 1) rfl)) rfl dX5_isBook_6 ?_
      refine lv_iload_n hx hb dX5_isBook_9 rfl (lv_at hl 3 rfl) ?_
      refine sg_ild (v := nI (Z j)) hx hb hK hW 3 0 0 rfl rfl rfl (by omega) (by decide) rfl dX5_isBook_10 ?_
      refine nn_cge (tgt := 56) hx hb dX5_isBook_11 (by decide) (by omega) (by omega) (fun c11 => ?_) (fun c11 => ?_)
      · have hiZ : i = Z j := by omega
        rw [hiZ] at hl
        refine lv_aload_n hx hb dX5_isBook_56 rfl (lv_at hl 2 rfl) ?_
        refine cl_Vv (As := []) (rest := []) (C := RX5) ⟨hx, hb, hml, hown, hts⟩ (M_X5_putsBack l D cI cJ mo R (stepN G i) Wa ) (cwV 0 hts gX5_isBook_X5_putsBack rfl rfl rfl qX5_putsBack ⟨Nat.le_of_ble_eq_true rfl, Nat.le_of_ble_eq_true rfl⟩) E0_good hK hA hW trivial [true, true, true] (fun _ => [mH mo R, mR cI (mo 1) Wa, mR cI (mo 3) Wa, aI cI (mo 7) 4 Z, aJ cJ (mo 8) 160 C]) rfl (fun _ => rfl) (fun _ => rfl) 0 0 rfl rfl rfl rfl hl.1 rfl (lv_room (Nat.le_of_ble_eq_true rfl)) dX5_isBook_57 ⟨Nat.zero_le _, Nat.zero_le _⟩ (fun _ H locs _ hW => ?_)
        refine lv_iload_n hx hb dX5_isBook_60 rfl (lv_at hl 1 rfl) ?_
        exact rt_z hQ hx hb hr hlocks hW dX5_isBook_61 (bit_narrow (bkB_le _ _ _ _)) () rfl trivial rfl
      · refine lv_iload_n hx hb dX5_isBook_14 rfl (lv_at hl 1 rfl) ?_
        refine nn_zeq (tgt := 56) hx hb dX5_isBook_15 (by decide) (by omega) (fun c15 => ?_) (fun c15 => ?_)
        · refine lv_aload_n hx hb dX5_isBook_56 rfl (lv_at hl 2 rfl) ?_
          refine cl_Vv (As := []) (rest := []) (C := RX5) ⟨hx, hb, hml, hown, hts⟩ (M_X5_putsBack l D cI cJ mo R (stepN G i) Wa ) (cwV 0 hts gX5_isBook_X5_putsBack rfl rfl rfl qX5_putsBack ⟨Nat.le_of_ble_eq_true rfl, Nat.le_of_ble_eq_true rfl⟩) E0_good hK hA hW trivial [true, true, true] (fun _ => [mH mo R, mR cI (mo 1) Wa, mR cI (mo 3) Wa, aI cI (mo 7) 4 Z, aJ cJ (mo 8) 160 C]) rfl (fun _ => rfl) (fun _ => rfl) 0 0 rfl rfl rfl rfl hl.1 rfl (lv_room (Nat.le_of_ble_eq_true rfl)) dX5_isBook_57 ⟨Nat.zero_le _, Nat.zero_le _⟩ (fun _ H locs _ hW => ?_)
          refine lv_iload_n hx hb dX5_isBook_60 rfl (lv_at hl 1 rfl) ?_
          exact rt_z hQ hx hb hr hlocks hW dX5_isBook_61 (bit_narrow (bkB_le _ _ _ _)) () (by have hz0 := bkB_off c15 (Z j - i); rw [show i + (Z j - i) = Z j by omega] at hz0; rw [c15, hz0]) trivial rfl
        · refine lv_aload_n hx hb dX5_isBook_18 rfl (lv_at hl 2 rfl) ?_
          refine sg_get (ci := 4) (C := RX5) (T := TX5) (N := 15) (v := .ref (mo 8)) hx hb hts (fun _ h => List.mem_cons_of_mem _ (List.mem_append_right _ h)) hown hK hW 0 0 rfl rfl rfl 14 (by decide) (hts _ (List.mem_of_getElem? (i := 2) rfl)) rfl dX5_isBook_19 ?_
          refine lv_bipush (v := nI 40) hx hb dX5_isBook_22 (by decide +kernel) ?_
          refine lv_iload_n hx hb dX5_isBook_24 rfl (lv_at hl 3 rfl) ?_
          refine nn_mul hx hb dX5_isBook_25 ?_
          refine lv_iload_n hx hb dX5_isBook_26 rfl (lv_at hl 0 rfl) ?_
          refine nn_add hx hb dX5_isBook_27 ?_
          refine sg_lld (v := C ((40 * j) + i)) hx hb hK hW 4 0 1 rfl rfl rfl (by omega) (by decide) rfl dX5_isBook_28 ?_
          refine W.top (v' := .long (C (j * 40 + i))) (by rw [Nat.mul_comm 40 j]) ?_
          refine lv_aload_n hx hb dX5_isBook_29 rfl (lv_at hl 2 rfl) ?_
          refine sg_get (ci := 4) (C := RX5) (T := TX5) (N := 15) (v := .ref (mo 1)) hx hb hts (fun _ h => List.mem_cons_of_mem _ (List.mem_append_right _ h)) hown hK hW 0 0 rfl rfl rfl 0 (by decide) (hts _ (List.mem_of_getElem? (i := 3) rfl)) rfl dX5_isBook_30 ?_
          refine lv_iconst (v := nI 3) hx hb dX5_isBook_33 (by decide +kernel) ?_
          refine sg_ild (v := nI ((stepN G i) 24)) hx hb hK hW 1 0 0 rfl rfl rfl (by decide) (by decide) rfl dX5_isBook_34 ?_
          refine lv_i2l (v := (nI ((stepN G i) 24)).toInt64) hx hb dX5_isBook_35 rfl ?_
          refine W.lcmp hx hb dX5_isBook_36 ?_
          refine lc_zne (tgt := 44) hx hb dX5_isBook_37 (by decide) (fun c37 => ?_) (fun c37 => ?_)
          · refine lv_iconst (v := nI 0) hx hb dX5_isBook_44 (by decide +kernel) ?_
            refine lv_istore_n (lv' := [(2, .int (nI 0)), (3, .int (nI i)), (0, .ref (mo 0)), (1, .int (nI j))]) hx hb dX5_isBook_45 rfl hl (by decide) rfl (fun ls hl => ?_)
            refine lv_aload_n hx hb dX5_isBook_46 rfl (lv_at hl 2 rfl) ?_
            refine cl_Vv (As := []) (rest := []) (C := RX5) ⟨hx, hb, hml, hown, hts⟩ (M_X5_goes l D cI cJ mo R (stepN G i) (99999 + i) (by omega) hTi ) (cwV 0 hts gX5_isBook_X5_goes rfl rfl rfl qX5_goes ⟨Nat.le_of_ble_eq_true rfl, Nat.le_of_ble_eq_true rfl⟩) E0_good hK hA hW trivial [true, true] (fun _ => [mH mo R, mR cI (mo 1) (stepG (stepN G i)), mR cI (mo 3) Wa, aI cI (mo 7) 4 Z, aJ cJ (mo 8) 160 C]) rfl (fun _ => rfl) (fun _ => rfl) 0 0 rfl rfl rfl rfl hl.1 rfl (lv_room (Nat.le_of_ble_eq_true rfl)) dX5_isBook_47 ⟨Nat.zero_le _, Nat.zero_le _⟩ (fun _ H locs _ hW => ?_)
            refine lv_iinc (v := nI (i + 1)) (lv' := [(3, .int (nI (i + 1))), (2, .int (nI 0)), (0, .ref (mo 0)), (1, .int (nI j))]) hx hb dX5_isBook_50 hl (k := 1) rfl (nI_add _ 1) (by decide) rfl (fun ls hl => ?_)
            refine lv_goto (tgt := 4) hx hb dX5_isBook_53 (by decide) ?_
            have e1 : nI 0 = nI (bkB G C j (i + 1)) := (congrArg nI (by first | exact (bkB_0 (by omega)).symm | exact (bkB_no (by assumption)).symm))
            rw [e1] at hl
            exact ih (i + 1) (by omega) (by omega) _ _ hW _ (lv_sub hl [0, 1, 2, 3] rfl)
          · refine lv_iconst (v := nI 1) hx hb dX5_isBook_40 (by decide +kernel) ?_
            refine lv_goto (tgt := 45) hx hb dX5_isBook_41 (by decide) ?_
            refine lv_istore_n (lv' := [(2, .int (nI 1)), (3, .int (nI i)), (0, .ref (mo 0)), (1, .int (nI j))]) hx hb dX5_isBook_45 rfl hl (by decide) rfl (fun ls hl => ?_)
            refine lv_aload_n hx hb dX5_isBook_46 rfl (lv_at hl 2 rfl) ?_
            refine cl_Vv (As := []) (rest := []) (C := RX5) ⟨hx, hb, hml, hown, hts⟩ (M_X5_goes l D cI cJ mo R (stepN G i) (99999 + i) (by omega) hTi ) (cwV 0 hts gX5_isBook_X5_goes rfl rfl rfl qX5_goes ⟨Nat.le_of_ble_eq_true rfl, Nat.le_of_ble_eq_true rfl⟩) E0_good hK hA hW trivial [true, true] (fun _ => [mH mo R, mR cI (mo 1) (stepG (stepN G i)), mR cI (mo 3) Wa, aI cI (mo 7) 4 Z, aJ cJ (mo 8) 160 C]) rfl (fun _ => rfl) (fun _ => rfl) 0 0 rfl rfl rfl rfl hl.1 rfl (lv_room (Nat.le_of_ble_eq_true rfl)) dX5_isBook_47 ⟨Nat.zero_le _, Nat.zero_le _⟩ (fun _ H locs _ hW => ?_)
            refine lv_iinc (v := nI (i + 1)) (lv' := [(3, .int (nI (i + 1))), (2, .int (nI 1)), (0, .ref (mo 0)), (1, .int (nI j))]) hx hb dX5_isBook_50 hl (k := 1) rfl (nI_add _ 1) (by decide) rfl (fun ls hl => ?_)
            refine lv_goto (tgt := 4) hx hb dX5_isBook_53 (by decide) ?_
            have e2 : nI 1 = nI (bkB G C j (i + 1)) := (congrArg nI (bkB_1 (by omega) (by assumption)).symm)
            rw [e2] at hl
            exact ih (i + 1) (by omega) (by omega) _ _ hW _ (lv_sub hl [0, 1, 2, 3] rfl)
  have hW := hW.to (ss' := [mH mo R, mR cI (mo 1) (stepN G 0), mR cI (mo 3) Wa, aI cI (mo 7) 4 Z, aJ cJ (mo 8) 160 C]) rfl
  exact lp4 (40 - 0 + 1) 0 (Nat.lt_succ_self _) (by omega) _ _ hW _ (lv_sub hl [0, 1, 2, 3] rfl)
abbrev rmX5_read : Room := { frames := 7, cells := 0, slots := 0, locals := 160 }
set_option maxRecDepth 100000 in
set_option maxHeartbeats 4000000 in
theorem M_X5_read (l : Launch) (D : va_G) (cI cJ : ClassId) (mo R G Wa F B Z : Nat → Nat) (C : Nat → Int64) (hG : OkG 99999 G) (hS : OkS B Z) (v w : Int32) : CE E0 l D vwCl [(cI, .int), (cJ, .long)] yX5_read wsX5_read rmX5_read [.ref (mo 0), .int v, .int w] [mH mo R, mR cI (mo 1) G, mR cI (mo 3) Wa, aI cI (mo 4) 7 F, aI cI (mo 6) 4 B, aI cI (mo 7) 4 Z, aJ cJ (mo 8) 160 C] (S := (Nat → Nat)) (some (.int (readV G B Z C v.toInt w.toInt))) (fun _ => True) (fun Wx : Nat → Nat => [mH mo R, mR cI (mo 1) G, mR cI (mo 3) Wx, aI cI (mo 4) 7 (readF G B F v.toInt w.toInt), aI cI (mo 6) 4 B, aI cI (mo 7) 4 Z, aJ cJ (mo 8) 160 C]) 0 0 := by
  refine CE.ofW (cc := cX5_read) (maxL := 6) (ret := (some .int)) (lv := [(0, .ref (mo 0)), (1, .int v), (2, .int w)]) (by decide) rfl (Nat.le_of_ble_eq_true rfl) rfl ?_
  intro p e s m args below meth c ls A Q hQ hx hb hml hr hlocks hnm hown hts hK hA hE hW hl
  have hown : s.vm.findClass RX5 = some m.cls := hown
  obtain ⟨hg0, hg8, hg16, hg16b, hg24, hg32, hg40, hg48⟩ := hG.s
  refine lv_aload_n hx hb dX5_read_0 rfl (lv_at hl 0 rfl) ?_
  refine lv_iload_n hx hb dX5_read_1 rfl (lv_at hl 1 rfl) ?_
  refine cl_Vi (As := [.int v]) (rest := []) (C := RX5) ⟨hx, hb, hml, hown, hts⟩ (M_X5_notThere l D cI cJ mo R B (fun j hj => (hS j hj).1) v) (cwV 1 hts gX5_read_X5_notThere rfl rfl rfl qX5_notThere ⟨Nat.le_of_ble_eq_true rfl, Nat.le_of_ble_eq_true rfl⟩) E0_good hK hA hW trivial [true, false, false, false, true] (fun _ => [mH mo R, mR cI (mo 1) G, mR cI (mo 3) Wa, aI cI (mo 4) 7 F, aI cI (mo 6) 4 B, aI cI (mo 7) 4 Z, aJ cJ (mo 8) 160 C]) rfl (fun _ => rfl) (fun _ => rfl) 0 0 rfl rfl rfl rfl hl.1 rfl (lv_room (Nat.le_of_ble_eq_true rfl)) dX5_read_2 ⟨Nat.zero_le _, Nat.zero_le _⟩ (fun _ H locs _ hW => ?_)
  refine lv_istore_n (lv' := [(3, .int (notV B v.toInt)), (0, .ref (mo 0)), (1, .int v), (2, .int w)]) hx hb dX5_read_5 rfl hl (by decide) rfl (fun ls hl => ?_)
  rcases notV_or B v.toInt with ⟨hnv, hnv1, hnv2⟩ | ⟨hnv, hnv1, hnv2⟩ | ⟨hnv, hnv1⟩
  · rw [hnv] at hl
    refine lv_iload_n hx hb dX5_read_6 rfl (lv_at hl 0 rfl) ?_
    refine nn_zne (tgt := 23) hx hb dX5_read_7 (by decide) (by decide) (fun c7 => ?_) (fun c7 => ?_)
    · exfalso; omega
    · refine lv_aload_n hx hb dX5_read_10 rfl (lv_at hl 1 rfl) ?_
      refine lv_iload_n hx hb dX5_read_11 rfl (lv_at hl 3 rfl) ?_
      refine cl_Vi (As := [.int w]) (rest := []) (C := RX5) ⟨hx, hb, hml, hown, hts⟩ (M_X5_isMother l D cI cJ mo R G 99999 (by decide) hG w) (cwV 1 hts gX5_read_X5_isMother rfl rfl rfl qX5_isMother ⟨Nat.le_of_ble_eq_true rfl, Nat.le_of_ble_eq_true rfl⟩) E0_good hK hA hW trivial [true, true] (fun _ => [mH mo R, mR cI (mo 1) G, mR cI (mo 3) Wa, aI cI (mo 4) 7 F, aI cI (mo 6) 4 B, aI cI (mo 7) 4 Z, aJ cJ (mo 8) 160 C]) rfl (fun _ => rfl) (fun _ => rfl) 0 0 rfl rfl rfl rfl hl.1 rfl (lv_room (Nat.le_of_ble_eq_true rfl)) dX5_read_12 ⟨Nat.zero_le _, Nat.zero_le _⟩ (fun _ H locs _ hW => ?_)
      have him_ := inN_or w (G 40)
      refine nn_zne (tgt := 23) hx hb dX5_read_15 (by decide) (by omega) (fun c15 => ?_) (fun c15 => ?_)
      · refine lv_iload_n hx hb dX5_read_23 rfl (lv_at hl 0 rfl) ?_
        refine lv_istore_n (lv' := [(3, .int (nI 0)), (0, .ref (mo 0)), (1, .int v), (2, .int w)]) hx hb dX5_read_24 rfl hl (by decide) rfl (fun ls hl => ?_)
        refine lv_iload_n hx hb dX5_read_25 rfl (lv_at hl 0 rfl) ?_
        refine nn_zeq (tgt := 35) hx hb dX5_read_26 (by decide) (by decide) (fun c26 => ?_) (fun c26 => ?_)
        · obtain ⟨j, hj, ej⟩ : ∃ j : Nat, v = nI j ∧ v.toInt = (j : Int) := ⟨v.toInt.toNat, nI_ofZ rfl (by omega), by omega⟩
          rw [hj] at hl
          have hSj := hS j (by omega)
          rw [ej, Int.toNat_natCast] at hnv2
          obtain ⟨a, ha, ea⟩ : ∃ a : Nat, w = nI a ∧ w.toInt = (a : Int) := ⟨w.toInt.toNat, nI_ofZ rfl (by omega), by omega⟩
          rw [ha] at hl
          have hmj := hG.m a (by omega)
          refine lv_aload_n hx hb dX5_read_35 rfl (lv_at hl 1 rfl) ?_
          refine cl_Vv (As := []) (rest := []) (C := RX5) ⟨hx, hb, hml, hown, hts⟩ (M_X5_thinks l D cI cJ mo R G Wa ) (cwV 0 hts gX5_read_X5_thinks rfl rfl rfl qX5_thinks ⟨Nat.le_of_ble_eq_true rfl, Nat.le_of_ble_eq_true rfl⟩) E0_good hK hA hW trivial [true, true, true] (fun _ => [mH mo R, mR cI (mo 1) G, mR cI (mo 3) G, aI cI (mo 4) 7 F, aI cI (mo 6) 4 B, aI cI (mo 7) 4 Z, aJ cJ (mo 8) 160 C]) rfl (fun _ => rfl) (fun _ => rfl) 0 0 rfl rfl rfl rfl hl.1 rfl (lv_room (Nat.le_of_ble_eq_true rfl)) dX5_read_36 ⟨Nat.zero_le _, Nat.zero_le _⟩ (fun _ H locs _ hW => ?_)
          refine lv_iconst (v := nI 0) hx hb dX5_read_39 (by decide +kernel) ?_
          refine lv_istore (lv' := [(4, .int (nI 0)), (3, .int (nI 0)), (0, .ref (mo 0)), (1, .int (nI j)), (2, .int (nI a))]) hx hb dX5_read_40 hl (by decide) rfl (fun ls hl => ?_)
          refine lv_iconst (v := nI 0) hx hb dX5_read_42 (by decide +kernel) ?_
          refine lv_istore (lv' := [(5, .int (nI 0)), (4, .int (nI 0)), (3, .int (nI 0)), (0, .ref (mo 0)), (1, .int (nI j)), (2, .int (nI a))]) hx hb dX5_read_43 hl (by decide) rfl (fun ls hl => ?_)
          have lp45 : ∀ (n : Nat) (i : Nat), 600 - i < n → i ≤ 600 → ∀ (H : Heap) (locs : List Loc), Wo D vwCl A s.heap H locs [mH mo R, mR cI (mo 1) G, mR cI (mo 3) G, aI cI (mo 4) 7 F, aI cI (mo 6) 4 B, aI cI (mo 7) 4 Z, aJ cJ (mo 8) 160 C] → ∀ ls : Array Slot, lv_has ls 6 [(5, .int (nI i)), (4, .int (nI (readN G C a j (Z j) i))), (3, .int (nI 0)), (0, .ref (mo 0)), (1, .int (nI j)), (2, .int (nI a))] → W p l e rmX5_read s m args below meth c H locs 0 0 Q (F0 m 45 ls []) := by
            intro n
            induction n with
            | zero => intro i hm; exact absurd hm (Nat.not_lt_zero _)
            | succ n ih =>
              intro i hm hi H locs hW ls hl
              have hrl := readN_le G C a j (Z j) i
              refine lv_iload hx hb dX5_read_45 (lv_at hl 0 rfl) ?_
              refine lv_sipush (v := nI 600) hx hb dX5_read_47 (by decide +kernel) ?_
              refine nn_cge (tgt := 99) hx hb dX5_read_50 (by decide) (by omega) (by decide) (fun c50 => ?_) (fun c50 => ?_)
              · have h600 : i = 600 := by omega
                rw [h600] at hl
                refine lv_iload hx hb dX5_read_99 (lv_at hl 1 rfl) ?_
                exact rt_i hQ hx hb hr hlocks hW dX5_read_101 G (by (try simp only [readV, ej, ea, Int.toNat_natCast]); (repeat' split) <;> first | rfl | (exfalso; omega)) trivial (by (try simp only [readF, ej, ea, Int.toNat_natCast]); (repeat' split) <;> first | rfl | (exfalso; omega))
              · have hK1 : OkG 99999 (up (up G (8 * a + 1) (i / 100)) (8 * a + 3) (i % 100)) := (hG.r1 (a := a) (v := i / 100) (by omega)).r3 (by omega)
                refine lv_aload_n hx hb dX5_read_53 rfl (lv_at hl 3 rfl) ?_
                refine lv_iload_n hx hb dX5_read_54 rfl (lv_at hl 5 rfl) ?_
                refine lv_iconst (v := nI 0) hx hb dX5_read_55 (by decide +kernel) ?_
                refine lv_iload hx hb dX5_read_56 (lv_at hl 0 rfl) ?_
                refine lv_bipush (v := nI 100) hx hb dX5_read_58 (by decide +kernel) ?_
                refine nn_div hx hb dX5_read_60 (by omega) (by decide) (by decide) ?_
                refine cl_Vv (As := [.int (nI a), .int (nI 0), .int (nI (i / 100))]) (rest := []) (C := RX5) ⟨hx, hb, hml, hown, hts⟩ (M_X5_put l D cI cJ mo R G a 0 1 (i / 100) (by omega) (by decide) rfl) (cwV 3 hts gX5_read_X5_put rfl rfl rfl qX5_put ⟨Nat.le_of_ble_eq_true rfl, Nat.le_of_ble_eq_true rfl⟩) E0_good hK hA hW trivial [true, true] (fun _ => [mH mo R, mR cI (mo 1) (up G (8 * a + 1) (i / 100)), mR cI (mo 3) G, aI cI (mo 4) 7 F, aI cI (mo 6) 4 B, aI cI (mo 7) 4 Z, aJ cJ (mo 8) 160 C]) rfl (fun _ => rfl) (fun _ => rfl) 0 0 rfl rfl rfl rfl hl.1 rfl (lv_room (Nat.le_of_ble_eq_true rfl)) dX5_read_61 ⟨Nat.zero_le _, Nat.zero_le _⟩ (fun _ H locs _ hW => ?_)
                refine lv_aload_n hx hb dX5_read_64 rfl (lv_at hl 3 rfl) ?_
                refine lv_iload_n hx hb dX5_read_65 rfl (lv_at hl 5 rfl) ?_
                refine lv_iconst (v := nI 2) hx hb dX5_read_66 (by decide +kernel) ?_
                refine lv_iload hx hb dX5_read_67 (lv_at hl 0 rfl) ?_
                refine lv_bipush (v := nI 100) hx hb dX5_read_69 (by decide +kernel) ?_
                refine nn_rem hx hb dX5_read_71 (by omega) (by decide) (by decide) ?_
                refine cl_Vv (As := [.int (nI a), .int (nI 2), .int (nI (i % 100))]) (rest := []) (C := RX5) ⟨hx, hb, hml, hown, hts⟩ (M_X5_put l D cI cJ mo R (up G (8 * a + 1) (i / 100)) a 2 3 (i % 100) (by omega) (by decide) rfl) (cwV 3 hts gX5_read_X5_put rfl rfl rfl qX5_put ⟨Nat.le_of_ble_eq_true rfl, Nat.le_of_ble_eq_true rfl⟩) E0_good hK hA hW trivial [true, true] (fun _ => [mH mo R, mR cI (mo 1) (up (up G (8 * a + 1) (i / 100)) (8 * a + 3) (i % 100)), mR cI (mo 3) G, aI cI (mo 4) 7 F, aI cI (mo 6) 4 B, aI cI (mo 7) 4 Z, aJ cJ (mo 8) 160 C]) rfl (fun _ => rfl) (fun _ => rfl) 0 0 rfl rfl rfl rfl hl.1 rfl (lv_room (Nat.le_of_ble_eq_true rfl)) dX5_read_72 ⟨Nat.zero_le _, Nat.zero_le _⟩ (fun _ H locs _ hW => ?_)
                refine lv_iload hx hb dX5_read_75 (lv_at hl 1 rfl) ?_
                refine lv_aload_n hx hb dX5_read_77 rfl (lv_at hl 3 rfl) ?_
                refine lv_iload_n hx hb dX5_read_78 rfl (lv_at hl 4 rfl) ?_
                refine cl_Vi (As := [.int (nI j)]) (rest := [.int (nI (readN G C a j (Z j) i))]) (C := RX5) ⟨hx, hb, hml, hown, hts⟩ (M_X5_isBook l D cI cJ mo R (up (up G (8 * a + 1) (i / 100)) (8 * a + 3) (i % 100)) G Z C hK1 (fun j hj => (hS j hj).2) j (by omega)) (cwV 1 hts gX5_read_X5_isBook rfl rfl rfl qX5_isBook ⟨Nat.le_of_ble_eq_true rfl, Nat.le_of_ble_eq_true rfl⟩) E0_good hK hA hW trivial [true, true, true, false, false, true, true] (fun _ => [mH mo R, mR cI (mo 1) G, mR cI (mo 3) G, aI cI (mo 4) 7 F, aI cI (mo 6) 4 B, aI cI (mo 7) 4 Z, aJ cJ (mo 8) 160 C]) rfl (fun _ => rfl) (fun _ => rfl) 0 0 rfl rfl rfl rfl hl.1 rfl (lv_room (Nat.le_of_ble_eq_true rfl)) dX5_read_79 ⟨Nat.zero_le _, Nat.zero_le _⟩ (fun _ H locs _ hW => ?_)
                have hbl_ := bkB_le (up (up G (8 * a + 1) (i / 100)) (8 * a + 3) (i % 100)) C j (Z j)
                refine nn_zeq (tgt := 89) hx hb dX5_read_82 (by decide) (by omega) (fun c82 => ?_) (fun c82 => ?_)
                · refine lv_iconst (v := nI 0) hx hb dX5_read_89 (by decide +kernel) ?_
                  refine nn_add hx hb dX5_read_90 ?_
                  refine lv_istore (lv' := [(4, .int (nI ((readN G C a j (Z j) i) + 0))), (5, .int (nI i)), (3, .int (nI 0)), (0, .ref (mo 0)), (1, .int (nI j)), (2, .int (nI a))]) hx hb dX5_read_91 hl (by decide) rfl (fun ls hl => ?_)
                  refine lv_iinc (v := nI (i + 1)) (lv' := [(5, .int (nI (i + 1))), (4, .int (nI ((readN G C a j (Z j) i) + 0))), (3, .int (nI 0)), (0, .ref (mo 0)), (1, .int (nI j)), (2, .int (nI a))]) hx hb dX5_read_93 hl (k := 1) rfl (nI_add _ 1) (by decide) rfl (fun ls hl => ?_)
                  refine lv_goto (tgt := 45) hx hb dX5_read_96 (by decide) ?_
                  have e1 : nI ((readN G C a j (Z j) i) + 0) = nI (readN G C a j (Z j) (i + 1)) := (congrArg nI (by show _ = readN G C a j (Z j) i + bkB _ C j (Z j); omega))
                  rw [e1] at hl
                  exact ih (i + 1) (by omega) (by omega) _ _ hW _ (lv_sub hl [0, 1, 2, 3, 4, 5] rfl)
                · refine lv_iconst (v := nI 1) hx hb dX5_read_85 (by decide +kernel) ?_
                  refine lv_goto (tgt := 90) hx hb dX5_read_86 (by decide) ?_
                  refine nn_add hx hb dX5_read_90 ?_
                  refine lv_istore (lv' := [(4, .int (nI ((readN G C a j (Z j) i) + 1))), (5, .int (nI i)), (3, .int (nI 0)), (0, .ref (mo 0)), (1, .int (nI j)), (2, .int (nI a))]) hx hb dX5_read_91 hl (by decide) rfl (fun ls hl => ?_)
                  refine lv_iinc (v := nI (i + 1)) (lv' := [(5, .int (nI (i + 1))), (4, .int (nI ((readN G C a j (Z j) i) + 1))), (3, .int (nI 0)), (0, .ref (mo 0)), (1, .int (nI j)), (2, .int (nI a))]) hx hb dX5_read_93 hl (k := 1) rfl (nI_add _ 1) (by decide) rfl (fun ls hl => ?_)
                  refine lv_goto (tgt := 45) hx hb dX5_read_96 (by decide) ?_
                  have e2 : nI ((readN G C a j (Z j) i) + 1) = nI (readN G C a j (Z j) (i + 1)) := (congrArg nI (by show _ = readN G C a j (Z j) i + bkB _ C j (Z j); omega))
                  rw [e2] at hl
                  exact ih (i + 1) (by omega) (by omega) _ _ hW _ (lv_sub hl [0, 1, 2, 3, 4, 5] rfl)
          exact lp45 (600 - 0 + 1) 0 (Nat.lt_succ_self _) (by omega) _ _ hW _ (lv_sub hl [0, 1, 2, 3, 4, 5] rfl)
        · exfalso; omega
      · refine lv_ldc (v := -1000000001) hx hb hown (hts _ (List.mem_of_getElem? (i := 1) rfl)) dX5_read_18 ?_
        refine lv_goto (tgt := 24) hx hb dX5_read_20 (by decide) ?_
        refine lv_istore_n (lv' := [(3, .int (-1000000001)), (0, .ref (mo 0)), (1, .int v), (2, .int w)]) hx hb dX5_read_24 rfl hl (by decide) rfl (fun ls hl => ?_)
        refine lv_iload_n hx hb dX5_read_25 rfl (lv_at hl 0 rfl) ?_
        refine zz_zeq (tgt := 35) hx hb dX5_read_26 (by decide) (show ((-1000000001) : Int32).toInt = (-1000000001) by decide +kernel) (fun c26_1 => ?_) (fun c26_1 => ?_)
        · exfalso; omega
        · refine lv_aload_n hx hb dX5_read_29 rfl (lv_at hl 1 rfl) ?_
          refine lv_iload_n hx hb dX5_read_30 rfl (lv_at hl 0 rfl) ?_
          refine cl_Vi (As := [.int (-1000000001)]) (rest := []) (C := RX5) ⟨hx, hb, hml, hown, hts⟩ (M_X5_finds l D cI cJ mo R F 0 (by decide) (-1000000001) (by decide +kernel)) (cwV 1 hts gX5_read_X5_finds rfl rfl rfl qX5_finds ⟨Nat.le_of_ble_eq_true rfl, Nat.le_of_ble_eq_true rfl⟩) E0_good hK hA hW trivial [true, false, false, true] (fun _ => [mH mo R, mR cI (mo 1) G, mR cI (mo 3) Wa, aI cI (mo 4) 7 (up F 0 (F 0 + 1)), aI cI (mo 6) 4 B, aI cI (mo 7) 4 Z, aJ cJ (mo 8) 160 C]) rfl (fun _ => rfl) (fun _ => rfl) 0 0 rfl rfl rfl rfl hl.1 rfl (lv_room (Nat.le_of_ble_eq_true rfl)) dX5_read_31 ⟨Nat.zero_le _, Nat.zero_le _⟩ (fun _ H locs _ hW => ?_)
          exact rt_i hQ hx hb hr hlocks hW dX5_read_34 Wa (by (try simp only [readV]); (repeat' split) <;> first | rfl | (exfalso; omega)) trivial (by (try simp only [readF]); (repeat' split) <;> first | rfl | (exfalso; omega))
  · rw [hnv] at hl
    refine lv_iload_n hx hb dX5_read_6 rfl (lv_at hl 0 rfl) ?_
    refine zz_zne (tgt := 23) hx hb dX5_read_7 (by decide) (show ((-1000000006) : Int32).toInt = (-1000000006) by decide +kernel) (fun c7_1 => ?_) (fun c7_1 => ?_)
    · refine lv_iload_n hx hb dX5_read_23 rfl (lv_at hl 0 rfl) ?_
      refine lv_istore_n (lv' := [(3, .int (-1000000006)), (0, .ref (mo 0)), (1, .int v), (2, .int w)]) hx hb dX5_read_24 rfl hl (by decide) rfl (fun ls hl => ?_)
      refine lv_iload_n hx hb dX5_read_25 rfl (lv_at hl 0 rfl) ?_
      refine zz_zeq (tgt := 35) hx hb dX5_read_26 (by decide) (show ((-1000000006) : Int32).toInt = (-1000000006) by decide +kernel) (fun c26_2 => ?_) (fun c26_2 => ?_)
      · exfalso; omega
      · refine lv_aload_n hx hb dX5_read_29 rfl (lv_at hl 1 rfl) ?_
        refine lv_iload_n hx hb dX5_read_30 rfl (lv_at hl 0 rfl) ?_
        refine cl_Vi (As := [.int (-1000000006)]) (rest := []) (C := RX5) ⟨hx, hb, hml, hown, hts⟩ (M_X5_finds l D cI cJ mo R F 5 (by decide) (-1000000006) (by decide +kernel)) (cwV 1 hts gX5_read_X5_finds rfl rfl rfl qX5_finds ⟨Nat.le_of_ble_eq_true rfl, Nat.le_of_ble_eq_true rfl⟩) E0_good hK hA hW trivial [true, false, false, true] (fun _ => [mH mo R, mR cI (mo 1) G, mR cI (mo 3) Wa, aI cI (mo 4) 7 (up F 5 (F 5 + 1)), aI cI (mo 6) 4 B, aI cI (mo 7) 4 Z, aJ cJ (mo 8) 160 C]) rfl (fun _ => rfl) (fun _ => rfl) 0 0 rfl rfl rfl rfl hl.1 rfl (lv_room (Nat.le_of_ble_eq_true rfl)) dX5_read_31 ⟨Nat.zero_le _, Nat.zero_le _⟩ (fun _ H locs _ hW => ?_)
        exact rt_i hQ hx hb hr hlocks hW dX5_read_34 Wa (by (try simp only [readV]); (repeat' split) <;> first | rfl | (exfalso; omega)) trivial (by (try simp only [readF]); (repeat' split) <;> first | rfl | (exfalso; omega))
    · exfalso; omega
  · rw [hnv] at hl
    refine lv_iload_n hx hb dX5_read_6 rfl (lv_at hl 0 rfl) ?_
    refine zz_zne (tgt := 23) hx hb dX5_read_7 (by decide) (show ((-1000000001) : Int32).toInt = (-1000000001) by decide +kernel) (fun c7_2 => ?_) (fun c7_2 => ?_)
    · refine lv_iload_n hx hb dX5_read_23 rfl (lv_at hl 0 rfl) ?_
      refine lv_istore_n (lv' := [(3, .int (-1000000001)), (0, .ref (mo 0)), (1, .int v), (2, .int w)]) hx hb dX5_read_24 rfl hl (by decide) rfl (fun ls hl => ?_)
      refine lv_iload_n hx hb dX5_read_25 rfl (lv_at hl 0 rfl) ?_
      refine zz_zeq (tgt := 35) hx hb dX5_read_26 (by decide) (show ((-1000000001) : Int32).toInt = (-1000000001) by decide +kernel) (fun c26_3 => ?_) (fun c26_3 => ?_)
      · exfalso; omega
      · refine lv_aload_n hx hb dX5_read_29 rfl (lv_at hl 1 rfl) ?_
        refine lv_iload_n hx hb dX5_read_30 rfl (lv_at hl 0 rfl) ?_
        refine cl_Vi (As := [.int (-1000000001)]) (rest := []) (C := RX5) ⟨hx, hb, hml, hown, hts⟩ (M_X5_finds l D cI cJ mo R F 0 (by decide) (-1000000001) (by decide +kernel)) (cwV 1 hts gX5_read_X5_finds rfl rfl rfl qX5_finds ⟨Nat.le_of_ble_eq_true rfl, Nat.le_of_ble_eq_true rfl⟩) E0_good hK hA hW trivial [true, false, false, true] (fun _ => [mH mo R, mR cI (mo 1) G, mR cI (mo 3) Wa, aI cI (mo 4) 7 (up F 0 (F 0 + 1)), aI cI (mo 6) 4 B, aI cI (mo 7) 4 Z, aJ cJ (mo 8) 160 C]) rfl (fun _ => rfl) (fun _ => rfl) 0 0 rfl rfl rfl rfl hl.1 rfl (lv_room (Nat.le_of_ble_eq_true rfl)) dX5_read_31 ⟨Nat.zero_le _, Nat.zero_le _⟩ (fun _ H locs _ hW => ?_)
        exact rt_i hQ hx hb hr hlocks hW dX5_read_34 Wa (by (try simp only [readV]); (repeat' split) <;> first | rfl | (exfalso; omega)) trivial (by (try simp only [readF]); (repeat' split) <;> first | rfl | (exfalso; omega))
    · exfalso; omega
