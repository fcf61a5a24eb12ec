theorem qX4_holdsWith : yX4_holdsWith.cls = RX4 ∧ yX4_holdsWith.cls ≠ "java/lang/invoke/MethodHandle" ∧ yX4_holdsWith.cls ≠ "java/lang/invoke/VarHandle" ∧ (parseMethodDescriptor yX4_holdsWith.desc).map (fun d => d.parameters.length) = some 3 := by decide +kernel
theorem qJ6_bitCount_0f7a4 : yJ6_bitCount_0f7a4.cls ≠ "java/lang/invoke/MethodHandle" ∧ yJ6_bitCount_0f7a4.cls ≠ "java/lang/invoke/VarHandle" ∧ (parseMethodDescriptor yJ6_bitCount_0f7a4.desc).map (fun d => d.parameters.length) = some 1 := by decide +kernel
theorem qX4_pushWith : yX4_pushWith.cls = RX4 ∧ yX4_pushWith.cls ≠ "java/lang/invoke/MethodHandle" ∧ yX4_pushWith.cls ≠ "java/lang/invoke/VarHandle" ∧ (parseMethodDescriptor yX4_pushWith.desc).map (fun d => d.parameters.length) = some 1 := by decide +kernel
abbrev rmX4_holdsWith : Room := { frames := 5, cells := 0, slots := 0, locals := 120 }
set_option maxRecDepth 100000 in
set_option maxHeartbeats 4000000 in
theorem M_X4_holdsWith (l : Launch) (D : va_G) (cI cJ : ClassId) (x fi ik : Nat) (la ta ka tp sh : Nat → Nat) (G T : Nat → Nat) (hG : OkG 99999 G) (j g k : Nat) (hj : j < G 48) (hg : g ≤ 200) (hk : k ≤ 60) : CE E0 l D vwCl [(cI, .int), (cJ, .long)] yX4_holdsWith wsX4_holdsWith rmX4_holdsWith [.ref x, .int (nI j), .int (nI g), .int (nI k)] [xH x la ta ka tp sh fi ik, gW cI la G, gW cI ta T] (S := Unit) (some (.int (nI (holdN G j g k)))) (fun _ => True) (fun _ : Unit => [xH x la ta ka tp sh fi ik, gW cI la G, gW cI ta (stepN (up G (8 * j + 5) g) k)]) 0 0 := by
  refine CE.ofW (cc := cX4_holdsWith) (maxL := 4) (ret := (some .boolean)) (lv := [(0, .ref x), (1, .int (nI j)), (2, .int (nI g)), (3, .int (nI k))]) (by decide) rfl (Nat.le_of_ble_eq_true rfl) rfl ?_
  intro p e s m args below meth c ls A Q hQ hx hb hml hr hlocks hnm hown hts hK hA hE hW hl
  have hown : s.vm.findClass RX4 = some m.cls := hown
  obtain ⟨hg0, hg8, hg16, hg16b, hg24, hg32, hg40, hg48⟩ := hG.s
  have hU := hG.r5 (a := j) (v := g) (by omega)
  have hcj := hG.c j (by omega)
  have hcs := (stepN_ok hU k).c j (by omega)
  have hmo := stepN_fl hU (c := j) (by rw [up_ne (by omega)]; exact hj) k
  rw [up_ne (by omega)] at hmo
  refine lv_aload_n hx hb dX4_holdsWith_0 rfl (lv_at hl 0 rfl) ?_
  refine sg_get (ci := 3) (C := RX4) (T := TX4) (N := 7) (v := .ref (ta 0)) hx hb hts (fun _ h => List.mem_cons_of_mem _ (List.mem_append_left _ (List.mem_append_right _ h))) hown hK hW 0 0 rfl rfl rfl 1 (by decide) (hts _ (List.mem_of_getElem? (i := 1) rfl)) rfl dX4_holdsWith_1 ?_
  refine lv_aload_n hx hb dX4_holdsWith_4 rfl (lv_at hl 0 rfl) ?_
  refine sg_get (ci := 3) (C := RX4) (T := TX4) (N := 7) (v := .ref (la 0)) hx hb hts (fun _ h => List.mem_cons_of_mem _ (List.mem_append_left _ (List.mem_append_right _ h))) hown hK hW 0 0 rfl rfl rfl 0 (by decide) (hts _ (List.mem_of_getElem? (i := 2) rfl)) rfl dX4_holdsWith_5 ?_
  refine cl_Vv (As := [.ref (la 0)]) (rest := []) (C := RX0) ⟨hx, hb, hml, hown, hts⟩ (M_X0_become2 l D cI cJ ta la T G) (cwV 1 hts gX4_holdsWith_X0_become rfl rfl rfl qX0_become ⟨Nat.le_of_ble_eq_true rfl, Nat.le_of_ble_eq_true rfl⟩) E0_good hK hA hW trivial [false, true, true] (fun _ => [xH x la ta ka tp sh fi ik, gW cI la G, gW cI ta G]) rfl (fun _ => rfl) (fun _ => rfl) 2 0 rfl rfl rfl rfl hl.1 rfl (lv_room (Nat.le_of_ble_eq_true rfl)) dX4_holdsWith_8 ⟨Nat.zero_le _, Nat.zero_le _⟩ (fun _ H locs _ hW => ?_)
  refine lv_aload_n hx hb dX4_holdsWith_11 rfl (lv_at hl 0 rfl) ?_
  refine sg_get (ci := 3) (C := RX4) (T := TX4) (N := 7) (v := .ref (ta 0)) hx hb hts (fun _ h => List.mem_cons_of_mem _ (List.mem_append_left _ (List.mem_append_right _ h))) hown hK hW 0 0 rfl rfl rfl 1 (by decide) (hts _ (List.mem_of_getElem? (i := 1) rfl)) rfl dX4_holdsWith_12 ?_
  refine sg_get (ci := 0) (C := RX0) (T := TX0) (N := 14) (v := .ref (ta 5)) hx hb hts (fun _ h => List.mem_cons_of_mem _ (List.mem_append_right _ h)) hown hK hW 2 0 rfl rfl rfl 11 (by decide) (hts _ (List.mem_of_getElem? (i := 3) rfl)) rfl dX4_holdsWith_15 ?_
  refine lv_iload_n hx hb dX4_holdsWith_18 rfl (lv_at hl 1 rfl) ?_
  refine lv_iload_n hx hb dX4_holdsWith_19 rfl (lv_at hl 2 rfl) ?_
  refine sg_ist hx hb hK hW 2 5 0 rfl rfl rfl (by omega) (by decide) (gW_r5 cI ta G j g) (ss' := [xH x la ta ka tp sh fi ik, gW cI la G, gW cI ta (up G (8 * j + 5) g)]) rfl dX4_holdsWith_20 (fun H locs hW => ?_)
  refine lv_aload_n hx hb dX4_holdsWith_21 rfl (lv_at hl 0 rfl) ?_
  refine sg_get (ci := 3) (C := RX4) (T := TX4) (N := 7) (v := .ref (ta 0)) hx hb hts (fun _ h => List.mem_cons_of_mem _ (List.mem_append_left _ (List.mem_append_right _ h))) hown hK hW 0 0 rfl rfl rfl 1 (by decide) (hts _ (List.mem_of_getElem? (i := 1) rfl)) rfl dX4_holdsWith_22 ?_
  refine lv_iload_n hx hb dX4_holdsWith_25 rfl (lv_at hl 3 rfl) ?_
  refine cl_Vv (As := [.int (nI k)]) (rest := []) (C := RX0) ⟨hx, hb, hml, hown, hts⟩ (M_X0_passMinutes l D cI cJ ta (up G (8 * j + 5) g) 99999 (by decide) hU k (by omega)) (cwV 1 hts gX4_holdsWith_X0_passMinutes rfl rfl rfl qX0_passMinutes ⟨Nat.le_of_ble_eq_true rfl, Nat.le_of_ble_eq_true rfl⟩) E0_good hK hA hW trivial [false, false, true] (fun _ => [xH x la ta ka tp sh fi ik, gW cI la G, gW cI ta (stepN (up G (8 * j + 5) g) k)]) rfl (fun _ => rfl) (fun _ => rfl) 2 0 rfl rfl rfl rfl hl.1 rfl (lv_room (Nat.le_of_ble_eq_true rfl)) dX4_holdsWith_26 ⟨Nat.zero_le _, Nat.zero_le _⟩ (fun _ H locs _ hW => ?_)
  refine lv_aload_n hx hb dX4_holdsWith_29 rfl (lv_at hl 0 rfl) ?_
  refine sg_get (ci := 3) (C := RX4) (T := TX4) (N := 7) (v := .ref (ta 0)) hx hb hts (fun _ h => List.mem_cons_of_mem _ (List.mem_append_left _ (List.mem_append_right _ h))) hown hK hW 0 0 rfl rfl rfl 1 (by decide) (hts _ (List.mem_of_getElem? (i := 1) rfl)) rfl dX4_holdsWith_30 ?_
  refine sg_get (ci := 0) (C := RX0) (T := TX0) (N := 14) (v := .ref (ta 7)) hx hb hts (fun _ h => List.mem_cons_of_mem _ (List.mem_append_right _ h)) hown hK hW 2 0 rfl rfl rfl 13 (by decide) (hts _ (List.mem_of_getElem? (i := 4) rfl)) rfl dX4_holdsWith_33 ?_
  refine lv_iload_n hx hb dX4_holdsWith_36 rfl (lv_at hl 1 rfl) ?_
  refine sg_ild (v := nI ((stepN (up G (8 * j + 5) g) k) (8 * j + 7))) hx hb hK hW 2 7 0 rfl rfl rfl (by omega) (by decide) rfl dX4_holdsWith_37 ?_
  refine lv_aload_n hx hb dX4_holdsWith_38 rfl (lv_at hl 0 rfl) ?_
  refine sg_get (ci := 3) (C := RX4) (T := TX4) (N := 7) (v := .ref (la 0)) hx hb hts (fun _ h => List.mem_cons_of_mem _ (List.mem_append_left _ (List.mem_append_right _ h))) hown hK hW 0 0 rfl rfl rfl 0 (by decide) (hts _ (List.mem_of_getElem? (i := 2) rfl)) rfl dX4_holdsWith_39 ?_
  refine sg_get (ci := 0) (C := RX0) (T := TX0) (N := 14) (v := .ref (la 7)) hx hb hts (fun _ h => List.mem_cons_of_mem _ (List.mem_append_right _ h)) hown hK hW 1 0 rfl rfl rfl 13 (by decide) (hts _ (List.mem_of_getElem? (i := 4) rfl)) rfl dX4_holdsWith_42 ?_
  refine lv_iload_n hx hb dX4_holdsWith_45 rfl (lv_at hl 1 rfl) ?_
  refine sg_ild (v := nI (G (8 * j + 7))) hx hb hK hW 1 7 0 rfl rfl rfl (by omega) (by decide) rfl dX4_holdsWith_46 ?_
  refine nn_cgt (tgt := 54) hx hb dX4_holdsWith_47 (by decide) (by omega) (by omega) (fun c47 => ?_) (fun c47 => ?_)
  · refine lv_iconst (v := nI 0) hx hb dX4_holdsWith_54 (by decide +kernel) ?_
    exact rt_z hQ hx hb hr hlocks hW dX4_holdsWith_55 (by decide +kernel) () (by unfold holdN; (repeat' split) <;> first | rfl | (exfalso; omega) | (congr 3; omega)) trivial rfl
  · refine lv_iconst (v := nI 1) hx hb dX4_holdsWith_50 (by decide +kernel) ?_
    refine lv_goto (tgt := 55) hx hb dX4_holdsWith_51 (by decide) ?_
    exact rt_z hQ hx hb hr hlocks hW dX4_holdsWith_55 (by decide +kernel) () (by unfold holdN; (repeat' split) <;> first | rfl | (exfalso; omega) | (congr 3; omega)) trivial rfl
abbrev rmX4_pushWith : Room := { frames := 3, cells := 0, slots := 0, locals := 74 }
set_option maxRecDepth 100000 in
set_option maxHeartbeats 4000000 in
theorem M_X4_pushWith (l : Launch) (D : va_G) (cI cJ : ClassId) (x fi ik : Nat) (la ta ka tp sh : Nat → Nat) (G T : Nat → Nat) (hG : OkG 99999 G) (t : Nat) (ht : t < 256) : CE E0 l D vwCl [(cI, .int), (cJ, .long)] yX4_pushWith wsX4_pushWith rmX4_pushWith [.ref x, .int (nI t)] [xH x la ta ka tp sh fi ik, gW cI la G, gW cI ta T] (S := Unit) (some (.int (nI (pushN (comeG G t))))) (fun _ => True) (fun _ : Unit => [xH x la ta ka tp sh fi ik, gW cI la G, gW cI ta (comeG G t)]) 0 0 := by
  refine CE.ofW (cc := cX4_pushWith) (maxL := 3) (ret := (some .int)) (lv := [(0, .ref x), (1, .int (nI t))]) (by decide) rfl (Nat.le_of_ble_eq_true rfl) rfl ?_
  intro p e s m args below meth c ls A Q hQ hx hb hml hr hlocks hnm hown hts hK hA hE hW hl
  have hown : s.vm.findClass RX4 = some m.cls := hown
  obtain ⟨hg0, hg8, hg16, hg16b, hg24, hg32, hg40, hg48⟩ := hG.s
  refine lv_aload_n hx hb dX4_pushWith_0 rfl (lv_at hl 0 rfl) ?_
  refine sg_get (ci := 3) (C := RX4) (T := TX4) (N := 7) (v := .ref (ta 0)) hx hb hts (fun _ h => List.mem_cons_of_mem _ (List.mem_append_left _ (List.mem_append_right _ h))) hown hK hW 0 0 rfl rfl rfl 1 (by decide) (hts _ (List.mem_of_getElem? (i := 1) rfl)) rfl dX4_pushWith_1 ?_
  refine lv_aload_n hx hb dX4_pushWith_4 rfl (lv_at hl 0 rfl) ?_
  refine sg_get (ci := 3) (C := RX4) (T := TX4) (N := 7) (v := .ref (la 0)) hx hb hts (fun _ h => List.mem_cons_of_mem _ (List.mem_append_left _ (List.mem_append_right _ h))) hown hK hW 0 0 rfl rfl rfl 0 (by decide) (hts _ (List.mem_of_getElem? (i := 2) rfl)) rfl dX4_pushWith_5 ?_
  refine cl_Vv (As := [.ref (la 0)]) (rest := []) (C := RX0) ⟨hx, hb, hml, hown, hts⟩ (M_X0_become2 l D cI cJ ta la T G) (cwV 1 hts gX4_pushWith_X0_become rfl rfl rfl qX0_become ⟨Nat.le_of_ble_eq_true rfl, Nat.le_of_ble_eq_true rfl⟩) E0_good hK hA hW trivial [false, true, true] (fun _ => [xH x la ta ka tp sh fi ik, gW cI la G, gW cI ta G]) rfl (fun _ => rfl) (fun _ => rfl) 2 0 rfl rfl rfl rfl hl.1 rfl (lv_room (Nat.le_of_ble_eq_true rfl)) dX4_pushWith_8 ⟨Nat.zero_le _, Nat.zero_le _⟩ (fun _ H locs _ hW => ?_)
  refine lv_iconst (v := nI 0) hx hb dX4_pushWith_11 (by decide +kernel) ?_
  refine lv_istore_n (lv' := [(2, .int (nI 0)), (0, .ref x), (1, .int (nI t))]) hx hb dX4_pushWith_12 rfl hl (by decide) rfl (fun ls hl => ?_)
  have lp13 : ∀ (n : Nat) (i : Nat), G 40 - i < n → i ≤ G 40 → ∀ (H : Heap) (locs : List Loc), Wo D vwCl A s.heap H locs [xH x la ta ka tp sh fi ik, gW cI la G, gW cI ta (comeTo G t i)] → ∀ ls : Array Slot, lv_has ls 3 [(2, .int (nI i)), (0, .ref x), (1, .int (nI t))] → W p l e rmX4_pushWith s m args below meth c H locs 0 0 Q (F0 m 13 ls []) := by
    intro n
    induction n with
    | zero => intro i hm; exact absurd hm (Nat.not_lt_zero _)
    | succ n ih =>
      intro i hm hi H locs hW ls hl
      have hT := comeTo_ok hG t i
      have h40 := comeTo_keep G t 40 (by decide) (by decide) i
      refine lv_iload_n hx hb dX4_pushWith_13 rfl (lv_at hl 0 rfl) ?_
      refine lv_aload_n hx hb dX4_pushWith_14 rfl (lv_at hl 1 rfl) ?_
      refine sg_get (ci := 3) (C := RX4) (T := TX4) (N := 7) (v := .ref (ta 0)) hx hb hts (fun _ h => List.mem_cons_of_mem _ (List.mem_append_left _ (List.mem_append_right _ h))) hown hK hW 0 0 rfl rfl rfl 1 (by decide) (hts _ (List.mem_of_getElem? (i := 1) rfl)) rfl dX4_pushWith_15 ?_
      refine sg_get (ci := 0) (C := RX0) (T := TX0) (N := 14) (v := .int (nI ((comeTo G t i) 40))) hx hb hts (fun _ h => List.mem_cons_of_mem _ (List.mem_append_right _ h)) hown hK hW 2 0 rfl rfl rfl 5 (by decide) (hts _ (List.mem_of_getElem? (i := 3) rfl)) rfl dX4_pushWith_18 ?_
      refine nn_cge (tgt := 48) hx hb dX4_pushWith_21 (by decide) (by omega) (by omega) (fun c21 => ?_) (fun c21 => ?_)
      · refine lv_aload_n hx hb dX4_pushWith_48 rfl (lv_at hl 1 rfl) ?_
        refine sg_get (ci := 3) (C := RX4) (T := TX4) (N := 7) (v := .ref (ta 0)) hx hb hts (fun _ h => List.mem_cons_of_mem _ (List.mem_append_left _ (List.mem_append_right _ h))) hown hK hW 0 0 rfl rfl rfl 1 (by decide) (hts _ (List.mem_of_getElem? (i := 1) rfl)) rfl dX4_pushWith_49 ?_
        refine cl_Vi (As := []) (rest := []) (C := RX0) ⟨hx, hb, hml, hown, hts⟩ (M_X0_pushNow l D cI cJ ta (comeTo G t i) 99999 (by decide) hT) (cwV 0 hts gX4_pushWith_X0_pushNow rfl rfl rfl qX0_pushNow ⟨Nat.le_of_ble_eq_true rfl, Nat.le_of_ble_eq_true rfl⟩) E0_good hK hA hW trivial [false, false, true] (fun _ => [xH x la ta ka tp sh fi ik, gW cI la G, gW cI ta (comeTo G t i)]) rfl (fun _ => rfl) (fun _ => rfl) 2 0 rfl rfl rfl rfl hl.1 rfl (lv_room (Nat.le_of_ble_eq_true rfl)) dX4_pushWith_52 ⟨Nat.zero_le _, Nat.zero_le _⟩ (fun _ H locs _ hW => ?_)
        exact rt_i hQ hx hb hr hlocks hW dX4_pushWith_55 () (by rw [show i = G 40 by omega]; rfl) trivial (by rw [show i = G 40 by omega]; rfl)
      · refine lv_iload_n hx hb dX4_pushWith_24 rfl (lv_at hl 2 rfl) ?_
        refine lv_iload_n hx hb dX4_pushWith_25 rfl (lv_at hl 0 rfl) ?_
        refine nn_shr hx hb dX4_pushWith_26 (by omega) (by omega) ?_
        refine lv_iconst (v := nI 1) hx hb dX4_pushWith_27 (by decide +kernel) ?_
        refine nn_and hx hb dX4_pushWith_28 ?_
        refine W.top (v' := .int (nI (t / 2 ^ i % 2))) (by rw [Nat.and_one_is_mod]) ?_
        refine lv_iconst (v := nI 1) hx hb dX4_pushWith_29 (by decide +kernel) ?_
        refine nn_cne (tgt := 42) hx hb dX4_pushWith_30 (by decide) (by omega) (by decide) (fun c30 => ?_) (fun c30 => ?_)
        · refine lv_iinc (v := nI (i + 1)) (lv' := [(2, .int (nI (i + 1))), (0, .ref x), (1, .int (nI t))]) hx hb dX4_pushWith_42 hl (k := 0) rfl (nI_add _ 1) (by decide) rfl (fun ls hl => ?_)
          refine lv_goto (tgt := 13) hx hb dX4_pushWith_45 (by decide) ?_
          have hW := hW.to (ss' := [xH x la ta ka tp sh fi ik, gW cI la G, gW cI ta (comeTo G t (i + 1))]) (by simp only [comeTo]; (repeat' split) <;> first | rfl | (exfalso; omega))
          exact ih (i + 1) (by omega) (by omega) _ _ hW _ (lv_sub hl [0, 1, 2] rfl)
        · refine lv_aload_n hx hb dX4_pushWith_33 rfl (lv_at hl 1 rfl) ?_
          refine sg_get (ci := 3) (C := RX4) (T := TX4) (N := 7) (v := .ref (ta 0)) hx hb hts (fun _ h => List.mem_cons_of_mem _ (List.mem_append_left _ (List.mem_append_right _ h))) hown hK hW 0 0 rfl rfl rfl 1 (by decide) (hts _ (List.mem_of_getElem? (i := 1) rfl)) rfl dX4_pushWith_34 ?_
          refine lv_iload_n hx hb dX4_pushWith_37 rfl (lv_at hl 0 rfl) ?_
          refine lv_iconst (v := nI 1) hx hb dX4_pushWith_38 (by decide +kernel) ?_
          refine cl_Vv (As := [.int (nI i), .int (nI 1)]) (rest := []) (C := RX0) ⟨hx, hb, hml, hown, hts⟩ (M_X0_moveMother l D cI cJ ta (comeTo G t i) 99999 (by decide) hT i 1 (by omega)) (cwV 2 hts gX4_pushWith_X0_moveMother rfl rfl rfl qX0_moveMother ⟨Nat.le_of_ble_eq_true rfl, Nat.le_of_ble_eq_true rfl⟩) E0_good hK hA hW trivial [false, false, true] (fun _ => [xH x la ta ka tp sh fi ik, gW cI la G, gW cI ta (moveM (comeTo G t i) i 1)]) rfl (fun _ => rfl) (fun _ => rfl) 2 0 rfl rfl rfl rfl hl.1 rfl (lv_room (Nat.le_of_ble_eq_true rfl)) dX4_pushWith_39 ⟨Nat.zero_le _, Nat.zero_le _⟩ (fun _ H locs _ hW => ?_)
          refine lv_iinc (v := nI (i + 1)) (lv' := [(2, .int (nI (i + 1))), (0, .ref x), (1, .int (nI t))]) hx hb dX4_pushWith_42 hl (k := 0) rfl (nI_add _ 1) (by decide) rfl (fun ls hl => ?_)
          refine lv_goto (tgt := 13) hx hb dX4_pushWith_45 (by decide) ?_
          have hW := hW.to (ss' := [xH x la ta ka tp sh fi ik, gW cI la G, gW cI ta (comeTo G t (i + 1))]) (by simp only [comeTo]; (repeat' split) <;> first | rfl | (exfalso; omega))
          exact ih (i + 1) (by omega) (by omega) _ _ hW _ (lv_sub hl [0, 1, 2] rfl)
  have hW := hW.to (ss' := [xH x la ta ka tp sh fi ik, gW cI la G, gW cI ta (comeTo G t 0)]) rfl
  exact lp13 (G 40 - 0 + 1) 0 (Nat.lt_succ_self _) (by omega) _ _ hW _ (lv_sub hl [0, 1, 2] rfl)
theorem bc_eq : ∀ v, v < 256 → ((((((((nI v) - ((((nI v).toUInt32 >>> ((nI 1).toUInt32 &&& Int32.toUInt32 31)).toInt32) &&& (1431655765))) &&& (858993459)) + (((((nI v) - ((((nI v).toUInt32 >>> ((nI 1).toUInt32 &&& Int32.toUInt32 31)).toInt32) &&& (1431655765))).toUInt32 >>> ((nI 2).toUInt32 &&& Int32.toUInt32 31)).toInt32) &&& (858993459))) + ((((((nI v) - ((((nI v).toUInt32 >>> ((nI 1).toUInt32 &&& Int32.toUInt32 31)).toInt32) &&& (1431655765))) &&& (858993459)) + (((((nI v) - ((((nI v).toUInt32 >>> ((nI 1).toUInt32 &&& Int32.toUInt32 31)).toInt32) &&& (1431655765))).toUInt32 >>> ((nI 2).toUInt32 &&& Int32.toUInt32 31)).toInt32) &&& (858993459))).toUInt32 >>> ((nI 4).toUInt32 &&& Int32.toUInt32 31)).toInt32)) &&& (252645135)) + ((((((((nI v) - ((((nI v).toUInt32 >>> ((nI 1).toUInt32 &&& Int32.toUInt32 31)).toInt32) &&& (1431655765))) &&& (858993459)) + (((((nI v) - ((((nI v).toUInt32 >>> ((nI 1).toUInt32 &&& Int32.toUInt32 31)).toInt32) &&& (1431655765))).toUInt32 >>> ((nI 2).toUInt32 &&& Int32.toUInt32 31)).toInt32) &&& (858993459))) + ((((((nI v) - ((((nI v).toUInt32 >>> ((nI 1).toUInt32 &&& Int32.toUInt32 31)).toInt32) &&& (1431655765))) &&& (858993459)) + (((((nI v) - ((((nI v).toUInt32 >>> ((nI 1).toUInt32 &&& Int32.toUInt32 31)).toInt32) &&& (1431655765))).toUInt32 >>> ((nI 2).toUInt32 &&& Int32.toUInt32 31)).toInt32) &&& (858993459))).toUInt32 >>> ((nI 4).toUInt32 &&& Int32.toUInt32 31)).toInt32)) &&& (252645135)).toUInt32 >>> ((nI 8).toUInt32 &&& Int32.toUInt32 31)).toInt32)) + (((((((((nI v) - ((((nI v).toUInt32 >>> ((nI 1).toUInt32 &&& Int32.toUInt32 31)).toInt32) &&& (1431655765))) &&& (858993459)) + (((((nI v) - ((((nI v).toUInt32 >>> ((nI 1).toUInt32 &&& Int32.toUInt32 31)).toInt32) &&& (1431655765))).toUInt32 >>> ((nI 2).toUInt32 &&& Int32.toUInt32 31)).toInt32) &&& (858993459))) + ((((((nI v) - ((((nI v).toUInt32 >>> ((nI 1).toUInt32 &&& Int32.toUInt32 31)).toInt32) &&& (1431655765))) &&& (858993459)) + (((((nI v) - ((((nI v).toUInt32 >>> ((nI 1).toUInt32 &&& Int32.toUInt32 31)).toInt32) &&& (1431655765))).toUInt32 >>> ((nI 2).toUInt32 &&& Int32.toUInt32 31)).toInt32) &&& (858993459))).toUInt32 >>> ((nI 4).toUInt32 &&& Int32.toUInt32 31)).toInt32)) &&& (252645135)) + ((((((((nI v) - ((((nI v).toUInt32 >>> ((nI 1).toUInt32 &&& Int32.toUInt32 31)).toInt32) &&& (1431655765))) &&& (858993459)) + (((((nI v) - ((((nI v).toUInt32 >>> ((nI 1).toUInt32 &&& Int32.toUInt32 31)).toInt32) &&& (1431655765))).toUInt32 >>> ((nI 2).toUInt32 &&& Int32.toUInt32 31)).toInt32) &&& (858993459))) + ((((((nI v) - ((((nI v).toUInt32 >>> ((nI 1).toUInt32 &&& Int32.toUInt32 31)).toInt32) &&& (1431655765))) &&& (858993459)) + (((((nI v) - ((((nI v).toUInt32 >>> ((nI 1).toUInt32 &&& Int32.toUInt32 31)).toInt32) &&& (1431655765))).toUInt32 >>> ((nI 2).toUInt32 &&& Int32.toUInt32 31)).toInt32) &&& (858993459))).toUInt32 >>> ((nI 4).toUInt32 &&& Int32.toUInt32 31)).toInt32)) &&& (252645135)).toUInt32 >>> ((nI 8).toUInt32 &&& Int32.toUInt32 31)).toInt32)).toUInt32 >>> ((nI 16).toUInt32 &&& Int32.toUInt32 31)).toInt32)) &&& (nI 63) = nI (bitsN v) := by decide +kernel
abbrev rmJ6_bitCount_0f7a4 : Room := { frames := 0, cells := 0, slots := 0, locals := 0 }
set_option maxRecDepth 100000 in
set_option maxHeartbeats 4000000 in
theorem M_J6_bitCount_0f7a4 (l : Launch) (D : va_G) (cI cJ : ClassId) (v : Nat) (hv : v < 256) : CE E0 l D vwCl [(cI, .int), (cJ, .long)] yJ6_bitCount_0f7a4 wsJ6_bitCount_0f7a4 rmJ6_bitCount_0f7a4 [.int (nI v)] [] (S := Unit) (some (.int (nI (bitsN v)))) (fun _ => True) (fun _ : Unit => []) 0 0 := by
  refine CE.ofW (cc := cJ6_bitCount_0f7a4) (maxL := 1) (ret := (some .int)) (lv := [(0, .int (nI v))]) (by decide) rfl (Nat.le_of_ble_eq_true rfl) rfl ?_
  intro p e s m args below meth c ls A Q hQ hx hb hml hr hlocks hnm hown hts hK hA hE hW hl
  have hown : s.vm.findClass RJ6 = some m.cls := hown
  refine lv_iload_n hx hb dJ6_bitCount_0f7a4_0 rfl (lv_at hl 0 rfl) ?_
  refine lv_iload_n hx hb dJ6_bitCount_0f7a4_1 rfl (lv_at hl 0 rfl) ?_
  refine lv_iconst (v := nI 1) hx hb dJ6_bitCount_0f7a4_2 (by decide +kernel) ?_
  refine lv_iushr (v := ((nI v).toUInt32 >>> ((nI 1).toUInt32 &&& Int32.toUInt32 31)).toInt32) hx hb dJ6_bitCount_0f7a4_3 rfl ?_
  refine lv_ldcw (v := 1431655765) hx hb hown (hts _ (List.mem_of_getElem? (i := 1) rfl)) dJ6_bitCount_0f7a4_4 ?_
  refine lv_iand hx hb dJ6_bitCount_0f7a4_7 ?_
  refine lv_isub hx hb dJ6_bitCount_0f7a4_8 ?_
  refine lv_istore_n (lv' := [(0, .int ((nI v) - ((((nI v).toUInt32 >>> ((nI 1).toUInt32 &&& Int32.toUInt32 31)).toInt32) &&& (1431655765))))]) hx hb dJ6_bitCount_0f7a4_9 rfl hl (by decide) rfl (fun ls hl => ?_)
  refine lv_iload_n hx hb dJ6_bitCount_0f7a4_10 rfl (lv_at hl 0 rfl) ?_
  refine lv_ldcw (v := 858993459) hx hb hown (hts _ (List.mem_of_getElem? (i := 2) rfl)) dJ6_bitCount_0f7a4_11 ?_
  refine lv_iand hx hb dJ6_bitCount_0f7a4_14 ?_
  refine lv_iload_n hx hb dJ6_bitCount_0f7a4_15 rfl (lv_at hl 0 rfl) ?_
  refine lv_iconst (v := nI 2) hx hb dJ6_bitCount_0f7a4_16 (by decide +kernel) ?_
  refine lv_iushr (v := (((nI v) - ((((nI v).toUInt32 >>> ((nI 1).toUInt32 &&& Int32.toUInt32 31)).toInt32) &&& (1431655765))).toUInt32 >>> ((nI 2).toUInt32 &&& Int32.toUInt32 31)).toInt32) hx hb dJ6_bitCount_0f7a4_17 rfl ?_
  refine lv_ldcw (v := 858993459) hx hb hown (hts _ (List.mem_of_getElem? (i := 2) rfl)) dJ6_bitCount_0f7a4_18 ?_
  refine lv_iand hx hb dJ6_bitCount_0f7a4_21 ?_
  refine lv_iadd hx hb dJ6_bitCount_0f7a4_22 ?_
  refine lv_istore_n (lv' := [(0, .int ((((nI v) - ((((nI v).toUInt32 >>> ((nI 1).toUInt32 &&& Int32.toUInt32 31)).toInt32) &&& (1431655765))) &&& (858993459)) + (((((nI v) - ((((nI v).toUInt32 >>> ((nI 1).toUInt32 &&& Int32.toUInt32 31)).toInt32) &&& (1431655765))).toUInt32 >>> ((nI 2).toUInt32 &&& Int32.toUInt32 31)).toInt32) &&& (858993459))))]) hx hb dJ6_bitCount_0f7a4_23 rfl hl (by decide) rfl (fun ls hl => ?_)
  refine lv_iload_n hx hb dJ6_bitCount_0f7a4_24 rfl (lv_at hl 0 rfl) ?_
  refine lv_iload_n hx hb dJ6_bitCount_0f7a4_25 rfl (lv_at hl 0 rfl) ?_
  refine lv_iconst (v := nI 4) hx hb dJ6_bitCount_0f7a4_26 (by decide +kernel) ?_
  refine lv_iushr (v := (((((nI v) - ((((nI v).toUInt32 >>> ((nI 1).toUInt32 &&& Int32.toUInt32 31)).toInt32) &&& (1431655765))) &&& (858993459)) + (((((nI v) - ((((nI v).toUInt32 >>> ((nI 1).toUInt32 &&& Int32.toUInt32 31)).toInt32) &&& (1431655765))).toUInt32 >>> ((nI 2).toUInt32 &&& Int32.toUInt32 31)).toInt32) &&& (858993459))).toUInt32 >>> ((nI 4).toUInt32 &&& Int32.toUInt32 31)).toInt32) hx hb dJ6_bitCount_0f7a4_27 rfl ?_
  refine lv_iadd hx hb dJ6_bitCount_0f7a4_28 ?_
  refine lv_ldcw (v := 252645135) hx hb hown (hts _ (List.mem_of_getElem? (i := 3) rfl)) dJ6_bitCount_0f7a4_29 ?_
  refine lv_iand hx hb dJ6_bitCount_0f7a4_32 ?_
  refine lv_istore_n (lv' := [(0, .int ((((((nI v) - ((((nI v).toUInt32 >>> ((nI 1).toUInt32 &&& Int32.toUInt32 31)).toInt32) &&& (1431655765))) &&& (858993459)) + (((((nI v) - ((((nI v).toUInt32 >>> ((nI 1).toUInt32 &&& Int32.toUInt32 31)).toInt32) &&& (1431655765))).toUInt32 >>> ((nI 2).toUInt32 &&& Int32.toUInt32 31)).toInt32) &&& (858993459))) + ((((((nI v) - ((((nI v).toUInt32 >>> ((nI 1).toUInt32 &&& Int32.toUInt32 31)).toInt32) &&& (1431655765))) &&& (858993459)) + (((((nI v) - ((((nI v).toUInt32 >>> ((nI 1).toUInt32 &&& Int32.toUInt32 31)).toInt32) &&& (1431655765))).toUInt32 >>> ((nI 2).toUInt32 &&& Int32.toUInt32 31)).toInt32) &&& (858993459))).toUInt32 >>> ((nI 4).toUInt32 &&& Int32.toUInt32 31)).toInt32)) &&& (252645135)))]) hx hb dJ6_bitCount_0f7a4_33 rfl hl (by decide) rfl (fun ls hl => ?_)
  refine lv_iload_n hx hb dJ6_bitCount_0f7a4_34 rfl (lv_at hl 0 rfl) ?_
  refine lv_iload_n hx hb dJ6_bitCount_0f7a4_35 rfl (lv_at hl 0 rfl) ?_
  refine lv_bipush (v := nI 8) hx hb dJ6_bitCount_0f7a4_36 (by decide +kernel) ?_
  refine lv_iushr (v := (((((((nI v) - ((((nI v).toUInt32 >>> ((nI 1).toUInt32 &&& Int32.toUInt32 31)).toInt32) &&& (1431655765))) &&& (858993459)) + (((((nI v) - ((((nI v).toUInt32 >>> ((nI 1).toUInt32 &&& Int32.toUInt32 31)).toInt32) &&& (1431655765))).toUInt32 >>> ((nI 2).toUInt32 &&& Int32.toUInt32 31)).toInt32) &&& (858993459))) + ((((((nI v) - ((((nI v).toUInt32 >>> ((nI 1).toUInt32 &&& Int32.toUInt32 31)).toInt32) &&& (1431655765))) &&& (858993459)) + (((((nI v) - ((((nI v).toUInt32 >>> ((nI 1).toUInt32 &&& Int32.toUInt32 31)).toInt32) &&& (1431655765))).toUInt32 >>> ((nI 2).toUInt32 &&& Int32.toUInt32 31)).toInt32) &&& (858993459))).toUInt32 >>> ((nI 4).toUInt32 &&& Int32.toUInt32 31)).toInt32)) &&& (252645135)).toUInt32 >>> ((nI 8).toUInt32 &&& Int32.toUInt32 31)).toInt32) hx hb dJ6_bitCount_0f7a4_38 rfl ?_
  refine lv_iadd hx hb dJ6_bitCount_0f7a4_39 ?_
  refine lv_istore_n (lv' := [(0, .int (((((((nI v) - ((((nI v).toUInt32 >>> ((nI 1).toUInt32 &&& Int32.toUInt32 31)).toInt32) &&& (1431655765))) &&& (858993459)) + (((((nI v) - ((((nI v).toUInt32 >>> ((nI 1).toUInt32 &&& Int32.toUInt32 31)).toInt32) &&& (1431655765))).toUInt32 >>> ((nI 2).toUInt32 &&& Int32.toUInt32 31)).toInt32) &&& (858993459))) + ((((((nI v) - ((((nI v).toUInt32 >>> ((nI 1).toUInt32 &&& Int32.toUInt32 31)).toInt32) &&& (1431655765))) &&& (858993459)) + (((((nI v) - ((((nI v).toUInt32 >>> ((nI 1).toUInt32 &&& Int32.toUInt32 31)).toInt32) &&& (1431655765))).toUInt32 >>> ((nI 2).toUInt32 &&& Int32.toUInt32 31)).toInt32) &&& (858993459))).toUInt32 >>> ((nI 4).toUInt32 &&& Int32.toUInt32 31)).toInt32)) &&& (252645135)) + ((((((((nI v) - ((((nI v).toUInt32 >>> ((nI 1).toUInt32 &&& Int32.toUInt32 31)).toInt32) &&& (1431655765))) &&& (858993459)) + (((((nI v) - ((((nI v).toUInt32 >>> ((nI 1).toUInt32 &&& Int32.toUInt32 31)).toInt32) &&& (1431655765))).toUInt32 >>> ((nI 2).toUInt32 &&& Int32.toUInt32 31)).toInt32) &&& (858993459))) + ((((((nI v) - ((((nI v).toUInt32 >>> ((nI 1).toUInt32 &&& Int32.toUInt32 31)).toInt32) &&& (1431655765))) &&& (858993459)) + (((((nI v) - ((((nI v).toUInt32 >>> ((nI 1).toUInt32 &&& Int32.toUInt32 31)).toInt32) &&& (1431655765))).toUInt32 >>> ((nI 2).toUInt32 &&& Int32.toUInt32 31)).toInt32) &&& (858993459))).toUInt32 >>> ((nI 4).toUInt32 &&& Int32.toUInt32 31)).toInt32)) &&& (252645135)).toUInt32 >>> ((nI 8).toUInt32 &&& Int32.toUInt32 31)).toInt32)))]) hx hb dJ6_bitCount_0f7a4_40 rfl hl (by decide) rfl (fun ls hl => ?_)
  refine lv_iload_n hx hb dJ6_bitCount_0f7a4_41 rfl (lv_at hl 0 rfl) ?_
  refine lv_iload_n hx hb dJ6_bitCount_0f7a4_42 rfl (lv_at hl 0 rfl) ?_
  refine lv_bipush (v := nI 16) hx hb dJ6_bitCount_0f7a4_43 (by decide +kernel) ?_
  refine lv_iushr (v := ((((((((nI v) - ((((nI v).toUInt32 >>> ((nI 1).toUInt32 &&& Int32.toUInt32 31)).toInt32) &&& (1431655765))) &&& (858993459)) + (((((nI v) - ((((nI v).toUInt32 >>> ((nI 1).toUInt32 &&& Int32.toUInt32 31)).toInt32) &&& (1431655765))).toUInt32 >>> ((nI 2).toUInt32 &&& Int32.toUInt32 31)).toInt32) &&& (858993459))) + ((((((nI v) - ((((nI v).toUInt32 >>> ((nI 1).toUInt32 &&& Int32.toUInt32 31)).toInt32) &&& (1431655765))) &&& (858993459)) + (((((nI v) - ((((nI v).toUInt32 >>> ((nI 1).toUInt32 &&& Int32.toUInt32 31)).toInt32) &&& (1431655765))).toUInt32 >>> ((nI 2).toUInt32 &&& Int32.toUInt32 31)).toInt32) &&& (858993459))).toUInt32 >>> ((nI 4).toUInt32 &&& Int32.toUInt32 31)).toInt32)) &&& (252645135)) + ((((((((nI v) - ((((nI v).toUInt32 >>> ((nI 1).toUInt32 &&& Int32.toUInt32 31)).toInt32) &&& (1431655765))) &&& (858993459)) + (((((nI v) - ((((nI v).toUInt32 >>> ((nI 1).toUInt32 &&& Int32.toUInt32 31)).toInt32) &&& (1431655765))).toUInt32 >>> ((nI 2).toUInt32 &&& Int32.toUInt32 31)).toInt32) &&& (858993459))) + ((((((nI v) - ((((nI v).toUInt32 >>> ((nI 1).toUInt32 &&& Int32.toUInt32 31)).toInt32) &&& (1431655765))) &&& (858993459)) + (((((nI v) - ((((nI v).toUInt32 >>> ((nI 1).toUInt32 &&& Int32.toUInt32 31)).toInt32) &&& (1431655765))).toUInt32 >>> ((nI 2).toUInt32 &&& Int32.toUInt32 31)).toInt32) &&& (858993459))).toUInt32 >>> ((nI 4).toUInt32 &&& Int32.toUInt32 31)).toInt32)) &&& (252645135)).toUInt32 >>> ((nI 8).toUInt32 &&& Int32.toUInt32 31)).toInt32)).toUInt32 >>> ((nI 16).toUInt32 &&& Int32.toUInt32 31)).toInt32) hx hb dJ6_bitCount_0f7a4_45 rfl ?_
  refine lv_iadd hx hb dJ6_bitCount_0f7a4_46 ?_
  refine lv_istore_n (lv' := [(0, .int ((((((((nI v) - ((((nI v).toUInt32 >>> ((nI 1).toUInt32 &&& Int32.toUInt32 31)).toInt32) &&& (1431655765))) &&& (858993459)) + (((((nI v) - ((((nI v).toUInt32 >>> ((nI 1).toUInt32 &&& Int32.toUInt32 31)).toInt32) &&& (1431655765))).toUInt32 >>> ((nI 2).toUInt32 &&& Int32.toUInt32 31)).toInt32) &&& (858993459))) + ((((((nI v) - ((((nI v).toUInt32 >>> ((nI 1).toUInt32 &&& Int32.toUInt32 31)).toInt32) &&& (1431655765))) &&& (858993459)) + (((((nI v) - ((((nI v).toUInt32 >>> ((nI 1).toUInt32 &&& Int32.toUInt32 31)).toInt32) &&& (1431655765))).toUInt32 >>> ((nI 2).toUInt32 &&& Int32.toUInt32 31)).toInt32) &&& (858993459))).toUInt32 >>> ((nI 4).toUInt32 &&& Int32.toUInt32 31)).toInt32)) &&& (252645135)) + ((((((((nI v) - ((((nI v).toUInt32 >>> ((nI 1).toUInt32 &&& Int32.toUInt32 31)).toInt32) &&& (1431655765))) &&& (858993459)) + (((((nI v) - ((((nI v).toUInt32 >>> ((nI 1).toUInt32 &&& Int32.toUInt32 31)).toInt32) &&& (1431655765))).toUInt32 >>> ((nI 2).toUInt32 &&& Int32.toUInt32 31)).toInt32) &&& (858993459))) + ((((((nI v) - ((((nI v).toUInt32 >>> ((nI 1).toUInt32 &&& Int32.toUInt32 31)).toInt32) &&& (1431655765))) &&& (858993459)) + (((((nI v) - ((((nI v).toUInt32 >>> ((nI 1).toUInt32 &&& Int32.toUInt32 31)).toInt32) &&& (1431655765))).toUInt32 >>> ((nI 2).toUInt32 &&& Int32.toUInt32 31)).toInt32) &&& (858993459))).toUInt32 >>> ((nI 4).toUInt32 &&& Int32.toUInt32 31)).toInt32)) &&& (252645135)).toUInt32 >>> ((nI 8).toUInt32 &&& Int32.toUInt32 31)).toInt32)) + (((((((((nI v) - ((((nI v).toUInt32 >>> ((nI 1).toUInt32 &&& Int32.toUInt32 31)).toInt32) &&& (1431655765))) &&& (858993459)) + (((((nI v) - ((((nI v).toUInt32 >>> ((nI 1).toUInt32 &&& Int32.toUInt32 31)).toInt32) &&& (1431655765))).toUInt32 >>> ((nI 2).toUInt32 &&& Int32.toUInt32 31)).toInt32) &&& (858993459))) + ((((((nI v) - ((((nI v).toUInt32 >>> ((nI 1).toUInt32 &&& Int32.toUInt32 31)).toInt32) &&& (1431655765))) &&& (858993459)) + (((((nI v) - ((((nI v).toUInt32 >>> ((nI 1).toUInt32 &&& Int32.toUInt32 31)).toInt32) &&& (1431655765))).toUInt32 >>> ((nI 2).toUInt32 &&& Int32.toUInt32 31)).toInt32) &&& (858993459))).toUInt32 >>> ((nI 4).toUInt32 &&& Int32.toUInt32 31)).toInt32)) &&& (252645135)) + ((((((((nI v) - ((((nI v).toUInt32 >>> ((nI 1).toUInt32 &&& Int32.toUInt32 31)).toInt32) &&& (1431655765))) &&& (858993459)) + (((((nI v) - ((((nI v).toUInt32 >>> ((nI 1).toUInt32 &&& Int32.toUInt32 31)).toInt32) &&& (1431655765))).toUInt32 >>> ((nI 2).toUInt32 &&& Int32.toUInt32 31)).toInt32) &&& (858993459))) + ((((((nI v) - ((((nI v).toUInt32 >>> ((nI 1).toUInt32 &&& Int32.toUInt32 31)).toInt32) &&& (1431655765))) &&& (858993459)) + (((((nI v) - ((((nI v).toUInt32 >>> ((nI 1).toUInt32 &&& Int32.toUInt32 31)).toInt32) &&& (1431655765))).toUInt32 >>> ((nI 2).toUInt32 &&& Int32.toUInt32 31)).toInt32) &&& (858993459))).toUInt32 >>> ((nI 4).toUInt32 &&& Int32.toUInt32 31)).toInt32)) &&& (252645135)).toUInt32 >>> ((nI 8).toUInt32 &&& Int32.toUInt32 31)).toInt32)).toUInt32 >>> ((nI 16).toUInt32 &&& Int32.toUInt32 31)).toInt32)))]) hx hb dJ6_bitCount_0f7a4_47 rfl hl (by decide) rfl (fun ls hl => ?_)
  refine lv_iload_n hx hb dJ6_bitCount_0f7a4_48 rfl (lv_at hl 0 rfl) ?_
  refine lv_bipush (v := nI 63) hx hb dJ6_bitCount_0f7a4_49 (by decide +kernel) ?_
  refine lv_iand hx hb dJ6_bitCount_0f7a4_51 ?_
  exact rt_i hQ hx hb hr hlocks hW dJ6_bitCount_0f7a4_52 () (congrArg (fun z => some (Value.int z)) (bc_eq v hv).symm) trivial rfl
abbrev rmX4_firm : Room := { frames := 6, cells := 0, slots := 0, locals := 143 }
set_option maxRecDepth 100000 in
set_option maxHeartbeats 4000000 in
theorem M_X4_firm (l : Launch) (D : va_G) (cI cJ : ClassId) (x fi ik : Nat) (la ta ka tp sh : Nat → Nat) (G T F : Nat → Nat) (hG : OkG 99999 G) (hfl9 : ∀ c, c < 6 → G (8 * c + 7) < 9999) (v z : Int32) : CE E0 l D vwCl [(cI, .int), (cJ, .long)] yX4_firm wsX4_firm rmX4_firm [.ref x, .int v, .int z] [xH x la ta ka tp sh fi ik, gW cI la G, gW cI ta T, aI cI fi 7 F] (S := (Nat → Nat)) (some (.int (firmV G v.toInt z.toInt))) (fun _ => True) (fun Tx : Nat → Nat => [xH x la ta ka tp sh fi ik, gW cI la G, gW cI ta Tx, aI cI fi 7 (firmF G F v.toInt z.toInt)]) 0 0 := by
  refine CE.ofW (cc := cX4_firm) (maxL := 7) (ret := (some .int)) (lv := [(0, .ref x), (1, .int v), (2, .int z)]) (by decide) rfl (Nat.le_of_ble_eq_true rfl) rfl ?_
  intro p e s m args below meth c ls A Q hQ hx hb hml hr hlocks hnm hown hts hK hA hE hW hl
  have hown : s.vm.findClass RX4 = some m.cls := hown
  obtain ⟨hg0, hg8, hg16, hg16b, hg24, hg32, hg40, hg48⟩ := hG.s
  refine lv_aload_n hx hb dX4_firm_0 rfl (lv_at hl 0 rfl) ?_
  refine sg_get (ci := 3) (C := RX4) (T := TX4) (N := 7) (v := .ref (la 0)) hx hb hts (fun _ h => List.mem_cons_of_mem _ (List.mem_append_left _ (List.mem_append_right _ h))) hown hK hW 0 0 rfl rfl rfl 0 (by decide) (hts _ (List.mem_of_getElem? (i := 1) rfl)) rfl dX4_firm_1 ?_
  refine lv_iload_n hx hb dX4_firm_4 rfl (lv_at hl 1 rfl) ?_
  refine cl_Vi (As := [.int v]) (rest := []) (C := RX0) ⟨hx, hb, hml, hown, hts⟩ (M_X0_hasChild l D cI cJ la G 99999 (by decide) hG v) (cwV 1 hts gX4_firm_X0_hasChild rfl rfl rfl qX0_hasChild ⟨Nat.le_of_ble_eq_true rfl, Nat.le_of_ble_eq_true rfl⟩) E0_good hK hA hW trivial [false, true] (fun _ => [xH x la ta ka tp sh fi ik, gW cI la G, gW cI ta T, aI cI fi 7 F]) rfl (fun _ => rfl) (fun _ => rfl) 1 0 rfl rfl rfl rfl hl.1 rfl (lv_room (Nat.le_of_ble_eq_true rfl)) dX4_firm_5 ⟨Nat.zero_le _, Nat.zero_le _⟩ (fun _ H locs _ hW => ?_)
  have him_ := inN_or v (G 48)
  refine nn_zeq (tgt := 18) hx hb dX4_firm_8 (by decide) (by omega) (fun c8 => ?_) (fun c8 => ?_)
  · refine lv_aload_n hx hb dX4_firm_18 rfl (lv_at hl 0 rfl) ?_
    refine lv_ldc (v := -1000000001) hx hb hown (hts _ (List.mem_of_getElem? (i := 2) rfl)) dX4_firm_19 ?_
    refine cl_Vi (As := [.int (-1000000001)]) (rest := []) (C := RX4) ⟨hx, hb, hml, hown, hts⟩ (M_X4_tell l D cI cJ x fi ik la ta ka tp sh F 0 (by decide) (-1000000001) (by decide +kernel)) (cwV 1 hts gX4_firm_X4_tell rfl rfl rfl qX4_tell ⟨Nat.le_of_ble_eq_true rfl, Nat.le_of_ble_eq_true rfl⟩) E0_good hK hA hW trivial [true, false, false, true] (fun _ => [xH x la ta ka tp sh fi ik, gW cI la G, gW cI ta T, aI cI fi 7 (up F 0 (F 0 + 1))]) rfl (fun _ => rfl) (fun _ => rfl) 0 0 rfl rfl rfl rfl hl.1 rfl (lv_room (Nat.le_of_ble_eq_true rfl)) dX4_firm_21 ⟨Nat.zero_le _, Nat.zero_le _⟩ (fun _ H locs _ hW => ?_)
    exact rt_i hQ hx hb hr hlocks hW dX4_firm_24 T (by (try simp only [firmV, skV]); (repeat' split) <;> first | rfl | (exfalso; omega)) trivial (by (try simp only [firmF, skF]); (repeat' split) <;> first | rfl | (exfalso; omega))
  · refine lv_iload_n hx hb dX4_firm_11 rfl (lv_at hl 2 rfl) ?_
    refine cl_Si (As := [.int z]) (rest := []) ⟨hx, hb, hml, hown, hts⟩ (M_X4_isNear l D cI cJ z) (va_cwS 1 hts gX4_firm_X4_isNear rfl rfl rfl qX4_isNear ⟨Nat.le_of_ble_eq_true rfl, Nat.le_of_ble_eq_true rfl⟩) E0_good hK hA hW trivial [] (fun _ => [xH x la ta ka tp sh fi ik, gW cI la G, gW cI ta T, aI cI fi 7 F]) rfl (fun _ => rfl) (fun _ => rfl) rfl hl.1 rfl (lv_room (Nat.le_of_ble_eq_true rfl)) dX4_firm_12 ⟨Nat.zero_le _, Nat.zero_le _⟩ (fun _ H locs _ hW => ?_)
    have hin_ := inZ_or z.toInt 1 60
    refine nn_zne (tgt := 25) hx hb dX4_firm_15 (by decide) (by omega) (fun c15 => ?_) (fun c15 => ?_)
    · obtain ⟨j, hj, ej⟩ : ∃ j : Nat, v = nI j ∧ v.toInt = (j : Int) := ⟨v.toInt.toNat, nI_ofZ rfl (by omega), by omega⟩
      rw [hj] at hl
      obtain ⟨y, hy, ey⟩ : ∃ y : Nat, z = nI y ∧ z.toInt = (y : Int) := ⟨z.toInt.toNat, nI_ofZ rfl (by omega), by omega⟩
      rw [hy] at hl
      have hf9 := hfl9 j (by omega)
      refine lv_aload_n hx hb dX4_firm_25 rfl (lv_at hl 0 rfl) ?_
      refine lv_iload_n hx hb dX4_firm_26 rfl (lv_at hl 1 rfl) ?_
      refine lv_sipush (v := nI 200) hx hb dX4_firm_27 (by decide +kernel) ?_
      refine lv_iload_n hx hb dX4_firm_30 rfl (lv_at hl 2 rfl) ?_
      refine cl_Vi (As := [.int (nI j), .int (nI 200), .int (nI y)]) (rest := []) (C := RX4) ⟨hx, hb, hml, hown, hts⟩ (M_X4_holdsWith l D cI cJ x fi ik la ta ka tp sh G T hG j 200 y (by omega) (by omega) (by omega)) (cwV 3 hts gX4_firm_X4_holdsWith rfl rfl rfl qX4_holdsWith ⟨Nat.le_of_ble_eq_true rfl, Nat.le_of_ble_eq_true rfl⟩) E0_good hK hA hW trivial [true, true, true] (fun _ => [xH x la ta ka tp sh fi ik, gW cI la G, gW cI ta (stepN (up G (8 * j + 5) 200) y), aI cI fi 7 F]) rfl (fun _ => rfl) (fun _ => rfl) 0 0 rfl rfl rfl rfl hl.1 rfl (lv_room (Nat.le_of_ble_eq_true rfl)) dX4_firm_31 ⟨Nat.zero_le _, Nat.zero_le _⟩ (fun _ H locs _ hW => ?_)
      have hhn_ := holdN_le G j 200 y
      refine nn_zne (tgt := 44) hx hb dX4_firm_34 (by decide) (by omega) (fun c34 => ?_) (fun c34 => ?_)
      · refine lv_iconst (v := nI 0) hx hb dX4_firm_44 (by decide +kernel) ?_
        refine lv_istore_n (lv' := [(3, .int (nI 0)), (0, .ref x), (1, .int (nI j)), (2, .int (nI y))]) hx hb dX4_firm_45 rfl hl (by decide) rfl (fun ls hl => ?_)
        refine lv_sipush (v := nI 200) hx hb dX4_firm_46 (by decide +kernel) ?_
        refine lv_istore (lv' := [(4, .int (nI 200)), (3, .int (nI 0)), (0, .ref x), (1, .int (nI j)), (2, .int (nI y))]) hx hb dX4_firm_49 hl (by decide) rfl (fun ls hl => ?_)
        refine lv_iconst (v := nI 0) hx hb dX4_firm_51 (by decide +kernel) ?_
        refine lv_istore (lv' := [(5, .int (nI 0)), (4, .int (nI 200)), (3, .int (nI 0)), (0, .ref x), (1, .int (nI j)), (2, .int (nI y))]) hx hb dX4_firm_52 hl (by decide) rfl (fun ls hl => ?_)
        have lp54 : ∀ (n : Nat) (st : Nat) (lw : Nat) (hg2 : Nat) (Ty : Nat → Nat), 8 - st < n → st ≤ 8 ∧ lw ≤ hg2 ∧ hg2 ≤ 200 → hg2 - lw < 2 ^ (8 - st) → holdN G j hg2 y = 1 → (∀ g, g < lw → holdN G j g y = 0) → ∀ (H : Heap) (locs : List Loc), Wo D vwCl A s.heap H locs [xH x la ta ka tp sh fi ik, gW cI la G, gW cI ta Ty, aI cI fi 7 F] → ∀ ls : Array Slot, lv_has ls 7 [(5, .int (nI st)), (4, .int (nI hg2)), (3, .int (nI lw)), (0, .ref x), (1, .int (nI j)), (2, .int (nI y))] → W p l e rmX4_firm s m args below meth c H locs 0 0 Q (F0 m 54 ls []) := by
          intro n
          induction n with
          | zero => intro st lw hg2 Ty hm; exact absurd hm (Nat.not_lt_zero _)
          | succ n ih =>
            intro st lw hg2 Ty hm hi hwd h1 h0 H locs hW ls hl
            refine lv_iload hx hb dX4_firm_54 (lv_at hl 0 rfl) ?_
            refine lv_bipush (v := nI 8) hx hb dX4_firm_56 (by decide +kernel) ?_
            refine nn_cge (tgt := 104) hx hb dX4_firm_58 (by decide) (by omega) (by decide) (fun c58 => ?_) (fun c58 => ?_)
            · have hsx : firmR G j y = hg2 := firmR_is (by omega) h1 (fun g hgl => h0 g (by have hp8 : st = 8 → 2 ^ (8 - st) = 1 := (fun q => by rw [q]); omega))
              refine lv_iload hx hb dX4_firm_104 (lv_at hl 1 rfl) ?_
              exact rt_i hQ hx hb hr hlocks hW dX4_firm_106 Ty (by (try simp only [firmV, skV, ej, ey, hsx, Int.toNat_natCast]); (repeat' split) <;> first | rfl | (exfalso; omega)) trivial (by (try simp only [firmF, skF, ej, ey, hsx, Int.toNat_natCast]); (repeat' split) <;> first | rfl | (exfalso; omega))
            · have hp2 : 2 ^ (8 - st) = 2 * 2 ^ (8 - (st + 1)) := by rw [show 8 - st = (8 - (st + 1)) + 1 by omega, Nat.pow_succ, Nat.mul_comm]
              refine lv_iload_n hx hb dX4_firm_61 rfl (lv_at hl 2 rfl) ?_
              refine lv_iload hx hb dX4_firm_62 (lv_at hl 1 rfl) ?_
              refine nn_cge (tgt := 104) hx hb dX4_firm_64 (by decide) (by omega) (by omega) (fun c64 => ?_) (fun c64 => ?_)
              · have hsx : firmR G j y = hg2 := firmR_is (by omega) h1 (fun g hgl => h0 g (by have hp8 : st = 8 → 2 ^ (8 - st) = 1 := (fun q => by rw [q]); omega))
                refine lv_iload hx hb dX4_firm_104 (lv_at hl 1 rfl) ?_
                exact rt_i hQ hx hb hr hlocks hW dX4_firm_106 Ty (by (try simp only [firmV, skV, ej, ey, hsx, Int.toNat_natCast]); (repeat' split) <;> first | rfl | (exfalso; omega)) trivial (by (try simp only [firmF, skF, ej, ey, hsx, Int.toNat_natCast]); (repeat' split) <;> first | rfl | (exfalso; omega))
              · refine lv_iload_n hx hb dX4_firm_67 rfl (lv_at hl 2 rfl) ?_
                refine lv_iload hx hb dX4_firm_68 (lv_at hl 1 rfl) ?_
                refine nn_add hx hb dX4_firm_70 ?_
                refine lv_iconst (v := nI 2) hx hb dX4_firm_71 (by decide +kernel) ?_
                refine nn_div hx hb dX4_firm_72 (by omega) (by decide) (by decide) ?_
                refine lv_istore (lv' := [(6, .int (nI ((lw + hg2) / 2))), (5, .int (nI st)), (4, .int (nI hg2)), (3, .int (nI lw)), (0, .ref x), (1, .int (nI j)), (2, .int (nI y))]) hx hb dX4_firm_73 hl (by decide) rfl (fun ls hl => ?_)
                refine lv_aload_n hx hb dX4_firm_75 rfl (lv_at hl 4 rfl) ?_
                refine lv_iload_n hx hb dX4_firm_76 rfl (lv_at hl 5 rfl) ?_
                refine lv_iload hx hb dX4_firm_77 (lv_at hl 0 rfl) ?_
                refine lv_iload_n hx hb dX4_firm_79 rfl (lv_at hl 6 rfl) ?_
                refine cl_Vi (As := [.int (nI j), .int (nI ((lw + hg2) / 2)), .int (nI y)]) (rest := []) (C := RX4) ⟨hx, hb, hml, hown, hts⟩ (M_X4_holdsWith l D cI cJ x fi ik la ta ka tp sh G Ty hG j ((lw + hg2) / 2) y (by omega) (by omega) (by omega)) (cwV 3 hts gX4_firm_X4_holdsWith rfl rfl rfl qX4_holdsWith ⟨Nat.le_of_ble_eq_true rfl, Nat.le_of_ble_eq_true rfl⟩) E0_good hK hA hW trivial [true, true, true] (fun _ => [xH x la ta ka tp sh fi ik, gW cI la G, gW cI ta (stepN (up G (8 * j + 5) ((lw + hg2) / 2)) y), aI cI fi 7 F]) rfl (fun _ => rfl) (fun _ => rfl) 0 0 rfl rfl rfl rfl hl.1 rfl (lv_room (Nat.le_of_ble_eq_true rfl)) dX4_firm_80 ⟨Nat.zero_le _, Nat.zero_le _⟩ (fun _ H locs _ hW => ?_)
                have hhn_ := holdN_le G j ((lw + hg2) / 2) y
                refine nn_zeq (tgt := 93) hx hb dX4_firm_83 (by decide) (by omega) (fun c83 => ?_) (fun c83 => ?_)
                · refine lv_iload hx hb dX4_firm_93 (lv_at hl 0 rfl) ?_
                  refine lv_iconst (v := nI 1) hx hb dX4_firm_95 (by decide +kernel) ?_
                  refine nn_add hx hb dX4_firm_96 ?_
                  refine lv_istore_n (lv' := [(3, .int (nI (((lw + hg2) / 2) + 1))), (6, .int (nI ((lw + hg2) / 2))), (5, .int (nI st)), (4, .int (nI hg2)), (0, .ref x), (1, .int (nI j)), (2, .int (nI y))]) hx hb dX4_firm_97 rfl hl (by decide) rfl (fun ls hl => ?_)
                  refine lv_iinc (v := nI (st + 1)) (lv' := [(5, .int (nI (st + 1))), (3, .int (nI (((lw + hg2) / 2) + 1))), (6, .int (nI ((lw + hg2) / 2))), (4, .int (nI hg2)), (0, .ref x), (1, .int (nI j)), (2, .int (nI y))]) hx hb dX4_firm_98 hl (k := 2) rfl (nI_add _ 1) (by decide) rfl (fun ls hl => ?_)
                  refine lv_goto (tgt := 54) hx hb dX4_firm_101 (by decide) ?_
                  exact ih (st + 1) ((lw + hg2) / 2 + 1) hg2 (stepN (up G (8 * j + 5) ((lw + hg2) / 2)) y) (by omega) (by omega) (by omega) h1 (fun g hgl => Nat.eq_zero_of_not_pos (fun hp => by have := holdN_mono hG (c := j) (by omega) hf9 (g := g) (g' := (lw + hg2) / 2) (n := y) (by omega) (by omega) (by omega); omega)) _ _ hW _ (lv_sub hl [0, 3, 1, 4, 5, 6] rfl)
                · refine lv_iload hx hb dX4_firm_86 (lv_at hl 0 rfl) ?_
                  refine lv_istore (lv' := [(4, .int (nI ((lw + hg2) / 2))), (6, .int (nI ((lw + hg2) / 2))), (5, .int (nI st)), (3, .int (nI lw)), (0, .ref x), (1, .int (nI j)), (2, .int (nI y))]) hx hb dX4_firm_88 hl (by decide) rfl (fun ls hl => ?_)
                  refine lv_goto (tgt := 98) hx hb dX4_firm_90 (by decide) ?_
                  refine lv_iinc (v := nI (st + 1)) (lv' := [(5, .int (nI (st + 1))), (4, .int (nI ((lw + hg2) / 2))), (6, .int (nI ((lw + hg2) / 2))), (3, .int (nI lw)), (0, .ref x), (1, .int (nI j)), (2, .int (nI y))]) hx hb dX4_firm_98 hl (k := 2) rfl (nI_add _ 1) (by decide) rfl (fun ls hl => ?_)
                  refine lv_goto (tgt := 54) hx hb dX4_firm_101 (by decide) ?_
                  exact ih (st + 1) lw ((lw + hg2) / 2) (stepN (up G (8 * j + 5) ((lw + hg2) / 2)) y) (by omega) (by omega) (by omega) (by omega) h0 _ _ hW _ (lv_sub hl [0, 1, 3, 4, 5, 6] rfl)
        exact lp54 (8 - 0 + 1) 0 0 200 (stepN (up G (8 * j + 5) 200) y) (Nat.lt_succ_self _) (by omega) (by decide) (by omega) (fun g hgl => absurd hgl (Nat.not_lt_zero g)) _ _ hW _ (lv_sub hl [0, 1, 2, 3, 4, 5] rfl)
      · have hsx : firmR G j y = 201 := firmR_none hG (c := j) (by omega) hf9 (by omega)
        refine lv_aload_n hx hb dX4_firm_37 rfl (lv_at hl 0 rfl) ?_
        refine lv_ldc (v := -1000000004) hx hb hown (hts _ (List.mem_of_getElem? (i := 3) rfl)) dX4_firm_38 ?_
        refine cl_Vi (As := [.int (-1000000004)]) (rest := []) (C := RX4) ⟨hx, hb, hml, hown, hts⟩ (M_X4_tell l D cI cJ x fi ik la ta ka tp sh F 3 (by decide) (-1000000004) (by decide +kernel)) (cwV 1 hts gX4_firm_X4_tell rfl rfl rfl qX4_tell ⟨Nat.le_of_ble_eq_true rfl, Nat.le_of_ble_eq_true rfl⟩) E0_good hK hA hW trivial [true, false, false, true] (fun _ => [xH x la ta ka tp sh fi ik, gW cI la G, gW cI ta (stepN (up G (8 * j + 5) 200) y), aI cI fi 7 (up F 3 (F 3 + 1))]) rfl (fun _ => rfl) (fun _ => rfl) 0 0 rfl rfl rfl rfl hl.1 rfl (lv_room (Nat.le_of_ble_eq_true rfl)) dX4_firm_40 ⟨Nat.zero_le _, Nat.zero_le _⟩ (fun _ H locs _ hW => ?_)
        exact rt_i hQ hx hb hr hlocks hW dX4_firm_43 (stepN (up G (8 * j + 5) 200) y) (by (try simp only [firmV, skV, ej, ey, hsx, Int.toNat_natCast]); (repeat' split) <;> first | rfl | (exfalso; omega)) trivial (by (try simp only [firmF, skF, ej, ey, hsx, Int.toNat_natCast]); (repeat' split) <;> first | rfl | (exfalso; omega))
    · refine lv_aload_n hx hb dX4_firm_18 rfl (lv_at hl 0 rfl) ?_
      refine lv_ldc (v := -1000000001) hx hb hown (hts _ (List.mem_of_getElem? (i := 2) rfl)) dX4_firm_19 ?_
      refine cl_Vi (As := [.int (-1000000001)]) (rest := []) (C := RX4) ⟨hx, hb, hml, hown, hts⟩ (M_X4_tell l D cI cJ x fi ik la ta ka tp sh F 0 (by decide) (-1000000001) (by decide +kernel)) (cwV 1 hts gX4_firm_X4_tell rfl rfl rfl qX4_tell ⟨Nat.le_of_ble_eq_true rfl, Nat.le_of_ble_eq_true rfl⟩) E0_good hK hA hW trivial [true, false, false, true] (fun _ => [xH x la ta ka tp sh fi ik, gW cI la G, gW cI ta T, aI cI fi 7 (up F 0 (F 0 + 1))]) rfl (fun _ => rfl) (fun _ => rfl) 0 0 rfl rfl rfl rfl hl.1 rfl (lv_room (Nat.le_of_ble_eq_true rfl)) dX4_firm_21 ⟨Nat.zero_le _, Nat.zero_le _⟩ (fun _ H locs _ hW => ?_)
      exact rt_i hQ hx hb hr hlocks hW dX4_firm_24 T (by (try simp only [firmV, skV]); (repeat' split) <;> first | rfl | (exfalso; omega)) trivial (by (try simp only [firmF, skF]); (repeat' split) <;> first | rfl | (exfalso; omega))
theorem lstN_or (o : Nat) : (o = 0 ∧ lstN o = 9) ∨ (¬ o = 0 ∧ lstN o = bitsN (o - 1)) := by
  unfold lstN; split
  · exact Or.inl ⟨by assumption, rfl⟩
  · exact Or.inr ⟨by assumption, rfl⟩
abbrev rmX4_fewest : Room := { frames := 4, cells := 0, slots := 0, locals := 96 }
set_option maxRecDepth 100000 in
set_option maxHeartbeats 4000000 in
theorem M_X4_fewest (l : Launch) (D : va_G) (cI cJ : ClassId) (x fi ik : Nat) (la ta ka tp sh : Nat → Nat) (G T F : Nat → Nat) (hG : OkG 99999 G) (z : Int32) : CE E0 l D vwCl [(cI, .int), (cJ, .long)] yX4_fewest wsX4_fewest rmX4_fewest [.ref x, .int z] [xH x la ta ka tp sh fi ik, gW cI la G, gW cI ta T, aI cI fi 7 F] (S := (Nat → Nat)) (some (.int (fewestV G z.toInt))) (fun _ => True) (fun Tx : Nat → Nat => [xH x la ta ka tp sh fi ik, gW cI la G, gW cI ta Tx, aI cI fi 7 (fewestF G F z.toInt)]) 0 0 := by
  refine CE.ofW (cc := cX4_fewest) (maxL := 8) (ret := (some .int)) (lv := [(0, .ref x), (1, .int z)]) (by decide) rfl (Nat.le_of_ble_eq_true rfl) rfl ?_
  intro p e s m args below meth c ls A Q hQ hx hb hml hr hlocks hnm hown hts hK hA hE hW hl
  have hown : s.vm.findClass RX4 = some m.cls := hown
  obtain ⟨hg0, hg8, hg16, hg16b, hg24, hg32, hg40, hg48⟩ := hG.s
  refine lv_iload_n hx hb dX4_fewest_0 rfl (lv_at hl 1 rfl) ?_
  refine zz_zlt (tgt := 11) hx hb dX4_fewest_1 (by decide) (rfl : z.toInt = z.toInt) (fun c1 => ?_) (fun c1 => ?_)
  · refine lv_aload_n hx hb dX4_fewest_11 rfl (lv_at hl 0 rfl) ?_
    refine lv_ldc (v := -1000000001) hx hb hown (hts _ (List.mem_of_getElem? (i := 1) rfl)) dX4_fewest_12 ?_
    refine cl_Vi (As := [.int (-1000000001)]) (rest := []) (C := RX4) ⟨hx, hb, hml, hown, hts⟩ (M_X4_tell l D cI cJ x fi ik la ta ka tp sh F 0 (by decide) (-1000000001) (by decide +kernel)) (cwV 1 hts gX4_fewest_X4_tell rfl rfl rfl qX4_tell ⟨Nat.le_of_ble_eq_true rfl, Nat.le_of_ble_eq_true rfl⟩) E0_good hK hA hW trivial [true, false, false, true] (fun _ => [xH x la ta ka tp sh fi ik, gW cI la G, gW cI ta T, aI cI fi 7 (up F 0 (F 0 + 1))]) rfl (fun _ => rfl) (fun _ => rfl) 0 0 rfl rfl rfl rfl hl.1 rfl (lv_room (Nat.le_of_ble_eq_true rfl)) dX4_fewest_14 ⟨Nat.zero_le _, Nat.zero_le _⟩ (fun _ H locs _ hW => ?_)
    exact rt_i hQ hx hb hr hlocks hW dX4_fewest_17 T (by (try simp only [fewestV, orV, bst]); (repeat' split) <;> first | rfl | (exfalso; omega)) trivial (by (try simp only [fewestF, orF]); (repeat' split) <;> first | rfl | (exfalso; omega))
  · refine lv_iload_n hx hb dX4_fewest_4 rfl (lv_at hl 1 rfl) ?_
    refine lv_sipush (v := nI 9999) hx hb dX4_fewest_5 (by decide +kernel) ?_
    refine zz_cle (tgt := 18) hx hb dX4_fewest_8 (by decide) (rfl : z.toInt = z.toInt) (nI_toInt (n := 9999) (by decide)) (fun c8 => ?_) (fun c8 => ?_)
    · obtain ⟨y, hy, ey⟩ : ∃ y : Nat, z = nI y ∧ z.toInt = (y : Int) := ⟨z.toInt.toNat, nI_ofZ rfl (by omega), by omega⟩
      rw [hy] at hl
      have h256 := pow8 hg40
      have hos9 := outS_lt hG
      refine lv_iconst (v := nI 1) hx hb dX4_fewest_18 (by decide +kernel) ?_
      refine lv_aload_n hx hb dX4_fewest_19 rfl (lv_at hl 0 rfl) ?_
      refine sg_get (ci := 3) (C := RX4) (T := TX4) (N := 7) (v := .ref (la 0)) hx hb hts (fun _ h => List.mem_cons_of_mem _ (List.mem_append_left _ (List.mem_append_right _ h))) hown hK hW 0 0 rfl rfl rfl 0 (by decide) (hts _ (List.mem_of_getElem? (i := 2) rfl)) rfl dX4_fewest_20 ?_
      refine sg_get (ci := 0) (C := RX0) (T := TX0) (N := 14) (v := .int (nI (G 40))) hx hb hts (fun _ h => List.mem_cons_of_mem _ (List.mem_append_right _ h)) hown hK hW 1 0 rfl rfl rfl 5 (by decide) (hts _ (List.mem_of_getElem? (i := 3) rfl)) rfl dX4_fewest_23 ?_
      refine nn_shl hx hb dX4_fewest_26 (by omega) ?_
      refine lv_istore_n (lv' := [(2, .int (nI (1 * 2 ^ (G 40)))), (0, .ref x), (1, .int (nI y))]) hx hb dX4_fewest_27 rfl hl (by decide) rfl (fun ls hl => ?_)
      refine lv_aload_n hx hb dX4_fewest_28 rfl (lv_at hl 1 rfl) ?_
      refine sg_get (ci := 3) (C := RX4) (T := TX4) (N := 7) (v := .ref (la 0)) hx hb hts (fun _ h => List.mem_cons_of_mem _ (List.mem_append_left _ (List.mem_append_right _ h))) hown hK hW 0 0 rfl rfl rfl 0 (by decide) (hts _ (List.mem_of_getElem? (i := 2) rfl)) rfl dX4_fewest_29 ?_
      refine cl_Vi (As := []) (rest := []) (C := RX0) ⟨hx, hb, hml, hown, hts⟩ (M_X0_outSet l D cI cJ la G 99999 (by decide) hG) (cwV 0 hts gX4_fewest_X0_outSet rfl rfl rfl qX0_outSet ⟨Nat.le_of_ble_eq_true rfl, Nat.le_of_ble_eq_true rfl⟩) E0_good hK hA hW trivial [false, true] (fun _ => [xH x la ta ka tp sh fi ik, gW cI la G, gW cI ta T, aI cI fi 7 F]) rfl (fun _ => rfl) (fun _ => rfl) 1 0 rfl rfl rfl rfl hl.1 rfl (lv_room (Nat.le_of_ble_eq_true rfl)) dX4_fewest_32 ⟨Nat.zero_le _, Nat.zero_le _⟩ (fun _ H locs _ hW => ?_)
      refine lv_istore_n (lv' := [(3, .int (nI (outS G))), (2, .int (nI (1 * 2 ^ (G 40)))), (0, .ref x), (1, .int (nI y))]) hx hb dX4_fewest_35 rfl hl (by decide) rfl (fun ls hl => ?_)
      refine lv_iconst (v := -1) hx hb dX4_fewest_36 (by decide +kernel) ?_
      refine lv_istore (lv' := [(4, .int (-1)), (3, .int (nI (outS G))), (2, .int (nI (1 * 2 ^ (G 40)))), (0, .ref x), (1, .int (nI y))]) hx hb dX4_fewest_37 hl (by decide) rfl (fun ls hl => ?_)
      refine lv_bipush (v := nI 9) hx hb dX4_fewest_39 (by decide +kernel) ?_
      refine lv_istore (lv' := [(5, .int (nI 9)), (4, .int (-1)), (3, .int (nI (outS G))), (2, .int (nI (1 * 2 ^ (G 40)))), (0, .ref x), (1, .int (nI y))]) hx hb dX4_fewest_41 hl (by decide) rfl (fun ls hl => ?_)
      refine lv_iconst (v := nI 0) hx hb dX4_fewest_43 (by decide +kernel) ?_
      refine lv_istore (lv' := [(6, .int (nI 0)), (5, .int (nI 9)), (4, .int (-1)), (3, .int (nI (outS G))), (2, .int (nI (1 * 2 ^ (G 40)))), (0, .ref x), (1, .int (nI y))]) hx hb dX4_fewest_44 hl (by decide) rfl (fun ls hl => ?_)
      have lp46 : ∀ (n : Nat) (i : Nat) (o : Nat) (Ty : Nat → Nat), 2 ^ G 40 - i < n → i ≤ 2 ^ G 40 → fewSt G y i = o → ∀ (H : Heap) (locs : List Loc), Wo D vwCl A s.heap H locs [xH x la ta ka tp sh fi ik, gW cI la G, gW cI ta Ty, aI cI fi 7 F] → ∀ ls : Array Slot, lv_has ls 8 [(6, .int (nI i)), (5, .int (nI (lstN o))), (4, .int (bst o)), (3, .int (nI (outS G))), (2, .int (nI (1 * 2 ^ (G 40)))), (0, .ref x), (1, .int (nI y))] → W p l e rmX4_fewest s m args below meth c H locs 0 0 Q (F0 m 46 ls []) := by
        intro n
        induction n with
        | zero => intro i o Ty hm; exact absurd hm (Nat.not_lt_zero _)
        | succ n ih =>
          intro i o Ty hm hi hst H locs hW ls hl
          have hstl : o ≤ i := by have := fewSt_le G y i; omega
          refine lv_iload hx hb dX4_fewest_46 (lv_at hl 0 rfl) ?_
          refine lv_iload_n hx hb dX4_fewest_48 rfl (lv_at hl 4 rfl) ?_
          refine nn_cge (tgt := 97) hx hb dX4_fewest_49 (by decide) (by omega) (by omega) (fun c49 => ?_) (fun c49 => ?_)
          · have hsx : fewSt G y (2 ^ G 40) = o := by rw [← show i = 2 ^ G 40 by omega]; exact hst
            refine lv_iload hx hb dX4_fewest_97 (lv_at hl 2 rfl) ?_
            refine zz_zge (tgt := 111) hx hb dX4_fewest_99 (by decide) (bst_toInt (o := o) (by omega)) (fun c99 => ?_) (fun c99 => ?_)
            · refine lv_iload hx hb dX4_fewest_111 (lv_at hl 2 rfl) ?_
              exact rt_i hQ hx hb hr hlocks hW dX4_fewest_113 Ty (by (try simp only [fewestV, orV, bst, ey, hsx, Int.toNat_natCast]); (repeat' split) <;> first | rfl | (exfalso; omega)) trivial (by (try simp only [fewestF, orF, ey, hsx, Int.toNat_natCast]); (repeat' split) <;> first | rfl | (exfalso; omega))
            · refine lv_aload_n hx hb dX4_fewest_102 rfl (lv_at hl 5 rfl) ?_
              refine lv_ldc (v := -1000000004) hx hb hown (hts _ (List.mem_of_getElem? (i := 4) rfl)) dX4_fewest_103 ?_
              refine cl_Vi (As := [.int (-1000000004)]) (rest := []) (C := RX4) ⟨hx, hb, hml, hown, hts⟩ (M_X4_tell l D cI cJ x fi ik la ta ka tp sh F 3 (by decide) (-1000000004) (by decide +kernel)) (cwV 1 hts gX4_fewest_X4_tell rfl rfl rfl qX4_tell ⟨Nat.le_of_ble_eq_true rfl, Nat.le_of_ble_eq_true rfl⟩) E0_good hK hA hW trivial [true, false, false, true] (fun _ => [xH x la ta ka tp sh fi ik, gW cI la G, gW cI ta Ty, aI cI fi 7 (up F 3 (F 3 + 1))]) rfl (fun _ => rfl) (fun _ => rfl) 0 0 rfl rfl rfl rfl hl.1 rfl (lv_room (Nat.le_of_ble_eq_true rfl)) dX4_fewest_105 ⟨Nat.zero_le _, Nat.zero_le _⟩ (fun _ H locs _ hW => ?_)
              refine lv_goto (tgt := 113) hx hb dX4_fewest_108 (by decide) ?_
              exact rt_i hQ hx hb hr hlocks hW dX4_fewest_113 Ty (by (try simp only [fewestV, orV, bst, ey, hsx, Int.toNat_natCast]); (repeat' split) <;> first | rfl | (exfalso; omega)) trivial (by (try simp only [fewestF, orF, ey, hsx, Int.toNat_natCast]); (repeat' split) <;> first | rfl | (exfalso; omega))
          · have hand := Nat.and_le_right (n := i) (m := outS G)
            have hbi := bitsN_le i
            have hbo9 := bitsN_le (o - 1)
            have hpc : pushN (comeG G i) ≤ 8800 := pushN_le (comeTo_ok hG i (G 40))
            have hlo := lstN_or o
            refine lv_iload hx hb dX4_fewest_52 (lv_at hl 0 rfl) ?_
            refine cl_Si (As := [.int (nI i)]) (rest := []) ⟨hx, hb, hml, hown, hts⟩ (M_J6_bitCount_0f7a4 l D cI cJ i (by omega)) (va_cwS 1 hts gX4_fewest_J6_bitCount_0f7a4 rfl rfl rfl qJ6_bitCount_0f7a4 ⟨Nat.le_of_ble_eq_true rfl, Nat.le_of_ble_eq_true rfl⟩) E0_good hK hA hW trivial [] (fun _ => [xH x la ta ka tp sh fi ik, gW cI la G, gW cI ta Ty, aI cI fi 7 F]) rfl (fun _ => rfl) (fun _ => rfl) rfl hl.1 rfl (lv_room (Nat.le_of_ble_eq_true rfl)) dX4_fewest_54 ⟨Nat.zero_le _, Nat.zero_le _⟩ (fun _ H locs _ hW => ?_)
            refine lv_istore (lv' := [(7, .int (nI (bitsN i))), (6, .int (nI i)), (5, .int (nI (lstN o))), (4, .int (bst o)), (3, .int (nI (outS G))), (2, .int (nI (1 * 2 ^ (G 40)))), (0, .ref x), (1, .int (nI y))]) hx hb dX4_fewest_57 hl (by decide) rfl (fun ls hl => ?_)
            refine lv_iload hx hb dX4_fewest_59 (lv_at hl 0 rfl) ?_
            refine lv_iload hx hb dX4_fewest_61 (lv_at hl 2 rfl) ?_
            refine nn_cge (tgt := 91) hx hb dX4_fewest_63 (by decide) (by omega) (by omega) (fun c63 => ?_) (fun c63 => ?_)
            · have hst2 : fewSt G y (i + 1) = o := by
                show (if i &&& outS G = 0 ∧ (fewSt G y i = 0 ∨ bitsN i < bitsN (fewSt G y i - 1)) ∧ y ≤ pushN (comeG G i) then i + 1 else fewSt G y i) = _
                rw [hst, if_neg (by omega)]
              refine lv_iinc (v := nI (i + 1)) (lv' := [(6, .int (nI (i + 1))), (7, .int (nI (bitsN i))), (5, .int (nI (lstN o))), (4, .int (bst o)), (3, .int (nI (outS G))), (2, .int (nI (1 * 2 ^ (G 40)))), (0, .ref x), (1, .int (nI y))]) hx hb dX4_fewest_91 hl (k := 1) rfl (nI_add _ 1) (by decide) rfl (fun ls hl => ?_)
              refine lv_goto (tgt := 46) hx hb dX4_fewest_94 (by decide) ?_
              exact ih (i + 1) o Ty (by omega) (by omega) hst2 _ _ hW _ (lv_sub hl [0, 2, 3, 4, 5, 6, 7] rfl)
            · refine lv_iload hx hb dX4_fewest_66 (lv_at hl 1 rfl) ?_
              refine lv_iload_n hx hb dX4_fewest_68 rfl (lv_at hl 4 rfl) ?_
              refine nn_and hx hb dX4_fewest_69 ?_
              refine nn_zne (tgt := 91) hx hb dX4_fewest_70 (by decide) (by omega) (fun c70 => ?_) (fun c70 => ?_)
              · have hst2 : fewSt G y (i + 1) = o := by
                  show (if i &&& outS G = 0 ∧ (fewSt G y i = 0 ∨ bitsN i < bitsN (fewSt G y i - 1)) ∧ y ≤ pushN (comeG G i) then i + 1 else fewSt G y i) = _
                  rw [hst, if_neg (by omega)]
                refine lv_iinc (v := nI (i + 1)) (lv' := [(6, .int (nI (i + 1))), (7, .int (nI (bitsN i))), (5, .int (nI (lstN o))), (4, .int (bst o)), (3, .int (nI (outS G))), (2, .int (nI (1 * 2 ^ (G 40)))), (0, .ref x), (1, .int (nI y))]) hx hb dX4_fewest_91 hl (k := 1) rfl (nI_add _ 1) (by decide) rfl (fun ls hl => ?_)
                refine lv_goto (tgt := 46) hx hb dX4_fewest_94 (by decide) ?_
                exact ih (i + 1) o Ty (by omega) (by omega) hst2 _ _ hW _ (lv_sub hl [0, 2, 3, 4, 5, 6, 7] rfl)
              · refine lv_aload_n hx hb dX4_fewest_73 rfl (lv_at hl 6 rfl) ?_
                refine lv_iload hx hb dX4_fewest_74 (lv_at hl 1 rfl) ?_
                refine cl_Vi (As := [.int (nI i)]) (rest := []) (C := RX4) ⟨hx, hb, hml, hown, hts⟩ (M_X4_pushWith l D cI cJ x fi ik la ta ka tp sh G Ty hG i (by omega)) (cwV 1 hts gX4_fewest_X4_pushWith rfl rfl rfl qX4_pushWith ⟨Nat.le_of_ble_eq_true rfl, Nat.le_of_ble_eq_true rfl⟩) E0_good hK hA hW trivial [true, true, true] (fun _ => [xH x la ta ka tp sh fi ik, gW cI la G, gW cI ta (comeG G i), aI cI fi 7 F]) rfl (fun _ => rfl) (fun _ => rfl) 0 0 rfl rfl rfl rfl hl.1 rfl (lv_room (Nat.le_of_ble_eq_true rfl)) dX4_fewest_76 ⟨Nat.zero_le _, Nat.zero_le _⟩ (fun _ H locs _ hW => ?_)
                refine lv_iload_n hx hb dX4_fewest_79 rfl (lv_at hl 7 rfl) ?_
                refine nn_clt (tgt := 91) hx hb dX4_fewest_80 (by decide) (by omega) (by omega) (fun c80 => ?_) (fun c80 => ?_)
                · have hst2 : fewSt G y (i + 1) = o := by
                    show (if i &&& outS G = 0 ∧ (fewSt G y i = 0 ∨ bitsN i < bitsN (fewSt G y i - 1)) ∧ y ≤ pushN (comeG G i) then i + 1 else fewSt G y i) = _
                    rw [hst, if_neg (by omega)]
                  refine lv_iinc (v := nI (i + 1)) (lv' := [(6, .int (nI (i + 1))), (7, .int (nI (bitsN i))), (5, .int (nI (lstN o))), (4, .int (bst o)), (3, .int (nI (outS G))), (2, .int (nI (1 * 2 ^ (G 40)))), (0, .ref x), (1, .int (nI y))]) hx hb dX4_fewest_91 hl (k := 1) rfl (nI_add _ 1) (by decide) rfl (fun ls hl => ?_)
                  refine lv_goto (tgt := 46) hx hb dX4_fewest_94 (by decide) ?_
                  exact ih (i + 1) o (comeG G i) (by omega) (by omega) hst2 _ _ hW _ (lv_sub hl [0, 2, 3, 4, 5, 6, 7] rfl)
                · refine lv_iload hx hb dX4_fewest_83 (lv_at hl 1 rfl) ?_
                  refine lv_istore (lv' := [(4, .int (nI i)), (7, .int (nI (bitsN i))), (6, .int (nI i)), (5, .int (nI (lstN o))), (3, .int (nI (outS G))), (2, .int (nI (1 * 2 ^ (G 40)))), (0, .ref x), (1, .int (nI y))]) hx hb dX4_fewest_85 hl (by decide) rfl (fun ls hl => ?_)
                  refine lv_iload hx hb dX4_fewest_87 (lv_at hl 1 rfl) ?_
                  refine lv_istore (lv' := [(5, .int (nI (bitsN i))), (4, .int (nI i)), (7, .int (nI (bitsN i))), (6, .int (nI i)), (3, .int (nI (outS G))), (2, .int (nI (1 * 2 ^ (G 40)))), (0, .ref x), (1, .int (nI y))]) hx hb dX4_fewest_89 hl (by decide) rfl (fun ls hl => ?_)
                  have hst2 : fewSt G y (i + 1) = i + 1 := by
                    show (if i &&& outS G = 0 ∧ (fewSt G y i = 0 ∨ bitsN i < bitsN (fewSt G y i - 1)) ∧ y ≤ pushN (comeG G i) then i + 1 else fewSt G y i) = _
                    rw [hst, if_pos (by omega)]
                  have hb1 : nI i = bst (i + 1) := (if_neg (Nat.succ_ne_zero _)).symm
                  have hl : lv_has ls 8 [(5, .int (nI (bitsN i))), (4, .int (bst (i + 1))), (7, .int (nI (bitsN i))), (6, .int (nI i)), (3, .int (nI (outS G))), (2, .int (nI (1 * 2 ^ (G 40)))), (0, .ref x), (1, .int (nI y))] := by rw [← hb1]; exact hl
                  have hb2 : nI (bitsN i) = nI (lstN (i + 1)) := (congrArg nI (if_neg (Nat.succ_ne_zero _)).symm)
                  have hl : lv_has ls 8 [(5, .int (nI (lstN (i + 1)))), (4, .int (bst (i + 1))), (7, .int (nI (bitsN i))), (6, .int (nI i)), (3, .int (nI (outS G))), (2, .int (nI (1 * 2 ^ (G 40)))), (0, .ref x), (1, .int (nI y))] := by rw [← hb2]; exact hl
                  refine lv_iinc (v := nI (i + 1)) (lv' := [(6, .int (nI (i + 1))), (5, .int (nI (lstN (i + 1)))), (4, .int (bst (i + 1))), (7, .int (nI (bitsN i))), (3, .int (nI (outS G))), (2, .int (nI (1 * 2 ^ (G 40)))), (0, .ref x), (1, .int (nI y))]) hx hb dX4_fewest_91 hl (k := 3) rfl (nI_add _ 1) (by decide) rfl (fun ls hl => ?_)
                  refine lv_goto (tgt := 46) hx hb dX4_fewest_94 (by decide) ?_
                  exact ih (i + 1) (i + 1) (comeG G i) (by omega) (by omega) hst2 _ _ hW _ (lv_sub hl [0, 1, 2, 4, 5, 6, 7] rfl)
      exact lp46 (2 ^ G 40 - 0 + 1) 0 0 T (Nat.lt_succ_self _) (Nat.zero_le _) rfl _ _ hW _ (lv_sub hl [0, 1, 2, 3, 4, 5, 6] rfl)
    · refine lv_aload_n hx hb dX4_fewest_11 rfl (lv_at hl 0 rfl) ?_
      refine lv_ldc (v := -1000000001) hx hb hown (hts _ (List.mem_of_getElem? (i := 1) rfl)) dX4_fewest_12 ?_
      refine cl_Vi (As := [.int (-1000000001)]) (rest := []) (C := RX4) ⟨hx, hb, hml, hown, hts⟩ (M_X4_tell l D cI cJ x fi ik la ta ka tp sh F 0 (by decide) (-1000000001) (by decide +kernel)) (cwV 1 hts gX4_fewest_X4_tell rfl rfl rfl qX4_tell ⟨Nat.le_of_ble_eq_true rfl, Nat.le_of_ble_eq_true rfl⟩) E0_good hK hA hW trivial [true, false, false, true] (fun _ => [xH x la ta ka tp sh fi ik, gW cI la G, gW cI ta T, aI cI fi 7 (up F 0 (F 0 + 1))]) rfl (fun _ => rfl) (fun _ => rfl) 0 0 rfl rfl rfl rfl hl.1 rfl (lv_room (Nat.le_of_ble_eq_true rfl)) dX4_fewest_14 ⟨Nat.zero_le _, Nat.zero_le _⟩ (fun _ H locs _ hW => ?_)
      exact rt_i hQ hx hb hr hlocks hW dX4_fewest_17 T (by (try simp only [fewestV, orV, bst]); (repeat' split) <;> first | rfl | (exfalso; omega)) trivial (by (try simp only [fewestF, orF]); (repeat' split) <;> first | rfl | (exfalso; omega))
abbrev rmX4_weather : Room := { frames := 5, cells := 0, slots := 0, locals := 120 }
set_option maxRecDepth 100000 in
set_option maxHeartbeats 4000000 in
theorem M_X4_weather (l : Launch) (D : va_G) (cI cJ : ClassId) (x fi ik : Nat) (la ta ka tp sh : Nat → Nat) (G T F : Nat → Nat) (hG : OkG 99999 G) (z : Int32) : CE E0 l D vwCl [(cI, .int), (cJ, .long)] yX4_weather wsX4_weather rmX4_weather [.ref x, .int z] [xH x la ta ka tp sh fi ik, gW cI la G, gW cI ta T, aI cI fi 7 F] (S := (Nat → Nat)) (some (.int (weatherV G z.toInt))) (fun _ => True) (fun Tx : Nat → Nat => [xH x la ta ka tp sh fi ik, gW cI la G, gW cI ta Tx, aI cI fi 7 (weatherF F z.toInt)]) 0 0 := by
  refine CE.ofW (cc := cX4_weather) (maxL := 7) (ret := (some .int)) (lv := [(0, .ref x), (1, .int z)]) (by decide) rfl (Nat.le_of_ble_eq_true rfl) rfl ?_
  intro p e s m args below meth c ls A Q hQ hx hb hml hr hlocks hnm hown hts hK hA hE hW hl
  have hown : s.vm.findClass RX4 = some m.cls := hown
  obtain ⟨hg0, hg8, hg16, hg16b, hg24, hg32, hg40, hg48⟩ := hG.s
  refine lv_iload_n hx hb dX4_weather_0 rfl (lv_at hl 1 rfl) ?_
  refine cl_Si (As := [.int z]) (rest := []) ⟨hx, hb, hml, hown, hts⟩ (M_X4_isNear l D cI cJ z) (va_cwS 1 hts gX4_weather_X4_isNear rfl rfl rfl qX4_isNear ⟨Nat.le_of_ble_eq_true rfl, Nat.le_of_ble_eq_true rfl⟩) E0_good hK hA hW trivial [] (fun _ => [xH x la ta ka tp sh fi ik, gW cI la G, gW cI ta T, aI cI fi 7 F]) rfl (fun _ => rfl) (fun _ => rfl) rfl hl.1 rfl (lv_room (Nat.le_of_ble_eq_true rfl)) dX4_weather_1 ⟨Nat.zero_le _, Nat.zero_le _⟩ (fun _ H locs _ hW => ?_)
  have hin_ := inZ_or z.toInt 1 60
  refine nn_zne (tgt := 14) hx hb dX4_weather_4 (by decide) (by omega) (fun c4 => ?_) (fun c4 => ?_)
  · obtain ⟨y, hy, ey⟩ : ∃ y : Nat, z = nI y ∧ z.toInt = (y : Int) := ⟨z.toInt.toNat, nI_ofZ rfl (by omega), by omega⟩
    rw [hy] at hl
    refine lv_aload_n hx hb dX4_weather_14 rfl (lv_at hl 0 rfl) ?_
    refine sg_get (ci := 3) (C := RX4) (T := TX4) (N := 7) (v := .ref (ta 0)) hx hb hts (fun _ h => List.mem_cons_of_mem _ (List.mem_append_left _ (List.mem_append_right _ h))) hown hK hW 0 0 rfl rfl rfl 1 (by decide) (hts _ (List.mem_of_getElem? (i := 2) rfl)) rfl dX4_weather_15 ?_
    refine lv_aload_n hx hb dX4_weather_18 rfl (lv_at hl 0 rfl) ?_
    refine sg_get (ci := 3) (C := RX4) (T := TX4) (N := 7) (v := .ref (la 0)) hx hb hts (fun _ h => List.mem_cons_of_mem _ (List.mem_append_left _ (List.mem_append_right _ h))) hown hK hW 0 0 rfl rfl rfl 0 (by decide) (hts _ (List.mem_of_getElem? (i := 3) rfl)) rfl dX4_weather_19 ?_
    refine cl_Vv (As := [.ref (la 0)]) (rest := []) (C := RX0) ⟨hx, hb, hml, hown, hts⟩ (M_X0_become2 l D cI cJ ta la T G) (cwV 1 hts gX4_weather_X0_become rfl rfl rfl qX0_become ⟨Nat.le_of_ble_eq_true rfl, Nat.le_of_ble_eq_true rfl⟩) E0_good hK hA hW trivial [false, true, true] (fun _ => [xH x la ta ka tp sh fi ik, gW cI la G, gW cI ta G, aI cI fi 7 F]) rfl (fun _ => rfl) (fun _ => rfl) 2 0 rfl rfl rfl rfl hl.1 rfl (lv_room (Nat.le_of_ble_eq_true rfl)) dX4_weather_22 ⟨Nat.zero_le _, Nat.zero_le _⟩ (fun _ H locs _ hW => ?_)
    refine lv_aload_n hx hb dX4_weather_25 rfl (lv_at hl 0 rfl) ?_
    refine sg_get (ci := 3) (C := RX4) (T := TX4) (N := 7) (v := .ref (ta 0)) hx hb hts (fun _ h => List.mem_cons_of_mem _ (List.mem_append_left _ (List.mem_append_right _ h))) hown hK hW 0 0 rfl rfl rfl 1 (by decide) (hts _ (List.mem_of_getElem? (i := 2) rfl)) rfl dX4_weather_26 ?_
    refine lv_iload_n hx hb dX4_weather_29 rfl (lv_at hl 1 rfl) ?_
    refine cl_Vv (As := [.int (nI y)]) (rest := []) (C := RX0) ⟨hx, hb, hml, hown, hts⟩ (M_X0_passMinutes l D cI cJ ta G 99999 (by decide) hG y (by omega)) (cwV 1 hts gX4_weather_X0_passMinutes rfl rfl rfl qX0_passMinutes ⟨Nat.le_of_ble_eq_true rfl, Nat.le_of_ble_eq_true rfl⟩) E0_good hK hA hW trivial [false, false, true] (fun _ => [xH x la ta ka tp sh fi ik, gW cI la G, gW cI ta (stepN G y), aI cI fi 7 F]) rfl (fun _ => rfl) (fun _ => rfl) 2 0 rfl rfl rfl rfl hl.1 rfl (lv_room (Nat.le_of_ble_eq_true rfl)) dX4_weather_30 ⟨Nat.zero_le _, Nat.zero_le _⟩ (fun _ H locs _ hW => ?_)
    refine lv_aload_n hx hb dX4_weather_33 rfl (lv_at hl 0 rfl) ?_
    refine sg_get (ci := 3) (C := RX4) (T := TX4) (N := 7) (v := .ref (ta 0)) hx hb hts (fun _ h => List.mem_cons_of_mem _ (List.mem_append_left _ (List.mem_append_right _ h))) hown hK hW 0 0 rfl rfl rfl 1 (by decide) (hts _ (List.mem_of_getElem? (i := 2) rfl)) rfl dX4_weather_34 ?_
    refine sg_get (ci := 0) (C := RX0) (T := TX0) (N := 14) (v := .int (nI ((stepN G y) 32))) hx hb hts (fun _ h => List.mem_cons_of_mem _ (List.mem_append_right _ h)) hown hK hW 2 0 rfl rfl rfl 4 (by decide) (hts _ (List.mem_of_getElem? (i := 4) rfl)) rfl dX4_weather_37 ?_
    refine lv_istore_n (lv' := [(2, .int (nI ((stepN G y) 32))), (0, .ref x), (1, .int (nI y))]) hx hb dX4_weather_40 rfl hl (by decide) rfl (fun ls hl => ?_)
    refine lv_iconst (v := nI 0) hx hb dX4_weather_41 (by decide +kernel) ?_
    refine lv_istore_n (lv' := [(3, .int (nI 0)), (2, .int (nI ((stepN G y) 32))), (0, .ref x), (1, .int (nI y))]) hx hb dX4_weather_42 rfl hl (by decide) rfl (fun ls hl => ?_)
    refine lv_iconst (v := -1) hx hb dX4_weather_43 (by decide +kernel) ?_
    refine lv_istore (lv' := [(4, .int (-1)), (3, .int (nI 0)), (2, .int (nI ((stepN G y) 32))), (0, .ref x), (1, .int (nI y))]) hx hb dX4_weather_44 hl (by decide) rfl (fun ls hl => ?_)
    refine lv_iconst (v := nI 0) hx hb dX4_weather_46 (by decide +kernel) ?_
    refine lv_istore (lv' := [(5, .int (nI 0)), (4, .int (-1)), (3, .int (nI 0)), (2, .int (nI ((stepN G y) 32))), (0, .ref x), (1, .int (nI y))]) hx hb dX4_weather_47 hl (by decide) rfl (fun ls hl => ?_)
    have lp49 : ∀ (n : Nat) (k : Nat) (kb : Nat) (pp : Nat) (Ty : Nat → Nat), 5 - k < n → k ≤ 5 → weathSt G y k = (kb, pp) → ∀ (H : Heap) (locs : List Loc), Wo D vwCl A s.heap H locs [xH x la ta ka tp sh fi ik, gW cI la G, gW cI ta Ty, aI cI fi 7 F] → ∀ ls : Array Slot, lv_has ls 7 [(5, .int (nI k)), (4, .int (bst pp)), (3, .int (nI kb)), (2, .int (nI ((stepN G y) 32))), (0, .ref x), (1, .int (nI y))] → W p l e rmX4_weather s m args below meth c H locs 0 0 Q (F0 m 49 ls []) := by
      intro n
      induction n with
      | zero => intro k kb pp Ty hm; exact absurd hm (Nat.not_lt_zero _)
      | succ n ih =>
        intro k kb pp Ty hm hi hst H locs hW ls hl
        have hstl := weathSt_le hG y k hi
        rw [hst] at hstl
        have hstl1 : kb ≤ k ∧ pp ≤ 1000000 := hstl
        refine lv_iload hx hb dX4_weather_49 (lv_at hl 0 rfl) ?_
        refine lv_iconst (v := nI 5) hx hb dX4_weather_51 (by decide +kernel) ?_
        refine nn_cge (tgt := 127) hx hb dX4_weather_52 (by decide) (by omega) (by decide) (fun c52 => ?_) (fun c52 => ?_)
        · have hsx : weathSt G y 5 = (kb, pp) := by rw [← show k = 5 by omega]; exact hst
          refine lv_iload_n hx hb dX4_weather_127 rfl (lv_at hl 2 rfl) ?_
          exact rt_i hQ hx hb hr hlocks hW dX4_weather_128 Ty (by (try simp only [weatherV, ey, hsx, Int.toNat_natCast]); (repeat' split) <;> first | rfl | (exfalso; omega)) trivial (by (try simp only [weatherF, ey, hsx, Int.toNat_natCast]); (repeat' split) <;> first | rfl | (exfalso; omega))
        · have hxr := rain_x (G 8) (by omega) k (by omega)
          have htl := turned_le (hG.s8 (v := G 8 ^^^ 1 * 2 ^ k) hxr) y
          have htl0 := turned_le hG y
          have hwd9 : weathD G y k ≤ 999999 := by unfold weathD absD; split <;> omega
          refine lv_aload_n hx hb dX4_weather_55 rfl (lv_at hl 4 rfl) ?_
          refine sg_get (ci := 3) (C := RX4) (T := TX4) (N := 7) (v := .ref (ta 0)) hx hb hts (fun _ h => List.mem_cons_of_mem _ (List.mem_append_left _ (List.mem_append_right _ h))) hown hK hW 0 0 rfl rfl rfl 1 (by decide) (hts _ (List.mem_of_getElem? (i := 2) rfl)) rfl dX4_weather_56 ?_
          refine lv_aload_n hx hb dX4_weather_59 rfl (lv_at hl 4 rfl) ?_
          refine sg_get (ci := 3) (C := RX4) (T := TX4) (N := 7) (v := .ref (la 0)) hx hb hts (fun _ h => List.mem_cons_of_mem _ (List.mem_append_left _ (List.mem_append_right _ h))) hown hK hW 0 0 rfl rfl rfl 0 (by decide) (hts _ (List.mem_of_getElem? (i := 3) rfl)) rfl dX4_weather_60 ?_
          refine cl_Vv (As := [.ref (la 0)]) (rest := []) (C := RX0) ⟨hx, hb, hml, hown, hts⟩ (M_X0_become2 l D cI cJ ta la Ty G) (cwV 1 hts gX4_weather_X0_become rfl rfl rfl qX0_become ⟨Nat.le_of_ble_eq_true rfl, Nat.le_of_ble_eq_true rfl⟩) E0_good hK hA hW trivial [false, true, true] (fun _ => [xH x la ta ka tp sh fi ik, gW cI la G, gW cI ta G, aI cI fi 7 F]) rfl (fun _ => rfl) (fun _ => rfl) 2 0 rfl rfl rfl rfl hl.1 rfl (lv_room (Nat.le_of_ble_eq_true rfl)) dX4_weather_63 ⟨Nat.zero_le _, Nat.zero_le _⟩ (fun _ H locs _ hW => ?_)
          refine lv_aload_n hx hb dX4_weather_66 rfl (lv_at hl 4 rfl) ?_
          refine sg_get (ci := 3) (C := RX4) (T := TX4) (N := 7) (v := .ref (ta 0)) hx hb hts (fun _ h => List.mem_cons_of_mem _ (List.mem_append_left _ (List.mem_append_right _ h))) hown hK hW 0 0 rfl rfl rfl 1 (by decide) (hts _ (List.mem_of_getElem? (i := 2) rfl)) rfl dX4_weather_67 ?_
          refine lv_aload_n hx hb dX4_weather_70 rfl (lv_at hl 4 rfl) ?_
          refine sg_get (ci := 3) (C := RX4) (T := TX4) (N := 7) (v := .ref (la 0)) hx hb hts (fun _ h => List.mem_cons_of_mem _ (List.mem_append_left _ (List.mem_append_right _ h))) hown hK hW 0 0 rfl rfl rfl 0 (by decide) (hts _ (List.mem_of_getElem? (i := 3) rfl)) rfl dX4_weather_71 ?_
          refine sg_get (ci := 0) (C := RX0) (T := TX0) (N := 14) (v := .int (nI (G 8))) hx hb hts (fun _ h => List.mem_cons_of_mem _ (List.mem_append_right _ h)) hown hK hW 1 0 rfl rfl rfl 1 (by decide) (hts _ (List.mem_of_getElem? (i := 5) rfl)) rfl dX4_weather_74 ?_
          refine lv_iconst (v := nI 1) hx hb dX4_weather_77 (by decide +kernel) ?_
          refine lv_iload hx hb dX4_weather_78 (lv_at hl 0 rfl) ?_
          refine nn_shl hx hb dX4_weather_80 (by omega) ?_
          refine nn_xor hx hb dX4_weather_81 ?_
          refine sg_put (ci := 0) (C := RX0) (T := TX0) (N := 14) hx hb hts (fun _ h => List.mem_cons_of_mem _ (List.mem_append_right _ h)) tyX0 tyX0_ok nmX0 hown hK hW 2 0 rfl rfl rfl 1 (by decide) (hts _ (List.mem_of_getElem? (i := 5) rfl)) rfl rfl rfl (Nat.le_of_ble_eq_true rfl) (gW_s8 cI ta G ((G 8) ^^^ (1 * 2 ^ k))) (ss' := [xH x la ta ka tp sh fi ik, gW cI la G, gW cI ta (up G 8 ((G 8) ^^^ (1 * 2 ^ k))), aI cI fi 7 F]) rfl dX4_weather_82 (fun H locs hW => ?_)
          refine lv_aload_n hx hb dX4_weather_85 rfl (lv_at hl 4 rfl) ?_
          refine sg_get (ci := 3) (C := RX4) (T := TX4) (N := 7) (v := .ref (ta 0)) hx hb hts (fun _ h => List.mem_cons_of_mem _ (List.mem_append_left _ (List.mem_append_right _ h))) hown hK hW 0 0 rfl rfl rfl 1 (by decide) (hts _ (List.mem_of_getElem? (i := 2) rfl)) rfl dX4_weather_86 ?_
          refine lv_iload_n hx hb dX4_weather_89 rfl (lv_at hl 5 rfl) ?_
          refine cl_Vv (As := [.int (nI y)]) (rest := []) (C := RX0) ⟨hx, hb, hml, hown, hts⟩ (M_X0_passMinutes l D cI cJ ta (up G 8 ((G 8) ^^^ (1 * 2 ^ k))) 99999 (by decide) (hG.s8 (v := G 8 ^^^ 1 * 2 ^ k) hxr) y (by omega)) (cwV 1 hts gX4_weather_X0_passMinutes rfl rfl rfl qX0_passMinutes ⟨Nat.le_of_ble_eq_true rfl, Nat.le_of_ble_eq_true rfl⟩) E0_good hK hA hW trivial [false, false, true] (fun _ => [xH x la ta ka tp sh fi ik, gW cI la G, gW cI ta (stepN (up G 8 ((G 8) ^^^ (1 * 2 ^ k))) y), aI cI fi 7 F]) rfl (fun _ => rfl) (fun _ => rfl) 2 0 rfl rfl rfl rfl hl.1 rfl (lv_room (Nat.le_of_ble_eq_true rfl)) dX4_weather_90 ⟨Nat.zero_le _, Nat.zero_le _⟩ (fun _ H locs _ hW => ?_)
          refine lv_aload_n hx hb dX4_weather_93 rfl (lv_at hl 4 rfl) ?_
          refine sg_get (ci := 3) (C := RX4) (T := TX4) (N := 7) (v := .ref (ta 0)) hx hb hts (fun _ h => List.mem_cons_of_mem _ (List.mem_append_left _ (List.mem_append_right _ h))) hown hK hW 0 0 rfl rfl rfl 1 (by decide) (hts _ (List.mem_of_getElem? (i := 2) rfl)) rfl dX4_weather_94 ?_
          refine sg_get (ci := 0) (C := RX0) (T := TX0) (N := 14) (v := .int (nI ((stepN (up G 8 ((G 8) ^^^ (1 * 2 ^ k))) y) 32))) hx hb hts (fun _ h => List.mem_cons_of_mem _ (List.mem_append_right _ h)) hown hK hW 2 0 rfl rfl rfl 4 (by decide) (hts _ (List.mem_of_getElem? (i := 4) rfl)) rfl dX4_weather_97 ?_
          refine lv_iload_n hx hb dX4_weather_100 rfl (lv_at hl 3 rfl) ?_
          refine lv_isub hx hb dX4_weather_101 ?_
          refine va_mabs hx hb (hml.trans hl.1.symm) hown (hts _ (List.mem_of_getElem? (i := 6) rfl)) (hts _ (List.mem_of_getElem? (i := 7) rfl)) (hts _ (List.mem_of_getElem? (i := 8) rfl)) (hts _ (List.mem_of_getElem? (i := 9) rfl)) (Nat.le_of_ble_eq_true rfl) (Nat.le_of_ble_eq_true rfl) (Nat.zero_le _) (Nat.zero_le _) dX4_weather_102 ?_
          refine W.top (v' := .int (nI (weathD G y k))) (congrArg Value.int (ab_abs (by omega) (by omega))) ?_
          refine lv_istore (lv' := [(6, .int (nI (weathD G y k))), (5, .int (nI k)), (4, .int (bst pp)), (3, .int (nI kb)), (2, .int (nI ((stepN G y) 32))), (0, .ref x), (1, .int (nI y))]) hx hb dX4_weather_105 hl (by decide) rfl (fun ls hl => ?_)
          refine lv_iload hx hb dX4_weather_107 (lv_at hl 0 rfl) ?_
          refine lv_iload hx hb dX4_weather_109 (lv_at hl 2 rfl) ?_
          refine zz_cle (tgt := 121) hx hb dX4_weather_111 (by decide) (nI_toInt (n := weathD G y k) (by omega)) (bst_toInt (o := pp) (by omega)) (fun c111 => ?_) (fun c111 => ?_)
          · have hst2 : weathSt G y (k + 1) = (kb, pp) := by
              show (if (weathSt G y k).2 < weathD G y k + 1 then (k, weathD G y k + 1) else weathSt G y k) = _
              rw [hst, if_neg (by show ¬ pp < _; omega)]
            refine lv_iinc (v := nI (k + 1)) (lv' := [(5, .int (nI (k + 1))), (6, .int (nI (weathD G y k))), (4, .int (bst pp)), (3, .int (nI kb)), (2, .int (nI ((stepN G y) 32))), (0, .ref x), (1, .int (nI y))]) hx hb dX4_weather_121 hl (k := 1) rfl (nI_add _ 1) (by decide) rfl (fun ls hl => ?_)
            refine lv_goto (tgt := 49) hx hb dX4_weather_124 (by decide) ?_
            exact ih (k + 1) kb pp (stepN (up G 8 ((G 8) ^^^ (1 * 2 ^ k))) y) (by omega) (by omega) hst2 _ _ hW _ (lv_sub hl [0, 2, 3, 4, 5, 6] rfl)
          · refine lv_iload hx hb dX4_weather_114 (lv_at hl 1 rfl) ?_
            refine lv_istore_n (lv' := [(3, .int (nI k)), (6, .int (nI (weathD G y k))), (5, .int (nI k)), (4, .int (bst pp)), (2, .int (nI ((stepN G y) 32))), (0, .ref x), (1, .int (nI y))]) hx hb dX4_weather_116 rfl hl (by decide) rfl (fun ls hl => ?_)
            refine lv_iload hx hb dX4_weather_117 (lv_at hl 1 rfl) ?_
            refine lv_istore (lv' := [(4, .int (nI (weathD G y k))), (3, .int (nI k)), (6, .int (nI (weathD G y k))), (5, .int (nI k)), (2, .int (nI ((stepN G y) 32))), (0, .ref x), (1, .int (nI y))]) hx hb dX4_weather_119 hl (by decide) rfl (fun ls hl => ?_)
            have hst2 : weathSt G y (k + 1) = (k, weathD G y k + 1) := by
              show (if (weathSt G y k).2 < weathD G y k + 1 then (k, weathD G y k + 1) else weathSt G y k) = _
              rw [hst, if_pos (by show pp < _; omega)]
            have hb1 : nI (weathD G y k) = bst (weathD G y k + 1) := (if_neg (Nat.succ_ne_zero _)).symm
            have hl : lv_has ls 7 [(4, .int (bst (weathD G y k + 1))), (3, .int (nI k)), (6, .int (nI (weathD G y k))), (5, .int (nI k)), (2, .int (nI ((stepN G y) 32))), (0, .ref x), (1, .int (nI y))] := by rw [← hb1]; exact hl
            refine lv_iinc (v := nI (k + 1)) (lv' := [(5, .int (nI (k + 1))), (4, .int (bst (weathD G y k + 1))), (3, .int (nI k)), (6, .int (nI (weathD G y k))), (2, .int (nI ((stepN G y) 32))), (0, .ref x), (1, .int (nI y))]) hx hb dX4_weather_121 hl (k := 3) rfl (nI_add _ 1) (by decide) rfl (fun ls hl => ?_)
            refine lv_goto (tgt := 49) hx hb dX4_weather_124 (by decide) ?_
            exact ih (k + 1) k (weathD G y k + 1) (stepN (up G 8 ((G 8) ^^^ (1 * 2 ^ k))) y) (by omega) (by omega) hst2 _ _ hW _ (lv_sub hl [0, 1, 2, 4, 5, 6] rfl)
    exact lp49 (5 - 0 + 1) 0 0 0 (stepN G y) (Nat.lt_succ_self _) (by omega) rfl _ _ hW _ (lv_sub hl [0, 1, 2, 3, 4, 5] rfl)
  · refine lv_aload_n hx hb dX4_weather_7 rfl (lv_at hl 0 rfl) ?_
    refine lv_ldc (v := -1000000001) hx hb hown (hts _ (List.mem_of_getElem? (i := 1) rfl)) dX4_weather_8 ?_
    refine cl_Vi (As := [.int (-1000000001)]) (rest := []) (C := RX4) ⟨hx, hb, hml, hown, hts⟩ (M_X4_tell l D cI cJ x fi ik la ta ka tp sh F 0 (by decide) (-1000000001) (by decide +kernel)) (cwV 1 hts gX4_weather_X4_tell rfl rfl rfl qX4_tell ⟨Nat.le_of_ble_eq_true rfl, Nat.le_of_ble_eq_true rfl⟩) E0_good hK hA hW trivial [true, false, false, true] (fun _ => [xH x la ta ka tp sh fi ik, gW cI la G, gW cI ta T, aI cI fi 7 (up F 0 (F 0 + 1))]) rfl (fun _ => rfl) (fun _ => rfl) 0 0 rfl rfl rfl rfl hl.1 rfl (lv_room (Nat.le_of_ble_eq_true rfl)) dX4_weather_10 ⟨Nat.zero_le _, Nat.zero_le _⟩ (fun _ H locs _ hW => ?_)
    exact rt_i hQ hx hb hr hlocks hW dX4_weather_13 T (by (try simp only [weatherV]); (repeat' split) <;> first | rfl | (exfalso; omega)) trivial (by (try simp only [weatherF]); (repeat' split) <;> first | rfl | (exfalso; omega))
abbrev rmX4_deepest : Room := { frames := 5, cells := 0, slots := 0, locals := 120 }
set_option maxRecDepth 100000 in
set_option maxHeartbeats 4000000 in
theorem M_X4_deepest (l : Launch) (D : va_G) (cI cJ : ClassId) (x fi ik : Nat) (la ta ka tp sh : Nat → Nat) (G T F : Nat → Nat) (hG : OkG 99999 G) (z : Int32) : CE E0 l D vwCl [(cI, .int), (cJ, .long)] yX4_deepest wsX4_deepest rmX4_deepest [.ref x, .int z] [xH x la ta ka tp sh fi ik, gW cI la G, gW cI ta T, aI cI fi 7 F] (S := (Nat → Nat)) (some (.int (deepestV G z.toInt))) (fun _ => True) (fun Tx : Nat → Nat => [xH x la ta ka tp sh fi ik, gW cI la G, gW cI ta Tx, aI cI fi 7 (deepestF G F z.toInt)]) 0 0 := by
  refine CE.ofW (cc := cX4_deepest) (maxL := 8) (ret := (some .int)) (lv := [(0, .ref x), (1, .int z)]) (by decide) rfl (Nat.le_of_ble_eq_true rfl) rfl ?_
  intro p e s m args below meth c ls A Q hQ hx hb hml hr hlocks hnm hown hts hK hA hE hW hl
  have hown : s.vm.findClass RX4 = some m.cls := hown
  obtain ⟨hg0, hg8, hg16, hg16b, hg24, hg32, hg40, hg48⟩ := hG.s
  refine lv_iload_n hx hb dX4_deepest_0 rfl (lv_at hl 1 rfl) ?_
  refine zz_zlt (tgt := 11) hx hb dX4_deepest_1 (by decide) (rfl : z.toInt = z.toInt) (fun c1 => ?_) (fun c1 => ?_)
  · refine lv_aload_n hx hb dX4_deepest_11 rfl (lv_at hl 0 rfl) ?_
    refine lv_ldc (v := -1000000001) hx hb hown (hts _ (List.mem_of_getElem? (i := 1) rfl)) dX4_deepest_12 ?_
    refine cl_Vi (As := [.int (-1000000001)]) (rest := []) (C := RX4) ⟨hx, hb, hml, hown, hts⟩ (M_X4_tell l D cI cJ x fi ik la ta ka tp sh F 0 (by decide) (-1000000001) (by decide +kernel)) (cwV 1 hts gX4_deepest_X4_tell rfl rfl rfl qX4_tell ⟨Nat.le_of_ble_eq_true rfl, Nat.le_of_ble_eq_true rfl⟩) E0_good hK hA hW trivial [true, false, false, true] (fun _ => [xH x la ta ka tp sh fi ik, gW cI la G, gW cI ta T, aI cI fi 7 (up F 0 (F 0 + 1))]) rfl (fun _ => rfl) (fun _ => rfl) 0 0 rfl rfl rfl rfl hl.1 rfl (lv_room (Nat.le_of_ble_eq_true rfl)) dX4_deepest_14 ⟨Nat.zero_le _, Nat.zero_le _⟩ (fun _ H locs _ hW => ?_)
    exact rt_i hQ hx hb hr hlocks hW dX4_deepest_17 T (by (try simp only [deepestV, orV, bst]); (repeat' split) <;> first | rfl | (exfalso; omega)) trivial (by (try simp only [deepestF, orF]); (repeat' split) <;> first | rfl | (exfalso; omega))
  · refine lv_iload_n hx hb dX4_deepest_4 rfl (lv_at hl 1 rfl) ?_
    refine lv_sipush (v := nI 200) hx hb dX4_deepest_5 (by decide +kernel) ?_
    refine zz_cle (tgt := 18) hx hb dX4_deepest_8 (by decide) (rfl : z.toInt = z.toInt) (nI_toInt (n := 200) (by decide)) (fun c8 => ?_) (fun c8 => ?_)
    · obtain ⟨y, hy, ey⟩ : ∃ y : Nat, z = nI y ∧ z.toInt = (y : Int) := ⟨z.toInt.toNat, nI_ofZ rfl (by omega), by omega⟩
      rw [hy] at hl
      refine lv_aload_n hx hb dX4_deepest_18 rfl (lv_at hl 0 rfl) ?_
      refine sg_get (ci := 3) (C := RX4) (T := TX4) (N := 7) (v := .ref (ta 0)) hx hb hts (fun _ h => List.mem_cons_of_mem _ (List.mem_append_left _ (List.mem_append_right _ h))) hown hK hW 0 0 rfl rfl rfl 1 (by decide) (hts _ (List.mem_of_getElem? (i := 2) rfl)) rfl dX4_deepest_19 ?_
      refine lv_aload_n hx hb dX4_deepest_22 rfl (lv_at hl 0 rfl) ?_
      refine sg_get (ci := 3) (C := RX4) (T := TX4) (N := 7) (v := .ref (la 0)) hx hb hts (fun _ h => List.mem_cons_of_mem _ (List.mem_append_left _ (List.mem_append_right _ h))) hown hK hW 0 0 rfl rfl rfl 0 (by decide) (hts _ (List.mem_of_getElem? (i := 3) rfl)) rfl dX4_deepest_23 ?_
      refine cl_Vv (As := [.ref (la 0)]) (rest := []) (C := RX0) ⟨hx, hb, hml, hown, hts⟩ (M_X0_become2 l D cI cJ ta la T G) (cwV 1 hts gX4_deepest_X0_become rfl rfl rfl qX0_become ⟨Nat.le_of_ble_eq_true rfl, Nat.le_of_ble_eq_true rfl⟩) E0_good hK hA hW trivial [false, true, true] (fun _ => [xH x la ta ka tp sh fi ik, gW cI la G, gW cI ta G, aI cI fi 7 F]) rfl (fun _ => rfl) (fun _ => rfl) 2 0 rfl rfl rfl rfl hl.1 rfl (lv_room (Nat.le_of_ble_eq_true rfl)) dX4_deepest_26 ⟨Nat.zero_le _, Nat.zero_le _⟩ (fun _ H locs _ hW => ?_)
      refine lv_aload_n hx hb dX4_deepest_29 rfl (lv_at hl 0 rfl) ?_
      refine sg_get (ci := 3) (C := RX4) (T := TX4) (N := 7) (v := .ref (ta 0)) hx hb hts (fun _ h => List.mem_cons_of_mem _ (List.mem_append_left _ (List.mem_append_right _ h))) hown hK hW 0 0 rfl rfl rfl 1 (by decide) (hts _ (List.mem_of_getElem? (i := 2) rfl)) rfl dX4_deepest_30 ?_
      refine lv_iload_n hx hb dX4_deepest_33 rfl (lv_at hl 1 rfl) ?_
      refine cl_Vv (As := [.int (nI y)]) (rest := []) (C := RX0) ⟨hx, hb, hml, hown, hts⟩ (M_X0_passMinutes l D cI cJ ta G 99999 (by decide) hG y (by omega)) (cwV 1 hts gX4_deepest_X0_passMinutes rfl rfl rfl qX0_passMinutes ⟨Nat.le_of_ble_eq_true rfl, Nat.le_of_ble_eq_true rfl⟩) E0_good hK hA hW trivial [false, false, true] (fun _ => [xH x la ta ka tp sh fi ik, gW cI la G, gW cI ta (stepN G y), aI cI fi 7 F]) rfl (fun _ => rfl) (fun _ => rfl) 2 0 rfl rfl rfl rfl hl.1 rfl (lv_room (Nat.le_of_ble_eq_true rfl)) dX4_deepest_34 ⟨Nat.zero_le _, Nat.zero_le _⟩ (fun _ H locs _ hW => ?_)
      have hTy := stepN_ok hG y
      have h40y := stepN_40 G y
      have hoc8 := outC_le hTy
      have hnl := nightN_le (stepN G y)
      refine lv_aload_n hx hb dX4_deepest_37 rfl (lv_at hl 0 rfl) ?_
      refine sg_get (ci := 3) (C := RX4) (T := TX4) (N := 7) (v := .ref (ta 0)) hx hb hts (fun _ h => List.mem_cons_of_mem _ (List.mem_append_left _ (List.mem_append_right _ h))) hown hK hW 0 0 rfl rfl rfl 1 (by decide) (hts _ (List.mem_of_getElem? (i := 2) rfl)) rfl dX4_deepest_38 ?_
      refine cl_Vi (As := []) (rest := []) (C := RX0) ⟨hx, hb, hml, hown, hts⟩ (M_X0_outCount l D cI cJ ta (stepN G y) (99999 + y) (by omega) (stepN_ok hG y)) (cwV 0 hts gX4_deepest_X0_outCount rfl rfl rfl qX0_outCount ⟨Nat.le_of_ble_eq_true rfl, Nat.le_of_ble_eq_true rfl⟩) E0_good hK hA hW trivial [false, false, true] (fun _ => [xH x la ta ka tp sh fi ik, gW cI la G, gW cI ta (stepN G y), aI cI fi 7 F]) rfl (fun _ => rfl) (fun _ => rfl) 2 0 rfl rfl rfl rfl hl.1 rfl (lv_room (Nat.le_of_ble_eq_true rfl)) dX4_deepest_41 ⟨Nat.zero_le _, Nat.zero_le _⟩ (fun _ H locs _ hW => ?_)
      refine lv_istore_n (lv' := [(2, .int (nI (outC (stepN G y)))), (0, .ref x), (1, .int (nI y))]) hx hb dX4_deepest_44 rfl hl (by decide) rfl (fun ls hl => ?_)
      refine lv_aload_n hx hb dX4_deepest_45 rfl (lv_at hl 1 rfl) ?_
      refine sg_get (ci := 3) (C := RX4) (T := TX4) (N := 7) (v := .ref (ta 0)) hx hb hts (fun _ h => List.mem_cons_of_mem _ (List.mem_append_left _ (List.mem_append_right _ h))) hown hK hW 0 0 rfl rfl rfl 1 (by decide) (hts _ (List.mem_of_getElem? (i := 2) rfl)) rfl dX4_deepest_46 ?_
      refine cl_Vi (As := []) (rest := []) (C := RX0) ⟨hx, hb, hml, hown, hts⟩ (M_X0_isNight l D cI cJ ta (stepN G y) (99999 + y) (by omega) (stepN_ok hG y)) (cwV 0 hts gX4_deepest_X0_isNight rfl rfl rfl qX0_isNight ⟨Nat.le_of_ble_eq_true rfl, Nat.le_of_ble_eq_true rfl⟩) E0_good hK hA hW trivial [false, false, true] (fun _ => [xH x la ta ka tp sh fi ik, gW cI la G, gW cI ta (stepN G y), aI cI fi 7 F]) rfl (fun _ => rfl) (fun _ => rfl) 2 0 rfl rfl rfl rfl hl.1 rfl (lv_room (Nat.le_of_ble_eq_true rfl)) dX4_deepest_49 ⟨Nat.zero_le _, Nat.zero_le _⟩ (fun _ H locs _ hW => ?_)
      have hle_ := nightN_le (stepN G y)
      refine lv_istore_n (lv' := [(3, .int (nI (nightN (stepN G y)))), (2, .int (nI (outC (stepN G y)))), (0, .ref x), (1, .int (nI y))]) hx hb dX4_deepest_52 rfl hl (by decide) rfl (fun ls hl => ?_)
      refine lv_iconst (v := -1) hx hb dX4_deepest_53 (by decide +kernel) ?_
      refine lv_istore (lv' := [(4, .int (-1)), (3, .int (nI (nightN (stepN G y)))), (2, .int (nI (outC (stepN G y)))), (0, .ref x), (1, .int (nI y))]) hx hb dX4_deepest_54 hl (by decide) rfl (fun ls hl => ?_)
      refine lv_iconst (v := -1) hx hb dX4_deepest_56 (by decide +kernel) ?_
      refine lv_istore (lv' := [(5, .int (-1)), (4, .int (-1)), (3, .int (nI (nightN (stepN G y)))), (2, .int (nI (outC (stepN G y)))), (0, .ref x), (1, .int (nI y))]) hx hb dX4_deepest_57 hl (by decide) rfl (fun ls hl => ?_)
      refine lv_iconst (v := nI 0) hx hb dX4_deepest_59 (by decide +kernel) ?_
      refine lv_istore (lv' := [(6, .int (nI 0)), (5, .int (-1)), (4, .int (-1)), (3, .int (nI (nightN (stepN G y)))), (2, .int (nI (outC (stepN G y)))), (0, .ref x), (1, .int (nI y))]) hx hb dX4_deepest_60 hl (by decide) rfl (fun ls hl => ?_)
      have lp62 : ∀ (n : Nat) (i : Nat) (o : Nat) (pp : Nat), G 40 - i < n → i ≤ G 40 → deepSt (stepN G y) i = (o, pp) → ∀ (H : Heap) (locs : List Loc), Wo D vwCl A s.heap H locs [xH x la ta ka tp sh fi ik, gW cI la G, gW cI ta (stepN G y), aI cI fi 7 F] → ∀ ls : Array Slot, lv_has ls 8 [(6, .int (nI i)), (5, .int (bst pp)), (4, .int (bst o)), (3, .int (nI (nightN (stepN G y)))), (2, .int (nI (outC (stepN G y)))), (0, .ref x), (1, .int (nI y))] → W p l e rmX4_deepest s m args below meth c H locs 0 0 Q (F0 m 62 ls []) := by
        intro n
        induction n with
        | zero => intro i o pp hm; exact absurd hm (Nat.not_lt_zero _)
        | succ n ih =>
          intro i o pp hm hi hst H locs hW ls hl
          have hstl := deepSt_in (stepN G y) i
          rw [hst] at hstl
          have hstl1 : o ≤ i ∧ ((o = 0 ∧ pp = 0) ∨ (1 ≤ o ∧ pp = keepsN (stepN G y) (o - 1) + 1)) := hstl
          have hkx : 1 ≤ o → keepsN (stepN G y) (o - 1) ≤ 1100 := fun q => keepsN_le hTy (by omega)
          refine lv_iload hx hb dX4_deepest_62 (lv_at hl 0 rfl) ?_
          refine lv_aload_n hx hb dX4_deepest_64 rfl (lv_at hl 5 rfl) ?_
          refine sg_get (ci := 3) (C := RX4) (T := TX4) (N := 7) (v := .ref (ta 0)) hx hb hts (fun _ h => List.mem_cons_of_mem _ (List.mem_append_left _ (List.mem_append_right _ h))) hown hK hW 0 0 rfl rfl rfl 1 (by decide) (hts _ (List.mem_of_getElem? (i := 2) rfl)) rfl dX4_deepest_65 ?_
          refine sg_get (ci := 0) (C := RX0) (T := TX0) (N := 14) (v := .int (nI ((stepN G y) 40))) hx hb hts (fun _ h => List.mem_cons_of_mem _ (List.mem_append_right _ h)) hown hK hW 2 0 rfl rfl rfl 5 (by decide) (hts _ (List.mem_of_getElem? (i := 4) rfl)) rfl dX4_deepest_68 ?_
          refine nn_cge (tgt := 122) hx hb dX4_deepest_71 (by decide) (by omega) (by omega) (fun c71 => ?_) (fun c71 => ?_)
          · have hsx : deepSt (stepN G y) (G 40) = (o, pp) := by rw [← show i = G 40 by omega]; exact hst
            refine lv_iload hx hb dX4_deepest_122 (lv_at hl 2 rfl) ?_
            refine zz_zge (tgt := 136) hx hb dX4_deepest_124 (by decide) (bst_toInt (o := o) (by omega)) (fun c124 => ?_) (fun c124 => ?_)
            · refine lv_iload hx hb dX4_deepest_136 (lv_at hl 2 rfl) ?_
              exact rt_i hQ hx hb hr hlocks hW dX4_deepest_138 (stepN G y) (by (try simp only [deepestV, orV, bst, ey, hsx, Int.toNat_natCast]); (repeat' split) <;> first | rfl | (exfalso; omega)) trivial (by (try simp only [deepestF, orF, ey, hsx, Int.toNat_natCast]); (repeat' split) <;> first | rfl | (exfalso; omega))
            · refine lv_aload_n hx hb dX4_deepest_127 rfl (lv_at hl 5 rfl) ?_
              refine lv_ldc (v := -1000000004) hx hb hown (hts _ (List.mem_of_getElem? (i := 6) rfl)) dX4_deepest_128 ?_
              refine cl_Vi (As := [.int (-1000000004)]) (rest := []) (C := RX4) ⟨hx, hb, hml, hown, hts⟩ (M_X4_tell l D cI cJ x fi ik la ta ka tp sh F 3 (by decide) (-1000000004) (by decide +kernel)) (cwV 1 hts gX4_deepest_X4_tell rfl rfl rfl qX4_tell ⟨Nat.le_of_ble_eq_true rfl, Nat.le_of_ble_eq_true rfl⟩) E0_good hK hA hW trivial [true, false, false, true] (fun _ => [xH x la ta ka tp sh fi ik, gW cI la G, gW cI ta (stepN G y), aI cI fi 7 (up F 3 (F 3 + 1))]) rfl (fun _ => rfl) (fun _ => rfl) 0 0 rfl rfl rfl rfl hl.1 rfl (lv_room (Nat.le_of_ble_eq_true rfl)) dX4_deepest_130 ⟨Nat.zero_le _, Nat.zero_le _⟩ (fun _ H locs _ hW => ?_)
              refine lv_goto (tgt := 138) hx hb dX4_deepest_133 (by decide) ?_
              exact rt_i hQ hx hb hr hlocks hW dX4_deepest_138 (stepN G y) (by (try simp only [deepestV, orV, bst, ey, hsx, Int.toNat_natCast]); (repeat' split) <;> first | rfl | (exfalso; omega)) trivial (by (try simp only [deepestF, orF, ey, hsx, Int.toNat_natCast]); (repeat' split) <;> first | rfl | (exfalso; omega))
          · have hmi := hTy.m i (by omega)
            have hki := keepsN_le hTy (a := i) (by omega)
            have hoi := outC_ge (G := stepN G y) (i := i) (by omega)
            refine lv_aload_n hx hb dX4_deepest_74 rfl (lv_at hl 5 rfl) ?_
            refine sg_get (ci := 3) (C := RX4) (T := TX4) (N := 7) (v := .ref (ta 0)) hx hb hts (fun _ h => List.mem_cons_of_mem _ (List.mem_append_left _ (List.mem_append_right _ h))) hown hK hW 0 0 rfl rfl rfl 1 (by decide) (hts _ (List.mem_of_getElem? (i := 2) rfl)) rfl dX4_deepest_75 ?_
            refine sg_get (ci := 0) (C := RX0) (T := TX0) (N := 14) (v := .ref (ta 2)) hx hb hts (fun _ h => List.mem_cons_of_mem _ (List.mem_append_right _ h)) hown hK hW 2 0 rfl rfl rfl 7 (by decide) (hts _ (List.mem_of_getElem? (i := 5) rfl)) rfl dX4_deepest_78 ?_
            refine lv_iload hx hb dX4_deepest_81 (lv_at hl 0 rfl) ?_
            refine sg_ild (v := nI ((stepN G y) (8 * i + 2))) hx hb hK hW 2 2 0 rfl rfl rfl (by omega) (by decide) rfl dX4_deepest_83 ?_
            refine lv_iconst (v := nI 1) hx hb dX4_deepest_84 (by decide +kernel) ?_
            refine nn_cne (tgt := 116) hx hb dX4_deepest_85 (by decide) (by omega) (by decide) (fun c85 => ?_) (fun c85 => ?_)
            · have hst2 : deepSt (stepN G y) (i + 1) = (o, pp) := by
                show (if stepN G y (8 * i + 2) = 1 ∧ (deepSt (stepN G y) i).2 < keepsN (stepN G y) i + 1 then (i + 1, keepsN (stepN G y) i + 1) else deepSt (stepN G y) i) = _
                rw [hst, if_neg (by show ¬ (_ ∧ pp < _); omega)]
              refine lv_iinc (v := nI (i + 1)) (lv' := [(6, .int (nI (i + 1))), (5, .int (bst pp)), (4, .int (bst o)), (3, .int (nI (nightN (stepN G y)))), (2, .int (nI (outC (stepN G y)))), (0, .ref x), (1, .int (nI y))]) hx hb dX4_deepest_116 hl (k := 0) rfl (nI_add _ 1) (by decide) rfl (fun ls hl => ?_)
              refine lv_goto (tgt := 62) hx hb dX4_deepest_119 (by decide) ?_
              exact ih (i + 1) o pp (by omega) (by omega) hst2 _ _ hW _ (lv_sub hl [0, 1, 2, 3, 4, 5, 6] rfl)
            · refine lv_aload_n hx hb dX4_deepest_88 rfl (lv_at hl 5 rfl) ?_
              refine sg_get (ci := 3) (C := RX4) (T := TX4) (N := 7) (v := .ref (ta 0)) hx hb hts (fun _ h => List.mem_cons_of_mem _ (List.mem_append_left _ (List.mem_append_right _ h))) hown hK hW 0 0 rfl rfl rfl 1 (by decide) (hts _ (List.mem_of_getElem? (i := 2) rfl)) rfl dX4_deepest_89 ?_
              refine lv_iload hx hb dX4_deepest_92 (lv_at hl 0 rfl) ?_
              refine lv_iload_n hx hb dX4_deepest_94 rfl (lv_at hl 4 rfl) ?_
              refine lv_iload_n hx hb dX4_deepest_95 rfl (lv_at hl 3 rfl) ?_
              refine cl_Vi (As := [.int (nI i), .int (nI (outC (stepN G y))), .int (nI (nightN (stepN G y)))]) (rest := []) (C := RX0) ⟨hx, hb, hml, hown, hts⟩ (M_X0_keepsNow l D cI cJ ta (stepN G y) (99999 + y) (by omega) (stepN_ok hG y) i (outC (stepN G y)) (nightN (stepN G y)) (by omega) (by omega) (by omega) (by omega)) (cwV 3 hts gX4_deepest_X0_keepsNow rfl rfl rfl qX0_keepsNow ⟨Nat.le_of_ble_eq_true rfl, Nat.le_of_ble_eq_true rfl⟩) E0_good hK hA hW trivial [false, false, true] (fun _ => [xH x la ta ka tp sh fi ik, gW cI la G, gW cI ta (stepN G y), aI cI fi 7 F]) rfl (fun _ => rfl) (fun _ => rfl) 2 0 rfl rfl rfl rfl hl.1 rfl (lv_room (Nat.le_of_ble_eq_true rfl)) dX4_deepest_96 ⟨Nat.zero_le _, Nat.zero_le _⟩ (fun _ H locs _ hW => ?_)
              refine W.top (v' := .int (nI (keepsN (stepN G y) i))) rfl ?_
              refine lv_istore (lv' := [(7, .int (nI (keepsN (stepN G y) i))), (6, .int (nI i)), (5, .int (bst pp)), (4, .int (bst o)), (3, .int (nI (nightN (stepN G y)))), (2, .int (nI (outC (stepN G y)))), (0, .ref x), (1, .int (nI y))]) hx hb dX4_deepest_99 hl (by decide) rfl (fun ls hl => ?_)
              refine lv_iload hx hb dX4_deepest_101 (lv_at hl 0 rfl) ?_
              refine lv_iload hx hb dX4_deepest_103 (lv_at hl 2 rfl) ?_
              refine zz_cle (tgt := 116) hx hb dX4_deepest_105 (by decide) (nI_toInt (n := keepsN (stepN G y) i) (by omega)) (bst_toInt (o := pp) (by omega)) (fun c105 => ?_) (fun c105 => ?_)
              · have hst2 : deepSt (stepN G y) (i + 1) = (o, pp) := by
                  show (if stepN G y (8 * i + 2) = 1 ∧ (deepSt (stepN G y) i).2 < keepsN (stepN G y) i + 1 then (i + 1, keepsN (stepN G y) i + 1) else deepSt (stepN G y) i) = _
                  rw [hst, if_neg (by show ¬ (_ ∧ pp < _); omega)]
                refine lv_iinc (v := nI (i + 1)) (lv' := [(6, .int (nI (i + 1))), (7, .int (nI (keepsN (stepN G y) i))), (5, .int (bst pp)), (4, .int (bst o)), (3, .int (nI (nightN (stepN G y)))), (2, .int (nI (outC (stepN G y)))), (0, .ref x), (1, .int (nI y))]) hx hb dX4_deepest_116 hl (k := 1) rfl (nI_add _ 1) (by decide) rfl (fun ls hl => ?_)
                refine lv_goto (tgt := 62) hx hb dX4_deepest_119 (by decide) ?_
                exact ih (i + 1) o pp (by omega) (by omega) hst2 _ _ hW _ (lv_sub hl [0, 2, 3, 4, 5, 6, 7] rfl)
              · refine lv_iload hx hb dX4_deepest_108 (lv_at hl 1 rfl) ?_
                refine lv_istore (lv' := [(4, .int (nI i)), (7, .int (nI (keepsN (stepN G y) i))), (6, .int (nI i)), (5, .int (bst pp)), (3, .int (nI (nightN (stepN G y)))), (2, .int (nI (outC (stepN G y)))), (0, .ref x), (1, .int (nI y))]) hx hb dX4_deepest_110 hl (by decide) rfl (fun ls hl => ?_)
                refine lv_iload hx hb dX4_deepest_112 (lv_at hl 1 rfl) ?_
                refine lv_istore (lv' := [(5, .int (nI (keepsN (stepN G y) i))), (4, .int (nI i)), (7, .int (nI (keepsN (stepN G y) i))), (6, .int (nI i)), (3, .int (nI (nightN (stepN G y)))), (2, .int (nI (outC (stepN G y)))), (0, .ref x), (1, .int (nI y))]) hx hb dX4_deepest_114 hl (by decide) rfl (fun ls hl => ?_)
                have hst2 : deepSt (stepN G y) (i + 1) = (i + 1, keepsN (stepN G y) i + 1) := by
                  show (if stepN G y (8 * i + 2) = 1 ∧ (deepSt (stepN G y) i).2 < keepsN (stepN G y) i + 1 then (i + 1, keepsN (stepN G y) i + 1) else deepSt (stepN G y) i) = _
                  rw [hst, if_pos (by show _ ∧ pp < _; omega)]
                have hb1 : nI i = bst (i + 1) := (if_neg (Nat.succ_ne_zero _)).symm
                have hl : lv_has ls 8 [(5, .int (nI (keepsN (stepN G y) i))), (4, .int (bst (i + 1))), (7, .int (nI (keepsN (stepN G y) i))), (6, .int (nI i)), (3, .int (nI (nightN (stepN G y)))), (2, .int (nI (outC (stepN G y)))), (0, .ref x), (1, .int (nI y))] := by rw [← hb1]; exact hl
                have hb2 : nI (keepsN (stepN G y) i) = bst (keepsN (stepN G y) i + 1) := (if_neg (Nat.succ_ne_zero _)).symm
                have hl : lv_has ls 8 [(5, .int (bst (keepsN (stepN G y) i + 1))), (4, .int (bst (i + 1))), (7, .int (nI (keepsN (stepN G y) i))), (6, .int (nI i)), (3, .int (nI (nightN (stepN G y)))), (2, .int (nI (outC (stepN G y)))), (0, .ref x), (1, .int (nI y))] := by rw [← hb2]; exact hl
                refine lv_iinc (v := nI (i + 1)) (lv' := [(6, .int (nI (i + 1))), (5, .int (bst (keepsN (stepN G y) i + 1))), (4, .int (bst (i + 1))), (7, .int (nI (keepsN (stepN G y) i))), (3, .int (nI (nightN (stepN G y)))), (2, .int (nI (outC (stepN G y)))), (0, .ref x), (1, .int (nI y))]) hx hb dX4_deepest_116 hl (k := 3) rfl (nI_add _ 1) (by decide) rfl (fun ls hl => ?_)
                refine lv_goto (tgt := 62) hx hb dX4_deepest_119 (by decide) ?_
                exact ih (i + 1) (i + 1) (keepsN (stepN G y) i + 1) (by omega) (by omega) hst2 _ _ hW _ (lv_sub hl [0, 1, 2, 4, 5, 6, 7] rfl)
      exact lp62 (G 40 - 0 + 1) 0 0 0 (Nat.lt_succ_self _) (by omega) rfl _ _ hW _ (lv_sub hl [0, 1, 2, 3, 4, 5, 6] rfl)
    · refine lv_aload_n hx hb dX4_deepest_11 rfl (lv_at hl 0 rfl) ?_
      refine lv_ldc (v := -1000000001) hx hb hown (hts _ (List.mem_of_getElem? (i := 1) rfl)) dX4_deepest_12 ?_
      refine cl_Vi (As := [.int (-1000000001)]) (rest := []) (C := RX4) ⟨hx, hb, hml, hown, hts⟩ (M_X4_tell l D cI cJ x fi ik la ta ka tp sh F 0 (by decide) (-1000000001) (by decide +kernel)) (cwV 1 hts gX4_deepest_X4_tell rfl rfl rfl qX4_tell ⟨Nat.le_of_ble_eq_true rfl, Nat.le_of_ble_eq_true rfl⟩) E0_good hK hA hW trivial [true, false, false, true] (fun _ => [xH x la ta ka tp sh fi ik, gW cI la G, gW cI ta T, aI cI fi 7 (up F 0 (F 0 + 1))]) rfl (fun _ => rfl) (fun _ => rfl) 0 0 rfl rfl rfl rfl hl.1 rfl (lv_room (Nat.le_of_ble_eq_true rfl)) dX4_deepest_14 ⟨Nat.zero_le _, Nat.zero_le _⟩ (fun _ H locs _ hW => ?_)
      exact rt_i hQ hx hb hr hlocks hW dX4_deepest_17 T (by (try simp only [deepestV, orV, bst]); (repeat' split) <;> first | rfl | (exfalso; omega)) trivial (by (try simp only [deepestF, orF]); (repeat' split) <;> first | rfl | (exfalso; omega))
