theorem qX0_minuteOfDay : yX0_minuteOfDay.cls = RX0 ∧ yX0_minuteOfDay.cls ≠ "java/lang/invoke/MethodHandle" ∧ yX0_minuteOfDay.cls ≠ "java/lang/invoke/VarHandle" ∧ (parseMethodDescriptor yX0_minuteOfDay.desc).map (fun d => d.parameters.length) = some 0 := by decide +kernel
theorem qX0_onCount : yX0_onCount.cls = RX0 ∧ yX0_onCount.cls ≠ "java/lang/invoke/MethodHandle" ∧ yX0_onCount.cls ≠ "java/lang/invoke/VarHandle" ∧ (parseMethodDescriptor yX0_onCount.desc).map (fun d => d.parameters.length) = some 0 := by decide +kernel
abbrev rmX0_hasMother : Room := { frames := 0, cells := 0, slots := 0, locals := 0 }
set_option maxRecDepth 100000 in
set_option maxHeartbeats 4000000 in
/-- hasMother: whether there is one of that number -/
theorem cX0_hasMother (l : Launch) (D : va_G) (cI cJ : ClassId) (g G : Nat → Nat) (b : Nat) (hb30 : b < 2 ^ 30) (hG : OkG b G) (v : Int32) : CE E0 l D vwCl [(cI, .int), (cJ, .long)] yX0_hasMother wsX0_hasMother rmX0_hasMother [.ref (g 0), .int v] [gW cI g G] (S := Unit) (some (.int (nI (inN v (G 40))))) (fun _ => True) (fun _ : Unit => [gW cI g G]) 0 0 := by
  refine CE.ofW (cc := cX0_hasMother) (maxL := 2) (ret := (some .boolean)) (lv := [(0, .ref (g 0)), (1, .int v)]) (by decide) rfl (Nat.le_of_ble_eq_true rfl) rfl ?_
  intro p e s m args below meth c ls A Q hQ hx hb hml hr hlocks hnm hown hts hK hA hE hW hl
  have hown : s.vm.findClass RX0 = some m.cls := hown
  obtain ⟨hg0, hg8, hg16, hg16b, hg24, hg32, hg40, hg48⟩ := hG.s
  refine lv_iload_n hx hb dX0_hasMother_0 rfl (lv_at hl 1 rfl) ?_
  refine zz_zlt (tgt := 16) hx hb dX0_hasMother_1 (by decide) (rfl : v.toInt = v.toInt) (fun c1 => ?_) (fun c1 => ?_)
  · refine lv_iconst (v := nI 0) hx hb dX0_hasMother_16 (by decide +kernel) ?_
    exact rt_z hQ hx hb hr hlocks hW dX0_hasMother_17 (by decide +kernel) () (by unfold inN; split <;> first | rfl | (exfalso; omega)) trivial rfl
  · refine lv_iload_n hx hb dX0_hasMother_4 rfl (lv_at hl 1 rfl) ?_
    refine lv_aload_n hx hb dX0_hasMother_5 rfl (lv_at hl 0 rfl) ?_
    refine sg_get (ci := 0) (C := RX0) (T := TX0) (N := 14) (v := .int (nI (G 40))) hx hb hts (fun _ h => List.mem_cons_of_mem _ (List.mem_append_right _ h)) hown hK hW 0 0 rfl rfl rfl 5 (by decide) (hts _ (List.mem_of_getElem? (i := 1) rfl)) rfl dX0_hasMother_6 ?_
    refine zz_cge (tgt := 16) hx hb dX0_hasMother_9 (by decide) (rfl : v.toInt = v.toInt) (nI_toInt (n := G 40) (by omega)) (fun c9 => ?_) (fun c9 => ?_)
    · refine lv_iconst (v := nI 0) hx hb dX0_hasMother_16 (by decide +kernel) ?_
      exact rt_z hQ hx hb hr hlocks hW dX0_hasMother_17 (by decide +kernel) () (by unfold inN; split <;> first | rfl | (exfalso; omega)) trivial rfl
    · refine lv_iconst (v := nI 1) hx hb dX0_hasMother_12 (by decide +kernel) ?_
      refine lv_goto (tgt := 17) hx hb dX0_hasMother_13 (by decide) ?_
      exact rt_z hQ hx hb hr hlocks hW dX0_hasMother_17 (by decide +kernel) () (by unfold inN; split <;> first | rfl | (exfalso; omega)) trivial rfl
abbrev rmX0_hasChild : Room := { frames := 0, cells := 0, slots := 0, locals := 0 }
set_option maxRecDepth 100000 in
set_option maxHeartbeats 4000000 in
/-- hasChild: whether there is one of that number -/
theorem cX0_hasChild (l : Launch) (D : va_G) (cI cJ : ClassId) (g G : Nat → Nat) (b : Nat) (hb30 : b < 2 ^ 30) (hG : OkG b G) (v : Int32) : CE E0 l D vwCl [(cI, .int), (cJ, .long)] yX0_hasChild wsX0_hasChild rmX0_hasChild [.ref (g 0), .int v] [gW cI g G] (S := Unit) (some (.int (nI (inN v (G 48))))) (fun _ => True) (fun _ : Unit => [gW cI g G]) 0 0 := by
  refine CE.ofW (cc := cX0_hasChild) (maxL := 2) (ret := (some .boolean)) (lv := [(0, .ref (g 0)), (1, .int v)]) (by decide) rfl (Nat.le_of_ble_eq_true rfl) rfl ?_
  intro p e s m args below meth c ls A Q hQ hx hb hml hr hlocks hnm hown hts hK hA hE hW hl
  have hown : s.vm.findClass RX0 = some m.cls := hown
  obtain ⟨hg0, hg8, hg16, hg16b, hg24, hg32, hg40, hg48⟩ := hG.s
  refine lv_iload_n hx hb dX0_hasChild_0 rfl (lv_at hl 1 rfl) ?_
  refine zz_zlt (tgt := 16) hx hb dX0_hasChild_1 (by decide) (rfl : v.toInt = v.toInt) (fun c1 => ?_) (fun c1 => ?_)
  · refine lv_iconst (v := nI 0) hx hb dX0_hasChild_16 (by decide +kernel) ?_
    exact rt_z hQ hx hb hr hlocks hW dX0_hasChild_17 (by decide +kernel) () (by unfold inN; split <;> first | rfl | (exfalso; omega)) trivial rfl
  · refine lv_iload_n hx hb dX0_hasChild_4 rfl (lv_at hl 1 rfl) ?_
    refine lv_aload_n hx hb dX0_hasChild_5 rfl (lv_at hl 0 rfl) ?_
    refine sg_get (ci := 0) (C := RX0) (T := TX0) (N := 14) (v := .int (nI (G 48))) hx hb hts (fun _ h => List.mem_cons_of_mem _ (List.mem_append_right _ h)) hown hK hW 0 0 rfl rfl rfl 10 (by decide) (hts _ (List.mem_of_getElem? (i := 1) rfl)) rfl dX0_hasChild_6 ?_
    refine zz_cge (tgt := 16) hx hb dX0_hasChild_9 (by decide) (rfl : v.toInt = v.toInt) (nI_toInt (n := G 48) (by omega)) (fun c9 => ?_) (fun c9 => ?_)
    · refine lv_iconst (v := nI 0) hx hb dX0_hasChild_16 (by decide +kernel) ?_
      exact rt_z hQ hx hb hr hlocks hW dX0_hasChild_17 (by decide +kernel) () (by unfold inN; split <;> first | rfl | (exfalso; omega)) trivial rfl
    · refine lv_iconst (v := nI 1) hx hb dX0_hasChild_12 (by decide +kernel) ?_
      refine lv_goto (tgt := 17) hx hb dX0_hasChild_13 (by decide) ?_
      exact rt_z hQ hx hb hr hlocks hW dX0_hasChild_17 (by decide +kernel) () (by unfold inN; split <;> first | rfl | (exfalso; omega)) trivial rfl
abbrev rmX0_minuteOfDay : Room := { frames := 0, cells := 0, slots := 0, locals := 0 }
set_option maxRecDepth 100000 in
set_option maxHeartbeats 4000000 in
theorem cX0_minuteOfDay (l : Launch) (D : va_G) (cI cJ : ClassId) (g G : Nat → Nat) (b : Nat) (hb30 : b < 2 ^ 30) (hG : OkG b G) : CE E0 l D vwCl [(cI, .int), (cJ, .long)] yX0_minuteOfDay wsX0_minuteOfDay rmX0_minuteOfDay [.ref (g 0)] [gW cI g G] (S := Unit) (some (.int (nI (G 0 % 50)))) (fun _ => True) (fun _ : Unit => [gW cI g G]) 0 0 := by
  refine CE.ofW (cc := cX0_minuteOfDay) (maxL := 1) (ret := (some .int)) (lv := [(0, .ref (g 0))]) (by decide) rfl (Nat.le_of_ble_eq_true rfl) rfl ?_
  intro p e s m args below meth c ls A Q hQ hx hb hml hr hlocks hnm hown hts hK hA hE hW hl
  have hown : s.vm.findClass RX0 = some m.cls := hown
  obtain ⟨hg0, hg8, hg16, hg16b, hg24, hg32, hg40, hg48⟩ := hG.s
  refine lv_aload_n hx hb dX0_minuteOfDay_0 rfl (lv_at hl 0 rfl) ?_
  refine sg_get (ci := 0) (C := RX0) (T := TX0) (N := 14) (v := .int (nI (G 0))) hx hb hts (fun _ h => List.mem_cons_of_mem _ (List.mem_append_right _ h)) hown hK hW 0 0 rfl rfl rfl 0 (by decide) (hts _ (List.mem_of_getElem? (i := 1) rfl)) rfl dX0_minuteOfDay_1 ?_
  refine lv_bipush (v := nI 50) hx hb dX0_minuteOfDay_4 (by decide +kernel) ?_
  refine nn_rem hx hb dX0_minuteOfDay_6 (by omega) (by decide) (by decide) ?_
  exact rt_i hQ hx hb hr hlocks hW dX0_minuteOfDay_7 () rfl trivial rfl
abbrev rmX0_isNight : Room := { frames := 1, cells := 0, slots := 0, locals := 20 }
set_option maxRecDepth 100000 in
set_option maxHeartbeats 4000000 in
theorem cX0_isNight (l : Launch) (D : va_G) (cI cJ : ClassId) (g G : Nat → Nat) (b : Nat) (hb30 : b < 2 ^ 30) (hG : OkG b G) : CE E0 l D vwCl [(cI, .int), (cJ, .long)] yX0_isNight wsX0_isNight rmX0_isNight [.ref (g 0)] [gW cI g G] (S := Unit) (some (.int (nI (nightN G)))) (fun _ => True) (fun _ : Unit => [gW cI g G]) 0 0 := by
  refine CE.ofW (cc := cX0_isNight) (maxL := 1) (ret := (some .boolean)) (lv := [(0, .ref (g 0))]) (by decide) rfl (Nat.le_of_ble_eq_true rfl) rfl ?_
  intro p e s m args below meth c ls A Q hQ hx hb hml hr hlocks hnm hown hts hK hA hE hW hl
  have hown : s.vm.findClass RX0 = some m.cls := hown
  obtain ⟨hg0, hg8, hg16, hg16b, hg24, hg32, hg40, hg48⟩ := hG.s
  refine lv_aload_n hx hb dX0_isNight_0 rfl (lv_at hl 0 rfl) ?_
  refine cl_Vi (As := []) (rest := []) (C := RX0) ⟨hx, hb, hml, hown, hts⟩ (cX0_minuteOfDay l D cI cJ g G b hb30 hG) (cwV 0 hts gX0_isNight_X0_minuteOfDay rfl rfl rfl qX0_minuteOfDay ⟨Nat.le_of_ble_eq_true rfl, Nat.le_of_ble_eq_true rfl⟩) E0_good hK hA hW trivial [true] (fun _ => [gW cI g G]) rfl (fun _ => rfl) (fun _ => rfl) 0 0 rfl rfl rfl rfl hl.1 rfl (lv_room (Nat.le_of_ble_eq_true rfl)) dX0_isNight_1 ⟨Nat.zero_le _, Nat.zero_le _⟩ (fun _ H locs _ hW => ?_)
  refine lv_bipush (v := nI 40) hx hb dX0_isNight_4 (by decide +kernel) ?_
  refine nn_clt (tgt := 13) hx hb dX0_isNight_6 (by decide) (by omega) (by decide) (fun c6 => ?_) (fun c6 => ?_)
  · refine lv_iconst (v := nI 0) hx hb dX0_isNight_13 (by decide +kernel) ?_
    exact rt_z hQ hx hb hr hlocks hW dX0_isNight_14 (by decide +kernel) () (by unfold nightN; split <;> first | rfl | (exfalso; omega)) trivial rfl
  · refine lv_iconst (v := nI 1) hx hb dX0_isNight_9 (by decide +kernel) ?_
    refine lv_goto (tgt := 14) hx hb dX0_isNight_10 (by decide) ?_
    exact rt_z hQ hx hb hr hlocks hW dX0_isNight_14 (by decide +kernel) () (by unfold nightN; split <;> first | rfl | (exfalso; omega)) trivial rfl
abbrev rmX0_isWet : Room := { frames := 1, cells := 0, slots := 0, locals := 20 }
set_option maxRecDepth 100000 in
set_option maxHeartbeats 4000000 in
theorem cX0_isWet (l : Launch) (D : va_G) (cI cJ : ClassId) (g G : Nat → Nat) (b : Nat) (hb30 : b < 2 ^ 30) (hG : OkG b G) : CE E0 l D vwCl [(cI, .int), (cJ, .long)] yX0_isWet wsX0_isWet rmX0_isWet [.ref (g 0)] [gW cI g G] (S := Unit) (some (.int (nI (wetN G)))) (fun _ => True) (fun _ : Unit => [gW cI g G]) 0 0 := by
  refine CE.ofW (cc := cX0_isWet) (maxL := 1) (ret := (some .boolean)) (lv := [(0, .ref (g 0))]) (by decide) rfl (Nat.le_of_ble_eq_true rfl) rfl ?_
  intro p e s m args below meth c ls A Q hQ hx hb hml hr hlocks hnm hown hts hK hA hE hW hl
  have hown : s.vm.findClass RX0 = some m.cls := hown
  obtain ⟨hg0, hg8, hg16, hg16b, hg24, hg32, hg40, hg48⟩ := hG.s
  refine lv_aload_n hx hb dX0_isWet_0 rfl (lv_at hl 0 rfl) ?_
  refine sg_get (ci := 0) (C := RX0) (T := TX0) (N := 14) (v := .int (nI (G 8))) hx hb hts (fun _ h => List.mem_cons_of_mem _ (List.mem_append_right _ h)) hown hK hW 0 0 rfl rfl rfl 1 (by decide) (hts _ (List.mem_of_getElem? (i := 1) rfl)) rfl dX0_isWet_1 ?_
  refine lv_aload_n hx hb dX0_isWet_4 rfl (lv_at hl 0 rfl) ?_
  refine cl_Vi (As := []) (rest := [.int (nI (G 8))]) (C := RX0) ⟨hx, hb, hml, hown, hts⟩ (cX0_minuteOfDay l D cI cJ g G b hb30 hG) (cwV 0 hts gX0_isWet_X0_minuteOfDay rfl rfl rfl qX0_minuteOfDay ⟨Nat.le_of_ble_eq_true rfl, Nat.le_of_ble_eq_true rfl⟩) E0_good hK hA hW trivial [true] (fun _ => [gW cI g G]) rfl (fun _ => rfl) (fun _ => rfl) 0 0 rfl rfl rfl rfl hl.1 rfl (lv_room (Nat.le_of_ble_eq_true rfl)) dX0_isWet_5 ⟨Nat.zero_le _, Nat.zero_le _⟩ (fun _ H locs _ hW => ?_)
  refine lv_bipush (v := nI 10) hx hb dX0_isWet_8 (by decide +kernel) ?_
  refine nn_div hx hb dX0_isWet_10 (by omega) (by decide) (by decide) ?_
  refine nn_shr hx hb dX0_isWet_11 (by omega) (by omega) ?_
  refine lv_iconst (v := nI 1) hx hb dX0_isWet_12 (by decide +kernel) ?_
  refine nn_and hx hb dX0_isWet_13 ?_
  refine W.top (v' := .int (nI (G 8 / 2 ^ (G 0 % 50 / 10) % 2))) (by rw [Nat.and_one_is_mod]) ?_
  refine lv_iconst (v := nI 1) hx hb dX0_isWet_14 (by decide +kernel) ?_
  refine nn_cne (tgt := 22) hx hb dX0_isWet_15 (by decide) (by omega) (by decide) (fun c15 => ?_) (fun c15 => ?_)
  · refine lv_iconst (v := nI 0) hx hb dX0_isWet_22 (by decide +kernel) ?_
    exact rt_z hQ hx hb hr hlocks hW dX0_isWet_23 (by decide +kernel) () (by unfold wetN; congr 3; omega) trivial rfl
  · refine lv_iconst (v := nI 1) hx hb dX0_isWet_18 (by decide +kernel) ?_
    refine lv_goto (tgt := 23) hx hb dX0_isWet_19 (by decide) ?_
    exact rt_z hQ hx hb hr hlocks hW dX0_isWet_23 (by decide +kernel) () (by unfold wetN; congr 3; omega) trivial rfl
abbrev rmX0_outCount : Room := { frames := 0, cells := 0, slots := 0, locals := 0 }
set_option maxRecDepth 100000 in
set_option maxHeartbeats 4000000 in
theorem cX0_outCount (l : Launch) (D : va_G) (cI cJ : ClassId) (g G : Nat → Nat) (b : Nat) (hb30 : b < 2 ^ 30) (hG : OkG b G) : CE E0 l D vwCl [(cI, .int), (cJ, .long)] yX0_outCount wsX0_outCount rmX0_outCount [.ref (g 0)] [gW cI g G] (S := Unit) (some (.int (nI (outC G)))) (fun _ => True) (fun _ : Unit => [gW cI g G]) 0 0 := by
  refine CE.ofW (cc := cX0_outCount) (maxL := 3) (ret := (some .int)) (lv := [(0, .ref (g 0))]) (by decide) rfl (Nat.le_of_ble_eq_true rfl) rfl ?_
  intro p e s m args below meth c ls A Q hQ hx hb hml hr hlocks hnm hown hts hK hA hE hW hl
  have hown : s.vm.findClass RX0 = some m.cls := hown
  obtain ⟨hg0, hg8, hg16, hg16b, hg24, hg32, hg40, hg48⟩ := hG.s
  refine lv_iconst (v := nI 0) hx hb dX0_outCount_0 (by decide +kernel) ?_
  refine lv_istore_n (lv' := [(1, .int (nI 0)), (0, .ref (g 0))]) hx hb dX0_outCount_1 rfl hl (by decide) rfl (fun ls hl => ?_)
  refine lv_iconst (v := nI 0) hx hb dX0_outCount_2 (by decide +kernel) ?_
  refine lv_istore_n (lv' := [(2, .int (nI 0)), (1, .int (nI 0)), (0, .ref (g 0))]) hx hb dX0_outCount_3 rfl hl (by decide) rfl (fun ls hl => ?_)
  have lp4 : ∀ (n : Nat) (i : Nat), G 40 - i < n → i ≤ G 40 → ∀ (H : Heap) (locs : List Loc), Wo D vwCl A s.heap H locs [gW cI g G] → ∀ ls : Array Slot, lv_has ls 3 [(2, .int (nI i)), (1, .int (nI (sumN (fun i => G (8 * i + 2)) i))), (0, .ref (g 0))] → W p l e rmX0_outCount s m args below meth c H locs 0 0 Q (F0 m 4 ls []) := by
    intro n
    induction n with
    | zero => intro i hm; exact absurd hm (Nat.not_lt_zero _)
    | succ n ih =>
      intro i hm hi H locs hW ls hl
      have hmi : ∀ j, j < i → G (8 * j + 2) ≤ 1 := fun j hj => (hG.m j (by omega)).2.1
      refine lv_iload_n hx hb dX0_outCount_4 rfl (lv_at hl 0 rfl) ?_
      refine lv_aload_n hx hb dX0_outCount_5 rfl (lv_at hl 2 rfl) ?_
      refine sg_get (ci := 0) (C := RX0) (T := TX0) (N := 14) (v := .int (nI (G 40))) hx hb hts (fun _ h => List.mem_cons_of_mem _ (List.mem_append_right _ h)) hown hK hW 0 0 rfl rfl rfl 5 (by decide) (hts _ (List.mem_of_getElem? (i := 1) rfl)) rfl dX0_outCount_6 ?_
      refine nn_cge (tgt := 27) hx hb dX0_outCount_9 (by decide) (by omega) (by omega) (fun c9 => ?_) (fun c9 => ?_)
      · refine lv_iload_n hx hb dX0_outCount_27 rfl (lv_at hl 1 rfl) ?_
        exact rt_i hQ hx hb hr hlocks hW dX0_outCount_28 () (by rw [show i = G 40 by omega]; rfl) trivial rfl
      · refine lv_iload_n hx hb dX0_outCount_12 rfl (lv_at hl 1 rfl) ?_
        refine lv_aload_n hx hb dX0_outCount_13 rfl (lv_at hl 2 rfl) ?_
        refine sg_get (ci := 0) (C := RX0) (T := TX0) (N := 14) (v := .ref (g 2)) hx hb hts (fun _ h => List.mem_cons_of_mem _ (List.mem_append_right _ h)) hown hK hW 0 0 rfl rfl rfl 7 (by decide) (hts _ (List.mem_of_getElem? (i := 2) rfl)) rfl dX0_outCount_14 ?_
        refine lv_iload_n hx hb dX0_outCount_17 rfl (lv_at hl 0 rfl) ?_
        refine sg_ild (v := nI (G (8 * i + 2))) hx hb hK hW 0 2 0 rfl rfl rfl (by omega) (by decide) rfl dX0_outCount_18 ?_
        refine nn_add hx hb dX0_outCount_19 ?_
        refine lv_istore_n (lv' := [(1, .int (nI ((sumN (fun i => G (8 * i + 2)) i) + (G (8 * i + 2))))), (2, .int (nI i)), (0, .ref (g 0))]) hx hb dX0_outCount_20 rfl hl (by decide) rfl (fun ls hl => ?_)
        refine lv_iinc (v := nI (i + 1)) (lv' := [(2, .int (nI (i + 1))), (1, .int (nI ((sumN (fun i => G (8 * i + 2)) i) + (G (8 * i + 2))))), (0, .ref (g 0))]) hx hb dX0_outCount_21 hl (k := 1) rfl (nI_add _ 1) (by decide) rfl (fun ls hl => ?_)
        refine lv_goto (tgt := 4) hx hb dX0_outCount_24 (by decide) ?_
        exact ih (i + 1) (by omega) (by omega) _ _ hW _ (lv_sub hl [0, 1, 2] rfl)
  exact lp4 (G 40 - 0 + 1) 0 (Nat.lt_succ_self _) (by omega) _ _ hW _ (lv_sub hl [0, 1, 2] rfl)
abbrev rmX0_outSet : Room := { frames := 0, cells := 0, slots := 0, locals := 0 }
set_option maxRecDepth 100000 in
set_option maxHeartbeats 4000000 in
theorem cX0_outSet (l : Launch) (D : va_G) (cI cJ : ClassId) (g G : Nat → Nat) (b : Nat) (hb30 : b < 2 ^ 30) (hG : OkG b G) : CE E0 l D vwCl [(cI, .int), (cJ, .long)] yX0_outSet wsX0_outSet rmX0_outSet [.ref (g 0)] [gW cI g G] (S := Unit) (some (.int (nI (outS G)))) (fun _ => True) (fun _ : Unit => [gW cI g G]) 0 0 := by
  refine CE.ofW (cc := cX0_outSet) (maxL := 3) (ret := (some .int)) (lv := [(0, .ref (g 0))]) (by decide) rfl (Nat.le_of_ble_eq_true rfl) rfl ?_
  intro p e s m args below meth c ls A Q hQ hx hb hml hr hlocks hnm hown hts hK hA hE hW hl
  have hown : s.vm.findClass RX0 = some m.cls := hown
  obtain ⟨hg0, hg8, hg16, hg16b, hg24, hg32, hg40, hg48⟩ := hG.s
  refine lv_iconst (v := nI 0) hx hb dX0_outSet_0 (by decide +kernel) ?_
  refine lv_istore_n (lv' := [(1, .int (nI 0)), (0, .ref (g 0))]) hx hb dX0_outSet_1 rfl hl (by decide) rfl (fun ls hl => ?_)
  refine lv_iconst (v := nI 0) hx hb dX0_outSet_2 (by decide +kernel) ?_
  refine lv_istore_n (lv' := [(2, .int (nI 0)), (1, .int (nI 0)), (0, .ref (g 0))]) hx hb dX0_outSet_3 rfl hl (by decide) rfl (fun ls hl => ?_)
  have lp4 : ∀ (n : Nat) (i : Nat), G 40 - i < n → i ≤ G 40 → ∀ (H : Heap) (locs : List Loc), Wo D vwCl A s.heap H locs [gW cI g G] → ∀ ls : Array Slot, lv_has ls 3 [(2, .int (nI i)), (1, .int (nI (setN (fun i => G (8 * i + 2)) i))), (0, .ref (g 0))] → W p l e rmX0_outSet s m args below meth c H locs 0 0 Q (F0 m 4 ls []) := by
    intro n
    induction n with
    | zero => intro i hm; exact absurd hm (Nat.not_lt_zero _)
    | succ n ih =>
      intro i hm hi H locs hW ls hl
      have hmi : ∀ j, j < i → G (8 * j + 2) ≤ 1 := fun j hj => (hG.m j (by omega)).2.1
      refine lv_iload_n hx hb dX0_outSet_4 rfl (lv_at hl 0 rfl) ?_
      refine lv_aload_n hx hb dX0_outSet_5 rfl (lv_at hl 2 rfl) ?_
      refine sg_get (ci := 0) (C := RX0) (T := TX0) (N := 14) (v := .int (nI (G 40))) hx hb hts (fun _ h => List.mem_cons_of_mem _ (List.mem_append_right _ h)) hown hK hW 0 0 rfl rfl rfl 5 (by decide) (hts _ (List.mem_of_getElem? (i := 1) rfl)) rfl dX0_outSet_6 ?_
      refine nn_cge (tgt := 29) hx hb dX0_outSet_9 (by decide) (by omega) (by omega) (fun c9 => ?_) (fun c9 => ?_)
      · refine lv_iload_n hx hb dX0_outSet_29 rfl (lv_at hl 1 rfl) ?_
        exact rt_i hQ hx hb hr hlocks hW dX0_outSet_30 () (by rw [show i = G 40 by omega]; rfl) trivial rfl
      · refine lv_iload_n hx hb dX0_outSet_12 rfl (lv_at hl 1 rfl) ?_
        refine lv_aload_n hx hb dX0_outSet_13 rfl (lv_at hl 2 rfl) ?_
        refine sg_get (ci := 0) (C := RX0) (T := TX0) (N := 14) (v := .ref (g 2)) hx hb hts (fun _ h => List.mem_cons_of_mem _ (List.mem_append_right _ h)) hown hK hW 0 0 rfl rfl rfl 7 (by decide) (hts _ (List.mem_of_getElem? (i := 2) rfl)) rfl dX0_outSet_14 ?_
        refine lv_iload_n hx hb dX0_outSet_17 rfl (lv_at hl 0 rfl) ?_
        refine sg_ild (v := nI (G (8 * i + 2))) hx hb hK hW 0 2 0 rfl rfl rfl (by omega) (by decide) rfl dX0_outSet_18 ?_
        refine lv_iload_n hx hb dX0_outSet_19 rfl (lv_at hl 0 rfl) ?_
        refine nn_shl hx hb dX0_outSet_20 (by omega) ?_
        refine nn_or hx hb dX0_outSet_21 ?_
        refine W.top (v' := .int (nI (setN (fun i => G (8 * i + 2)) (i + 1)))) (congrArg (fun z => Value.int (nI z)) (setN_or (f := (fun i => G (8 * i + 2))) (n := i) hmi)) ?_
        refine lv_istore_n (lv' := [(1, .int (nI (setN (fun i => G (8 * i + 2)) (i + 1)))), (2, .int (nI i)), (0, .ref (g 0))]) hx hb dX0_outSet_22 rfl hl (by decide) rfl (fun ls hl => ?_)
        refine lv_iinc (v := nI (i + 1)) (lv' := [(2, .int (nI (i + 1))), (1, .int (nI (setN (fun i => G (8 * i + 2)) (i + 1)))), (0, .ref (g 0))]) hx hb dX0_outSet_23 hl (k := 1) rfl (nI_add _ 1) (by decide) rfl (fun ls hl => ?_)
        refine lv_goto (tgt := 4) hx hb dX0_outSet_26 (by decide) ?_
        exact ih (i + 1) (by omega) (by omega) _ _ hW _ (lv_sub hl [0, 1, 2] rfl)
  exact lp4 (G 40 - 0 + 1) 0 (Nat.lt_succ_self _) (by omega) _ _ hW _ (lv_sub hl [0, 1, 2] rfl)
abbrev rmX0_onCount : Room := { frames := 0, cells := 0, slots := 0, locals := 0 }
set_option maxRecDepth 100000 in
set_option maxHeartbeats 4000000 in
theorem cX0_onCount (l : Launch) (D : va_G) (cI cJ : ClassId) (g G : Nat → Nat) (b : Nat) (hb30 : b < 2 ^ 30) (hG : OkG b G) : CE E0 l D vwCl [(cI, .int), (cJ, .long)] yX0_onCount wsX0_onCount rmX0_onCount [.ref (g 0)] [gW cI g G] (S := Unit) (some (.int (nI (onC G)))) (fun _ => True) (fun _ : Unit => [gW cI g G]) 0 0 := by
  refine CE.ofW (cc := cX0_onCount) (maxL := 3) (ret := (some .int)) (lv := [(0, .ref (g 0))]) (by decide) rfl (Nat.le_of_ble_eq_true rfl) rfl ?_
  intro p e s m args below meth c ls A Q hQ hx hb hml hr hlocks hnm hown hts hK hA hE hW hl
  have hown : s.vm.findClass RX0 = some m.cls := hown
  obtain ⟨hg0, hg8, hg16, hg16b, hg24, hg32, hg40, hg48⟩ := hG.s
  refine lv_iconst (v := nI 0) hx hb dX0_onCount_0 (by decide +kernel) ?_
  refine lv_istore_n (lv' := [(1, .int (nI 0)), (0, .ref (g 0))]) hx hb dX0_onCount_1 rfl hl (by decide) rfl (fun ls hl => ?_)
  refine lv_iconst (v := nI 0) hx hb dX0_onCount_2 (by decide +kernel) ?_
  refine lv_istore_n (lv' := [(2, .int (nI 0)), (1, .int (nI 0)), (0, .ref (g 0))]) hx hb dX0_onCount_3 rfl hl (by decide) rfl (fun ls hl => ?_)
  have lp4 : ∀ (n : Nat) (i : Nat), G 48 - i < n → i ≤ G 48 → ∀ (H : Heap) (locs : List Loc), Wo D vwCl A s.heap H locs [gW cI g G] → ∀ ls : Array Slot, lv_has ls 3 [(2, .int (nI i)), (1, .int (nI (sumN (fun i => G (8 * i + 6)) i))), (0, .ref (g 0))] → W p l e rmX0_onCount s m args below meth c H locs 0 0 Q (F0 m 4 ls []) := by
    intro n
    induction n with
    | zero => intro i hm; exact absurd hm (Nat.not_lt_zero _)
    | succ n ih =>
      intro i hm hi H locs hW ls hl
      have hmi : ∀ j, j < i → G (8 * j + 6) ≤ 1 := fun j hj => (hG.c j (by omega)).2.1
      refine lv_iload_n hx hb dX0_onCount_4 rfl (lv_at hl 0 rfl) ?_
      refine lv_aload_n hx hb dX0_onCount_5 rfl (lv_at hl 2 rfl) ?_
      refine sg_get (ci := 0) (C := RX0) (T := TX0) (N := 14) (v := .int (nI (G 48))) hx hb hts (fun _ h => List.mem_cons_of_mem _ (List.mem_append_right _ h)) hown hK hW 0 0 rfl rfl rfl 10 (by decide) (hts _ (List.mem_of_getElem? (i := 1) rfl)) rfl dX0_onCount_6 ?_
      refine nn_cge (tgt := 27) hx hb dX0_onCount_9 (by decide) (by omega) (by omega) (fun c9 => ?_) (fun c9 => ?_)
      · refine lv_iload_n hx hb dX0_onCount_27 rfl (lv_at hl 1 rfl) ?_
        exact rt_i hQ hx hb hr hlocks hW dX0_onCount_28 () (by rw [show i = G 48 by omega]; rfl) trivial rfl
      · refine lv_iload_n hx hb dX0_onCount_12 rfl (lv_at hl 1 rfl) ?_
        refine lv_aload_n hx hb dX0_onCount_13 rfl (lv_at hl 2 rfl) ?_
        refine sg_get (ci := 0) (C := RX0) (T := TX0) (N := 14) (v := .ref (g 6)) hx hb hts (fun _ h => List.mem_cons_of_mem _ (List.mem_append_right _ h)) hown hK hW 0 0 rfl rfl rfl 12 (by decide) (hts _ (List.mem_of_getElem? (i := 2) rfl)) rfl dX0_onCount_14 ?_
        refine lv_iload_n hx hb dX0_onCount_17 rfl (lv_at hl 0 rfl) ?_
        refine sg_ild (v := nI (G (8 * i + 6))) hx hb hK hW 0 6 0 rfl rfl rfl (by omega) (by decide) rfl dX0_onCount_18 ?_
        refine nn_add hx hb dX0_onCount_19 ?_
        refine lv_istore_n (lv' := [(1, .int (nI ((sumN (fun i => G (8 * i + 6)) i) + (G (8 * i + 6))))), (2, .int (nI i)), (0, .ref (g 0))]) hx hb dX0_onCount_20 rfl hl (by decide) rfl (fun ls hl => ?_)
        refine lv_iinc (v := nI (i + 1)) (lv' := [(2, .int (nI (i + 1))), (1, .int (nI ((sumN (fun i => G (8 * i + 6)) i) + (G (8 * i + 6))))), (0, .ref (g 0))]) hx hb dX0_onCount_21 hl (k := 1) rfl (nI_add _ 1) (by decide) rfl (fun ls hl => ?_)
        refine lv_goto (tgt := 4) hx hb dX0_onCount_24 (by decide) ?_
        exact ih (i + 1) (by omega) (by omega) _ _ hW _ (lv_sub hl [0, 1, 2] rfl)
  exact lp4 (G 48 - 0 + 1) 0 (Nat.lt_succ_self _) (by omega) _ _ hW _ (lv_sub hl [0, 1, 2] rfl)
abbrev rmX0_onSet : Room := { frames := 0, cells := 0, slots := 0, locals := 0 }
set_option maxRecDepth 100000 in
set_option maxHeartbeats 4000000 in
theorem cX0_onSet (l : Launch) (D : va_G) (cI cJ : ClassId) (g G : Nat → Nat) (b : Nat) (hb30 : b < 2 ^ 30) (hG : OkG b G) : CE E0 l D vwCl [(cI, .int), (cJ, .long)] yX0_onSet wsX0_onSet rmX0_onSet [.ref (g 0)] [gW cI g G] (S := Unit) (some (.int (nI (onS G)))) (fun _ => True) (fun _ : Unit => [gW cI g G]) 0 0 := by
  refine CE.ofW (cc := cX0_onSet) (maxL := 3) (ret := (some .int)) (lv := [(0, .ref (g 0))]) (by decide) rfl (Nat.le_of_ble_eq_true rfl) rfl ?_
  intro p e s m args below meth c ls A Q hQ hx hb hml hr hlocks hnm hown hts hK hA hE hW hl
  have hown : s.vm.findClass RX0 = some m.cls := hown
  obtain ⟨hg0, hg8, hg16, hg16b, hg24, hg32, hg40, hg48⟩ := hG.s
  refine lv_iconst (v := nI 0) hx hb dX0_onSet_0 (by decide +kernel) ?_
  refine lv_istore_n (lv' := [(1, .int (nI 0)), (0, .ref (g 0))]) hx hb dX0_onSet_1 rfl hl (by decide) rfl (fun ls hl => ?_)
  refine lv_iconst (v := nI 0) hx hb dX0_onSet_2 (by decide +kernel) ?_
  refine lv_istore_n (lv' := [(2, .int (nI 0)), (1, .int (nI 0)), (0, .ref (g 0))]) hx hb dX0_onSet_3 rfl hl (by decide) rfl (fun ls hl => ?_)
  have lp4 : ∀ (n : Nat) (i : Nat), G 48 - i < n → i ≤ G 48 → ∀ (H : Heap) (locs : List Loc), Wo D vwCl A s.heap H locs [gW cI g G] → ∀ ls : Array Slot, lv_has ls 3 [(2, .int (nI i)), (1, .int (nI (setN (fun i => G (8 * i + 6)) i))), (0, .ref (g 0))] → W p l e rmX0_onSet s m args below meth c H locs 0 0 Q (F0 m 4 ls []) := by
    intro n
    induction n with
    | zero => intro i hm; exact absurd hm (Nat.not_lt_zero _)
    | succ n ih =>
      intro i hm hi H locs hW ls hl
      have hmi : ∀ j, j < i → G (8 * j + 6) ≤ 1 := fun j hj => (hG.c j (by omega)).2.1
      refine lv_iload_n hx hb dX0_onSet_4 rfl (lv_at hl 0 rfl) ?_
      refine lv_aload_n hx hb dX0_onSet_5 rfl (lv_at hl 2 rfl) ?_
      refine sg_get (ci := 0) (C := RX0) (T := TX0) (N := 14) (v := .int (nI (G 48))) hx hb hts (fun _ h => List.mem_cons_of_mem _ (List.mem_append_right _ h)) hown hK hW 0 0 rfl rfl rfl 10 (by decide) (hts _ (List.mem_of_getElem? (i := 1) rfl)) rfl dX0_onSet_6 ?_
      refine nn_cge (tgt := 29) hx hb dX0_onSet_9 (by decide) (by omega) (by omega) (fun c9 => ?_) (fun c9 => ?_)
      · refine lv_iload_n hx hb dX0_onSet_29 rfl (lv_at hl 1 rfl) ?_
        exact rt_i hQ hx hb hr hlocks hW dX0_onSet_30 () (by rw [show i = G 48 by omega]; rfl) trivial rfl
      · refine lv_iload_n hx hb dX0_onSet_12 rfl (lv_at hl 1 rfl) ?_
        refine lv_aload_n hx hb dX0_onSet_13 rfl (lv_at hl 2 rfl) ?_
        refine sg_get (ci := 0) (C := RX0) (T := TX0) (N := 14) (v := .ref (g 6)) hx hb hts (fun _ h => List.mem_cons_of_mem _ (List.mem_append_right _ h)) hown hK hW 0 0 rfl rfl rfl 12 (by decide) (hts _ (List.mem_of_getElem? (i := 2) rfl)) rfl dX0_onSet_14 ?_
        refine lv_iload_n hx hb dX0_onSet_17 rfl (lv_at hl 0 rfl) ?_
        refine sg_ild (v := nI (G (8 * i + 6))) hx hb hK hW 0 6 0 rfl rfl rfl (by omega) (by decide) rfl dX0_onSet_18 ?_
        refine lv_iload_n hx hb dX0_onSet_19 rfl (lv_at hl 0 rfl) ?_
        refine nn_shl hx hb dX0_onSet_20 (by omega) ?_
        refine nn_or hx hb dX0_onSet_21 ?_
        refine W.top (v' := .int (nI (setN (fun i => G (8 * i + 6)) (i + 1)))) (congrArg (fun z => Value.int (nI z)) (setN_or (f := (fun i => G (8 * i + 6))) (n := i) hmi)) ?_
        refine lv_istore_n (lv' := [(1, .int (nI (setN (fun i => G (8 * i + 6)) (i + 1)))), (2, .int (nI i)), (0, .ref (g 0))]) hx hb dX0_onSet_22 rfl hl (by decide) rfl (fun ls hl => ?_)
        refine lv_iinc (v := nI (i + 1)) (lv' := [(2, .int (nI (i + 1))), (1, .int (nI (setN (fun i => G (8 * i + 6)) (i + 1)))), (0, .ref (g 0))]) hx hb dX0_onSet_23 hl (k := 1) rfl (nI_add _ 1) (by decide) rfl (fun ls hl => ?_)
        refine lv_goto (tgt := 4) hx hb dX0_onSet_26 (by decide) ?_
        exact ih (i + 1) (by omega) (by omega) _ _ hW _ (lv_sub hl [0, 1, 2] rfl)
  exact lp4 (G 48 - 0 + 1) 0 (Nat.lt_succ_self _) (by omega) _ _ hW _ (lv_sub hl [0, 1, 2] rfl)
abbrev rmX0_flingsOfAll : Room := { frames := 0, cells := 0, slots := 0, locals := 0 }
set_option maxRecDepth 100000 in
set_option maxHeartbeats 4000000 in
theorem cX0_flingsOfAll (l : Launch) (D : va_G) (cI cJ : ClassId) (g G : Nat → Nat) (b : Nat) (hb30 : b < 2 ^ 30) (hG : OkG b G) : CE E0 l D vwCl [(cI, .int), (cJ, .long)] yX0_flingsOfAll wsX0_flingsOfAll rmX0_flingsOfAll [.ref (g 0)] [gW cI g G] (S := Unit) (some (.int (nI (flC G)))) (fun _ => True) (fun _ : Unit => [gW cI g G]) 0 0 := by
  refine CE.ofW (cc := cX0_flingsOfAll) (maxL := 3) (ret := (some .int)) (lv := [(0, .ref (g 0))]) (by decide) rfl (Nat.le_of_ble_eq_true rfl) rfl ?_
  intro p e s m args below meth c ls A Q hQ hx hb hml hr hlocks hnm hown hts hK hA hE hW hl
  have hown : s.vm.findClass RX0 = some m.cls := hown
  obtain ⟨hg0, hg8, hg16, hg16b, hg24, hg32, hg40, hg48⟩ := hG.s
  refine lv_iconst (v := nI 0) hx hb dX0_flingsOfAll_0 (by decide +kernel) ?_
  refine lv_istore_n (lv' := [(1, .int (nI 0)), (0, .ref (g 0))]) hx hb dX0_flingsOfAll_1 rfl hl (by decide) rfl (fun ls hl => ?_)
  refine lv_iconst (v := nI 0) hx hb dX0_flingsOfAll_2 (by decide +kernel) ?_
  refine lv_istore_n (lv' := [(2, .int (nI 0)), (1, .int (nI 0)), (0, .ref (g 0))]) hx hb dX0_flingsOfAll_3 rfl hl (by decide) rfl (fun ls hl => ?_)
  have lp4 : ∀ (n : Nat) (i : Nat), G 48 - i < n → i ≤ G 48 → ∀ (H : Heap) (locs : List Loc), Wo D vwCl A s.heap H locs [gW cI g G] → ∀ ls : Array Slot, lv_has ls 3 [(2, .int (nI i)), (1, .int (nI (sumN (fun i => G (8 * i + 7)) i))), (0, .ref (g 0))] → W p l e rmX0_flingsOfAll s m args below meth c H locs 0 0 Q (F0 m 4 ls []) := by
    intro n
    induction n with
    | zero => intro i hm; exact absurd hm (Nat.not_lt_zero _)
    | succ n ih =>
      intro i hm hi H locs hW ls hl
      have hmi : ∀ j, j < i → G (8 * j + 7) ≤ 9999 := fun j hj => (hG.c j (by omega)).2.2
      refine lv_iload_n hx hb dX0_flingsOfAll_4 rfl (lv_at hl 0 rfl) ?_
      refine lv_aload_n hx hb dX0_flingsOfAll_5 rfl (lv_at hl 2 rfl) ?_
      refine sg_get (ci := 0) (C := RX0) (T := TX0) (N := 14) (v := .int (nI (G 48))) hx hb hts (fun _ h => List.mem_cons_of_mem _ (List.mem_append_right _ h)) hown hK hW 0 0 rfl rfl rfl 10 (by decide) (hts _ (List.mem_of_getElem? (i := 1) rfl)) rfl dX0_flingsOfAll_6 ?_
      refine nn_cge (tgt := 27) hx hb dX0_flingsOfAll_9 (by decide) (by omega) (by omega) (fun c9 => ?_) (fun c9 => ?_)
      · refine lv_iload_n hx hb dX0_flingsOfAll_27 rfl (lv_at hl 1 rfl) ?_
        exact rt_i hQ hx hb hr hlocks hW dX0_flingsOfAll_28 () (by rw [show i = G 48 by omega]; rfl) trivial rfl
      · refine lv_iload_n hx hb dX0_flingsOfAll_12 rfl (lv_at hl 1 rfl) ?_
        refine lv_aload_n hx hb dX0_flingsOfAll_13 rfl (lv_at hl 2 rfl) ?_
        refine sg_get (ci := 0) (C := RX0) (T := TX0) (N := 14) (v := .ref (g 7)) hx hb hts (fun _ h => List.mem_cons_of_mem _ (List.mem_append_right _ h)) hown hK hW 0 0 rfl rfl rfl 13 (by decide) (hts _ (List.mem_of_getElem? (i := 2) rfl)) rfl dX0_flingsOfAll_14 ?_
        refine lv_iload_n hx hb dX0_flingsOfAll_17 rfl (lv_at hl 0 rfl) ?_
        refine sg_ild (v := nI (G (8 * i + 7))) hx hb hK hW 0 7 0 rfl rfl rfl (by omega) (by decide) rfl dX0_flingsOfAll_18 ?_
        refine nn_add hx hb dX0_flingsOfAll_19 ?_
        refine lv_istore_n (lv' := [(1, .int (nI ((sumN (fun i => G (8 * i + 7)) i) + (G (8 * i + 7))))), (2, .int (nI i)), (0, .ref (g 0))]) hx hb dX0_flingsOfAll_20 rfl hl (by decide) rfl (fun ls hl => ?_)
        refine lv_iinc (v := nI (i + 1)) (lv' := [(2, .int (nI (i + 1))), (1, .int (nI ((sumN (fun i => G (8 * i + 7)) i) + (G (8 * i + 7))))), (0, .ref (g 0))]) hx hb dX0_flingsOfAll_21 hl (k := 1) rfl (nI_add _ 1) (by decide) rfl (fun ls hl => ?_)
        refine lv_goto (tgt := 4) hx hb dX0_flingsOfAll_24 (by decide) ?_
        exact ih (i + 1) (by omega) (by omega) _ _ hW _ (lv_sub hl [0, 1, 2] rfl)
  exact lp4 (G 48 - 0 + 1) 0 (Nat.lt_succ_self _) (by omega) _ _ hW _ (lv_sub hl [0, 1, 2] rfl)
abbrev rmX0_weightNow : Room := { frames := 1, cells := 0, slots := 0, locals := 22 }
set_option maxRecDepth 100000 in
set_option maxHeartbeats 4000000 in
theorem cX0_weightNow (l : Launch) (D : va_G) (cI cJ : ClassId) (g G : Nat → Nat) (b : Nat) (hb30 : b < 2 ^ 30) (hG : OkG b G) : CE E0 l D vwCl [(cI, .int), (cJ, .long)] yX0_weightNow wsX0_weightNow rmX0_weightNow [.ref (g 0)] [gW cI g G] (S := Unit) (some (.int (nI (weightN G)))) (fun _ => True) (fun _ : Unit => [gW cI g G]) 0 0 := by
  refine CE.ofW (cc := cX0_weightNow) (maxL := 1) (ret := (some .int)) (lv := [(0, .ref (g 0))]) (by decide) rfl (Nat.le_of_ble_eq_true rfl) rfl ?_
  intro p e s m args below meth c ls A Q hQ hx hb hml hr hlocks hnm hown hts hK hA hE hW hl
  have hown : s.vm.findClass RX0 = some m.cls := hown
  obtain ⟨hg0, hg8, hg16, hg16b, hg24, hg32, hg40, hg48⟩ := hG.s
  refine lv_aload_n hx hb dX0_weightNow_0 rfl (lv_at hl 0 rfl) ?_
  refine sg_get (ci := 0) (C := RX0) (T := TX0) (N := 14) (v := .int (nI (G 16))) hx hb hts (fun _ h => List.mem_cons_of_mem _ (List.mem_append_right _ h)) hown hK hW 0 0 rfl rfl rfl 2 (by decide) (hts _ (List.mem_of_getElem? (i := 1) rfl)) rfl dX0_weightNow_1 ?_
  refine lv_iconst (v := nI 2) hx hb dX0_weightNow_4 (by decide +kernel) ?_
  refine lv_aload_n hx hb dX0_weightNow_5 rfl (lv_at hl 0 rfl) ?_
  refine cl_Vi (As := []) (rest := [.int (nI 2), .int (nI (G 16))]) (C := RX0) ⟨hx, hb, hml, hown, hts⟩ (cX0_onCount l D cI cJ g G b hb30 hG) (cwV 0 hts gX0_weightNow_X0_onCount rfl rfl rfl qX0_onCount ⟨Nat.le_of_ble_eq_true rfl, Nat.le_of_ble_eq_true rfl⟩) E0_good hK hA hW trivial [true] (fun _ => [gW cI g G]) rfl (fun _ => rfl) (fun _ => rfl) 0 0 rfl rfl rfl rfl hl.1 rfl (lv_room (Nat.le_of_ble_eq_true rfl)) dX0_weightNow_6 ⟨Nat.zero_le _, Nat.zero_le _⟩ (fun _ H locs _ hW => ?_)
  refine nn_mul hx hb dX0_weightNow_9 ?_
  refine nn_add hx hb dX0_weightNow_10 ?_
  exact rt_i hQ hx hb hr hlocks hW dX0_weightNow_11 () rfl trivial rfl
