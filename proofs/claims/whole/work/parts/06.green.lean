theorem qX0_minuteOfDay : yX0_minuteOfDay.cls = RX0 ∧ yX0_minuteOfDay.cls ≠ "java/lang/invoke/MethodHandle" ∧ yX0_minuteOfDay.cls ≠ "java/lang/invoke/VarHandle" ∧ (parseMethodDescriptor yX0_minuteOfDay.desc).map (fun d => d.parameters.length) = some 0 := by decide +kernel
theorem qX0_onCount : yX0_onCount.cls = RX0 ∧ yX0_onCount.cls ≠ "java/lang/invoke/MethodHandle" ∧ yX0_onCount.cls ≠ "java/lang/invoke/VarHandle" ∧ (parseMethodDescriptor yX0_onCount.desc).map (fun d => d.parameters.length) = some 0 := by decide +kernel
theorem qX1_kindAbove : yX1_kindAbove.cls ≠ "java/lang/invoke/MethodHandle" ∧ yX1_kindAbove.cls ≠ "java/lang/invoke/VarHandle" ∧ (parseMethodDescriptor yX1_kindAbove.desc).map (fun d => d.parameters.length) = some 1 := by decide +kernel
theorem qX1_keeps : yX1_keeps.cls ≠ "java/lang/invoke/MethodHandle" ∧ yX1_keeps.cls ≠ "java/lang/invoke/VarHandle" ∧ (parseMethodDescriptor yX1_keeps.desc).map (fun d => d.parameters.length) = some 5 := by decide +kernel
theorem qX1_speaks : yX1_speaks.cls ≠ "java/lang/invoke/MethodHandle" ∧ yX1_speaks.cls ≠ "java/lang/invoke/VarHandle" ∧ (parseMethodDescriptor yX1_speaks.desc).map (fun d => d.parameters.length) = some 5 := by decide +kernel
theorem qX0_isWet : yX0_isWet.cls = RX0 ∧ yX0_isWet.cls ≠ "java/lang/invoke/MethodHandle" ∧ yX0_isWet.cls ≠ "java/lang/invoke/VarHandle" ∧ (parseMethodDescriptor yX0_isWet.desc).map (fun d => d.parameters.length) = some 0 := by decide +kernel
theorem qX0_outCount : yX0_outCount.cls = RX0 ∧ yX0_outCount.cls ≠ "java/lang/invoke/MethodHandle" ∧ yX0_outCount.cls ≠ "java/lang/invoke/VarHandle" ∧ (parseMethodDescriptor yX0_outCount.desc).map (fun d => d.parameters.length) = some 0 := by decide +kernel
theorem qX0_isNight : yX0_isNight.cls = RX0 ∧ yX0_isNight.cls ≠ "java/lang/invoke/MethodHandle" ∧ yX0_isNight.cls ≠ "java/lang/invoke/VarHandle" ∧ (parseMethodDescriptor yX0_isNight.desc).map (fun d => d.parameters.length) = some 0 := by decide +kernel
theorem qX0_keepsNow : yX0_keepsNow.cls = RX0 ∧ yX0_keepsNow.cls ≠ "java/lang/invoke/MethodHandle" ∧ yX0_keepsNow.cls ≠ "java/lang/invoke/VarHandle" ∧ (parseMethodDescriptor yX0_keepsNow.desc).map (fun d => d.parameters.length) = some 3 := by decide +kernel
theorem qX0_speaksNow : yX0_speaksNow.cls = RX0 ∧ yX0_speaksNow.cls ≠ "java/lang/invoke/MethodHandle" ∧ yX0_speaksNow.cls ≠ "java/lang/invoke/VarHandle" ∧ (parseMethodDescriptor yX0_speaksNow.desc).map (fun d => d.parameters.length) = some 3 := by decide +kernel
theorem qX1_tells : yX1_tells.cls ≠ "java/lang/invoke/MethodHandle" ∧ yX1_tells.cls ≠ "java/lang/invoke/VarHandle" ∧ (parseMethodDescriptor yX1_tells.desc).map (fun d => d.parameters.length) = some 1 := by decide +kernel
theorem qX0_pushNow : yX0_pushNow.cls = RX0 ∧ yX0_pushNow.cls ≠ "java/lang/invoke/MethodHandle" ∧ yX0_pushNow.cls ≠ "java/lang/invoke/VarHandle" ∧ (parseMethodDescriptor yX0_pushNow.desc).map (fun d => d.parameters.length) = some 0 := by decide +kernel
theorem qX0_weightNow : yX0_weightNow.cls = RX0 ∧ yX0_weightNow.cls ≠ "java/lang/invoke/MethodHandle" ∧ yX0_weightNow.cls ≠ "java/lang/invoke/VarHandle" ∧ (parseMethodDescriptor yX0_weightNow.desc).map (fun d => d.parameters.length) = some 0 := by decide +kernel
theorem qX0_tryGrips : yX0_tryGrips.cls = RX0 ∧ yX0_tryGrips.cls ≠ "java/lang/invoke/MethodHandle" ∧ yX0_tryGrips.cls ≠ "java/lang/invoke/VarHandle" ∧ (parseMethodDescriptor yX0_tryGrips.desc).map (fun d => d.parameters.length) = some 0 := by decide +kernel
theorem qX0_letSpeak : yX0_letSpeak.cls = RX0 ∧ yX0_letSpeak.cls ≠ "java/lang/invoke/MethodHandle" ∧ yX0_letSpeak.cls ≠ "java/lang/invoke/VarHandle" ∧ (parseMethodDescriptor yX0_letSpeak.desc).map (fun d => d.parameters.length) = some 0 := by decide +kernel
theorem qX0_passMinute : yX0_passMinute.cls = RX0 ∧ yX0_passMinute.cls ≠ "java/lang/invoke/MethodHandle" ∧ yX0_passMinute.cls ≠ "java/lang/invoke/VarHandle" ∧ (parseMethodDescriptor yX0_passMinute.desc).map (fun d => d.parameters.length) = some 0 := by decide +kernel
theorem spk_narrow (k t o n sp : Nat) : narrow .boolean (.int (nI (speakK k t o n sp))) = .int (nI (speakK k t o n sp)) := by
  have h := speakK_le k t o n sp
  rcases (show speakK k t o n sp = 0 ∨ speakK k t o n sp = 1 by omega) with q | q <;> rw [q] <;> decide +kernel
abbrev rmX0_hasMother : Room := { frames := 0, cells := 0, slots := 0, locals := 0 }
set_option maxRecDepth 100000 in
set_option maxHeartbeats 4000000 in
/-- hasMother: whether there is one of that number -/
theorem M_X0_hasMother (l : Launch) (D : va_G) (cI cJ : ClassId) (g G : Nat → Nat) (b : Nat) (hb30 : b < 2 ^ 30) (hG : OkG b G) (v : Int32) : CE E0 l D vwCl [(cI, .int), (cJ, .long)] yX0_hasMother wsX0_hasMother rmX0_hasMother [.ref (g 0), .int v] [gW cI g G] (S := Unit) (some (.int (nI (inN v (G 40))))) (fun _ => True) (fun _ : Unit => [gW cI g G]) 0 0 := by
  refine CE.ofW (cc := cX0_hasMother) (maxL := 2) (ret := (some .boolean)) (lv := [(0, .ref (g 0)), (1, .int v)]) (by decide) rfl (Nat.le_of_ble_eq_true rfl) rfl ?_
  intro p e s m args below meth c ls A Q hQ hx hb hml hr hlocks hnm hown hts hK hA hE hW hl
  have hown : s.vm.findClass RX0 = some m.cls := hown
  obtain ⟨hg0, hg8, hg16, hg16b, hg24, hg32, hg40, hg48⟩ := hG.s
  refine lv_iload_n hx hb dX0_hasMother_0 rfl (lv_at hl 1 rfl) ?_
  refine zz_zlt (tgt := 16) hx hb dX0_hasMother_1 (by decide) (rfl : v.toInt = v.toInt) (fun c1 => ?_) (fun c1 => ?_)
  · refine lv_iconst (v := nI 0) hx hb dX0_hasMother_16 (by decide +kernel) ?_
    exact rt_z hQ hx hb hr hlocks hW dX0_hasMother_17 (by decide +kernel) () (by unfold inN; split <;> first | rfl | (exfalso; omega)) trivial rfl
  · refine lv_iload_n hx hb dX0_hasMother_4 rfl (lv_at hl 1 rfl) ?_
    refine lv_aload_n hx hb dX0_hasMother_5 rfl (lv_at hl 0 rfl) ?_
    refine sg_get (ci := 0) (C := RX0) (T := TX0) (N := 14) (v := .int (nI (G 40))) hx hb hts (fun _ h => List.mem_cons_of_mem _ (List.mem_append_right _ h)) hown hK hW 0 0 rfl rfl rfl 5 (by decide) (hts _ (List.mem_of_getElem? (i := 1) rfl)) rfl dX0_hasMother_6 ?_
    refine zz_cge (tgt := 16) hx hb dX0_hasMother_9 (by decide) (rfl : v.toInt = v.toInt) (nI_toInt (n := G 40) (by omega)) (fun c9 => ?_) (fun c9 => ?_)
    · refine lv_iconst (v := nI 0) hx hb dX0_hasMother_16 (by decide +kernel) ?_
      exact rt_z hQ hx hb hr hlocks hW dX0_hasMother_17 (by decide +kernel) () (by unfold inN; split <;> first | rfl | (exfalso; omega)) trivial rfl
    · refine lv_iconst (v := nI 1) hx hb dX0_hasMother_12 (by decide +kernel) ?_
      refine lv_goto (tgt := 17) hx hb dX0_hasMother_13 (by decide) ?_
      exact rt_z hQ hx hb hr hlocks hW dX0_hasMother_17 (by decide +kernel) () (by unfold inN; split <;> first | rfl | (exfalso; omega)) trivial rfl
abbrev rmX0_hasChild : Room := { frames := 0, cells := 0, slots := 0, locals := 0 }
set_option maxRecDepth 100000 in
set_option maxHeartbeats 4000000 in
/-- hasChild: whether there is one of that number -/
theorem M_X0_hasChild (l : Launch) (D : va_G) (cI cJ : ClassId) (g G : Nat → Nat) (b : Nat) (hb30 : b < 2 ^ 30) (hG : OkG b G) (v : Int32) : CE E0 l D vwCl [(cI, .int), (cJ, .long)] yX0_hasChild wsX0_hasChild rmX0_hasChild [.ref (g 0), .int v] [gW cI g G] (S := Unit) (some (.int (nI (inN v (G 48))))) (fun _ => True) (fun _ : Unit => [gW cI g G]) 0 0 := by
  refine CE.ofW (cc := cX0_hasChild) (maxL := 2) (ret := (some .boolean)) (lv := [(0, .ref (g 0)), (1, .int v)]) (by decide) rfl (Nat.le_of_ble_eq_true rfl) rfl ?_
  intro p e s m args below meth c ls A Q hQ hx hb hml hr hlocks hnm hown hts hK hA hE hW hl
  have hown : s.vm.findClass RX0 = some m.cls := hown
  obtain ⟨hg0, hg8, hg16, hg16b, hg24, hg32, hg40, hg48⟩ := hG.s
  refine lv_iload_n hx hb dX0_hasChild_0 rfl (lv_at hl 1 rfl) ?_
  refine zz_zlt (tgt := 16) hx hb dX0_hasChild_1 (by decide) (rfl : v.toInt = v.toInt) (fun c1 => ?_) (fun c1 => ?_)
  · refine lv_iconst (v := nI 0) hx hb dX0_hasChild_16 (by decide +kernel) ?_
    exact rt_z hQ hx hb hr hlocks hW dX0_hasChild_17 (by decide +kernel) () (by unfold inN; split <;> first | rfl | (exfalso; omega)) trivial rfl
  · refine lv_iload_n hx hb dX0_hasChild_4 rfl (lv_at hl 1 rfl) ?_
    refine lv_aload_n hx hb dX0_hasChild_5 rfl (lv_at hl 0 rfl) ?_
    refine sg_get (ci := 0) (C := RX0) (T := TX0) (N := 14) (v := .int (nI (G 48))) hx hb hts (fun _ h => List.mem_cons_of_mem _ (List.mem_append_right _ h)) hown hK hW 0 0 rfl rfl rfl 10 (by decide) (hts _ (List.mem_of_getElem? (i := 1) rfl)) rfl dX0_hasChild_6 ?_
    refine zz_cge (tgt := 16) hx hb dX0_hasChild_9 (by decide) (rfl : v.toInt = v.toInt) (nI_toInt (n := G 48) (by omega)) (fun c9 => ?_) (fun c9 => ?_)
    · refine lv_iconst (v := nI 0) hx hb dX0_hasChild_16 (by decide +kernel) ?_
      exact rt_z hQ hx hb hr hlocks hW dX0_hasChild_17 (by decide +kernel) () (by unfold inN; split <;> first | rfl | (exfalso; omega)) trivial rfl
    · refine lv_iconst (v := nI 1) hx hb dX0_hasChild_12 (by decide +kernel) ?_
      refine lv_goto (tgt := 17) hx hb dX0_hasChild_13 (by decide) ?_
      exact rt_z hQ hx hb hr hlocks hW dX0_hasChild_17 (by decide +kernel) () (by unfold inN; split <;> first | rfl | (exfalso; omega)) trivial rfl
abbrev rmX0_minuteOfDay : Room := { frames := 0, cells := 0, slots := 0, locals := 0 }
set_option maxRecDepth 100000 in
set_option maxHeartbeats 4000000 in
theorem M_X0_minuteOfDay (l : Launch) (D : va_G) (cI cJ : ClassId) (g G : Nat → Nat) (b : Nat) (hb30 : b < 2 ^ 30) (hG : OkG b G) : CE E0 l D vwCl [(cI, .int), (cJ, .long)] yX0_minuteOfDay wsX0_minuteOfDay rmX0_minuteOfDay [.ref (g 0)] [gW cI g G] (S := Unit) (some (.int (nI (G 0 % 50)))) (fun _ => True) (fun _ : Unit => [gW cI g G]) 0 0 := by
  refine CE.ofW (cc := cX0_minuteOfDay) (maxL := 1) (ret := (some .int)) (lv := [(0, .ref (g 0))]) (by decide) rfl (Nat.le_of_ble_eq_true rfl) rfl ?_
  intro p e s m args below meth c ls A Q hQ hx hb hml hr hlocks hnm hown hts hK hA hE hW hl
  have hown : s.vm.findClass RX0 = some m.cls := hown
  obtain ⟨hg0, hg8, hg16, hg16b, hg24, hg32, hg40, hg48⟩ := hG.s
  refine lv_aload_n hx hb dX0_minuteOfDay_0 rfl (lv_at hl 0 rfl) ?_
  refine sg_get (ci := 0) (C := RX0) (T := TX0) (N := 14) (v := .int (nI (G 0))) hx hb hts (fun _ h => List.mem_cons_of_mem _ (List.mem_append_right _ h)) hown hK hW 0 0 rfl rfl rfl 0 (by decide) (hts _ (List.mem_of_getElem? (i := 1) rfl)) rfl dX0_minuteOfDay_1 ?_
  refine lv_bipush (v := nI 50) hx hb dX0_minuteOfDay_4 (by decide +kernel) ?_
  refine nn_rem hx hb dX0_minuteOfDay_6 (by omega) (by decide) (by decide) ?_
  exact rt_i hQ hx hb hr hlocks hW dX0_minuteOfDay_7 () rfl trivial rfl
abbrev rmX0_isNight : Room := { frames := 1, cells := 0, slots := 0, locals := 20 }
set_option maxRecDepth 100000 in
set_option maxHeartbeats 4000000 in
theorem M_X0_isNight (l : Launch) (D : va_G) (cI cJ : ClassId) (g G : Nat → Nat) (b : Nat) (hb30 : b < 2 ^ 30) (hG : OkG b G) : CE E0 l D vwCl [(cI, .int), (cJ, .long)] yX0_isNight wsX0_isNight rmX0_isNight [.ref (g 0)] [gW cI g G] (S := Unit) (some (.int (nI (nightN G)))) (fun _ => True) (fun _ : Unit => [gW cI g G]) 0 0 := by
  refine CE.ofW (cc := cX0_isNight) (maxL := 1) (ret := (some .boolean)) (lv := [(0, .ref (g 0))]) (by decide) rfl (Nat.le_of_ble_eq_true rfl) rfl ?_
  intro p e s m args below meth c ls A Q hQ hx hb hml hr hlocks hnm hown hts hK hA hE hW hl
  have hown : s.vm.findClass RX0 = some m.cls := hown
  obtain ⟨hg0, hg8, hg16, hg16b, hg24, hg32, hg40, hg48⟩ := hG.s
  refine lv_aload_n hx hb dX0_isNight_0 rfl (lv_at hl 0 rfl) ?_
  refine cl_Vi (As := []) (rest := []) (C := RX0) ⟨hx, hb, hml, hown, hts⟩ (M_X0_minuteOfDay l D cI cJ g G b hb30 hG) (cwV 0 hts gX0_isNight_X0_minuteOfDay rfl rfl rfl qX0_minuteOfDay ⟨Nat.le_of_ble_eq_true rfl, Nat.le_of_ble_eq_true rfl⟩) E0_good hK hA hW trivial [true] (fun _ => [gW cI g G]) rfl (fun _ => rfl) (fun _ => rfl) 0 0 rfl rfl rfl rfl hl.1 rfl (lv_room (Nat.le_of_ble_eq_true rfl)) dX0_isNight_1 ⟨Nat.zero_le _, Nat.zero_le _⟩ (fun _ H locs _ hW => ?_)
  refine lv_bipush (v := nI 40) hx hb dX0_isNight_4 (by decide +kernel) ?_
  refine nn_clt (tgt := 13) hx hb dX0_isNight_6 (by decide) (by omega) (by decide) (fun c6 => ?_) (fun c6 => ?_)
  · refine lv_iconst (v := nI 0) hx hb dX0_isNight_13 (by decide +kernel) ?_
    exact rt_z hQ hx hb hr hlocks hW dX0_isNight_14 (by decide +kernel) () (by unfold nightN; split <;> first | rfl | (exfalso; omega)) trivial rfl
  · refine lv_iconst (v := nI 1) hx hb dX0_isNight_9 (by decide +kernel) ?_
    refine lv_goto (tgt := 14) hx hb dX0_isNight_10 (by decide) ?_
    exact rt_z hQ hx hb hr hlocks hW dX0_isNight_14 (by decide +kernel) () (by unfold nightN; split <;> first | rfl | (exfalso; omega)) trivial rfl
abbrev rmX0_isWet : Room := { frames := 1, cells := 0, slots := 0, locals := 20 }
set_option maxRecDepth 100000 in
set_option maxHeartbeats 4000000 in
theorem M_X0_isWet (l : Launch) (D : va_G) (cI cJ : ClassId) (g G : Nat → Nat) (b : Nat) (hb30 : b < 2 ^ 30) (hG : OkG b G) : CE E0 l D vwCl [(cI, .int), (cJ, .long)] yX0_isWet wsX0_isWet rmX0_isWet [.ref (g 0)] [gW cI g G] (S := Unit) (some (.int (nI (wetN G)))) (fun _ => True) (fun _ : Unit => [gW cI g G]) 0 0 := by
  refine CE.ofW (cc := cX0_isWet) (maxL := 1) (ret := (some .boolean)) (lv := [(0, .ref (g 0))]) (by decide) rfl (Nat.le_of_ble_eq_true rfl) rfl ?_
  intro p e s m args below meth c ls A Q hQ hx hb hml hr hlocks hnm hown hts hK hA hE hW hl
  have hown : s.vm.findClass RX0 = some m.cls := hown
  obtain ⟨hg0, hg8, hg16, hg16b, hg24, hg32, hg40, hg48⟩ := hG.s
  refine lv_aload_n hx hb dX0_isWet_0 rfl (lv_at hl 0 rfl) ?_
  refine sg_get (ci := 0) (C := RX0) (T := TX0) (N := 14) (v := .int (nI (G 8))) hx hb hts (fun _ h => List.mem_cons_of_mem _ (List.mem_append_right _ h)) hown hK hW 0 0 rfl rfl rfl 1 (by decide) (hts _ (List.mem_of_getElem? (i := 1) rfl)) rfl dX0_isWet_1 ?_
  refine lv_aload_n hx hb dX0_isWet_4 rfl (lv_at hl 0 rfl) ?_
  refine cl_Vi (As := []) (rest := [.int (nI (G 8))]) (C := RX0) ⟨hx, hb, hml, hown, hts⟩ (M_X0_minuteOfDay l D cI cJ g G b hb30 hG) (cwV 0 hts gX0_isWet_X0_minuteOfDay rfl rfl rfl qX0_minuteOfDay ⟨Nat.le_of_ble_eq_true rfl, Nat.le_of_ble_eq_true rfl⟩) E0_good hK hA hW trivial [true] (fun _ => [gW cI g G]) rfl (fun _ => rfl) (fun _ => rfl) 0 0 rfl rfl rfl rfl hl.1 rfl (lv_room (Nat.le_of_ble_eq_true rfl)) dX0_isWet_5 ⟨Nat.zero_le _, Nat.zero_le _⟩ (fun _ H locs _ hW => ?_)
  refine lv_bipush (v := nI 10) hx hb dX0_isWet_8 (by decide +kernel) ?_
  refine nn_div hx hb dX0_isWet_10 (by omega) (by decide) (by decide) ?_
  refine nn_shr hx hb dX0_isWet_11 (by omega) (by omega) ?_
  refine lv_iconst (v := nI 1) hx hb dX0_isWet_12 (by decide +kernel) ?_
  refine nn_and hx hb dX0_isWet_13 ?_
  refine W.top (v' := .int (nI (G 8 / 2 ^ (G 0 % 50 / 10) % 2))) (by rw [Nat.and_one_is_mod]) ?_
  refine lv_iconst (v := nI 1) hx hb dX0_isWet_14 (by decide +kernel) ?_
  refine nn_cne (tgt := 22) hx hb dX0_isWet_15 (by decide) (by omega) (by decide) (fun c15 => ?_) (fun c15 => ?_)
  · refine lv_iconst (v := nI 0) hx hb dX0_isWet_22 (by decide +kernel) ?_
    exact rt_z hQ hx hb hr hlocks hW dX0_isWet_23 (by decide +kernel) () (by unfold wetN; congr 3 <;> omega) trivial rfl
  · refine lv_iconst (v := nI 1) hx hb dX0_isWet_18 (by decide +kernel) ?_
    refine lv_goto (tgt := 23) hx hb dX0_isWet_19 (by decide) ?_
    exact rt_z hQ hx hb hr hlocks hW dX0_isWet_23 (by decide +kernel) () (by unfold wetN; congr 3 <;> omega) trivial rfl
abbrev rmX0_outCount : Room := { frames := 0, cells := 0, slots := 0, locals := 0 }
set_option maxRecDepth 100000 in
set_option maxHeartbeats 4000000 in
theorem M_X0_outCount (l : Launch) (D : va_G) (cI cJ : ClassId) (g G : Nat → Nat) (b : Nat) (hb30 : b < 2 ^ 30) (hG : OkG b G) : CE E0 l D vwCl [(cI, .int), (cJ, .long)] yX0_outCount wsX0_outCount rmX0_outCount [.ref (g 0)] [gW cI g G] (S := Unit) (some (.int (nI (outC G)))) (fun _ => True) (fun _ : Unit => [gW cI g G]) 0 0 := by
  refine CE.ofW (cc := cX0_outCount) (maxL := 3) (ret := (some .int)) (lv := [(0, .ref (g 0))]) (by decide) rfl (Nat.le_of_ble_eq_true rfl) rfl ?_
  intro p e s m args below meth c ls A Q hQ hx hb hml hr hlocks hnm hown hts hK hA hE hW hl
  have hown : s.vm.findClass RX0 = some m.cls := hown
  obtain ⟨hg0, hg8, hg16, hg16b, hg24, hg32, hg40, hg48⟩ := hG.s
  refine lv_iconst (v := nI 0) hx hb dX0_outCount_0 (by decide +kernel) ?_
  refine lv_istore_n (lv' := [(1, .int (nI 0)), (0, .ref (g 0))]) hx hb dX0_outCount_1 rfl hl (by decide) rfl (fun ls hl => ?_)
  refine lv_iconst (v := nI 0) hx hb dX0_outCount_2 (by decide +kernel) ?_
  refine lv_istore_n (lv' := [(2, .int (nI 0)), (1, .int (nI 0)), (0, .ref (g 0))]) hx hb dX0_outCount_3 rfl hl (by decide) rfl (fun ls hl => ?_)
  have lp4 : ∀ (n : Nat) (i : Nat), G 40 - i < n → i ≤ G 40 → ∀ (H : Heap) (locs : List Loc), Wo D vwCl A s.heap H locs [gW cI g G] → ∀ ls : Array Slot, lv_has ls 3 [(2, .int (nI i)), (1, .int (nI (sumN (fun i => G (8 * i + 2)) i))), (0, .ref (g 0))] → W p l e rmX0_outCount s m args below meth c H locs 0 0 Q (F0 m 4 ls []) := by
    intro n
    induction n with
    | zero => intro i hm; exact absurd hm (Nat.not_lt_zero _)
    | succ n ih =>
      intro i hm hi H locs hW ls hl
      have hmi : ∀ j, j < i → G (8 * j + 2) ≤ 1 := fun j hj => (hG.m j (by omega)).2.1
      refine lv_iload_n hx hb dX0_outCount_4 rfl (lv_at hl 0 rfl) ?_
      refine lv_aload_n hx hb dX0_outCount_5 rfl (lv_at hl 2 rfl) ?_
      refine sg_get (ci := 0) (C := RX0) (T := TX0) (N := 14) (v := .int (nI (G 40))) hx hb hts (fun _ h => List.mem_cons_of_mem _ (List.mem_append_right _ h)) hown hK hW 0 0 rfl rfl rfl 5 (by decide) (hts _ (List.mem_of_getElem? (i := 1) rfl)) rfl dX0_outCount_6 ?_
      refine nn_cge (tgt := 27) hx hb dX0_outCount_9 (by decide) (by omega) (by omega) (fun c9 => ?_) (fun c9 => ?_)
      · refine lv_iload_n hx hb dX0_outCount_27 rfl (lv_at hl 1 rfl) ?_
        exact rt_i hQ hx hb hr hlocks hW dX0_outCount_28 () (by rw [show i = G 40 by omega]; rfl) trivial rfl
      · refine lv_iload_n hx hb dX0_outCount_12 rfl (lv_at hl 1 rfl) ?_
        refine lv_aload_n hx hb dX0_outCount_13 rfl (lv_at hl 2 rfl) ?_
        refine sg_get (ci := 0) (C := RX0) (T := TX0) (N := 14) (v := .ref (g 2)) hx hb hts (fun _ h => List.mem_cons_of_mem _ (List.mem_append_right _ h)) hown hK hW 0 0 rfl rfl rfl 7 (by decide) (hts _ (List.mem_of_getElem? (i := 2) rfl)) rfl dX0_outCount_14 ?_
        refine lv_iload_n hx hb dX0_outCount_17 rfl (lv_at hl 0 rfl) ?_
        refine sg_ild (v := nI (G (8 * i + 2))) hx hb hK hW 0 2 0 rfl rfl rfl (by omega) (by decide) rfl dX0_outCount_18 ?_
        refine nn_add hx hb dX0_outCount_19 ?_
        refine lv_istore_n (lv' := [(1, .int (nI ((sumN (fun i => G (8 * i + 2)) i) + (G (8 * i + 2))))), (2, .int (nI i)), (0, .ref (g 0))]) hx hb dX0_outCount_20 rfl hl (by decide) rfl (fun ls hl => ?_)
        refine lv_iinc (v := nI (i + 1)) (lv' := [(2, .int (nI (i + 1))), (1, .int (nI ((sumN (fun i => G (8 * i + 2)) i) + (G (8 * i + 2))))), (0, .ref (g 0))]) hx hb dX0_outCount_21 hl (k := 1) rfl (nI_add _ 1) (by decide) rfl (fun ls hl => ?_)
        refine lv_goto (tgt := 4) hx hb dX0_outCount_24 (by decide) ?_
        exact ih (i + 1) (by omega) (by omega) _ _ hW _ (lv_sub hl [0, 1, 2] rfl)
  exact lp4 (G 40 - 0 + 1) 0 (Nat.lt_succ_self _) (by omega) _ _ hW _ (lv_sub hl [0, 1, 2] rfl)
abbrev rmX0_outSet : Room := { frames := 0, cells := 0, slots := 0, locals := 0 }
set_option maxRecDepth 100000 in
set_option maxHeartbeats 4000000 in
theorem M_X0_outSet (l : Launch) (D : va_G) (cI cJ : ClassId) (g G : Nat → Nat) (b : Nat) (hb30 : b < 2 ^ 30) (hG : OkG b G) : CE E0 l D vwCl [(cI, .int), (cJ, .long)] yX0_outSet wsX0_outSet rmX0_outSet [.ref (g 0)] [gW cI g G] (S := Unit) (some (.int (nI (outS G)))) (fun _ => True) (fun _ : Unit => [gW cI g G]) 0 0 := by
  refine CE.ofW (cc := cX0_outSet) (maxL := 3) (ret := (some .int)) (lv := [(0, .ref (g 0))]) (by decide) rfl (Nat.le_of_ble_eq_true rfl) rfl ?_
  intro p e s m args below meth c ls A Q hQ hx hb hml hr hlocks hnm hown hts hK hA hE hW hl
  have hown : s.vm.findClass RX0 = some m.cls := hown
  obtain ⟨hg0, hg8, hg16, hg16b, hg24, hg32, hg40, hg48⟩ := hG.s
  refine lv_iconst (v := nI 0) hx hb dX0_outSet_0 (by decide +kernel) ?_
  refine lv_istore_n (lv' := [(1, .int (nI 0)), (0, .ref (g 0))]) hx hb dX0_outSet_1 rfl hl (by decide) rfl (fun ls hl => ?_)
  refine lv_iconst (v := nI 0) hx hb dX0_outSet_2 (by decide +kernel) ?_
  refine lv_istore_n (lv' := [(2, .int (nI 0)), (1, .int (nI 0)), (0, .ref (g 0))]) hx hb dX0_outSet_3 rfl hl (by decide) rfl (fun ls hl => ?_)
  have lp4 : ∀ (n : Nat) (i : Nat), G 40 - i < n → i ≤ G 40 → ∀ (H : Heap) (locs : List Loc), Wo D vwCl A s.heap H locs [gW cI g G] → ∀ ls : Array Slot, lv_has ls 3 [(2, .int (nI i)), (1, .int (nI (setN (fun i => G (8 * i + 2)) i))), (0, .ref (g 0))] → W p l e rmX0_outSet s m args below meth c H locs 0 0 Q (F0 m 4 ls []) := by
    intro n
    induction n with
    | zero => intro i hm; exact absurd hm (Nat.not_lt_zero _)
    | succ n ih =>
      intro i hm hi H locs hW ls hl
      have hmi : ∀ j, j < i → G (8 * j + 2) ≤ 1 := fun j hj => (hG.m j (by omega)).2.1
      refine lv_iload_n hx hb dX0_outSet_4 rfl (lv_at hl 0 rfl) ?_
      refine lv_aload_n hx hb dX0_outSet_5 rfl (lv_at hl 2 rfl) ?_
      refine sg_get (ci := 0) (C := RX0) (T := TX0) (N := 14) (v := .int (nI (G 40))) hx hb hts (fun _ h => List.mem_cons_of_mem _ (List.mem_append_right _ h)) hown hK hW 0 0 rfl rfl rfl 5 (by decide) (hts _ (List.mem_of_getElem? (i := 1) rfl)) rfl dX0_outSet_6 ?_
      refine nn_cge (tgt := 29) hx hb dX0_outSet_9 (by decide) (by omega) (by omega) (fun c9 => ?_) (fun c9 => ?_)
      · refine lv_iload_n hx hb dX0_outSet_29 rfl (lv_at hl 1 rfl) ?_
        exact rt_i hQ hx hb hr hlocks hW dX0_outSet_30 () (by rw [show i = G 40 by omega]; rfl) trivial rfl
      · refine lv_iload_n hx hb dX0_outSet_12 rfl (lv_at hl 1 rfl) ?_
        refine lv_aload_n hx hb dX0_outSet_13 rfl (lv_at hl 2 rfl) ?_
        refine sg_get (ci := 0) (C := RX0) (T := TX0) (N := 14) (v := .ref (g 2)) hx hb hts (fun _ h => List.mem_cons_of_mem _ (List.mem_append_right _ h)) hown hK hW 0 0 rfl rfl rfl 7 (by decide) (hts _ (List.mem_of_getElem? (i := 2) rfl)) rfl dX0_outSet_14 ?_
        refine lv_iload_n hx hb dX0_outSet_17 rfl (lv_at hl 0 rfl) ?_
        refine sg_ild (v := nI (G (8 * i + 2))) hx hb hK hW 0 2 0 rfl rfl rfl (by omega) (by decide) rfl dX0_outSet_18 ?_
        refine lv_iload_n hx hb dX0_outSet_19 rfl (lv_at hl 0 rfl) ?_
        refine nn_shl hx hb dX0_outSet_20 (by omega) ?_
        refine nn_or hx hb dX0_outSet_21 ?_
        refine W.top (v' := .int (nI (setN (fun i => G (8 * i + 2)) (i + 1)))) (congrArg (fun z => Value.int (nI z)) (setN_or (f := (fun i => G (8 * i + 2))) (n := i) hmi)) ?_
        refine lv_istore_n (lv' := [(1, .int (nI (setN (fun i => G (8 * i + 2)) (i + 1)))), (2, .int (nI i)), (0, .ref (g 0))]) hx hb dX0_outSet_22 rfl hl (by decide) rfl (fun ls hl => ?_)
        refine lv_iinc (v := nI (i + 1)) (lv' := [(2, .int (nI (i + 1))), (1, .int (nI (setN (fun i => G (8 * i + 2)) (i + 1)))), (0, .ref (g 0))]) hx hb dX0_outSet_23 hl (k := 1) rfl (nI_add _ 1) (by decide) rfl (fun ls hl => ?_)
        refine lv_goto (tgt := 4) hx hb dX0_outSet_26 (by decide) ?_
        exact ih (i + 1) (by omega) (by omega) _ _ hW _ (lv_sub hl [0, 1, 2] rfl)
  exact lp4 (G 40 - 0 + 1) 0 (Nat.lt_succ_self _) (by omega) _ _ hW _ (lv_sub hl [0, 1, 2] rfl)
abbrev rmX0_onCount : Room := { frames := 0, cells := 0, slots := 0, locals := 0 }
set_option maxRecDepth 100000 in
set_option maxHeartbeats 4000000 in
theorem M_X0_onCount (l : Launch) (D : va_G) (cI cJ : ClassId) (g G : Nat → Nat) (b : Nat) (hb30 : b < 2 ^ 30) (hG : OkG b G) : CE E0 l D vwCl [(cI, .int), (cJ, .long)] yX0_onCount wsX0_onCount rmX0_onCount [.ref (g 0)] [gW cI g G] (S := Unit) (some (.int (nI (onC G)))) (fun _ => True) (fun _ : Unit => [gW cI g G]) 0 0 := by
  refine CE.ofW (cc := cX0_onCount) (maxL := 3) (ret := (some .int)) (lv := [(0, .ref (g 0))]) (by decide) rfl (Nat.le_of_ble_eq_true rfl) rfl ?_
  intro p e s m args below meth c ls A Q hQ hx hb hml hr hlocks hnm hown hts hK hA hE hW hl
  have hown : s.vm.findClass RX0 = some m.cls := hown
  obtain ⟨hg0, hg8, hg16, hg16b, hg24, hg32, hg40, hg48⟩ := hG.s
  refine lv_iconst (v := nI 0) hx hb dX0_onCount_0 (by decide +kernel) ?_
  refine lv_istore_n (lv' := [(1, .int (nI 0)), (0, .ref (g 0))]) hx hb dX0_onCount_1 rfl hl (by decide) rfl (fun ls hl => ?_)
  refine lv_iconst (v := nI 0) hx hb dX0_onCount_2 (by decide +kernel) ?_
  refine lv_istore_n (lv' := [(2, .int (nI 0)), (1, .int (nI 0)), (0, .ref (g 0))]) hx hb dX0_onCount_3 rfl hl (by decide) rfl (fun ls hl => ?_)
  have lp4 : ∀ (n : Nat) (i : Nat), G 48 - i < n → i ≤ G 48 → ∀ (H : Heap) (locs : List Loc), Wo D vwCl A s.heap H locs [gW cI g G] → ∀ ls : Array Slot, lv_has ls 3 [(2, .int (nI i)), (1, .int (nI (sumN (fun i => G (8 * i + 6)) i))), (0, .ref (g 0))] → W p l e rmX0_onCount s m args below meth c H locs 0 0 Q (F0 m 4 ls []) := by
    intro n
    induction n with
    | zero => intro i hm; exact absurd hm (Nat.not_lt_zero _)
    | succ n ih =>
      intro i hm hi H locs hW ls hl
      have hmi : ∀ j, j < i → G (8 * j + 6) ≤ 1 := fun j hj => (hG.c j (by omega)).2.1
      refine lv_iload_n hx hb dX0_onCount_4 rfl (lv_at hl 0 rfl) ?_
      refine lv_aload_n hx hb dX0_onCount_5 rfl (lv_at hl 2 rfl) ?_
      refine sg_get (ci := 0) (C := RX0) (T := TX0) (N := 14) (v := .int (nI (G 48))) hx hb hts (fun _ h => List.mem_cons_of_mem _ (List.mem_append_right _ h)) hown hK hW 0 0 rfl rfl rfl 10 (by decide) (hts _ (List.mem_of_getElem? (i := 1) rfl)) rfl dX0_onCount_6 ?_
      refine nn_cge (tgt := 27) hx hb dX0_onCount_9 (by decide) (by omega) (by omega) (fun c9 => ?_) (fun c9 => ?_)
      · refine lv_iload_n hx hb dX0_onCount_27 rfl (lv_at hl 1 rfl) ?_
        exact rt_i hQ hx hb hr hlocks hW dX0_onCount_28 () (by rw [show i = G 48 by omega]; rfl) trivial rfl
      · refine lv_iload_n hx hb dX0_onCount_12 rfl (lv_at hl 1 rfl) ?_
        refine lv_aload_n hx hb dX0_onCount_13 rfl (lv_at hl 2 rfl) ?_
        refine sg_get (ci := 0) (C := RX0) (T := TX0) (N := 14) (v := .ref (g 6)) hx hb hts (fun _ h => List.mem_cons_of_mem _ (List.mem_append_right _ h)) hown hK hW 0 0 rfl rfl rfl 12 (by decide) (hts _ (List.mem_of_getElem? (i := 2) rfl)) rfl dX0_onCount_14 ?_
        refine lv_iload_n hx hb dX0_onCount_17 rfl (lv_at hl 0 rfl) ?_
        refine sg_ild (v := nI (G (8 * i + 6))) hx hb hK hW 0 6 0 rfl rfl rfl (by omega) (by decide) rfl dX0_onCount_18 ?_
        refine nn_add hx hb dX0_onCount_19 ?_
        refine lv_istore_n (lv' := [(1, .int (nI ((sumN (fun i => G (8 * i + 6)) i) + (G (8 * i + 6))))), (2, .int (nI i)), (0, .ref (g 0))]) hx hb dX0_onCount_20 rfl hl (by decide) rfl (fun ls hl => ?_)
        refine lv_iinc (v := nI (i + 1)) (lv' := [(2, .int (nI (i + 1))), (1, .int (nI ((sumN (fun i => G (8 * i + 6)) i) + (G (8 * i + 6))))), (0, .ref (g 0))]) hx hb dX0_onCount_21 hl (k := 1) rfl (nI_add _ 1) (by decide) rfl (fun ls hl => ?_)
        refine lv_goto (tgt := 4) hx hb dX0_onCount_24 (by decide) ?_
        exact ih (i + 1) (by omega) (by omega) _ _ hW _ (lv_sub hl [0, 1, 2] rfl)
  exact lp4 (G 48 - 0 + 1) 0 (Nat.lt_succ_self _) (by omega) _ _ hW _ (lv_sub hl [0, 1, 2] rfl)
abbrev rmX0_onSet : Room := { frames := 0, cells := 0, slots := 0, locals := 0 }
set_option maxRecDepth 100000 in
set_option maxHeartbeats 4000000 in
theorem M_X0_onSet (l : Launch) (D : va_G) (cI cJ : ClassId) (g G : Nat → Nat) (b : Nat) (hb30 : b < 2 ^ 30) (hG : OkG b G) : CE E0 l D vwCl [(cI, .int), (cJ, .long)] yX0_onSet wsX0_onSet rmX0_onSet [.ref (g 0)] [gW cI g G] (S := Unit) (some (.int (nI (onS G)))) (fun _ => True) (fun _ : Unit => [gW cI g G]) 0 0 := by
  refine CE.ofW (cc := cX0_onSet) (maxL := 3) (ret := (some .int)) (lv := [(0, .ref (g 0))]) (by decide) rfl (Nat.le_of_ble_eq_true rfl) rfl ?_
  intro p e s m args below meth c ls A Q hQ hx hb hml hr hlocks hnm hown hts hK hA hE hW hl
  have hown : s.vm.findClass RX0 = some m.cls := hown
  obtain ⟨hg0, hg8, hg16, hg16b, hg24, hg32, hg40, hg48⟩ := hG.s
  refine lv_iconst (v := nI 0) hx hb dX0_onSet_0 (by decide +kernel) ?_
  refine lv_istore_n (lv' := [(1, .int (nI 0)), (0, .ref (g 0))]) hx hb dX0_onSet_1 rfl hl (by decide) rfl (fun ls hl => ?_)
  refine lv_iconst (v := nI 0) hx hb dX0_onSet_2 (by decide +kernel) ?_
  refine lv_istore_n (lv' := [(2, .int (nI 0)), (1, .int (nI 0)), (0, .ref (g 0))]) hx hb dX0_onSet_3 rfl hl (by decide) rfl (fun ls hl => ?_)
  have lp4 : ∀ (n : Nat) (i : Nat), G 48 - i < n → i ≤ G 48 → ∀ (H : Heap) (locs : List Loc), Wo D vwCl A s.heap H locs [gW cI g G] → ∀ ls : Array Slot, lv_has ls 3 [(2, .int (nI i)), (1, .int (nI (setN (fun i => G (8 * i + 6)) i))), (0, .ref (g 0))] → W p l e rmX0_onSet s m args below meth c H locs 0 0 Q (F0 m 4 ls []) := by
    intro n
    induction n with
    | zero => intro i hm; exact absurd hm (Nat.not_lt_zero _)
    | succ n ih =>
      intro i hm hi H locs hW ls hl
      have hmi : ∀ j, j < i → G (8 * j + 6) ≤ 1 := fun j hj => (hG.c j (by omega)).2.1
      refine lv_iload_n hx hb dX0_onSet_4 rfl (lv_at hl 0 rfl) ?_
      refine lv_aload_n hx hb dX0_onSet_5 rfl (lv_at hl 2 rfl) ?_
      refine sg_get (ci := 0) (C := RX0) (T := TX0) (N := 14) (v := .int (nI (G 48))) hx hb hts (fun _ h => List.mem_cons_of_mem _ (List.mem_append_right _ h)) hown hK hW 0 0 rfl rfl rfl 10 (by decide) (hts _ (List.mem_of_getElem? (i := 1) rfl)) rfl dX0_onSet_6 ?_
      refine nn_cge (tgt := 29) hx hb dX0_onSet_9 (by decide) (by omega) (by omega) (fun c9 => ?_) (fun c9 => ?_)
      · refine lv_iload_n hx hb dX0_onSet_29 rfl (lv_at hl 1 rfl) ?_
        exact rt_i hQ hx hb hr hlocks hW dX0_onSet_30 () (by rw [show i = G 48 by omega]; rfl) trivial rfl
      · refine lv_iload_n hx hb dX0_onSet_12 rfl (lv_at hl 1 rfl) ?_
        refine lv_aload_n hx hb dX0_onSet_13 rfl (lv_at hl 2 rfl) ?_
        refine sg_get (ci := 0) (C := RX0) (T := TX0) (N := 14) (v := .ref (g 6)) hx hb hts (fun _ h => List.mem_cons_of_mem _ (List.mem_append_right _ h)) hown hK hW 0 0 rfl rfl rfl 12 (by decide) (hts _ (List.mem_of_getElem? (i := 2) rfl)) rfl dX0_onSet_14 ?_
        refine lv_iload_n hx hb dX0_onSet_17 rfl (lv_at hl 0 rfl) ?_
        refine sg_ild (v := nI (G (8 * i + 6))) hx hb hK hW 0 6 0 rfl rfl rfl (by omega) (by decide) rfl dX0_onSet_18 ?_
        refine lv_iload_n hx hb dX0_onSet_19 rfl (lv_at hl 0 rfl) ?_
        refine nn_shl hx hb dX0_onSet_20 (by omega) ?_
        refine nn_or hx hb dX0_onSet_21 ?_
        refine W.top (v' := .int (nI (setN (fun i => G (8 * i + 6)) (i + 1)))) (congrArg (fun z => Value.int (nI z)) (setN_or (f := (fun i => G (8 * i + 6))) (n := i) hmi)) ?_
        refine lv_istore_n (lv' := [(1, .int (nI (setN (fun i => G (8 * i + 6)) (i + 1)))), (2, .int (nI i)), (0, .ref (g 0))]) hx hb dX0_onSet_22 rfl hl (by decide) rfl (fun ls hl => ?_)
        refine lv_iinc (v := nI (i + 1)) (lv' := [(2, .int (nI (i + 1))), (1, .int (nI (setN (fun i => G (8 * i + 6)) (i + 1)))), (0, .ref (g 0))]) hx hb dX0_onSet_23 hl (k := 1) rfl (nI_add _ 1) (by decide) rfl (fun ls hl => ?_)
        refine lv_goto (tgt := 4) hx hb dX0_onSet_26 (by decide) ?_
        exact ih (i + 1) (by omega) (by omega) _ _ hW _ (lv_sub hl [0, 1, 2] rfl)
  exact lp4 (G 48 - 0 + 1) 0 (Nat.lt_succ_self _) (by omega) _ _ hW _ (lv_sub hl [0, 1, 2] rfl)
abbrev rmX0_flingsOfAll : Room := { frames := 0, cells := 0, slots := 0, locals := 0 }
set_option maxRecDepth 100000 in
set_option maxHeartbeats 4000000 in
theorem M_X0_flingsOfAll (l : Launch) (D : va_G) (cI cJ : ClassId) (g G : Nat → Nat) (b : Nat) (hb30 : b < 2 ^ 30) (hG : OkG b G) : CE E0 l D vwCl [(cI, .int), (cJ, .long)] yX0_flingsOfAll wsX0_flingsOfAll rmX0_flingsOfAll [.ref (g 0)] [gW cI g G] (S := Unit) (some (.int (nI (flC G)))) (fun _ => True) (fun _ : Unit => [gW cI g G]) 0 0 := by
  refine CE.ofW (cc := cX0_flingsOfAll) (maxL := 3) (ret := (some .int)) (lv := [(0, .ref (g 0))]) (by decide) rfl (Nat.le_of_ble_eq_true rfl) rfl ?_
  intro p e s m args below meth c ls A Q hQ hx hb hml hr hlocks hnm hown hts hK hA hE hW hl
  have hown : s.vm.findClass RX0 = some m.cls := hown
  obtain ⟨hg0, hg8, hg16, hg16b, hg24, hg32, hg40, hg48⟩ := hG.s
  refine lv_iconst (v := nI 0) hx hb dX0_flingsOfAll_0 (by decide +kernel) ?_
  refine lv_istore_n (lv' := [(1, .int (nI 0)), (0, .ref (g 0))]) hx hb dX0_flingsOfAll_1 rfl hl (by decide) rfl (fun ls hl => ?_)
  refine lv_iconst (v := nI 0) hx hb dX0_flingsOfAll_2 (by decide +kernel) ?_
  refine lv_istore_n (lv' := [(2, .int (nI 0)), (1, .int (nI 0)), (0, .ref (g 0))]) hx hb dX0_flingsOfAll_3 rfl hl (by decide) rfl (fun ls hl => ?_)
  have lp4 : ∀ (n : Nat) (i : Nat), G 48 - i < n → i ≤ G 48 → ∀ (H : Heap) (locs : List Loc), Wo D vwCl A s.heap H locs [gW cI g G] → ∀ ls : Array Slot, lv_has ls 3 [(2, .int (nI i)), (1, .int (nI (sumN (fun i => G (8 * i + 7)) i))), (0, .ref (g 0))] → W p l e rmX0_flingsOfAll s m args below meth c H locs 0 0 Q (F0 m 4 ls []) := by
    intro n
    induction n with
    | zero => intro i hm; exact absurd hm (Nat.not_lt_zero _)
    | succ n ih =>
      intro i hm hi H locs hW ls hl
      have hmi : ∀ j, j < i → G (8 * j + 7) ≤ 9999 := fun j hj => (hG.c j (by omega)).2.2
      refine lv_iload_n hx hb dX0_flingsOfAll_4 rfl (lv_at hl 0 rfl) ?_
      refine lv_aload_n hx hb dX0_flingsOfAll_5 rfl (lv_at hl 2 rfl) ?_
      refine sg_get (ci := 0) (C := RX0) (T := TX0) (N := 14) (v := .int (nI (G 48))) hx hb hts (fun _ h => List.mem_cons_of_mem _ (List.mem_append_right _ h)) hown hK hW 0 0 rfl rfl rfl 10 (by decide) (hts _ (List.mem_of_getElem? (i := 1) rfl)) rfl dX0_flingsOfAll_6 ?_
      refine nn_cge (tgt := 27) hx hb dX0_flingsOfAll_9 (by decide) (by omega) (by omega) (fun c9 => ?_) (fun c9 => ?_)
      · refine lv_iload_n hx hb dX0_flingsOfAll_27 rfl (lv_at hl 1 rfl) ?_
        exact rt_i hQ hx hb hr hlocks hW dX0_flingsOfAll_28 () (by rw [show i = G 48 by omega]; rfl) trivial rfl
      · refine lv_iload_n hx hb dX0_flingsOfAll_12 rfl (lv_at hl 1 rfl) ?_
        refine lv_aload_n hx hb dX0_flingsOfAll_13 rfl (lv_at hl 2 rfl) ?_
        refine sg_get (ci := 0) (C := RX0) (T := TX0) (N := 14) (v := .ref (g 7)) hx hb hts (fun _ h => List.mem_cons_of_mem _ (List.mem_append_right _ h)) hown hK hW 0 0 rfl rfl rfl 13 (by decide) (hts _ (List.mem_of_getElem? (i := 2) rfl)) rfl dX0_flingsOfAll_14 ?_
        refine lv_iload_n hx hb dX0_flingsOfAll_17 rfl (lv_at hl 0 rfl) ?_
        refine sg_ild (v := nI (G (8 * i + 7))) hx hb hK hW 0 7 0 rfl rfl rfl (by omega) (by decide) rfl dX0_flingsOfAll_18 ?_
        refine nn_add hx hb dX0_flingsOfAll_19 ?_
        refine lv_istore_n (lv' := [(1, .int (nI ((sumN (fun i => G (8 * i + 7)) i) + (G (8 * i + 7))))), (2, .int (nI i)), (0, .ref (g 0))]) hx hb dX0_flingsOfAll_20 rfl hl (by decide) rfl (fun ls hl => ?_)
        refine lv_iinc (v := nI (i + 1)) (lv' := [(2, .int (nI (i + 1))), (1, .int (nI ((sumN (fun i => G (8 * i + 7)) i) + (G (8 * i + 7))))), (0, .ref (g 0))]) hx hb dX0_flingsOfAll_21 hl (k := 1) rfl (nI_add _ 1) (by decide) rfl (fun ls hl => ?_)
        refine lv_goto (tgt := 4) hx hb dX0_flingsOfAll_24 (by decide) ?_
        exact ih (i + 1) (by omega) (by omega) _ _ hW _ (lv_sub hl [0, 1, 2] rfl)
  exact lp4 (G 48 - 0 + 1) 0 (Nat.lt_succ_self _) (by omega) _ _ hW _ (lv_sub hl [0, 1, 2] rfl)
abbrev rmX0_weightNow : Room := { frames := 1, cells := 0, slots := 0, locals := 22 }
set_option maxRecDepth 100000 in
set_option maxHeartbeats 4000000 in
theorem M_X0_weightNow (l : Launch) (D : va_G) (cI cJ : ClassId) (g G : Nat → Nat) (b : Nat) (hb30 : b < 2 ^ 30) (hG : OkG b G) : CE E0 l D vwCl [(cI, .int), (cJ, .long)] yX0_weightNow wsX0_weightNow rmX0_weightNow [.ref (g 0)] [gW cI g G] (S := Unit) (some (.int (nI (weightN G)))) (fun _ => True) (fun _ : Unit => [gW cI g G]) 0 0 := by
  refine CE.ofW (cc := cX0_weightNow) (maxL := 1) (ret := (some .int)) (lv := [(0, .ref (g 0))]) (by decide) rfl (Nat.le_of_ble_eq_true rfl) rfl ?_
  intro p e s m args below meth c ls A Q hQ hx hb hml hr hlocks hnm hown hts hK hA hE hW hl
  have hown : s.vm.findClass RX0 = some m.cls := hown
  obtain ⟨hg0, hg8, hg16, hg16b, hg24, hg32, hg40, hg48⟩ := hG.s
  refine lv_aload_n hx hb dX0_weightNow_0 rfl (lv_at hl 0 rfl) ?_
  refine sg_get (ci := 0) (C := RX0) (T := TX0) (N := 14) (v := .int (nI (G 16))) hx hb hts (fun _ h => List.mem_cons_of_mem _ (List.mem_append_right _ h)) hown hK hW 0 0 rfl rfl rfl 2 (by decide) (hts _ (List.mem_of_getElem? (i := 1) rfl)) rfl dX0_weightNow_1 ?_
  refine lv_iconst (v := nI 2) hx hb dX0_weightNow_4 (by decide +kernel) ?_
  refine lv_aload_n hx hb dX0_weightNow_5 rfl (lv_at hl 0 rfl) ?_
  refine cl_Vi (As := []) (rest := [.int (nI 2), .int (nI (G 16))]) (C := RX0) ⟨hx, hb, hml, hown, hts⟩ (M_X0_onCount l D cI cJ g G b hb30 hG) (cwV 0 hts gX0_weightNow_X0_onCount rfl rfl rfl qX0_onCount ⟨Nat.le_of_ble_eq_true rfl, Nat.le_of_ble_eq_true rfl⟩) E0_good hK hA hW trivial [true] (fun _ => [gW cI g G]) rfl (fun _ => rfl) (fun _ => rfl) 0 0 rfl rfl rfl rfl hl.1 rfl (lv_room (Nat.le_of_ble_eq_true rfl)) dX0_weightNow_6 ⟨Nat.zero_le _, Nat.zero_le _⟩ (fun _ H locs _ hW => ?_)
  refine nn_mul hx hb dX0_weightNow_9 ?_
  refine nn_add hx hb dX0_weightNow_10 ?_
  exact rt_i hQ hx hb hr hlocks hW dX0_weightNow_11 () rfl trivial rfl
abbrev rmX1_isKind : Room := { frames := 0, cells := 0, slots := 0, locals := 0 }
set_option maxRecDepth 100000 in
set_option maxHeartbeats 4000000 in
theorem M_X1_isKind (l : Launch) (D : va_G) (cI cJ : ClassId) (v : Int32) : CE E0 l D vwCl [(cI, .int), (cJ, .long)] yX1_isKind wsX1_isKind rmX1_isKind [.int v] [] (S := Unit) (some (.int (nI (inN v 6)))) (fun _ => True) (fun _ : Unit => []) 0 0 := by
  refine CE.ofW (cc := cX1_isKind) (maxL := 1) (ret := (some .boolean)) (lv := [(0, .int v)]) (by decide) rfl (Nat.le_of_ble_eq_true rfl) rfl ?_
  intro p e s m args below meth c ls A Q hQ hx hb hml hr hlocks hnm hown hts hK hA hE hW hl
  have hown : s.vm.findClass RX1 = some m.cls := hown
  refine lv_iload_n hx hb dX1_isKind_0 rfl (lv_at hl 0 rfl) ?_
  refine zz_zlt (tgt := 14) hx hb dX1_isKind_1 (by decide) (rfl : v.toInt = v.toInt) (fun c1 => ?_) (fun c1 => ?_)
  · refine lv_iconst (v := nI 0) hx hb dX1_isKind_14 (by decide +kernel) ?_
    exact rt_z hQ hx hb hr hlocks hW dX1_isKind_15 (by decide +kernel) () (by unfold inN; split <;> first | rfl | (exfalso; omega)) trivial rfl
  · refine lv_iload_n hx hb dX1_isKind_4 rfl (lv_at hl 0 rfl) ?_
    refine lv_bipush (v := nI 6) hx hb dX1_isKind_5 (by decide +kernel) ?_
    refine zz_cge (tgt := 14) hx hb dX1_isKind_7 (by decide) (rfl : v.toInt = v.toInt) (nI_toInt (n := 6) (by decide)) (fun c7 => ?_) (fun c7 => ?_)
    · refine lv_iconst (v := nI 0) hx hb dX1_isKind_14 (by decide +kernel) ?_
      exact rt_z hQ hx hb hr hlocks hW dX1_isKind_15 (by decide +kernel) () (by unfold inN; split <;> first | rfl | (exfalso; omega)) trivial rfl
    · refine lv_iconst (v := nI 1) hx hb dX1_isKind_10 (by decide +kernel) ?_
      refine lv_goto (tgt := 15) hx hb dX1_isKind_11 (by decide) ?_
      exact rt_z hQ hx hb hr hlocks hW dX1_isKind_15 (by decide +kernel) () (by unfold inN; split <;> first | rfl | (exfalso; omega)) trivial rfl
def aboveK (k : Nat) : Nat := if k = 4 then 1 else if k = 5 then 2 else 0
def underN (k j : Nat) : Nat := if k = j ∨ j = 0 ∨ aboveK k = j then 1 else 0
theorem aboveK_le (k : Nat) : aboveK k ≤ 2 := by unfold aboveK; (repeat' split) <;> omega
abbrev rmX1_kindAbove : Room := { frames := 0, cells := 0, slots := 0, locals := 0 }
set_option maxRecDepth 100000 in
set_option maxHeartbeats 4000000 in
theorem M_X1_kindAbove (l : Launch) (D : va_G) (cI cJ : ClassId) (k : Nat) (hk : k < 1000) : CE E0 l D vwCl [(cI, .int), (cJ, .long)] yX1_kindAbove wsX1_kindAbove rmX1_kindAbove [.int (nI k)] [] (S := Unit) (some (.int (nI (aboveK k)))) (fun _ => True) (fun _ : Unit => []) 0 0 := by
  refine CE.ofW (cc := cX1_kindAbove) (maxL := 1) (ret := (some .int)) (lv := [(0, .int (nI k))]) (by decide) rfl (Nat.le_of_ble_eq_true rfl) rfl ?_
  intro p e s m args below meth c ls A Q hQ hx hb hml hr hlocks hnm hown hts hK hA hE hW hl
  have hown : s.vm.findClass RX1 = some m.cls := hown
  refine lv_iload_n hx hb dX1_kindAbove_0 rfl (lv_at hl 0 rfl) ?_
  rcases (show k = 4 ∨ k = 5 ∨ (¬ k = 4 ∧ ¬ k = 5) by omega) with c1 | c1 | c1
  · refine zz_lk (off := 27) (tgt := 28) hx hb dX1_kindAbove_1 (by decide) ((nI_toInt (n := k) (by omega)).trans (show _ = (4 : Int) by omega)) (by decide) (by decide) ?_
    refine lv_iconst (v := nI 1) hx hb dX1_kindAbove_28 (by decide +kernel) ?_
    exact rt_i hQ hx hb hr hlocks hW dX1_kindAbove_29 () (by unfold aboveK; (repeat' split) <;> first | rfl | (exfalso; omega) | (congr 3; omega)) trivial rfl
  · refine zz_lk (off := 29) (tgt := 30) hx hb dX1_kindAbove_1 (by decide) ((nI_toInt (n := k) (by omega)).trans (show _ = (5 : Int) by omega)) (by decide) (by decide) ?_
    refine lv_iconst (v := nI 2) hx hb dX1_kindAbove_30 (by decide +kernel) ?_
    exact rt_i hQ hx hb hr hlocks hW dX1_kindAbove_31 () (by unfold aboveK; (repeat' split) <;> first | rfl | (exfalso; omega) | (congr 3; omega)) trivial rfl
  · refine zz_lk (off := 31) (tgt := 32) hx hb dX1_kindAbove_1 (by decide) (nI_toInt (n := k) (by omega)) (by simp [Op.lookupswitch.offset]; omega) (by decide) ?_
    refine lv_iconst (v := nI 0) hx hb dX1_kindAbove_32 (by decide +kernel) ?_
    exact rt_i hQ hx hb hr hlocks hW dX1_kindAbove_33 () (by unfold aboveK; (repeat' split) <;> first | rfl | (exfalso; omega) | (congr 3; omega)) trivial rfl
abbrev rmX1_isUnder : Room := { frames := 1, cells := 0, slots := 0, locals := 20 }
set_option maxRecDepth 100000 in
set_option maxHeartbeats 4000000 in
theorem M_X1_isUnder (l : Launch) (D : va_G) (cI cJ : ClassId) (k j : Nat) (hk : k < 1000) (hj : j < 1000) : CE E0 l D vwCl [(cI, .int), (cJ, .long)] yX1_isUnder wsX1_isUnder rmX1_isUnder [.int (nI k), .int (nI j)] [] (S := Unit) (some (.int (nI (underN k j)))) (fun _ => True) (fun _ : Unit => []) 0 0 := by
  refine CE.ofW (cc := cX1_isUnder) (maxL := 2) (ret := (some .boolean)) (lv := [(0, .int (nI k)), (1, .int (nI j))]) (by decide) rfl (Nat.le_of_ble_eq_true rfl) rfl ?_
  intro p e s m args below meth c ls A Q hQ hx hb hml hr hlocks hnm hown hts hK hA hE hW hl
  have hown : s.vm.findClass RX1 = some m.cls := hown
  have hab := aboveK_le k
  refine lv_iload_n hx hb dX1_isUnder_0 rfl (lv_at hl 0 rfl) ?_
  refine lv_iload_n hx hb dX1_isUnder_1 rfl (lv_at hl 1 rfl) ?_
  refine nn_ceq (tgt := 17) hx hb dX1_isUnder_2 (by decide) (by omega) (by omega) (fun c2 => ?_) (fun c2 => ?_)
  · refine lv_iconst (v := nI 1) hx hb dX1_isUnder_17 (by decide +kernel) ?_
    refine lv_goto (tgt := 22) hx hb dX1_isUnder_18 (by decide) ?_
    exact rt_z hQ hx hb hr hlocks hW dX1_isUnder_22 (by decide +kernel) () (by unfold underN; (repeat' split) <;> first | rfl | (exfalso; omega) | (congr 3; omega)) trivial rfl
  · refine lv_iload_n hx hb dX1_isUnder_5 rfl (lv_at hl 1 rfl) ?_
    refine nn_zeq (tgt := 17) hx hb dX1_isUnder_6 (by decide) (by omega) (fun c6 => ?_) (fun c6 => ?_)
    · refine lv_iconst (v := nI 1) hx hb dX1_isUnder_17 (by decide +kernel) ?_
      refine lv_goto (tgt := 22) hx hb dX1_isUnder_18 (by decide) ?_
      exact rt_z hQ hx hb hr hlocks hW dX1_isUnder_22 (by decide +kernel) () (by unfold underN; (repeat' split) <;> first | rfl | (exfalso; omega) | (congr 3; omega)) trivial rfl
    · refine lv_iload_n hx hb dX1_isUnder_9 rfl (lv_at hl 0 rfl) ?_
      refine cl_Si (As := [.int (nI k)]) (rest := []) ⟨hx, hb, hml, hown, hts⟩ (M_X1_kindAbove l D cI cJ k (by omega)) (va_cwS 1 hts gX1_isUnder_X1_kindAbove rfl rfl rfl qX1_kindAbove ⟨Nat.le_of_ble_eq_true rfl, Nat.le_of_ble_eq_true rfl⟩) E0_good hK hA hW trivial [] (fun _ => []) rfl (fun _ => rfl) (fun _ => rfl) rfl hl.1 rfl (lv_room (Nat.le_of_ble_eq_true rfl)) dX1_isUnder_10 ⟨Nat.zero_le _, Nat.zero_le _⟩ (fun _ H locs _ hW => ?_)
      refine lv_iload_n hx hb dX1_isUnder_13 rfl (lv_at hl 1 rfl) ?_
      refine nn_cne (tgt := 21) hx hb dX1_isUnder_14 (by decide) (by omega) (by omega) (fun c14 => ?_) (fun c14 => ?_)
      · refine lv_iconst (v := nI 0) hx hb dX1_isUnder_21 (by decide +kernel) ?_
        exact rt_z hQ hx hb hr hlocks hW dX1_isUnder_22 (by decide +kernel) () (by unfold underN; (repeat' split) <;> first | rfl | (exfalso; omega) | (congr 3; omega)) trivial rfl
      · refine lv_iconst (v := nI 1) hx hb dX1_isUnder_17 (by decide +kernel) ?_
        refine lv_goto (tgt := 22) hx hb dX1_isUnder_18 (by decide) ?_
        exact rt_z hQ hx hb hr hlocks hW dX1_isUnder_22 (by decide +kernel) () (by unfold underN; (repeat' split) <;> first | rfl | (exfalso; omega) | (congr 3; omega)) trivial rfl
abbrev rmX1_keeps : Room := { frames := 0, cells := 0, slots := 0, locals := 0 }
set_option maxRecDepth 100000 in
set_option maxHeartbeats 4000000 in
theorem M_X1_keeps (l : Launch) (D : va_G) (cI cJ : ClassId) (k sc t o n : Nat) (hk : k < 1000) (hs : sc < 1000) (ht : t < 1000000) (ho : o < 1000) (hn : n < 1000) : CE E0 l D vwCl [(cI, .int), (cJ, .long)] yX1_keeps wsX1_keeps rmX1_keeps [.int (nI k), .int (nI sc), .int (nI t), .int (nI o), .int (nI n)] [] (S := Unit) (some (.int (nI (keepK k sc t o n)))) (fun _ => True) (fun _ : Unit => []) 0 0 := by
  refine CE.ofW (cc := cX1_keeps) (maxL := 8) (ret := (some .int)) (lv := [(0, .int (nI k)), (1, .int (nI sc)), (2, .int (nI t)), (3, .int (nI o)), (4, .int (nI n))]) (by decide) rfl (Nat.le_of_ble_eq_true rfl) rfl ?_
  intro p e s m args below meth c ls A Q hQ hx hb hml hr hlocks hnm hown hts hK hA hE hW hl
  have hown : s.vm.findClass RX1 = some m.cls := hown
  refine lv_iload_n hx hb dX1_keeps_0 rfl (lv_at hl 1 rfl) ?_
  refine lv_iconst (v := nI 5) hx hb dX1_keeps_1 (by decide +kernel) ?_
  refine nn_div hx hb dX1_keeps_2 (by omega) (by decide) (by decide) ?_
  refine lv_iload_n hx hb dX1_keeps_3 rfl (lv_at hl 2 rfl) ?_
  refine nn_add hx hb dX1_keeps_4 ?_
  refine lv_istore (lv' := [(5, .int (nI ((sc / 5) + t))), (0, .int (nI k)), (1, .int (nI sc)), (2, .int (nI t)), (3, .int (nI o)), (4, .int (nI n))]) hx hb dX1_keeps_5 hl (by decide) rfl (fun ls hl => ?_)
  refine lv_iload_n hx hb dX1_keeps_7 rfl (lv_at hl 2 rfl) ?_
  refine lv_iconst (v := nI 2) hx hb dX1_keeps_8 (by decide +kernel) ?_
  refine nn_div hx hb dX1_keeps_9 (by omega) (by decide) (by decide) ?_
  refine lv_iload_n hx hb dX1_keeps_10 rfl (lv_at hl 3 rfl) ?_
  refine nn_add hx hb dX1_keeps_11 ?_
  refine lv_istore (lv' := [(6, .int (nI ((sc / 2) + t))), (5, .int (nI ((sc / 5) + t))), (0, .int (nI k)), (1, .int (nI sc)), (2, .int (nI t)), (3, .int (nI o)), (4, .int (nI n))]) hx hb dX1_keeps_12 hl (by decide) rfl (fun ls hl => ?_)
  refine lv_iload_n hx hb dX1_keeps_14 rfl (lv_at hl 5 rfl) ?_
  refine nn_zne (tgt := 22) hx hb dX1_keeps_15 (by decide) (by omega) (fun c15 => ?_) (fun c15 => ?_)
  · refine lv_iload hx hb dX1_keeps_22 (lv_at hl 1 rfl) ?_
    refine lv_istore (lv' := [(7, .int (nI ((sc / 5) + t))), (6, .int (nI ((sc / 2) + t))), (5, .int (nI ((sc / 5) + t))), (0, .int (nI k)), (1, .int (nI sc)), (2, .int (nI t)), (3, .int (nI o)), (4, .int (nI n))]) hx hb dX1_keeps_24 hl (by decide) rfl (fun ls hl => ?_)
    refine lv_iload_n hx hb dX1_keeps_26 rfl (lv_at hl 3 rfl) ?_
    rcases (show k = 1 ∨ k = 2 ∨ k = 3 ∨ k = 4 ∨ k = 5 ∨ (k < 1 ∨ 5 < k) by omega) with c27 | c27 | c27 | c27 | c27 | c27
    · refine nn_tsI (off := 33) (tgt := 60) hx hb dX1_keeps_27 (by omega) 0 (by omega) (by omega) rfl (by decide) ?_
      refine lv_iload hx hb dX1_keeps_60 (lv_at hl 1 rfl) ?_
      exact rt_i hQ hx hb hr hlocks hW dX1_keeps_62 () (by unfold keepK; (repeat' split) <;> first | rfl | (exfalso; omega) | (congr 3; omega)) trivial rfl
    · refine nn_tsI (off := 36) (tgt := 63) hx hb dX1_keeps_27 (by omega) 1 (by omega) (by omega) rfl (by decide) ?_
      refine lv_iload hx hb dX1_keeps_63 (lv_at hl 0 rfl) ?_
      exact rt_i hQ hx hb hr hlocks hW dX1_keeps_65 () (by unfold keepK; (repeat' split) <;> first | rfl | (exfalso; omega) | (congr 3; omega)) trivial rfl
    · refine nn_tsI (off := 39) (tgt := 66) hx hb dX1_keeps_27 (by omega) 2 (by omega) (by omega) rfl (by decide) ?_
      refine lv_iconst (v := nI 2) hx hb dX1_keeps_66 (by decide +kernel) ?_
      refine lv_iload_n hx hb dX1_keeps_67 rfl (lv_at hl 4 rfl) ?_
      refine nn_mul hx hb dX1_keeps_68 ?_
      exact rt_i hQ hx hb hr hlocks hW dX1_keeps_69 () (by unfold keepK; (repeat' split) <;> first | rfl | (exfalso; omega) | (congr 3; omega)) trivial rfl
    · refine nn_tsI (off := 43) (tgt := 70) hx hb dX1_keeps_27 (by omega) 3 (by omega) (by omega) rfl (by decide) ?_
      refine lv_iload hx hb dX1_keeps_70 (lv_at hl 7 rfl) ?_
      refine nn_zeq (tgt := 83) hx hb dX1_keeps_72 (by decide) (by omega) (fun c72 => ?_) (fun c72 => ?_)
      · refine lv_iload hx hb dX1_keeps_83 (lv_at hl 1 rfl) ?_
        exact rt_i hQ hx hb hr hlocks hW dX1_keeps_85 () (by unfold keepK; (repeat' split) <;> first | rfl | (exfalso; omega) | (congr 3; omega)) trivial rfl
      · refine lv_iload hx hb dX1_keeps_75 (lv_at hl 1 rfl) ?_
        refine lv_bipush (v := nI 10) hx hb dX1_keeps_77 (by decide +kernel) ?_
        refine nn_add hx hb dX1_keeps_79 ?_
        refine lv_goto (tgt := 85) hx hb dX1_keeps_80 (by decide) ?_
        exact rt_i hQ hx hb hr hlocks hW dX1_keeps_85 () (by unfold keepK; (repeat' split) <;> first | rfl | (exfalso; omega) | (congr 3; omega)) trivial rfl
    · refine nn_tsI (off := 59) (tgt := 86) hx hb dX1_keeps_27 (by omega) 4 (by omega) (by omega) rfl (by decide) ?_
      refine lv_iload hx hb dX1_keeps_86 (lv_at hl 0 rfl) ?_
      refine lv_iconst (v := nI 3) hx hb dX1_keeps_88 (by decide +kernel) ?_
      refine lv_iload_n hx hb dX1_keeps_89 rfl (lv_at hl 6 rfl) ?_
      refine nn_mul hx hb dX1_keeps_90 ?_
      refine nn_add hx hb dX1_keeps_91 ?_
      exact rt_i hQ hx hb hr hlocks hW dX1_keeps_92 () (by unfold keepK; (repeat' split) <;> first | rfl | (exfalso; omega) | (congr 3; omega)) trivial rfl
    · refine nn_tsO (tgt := 93) hx hb dX1_keeps_27 (by omega) (by omega) (by decide) ?_
      refine lv_iload hx hb dX1_keeps_93 (lv_at hl 2 rfl) ?_
      exact rt_i hQ hx hb hr hlocks hW dX1_keeps_95 () (by unfold keepK; (repeat' split) <;> first | rfl | (exfalso; omega) | (congr 3; omega)) trivial rfl
  · refine lv_iconst (v := nI 0) hx hb dX1_keeps_18 (by decide +kernel) ?_
    refine lv_goto (tgt := 24) hx hb dX1_keeps_19 (by decide) ?_
    refine lv_istore (lv' := [(7, .int (nI 0)), (6, .int (nI ((sc / 2) + t))), (5, .int (nI ((sc / 5) + t))), (0, .int (nI k)), (1, .int (nI sc)), (2, .int (nI t)), (3, .int (nI o)), (4, .int (nI n))]) hx hb dX1_keeps_24 hl (by decide) rfl (fun ls hl => ?_)
    refine lv_iload_n hx hb dX1_keeps_26 rfl (lv_at hl 3 rfl) ?_
    rcases (show k = 1 ∨ k = 2 ∨ k = 3 ∨ k = 4 ∨ k = 5 ∨ (k < 1 ∨ 5 < k) by omega) with c27_1 | c27_1 | c27_1 | c27_1 | c27_1 | c27_1
    · refine nn_tsI (off := 33) (tgt := 60) hx hb dX1_keeps_27 (by omega) 0 (by omega) (by omega) rfl (by decide) ?_
      refine lv_iload hx hb dX1_keeps_60 (lv_at hl 1 rfl) ?_
      exact rt_i hQ hx hb hr hlocks hW dX1_keeps_62 () (by unfold keepK; (repeat' split) <;> first | rfl | (exfalso; omega) | (congr 3; omega)) trivial rfl
    · refine nn_tsI (off := 36) (tgt := 63) hx hb dX1_keeps_27 (by omega) 1 (by omega) (by omega) rfl (by decide) ?_
      refine lv_iload hx hb dX1_keeps_63 (lv_at hl 0 rfl) ?_
      exact rt_i hQ hx hb hr hlocks hW dX1_keeps_65 () (by unfold keepK; (repeat' split) <;> first | rfl | (exfalso; omega) | (congr 3; omega)) trivial rfl
    · refine nn_tsI (off := 39) (tgt := 66) hx hb dX1_keeps_27 (by omega) 2 (by omega) (by omega) rfl (by decide) ?_
      refine lv_iconst (v := nI 2) hx hb dX1_keeps_66 (by decide +kernel) ?_
      refine lv_iload_n hx hb dX1_keeps_67 rfl (lv_at hl 4 rfl) ?_
      refine nn_mul hx hb dX1_keeps_68 ?_
      exact rt_i hQ hx hb hr hlocks hW dX1_keeps_69 () (by unfold keepK; (repeat' split) <;> first | rfl | (exfalso; omega) | (congr 3; omega)) trivial rfl
    · refine nn_tsI (off := 43) (tgt := 70) hx hb dX1_keeps_27 (by omega) 3 (by omega) (by omega) rfl (by decide) ?_
      refine lv_iload hx hb dX1_keeps_70 (lv_at hl 7 rfl) ?_
      refine nn_zeq (tgt := 83) hx hb dX1_keeps_72 (by decide) (by omega) (fun c72_1 => ?_) (fun c72_1 => ?_)
      · refine lv_iload hx hb dX1_keeps_83 (lv_at hl 1 rfl) ?_
        exact rt_i hQ hx hb hr hlocks hW dX1_keeps_85 () (by unfold keepK; (repeat' split) <;> first | rfl | (exfalso; omega) | (congr 3; omega)) trivial rfl
      · refine lv_iload hx hb dX1_keeps_75 (lv_at hl 1 rfl) ?_
        refine lv_bipush (v := nI 10) hx hb dX1_keeps_77 (by decide +kernel) ?_
        refine nn_add hx hb dX1_keeps_79 ?_
        refine lv_goto (tgt := 85) hx hb dX1_keeps_80 (by decide) ?_
        exact rt_i hQ hx hb hr hlocks hW dX1_keeps_85 () (by unfold keepK; (repeat' split) <;> first | rfl | (exfalso; omega) | (congr 3; omega)) trivial rfl
    · refine nn_tsI (off := 59) (tgt := 86) hx hb dX1_keeps_27 (by omega) 4 (by omega) (by omega) rfl (by decide) ?_
      refine lv_iload hx hb dX1_keeps_86 (lv_at hl 0 rfl) ?_
      refine lv_iconst (v := nI 3) hx hb dX1_keeps_88 (by decide +kernel) ?_
      refine lv_iload_n hx hb dX1_keeps_89 rfl (lv_at hl 6 rfl) ?_
      refine nn_mul hx hb dX1_keeps_90 ?_
      refine nn_add hx hb dX1_keeps_91 ?_
      exact rt_i hQ hx hb hr hlocks hW dX1_keeps_92 () (by unfold keepK; (repeat' split) <;> first | rfl | (exfalso; omega) | (congr 3; omega)) trivial rfl
    · refine nn_tsO (tgt := 93) hx hb dX1_keeps_27 (by omega) (by omega) (by decide) ?_
      refine lv_iload hx hb dX1_keeps_93 (lv_at hl 2 rfl) ?_
      exact rt_i hQ hx hb hr hlocks hW dX1_keeps_95 () (by unfold keepK; (repeat' split) <;> first | rfl | (exfalso; omega) | (congr 3; omega)) trivial rfl
abbrev rmX1_speaks : Room := { frames := 0, cells := 0, slots := 0, locals := 0 }
set_option maxRecDepth 100000 in
set_option maxHeartbeats 4000000 in
theorem M_X1_speaks (l : Launch) (D : va_G) (cI cJ : ClassId) (k t o n sp : Nat) (hk : k < 1000) (ht : t < 1000000) (ho : o < 1000) (hn : n < 1000) (hsp : sp < 1000) : CE E0 l D vwCl [(cI, .int), (cJ, .long)] yX1_speaks wsX1_speaks rmX1_speaks [.int (nI k), .int (nI t), .int (nI o), .int (nI n), .int (nI sp)] [] (S := Unit) (some (.int (nI (speakK k t o n sp)))) (fun _ => True) (fun _ : Unit => []) 0 0 := by
  refine CE.ofW (cc := cX1_speaks) (maxL := 7) (ret := (some .boolean)) (lv := [(0, .int (nI k)), (1, .int (nI t)), (2, .int (nI o)), (3, .int (nI n)), (4, .int (nI sp))]) (by decide) rfl (Nat.le_of_ble_eq_true rfl) rfl ?_
  intro p e s m args below meth c ls A Q hQ hx hb hml hr hlocks hnm hown hts hK hA hE hW hl
  have hown : s.vm.findClass RX1 = some m.cls := hown
  refine lv_iload_n hx hb dX1_speaks_0 rfl (lv_at hl 1 rfl) ?_
  refine lv_bipush (v := nI 15) hx hb dX1_speaks_1 (by decide +kernel) ?_
  refine nn_clt (tgt := 10) hx hb dX1_speaks_3 (by decide) (by omega) (by decide) (fun c3 => ?_) (fun c3 => ?_)
  · refine lv_iconst (v := nI 0) hx hb dX1_speaks_10 (by decide +kernel) ?_
    refine lv_istore (lv' := [(5, .int (nI 0)), (0, .int (nI k)), (1, .int (nI t)), (2, .int (nI o)), (3, .int (nI n)), (4, .int (nI sp))]) hx hb dX1_speaks_11 hl (by decide) rfl (fun ls hl => ?_)
    refine lv_iload_n hx hb dX1_speaks_13 rfl (lv_at hl 2 rfl) ?_
    refine lv_iconst (v := nI 3) hx hb dX1_speaks_14 (by decide +kernel) ?_
    refine nn_clt (tgt := 26) hx hb dX1_speaks_15 (by decide) (by omega) (by decide) (fun c15 => ?_) (fun c15 => ?_)
    · refine lv_iconst (v := nI 0) hx hb dX1_speaks_26 (by decide +kernel) ?_
      refine lv_istore (lv' := [(6, .int (nI 0)), (5, .int (nI 0)), (0, .int (nI k)), (1, .int (nI t)), (2, .int (nI o)), (3, .int (nI n)), (4, .int (nI sp))]) hx hb dX1_speaks_27 hl (by decide) rfl (fun ls hl => ?_)
      refine lv_iload_n hx hb dX1_speaks_29 rfl (lv_at hl 2 rfl) ?_
      rcases (show k = 1 ∨ k = 2 ∨ k = 3 ∨ k = 4 ∨ k = 5 ∨ (k < 1 ∨ 5 < k) by omega) with c30 | c30 | c30 | c30 | c30 | c30
      · refine nn_tsI (off := 34) (tgt := 64) hx hb dX1_speaks_30 (by omega) 0 (by omega) (by omega) rfl (by decide) ?_
        refine lv_iload hx hb dX1_speaks_64 (lv_at hl 1 rfl) ?_
        exact rt_z hQ hx hb hr hlocks hW dX1_speaks_66 (by decide +kernel) () (by unfold speakK; (repeat' split) <;> first | rfl | (exfalso; omega) | (congr 3; omega)) trivial rfl
      · refine nn_tsI (off := 37) (tgt := 67) hx hb dX1_speaks_30 (by omega) 1 (by omega) (by omega) rfl (by decide) ?_
        refine lv_iload hx hb dX1_speaks_67 (lv_at hl 0 rfl) ?_
        exact rt_z hQ hx hb hr hlocks hW dX1_speaks_69 (by decide +kernel) () (by unfold speakK; (repeat' split) <;> first | rfl | (exfalso; omega) | (congr 3; omega)) trivial rfl
      · refine nn_tsI (off := 40) (tgt := 70) hx hb dX1_speaks_30 (by omega) 2 (by omega) (by omega) rfl (by decide) ?_
        refine lv_iconst (v := nI 0) hx hb dX1_speaks_70 (by decide +kernel) ?_
        exact rt_z hQ hx hb hr hlocks hW dX1_speaks_71 (by decide +kernel) () (by unfold speakK; (repeat' split) <;> first | rfl | (exfalso; omega) | (congr 3; omega)) trivial rfl
      · refine nn_tsI (off := 42) (tgt := 72) hx hb dX1_speaks_30 (by omega) 3 (by omega) (by omega) rfl (by decide) ?_
        refine lv_iload hx hb dX1_speaks_72 (lv_at hl 1 rfl) ?_
        refine nn_zeq (tgt := 85) hx hb dX1_speaks_74 (by decide) (by decide) (fun c74 => ?_) (fun c74 => ?_)
        · refine lv_iconst (v := nI 0) hx hb dX1_speaks_85 (by decide +kernel) ?_
          exact rt_z hQ hx hb hr hlocks hW dX1_speaks_86 (by decide +kernel) () (by unfold speakK; (repeat' split) <;> first | rfl | (exfalso; omega) | (congr 3; omega)) trivial rfl
        · exfalso; omega
      · refine nn_tsI (off := 57) (tgt := 87) hx hb dX1_speaks_30 (by omega) 4 (by omega) (by omega) rfl (by decide) ?_
        refine lv_iload hx hb dX1_speaks_87 (lv_at hl 0 rfl) ?_
        refine nn_zne (tgt := 99) hx hb dX1_speaks_89 (by decide) (by decide) (fun c89 => ?_) (fun c89 => ?_)
        · exfalso; omega
        · refine lv_iload hx hb dX1_speaks_92 (lv_at hl 6 rfl) ?_
          refine lv_bipush (v := nI 100) hx hb dX1_speaks_94 (by decide +kernel) ?_
          refine nn_cle (tgt := 103) hx hb dX1_speaks_96 (by decide) (by omega) (by decide) (fun c96 => ?_) (fun c96 => ?_)
          · refine lv_iconst (v := nI 0) hx hb dX1_speaks_103 (by decide +kernel) ?_
            exact rt_z hQ hx hb hr hlocks hW dX1_speaks_104 (by decide +kernel) () (by unfold speakK; (repeat' split) <;> first | rfl | (exfalso; omega) | (congr 3; omega)) trivial rfl
          · refine lv_iconst (v := nI 1) hx hb dX1_speaks_99 (by decide +kernel) ?_
            refine lv_goto (tgt := 104) hx hb dX1_speaks_100 (by decide) ?_
            exact rt_z hQ hx hb hr hlocks hW dX1_speaks_104 (by decide +kernel) () (by unfold speakK; (repeat' split) <;> first | rfl | (exfalso; omega) | (congr 3; omega)) trivial rfl
      · refine nn_tsO (tgt := 105) hx hb dX1_speaks_30 (by omega) (by omega) (by decide) ?_
        refine lv_iload_n hx hb dX1_speaks_105 rfl (lv_at hl 3 rfl) ?_
        refine lv_bipush (v := nI 9) hx hb dX1_speaks_106 (by decide +kernel) ?_
        refine nn_clt (tgt := 115) hx hb dX1_speaks_108 (by decide) (by omega) (by decide) (fun c108 => ?_) (fun c108 => ?_)
        · refine lv_iconst (v := nI 0) hx hb dX1_speaks_115 (by decide +kernel) ?_
          exact rt_z hQ hx hb hr hlocks hW dX1_speaks_116 (by decide +kernel) () (by unfold speakK; (repeat' split) <;> first | rfl | (exfalso; omega) | (congr 3; omega)) trivial rfl
        · refine lv_iconst (v := nI 1) hx hb dX1_speaks_111 (by decide +kernel) ?_
          refine lv_goto (tgt := 116) hx hb dX1_speaks_112 (by decide) ?_
          exact rt_z hQ hx hb hr hlocks hW dX1_speaks_116 (by decide +kernel) () (by unfold speakK; (repeat' split) <;> first | rfl | (exfalso; omega) | (congr 3; omega)) trivial rfl
    · refine lv_iload_n hx hb dX1_speaks_18 rfl (lv_at hl 3 rfl) ?_
      refine nn_zle (tgt := 26) hx hb dX1_speaks_19 (by decide) (by omega) (fun c19 => ?_) (fun c19 => ?_)
      · refine lv_iconst (v := nI 0) hx hb dX1_speaks_26 (by decide +kernel) ?_
        refine lv_istore (lv' := [(6, .int (nI 0)), (5, .int (nI 0)), (0, .int (nI k)), (1, .int (nI t)), (2, .int (nI o)), (3, .int (nI n)), (4, .int (nI sp))]) hx hb dX1_speaks_27 hl (by decide) rfl (fun ls hl => ?_)
        refine lv_iload_n hx hb dX1_speaks_29 rfl (lv_at hl 2 rfl) ?_
        rcases (show k = 1 ∨ k = 2 ∨ k = 3 ∨ k = 4 ∨ k = 5 ∨ (k < 1 ∨ 5 < k) by omega) with c30_1 | c30_1 | c30_1 | c30_1 | c30_1 | c30_1
        · refine nn_tsI (off := 34) (tgt := 64) hx hb dX1_speaks_30 (by omega) 0 (by omega) (by omega) rfl (by decide) ?_
          refine lv_iload hx hb dX1_speaks_64 (lv_at hl 1 rfl) ?_
          exact rt_z hQ hx hb hr hlocks hW dX1_speaks_66 (by decide +kernel) () (by unfold speakK; (repeat' split) <;> first | rfl | (exfalso; omega) | (congr 3; omega)) trivial rfl
        · refine nn_tsI (off := 37) (tgt := 67) hx hb dX1_speaks_30 (by omega) 1 (by omega) (by omega) rfl (by decide) ?_
          refine lv_iload hx hb dX1_speaks_67 (lv_at hl 0 rfl) ?_
          exact rt_z hQ hx hb hr hlocks hW dX1_speaks_69 (by decide +kernel) () (by unfold speakK; (repeat' split) <;> first | rfl | (exfalso; omega) | (congr 3; omega)) trivial rfl
        · refine nn_tsI (off := 40) (tgt := 70) hx hb dX1_speaks_30 (by omega) 2 (by omega) (by omega) rfl (by decide) ?_
          refine lv_iconst (v := nI 0) hx hb dX1_speaks_70 (by decide +kernel) ?_
          exact rt_z hQ hx hb hr hlocks hW dX1_speaks_71 (by decide +kernel) () (by unfold speakK; (repeat' split) <;> first | rfl | (exfalso; omega) | (congr 3; omega)) trivial rfl
        · refine nn_tsI (off := 42) (tgt := 72) hx hb dX1_speaks_30 (by omega) 3 (by omega) (by omega) rfl (by decide) ?_
          refine lv_iload hx hb dX1_speaks_72 (lv_at hl 1 rfl) ?_
          refine nn_zeq (tgt := 85) hx hb dX1_speaks_74 (by decide) (by decide) (fun c74_1 => ?_) (fun c74_1 => ?_)
          · refine lv_iconst (v := nI 0) hx hb dX1_speaks_85 (by decide +kernel) ?_
            exact rt_z hQ hx hb hr hlocks hW dX1_speaks_86 (by decide +kernel) () (by unfold speakK; (repeat' split) <;> first | rfl | (exfalso; omega) | (congr 3; omega)) trivial rfl
          · exfalso; omega
        · refine nn_tsI (off := 57) (tgt := 87) hx hb dX1_speaks_30 (by omega) 4 (by omega) (by omega) rfl (by decide) ?_
          refine lv_iload hx hb dX1_speaks_87 (lv_at hl 0 rfl) ?_
          refine nn_zne (tgt := 99) hx hb dX1_speaks_89 (by decide) (by decide) (fun c89_1 => ?_) (fun c89_1 => ?_)
          · exfalso; omega
          · refine lv_iload hx hb dX1_speaks_92 (lv_at hl 6 rfl) ?_
            refine lv_bipush (v := nI 100) hx hb dX1_speaks_94 (by decide +kernel) ?_
            refine nn_cle (tgt := 103) hx hb dX1_speaks_96 (by decide) (by omega) (by decide) (fun c96_1 => ?_) (fun c96_1 => ?_)
            · refine lv_iconst (v := nI 0) hx hb dX1_speaks_103 (by decide +kernel) ?_
              exact rt_z hQ hx hb hr hlocks hW dX1_speaks_104 (by decide +kernel) () (by unfold speakK; (repeat' split) <;> first | rfl | (exfalso; omega) | (congr 3; omega)) trivial rfl
            · refine lv_iconst (v := nI 1) hx hb dX1_speaks_99 (by decide +kernel) ?_
              refine lv_goto (tgt := 104) hx hb dX1_speaks_100 (by decide) ?_
              exact rt_z hQ hx hb hr hlocks hW dX1_speaks_104 (by decide +kernel) () (by unfold speakK; (repeat' split) <;> first | rfl | (exfalso; omega) | (congr 3; omega)) trivial rfl
        · refine nn_tsO (tgt := 105) hx hb dX1_speaks_30 (by omega) (by omega) (by decide) ?_
          refine lv_iload_n hx hb dX1_speaks_105 rfl (lv_at hl 3 rfl) ?_
          refine lv_bipush (v := nI 9) hx hb dX1_speaks_106 (by decide +kernel) ?_
          refine nn_clt (tgt := 115) hx hb dX1_speaks_108 (by decide) (by omega) (by decide) (fun c108_1 => ?_) (fun c108_1 => ?_)
          · refine lv_iconst (v := nI 0) hx hb dX1_speaks_115 (by decide +kernel) ?_
            exact rt_z hQ hx hb hr hlocks hW dX1_speaks_116 (by decide +kernel) () (by unfold speakK; (repeat' split) <;> first | rfl | (exfalso; omega) | (congr 3; omega)) trivial rfl
          · refine lv_iconst (v := nI 1) hx hb dX1_speaks_111 (by decide +kernel) ?_
            refine lv_goto (tgt := 116) hx hb dX1_speaks_112 (by decide) ?_
            exact rt_z hQ hx hb hr hlocks hW dX1_speaks_116 (by decide +kernel) () (by unfold speakK; (repeat' split) <;> first | rfl | (exfalso; omega) | (congr 3; omega)) trivial rfl
      · refine lv_iconst (v := nI 1) hx hb dX1_speaks_22 (by decide +kernel) ?_
        refine lv_goto (tgt := 27) hx hb dX1_speaks_23 (by decide) ?_
        refine lv_istore (lv' := [(6, .int (nI 1)), (5, .int (nI 0)), (0, .int (nI k)), (1, .int (nI t)), (2, .int (nI o)), (3, .int (nI n)), (4, .int (nI sp))]) hx hb dX1_speaks_27 hl (by decide) rfl (fun ls hl => ?_)
        refine lv_iload_n hx hb dX1_speaks_29 rfl (lv_at hl 2 rfl) ?_
        rcases (show k = 1 ∨ k = 2 ∨ k = 3 ∨ k = 4 ∨ k = 5 ∨ (k < 1 ∨ 5 < k) by omega) with c30_2 | c30_2 | c30_2 | c30_2 | c30_2 | c30_2
        · refine nn_tsI (off := 34) (tgt := 64) hx hb dX1_speaks_30 (by omega) 0 (by omega) (by omega) rfl (by decide) ?_
          refine lv_iload hx hb dX1_speaks_64 (lv_at hl 1 rfl) ?_
          exact rt_z hQ hx hb hr hlocks hW dX1_speaks_66 (by decide +kernel) () (by unfold speakK; (repeat' split) <;> first | rfl | (exfalso; omega) | (congr 3; omega)) trivial rfl
        · refine nn_tsI (off := 37) (tgt := 67) hx hb dX1_speaks_30 (by omega) 1 (by omega) (by omega) rfl (by decide) ?_
          refine lv_iload hx hb dX1_speaks_67 (lv_at hl 0 rfl) ?_
          exact rt_z hQ hx hb hr hlocks hW dX1_speaks_69 (by decide +kernel) () (by unfold speakK; (repeat' split) <;> first | rfl | (exfalso; omega) | (congr 3; omega)) trivial rfl
        · refine nn_tsI (off := 40) (tgt := 70) hx hb dX1_speaks_30 (by omega) 2 (by omega) (by omega) rfl (by decide) ?_
          refine lv_iconst (v := nI 0) hx hb dX1_speaks_70 (by decide +kernel) ?_
          exact rt_z hQ hx hb hr hlocks hW dX1_speaks_71 (by decide +kernel) () (by unfold speakK; (repeat' split) <;> first | rfl | (exfalso; omega) | (congr 3; omega)) trivial rfl
        · refine nn_tsI (off := 42) (tgt := 72) hx hb dX1_speaks_30 (by omega) 3 (by omega) (by omega) rfl (by decide) ?_
          refine lv_iload hx hb dX1_speaks_72 (lv_at hl 1 rfl) ?_
          refine nn_zeq (tgt := 85) hx hb dX1_speaks_74 (by decide) (by decide) (fun c74_2 => ?_) (fun c74_2 => ?_)
          · refine lv_iconst (v := nI 0) hx hb dX1_speaks_85 (by decide +kernel) ?_
            exact rt_z hQ hx hb hr hlocks hW dX1_speaks_86 (by decide +kernel) () (by unfold speakK; (repeat' split) <;> first | rfl | (exfalso; omega) | (congr 3; omega)) trivial rfl
          · exfalso; omega
        · refine nn_tsI (off := 57) (tgt := 87) hx hb dX1_speaks_30 (by omega) 4 (by omega) (by omega) rfl (by decide) ?_
          refine lv_iload hx hb dX1_speaks_87 (lv_at hl 0 rfl) ?_
          refine nn_zne (tgt := 99) hx hb dX1_speaks_89 (by decide) (by decide) (fun c89_2 => ?_) (fun c89_2 => ?_)
          · refine lv_iconst (v := nI 1) hx hb dX1_speaks_99 (by decide +kernel) ?_
            refine lv_goto (tgt := 104) hx hb dX1_speaks_100 (by decide) ?_
            exact rt_z hQ hx hb hr hlocks hW dX1_speaks_104 (by decide +kernel) () (by unfold speakK; (repeat' split) <;> first | rfl | (exfalso; omega) | (congr 3; omega)) trivial rfl
          · exfalso; omega
        · refine nn_tsO (tgt := 105) hx hb dX1_speaks_30 (by omega) (by omega) (by decide) ?_
          refine lv_iload_n hx hb dX1_speaks_105 rfl (lv_at hl 3 rfl) ?_
          refine lv_bipush (v := nI 9) hx hb dX1_speaks_106 (by decide +kernel) ?_
          refine nn_clt (tgt := 115) hx hb dX1_speaks_108 (by decide) (by omega) (by decide) (fun c108_2 => ?_) (fun c108_2 => ?_)
          · refine lv_iconst (v := nI 0) hx hb dX1_speaks_115 (by decide +kernel) ?_
            exact rt_z hQ hx hb hr hlocks hW dX1_speaks_116 (by decide +kernel) () (by unfold speakK; (repeat' split) <;> first | rfl | (exfalso; omega) | (congr 3; omega)) trivial rfl
          · refine lv_iconst (v := nI 1) hx hb dX1_speaks_111 (by decide +kernel) ?_
            refine lv_goto (tgt := 116) hx hb dX1_speaks_112 (by decide) ?_
            exact rt_z hQ hx hb hr hlocks hW dX1_speaks_116 (by decide +kernel) () (by unfold speakK; (repeat' split) <;> first | rfl | (exfalso; omega) | (congr 3; omega)) trivial rfl
  · refine lv_iconst (v := nI 1) hx hb dX1_speaks_6 (by decide +kernel) ?_
    refine lv_goto (tgt := 11) hx hb dX1_speaks_7 (by decide) ?_
    refine lv_istore (lv' := [(5, .int (nI 1)), (0, .int (nI k)), (1, .int (nI t)), (2, .int (nI o)), (3, .int (nI n)), (4, .int (nI sp))]) hx hb dX1_speaks_11 hl (by decide) rfl (fun ls hl => ?_)
    refine lv_iload_n hx hb dX1_speaks_13 rfl (lv_at hl 2 rfl) ?_
    refine lv_iconst (v := nI 3) hx hb dX1_speaks_14 (by decide +kernel) ?_
    refine nn_clt (tgt := 26) hx hb dX1_speaks_15 (by decide) (by omega) (by decide) (fun c15_1 => ?_) (fun c15_1 => ?_)
    · refine lv_iconst (v := nI 0) hx hb dX1_speaks_26 (by decide +kernel) ?_
      refine lv_istore (lv' := [(6, .int (nI 0)), (5, .int (nI 1)), (0, .int (nI k)), (1, .int (nI t)), (2, .int (nI o)), (3, .int (nI n)), (4, .int (nI sp))]) hx hb dX1_speaks_27 hl (by decide) rfl (fun ls hl => ?_)
      refine lv_iload_n hx hb dX1_speaks_29 rfl (lv_at hl 2 rfl) ?_
      rcases (show k = 1 ∨ k = 2 ∨ k = 3 ∨ k = 4 ∨ k = 5 ∨ (k < 1 ∨ 5 < k) by omega) with c30_3 | c30_3 | c30_3 | c30_3 | c30_3 | c30_3
      · refine nn_tsI (off := 34) (tgt := 64) hx hb dX1_speaks_30 (by omega) 0 (by omega) (by omega) rfl (by decide) ?_
        refine lv_iload hx hb dX1_speaks_64 (lv_at hl 1 rfl) ?_
        exact rt_z hQ hx hb hr hlocks hW dX1_speaks_66 (by decide +kernel) () (by unfold speakK; (repeat' split) <;> first | rfl | (exfalso; omega) | (congr 3; omega)) trivial rfl
      · refine nn_tsI (off := 37) (tgt := 67) hx hb dX1_speaks_30 (by omega) 1 (by omega) (by omega) rfl (by decide) ?_
        refine lv_iload hx hb dX1_speaks_67 (lv_at hl 0 rfl) ?_
        exact rt_z hQ hx hb hr hlocks hW dX1_speaks_69 (by decide +kernel) () (by unfold speakK; (repeat' split) <;> first | rfl | (exfalso; omega) | (congr 3; omega)) trivial rfl
      · refine nn_tsI (off := 40) (tgt := 70) hx hb dX1_speaks_30 (by omega) 2 (by omega) (by omega) rfl (by decide) ?_
        refine lv_iconst (v := nI 0) hx hb dX1_speaks_70 (by decide +kernel) ?_
        exact rt_z hQ hx hb hr hlocks hW dX1_speaks_71 (by decide +kernel) () (by unfold speakK; (repeat' split) <;> first | rfl | (exfalso; omega) | (congr 3; omega)) trivial rfl
      · refine nn_tsI (off := 42) (tgt := 72) hx hb dX1_speaks_30 (by omega) 3 (by omega) (by omega) rfl (by decide) ?_
        refine lv_iload hx hb dX1_speaks_72 (lv_at hl 1 rfl) ?_
        refine nn_zeq (tgt := 85) hx hb dX1_speaks_74 (by decide) (by decide) (fun c74_3 => ?_) (fun c74_3 => ?_)
        · exfalso; omega
        · refine lv_iload_n hx hb dX1_speaks_77 rfl (lv_at hl 5 rfl) ?_
          refine nn_zne (tgt := 85) hx hb dX1_speaks_78 (by decide) (by omega) (fun c78 => ?_) (fun c78 => ?_)
          · refine lv_iconst (v := nI 0) hx hb dX1_speaks_85 (by decide +kernel) ?_
            exact rt_z hQ hx hb hr hlocks hW dX1_speaks_86 (by decide +kernel) () (by unfold speakK; (repeat' split) <;> first | rfl | (exfalso; omega) | (congr 3; omega)) trivial rfl
          · refine lv_iconst (v := nI 1) hx hb dX1_speaks_81 (by decide +kernel) ?_
            refine lv_goto (tgt := 86) hx hb dX1_speaks_82 (by decide) ?_
            exact rt_z hQ hx hb hr hlocks hW dX1_speaks_86 (by decide +kernel) () (by unfold speakK; (repeat' split) <;> first | rfl | (exfalso; omega) | (congr 3; omega)) trivial rfl
      · refine nn_tsI (off := 57) (tgt := 87) hx hb dX1_speaks_30 (by omega) 4 (by omega) (by omega) rfl (by decide) ?_
        refine lv_iload hx hb dX1_speaks_87 (lv_at hl 0 rfl) ?_
        refine nn_zne (tgt := 99) hx hb dX1_speaks_89 (by decide) (by decide) (fun c89_3 => ?_) (fun c89_3 => ?_)
        · exfalso; omega
        · refine lv_iload hx hb dX1_speaks_92 (lv_at hl 6 rfl) ?_
          refine lv_bipush (v := nI 100) hx hb dX1_speaks_94 (by decide +kernel) ?_
          refine nn_cle (tgt := 103) hx hb dX1_speaks_96 (by decide) (by omega) (by decide) (fun c96_2 => ?_) (fun c96_2 => ?_)
          · refine lv_iconst (v := nI 0) hx hb dX1_speaks_103 (by decide +kernel) ?_
            exact rt_z hQ hx hb hr hlocks hW dX1_speaks_104 (by decide +kernel) () (by unfold speakK; (repeat' split) <;> first | rfl | (exfalso; omega) | (congr 3; omega)) trivial rfl
          · refine lv_iconst (v := nI 1) hx hb dX1_speaks_99 (by decide +kernel) ?_
            refine lv_goto (tgt := 104) hx hb dX1_speaks_100 (by decide) ?_
            exact rt_z hQ hx hb hr hlocks hW dX1_speaks_104 (by decide +kernel) () (by unfold speakK; (repeat' split) <;> first | rfl | (exfalso; omega) | (congr 3; omega)) trivial rfl
      · refine nn_tsO (tgt := 105) hx hb dX1_speaks_30 (by omega) (by omega) (by decide) ?_
        refine lv_iload_n hx hb dX1_speaks_105 rfl (lv_at hl 3 rfl) ?_
        refine lv_bipush (v := nI 9) hx hb dX1_speaks_106 (by decide +kernel) ?_
        refine nn_clt (tgt := 115) hx hb dX1_speaks_108 (by decide) (by omega) (by decide) (fun c108_3 => ?_) (fun c108_3 => ?_)
        · refine lv_iconst (v := nI 0) hx hb dX1_speaks_115 (by decide +kernel) ?_
          exact rt_z hQ hx hb hr hlocks hW dX1_speaks_116 (by decide +kernel) () (by unfold speakK; (repeat' split) <;> first | rfl | (exfalso; omega) | (congr 3; omega)) trivial rfl
        · refine lv_iconst (v := nI 1) hx hb dX1_speaks_111 (by decide +kernel) ?_
          refine lv_goto (tgt := 116) hx hb dX1_speaks_112 (by decide) ?_
          exact rt_z hQ hx hb hr hlocks hW dX1_speaks_116 (by decide +kernel) () (by unfold speakK; (repeat' split) <;> first | rfl | (exfalso; omega) | (congr 3; omega)) trivial rfl
    · refine lv_iload_n hx hb dX1_speaks_18 rfl (lv_at hl 3 rfl) ?_
      refine nn_zle (tgt := 26) hx hb dX1_speaks_19 (by decide) (by omega) (fun c19_1 => ?_) (fun c19_1 => ?_)
      · refine lv_iconst (v := nI 0) hx hb dX1_speaks_26 (by decide +kernel) ?_
        refine lv_istore (lv' := [(6, .int (nI 0)), (5, .int (nI 1)), (0, .int (nI k)), (1, .int (nI t)), (2, .int (nI o)), (3, .int (nI n)), (4, .int (nI sp))]) hx hb dX1_speaks_27 hl (by decide) rfl (fun ls hl => ?_)
        refine lv_iload_n hx hb dX1_speaks_29 rfl (lv_at hl 2 rfl) ?_
        rcases (show k = 1 ∨ k = 2 ∨ k = 3 ∨ k = 4 ∨ k = 5 ∨ (k < 1 ∨ 5 < k) by omega) with c30_4 | c30_4 | c30_4 | c30_4 | c30_4 | c30_4
        · refine nn_tsI (off := 34) (tgt := 64) hx hb dX1_speaks_30 (by omega) 0 (by omega) (by omega) rfl (by decide) ?_
          refine lv_iload hx hb dX1_speaks_64 (lv_at hl 1 rfl) ?_
          exact rt_z hQ hx hb hr hlocks hW dX1_speaks_66 (by decide +kernel) () (by unfold speakK; (repeat' split) <;> first | rfl | (exfalso; omega) | (congr 3; omega)) trivial rfl
        · refine nn_tsI (off := 37) (tgt := 67) hx hb dX1_speaks_30 (by omega) 1 (by omega) (by omega) rfl (by decide) ?_
          refine lv_iload hx hb dX1_speaks_67 (lv_at hl 0 rfl) ?_
          exact rt_z hQ hx hb hr hlocks hW dX1_speaks_69 (by decide +kernel) () (by unfold speakK; (repeat' split) <;> first | rfl | (exfalso; omega) | (congr 3; omega)) trivial rfl
        · refine nn_tsI (off := 40) (tgt := 70) hx hb dX1_speaks_30 (by omega) 2 (by omega) (by omega) rfl (by decide) ?_
          refine lv_iconst (v := nI 0) hx hb dX1_speaks_70 (by decide +kernel) ?_
          exact rt_z hQ hx hb hr hlocks hW dX1_speaks_71 (by decide +kernel) () (by unfold speakK; (repeat' split) <;> first | rfl | (exfalso; omega) | (congr 3; omega)) trivial rfl
        · refine nn_tsI (off := 42) (tgt := 72) hx hb dX1_speaks_30 (by omega) 3 (by omega) (by omega) rfl (by decide) ?_
          refine lv_iload hx hb dX1_speaks_72 (lv_at hl 1 rfl) ?_
          refine nn_zeq (tgt := 85) hx hb dX1_speaks_74 (by decide) (by decide) (fun c74_4 => ?_) (fun c74_4 => ?_)
          · exfalso; omega
          · refine lv_iload_n hx hb dX1_speaks_77 rfl (lv_at hl 5 rfl) ?_
            refine nn_zne (tgt := 85) hx hb dX1_speaks_78 (by decide) (by omega) (fun c78_1 => ?_) (fun c78_1 => ?_)
            · refine lv_iconst (v := nI 0) hx hb dX1_speaks_85 (by decide +kernel) ?_
              exact rt_z hQ hx hb hr hlocks hW dX1_speaks_86 (by decide +kernel) () (by unfold speakK; (repeat' split) <;> first | rfl | (exfalso; omega) | (congr 3; omega)) trivial rfl
            · refine lv_iconst (v := nI 1) hx hb dX1_speaks_81 (by decide +kernel) ?_
              refine lv_goto (tgt := 86) hx hb dX1_speaks_82 (by decide) ?_
              exact rt_z hQ hx hb hr hlocks hW dX1_speaks_86 (by decide +kernel) () (by unfold speakK; (repeat' split) <;> first | rfl | (exfalso; omega) | (congr 3; omega)) trivial rfl
        · refine nn_tsI (off := 57) (tgt := 87) hx hb dX1_speaks_30 (by omega) 4 (by omega) (by omega) rfl (by decide) ?_
          refine lv_iload hx hb dX1_speaks_87 (lv_at hl 0 rfl) ?_
          refine nn_zne (tgt := 99) hx hb dX1_speaks_89 (by decide) (by decide) (fun c89_4 => ?_) (fun c89_4 => ?_)
          · exfalso; omega
          · refine lv_iload hx hb dX1_speaks_92 (lv_at hl 6 rfl) ?_
            refine lv_bipush (v := nI 100) hx hb dX1_speaks_94 (by decide +kernel) ?_
            refine nn_cle (tgt := 103) hx hb dX1_speaks_96 (by decide) (by omega) (by decide) (fun c96_3 => ?_) (fun c96_3 => ?_)
            · refine lv_iconst (v := nI 0) hx hb dX1_speaks_103 (by decide +kernel) ?_
              exact rt_z hQ hx hb hr hlocks hW dX1_speaks_104 (by decide +kernel) () (by unfold speakK; (repeat' split) <;> first | rfl | (exfalso; omega) | (congr 3; omega)) trivial rfl
            · refine lv_iconst (v := nI 1) hx hb dX1_speaks_99 (by decide +kernel) ?_
              refine lv_goto (tgt := 104) hx hb dX1_speaks_100 (by decide) ?_
              exact rt_z hQ hx hb hr hlocks hW dX1_speaks_104 (by decide +kernel) () (by unfold speakK; (repeat' split) <;> first | rfl | (exfalso; omega) | (congr 3; omega)) trivial rfl
        · refine nn_tsO (tgt := 105) hx hb dX1_speaks_30 (by omega) (by omega) (by decide) ?_
          refine lv_iload_n hx hb dX1_speaks_105 rfl (lv_at hl 3 rfl) ?_
          refine lv_bipush (v := nI 9) hx hb dX1_speaks_106 (by decide +kernel) ?_
          refine nn_clt (tgt := 115) hx hb dX1_speaks_108 (by decide) (by omega) (by decide) (fun c108_4 => ?_) (fun c108_4 => ?_)
          · refine lv_iconst (v := nI 0) hx hb dX1_speaks_115 (by decide +kernel) ?_
            exact rt_z hQ hx hb hr hlocks hW dX1_speaks_116 (by decide +kernel) () (by unfold speakK; (repeat' split) <;> first | rfl | (exfalso; omega) | (congr 3; omega)) trivial rfl
          · refine lv_iconst (v := nI 1) hx hb dX1_speaks_111 (by decide +kernel) ?_
            refine lv_goto (tgt := 116) hx hb dX1_speaks_112 (by decide) ?_
            exact rt_z hQ hx hb hr hlocks hW dX1_speaks_116 (by decide +kernel) () (by unfold speakK; (repeat' split) <;> first | rfl | (exfalso; omega) | (congr 3; omega)) trivial rfl
      · refine lv_iconst (v := nI 1) hx hb dX1_speaks_22 (by decide +kernel) ?_
        refine lv_goto (tgt := 27) hx hb dX1_speaks_23 (by decide) ?_
        refine lv_istore (lv' := [(6, .int (nI 1)), (5, .int (nI 1)), (0, .int (nI k)), (1, .int (nI t)), (2, .int (nI o)), (3, .int (nI n)), (4, .int (nI sp))]) hx hb dX1_speaks_27 hl (by decide) rfl (fun ls hl => ?_)
        refine lv_iload_n hx hb dX1_speaks_29 rfl (lv_at hl 2 rfl) ?_
        rcases (show k = 1 ∨ k = 2 ∨ k = 3 ∨ k = 4 ∨ k = 5 ∨ (k < 1 ∨ 5 < k) by omega) with c30_5 | c30_5 | c30_5 | c30_5 | c30_5 | c30_5
        · refine nn_tsI (off := 34) (tgt := 64) hx hb dX1_speaks_30 (by omega) 0 (by omega) (by omega) rfl (by decide) ?_
          refine lv_iload hx hb dX1_speaks_64 (lv_at hl 1 rfl) ?_
          exact rt_z hQ hx hb hr hlocks hW dX1_speaks_66 (by decide +kernel) () (by unfold speakK; (repeat' split) <;> first | rfl | (exfalso; omega) | (congr 3; omega)) trivial rfl
        · refine nn_tsI (off := 37) (tgt := 67) hx hb dX1_speaks_30 (by omega) 1 (by omega) (by omega) rfl (by decide) ?_
          refine lv_iload hx hb dX1_speaks_67 (lv_at hl 0 rfl) ?_
          exact rt_z hQ hx hb hr hlocks hW dX1_speaks_69 (by decide +kernel) () (by unfold speakK; (repeat' split) <;> first | rfl | (exfalso; omega) | (congr 3; omega)) trivial rfl
        · refine nn_tsI (off := 40) (tgt := 70) hx hb dX1_speaks_30 (by omega) 2 (by omega) (by omega) rfl (by decide) ?_
          refine lv_iconst (v := nI 0) hx hb dX1_speaks_70 (by decide +kernel) ?_
          exact rt_z hQ hx hb hr hlocks hW dX1_speaks_71 (by decide +kernel) () (by unfold speakK; (repeat' split) <;> first | rfl | (exfalso; omega) | (congr 3; omega)) trivial rfl
        · refine nn_tsI (off := 42) (tgt := 72) hx hb dX1_speaks_30 (by omega) 3 (by omega) (by omega) rfl (by decide) ?_
          refine lv_iload hx hb dX1_speaks_72 (lv_at hl 1 rfl) ?_
          refine nn_zeq (tgt := 85) hx hb dX1_speaks_74 (by decide) (by decide) (fun c74_5 => ?_) (fun c74_5 => ?_)
          · exfalso; omega
          · refine lv_iload_n hx hb dX1_speaks_77 rfl (lv_at hl 5 rfl) ?_
            refine nn_zne (tgt := 85) hx hb dX1_speaks_78 (by decide) (by omega) (fun c78_2 => ?_) (fun c78_2 => ?_)
            · refine lv_iconst (v := nI 0) hx hb dX1_speaks_85 (by decide +kernel) ?_
              exact rt_z hQ hx hb hr hlocks hW dX1_speaks_86 (by decide +kernel) () (by unfold speakK; (repeat' split) <;> first | rfl | (exfalso; omega) | (congr 3; omega)) trivial rfl
            · refine lv_iconst (v := nI 1) hx hb dX1_speaks_81 (by decide +kernel) ?_
              refine lv_goto (tgt := 86) hx hb dX1_speaks_82 (by decide) ?_
              exact rt_z hQ hx hb hr hlocks hW dX1_speaks_86 (by decide +kernel) () (by unfold speakK; (repeat' split) <;> first | rfl | (exfalso; omega) | (congr 3; omega)) trivial rfl
        · refine nn_tsI (off := 57) (tgt := 87) hx hb dX1_speaks_30 (by omega) 4 (by omega) (by omega) rfl (by decide) ?_
          refine lv_iload hx hb dX1_speaks_87 (lv_at hl 0 rfl) ?_
          refine nn_zne (tgt := 99) hx hb dX1_speaks_89 (by decide) (by decide) (fun c89_5 => ?_) (fun c89_5 => ?_)
          · refine lv_iconst (v := nI 1) hx hb dX1_speaks_99 (by decide +kernel) ?_
            refine lv_goto (tgt := 104) hx hb dX1_speaks_100 (by decide) ?_
            exact rt_z hQ hx hb hr hlocks hW dX1_speaks_104 (by decide +kernel) () (by unfold speakK; (repeat' split) <;> first | rfl | (exfalso; omega) | (congr 3; omega)) trivial rfl
          · exfalso; omega
        · refine nn_tsO (tgt := 105) hx hb dX1_speaks_30 (by omega) (by omega) (by decide) ?_
          refine lv_iload_n hx hb dX1_speaks_105 rfl (lv_at hl 3 rfl) ?_
          refine lv_bipush (v := nI 9) hx hb dX1_speaks_106 (by decide +kernel) ?_
          refine nn_clt (tgt := 115) hx hb dX1_speaks_108 (by decide) (by omega) (by decide) (fun c108_5 => ?_) (fun c108_5 => ?_)
          · refine lv_iconst (v := nI 0) hx hb dX1_speaks_115 (by decide +kernel) ?_
            exact rt_z hQ hx hb hr hlocks hW dX1_speaks_116 (by decide +kernel) () (by unfold speakK; (repeat' split) <;> first | rfl | (exfalso; omega) | (congr 3; omega)) trivial rfl
          · refine lv_iconst (v := nI 1) hx hb dX1_speaks_111 (by decide +kernel) ?_
            refine lv_goto (tgt := 116) hx hb dX1_speaks_112 (by decide) ?_
            exact rt_z hQ hx hb hr hlocks hW dX1_speaks_116 (by decide +kernel) () (by unfold speakK; (repeat' split) <;> first | rfl | (exfalso; omega) | (congr 3; omega)) trivial rfl
abbrev rmX1_tells : Room := { frames := 0, cells := 0, slots := 0, locals := 0 }
set_option maxRecDepth 100000 in
set_option maxHeartbeats 4000000 in
theorem M_X1_tells (l : Launch) (D : va_G) (cI cJ : ClassId) (k : Nat) (hk : k < 1000) : CE E0 l D vwCl [(cI, .int), (cJ, .long)] yX1_tells wsX1_tells rmX1_tells [.int (nI k)] [] (S := Unit) (some (.int (nI (tellK k)))) (fun _ => True) (fun _ : Unit => []) 0 0 := by
  refine CE.ofW (cc := cX1_tells) (maxL := 4) (ret := (some .int)) (lv := [(0, .int (nI k))]) (by decide) rfl (Nat.le_of_ble_eq_true rfl) rfl ?_
  intro p e s m args below meth c ls A Q hQ hx hb hml hr hlocks hnm hown hts hK hA hE hW hl
  have hown : s.vm.findClass RX1 = some m.cls := hown
  refine lv_iconst (v := nI 3) hx hb dX1_tells_0 (by decide +kernel) ?_
  refine lv_istore_n (lv' := [(1, .int (nI 3)), (0, .int (nI k))]) hx hb dX1_tells_1 rfl hl (by decide) rfl (fun ls hl => ?_)
  refine lv_iload_n hx hb dX1_tells_2 rfl (lv_at hl 0 rfl) ?_
  refine lv_iconst (v := nI 1) hx hb dX1_tells_3 (by decide +kernel) ?_
  refine nn_sub hx hb dX1_tells_4 (by omega) ?_
  refine lv_istore_n (lv' := [(2, .int (nI (3 - 1))), (1, .int (nI 3)), (0, .int (nI k))]) hx hb dX1_tells_5 rfl hl (by decide) rfl (fun ls hl => ?_)
  refine lv_iconst (v := nI 2) hx hb dX1_tells_6 (by decide +kernel) ?_
  refine lv_iload_n hx hb dX1_tells_7 rfl (lv_at hl 1 rfl) ?_
  refine nn_mul hx hb dX1_tells_8 ?_
  refine lv_istore_n (lv' := [(3, .int (nI (2 * 3))), (2, .int (nI (3 - 1))), (1, .int (nI 3)), (0, .int (nI k))]) hx hb dX1_tells_9 rfl hl (by decide) rfl (fun ls hl => ?_)
  refine lv_iload_n hx hb dX1_tells_10 rfl (lv_at hl 3 rfl) ?_
  rcases (show k = 1 ∨ k = 2 ∨ k = 3 ∨ k = 4 ∨ k = 5 ∨ (k < 1 ∨ 5 < k) by omega) with c11 | c11 | c11 | c11 | c11 | c11
  · refine nn_tsI (off := 33) (tgt := 44) hx hb dX1_tells_11 (by omega) 0 (by omega) (by omega) rfl (by decide) ?_
    refine lv_iload_n hx hb dX1_tells_44 rfl (lv_at hl 1 rfl) ?_
    exact rt_i hQ hx hb hr hlocks hW dX1_tells_45 () (by unfold tellK; (repeat' split) <;> first | rfl | (exfalso; omega) | (congr 3; omega)) trivial rfl
  · refine nn_tsI (off := 35) (tgt := 46) hx hb dX1_tells_11 (by omega) 1 (by omega) (by omega) rfl (by decide) ?_
    refine lv_iload_n hx hb dX1_tells_46 rfl (lv_at hl 0 rfl) ?_
    exact rt_i hQ hx hb hr hlocks hW dX1_tells_47 () (by unfold tellK; (repeat' split) <;> first | rfl | (exfalso; omega) | (congr 3; omega)) trivial rfl
  · refine nn_tsI (off := 37) (tgt := 48) hx hb dX1_tells_11 (by omega) 2 (by omega) (by omega) rfl (by decide) ?_
    refine lv_iconst (v := nI 0) hx hb dX1_tells_48 (by decide +kernel) ?_
    exact rt_i hQ hx hb hr hlocks hW dX1_tells_49 () (by unfold tellK; (repeat' split) <;> first | rfl | (exfalso; omega) | (congr 3; omega)) trivial rfl
  · refine nn_tsI (off := 39) (tgt := 50) hx hb dX1_tells_11 (by omega) 3 (by omega) (by omega) rfl (by decide) ?_
    refine lv_iload_n hx hb dX1_tells_50 rfl (lv_at hl 1 rfl) ?_
    exact rt_i hQ hx hb hr hlocks hW dX1_tells_51 () (by unfold tellK; (repeat' split) <;> first | rfl | (exfalso; omega) | (congr 3; omega)) trivial rfl
  · refine nn_tsI (off := 41) (tgt := 52) hx hb dX1_tells_11 (by omega) 4 (by omega) (by omega) rfl (by decide) ?_
    refine lv_iload_n hx hb dX1_tells_52 rfl (lv_at hl 0 rfl) ?_
    refine lv_iconst (v := nI 1) hx hb dX1_tells_53 (by decide +kernel) ?_
    refine nn_add hx hb dX1_tells_54 ?_
    exact rt_i hQ hx hb hr hlocks hW dX1_tells_55 () (by unfold tellK; (repeat' split) <;> first | rfl | (exfalso; omega) | (congr 3; omega)) trivial rfl
  · refine nn_tsO (tgt := 56) hx hb dX1_tells_11 (by omega) (by omega) (by decide) ?_
    refine lv_iload_n hx hb dX1_tells_56 rfl (lv_at hl 2 rfl) ?_
    exact rt_i hQ hx hb hr hlocks hW dX1_tells_57 () (by unfold tellK; (repeat' split) <;> first | rfl | (exfalso; omega) | (congr 3; omega)) trivial rfl
abbrev rmX0_keepsNow : Room := { frames := 1, cells := 0, slots := 0, locals := 27 }
set_option maxRecDepth 100000 in
set_option maxHeartbeats 4000000 in
theorem M_X0_keepsNow (l : Launch) (D : va_G) (cI cJ : ClassId) (g G : Nat → Nat) (b : Nat) (hb30 : b < 2 ^ 30) (hG : OkG b G) (a O nn : Nat) (ha : a < 8) (hO : G (8 * a + 2) ≤ O) (hO8 : O ≤ 8) (hnn : nn ≤ 1) : CE E0 l D vwCl [(cI, .int), (cJ, .long)] yX0_keepsNow wsX0_keepsNow rmX0_keepsNow [.ref (g 0), .int (nI a), .int (nI O), .int (nI nn)] [gW cI g G] (S := Unit) (some (.int (nI (keepK (G (8 * a + 1)) (G (8 * a + 3)) (G (8 * a + 4)) (O - G (8 * a + 2)) nn)))) (fun _ => True) (fun _ : Unit => [gW cI g G]) 0 0 := by
  refine CE.ofW (cc := cX0_keepsNow) (maxL := 4) (ret := (some .int)) (lv := [(0, .ref (g 0)), (1, .int (nI a)), (2, .int (nI O)), (3, .int (nI nn))]) (by decide) rfl (Nat.le_of_ble_eq_true rfl) rfl ?_
  intro p e s m args below meth c ls A Q hQ hx hb hml hr hlocks hnm hown hts hK hA hE hW hl
  have hown : s.vm.findClass RX0 = some m.cls := hown
  obtain ⟨hg0, hg8, hg16, hg16b, hg24, hg32, hg40, hg48⟩ := hG.s
  have hma := hG.m a ha
  refine lv_aload_n hx hb dX0_keepsNow_0 rfl (lv_at hl 0 rfl) ?_
  refine sg_get (ci := 0) (C := RX0) (T := TX0) (N := 14) (v := .ref (g 1)) hx hb hts (fun _ h => List.mem_cons_of_mem _ (List.mem_append_right _ h)) hown hK hW 0 0 rfl rfl rfl 6 (by decide) (hts _ (List.mem_of_getElem? (i := 1) rfl)) rfl dX0_keepsNow_1 ?_
  refine lv_iload_n hx hb dX0_keepsNow_4 rfl (lv_at hl 1 rfl) ?_
  refine sg_ild (v := nI (G (8 * a + 1))) hx hb hK hW 0 1 0 rfl rfl rfl (by omega) (by decide) rfl dX0_keepsNow_5 ?_
  refine lv_aload_n hx hb dX0_keepsNow_6 rfl (lv_at hl 0 rfl) ?_
  refine sg_get (ci := 0) (C := RX0) (T := TX0) (N := 14) (v := .ref (g 3)) hx hb hts (fun _ h => List.mem_cons_of_mem _ (List.mem_append_right _ h)) hown hK hW 0 0 rfl rfl rfl 8 (by decide) (hts _ (List.mem_of_getElem? (i := 2) rfl)) rfl dX0_keepsNow_7 ?_
  refine lv_iload_n hx hb dX0_keepsNow_10 rfl (lv_at hl 1 rfl) ?_
  refine sg_ild (v := nI (G (8 * a + 3))) hx hb hK hW 0 3 0 rfl rfl rfl (by omega) (by decide) rfl dX0_keepsNow_11 ?_
  refine lv_aload_n hx hb dX0_keepsNow_12 rfl (lv_at hl 0 rfl) ?_
  refine sg_get (ci := 0) (C := RX0) (T := TX0) (N := 14) (v := .ref (g 4)) hx hb hts (fun _ h => List.mem_cons_of_mem _ (List.mem_append_right _ h)) hown hK hW 0 0 rfl rfl rfl 9 (by decide) (hts _ (List.mem_of_getElem? (i := 3) rfl)) rfl dX0_keepsNow_13 ?_
  refine lv_iload_n hx hb dX0_keepsNow_16 rfl (lv_at hl 1 rfl) ?_
  refine sg_ild (v := nI (G (8 * a + 4))) hx hb hK hW 0 4 0 rfl rfl rfl (by omega) (by decide) rfl dX0_keepsNow_17 ?_
  refine lv_iload_n hx hb dX0_keepsNow_18 rfl (lv_at hl 2 rfl) ?_
  refine lv_aload_n hx hb dX0_keepsNow_19 rfl (lv_at hl 0 rfl) ?_
  refine sg_get (ci := 0) (C := RX0) (T := TX0) (N := 14) (v := .ref (g 2)) hx hb hts (fun _ h => List.mem_cons_of_mem _ (List.mem_append_right _ h)) hown hK hW 0 0 rfl rfl rfl 7 (by decide) (hts _ (List.mem_of_getElem? (i := 4) rfl)) rfl dX0_keepsNow_20 ?_
  refine lv_iload_n hx hb dX0_keepsNow_23 rfl (lv_at hl 1 rfl) ?_
  refine sg_ild (v := nI (G (8 * a + 2))) hx hb hK hW 0 2 0 rfl rfl rfl (by omega) (by decide) rfl dX0_keepsNow_24 ?_
  refine nn_sub hx hb dX0_keepsNow_25 (by omega) ?_
  refine lv_iload_n hx hb dX0_keepsNow_26 rfl (lv_at hl 3 rfl) ?_
  refine cl_Si (As := [.int (nI (G (8 * a + 1))), .int (nI (G (8 * a + 3))), .int (nI (G (8 * a + 4))), .int (nI (O - (G (8 * a + 2)))), .int (nI nn)]) (rest := []) ⟨hx, hb, hml, hown, hts⟩ (M_X1_keeps l D cI cJ (G (8 * a + 1)) (G (8 * a + 3)) (G (8 * a + 4)) (O - (G (8 * a + 2))) nn (by omega) (by omega) (by omega) (by omega) (by omega)) (va_cwS 5 hts gX0_keepsNow_X1_keeps rfl rfl rfl qX1_keeps ⟨Nat.le_of_ble_eq_true rfl, Nat.le_of_ble_eq_true rfl⟩) E0_good hK hA hW trivial [] (fun _ => [gW cI g G]) rfl (fun _ => rfl) (fun _ => rfl) rfl hl.1 rfl (lv_room (Nat.le_of_ble_eq_true rfl)) dX0_keepsNow_27 ⟨Nat.zero_le _, Nat.zero_le _⟩ (fun _ H locs _ hW => ?_)
  exact rt_i hQ hx hb hr hlocks hW dX0_keepsNow_30 () rfl trivial rfl
abbrev rmX0_speaksNow : Room := { frames := 1, cells := 0, slots := 0, locals := 26 }
set_option maxRecDepth 100000 in
set_option maxHeartbeats 4000000 in
theorem M_X0_speaksNow (l : Launch) (D : va_G) (cI cJ : ClassId) (g G : Nat → Nat) (b : Nat) (hb30 : b < 2 ^ 30) (hG : OkG b G) (a O nn : Nat) (ha : a < 8) (hO : G (8 * a + 2) ≤ O) (hO8 : O ≤ 8) (hnn : nn ≤ 1) : CE E0 l D vwCl [(cI, .int), (cJ, .long)] yX0_speaksNow wsX0_speaksNow rmX0_speaksNow [.ref (g 0), .int (nI a), .int (nI O), .int (nI nn)] [gW cI g G] (S := Unit) (some (.int (nI (speakK (G (8 * a + 1)) (G (8 * a + 4)) (O - G (8 * a + 2)) nn (G 24))))) (fun _ => True) (fun _ : Unit => [gW cI g G]) 0 0 := by
  refine CE.ofW (cc := cX0_speaksNow) (maxL := 4) (ret := (some .boolean)) (lv := [(0, .ref (g 0)), (1, .int (nI a)), (2, .int (nI O)), (3, .int (nI nn))]) (by decide) rfl (Nat.le_of_ble_eq_true rfl) rfl ?_
  intro p e s m args below meth c ls A Q hQ hx hb hml hr hlocks hnm hown hts hK hA hE hW hl
  have hown : s.vm.findClass RX0 = some m.cls := hown
  obtain ⟨hg0, hg8, hg16, hg16b, hg24, hg32, hg40, hg48⟩ := hG.s
  have hma := hG.m a ha
  refine lv_aload_n hx hb dX0_speaksNow_0 rfl (lv_at hl 0 rfl) ?_
  refine sg_get (ci := 0) (C := RX0) (T := TX0) (N := 14) (v := .ref (g 1)) hx hb hts (fun _ h => List.mem_cons_of_mem _ (List.mem_append_right _ h)) hown hK hW 0 0 rfl rfl rfl 6 (by decide) (hts _ (List.mem_of_getElem? (i := 1) rfl)) rfl dX0_speaksNow_1 ?_
  refine lv_iload_n hx hb dX0_speaksNow_4 rfl (lv_at hl 1 rfl) ?_
  refine sg_ild (v := nI (G (8 * a + 1))) hx hb hK hW 0 1 0 rfl rfl rfl (by omega) (by decide) rfl dX0_speaksNow_5 ?_
  refine lv_aload_n hx hb dX0_speaksNow_6 rfl (lv_at hl 0 rfl) ?_
  refine sg_get (ci := 0) (C := RX0) (T := TX0) (N := 14) (v := .ref (g 4)) hx hb hts (fun _ h => List.mem_cons_of_mem _ (List.mem_append_right _ h)) hown hK hW 0 0 rfl rfl rfl 9 (by decide) (hts _ (List.mem_of_getElem? (i := 2) rfl)) rfl dX0_speaksNow_7 ?_
  refine lv_iload_n hx hb dX0_speaksNow_10 rfl (lv_at hl 1 rfl) ?_
  refine sg_ild (v := nI (G (8 * a + 4))) hx hb hK hW 0 4 0 rfl rfl rfl (by omega) (by decide) rfl dX0_speaksNow_11 ?_
  refine lv_iload_n hx hb dX0_speaksNow_12 rfl (lv_at hl 2 rfl) ?_
  refine lv_aload_n hx hb dX0_speaksNow_13 rfl (lv_at hl 0 rfl) ?_
  refine sg_get (ci := 0) (C := RX0) (T := TX0) (N := 14) (v := .ref (g 2)) hx hb hts (fun _ h => List.mem_cons_of_mem _ (List.mem_append_right _ h)) hown hK hW 0 0 rfl rfl rfl 7 (by decide) (hts _ (List.mem_of_getElem? (i := 3) rfl)) rfl dX0_speaksNow_14 ?_
  refine lv_iload_n hx hb dX0_speaksNow_17 rfl (lv_at hl 1 rfl) ?_
  refine sg_ild (v := nI (G (8 * a + 2))) hx hb hK hW 0 2 0 rfl rfl rfl (by omega) (by decide) rfl dX0_speaksNow_18 ?_
  refine nn_sub hx hb dX0_speaksNow_19 (by omega) ?_
  refine lv_iload_n hx hb dX0_speaksNow_20 rfl (lv_at hl 3 rfl) ?_
  refine lv_aload_n hx hb dX0_speaksNow_21 rfl (lv_at hl 0 rfl) ?_
  refine sg_get (ci := 0) (C := RX0) (T := TX0) (N := 14) (v := .int (nI (G 24))) hx hb hts (fun _ h => List.mem_cons_of_mem _ (List.mem_append_right _ h)) hown hK hW 0 0 rfl rfl rfl 3 (by decide) (hts _ (List.mem_of_getElem? (i := 4) rfl)) rfl dX0_speaksNow_22 ?_
  refine cl_Si (As := [.int (nI (G (8 * a + 1))), .int (nI (G (8 * a + 4))), .int (nI (O - (G (8 * a + 2)))), .int (nI nn), .int (nI (G 24))]) (rest := []) ⟨hx, hb, hml, hown, hts⟩ (M_X1_speaks l D cI cJ (G (8 * a + 1)) (G (8 * a + 4)) (O - (G (8 * a + 2))) nn (G 24) (by omega) (by omega) (by omega) (by omega) (by omega)) (va_cwS 5 hts gX0_speaksNow_X1_speaks rfl rfl rfl qX1_speaks ⟨Nat.le_of_ble_eq_true rfl, Nat.le_of_ble_eq_true rfl⟩) E0_good hK hA hW trivial [] (fun _ => [gW cI g G]) rfl (fun _ => rfl) (fun _ => rfl) rfl hl.1 rfl (lv_room (Nat.le_of_ble_eq_true rfl)) dX0_speaksNow_25 ⟨Nat.zero_le _, Nat.zero_le _⟩ (fun _ H locs _ hW => ?_)
  exact rt_z hQ hx hb hr hlocks hW dX0_speaksNow_28 (spk_narrow _ _ _ _ _) () rfl trivial rfl
abbrev rmX0_pushNow : Room := { frames := 2, cells := 0, slots := 0, locals := 50 }
set_option maxRecDepth 100000 in
set_option maxHeartbeats 4000000 in
theorem M_X0_pushNow (l : Launch) (D : va_G) (cI cJ : ClassId) (g G : Nat → Nat) (b : Nat) (hb30 : b < 2 ^ 30) (hG : OkG b G) : CE E0 l D vwCl [(cI, .int), (cJ, .long)] yX0_pushNow wsX0_pushNow rmX0_pushNow [.ref (g 0)] [gW cI g G] (S := Unit) (some (.int (nI (pushN G)))) (fun _ => True) (fun _ : Unit => [gW cI g G]) 0 0 := by
  refine CE.ofW (cc := cX0_pushNow) (maxL := 5) (ret := (some .int)) (lv := [(0, .ref (g 0))]) (by decide) rfl (Nat.le_of_ble_eq_true rfl) rfl ?_
  intro p e s m args below meth c ls A Q hQ hx hb hml hr hlocks hnm hown hts hK hA hE hW hl
  have hown : s.vm.findClass RX0 = some m.cls := hown
  obtain ⟨hg0, hg8, hg16, hg16b, hg24, hg32, hg40, hg48⟩ := hG.s
  have hoc8 := outC_le hG
  have hnl := nightN_le G
  have hwl := wetN_le G
  refine lv_aload_n hx hb dX0_pushNow_0 rfl (lv_at hl 0 rfl) ?_
  refine cl_Vi (As := []) (rest := []) (C := RX0) ⟨hx, hb, hml, hown, hts⟩ (M_X0_isWet l D cI cJ g G b hb30 hG) (cwV 0 hts gX0_pushNow_X0_isWet rfl rfl rfl qX0_isWet ⟨Nat.le_of_ble_eq_true rfl, Nat.le_of_ble_eq_true rfl⟩) E0_good hK hA hW trivial [true] (fun _ => [gW cI g G]) rfl (fun _ => rfl) (fun _ => rfl) 0 0 rfl rfl rfl rfl hl.1 rfl (lv_room (Nat.le_of_ble_eq_true rfl)) dX0_pushNow_1 ⟨Nat.zero_le _, Nat.zero_le _⟩ (fun _ H locs _ hW => ?_)
  refine nn_zeq (tgt := 9) hx hb dX0_pushNow_4 (by decide) (by omega) (fun c4 => ?_) (fun c4 => ?_)
  · refine lv_aload_n hx hb dX0_pushNow_9 rfl (lv_at hl 0 rfl) ?_
    refine cl_Vi (As := []) (rest := []) (C := RX0) ⟨hx, hb, hml, hown, hts⟩ (M_X0_outCount l D cI cJ g G b hb30 hG) (cwV 0 hts gX0_pushNow_X0_outCount rfl rfl rfl qX0_outCount ⟨Nat.le_of_ble_eq_true rfl, Nat.le_of_ble_eq_true rfl⟩) E0_good hK hA hW trivial [true] (fun _ => [gW cI g G]) rfl (fun _ => rfl) (fun _ => rfl) 0 0 rfl rfl rfl rfl hl.1 rfl (lv_room (Nat.le_of_ble_eq_true rfl)) dX0_pushNow_10 ⟨Nat.zero_le _, Nat.zero_le _⟩ (fun _ H locs _ hW => ?_)
    refine lv_istore_n (lv' := [(1, .int (nI (outC G))), (0, .ref (g 0))]) hx hb dX0_pushNow_13 rfl hl (by decide) rfl (fun ls hl => ?_)
    refine lv_aload_n hx hb dX0_pushNow_14 rfl (lv_at hl 1 rfl) ?_
    refine cl_Vi (As := []) (rest := []) (C := RX0) ⟨hx, hb, hml, hown, hts⟩ (M_X0_isNight l D cI cJ g G b hb30 hG) (cwV 0 hts gX0_pushNow_X0_isNight rfl rfl rfl qX0_isNight ⟨Nat.le_of_ble_eq_true rfl, Nat.le_of_ble_eq_true rfl⟩) E0_good hK hA hW trivial [true] (fun _ => [gW cI g G]) rfl (fun _ => rfl) (fun _ => rfl) 0 0 rfl rfl rfl rfl hl.1 rfl (lv_room (Nat.le_of_ble_eq_true rfl)) dX0_pushNow_15 ⟨Nat.zero_le _, Nat.zero_le _⟩ (fun _ H locs _ hW => ?_)
    refine lv_istore_n (lv' := [(2, .int (nI (nightN G))), (1, .int (nI (outC G))), (0, .ref (g 0))]) hx hb dX0_pushNow_18 rfl hl (by decide) rfl (fun ls hl => ?_)
    refine lv_iconst (v := nI 0) hx hb dX0_pushNow_19 (by decide +kernel) ?_
    refine lv_istore_n (lv' := [(3, .int (nI 0)), (2, .int (nI (nightN G))), (1, .int (nI (outC G))), (0, .ref (g 0))]) hx hb dX0_pushNow_20 rfl hl (by decide) rfl (fun ls hl => ?_)
    refine lv_iconst (v := nI 0) hx hb dX0_pushNow_21 (by decide +kernel) ?_
    refine lv_istore (lv' := [(4, .int (nI 0)), (3, .int (nI 0)), (2, .int (nI (nightN G))), (1, .int (nI (outC G))), (0, .ref (g 0))]) hx hb dX0_pushNow_22 hl (by decide) rfl (fun ls hl => ?_)
    have lp24 : ∀ (n : Nat) (i : Nat), G 40 - i < n → i ≤ G 40 → ∀ (H : Heap) (locs : List Loc), Wo D vwCl A s.heap H locs [gW cI g G] → ∀ ls : Array Slot, lv_has ls 5 [(4, .int (nI i)), (3, .int (nI (pushTo G i))), (2, .int (nI (nightN G))), (1, .int (nI (outC G))), (0, .ref (g 0))] → W p l e rmX0_pushNow s m args below meth c H locs 0 0 Q (F0 m 24 ls []) := by
      intro n
      induction n with
      | zero => intro i hm; exact absurd hm (Nat.not_lt_zero _)
      | succ n ih =>
        intro i hm hi H locs hW ls hl
        refine lv_iload hx hb dX0_pushNow_24 (lv_at hl 0 rfl) ?_
        refine lv_aload_n hx hb dX0_pushNow_26 rfl (lv_at hl 4 rfl) ?_
        refine sg_get (ci := 0) (C := RX0) (T := TX0) (N := 14) (v := .int (nI (G 40))) hx hb hts (fun _ h => List.mem_cons_of_mem _ (List.mem_append_right _ h)) hown hK hW 0 0 rfl rfl rfl 5 (by decide) (hts _ (List.mem_of_getElem? (i := 1) rfl)) rfl dX0_pushNow_27 ?_
        refine nn_cge (tgt := 61) hx hb dX0_pushNow_30 (by decide) (by omega) (by omega) (fun c30 => ?_) (fun c30 => ?_)
        · refine lv_iload_n hx hb dX0_pushNow_61 rfl (lv_at hl 1 rfl) ?_
          exact rt_i hQ hx hb hr hlocks hW dX0_pushNow_62 () (by unfold pushN; rw [if_neg (by omega), show i = G 40 by omega]) trivial rfl
        · have hmi := hG.m i (by omega)
          have hoi := outC_ge (G := G) (i := i) (by omega)
          refine lv_aload_n hx hb dX0_pushNow_33 rfl (lv_at hl 4 rfl) ?_
          refine sg_get (ci := 0) (C := RX0) (T := TX0) (N := 14) (v := .ref (g 2)) hx hb hts (fun _ h => List.mem_cons_of_mem _ (List.mem_append_right _ h)) hown hK hW 0 0 rfl rfl rfl 7 (by decide) (hts _ (List.mem_of_getElem? (i := 2) rfl)) rfl dX0_pushNow_34 ?_
          refine lv_iload hx hb dX0_pushNow_37 (lv_at hl 0 rfl) ?_
          refine sg_ild (v := nI (G (8 * i + 2))) hx hb hK hW 0 2 0 rfl rfl rfl (by omega) (by decide) rfl dX0_pushNow_39 ?_
          refine lv_iconst (v := nI 1) hx hb dX0_pushNow_40 (by decide +kernel) ?_
          refine nn_cne (tgt := 55) hx hb dX0_pushNow_41 (by decide) (by omega) (by decide) (fun c41 => ?_) (fun c41 => ?_)
          · refine lv_iinc (v := nI (i + 1)) (lv' := [(4, .int (nI (i + 1))), (3, .int (nI (pushTo G i))), (2, .int (nI (nightN G))), (1, .int (nI (outC G))), (0, .ref (g 0))]) hx hb dX0_pushNow_55 hl (k := 0) rfl (nI_add _ 1) (by decide) rfl (fun ls hl => ?_)
            refine lv_goto (tgt := 24) hx hb dX0_pushNow_58 (by decide) ?_
            have e1 : nI (pushTo G i) = nI (pushTo G (i + 1)) := (by show nI (pushTo G i) = nI (pushTo G i + (if G (8 * i + 2) = 1 then keepsN G i else 0)); rw [if_neg (by omega)]; rfl)
            rw [e1] at hl
            exact ih (i + 1) (by omega) (by omega) _ _ hW _ (lv_sub hl [0, 1, 2, 3, 4] rfl)
          · refine lv_iload_n hx hb dX0_pushNow_44 rfl (lv_at hl 1 rfl) ?_
            refine lv_aload_n hx hb dX0_pushNow_45 rfl (lv_at hl 4 rfl) ?_
            refine lv_iload hx hb dX0_pushNow_46 (lv_at hl 0 rfl) ?_
            refine lv_iload_n hx hb dX0_pushNow_48 rfl (lv_at hl 3 rfl) ?_
            refine lv_iload_n hx hb dX0_pushNow_49 rfl (lv_at hl 2 rfl) ?_
            refine cl_Vi (As := [.int (nI i), .int (nI (outC G)), .int (nI (nightN G))]) (rest := [.int (nI (pushTo G i))]) (C := RX0) ⟨hx, hb, hml, hown, hts⟩ (M_X0_keepsNow l D cI cJ g G b hb30 hG i (outC G) (nightN G) (by omega) (by omega) (by omega) (by omega)) (cwV 3 hts gX0_pushNow_X0_keepsNow rfl rfl rfl qX0_keepsNow ⟨Nat.le_of_ble_eq_true rfl, Nat.le_of_ble_eq_true rfl⟩) E0_good hK hA hW trivial [true] (fun _ => [gW cI g G]) rfl (fun _ => rfl) (fun _ => rfl) 0 0 rfl rfl rfl rfl hl.1 rfl (lv_room (Nat.le_of_ble_eq_true rfl)) dX0_pushNow_50 ⟨Nat.zero_le _, Nat.zero_le _⟩ (fun _ H locs _ hW => ?_)
            refine nn_add hx hb dX0_pushNow_53 ?_
            refine lv_istore_n (lv' := [(3, .int (nI ((pushTo G i) + (keepK (G (8 * i + 1)) (G (8 * i + 3)) (G (8 * i + 4)) ((outC G) - G (8 * i + 2)) (nightN G))))), (4, .int (nI i)), (2, .int (nI (nightN G))), (1, .int (nI (outC G))), (0, .ref (g 0))]) hx hb dX0_pushNow_54 rfl hl (by decide) rfl (fun ls hl => ?_)
            refine lv_iinc (v := nI (i + 1)) (lv' := [(4, .int (nI (i + 1))), (3, .int (nI ((pushTo G i) + (keepK (G (8 * i + 1)) (G (8 * i + 3)) (G (8 * i + 4)) ((outC G) - G (8 * i + 2)) (nightN G))))), (2, .int (nI (nightN G))), (1, .int (nI (outC G))), (0, .ref (g 0))]) hx hb dX0_pushNow_55 hl (k := 1) rfl (nI_add _ 1) (by decide) rfl (fun ls hl => ?_)
            refine lv_goto (tgt := 24) hx hb dX0_pushNow_58 (by decide) ?_
            have e2 : nI ((pushTo G i) + (keepK (G (8 * i + 1)) (G (8 * i + 3)) (G (8 * i + 4)) ((outC G) - G (8 * i + 2)) (nightN G))) = nI (pushTo G (i + 1)) := (by show nI (pushTo G i + keepsN G i) = nI (pushTo G i + (if G (8 * i + 2) = 1 then keepsN G i else 0)); rw [if_pos (by omega)])
            rw [e2] at hl
            exact ih (i + 1) (by omega) (by omega) _ _ hW _ (lv_sub hl [0, 1, 2, 3, 4] rfl)
    exact lp24 (G 40 - 0 + 1) 0 (Nat.lt_succ_self _) (by omega) _ _ hW _ (lv_sub hl [0, 1, 2, 3, 4] rfl)
  · refine lv_iconst (v := nI 0) hx hb dX0_pushNow_7 (by decide +kernel) ?_
    exact rt_i hQ hx hb hr hlocks hW dX0_pushNow_8 () (by unfold pushN; rw [if_pos (by omega)]) trivial rfl
abbrev rmX0_tryGrips : Room := { frames := 1, cells := 0, slots := 0, locals := 21 }
set_option maxRecDepth 100000 in
set_option maxHeartbeats 4000000 in
theorem M_X0_tryGrips (l : Launch) (D : va_G) (cI cJ : ClassId) (g G : Nat → Nat) (b : Nat) (hb30 : b < 2 ^ 30) (hG : OkG b G) : CE E0 l D vwCl [(cI, .int), (cJ, .long)] yX0_tryGrips wsX0_tryGrips rmX0_tryGrips [.ref (g 0)] [gW cI g G] (S := Unit) none (fun _ => True) (fun _ : Unit => [gW cI g (gripsG G)]) 0 0 := by
  refine CE.ofW (cc := cX0_tryGrips) (maxL := 2) (ret := none) (lv := [(0, .ref (g 0))]) (by decide) rfl (Nat.le_of_ble_eq_true rfl) rfl ?_
  intro p e s m args below meth c ls A Q hQ hx hb hml hr hlocks hnm hown hts hK hA hE hW hl
  have hown : s.vm.findClass RX0 = some m.cls := hown
  obtain ⟨hg0, hg8, hg16, hg16b, hg24, hg32, hg40, hg48⟩ := hG.s
  refine lv_iconst (v := nI 0) hx hb dX0_tryGrips_0 (by decide +kernel) ?_
  refine lv_istore_n (lv' := [(1, .int (nI 0)), (0, .ref (g 0))]) hx hb dX0_tryGrips_1 rfl hl (by decide) rfl (fun ls hl => ?_)
  have lp2 : ∀ (n : Nat) (i : Nat), G 48 - i < n → i ≤ G 48 → ∀ (H : Heap) (locs : List Loc), Wo D vwCl A s.heap H locs [gW cI g (gripsTo G i)] → ∀ ls : Array Slot, lv_has ls 2 [(1, .int (nI i)), (0, .ref (g 0))] → W p l e rmX0_tryGrips s m args below meth c H locs 0 0 Q (F0 m 2 ls []) := by
    intro n
    induction n with
    | zero => intro i hm; exact absurd hm (Nat.not_lt_zero _)
    | succ n ih =>
      intro i hm hi H locs hW ls hl
      have h48 : gripsTo G i 48 = G 48 := grips_keep G 48 (by decide) i
      obtain ⟨q0, q8, q16, q16b, q24, q32, q40, q48⟩ := (gripsTo_ok hG i (by omega)).s
      refine lv_iload_n hx hb dX0_tryGrips_2 rfl (lv_at hl 0 rfl) ?_
      refine lv_aload_n hx hb dX0_tryGrips_3 rfl (lv_at hl 1 rfl) ?_
      refine sg_get (ci := 0) (C := RX0) (T := TX0) (N := 14) (v := .int (nI ((gripsTo G i) 48))) hx hb hts (fun _ h => List.mem_cons_of_mem _ (List.mem_append_right _ h)) hown hK hW 0 0 rfl rfl rfl 10 (by decide) (hts _ (List.mem_of_getElem? (i := 1) rfl)) rfl dX0_tryGrips_4 ?_
      refine nn_cge (tgt := 96) hx hb dX0_tryGrips_7 (by decide) (by omega) (by omega) (fun c7 => ?_) (fun c7 => ?_)
      · exact rt_v hQ hx hb hr hlocks hW dX0_tryGrips_96 () rfl trivial (by rw [show i = G 48 by omega]; rfl)
      · have hci := (gripsTo_ok hG i (by omega)).c i (by omega)
        refine lv_aload_n hx hb dX0_tryGrips_10 rfl (lv_at hl 1 rfl) ?_
        refine sg_get (ci := 0) (C := RX0) (T := TX0) (N := 14) (v := .ref (g 6)) hx hb hts (fun _ h => List.mem_cons_of_mem _ (List.mem_append_right _ h)) hown hK hW 0 0 rfl rfl rfl 12 (by decide) (hts _ (List.mem_of_getElem? (i := 2) rfl)) rfl dX0_tryGrips_11 ?_
        refine lv_iload_n hx hb dX0_tryGrips_14 rfl (lv_at hl 0 rfl) ?_
        refine sg_ild (v := nI ((gripsTo G i) (8 * i + 6))) hx hb hK hW 0 6 0 rfl rfl rfl (by omega) (by decide) rfl dX0_tryGrips_15 ?_
        refine lv_iconst (v := nI 1) hx hb dX0_tryGrips_16 (by decide +kernel) ?_
        refine nn_cne (tgt := 90) hx hb dX0_tryGrips_17 (by decide) (by omega) (by decide) (fun c17 => ?_) (fun c17 => ?_)
        · refine lv_iinc (v := nI (i + 1)) (lv' := [(1, .int (nI (i + 1))), (0, .ref (g 0))]) hx hb dX0_tryGrips_90 hl (k := 0) rfl (nI_add _ 1) (by decide) rfl (fun ls hl => ?_)
          refine lv_goto (tgt := 2) hx hb dX0_tryGrips_93 (by decide) ?_
          have hW := hW.to (ss' := [gW cI g (gripsTo G (i + 1))]) (by simp only [gripsTo, holdF]; (repeat' split) <;> first | rfl | (exfalso; omega))
          exact ih (i + 1) (by omega) (by omega) _ _ hW _ (lv_sub hl [0, 1] rfl)
        · refine lv_aload_n hx hb dX0_tryGrips_20 rfl (lv_at hl 1 rfl) ?_
          refine sg_get (ci := 0) (C := RX0) (T := TX0) (N := 14) (v := .ref (g 5)) hx hb hts (fun _ h => List.mem_cons_of_mem _ (List.mem_append_right _ h)) hown hK hW 0 0 rfl rfl rfl 11 (by decide) (hts _ (List.mem_of_getElem? (i := 3) rfl)) rfl dX0_tryGrips_21 ?_
          refine lv_iload_n hx hb dX0_tryGrips_24 rfl (lv_at hl 0 rfl) ?_
          refine sg_ild (v := nI ((gripsTo G i) (8 * i + 5))) hx hb hK hW 0 5 0 rfl rfl rfl (by omega) (by decide) rfl dX0_tryGrips_25 ?_
          refine lv_aload_n hx hb dX0_tryGrips_26 rfl (lv_at hl 1 rfl) ?_
          refine sg_get (ci := 0) (C := RX0) (T := TX0) (N := 14) (v := .int (nI ((gripsTo G i) 24))) hx hb hts (fun _ h => List.mem_cons_of_mem _ (List.mem_append_right _ h)) hown hK hW 0 0 rfl rfl rfl 3 (by decide) (hts _ (List.mem_of_getElem? (i := 4) rfl)) rfl dX0_tryGrips_27 ?_
          refine nn_cge (tgt := 63) hx hb dX0_tryGrips_30 (by decide) (by omega) (by omega) (fun c30 => ?_) (fun c30 => ?_)
          · refine lv_aload_n hx hb dX0_tryGrips_63 rfl (lv_at hl 1 rfl) ?_
            refine sg_get (ci := 0) (C := RX0) (T := TX0) (N := 14) (v := .int (nI ((gripsTo G i) 24))) hx hb hts (fun _ h => List.mem_cons_of_mem _ (List.mem_append_right _ h)) hown hK hW 0 0 rfl rfl rfl 3 (by decide) (hts _ (List.mem_of_getElem? (i := 4) rfl)) rfl dX0_tryGrips_64 ?_
            refine lv_bipush (v := nI 30) hx hb dX0_tryGrips_67 (by decide +kernel) ?_
            refine nn_cle (tgt := 90) hx hb dX0_tryGrips_69 (by decide) (by omega) (by decide) (fun c69 => ?_) (fun c69 => ?_)
            · refine lv_iinc (v := nI (i + 1)) (lv' := [(1, .int (nI (i + 1))), (0, .ref (g 0))]) hx hb dX0_tryGrips_90 hl (k := 0) rfl (nI_add _ 1) (by decide) rfl (fun ls hl => ?_)
              refine lv_goto (tgt := 2) hx hb dX0_tryGrips_93 (by decide) ?_
              have hW := hW.to (ss' := [gW cI g (gripsTo G (i + 1))]) (by simp only [gripsTo, holdF]; (repeat' split) <;> first | rfl | (exfalso; omega))
              exact ih (i + 1) (by omega) (by omega) _ _ hW _ (lv_sub hl [0, 1] rfl)
            · refine lv_aload_n hx hb dX0_tryGrips_72 rfl (lv_at hl 1 rfl) ?_
              refine sg_get (ci := 0) (C := RX0) (T := TX0) (N := 14) (v := .ref (g 5)) hx hb hts (fun _ h => List.mem_cons_of_mem _ (List.mem_append_right _ h)) hown hK hW 0 0 rfl rfl rfl 11 (by decide) (hts _ (List.mem_of_getElem? (i := 3) rfl)) rfl dX0_tryGrips_73 ?_
              refine lv_iload_n hx hb dX0_tryGrips_76 rfl (lv_at hl 0 rfl) ?_
              refine lv_iconst (v := nI 0) hx hb dX0_tryGrips_77 (by decide +kernel) ?_
              refine lv_aload_n hx hb dX0_tryGrips_78 rfl (lv_at hl 1 rfl) ?_
              refine sg_get (ci := 0) (C := RX0) (T := TX0) (N := 14) (v := .ref (g 5)) hx hb hts (fun _ h => List.mem_cons_of_mem _ (List.mem_append_right _ h)) hown hK hW 0 0 rfl rfl rfl 11 (by decide) (hts _ (List.mem_of_getElem? (i := 3) rfl)) rfl dX0_tryGrips_79 ?_
              refine lv_iload_n hx hb dX0_tryGrips_82 rfl (lv_at hl 0 rfl) ?_
              refine sg_ild (v := nI ((gripsTo G i) (8 * i + 5))) hx hb hK hW 0 5 0 rfl rfl rfl (by omega) (by decide) rfl dX0_tryGrips_83 ?_
              refine lv_iconst (v := nI 1) hx hb dX0_tryGrips_84 (by decide +kernel) ?_
              refine lv_isub hx hb dX0_tryGrips_85 ?_
              refine va_mmax hx hb (hml.trans hl.1.symm) hown (hts _ (List.mem_of_getElem? (i := 10) rfl)) (hts _ (List.mem_of_getElem? (i := 11) rfl)) (hts _ (List.mem_of_getElem? (i := 8) rfl)) (hts _ (List.mem_of_getElem? (i := 12) rfl)) (Nat.le_of_ble_eq_true rfl) (Nat.le_of_ble_eq_true rfl) (Nat.zero_le _) (Nat.zero_le _) dX0_tryGrips_86 ?_
              refine W.top (v' := .int (nI (gripsTo G i (8 * i + 5) - 1))) (congrArg Value.int (mx_sub (by omega) (by omega))) ?_
              refine sg_ist hx hb hK hW 0 5 0 rfl rfl rfl (by omega) (by decide) (gW_r5 cI g (gripsTo G i) i (gripsTo G i (8 * i + 5) - 1)) (ss' := [gW cI g (up (gripsTo G i) (8 * i + 5) (gripsTo G i (8 * i + 5) - 1))]) rfl dX0_tryGrips_89 (fun H locs hW => ?_)
              refine lv_iinc (v := nI (i + 1)) (lv' := [(1, .int (nI (i + 1))), (0, .ref (g 0))]) hx hb dX0_tryGrips_90 hl (k := 0) rfl (nI_add _ 1) (by decide) rfl (fun ls hl => ?_)
              refine lv_goto (tgt := 2) hx hb dX0_tryGrips_93 (by decide) ?_
              have hW := hW.to (ss' := [gW cI g (gripsTo G (i + 1))]) (by simp only [gripsTo, holdF]; (repeat' split) <;> first | rfl | (exfalso; omega))
              exact ih (i + 1) (by omega) (by omega) _ _ hW _ (lv_sub hl [0, 1] rfl)
          · refine lv_aload_n hx hb dX0_tryGrips_33 rfl (lv_at hl 1 rfl) ?_
            refine sg_get (ci := 0) (C := RX0) (T := TX0) (N := 14) (v := .ref (g 6)) hx hb hts (fun _ h => List.mem_cons_of_mem _ (List.mem_append_right _ h)) hown hK hW 0 0 rfl rfl rfl 12 (by decide) (hts _ (List.mem_of_getElem? (i := 2) rfl)) rfl dX0_tryGrips_34 ?_
            refine lv_iload_n hx hb dX0_tryGrips_37 rfl (lv_at hl 0 rfl) ?_
            refine lv_iconst (v := nI 0) hx hb dX0_tryGrips_38 (by decide +kernel) ?_
            refine sg_ist hx hb hK hW 0 6 0 rfl rfl rfl (by omega) (by decide) (gW_r6 cI g (gripsTo G i) i 0) (ss' := [gW cI g (up (gripsTo G i) (8 * i + 6) 0)]) rfl dX0_tryGrips_39 (fun H locs hW => ?_)
            refine lv_aload_n hx hb dX0_tryGrips_40 rfl (lv_at hl 1 rfl) ?_
            refine sg_get (ci := 0) (C := RX0) (T := TX0) (N := 14) (v := .ref (g 7)) hx hb hts (fun _ h => List.mem_cons_of_mem _ (List.mem_append_right _ h)) hown hK hW 0 0 rfl rfl rfl 13 (by decide) (hts _ (List.mem_of_getElem? (i := 5) rfl)) rfl dX0_tryGrips_41 ?_
            refine lv_iload_n hx hb dX0_tryGrips_44 rfl (lv_at hl 0 rfl) ?_
            refine lv_sipush (v := nI 9999) hx hb dX0_tryGrips_45 (by decide +kernel) ?_
            refine lv_aload_n hx hb dX0_tryGrips_48 rfl (lv_at hl 1 rfl) ?_
            refine sg_get (ci := 0) (C := RX0) (T := TX0) (N := 14) (v := .ref (g 7)) hx hb hts (fun _ h => List.mem_cons_of_mem _ (List.mem_append_right _ h)) hown hK hW 0 0 rfl rfl rfl 13 (by decide) (hts _ (List.mem_of_getElem? (i := 5) rfl)) rfl dX0_tryGrips_49 ?_
            refine lv_iload_n hx hb dX0_tryGrips_52 rfl (lv_at hl 0 rfl) ?_
            refine sg_ild (v := nI ((gripsTo G i) (8 * i + 7))) hx hb hK hW 0 7 0 rfl rfl rfl (by omega) (by decide) (congrArg nI (up_ne (by omega))) dX0_tryGrips_53 ?_
            refine lv_iconst (v := nI 1) hx hb dX0_tryGrips_54 (by decide +kernel) ?_
            refine nn_add hx hb dX0_tryGrips_55 ?_
            refine va_mmin hx hb (hml.trans hl.1.symm) hown (hts _ (List.mem_of_getElem? (i := 6) rfl)) (hts _ (List.mem_of_getElem? (i := 7) rfl)) (hts _ (List.mem_of_getElem? (i := 8) rfl)) (hts _ (List.mem_of_getElem? (i := 9) rfl)) (Nat.le_of_ble_eq_true rfl) (Nat.le_of_ble_eq_true rfl) (Nat.zero_le _) (Nat.zero_le _) dX0_tryGrips_56 ?_
            refine W.top (v' := .int (nI (min 9999 (((gripsTo G i) (8 * i + 7)) + 1)))) (nn_min (by decide) (by omega)) ?_
            refine sg_ist hx hb hK hW 0 7 0 rfl rfl rfl (by omega) (by decide) (gW_r7 cI g (up (gripsTo G i) (8 * i + 6) 0) i (min 9999 (((gripsTo G i) (8 * i + 7)) + 1))) (ss' := [gW cI g (up (up (gripsTo G i) (8 * i + 6) 0) (8 * i + 7) (min 9999 (((gripsTo G i) (8 * i + 7)) + 1)))]) rfl dX0_tryGrips_59 (fun H locs hW => ?_)
            refine lv_goto (tgt := 90) hx hb dX0_tryGrips_60 (by decide) ?_
            refine lv_iinc (v := nI (i + 1)) (lv' := [(1, .int (nI (i + 1))), (0, .ref (g 0))]) hx hb dX0_tryGrips_90 hl (k := 0) rfl (nI_add _ 1) (by decide) rfl (fun ls hl => ?_)
            refine lv_goto (tgt := 2) hx hb dX0_tryGrips_93 (by decide) ?_
            have hW := hW.to (ss' := [gW cI g (gripsTo G (i + 1))]) (by simp only [gripsTo, holdF]; (repeat' split) <;> first | rfl | (exfalso; omega))
            exact ih (i + 1) (by omega) (by omega) _ _ hW _ (lv_sub hl [0, 1] rfl)
  have hW := hW.to (ss' := [gW cI g (gripsTo G 0)]) rfl
  exact lp2 (G 48 - 0 + 1) 0 (Nat.lt_succ_self _) (by omega) _ _ hW _ (lv_sub hl [0, 1] rfl)
abbrev rmX0_letSpeak : Room := { frames := 2, cells := 0, slots := 0, locals := 49 }
set_option maxRecDepth 100000 in
set_option maxHeartbeats 4000000 in
theorem M_X0_letSpeak (l : Launch) (D : va_G) (cI cJ : ClassId) (g G : Nat → Nat) (b : Nat) (hb30 : b < 2 ^ 30) (hG : OkG b G) : CE E0 l D vwCl [(cI, .int), (cJ, .long)] yX0_letSpeak wsX0_letSpeak rmX0_letSpeak [.ref (g 0)] [gW cI g G] (S := Unit) none (fun _ => True) (fun _ : Unit => [gW cI g (talkG G)]) 0 0 := by
  refine CE.ofW (cc := cX0_letSpeak) (maxL := 4) (ret := none) (lv := [(0, .ref (g 0))]) (by decide) rfl (Nat.le_of_ble_eq_true rfl) rfl ?_
  intro p e s m args below meth c ls A Q hQ hx hb hml hr hlocks hnm hown hts hK hA hE hW hl
  have hown : s.vm.findClass RX0 = some m.cls := hown
  obtain ⟨hg0, hg8, hg16, hg16b, hg24, hg32, hg40, hg48⟩ := hG.s
  have hoc8 := outC_le hG
  have hnl := nightN_le G
  refine lv_aload_n hx hb dX0_letSpeak_0 rfl (lv_at hl 0 rfl) ?_
  refine cl_Vi (As := []) (rest := []) (C := RX0) ⟨hx, hb, hml, hown, hts⟩ (M_X0_outCount l D cI cJ g G b hb30 hG) (cwV 0 hts gX0_letSpeak_X0_outCount rfl rfl rfl qX0_outCount ⟨Nat.le_of_ble_eq_true rfl, Nat.le_of_ble_eq_true rfl⟩) E0_good hK hA hW trivial [true] (fun _ => [gW cI g G]) rfl (fun _ => rfl) (fun _ => rfl) 0 0 rfl rfl rfl rfl hl.1 rfl (lv_room (Nat.le_of_ble_eq_true rfl)) dX0_letSpeak_1 ⟨Nat.zero_le _, Nat.zero_le _⟩ (fun _ H locs _ hW => ?_)
  refine lv_istore_n (lv' := [(1, .int (nI (outC G))), (0, .ref (g 0))]) hx hb dX0_letSpeak_4 rfl hl (by decide) rfl (fun ls hl => ?_)
  refine lv_aload_n hx hb dX0_letSpeak_5 rfl (lv_at hl 1 rfl) ?_
  refine cl_Vi (As := []) (rest := []) (C := RX0) ⟨hx, hb, hml, hown, hts⟩ (M_X0_isNight l D cI cJ g G b hb30 hG) (cwV 0 hts gX0_letSpeak_X0_isNight rfl rfl rfl qX0_isNight ⟨Nat.le_of_ble_eq_true rfl, Nat.le_of_ble_eq_true rfl⟩) E0_good hK hA hW trivial [true] (fun _ => [gW cI g G]) rfl (fun _ => rfl) (fun _ => rfl) 0 0 rfl rfl rfl rfl hl.1 rfl (lv_room (Nat.le_of_ble_eq_true rfl)) dX0_letSpeak_6 ⟨Nat.zero_le _, Nat.zero_le _⟩ (fun _ H locs _ hW => ?_)
  refine lv_istore_n (lv' := [(2, .int (nI (nightN G))), (1, .int (nI (outC G))), (0, .ref (g 0))]) hx hb dX0_letSpeak_9 rfl hl (by decide) rfl (fun ls hl => ?_)
  refine lv_iconst (v := nI 0) hx hb dX0_letSpeak_10 (by decide +kernel) ?_
  refine lv_istore_n (lv' := [(3, .int (nI 0)), (2, .int (nI (nightN G))), (1, .int (nI (outC G))), (0, .ref (g 0))]) hx hb dX0_letSpeak_11 rfl hl (by decide) rfl (fun ls hl => ?_)
  have lp12 : ∀ (n : Nat) (i : Nat), G 40 - i < n → i ≤ G 40 → ∀ (H : Heap) (locs : List Loc), Wo D vwCl A s.heap H locs [gW cI g (talkTo G i)] → ∀ ls : Array Slot, lv_has ls 4 [(3, .int (nI i)), (2, .int (nI (nightN G))), (1, .int (nI (outC G))), (0, .ref (g 0))] → W p l e rmX0_letSpeak s m args below meth c H locs 0 0 Q (F0 m 12 ls []) := by
    intro n
    induction n with
    | zero => intro i hm; exact absurd hm (Nat.not_lt_zero _)
    | succ n ih =>
      intro i hm hi H locs hW ls hl
      have h40 : talkTo G i 40 = G 40 := talk_keep G 40 (by decide) (by decide) i
      have hT := talkTo_ok hG i (by omega)
      obtain ⟨q0, q8, q16, q16b, q24, q32, q40, q48⟩ := hT.s
      have ho := talk_out G i
      have hn := talk_night G i
      refine lv_iload_n hx hb dX0_letSpeak_12 rfl (lv_at hl 0 rfl) ?_
      refine lv_aload_n hx hb dX0_letSpeak_13 rfl (lv_at hl 3 rfl) ?_
      refine sg_get (ci := 0) (C := RX0) (T := TX0) (N := 14) (v := .int (nI ((talkTo G i) 40))) hx hb hts (fun _ h => List.mem_cons_of_mem _ (List.mem_append_right _ h)) hown hK hW 0 0 rfl rfl rfl 5 (by decide) (hts _ (List.mem_of_getElem? (i := 1) rfl)) rfl dX0_letSpeak_14 ?_
      refine nn_cge (tgt := 102) hx hb dX0_letSpeak_17 (by decide) (by omega) (by omega) (fun c17 => ?_) (fun c17 => ?_)
      · exact rt_v hQ hx hb hr hlocks hW dX0_letSpeak_102 () rfl trivial (by rw [show i = G 40 by omega]; rfl)
      · have hmi := hT.m i (by omega)
        have hoi := outC_ge (G := talkTo G i) (i := i) (by omega)
        have htl := tellK_le (talkTo G i (8 * i + 1))
        refine lv_aload_n hx hb dX0_letSpeak_20 rfl (lv_at hl 3 rfl) ?_
        refine sg_get (ci := 0) (C := RX0) (T := TX0) (N := 14) (v := .ref (g 2)) hx hb hts (fun _ h => List.mem_cons_of_mem _ (List.mem_append_right _ h)) hown hK hW 0 0 rfl rfl rfl 7 (by decide) (hts _ (List.mem_of_getElem? (i := 2) rfl)) rfl dX0_letSpeak_21 ?_
        refine lv_iload_n hx hb dX0_letSpeak_24 rfl (lv_at hl 0 rfl) ?_
        refine sg_ild (v := nI ((talkTo G i) (8 * i + 2))) hx hb hK hW 0 2 0 rfl rfl rfl (by omega) (by decide) rfl dX0_letSpeak_25 ?_
        refine lv_iconst (v := nI 1) hx hb dX0_letSpeak_26 (by decide +kernel) ?_
        refine nn_cne (tgt := 96) hx hb dX0_letSpeak_27 (by decide) (by omega) (by decide) (fun c27 => ?_) (fun c27 => ?_)
        · refine lv_iinc (v := nI (i + 1)) (lv' := [(3, .int (nI (i + 1))), (2, .int (nI (nightN G))), (1, .int (nI (outC G))), (0, .ref (g 0))]) hx hb dX0_letSpeak_96 hl (k := 0) rfl (nI_add _ 1) (by decide) rfl (fun ls hl => ?_)
          refine lv_goto (tgt := 12) hx hb dX0_letSpeak_99 (by decide) ?_
          have hW := hW.to (ss' := [gW cI g (talkTo G (i + 1))]) (by simp only [talkTo, talkF, speaksN, ho, hn]; (repeat' split) <;> first | rfl | (exfalso; omega))
          exact ih (i + 1) (by omega) (by omega) _ _ hW _ (lv_sub hl [0, 1, 2, 3] rfl)
        · refine lv_aload_n hx hb dX0_letSpeak_30 rfl (lv_at hl 3 rfl) ?_
          refine lv_iload_n hx hb dX0_letSpeak_31 rfl (lv_at hl 0 rfl) ?_
          refine lv_iload_n hx hb dX0_letSpeak_32 rfl (lv_at hl 2 rfl) ?_
          refine lv_iload_n hx hb dX0_letSpeak_33 rfl (lv_at hl 1 rfl) ?_
          refine cl_Vi (As := [.int (nI i), .int (nI (outC G)), .int (nI (nightN G))]) (rest := []) (C := RX0) ⟨hx, hb, hml, hown, hts⟩ (M_X0_speaksNow l D cI cJ g (talkTo G i) b hb30 hT i (outC G) (nightN G) (by omega) (by omega) (by omega) (by omega)) (cwV 3 hts gX0_letSpeak_X0_speaksNow rfl rfl rfl qX0_speaksNow ⟨Nat.le_of_ble_eq_true rfl, Nat.le_of_ble_eq_true rfl⟩) E0_good hK hA hW trivial [true] (fun _ => [gW cI g (talkTo G i)]) rfl (fun _ => rfl) (fun _ => rfl) 0 0 rfl rfl rfl rfl hl.1 rfl (lv_room (Nat.le_of_ble_eq_true rfl)) dX0_letSpeak_34 ⟨Nat.zero_le _, Nat.zero_le _⟩ (fun _ H locs _ hW => ?_)
          have hspk : speakK ((talkTo G i) (8 * i + 1)) ((talkTo G i) (8 * i + 4)) ((outC G) - (talkTo G i) (8 * i + 2)) (nightN G) ((talkTo G i) 24) ≤ 1 := speakK_le _ _ _ _ _
          refine nn_zeq (tgt := 76) hx hb dX0_letSpeak_37 (by decide) (by omega) (fun c37 => ?_) (fun c37 => ?_)
          · refine lv_aload_n hx hb dX0_letSpeak_76 rfl (lv_at hl 3 rfl) ?_
            refine sg_get (ci := 0) (C := RX0) (T := TX0) (N := 14) (v := .ref (g 4)) hx hb hts (fun _ h => List.mem_cons_of_mem _ (List.mem_append_right _ h)) hown hK hW 0 0 rfl rfl rfl 9 (by decide) (hts _ (List.mem_of_getElem? (i := 9) rfl)) rfl dX0_letSpeak_77 ?_
            refine lv_iload_n hx hb dX0_letSpeak_80 rfl (lv_at hl 0 rfl) ?_
            refine lv_sipush (v := nI 999) hx hb dX0_letSpeak_81 (by decide +kernel) ?_
            refine lv_aload_n hx hb dX0_letSpeak_84 rfl (lv_at hl 3 rfl) ?_
            refine sg_get (ci := 0) (C := RX0) (T := TX0) (N := 14) (v := .ref (g 4)) hx hb hts (fun _ h => List.mem_cons_of_mem _ (List.mem_append_right _ h)) hown hK hW 0 0 rfl rfl rfl 9 (by decide) (hts _ (List.mem_of_getElem? (i := 9) rfl)) rfl dX0_letSpeak_85 ?_
            refine lv_iload_n hx hb dX0_letSpeak_88 rfl (lv_at hl 0 rfl) ?_
            refine sg_ild (v := nI ((talkTo G i) (8 * i + 4))) hx hb hK hW 0 4 0 rfl rfl rfl (by omega) (by decide) rfl dX0_letSpeak_89 ?_
            refine lv_iconst (v := nI 1) hx hb dX0_letSpeak_90 (by decide +kernel) ?_
            refine nn_add hx hb dX0_letSpeak_91 ?_
            refine va_mmin hx hb (hml.trans hl.1.symm) hown (hts _ (List.mem_of_getElem? (i := 10) rfl)) (hts _ (List.mem_of_getElem? (i := 11) rfl)) (hts _ (List.mem_of_getElem? (i := 7) rfl)) (hts _ (List.mem_of_getElem? (i := 12) rfl)) (Nat.le_of_ble_eq_true rfl) (Nat.le_of_ble_eq_true rfl) (Nat.zero_le _) (Nat.zero_le _) dX0_letSpeak_92 ?_
            refine W.top (v' := .int (nI (min 999 (((talkTo G i) (8 * i + 4)) + 1)))) (nn_min (by decide) (by omega)) ?_
            refine sg_ist hx hb hK hW 0 4 0 rfl rfl rfl (by omega) (by decide) (gW_r4 cI g (talkTo G i) i (min 999 (((talkTo G i) (8 * i + 4)) + 1))) (ss' := [gW cI g (up (talkTo G i) (8 * i + 4) (min 999 (((talkTo G i) (8 * i + 4)) + 1)))]) rfl dX0_letSpeak_95 (fun H locs hW => ?_)
            refine lv_iinc (v := nI (i + 1)) (lv' := [(3, .int (nI (i + 1))), (2, .int (nI (nightN G))), (1, .int (nI (outC G))), (0, .ref (g 0))]) hx hb dX0_letSpeak_96 hl (k := 0) rfl (nI_add _ 1) (by decide) rfl (fun ls hl => ?_)
            refine lv_goto (tgt := 12) hx hb dX0_letSpeak_99 (by decide) ?_
            have hW := hW.to (ss' := [gW cI g (talkTo G (i + 1))]) (by simp only [talkTo, talkF, speaksN, ho, hn]; (repeat' split) <;> first | rfl | (exfalso; omega))
            exact ih (i + 1) (by omega) (by omega) _ _ hW _ (lv_sub hl [0, 1, 2, 3] rfl)
          · refine lv_aload_n hx hb dX0_letSpeak_40 rfl (lv_at hl 3 rfl) ?_
            refine sg_get (ci := 0) (C := RX0) (T := TX0) (N := 14) (v := .ref (g 3)) hx hb hts (fun _ h => List.mem_cons_of_mem _ (List.mem_append_right _ h)) hown hK hW 0 0 rfl rfl rfl 8 (by decide) (hts _ (List.mem_of_getElem? (i := 3) rfl)) rfl dX0_letSpeak_41 ?_
            refine lv_iload_n hx hb dX0_letSpeak_44 rfl (lv_at hl 0 rfl) ?_
            refine lv_iconst (v := nI 0) hx hb dX0_letSpeak_45 (by decide +kernel) ?_
            refine lv_aload_n hx hb dX0_letSpeak_46 rfl (lv_at hl 3 rfl) ?_
            refine sg_get (ci := 0) (C := RX0) (T := TX0) (N := 14) (v := .ref (g 3)) hx hb hts (fun _ h => List.mem_cons_of_mem _ (List.mem_append_right _ h)) hown hK hW 0 0 rfl rfl rfl 8 (by decide) (hts _ (List.mem_of_getElem? (i := 3) rfl)) rfl dX0_letSpeak_47 ?_
            refine lv_iload_n hx hb dX0_letSpeak_50 rfl (lv_at hl 0 rfl) ?_
            refine sg_ild (v := nI ((talkTo G i) (8 * i + 3))) hx hb hK hW 0 3 0 rfl rfl rfl (by omega) (by decide) rfl dX0_letSpeak_51 ?_
            refine lv_aload_n hx hb dX0_letSpeak_52 rfl (lv_at hl 3 rfl) ?_
            refine sg_get (ci := 0) (C := RX0) (T := TX0) (N := 14) (v := .ref (g 1)) hx hb hts (fun _ h => List.mem_cons_of_mem _ (List.mem_append_right _ h)) hown hK hW 0 0 rfl rfl rfl 6 (by decide) (hts _ (List.mem_of_getElem? (i := 4) rfl)) rfl dX0_letSpeak_53 ?_
            refine lv_iload_n hx hb dX0_letSpeak_56 rfl (lv_at hl 0 rfl) ?_
            refine sg_ild (v := nI ((talkTo G i) (8 * i + 1))) hx hb hK hW 0 1 0 rfl rfl rfl (by omega) (by decide) rfl dX0_letSpeak_57 ?_
            refine cl_Si (As := [.int (nI ((talkTo G i) (8 * i + 1)))]) (rest := [.int (nI ((talkTo G i) (8 * i + 3))), .int (nI 0), .int (nI i), .ref (g 3)]) ⟨hx, hb, hml, hown, hts⟩ (M_X1_tells l D cI cJ ((talkTo G i) (8 * i + 1)) (by omega)) (va_cwS 1 hts gX0_letSpeak_X1_tells rfl rfl rfl qX1_tells ⟨Nat.le_of_ble_eq_true rfl, Nat.le_of_ble_eq_true rfl⟩) E0_good hK hA hW trivial [] (fun _ => [gW cI g (talkTo G i)]) rfl (fun _ => rfl) (fun _ => rfl) rfl hl.1 rfl (lv_room (Nat.le_of_ble_eq_true rfl)) dX0_letSpeak_58 ⟨Nat.zero_le _, Nat.zero_le _⟩ (fun _ H locs _ hW => ?_)
            refine lv_isub hx hb dX0_letSpeak_61 ?_
            refine va_mmax hx hb (hml.trans hl.1.symm) hown (hts _ (List.mem_of_getElem? (i := 5) rfl)) (hts _ (List.mem_of_getElem? (i := 6) rfl)) (hts _ (List.mem_of_getElem? (i := 7) rfl)) (hts _ (List.mem_of_getElem? (i := 8) rfl)) (Nat.le_of_ble_eq_true rfl) (Nat.le_of_ble_eq_true rfl) (Nat.zero_le _) (Nat.zero_le _) dX0_letSpeak_62 ?_
            refine W.top (v' := .int (nI (talkTo G i (8 * i + 3) - tellK (talkTo G i (8 * i + 1))))) (congrArg Value.int (mx_sub (by omega) (by omega))) ?_
            refine sg_ist hx hb hK hW 0 3 0 rfl rfl rfl (by omega) (by decide) (gW_r3 cI g (talkTo G i) i (talkTo G i (8 * i + 3) - tellK (talkTo G i (8 * i + 1)))) (ss' := [gW cI g (up (talkTo G i) (8 * i + 3) (talkTo G i (8 * i + 3) - tellK (talkTo G i (8 * i + 1))))]) rfl dX0_letSpeak_65 (fun H locs hW => ?_)
            refine lv_aload_n hx hb dX0_letSpeak_66 rfl (lv_at hl 3 rfl) ?_
            refine sg_get (ci := 0) (C := RX0) (T := TX0) (N := 14) (v := .ref (g 4)) hx hb hts (fun _ h => List.mem_cons_of_mem _ (List.mem_append_right _ h)) hown hK hW 0 0 rfl rfl rfl 9 (by decide) (hts _ (List.mem_of_getElem? (i := 9) rfl)) rfl dX0_letSpeak_67 ?_
            refine lv_iload_n hx hb dX0_letSpeak_70 rfl (lv_at hl 0 rfl) ?_
            refine lv_iconst (v := nI 0) hx hb dX0_letSpeak_71 (by decide +kernel) ?_
            refine sg_ist hx hb hK hW 0 4 0 rfl rfl rfl (by omega) (by decide) (gW_r4 cI g (up (talkTo G i) (8 * i + 3) (talkTo G i (8 * i + 3) - tellK (talkTo G i (8 * i + 1)))) i 0) (ss' := [gW cI g (up (up (talkTo G i) (8 * i + 3) (talkTo G i (8 * i + 3) - tellK (talkTo G i (8 * i + 1)))) (8 * i + 4) 0)]) rfl dX0_letSpeak_72 (fun H locs hW => ?_)
            refine lv_goto (tgt := 96) hx hb dX0_letSpeak_73 (by decide) ?_
            refine lv_iinc (v := nI (i + 1)) (lv' := [(3, .int (nI (i + 1))), (2, .int (nI (nightN G))), (1, .int (nI (outC G))), (0, .ref (g 0))]) hx hb dX0_letSpeak_96 hl (k := 0) rfl (nI_add _ 1) (by decide) rfl (fun ls hl => ?_)
            refine lv_goto (tgt := 12) hx hb dX0_letSpeak_99 (by decide) ?_
            have hW := hW.to (ss' := [gW cI g (talkTo G (i + 1))]) (by simp only [talkTo, talkF, speaksN, ho, hn]; (repeat' split) <;> first | rfl | (exfalso; omega))
            exact ih (i + 1) (by omega) (by omega) _ _ hW _ (lv_sub hl [0, 1, 2, 3] rfl)
  have hW := hW.to (ss' := [gW cI g (talkTo G 0)]) rfl
  exact lp12 (G 40 - 0 + 1) 0 (Nat.lt_succ_self _) (by omega) _ _ hW _ (lv_sub hl [0, 1, 2, 3] rfl)
abbrev rmX0_passMinute : Room := { frames := 3, cells := 0, slots := 0, locals := 74 }
set_option maxRecDepth 100000 in
set_option maxHeartbeats 4000000 in
theorem M_X0_passMinute (l : Launch) (D : va_G) (cI cJ : ClassId) (g G : Nat → Nat) (b : Nat) (hb30 : b < 2 ^ 30) (hG : OkG b G) : CE E0 l D vwCl [(cI, .int), (cJ, .long)] yX0_passMinute wsX0_passMinute rmX0_passMinute [.ref (g 0)] [gW cI g G] (S := Unit) none (fun _ => True) (fun _ : Unit => [gW cI g (stepG G)]) 0 0 := by
  refine CE.ofW (cc := cX0_passMinute) (maxL := 5) (ret := none) (lv := [(0, .ref (g 0))]) (by decide) rfl (Nat.le_of_ble_eq_true rfl) rfl ?_
  intro p e s m args below meth c ls A Q hQ hx hb hml hr hlocks hnm hown hts hK hA hE hW hl
  have hown : s.vm.findClass RX0 = some m.cls := hown
  obtain ⟨hg0, hg8, hg16, hg16b, hg24, hg32, hg40, hg48⟩ := hG.s
  have hpl := pushN_le hG
  have hwi := weightN_in hG
  have hsl := speedN_le G
  have hdv : pushN G / weightN G ≤ pushN G := Nat.div_le_self _ _
  have hmx : max 1 (G 24 / 10) ≤ 20 := by omega
  refine lv_aload_n hx hb dX0_passMinute_0 rfl (lv_at hl 0 rfl) ?_
  refine cl_Vi (As := []) (rest := []) (C := RX0) ⟨hx, hb, hml, hown, hts⟩ (M_X0_pushNow l D cI cJ g G b hb30 hG) (cwV 0 hts gX0_passMinute_X0_pushNow rfl rfl rfl qX0_pushNow ⟨Nat.le_of_ble_eq_true rfl, Nat.le_of_ble_eq_true rfl⟩) E0_good hK hA hW trivial [true] (fun _ => [gW cI g G]) rfl (fun _ => rfl) (fun _ => rfl) 0 0 rfl rfl rfl rfl hl.1 rfl (lv_room (Nat.le_of_ble_eq_true rfl)) dX0_passMinute_1 ⟨Nat.zero_le _, Nat.zero_le _⟩ (fun _ H locs _ hW => ?_)
  refine lv_istore_n (lv' := [(1, .int (nI (pushN G))), (0, .ref (g 0))]) hx hb dX0_passMinute_4 rfl hl (by decide) rfl (fun ls hl => ?_)
  refine lv_aload_n hx hb dX0_passMinute_5 rfl (lv_at hl 1 rfl) ?_
  refine cl_Vi (As := []) (rest := []) (C := RX0) ⟨hx, hb, hml, hown, hts⟩ (M_X0_weightNow l D cI cJ g G b hb30 hG) (cwV 0 hts gX0_passMinute_X0_weightNow rfl rfl rfl qX0_weightNow ⟨Nat.le_of_ble_eq_true rfl, Nat.le_of_ble_eq_true rfl⟩) E0_good hK hA hW trivial [true] (fun _ => [gW cI g G]) rfl (fun _ => rfl) (fun _ => rfl) 0 0 rfl rfl rfl rfl hl.1 rfl (lv_room (Nat.le_of_ble_eq_true rfl)) dX0_passMinute_6 ⟨Nat.zero_le _, Nat.zero_le _⟩ (fun _ H locs _ hW => ?_)
  refine lv_istore_n (lv' := [(2, .int (nI (weightN G))), (1, .int (nI (pushN G))), (0, .ref (g 0))]) hx hb dX0_passMinute_9 rfl hl (by decide) rfl (fun ls hl => ?_)
  refine lv_iload_n hx hb dX0_passMinute_10 rfl (lv_at hl 0 rfl) ?_
  refine nn_zle (tgt := 20) hx hb dX0_passMinute_11 (by decide) (by omega) (fun c11 => ?_) (fun c11 => ?_)
  · exfalso; omega
  · refine lv_iload_n hx hb dX0_passMinute_14 rfl (lv_at hl 1 rfl) ?_
    refine lv_iload_n hx hb dX0_passMinute_15 rfl (lv_at hl 0 rfl) ?_
    refine nn_div hx hb dX0_passMinute_16 (by omega) (by omega) (by omega) ?_
    refine lv_goto (tgt := 21) hx hb dX0_passMinute_17 (by decide) ?_
    refine lv_istore_n (lv' := [(3, .int (nI ((pushN G) / (weightN G)))), (2, .int (nI (weightN G))), (1, .int (nI (pushN G))), (0, .ref (g 0))]) hx hb dX0_passMinute_21 rfl hl (by decide) rfl (fun ls hl => ?_)
    refine lv_iconst (v := nI 1) hx hb dX0_passMinute_22 (by decide +kernel) ?_
    refine lv_aload_n hx hb dX0_passMinute_23 rfl (lv_at hl 3 rfl) ?_
    refine sg_get (ci := 0) (C := RX0) (T := TX0) (N := 14) (v := .int (nI (G 24))) hx hb hts (fun _ h => List.mem_cons_of_mem _ (List.mem_append_right _ h)) hown hK hW 0 0 rfl rfl rfl 3 (by decide) (hts _ (List.mem_of_getElem? (i := 1) rfl)) rfl dX0_passMinute_24 ?_
    refine lv_bipush (v := nI 10) hx hb dX0_passMinute_27 (by decide +kernel) ?_
    refine nn_div hx hb dX0_passMinute_29 (by omega) (by decide) (by decide) ?_
    refine va_mmax hx hb (hml.trans hl.1.symm) hown (hts _ (List.mem_of_getElem? (i := 2) rfl)) (hts _ (List.mem_of_getElem? (i := 3) rfl)) (hts _ (List.mem_of_getElem? (i := 4) rfl)) (hts _ (List.mem_of_getElem? (i := 5) rfl)) (Nat.le_of_ble_eq_true rfl) (Nat.le_of_ble_eq_true rfl) (Nat.zero_le _) (Nat.zero_le _) dX0_passMinute_30 ?_
    refine W.top (v' := .int (nI (max 1 ((G 24) / 10)))) (nn_max (by decide) (by omega)) ?_
    refine lv_istore (lv' := [(4, .int (nI (max 1 ((G 24) / 10)))), (3, .int (nI ((pushN G) / (weightN G)))), (2, .int (nI (weightN G))), (1, .int (nI (pushN G))), (0, .ref (g 0))]) hx hb dX0_passMinute_33 hl (by decide) rfl (fun ls hl => ?_)
    refine lv_aload_n hx hb dX0_passMinute_35 rfl (lv_at hl 4 rfl) ?_
    refine lv_iconst (v := nI 0) hx hb dX0_passMinute_36 (by decide +kernel) ?_
    refine lv_sipush (v := nI 200) hx hb dX0_passMinute_37 (by decide +kernel) ?_
    refine lv_aload_n hx hb dX0_passMinute_40 rfl (lv_at hl 4 rfl) ?_
    refine sg_get (ci := 0) (C := RX0) (T := TX0) (N := 14) (v := .int (nI (G 24))) hx hb hts (fun _ h => List.mem_cons_of_mem _ (List.mem_append_right _ h)) hown hK hW 0 0 rfl rfl rfl 3 (by decide) (hts _ (List.mem_of_getElem? (i := 1) rfl)) rfl dX0_passMinute_41 ?_
    refine lv_iload_n hx hb dX0_passMinute_44 rfl (lv_at hl 1 rfl) ?_
    refine nn_add hx hb dX0_passMinute_45 ?_
    refine lv_iload hx hb dX0_passMinute_46 (lv_at hl 0 rfl) ?_
    refine lv_isub hx hb dX0_passMinute_48 ?_
    refine va_mmin hx hb (hml.trans hl.1.symm) hown (hts _ (List.mem_of_getElem? (i := 6) rfl)) (hts _ (List.mem_of_getElem? (i := 7) rfl)) (hts _ (List.mem_of_getElem? (i := 4) rfl)) (hts _ (List.mem_of_getElem? (i := 8) rfl)) (Nat.le_of_ble_eq_true rfl) (Nat.le_of_ble_eq_true rfl) (Nat.zero_le _) (Nat.zero_le _) dX0_passMinute_49 ?_
    refine va_mmax hx hb (hml.trans hl.1.symm) hown (hts _ (List.mem_of_getElem? (i := 2) rfl)) (hts _ (List.mem_of_getElem? (i := 3) rfl)) (hts _ (List.mem_of_getElem? (i := 4) rfl)) (hts _ (List.mem_of_getElem? (i := 5) rfl)) (Nat.le_of_ble_eq_true rfl) (Nat.le_of_ble_eq_true rfl) (Nat.zero_le _) (Nat.zero_le _) dX0_passMinute_52 ?_
    refine W.top (v' := .int (nI (speedN G))) (congrArg Value.int (mx_clip (by omega) (by omega) (by decide) (by decide))) ?_
    refine sg_put (ci := 0) (C := RX0) (T := TX0) (N := 14) hx hb hts (fun _ h => List.mem_cons_of_mem _ (List.mem_append_right _ h)) tyX0 tyX0_ok nmX0 hown hK hW 0 0 rfl rfl rfl 3 (by decide) (hts _ (List.mem_of_getElem? (i := 1) rfl)) rfl rfl rfl (Nat.le_of_ble_eq_true rfl) (gW_s24 cI g G (speedN G)) (ss' := [gW cI g (up G 24 (speedN G))]) rfl dX0_passMinute_55 (fun H locs hW => ?_)
    refine lv_aload_n hx hb dX0_passMinute_58 rfl (lv_at hl 4 rfl) ?_
    refine lv_ldc (v := 999999) hx hb hown (hts _ (List.mem_of_getElem? (i := 9) rfl)) dX0_passMinute_59 ?_
    refine W.top (v' := .int (nI 999999)) rfl ?_
    refine lv_aload_n hx hb dX0_passMinute_61 rfl (lv_at hl 4 rfl) ?_
    refine sg_get (ci := 0) (C := RX0) (T := TX0) (N := 14) (v := .int (nI (G 32))) hx hb hts (fun _ h => List.mem_cons_of_mem _ (List.mem_append_right _ h)) hown hK hW 0 0 rfl rfl rfl 4 (by decide) (hts _ (List.mem_of_getElem? (i := 10) rfl)) (congrArg (fun z => some (Value.int (nI z))) (up_ne (by decide))) dX0_passMinute_62 ?_
    refine lv_aload_n hx hb dX0_passMinute_65 rfl (lv_at hl 4 rfl) ?_
    refine sg_get (ci := 0) (C := RX0) (T := TX0) (N := 14) (v := .int (nI (speedN G))) hx hb hts (fun _ h => List.mem_cons_of_mem _ (List.mem_append_right _ h)) hown hK hW 0 0 rfl rfl rfl 3 (by decide) (hts _ (List.mem_of_getElem? (i := 1) rfl)) (congrArg (fun z => some (Value.int (nI z))) (up_eq _ _ _)) dX0_passMinute_66 ?_
    refine nn_add hx hb dX0_passMinute_69 ?_
    refine va_mmin hx hb (hml.trans hl.1.symm) hown (hts _ (List.mem_of_getElem? (i := 6) rfl)) (hts _ (List.mem_of_getElem? (i := 7) rfl)) (hts _ (List.mem_of_getElem? (i := 4) rfl)) (hts _ (List.mem_of_getElem? (i := 8) rfl)) (Nat.le_of_ble_eq_true rfl) (Nat.le_of_ble_eq_true rfl) (Nat.zero_le _) (Nat.zero_le _) dX0_passMinute_70 ?_
    refine W.top (v' := .int (nI (min 999999 ((G 32) + (speedN G))))) (nn_min (by decide) (by omega)) ?_
    refine sg_put (ci := 0) (C := RX0) (T := TX0) (N := 14) hx hb hts (fun _ h => List.mem_cons_of_mem _ (List.mem_append_right _ h)) tyX0 tyX0_ok nmX0 hown hK hW 0 0 rfl rfl rfl 4 (by decide) (hts _ (List.mem_of_getElem? (i := 10) rfl)) rfl rfl rfl (Nat.le_of_ble_eq_true rfl) (gW_s32 cI g (up G 24 (speedN G)) (min 999999 ((G 32) + (speedN G)))) (ss' := [gW cI g (up (up G 24 (speedN G)) 32 (min 999999 ((G 32) + (speedN G))))]) rfl dX0_passMinute_73 (fun H locs hW => ?_)
    have hW := hW.to (ss' := [gW cI g (spinG G)]) rfl
    refine lv_aload_n hx hb dX0_passMinute_76 rfl (lv_at hl 4 rfl) ?_
    refine cl_Vv (As := []) (rest := []) (C := RX0) ⟨hx, hb, hml, hown, hts⟩ (M_X0_tryGrips l D cI cJ g (spinG G) b hb30 (spin_ok hG)) (cwV 0 hts gX0_passMinute_X0_tryGrips rfl rfl rfl qX0_tryGrips ⟨Nat.le_of_ble_eq_true rfl, Nat.le_of_ble_eq_true rfl⟩) E0_good hK hA hW trivial [true] (fun _ => [gW cI g (gripsG (spinG G))]) rfl (fun _ => rfl) (fun _ => rfl) 0 0 rfl rfl rfl rfl hl.1 rfl (lv_room (Nat.le_of_ble_eq_true rfl)) dX0_passMinute_77 ⟨Nat.zero_le _, Nat.zero_le _⟩ (fun _ H locs _ hW => ?_)
    refine lv_aload_n hx hb dX0_passMinute_80 rfl (lv_at hl 4 rfl) ?_
    refine cl_Vv (As := []) (rest := []) (C := RX0) ⟨hx, hb, hml, hown, hts⟩ (M_X0_letSpeak l D cI cJ g (gripsG (spinG G)) b hb30 (grips_ok (spin_ok hG))) (cwV 0 hts gX0_passMinute_X0_letSpeak rfl rfl rfl qX0_letSpeak ⟨Nat.le_of_ble_eq_true rfl, Nat.le_of_ble_eq_true rfl⟩) E0_good hK hA hW trivial [true] (fun _ => [gW cI g (talkG (gripsG (spinG G)))]) rfl (fun _ => rfl) (fun _ => rfl) 0 0 rfl rfl rfl rfl hl.1 rfl (lv_room (Nat.le_of_ble_eq_true rfl)) dX0_passMinute_81 ⟨Nat.zero_le _, Nat.zero_le _⟩ (fun _ H locs _ hW => ?_)
    refine lv_aload_n hx hb dX0_passMinute_84 rfl (lv_at hl 4 rfl) ?_
    refine lv_dup hx hb dX0_passMinute_85 rfl ?_
    refine sg_get (ci := 0) (C := RX0) (T := TX0) (N := 14) (v := .int (nI ((talkG (gripsG (spinG G))) 0))) hx hb hts (fun _ h => List.mem_cons_of_mem _ (List.mem_append_right _ h)) hown hK hW 0 0 rfl rfl rfl 0 (by decide) (hts _ (List.mem_of_getElem? (i := 11) rfl)) rfl dX0_passMinute_86 ?_
    refine lv_iconst (v := nI 1) hx hb dX0_passMinute_89 (by decide +kernel) ?_
    refine nn_add hx hb dX0_passMinute_90 ?_
    refine sg_put (ci := 0) (C := RX0) (T := TX0) (N := 14) hx hb hts (fun _ h => List.mem_cons_of_mem _ (List.mem_append_right _ h)) tyX0 tyX0_ok nmX0 hown hK hW 0 0 rfl rfl rfl 0 (by decide) (hts _ (List.mem_of_getElem? (i := 11) rfl)) rfl rfl rfl (Nat.le_of_ble_eq_true rfl) (gW_s0 cI g (talkG (gripsG (spinG G))) (((talkG (gripsG (spinG G))) 0) + 1)) (ss' := [gW cI g (up (talkG (gripsG (spinG G))) 0 (((talkG (gripsG (spinG G))) 0) + 1))]) rfl dX0_passMinute_91 (fun H locs hW => ?_)
    exact rt_v hQ hx hb hr hlocks hW dX0_passMinute_94 () rfl trivial rfl
abbrev rmX0_passMinutes : Room := { frames := 4, cells := 0, slots := 0, locals := 98 }
set_option maxRecDepth 100000 in
set_option maxHeartbeats 4000000 in
theorem M_X0_passMinutes (l : Launch) (D : va_G) (cI cJ : ClassId) (g G : Nat → Nat) (b : Nat) (hb30 : b < 2 ^ 30) (hG : OkG b G) (k : Nat) (hbk : b + k < 2 ^ 30) : CE E0 l D vwCl [(cI, .int), (cJ, .long)] yX0_passMinutes wsX0_passMinutes rmX0_passMinutes [.ref (g 0), .int (nI k)] [gW cI g G] (S := Unit) none (fun _ => True) (fun _ : Unit => [gW cI g (stepN G k)]) 0 0 := by
  refine CE.ofW (cc := cX0_passMinutes) (maxL := 3) (ret := none) (lv := [(0, .ref (g 0)), (1, .int (nI k))]) (by decide) rfl (Nat.le_of_ble_eq_true rfl) rfl ?_
  intro p e s m args below meth c ls A Q hQ hx hb hml hr hlocks hnm hown hts hK hA hE hW hl
  have hown : s.vm.findClass RX0 = some m.cls := hown
  refine lv_iconst (v := nI 0) hx hb dX0_passMinutes_0 (by decide +kernel) ?_
  refine lv_istore_n (lv' := [(2, .int (nI 0)), (0, .ref (g 0)), (1, .int (nI k))]) hx hb dX0_passMinutes_1 rfl hl (by decide) rfl (fun ls hl => ?_)
  have lp2 : ∀ (n : Nat) (i : Nat), k - i < n → i ≤ k → ∀ (H : Heap) (locs : List Loc), Wo D vwCl A s.heap H locs [gW cI g (stepN G i)] → ∀ ls : Array Slot, lv_has ls 3 [(2, .int (nI i)), (0, .ref (g 0)), (1, .int (nI k))] → W p l e rmX0_passMinutes s m args below meth c H locs 0 0 Q (F0 m 2 ls []) := by
    intro n
    induction n with
    | zero => intro i hm; exact absurd hm (Nat.not_lt_zero _)
    | succ n ih =>
      intro i hm hi H locs hW ls hl
      refine lv_iload_n hx hb dX0_passMinutes_2 rfl (lv_at hl 0 rfl) ?_
      refine lv_iload_n hx hb dX0_passMinutes_3 rfl (lv_at hl 2 rfl) ?_
      refine nn_cge (tgt := 17) hx hb dX0_passMinutes_4 (by decide) (by omega) (by omega) (fun c4 => ?_) (fun c4 => ?_)
      · exact rt_v hQ hx hb hr hlocks hW dX0_passMinutes_17 () rfl trivial (by rw [show i = k by omega])
      · refine lv_aload_n hx hb dX0_passMinutes_7 rfl (lv_at hl 1 rfl) ?_
        refine cl_Vv (As := []) (rest := []) (C := RX0) ⟨hx, hb, hml, hown, hts⟩ (M_X0_passMinute l D cI cJ g (stepN G i) (b + i) (by omega) (stepN_ok hG i)) (cwV 0 hts gX0_passMinutes_X0_passMinute rfl rfl rfl qX0_passMinute ⟨Nat.le_of_ble_eq_true rfl, Nat.le_of_ble_eq_true rfl⟩) E0_good hK hA hW trivial [true] (fun _ => [gW cI g (stepG (stepN G i))]) rfl (fun _ => rfl) (fun _ => rfl) 0 0 rfl rfl rfl rfl hl.1 rfl (lv_room (Nat.le_of_ble_eq_true rfl)) dX0_passMinutes_8 ⟨Nat.zero_le _, Nat.zero_le _⟩ (fun _ H locs _ hW => ?_)
        refine lv_iinc (v := nI (i + 1)) (lv' := [(2, .int (nI (i + 1))), (0, .ref (g 0)), (1, .int (nI k))]) hx hb dX0_passMinutes_11 hl (k := 0) rfl (nI_add _ 1) (by decide) rfl (fun ls hl => ?_)
        refine lv_goto (tgt := 2) hx hb dX0_passMinutes_14 (by decide) ?_
        have hW := hW.to (ss' := [gW cI g (stepN G (i + 1))]) rfl
        exact ih (i + 1) (by omega) (by omega) _ _ hW _ (lv_sub hl [0, 1, 2] rfl)
  have hW := hW.to (ss' := [gW cI g (stepN G 0)]) rfl
  exact lp2 (k - 0 + 1) 0 (Nat.lt_succ_self _) (by omega) _ _ hW _ (lv_sub hl [0, 1, 2] rfl)
