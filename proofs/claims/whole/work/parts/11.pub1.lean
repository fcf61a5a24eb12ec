theorem qX5_comesAs : yX5_comesAs.cls = RX5 ∧ yX5_comesAs.cls ≠ "java/lang/invoke/MethodHandle" ∧ yX5_comesAs.cls ≠ "java/lang/invoke/VarHandle" ∧ (parseMethodDescriptor yX5_comesAs.desc).map (fun d => d.parameters.length) = some 3 := by decide +kernel
theorem qX5_isMother : yX5_isMother.cls = RX5 ∧ yX5_isMother.cls ≠ "java/lang/invoke/MethodHandle" ∧ yX5_isMother.cls ≠ "java/lang/invoke/VarHandle" ∧ (parseMethodDescriptor yX5_isMother.desc).map (fun d => d.parameters.length) = some 1 := by decide +kernel
theorem qX5_getsOn : yX5_getsOn.cls = RX5 ∧ yX5_getsOn.cls ≠ "java/lang/invoke/MethodHandle" ∧ yX5_getsOn.cls ≠ "java/lang/invoke/VarHandle" ∧ (parseMethodDescriptor yX5_getsOn.desc).map (fun d => d.parameters.length) = some 2 := by decide +kernel
theorem qX5_isChild : yX5_isChild.cls = RX5 ∧ yX5_isChild.cls ≠ "java/lang/invoke/MethodHandle" ∧ yX5_isChild.cls ≠ "java/lang/invoke/VarHandle" ∧ (parseMethodDescriptor yX5_isChild.desc).map (fun d => d.parameters.length) = some 1 := by decide +kernel
theorem inZ_or (z a b : Int) : (inZ z a b = 1 ∧ a ≤ z ∧ z ≤ b) ∨ (inZ z a b = 0 ∧ (z < a ∨ b < z)) := by unfold inZ; split <;> omega
theorem inN_or (x : Int32) (n : Nat) : (inN x n = 1 ∧ 0 ≤ x.toInt ∧ x.toInt < n) ∨ (inN x n = 0 ∧ (x.toInt < 0 ∨ n ≤ x.toInt)) := by unfold inN; split <;> omega
def inM (G : Nat → Nat) (a : Int) : Prop := 0 ≤ a ∧ a < G 40
def ironV (G : Nat → Nat) (w z : Int) : Int32 := if w = 0 ∧ 1 ≤ z ∧ z ≤ 50 then nI (G 16) else if w = 1 ∧ 0 ≤ z ∧ z ≤ 200 then nI (G 24) else -1000000001
def ironG (G : Nat → Nat) (w z : Int) : Nat → Nat := if w = 0 ∧ 1 ≤ z ∧ z ≤ 50 then up G 16 z.toNat else if w = 1 ∧ 0 ≤ z ∧ z ≤ 200 then up G 24 z.toNat else G
def ironF (F : Nat → Nat) (w z : Int) : Nat → Nat := if (w = 0 ∧ 1 ≤ z ∧ z ≤ 50) ∨ (w = 1 ∧ 0 ≤ z ∧ z ≤ 200) then F else fnd F 0
def rainV (G : Nat → Nat) (z : Int) : Int32 := if 0 ≤ z ∧ z ≤ 31 then nI (G 8) else -1000000001
def rainG (G : Nat → Nat) (z : Int) : Nat → Nat := if 0 ≤ z ∧ z ≤ 31 then up G 8 z.toNat else G
def rainF (F : Nat → Nat) (z : Int) : Nat → Nat := if 0 ≤ z ∧ z ≤ 31 then F else fnd F 0
def nowV (G : Nat → Nat) (z : Int) : Int32 := if z = 0 then nI (G 0) else if z = 1 then nI (G 0 % 50) else if z = 2 then nI (nightN G) else if z = 3 then nI (wetN G) else if z = 4 then nI (G 24) else if z = 5 then nI (G 32) else if z = 6 then nI (weightN G) else if z = 7 then nI (pushN G) else if z = 8 then nI (outS G) else if z = 9 then nI (onS G) else -1000000001
def nowF (F : Nat → Nat) (z : Int) : Nat → Nat := if 0 ≤ z ∧ z ≤ 9 then F else fnd F 0
def motherV (G : Nat → Nat) (k : Int) : Int32 := if 0 ≤ k ∧ k ≤ 5 then (if G 40 < 8 then nI (G 40) else -1000000002) else -1000000001
def motherG (G : Nat → Nat) (k : Int) : Nat → Nat := if 0 ≤ k ∧ k ≤ 5 ∧ G 40 < 8 then addM G k.toNat 10 0 else G
def motherF (G F : Nat → Nat) (k : Int) : Nat → Nat := if 0 ≤ k ∧ k ≤ 5 then (if G 40 < 8 then F else fnd F 1) else fnd F 0
def ofV (G : Nat → Nat) (a w : Int) : Int32 := if 0 ≤ a ∧ a < G 40 then (if w = 0 then nI (G (8 * a.toNat + 1)) else if w = 1 then nI (G (8 * a.toNat + 2)) else if w = 2 then nI (G (8 * a.toNat + 3)) else if w = 3 then nI (G (8 * a.toNat + 4)) else if w = 4 then nI (keepsN G a.toNat) else if w = 5 then nI (speaksN G a.toNat) else if w = 6 then nI (tellK (G (8 * a.toNat + 1))) else -1000000001) else -1000000001
def ofF (G F : Nat → Nat) (a w : Int) : Nat → Nat := if 0 ≤ a ∧ a < G 40 ∧ 0 ≤ w ∧ w ≤ 6 then F else fnd F 0
def setV (G : Nat → Nat) (a w z : Int) : Int32 := if 0 ≤ a ∧ a < G 40 ∧ w = 2 ∧ 0 ≤ z ∧ z ≤ 99 then nI (G (8 * a.toNat + 3)) else if 0 ≤ a ∧ a < G 40 ∧ w = 3 ∧ 0 ≤ z ∧ z ≤ 999 then nI (G (8 * a.toNat + 4)) else -1000000001
def setG (G : Nat → Nat) (a w z : Int) : Nat → Nat := if 0 ≤ a ∧ a < G 40 ∧ w = 2 ∧ 0 ≤ z ∧ z ≤ 99 then up G (8 * a.toNat + 3) z.toNat else if 0 ≤ a ∧ a < G 40 ∧ w = 3 ∧ 0 ≤ z ∧ z ≤ 999 then up G (8 * a.toNat + 4) z.toNat else G
def setF (G F : Nat → Nat) (a w z : Int) : Nat → Nat := if (0 ≤ a ∧ a < G 40 ∧ w = 2 ∧ 0 ≤ z ∧ z ≤ 99) ∨ (0 ≤ a ∧ a < G 40 ∧ w = 3 ∧ 0 ≤ z ∧ z ≤ 999) then F else fnd F 0
def outV (G : Nat → Nat) (a z : Int) : Int32 := if 0 ≤ a ∧ a < G 40 ∧ 0 ≤ z ∧ z ≤ 1 then nI (G (8 * a.toNat + 2)) else -1000000001
def outG (G : Nat → Nat) (a z : Int) : Nat → Nat := if 0 ≤ a ∧ a < G 40 ∧ 0 ≤ z ∧ z ≤ 1 then moveM G a.toNat z.toNat else G
def outF (G F : Nat → Nat) (a z : Int) : Nat → Nat := if 0 ≤ a ∧ a < G 40 ∧ 0 ≤ z ∧ z ≤ 1 then F else fnd F 0
def turnV (G : Nat → Nat) (a z : Int) : Int32 := if 0 ≤ a ∧ a < G 40 ∧ 0 ≤ z ∧ z ≤ 5 then nI (G (8 * a.toNat + 1)) else -1000000001
def turnG (G : Nat → Nat) (a z : Int) : Nat → Nat := if 0 ≤ a ∧ a < G 40 ∧ 0 ≤ z ∧ z ≤ 5 then up G (8 * a.toNat + 1) z.toNat else G
def turnF (G F : Nat → Nat) (a z : Int) : Nat → Nat := if 0 ≤ a ∧ a < G 40 ∧ 0 ≤ z ∧ z ≤ 5 then F else fnd F 0
def asV (G : Nat → Nat) (a z : Int) : Int32 := if 0 ≤ a ∧ a < G 40 ∧ 0 ≤ z ∧ z ≤ 5 then (if underN (G (8 * a.toNat + 1)) z.toNat = 1 then nI (G (8 * a.toNat + 3)) else -1000000003) else -1000000001
def asF (G F : Nat → Nat) (a z : Int) : Nat → Nat := if 0 ≤ a ∧ a < G 40 ∧ 0 ≤ z ∧ z ≤ 5 then (if underN (G (8 * a.toNat + 1)) z.toNat = 1 then F else fnd F 2) else fnd F 0
def childV (G : Nat → Nat) (z : Int) : Int32 := if 0 ≤ z ∧ z ≤ 200 then (if G 48 < 6 then nI (G 48) else -1000000002) else -1000000001
def childG (G : Nat → Nat) (z : Int) : Nat → Nat := if 0 ≤ z ∧ z ≤ 200 ∧ G 48 < 6 then addC G z.toNat 0 else G
def childF (G F : Nat → Nat) (z : Int) : Nat → Nat := if 0 ≤ z ∧ z ≤ 200 then (if G 48 < 6 then F else fnd F 1) else fnd F 0
def childOfV (G : Nat → Nat) (a w : Int) : Int32 := if 0 ≤ a ∧ a < G 48 then (if w = 0 then nI (G (8 * a.toNat + 5)) else if w = 1 then nI (G (8 * a.toNat + 6)) else if w = 2 then nI (G (8 * a.toNat + 7)) else -1000000001) else -1000000001
def childOfF (G F : Nat → Nat) (a w : Int) : Nat → Nat := if 0 ≤ a ∧ a < G 48 ∧ 0 ≤ w ∧ w ≤ 2 then F else fnd F 0
def gripV (G : Nat → Nat) (a z : Int) : Int32 := if 0 ≤ a ∧ a < G 48 ∧ 0 ≤ z ∧ z ≤ 200 then nI (G (8 * a.toNat + 5)) else -1000000001
def gripG (G : Nat → Nat) (a z : Int) : Nat → Nat := if 0 ≤ a ∧ a < G 48 ∧ 0 ≤ z ∧ z ≤ 200 then up G (8 * a.toNat + 5) z.toNat else G
def gripF (G F : Nat → Nat) (a z : Int) : Nat → Nat := if 0 ≤ a ∧ a < G 48 ∧ 0 ≤ z ∧ z ≤ 200 then F else fnd F 0
def rideV (G : Nat → Nat) (a z : Int) : Int32 := if 0 ≤ a ∧ a < G 48 ∧ 0 ≤ z ∧ z ≤ 1 then nI (onC (up G (8 * a.toNat + 6) z.toNat)) else -1000000001
def rideG (G : Nat → Nat) (a z : Int) : Nat → Nat := if 0 ≤ a ∧ a < G 48 ∧ 0 ≤ z ∧ z ≤ 1 then up G (8 * a.toNat + 6) z.toNat else G
def rideF (G F : Nat → Nat) (a z : Int) : Nat → Nat := if 0 ≤ a ∧ a < G 48 ∧ 0 ≤ z ∧ z ≤ 1 then F else fnd F 0
def minutesV (G : Nat → Nat) (z : Int) : Int32 := if 1 ≤ z ∧ z ≤ 100 then (if (G 0 : Int) + z ≤ 99999 then nI (stepN G z.toNat 24) else -1000000005) else -1000000001
def minutesG (G : Nat → Nat) (z : Int) : Nat → Nat := if 1 ≤ z ∧ z ≤ 100 ∧ (G 0 : Int) + z ≤ 99999 then stepN G z.toNat else G
def minutesF (G F : Nat → Nat) (z : Int) : Nat → Nat := if 1 ≤ z ∧ z ≤ 100 then (if (G 0 : Int) + z ≤ 99999 then F else fnd F 4) else fnd F 0
abbrev rmX5_iron : Room := { frames := 1, cells := 0, slots := 0, locals := 23 }
set_option maxRecDepth 100000 in
set_option maxHeartbeats 4000000 in
theorem M_X5_iron (l : Launch) (D : va_G) (cI cJ : ClassId) (mo R G F : Nat → Nat) (hG : OkG 99999 G) (what v : Int32) : CE E0 l D vwCl [(cI, .int), (cJ, .long)] yX5_iron wsX5_iron rmX5_iron [.ref (mo 0), .int what, .int v] [mH mo R, mR cI (mo 1) G, aI cI (mo 4) 7 F] (S := Unit) (some (.int (ironV G what.toInt v.toInt))) (fun _ => True) (fun _ : Unit => [mH mo R, mR cI (mo 1) (ironG G what.toInt v.toInt), aI cI (mo 4) 7 (ironF F what.toInt v.toInt)]) 0 0 := by
  refine CE.ofW (cc := cX5_iron) (maxL := 4) (ret := (some .int)) (lv := [(0, .ref (mo 0)), (1, .int what), (2, .int v)]) (by decide) rfl (Nat.le_of_ble_eq_true rfl) rfl ?_
  intro p e s m args below meth c ls A Q hQ hx hb hml hr hlocks hnm hown hts hK hA hE hW hl
  have hown : s.vm.findClass RX5 = some m.cls := hown
  obtain ⟨hg0, hg8, hg16, hg16b, hg24, hg32, hg40, hg48⟩ := hG.s
  refine lv_iload_n hx hb dX5_iron_0 rfl (lv_at hl 1 rfl) ?_
  refine zz_zne (tgt := 15) hx hb dX5_iron_1 (by decide) (rfl : what.toInt = what.toInt) (fun c1 => ?_) (fun c1 => ?_)
  · refine lv_iload_n hx hb dX5_iron_15 rfl (lv_at hl 1 rfl) ?_
    refine lv_iconst (v := nI 1) hx hb dX5_iron_16 (by decide +kernel) ?_
    refine zz_cne (tgt := 36) hx hb dX5_iron_17 (by decide) (rfl : what.toInt = what.toInt) (nI_toInt (n := 1) (by decide)) (fun c17 => ?_) (fun c17 => ?_)
    · refine lv_iconst (v := nI 0) hx hb dX5_iron_36 (by decide +kernel) ?_
      refine lv_istore_n (lv' := [(3, .int (nI 0)), (0, .ref (mo 0)), (1, .int what), (2, .int v)]) hx hb dX5_iron_37 rfl hl (by decide) rfl (fun ls hl => ?_)
      refine lv_iload_n hx hb dX5_iron_38 rfl (lv_at hl 0 rfl) ?_
      refine nn_zeq (tgt := 53) hx hb dX5_iron_39 (by decide) (by decide) (fun c39 => ?_) (fun c39 => ?_)
      · refine lv_aload_n hx hb dX5_iron_53 rfl (lv_at hl 1 rfl) ?_
        refine lv_ldc (v := -1000000001) hx hb hown (hts _ (List.mem_of_getElem? (i := 1) rfl)) dX5_iron_54 ?_
        refine cl_Vi (As := [.int (-1000000001)]) (rest := []) (C := RX5) ⟨hx, hb, hml, hown, hts⟩ (M_X5_finds l D cI cJ mo R F 0 (by decide) (-1000000001) (by decide +kernel)) (cwV 1 hts gX5_iron_X5_finds rfl rfl rfl qX5_finds ⟨Nat.le_of_ble_eq_true rfl, Nat.le_of_ble_eq_true rfl⟩) E0_good hK hA hW trivial [true, false, true] (fun _ => [mH mo R, mR cI (mo 1) G, aI cI (mo 4) 7 (up F 0 (F 0 + 1))]) rfl (fun _ => rfl) (fun _ => rfl) 0 0 rfl rfl rfl rfl hl.1 rfl (lv_room (Nat.le_of_ble_eq_true rfl)) dX5_iron_56 ⟨Nat.zero_le _, Nat.zero_le _⟩ (fun _ H locs _ hW => ?_)
        exact rt_i hQ hx hb hr hlocks hW dX5_iron_59 () (by (try simp only [ironV]); (repeat' split) <;> first | rfl | (exfalso; omega)) trivial (by (try simp only [ironG, ironF]); (repeat' split) <;> first | rfl | (exfalso; omega))
      · exfalso; omega
    · refine lv_iload_n hx hb dX5_iron_20 rfl (lv_at hl 2 rfl) ?_
      refine lv_i2l (v := (v).toInt64) hx hb dX5_iron_21 rfl ?_
      refine lv_iconst (v := nI 0) hx hb dX5_iron_22 (by decide +kernel) ?_
      refine lv_sipush (v := nI 200) hx hb dX5_iron_23 (by decide +kernel) ?_
      refine cl_Si (As := [.long ((v).toInt64), .int (nI 0), .int (nI 200)]) (rest := []) ⟨hx, hb, hml, hown, hts⟩ (M_X5_in2 l D cI cJ ((v).toInt64) (nI 0) (nI 200) v.toInt ((0 : Nat) : Int) ((200 : Nat) : Int) ((Int32.toInt_toInt64 _).trans rfl) (nI_toInt (n := 0) (by decide)) (nI_toInt (n := 200) (by decide))) (va_cwS 3 hts gX5_iron_X5_in rfl rfl rfl qX5_in ⟨Nat.le_of_ble_eq_true rfl, Nat.le_of_ble_eq_true rfl⟩) E0_good hK hA hW trivial [] (fun _ => [mH mo R, mR cI (mo 1) G, aI cI (mo 4) 7 F]) rfl (fun _ => rfl) (fun _ => rfl) rfl hl.1 rfl (lv_room (Nat.le_of_ble_eq_true rfl)) dX5_iron_26 ⟨Nat.zero_le _, Nat.zero_le _⟩ (fun _ H locs _ hW => ?_)
      have hin_ := inZ_or v.toInt ((0 : Nat) : Int) ((200 : Nat) : Int)
      refine nn_zeq (tgt := 36) hx hb dX5_iron_29 (by decide) (by omega) (fun c29 => ?_) (fun c29 => ?_)
      · refine lv_iconst (v := nI 0) hx hb dX5_iron_36 (by decide +kernel) ?_
        refine lv_istore_n (lv' := [(3, .int (nI 0)), (0, .ref (mo 0)), (1, .int what), (2, .int v)]) hx hb dX5_iron_37 rfl hl (by decide) rfl (fun ls hl => ?_)
        refine lv_iload_n hx hb dX5_iron_38 rfl (lv_at hl 0 rfl) ?_
        refine nn_zeq (tgt := 53) hx hb dX5_iron_39 (by decide) (by decide) (fun c39_1 => ?_) (fun c39_1 => ?_)
        · refine lv_aload_n hx hb dX5_iron_53 rfl (lv_at hl 1 rfl) ?_
          refine lv_ldc (v := -1000000001) hx hb hown (hts _ (List.mem_of_getElem? (i := 1) rfl)) dX5_iron_54 ?_
          refine cl_Vi (As := [.int (-1000000001)]) (rest := []) (C := RX5) ⟨hx, hb, hml, hown, hts⟩ (M_X5_finds l D cI cJ mo R F 0 (by decide) (-1000000001) (by decide +kernel)) (cwV 1 hts gX5_iron_X5_finds rfl rfl rfl qX5_finds ⟨Nat.le_of_ble_eq_true rfl, Nat.le_of_ble_eq_true rfl⟩) E0_good hK hA hW trivial [true, false, true] (fun _ => [mH mo R, mR cI (mo 1) G, aI cI (mo 4) 7 (up F 0 (F 0 + 1))]) rfl (fun _ => rfl) (fun _ => rfl) 0 0 rfl rfl rfl rfl hl.1 rfl (lv_room (Nat.le_of_ble_eq_true rfl)) dX5_iron_56 ⟨Nat.zero_le _, Nat.zero_le _⟩ (fun _ H locs _ hW => ?_)
          exact rt_i hQ hx hb hr hlocks hW dX5_iron_59 () (by (try simp only [ironV]); (repeat' split) <;> first | rfl | (exfalso; omega)) trivial (by (try simp only [ironG, ironF]); (repeat' split) <;> first | rfl | (exfalso; omega))
        · exfalso; omega
      · refine lv_iconst (v := nI 1) hx hb dX5_iron_32 (by decide +kernel) ?_
        refine lv_goto (tgt := 37) hx hb dX5_iron_33 (by decide) ?_
        refine lv_istore_n (lv' := [(3, .int (nI 1)), (0, .ref (mo 0)), (1, .int what), (2, .int v)]) hx hb dX5_iron_37 rfl hl (by decide) rfl (fun ls hl => ?_)
        refine lv_iload_n hx hb dX5_iron_38 rfl (lv_at hl 0 rfl) ?_
        refine nn_zeq (tgt := 53) hx hb dX5_iron_39 (by decide) (by decide) (fun c39_2 => ?_) (fun c39_2 => ?_)
        · exfalso; omega
        · have hlit1 : what = nI 1 := zz_eq.mpr ((show what.toInt = 1 by omega).trans (by decide +kernel))
          rw [hlit1] at hl
          obtain ⟨j, hj, ej⟩ : ∃ j : Nat, v = nI j ∧ v.toInt = (j : Int) := ⟨v.toInt.toNat, nI_ofZ rfl (by omega), by omega⟩
          rw [hj] at hl
          refine lv_aload_n hx hb dX5_iron_42 rfl (lv_at hl 1 rfl) ?_
          refine lv_iconst (v := nI 2) hx hb dX5_iron_43 (by decide +kernel) ?_
          refine lv_iload_n hx hb dX5_iron_44 rfl (lv_at hl 2 rfl) ?_
          refine nn_add hx hb dX5_iron_45 ?_
          refine lv_iload_n hx hb dX5_iron_46 rfl (lv_at hl 3 rfl) ?_
          refine cl_Vi (As := [.int (nI (2 + 1)), .int (nI j)]) (rest := []) (C := RX5) ⟨hx, hb, hml, hown, hts⟩ (M_X5_becomes l D cI cJ mo R G (2 + 1) 24 j (by decide) (by decide)) (cwV 2 hts gX5_iron_X5_becomes rfl rfl rfl qX5_becomes ⟨Nat.le_of_ble_eq_true rfl, Nat.le_of_ble_eq_true rfl⟩) E0_good hK hA hW trivial [true, true] (fun _ => [mH mo R, mR cI (mo 1) (up G 24 j), aI cI (mo 4) 7 F]) rfl (fun _ => rfl) (fun _ => rfl) 0 0 rfl rfl rfl rfl hl.1 rfl (lv_room (Nat.le_of_ble_eq_true rfl)) dX5_iron_47 ⟨Nat.zero_le _, Nat.zero_le _⟩ (fun _ H locs _ hW => ?_)
          refine lv_goto (tgt := 59) hx hb dX5_iron_50 (by decide) ?_
          exact rt_i hQ hx hb hr hlocks hW dX5_iron_59 () (by (try simp only [ironV, ej, Int.toNat_natCast]); (repeat' split) <;> first | rfl | (exfalso; omega)) trivial (by (try simp only [ironG, ironF, ej, Int.toNat_natCast]); (repeat' split) <;> first | rfl | (exfalso; omega))
  · refine lv_iload_n hx hb dX5_iron_4 rfl (lv_at hl 2 rfl) ?_
    refine lv_i2l (v := (v).toInt64) hx hb dX5_iron_5 rfl ?_
    refine lv_iconst (v := nI 1) hx hb dX5_iron_6 (by decide +kernel) ?_
    refine lv_bipush (v := nI 50) hx hb dX5_iron_7 (by decide +kernel) ?_
    refine cl_Si (As := [.long ((v).toInt64), .int (nI 1), .int (nI 50)]) (rest := []) ⟨hx, hb, hml, hown, hts⟩ (M_X5_in2 l D cI cJ ((v).toInt64) (nI 1) (nI 50) v.toInt ((1 : Nat) : Int) ((50 : Nat) : Int) ((Int32.toInt_toInt64 _).trans rfl) (nI_toInt (n := 1) (by decide)) (nI_toInt (n := 50) (by decide))) (va_cwS 3 hts gX5_iron_X5_in rfl rfl rfl qX5_in ⟨Nat.le_of_ble_eq_true rfl, Nat.le_of_ble_eq_true rfl⟩) E0_good hK hA hW trivial [] (fun _ => [mH mo R, mR cI (mo 1) G, aI cI (mo 4) 7 F]) rfl (fun _ => rfl) (fun _ => rfl) rfl hl.1 rfl (lv_room (Nat.le_of_ble_eq_true rfl)) dX5_iron_9 ⟨Nat.zero_le _, Nat.zero_le _⟩ (fun _ H locs _ hW => ?_)
    have hin_ := inZ_or v.toInt ((1 : Nat) : Int) ((50 : Nat) : Int)
    refine nn_zne (tgt := 32) hx hb dX5_iron_12 (by decide) (by omega) (fun c12 => ?_) (fun c12 => ?_)
    · refine lv_iconst (v := nI 1) hx hb dX5_iron_32 (by decide +kernel) ?_
      refine lv_goto (tgt := 37) hx hb dX5_iron_33 (by decide) ?_
      refine lv_istore_n (lv' := [(3, .int (nI 1)), (0, .ref (mo 0)), (1, .int what), (2, .int v)]) hx hb dX5_iron_37 rfl hl (by decide) rfl (fun ls hl => ?_)
      refine lv_iload_n hx hb dX5_iron_38 rfl (lv_at hl 0 rfl) ?_
      refine nn_zeq (tgt := 53) hx hb dX5_iron_39 (by decide) (by decide) (fun c39_3 => ?_) (fun c39_3 => ?_)
      · exfalso; omega
      · have hlit1 : what = nI 0 := zz_eq.mpr ((show what.toInt = 0 by omega).trans (by decide +kernel))
        rw [hlit1] at hl
        obtain ⟨j, hj, ej⟩ : ∃ j : Nat, v = nI j ∧ v.toInt = (j : Int) := ⟨v.toInt.toNat, nI_ofZ rfl (by omega), by omega⟩
        rw [hj] at hl
        refine lv_aload_n hx hb dX5_iron_42 rfl (lv_at hl 1 rfl) ?_
        refine lv_iconst (v := nI 2) hx hb dX5_iron_43 (by decide +kernel) ?_
        refine lv_iload_n hx hb dX5_iron_44 rfl (lv_at hl 2 rfl) ?_
        refine nn_add hx hb dX5_iron_45 ?_
        refine lv_iload_n hx hb dX5_iron_46 rfl (lv_at hl 3 rfl) ?_
        refine cl_Vi (As := [.int (nI (2 + 0)), .int (nI j)]) (rest := []) (C := RX5) ⟨hx, hb, hml, hown, hts⟩ (M_X5_becomes l D cI cJ mo R G (2 + 0) 16 j (by decide) (by decide)) (cwV 2 hts gX5_iron_X5_becomes rfl rfl rfl qX5_becomes ⟨Nat.le_of_ble_eq_true rfl, Nat.le_of_ble_eq_true rfl⟩) E0_good hK hA hW trivial [true, true] (fun _ => [mH mo R, mR cI (mo 1) (up G 16 j), aI cI (mo 4) 7 F]) rfl (fun _ => rfl) (fun _ => rfl) 0 0 rfl rfl rfl rfl hl.1 rfl (lv_room (Nat.le_of_ble_eq_true rfl)) dX5_iron_47 ⟨Nat.zero_le _, Nat.zero_le _⟩ (fun _ H locs _ hW => ?_)
        refine lv_goto (tgt := 59) hx hb dX5_iron_50 (by decide) ?_
        exact rt_i hQ hx hb hr hlocks hW dX5_iron_59 () (by (try simp only [ironV, ej, Int.toNat_natCast]); (repeat' split) <;> first | rfl | (exfalso; omega)) trivial (by (try simp only [ironG, ironF, ej, Int.toNat_natCast]); (repeat' split) <;> first | rfl | (exfalso; omega))
    · refine lv_iload_n hx hb dX5_iron_15 rfl (lv_at hl 1 rfl) ?_
      refine lv_iconst (v := nI 1) hx hb dX5_iron_16 (by decide +kernel) ?_
      refine zz_cne (tgt := 36) hx hb dX5_iron_17 (by decide) (rfl : what.toInt = what.toInt) (nI_toInt (n := 1) (by decide)) (fun c17_1 => ?_) (fun c17_1 => ?_)
      · refine lv_iconst (v := nI 0) hx hb dX5_iron_36 (by decide +kernel) ?_
        refine lv_istore_n (lv' := [(3, .int (nI 0)), (0, .ref (mo 0)), (1, .int what), (2, .int v)]) hx hb dX5_iron_37 rfl hl (by decide) rfl (fun ls hl => ?_)
        refine lv_iload_n hx hb dX5_iron_38 rfl (lv_at hl 0 rfl) ?_
        refine nn_zeq (tgt := 53) hx hb dX5_iron_39 (by decide) (by decide) (fun c39_4 => ?_) (fun c39_4 => ?_)
        · refine lv_aload_n hx hb dX5_iron_53 rfl (lv_at hl 1 rfl) ?_
          refine lv_ldc (v := -1000000001) hx hb hown (hts _ (List.mem_of_getElem? (i := 1) rfl)) dX5_iron_54 ?_
          refine cl_Vi (As := [.int (-1000000001)]) (rest := []) (C := RX5) ⟨hx, hb, hml, hown, hts⟩ (M_X5_finds l D cI cJ mo R F 0 (by decide) (-1000000001) (by decide +kernel)) (cwV 1 hts gX5_iron_X5_finds rfl rfl rfl qX5_finds ⟨Nat.le_of_ble_eq_true rfl, Nat.le_of_ble_eq_true rfl⟩) E0_good hK hA hW trivial [true, false, true] (fun _ => [mH mo R, mR cI (mo 1) G, aI cI (mo 4) 7 (up F 0 (F 0 + 1))]) rfl (fun _ => rfl) (fun _ => rfl) 0 0 rfl rfl rfl rfl hl.1 rfl (lv_room (Nat.le_of_ble_eq_true rfl)) dX5_iron_56 ⟨Nat.zero_le _, Nat.zero_le _⟩ (fun _ H locs _ hW => ?_)
          exact rt_i hQ hx hb hr hlocks hW dX5_iron_59 () (by (try simp only [ironV]); (repeat' split) <;> first | rfl | (exfalso; omega)) trivial (by (try simp only [ironG, ironF]); (repeat' split) <;> first | rfl | (exfalso; omega))
        · exfalso; omega
      · refine lv_iload_n hx hb dX5_iron_20 rfl (lv_at hl 2 rfl) ?_
        refine lv_i2l (v := (v).toInt64) hx hb dX5_iron_21 rfl ?_
        refine lv_iconst (v := nI 0) hx hb dX5_iron_22 (by decide +kernel) ?_
        refine lv_sipush (v := nI 200) hx hb dX5_iron_23 (by decide +kernel) ?_
        refine cl_Si (As := [.long ((v).toInt64), .int (nI 0), .int (nI 200)]) (rest := []) ⟨hx, hb, hml, hown, hts⟩ (M_X5_in2 l D cI cJ ((v).toInt64) (nI 0) (nI 200) v.toInt ((0 : Nat) : Int) ((200 : Nat) : Int) ((Int32.toInt_toInt64 _).trans rfl) (nI_toInt (n := 0) (by decide)) (nI_toInt (n := 200) (by decide))) (va_cwS 3 hts gX5_iron_X5_in rfl rfl rfl qX5_in ⟨Nat.le_of_ble_eq_true rfl, Nat.le_of_ble_eq_true rfl⟩) E0_good hK hA hW trivial [] (fun _ => [mH mo R, mR cI (mo 1) G, aI cI (mo 4) 7 F]) rfl (fun _ => rfl) (fun _ => rfl) rfl hl.1 rfl (lv_room (Nat.le_of_ble_eq_true rfl)) dX5_iron_26 ⟨Nat.zero_le _, Nat.zero_le _⟩ (fun _ H locs _ hW => ?_)
        have hin_ := inZ_or v.toInt ((0 : Nat) : Int) ((200 : Nat) : Int)
        refine nn_zeq (tgt := 36) hx hb dX5_iron_29 (by decide) (by omega) (fun c29_1 => ?_) (fun c29_1 => ?_)
        · refine lv_iconst (v := nI 0) hx hb dX5_iron_36 (by decide +kernel) ?_
          refine lv_istore_n (lv' := [(3, .int (nI 0)), (0, .ref (mo 0)), (1, .int what), (2, .int v)]) hx hb dX5_iron_37 rfl hl (by decide) rfl (fun ls hl => ?_)
          refine lv_iload_n hx hb dX5_iron_38 rfl (lv_at hl 0 rfl) ?_
          refine nn_zeq (tgt := 53) hx hb dX5_iron_39 (by decide) (by decide) (fun c39_5 => ?_) (fun c39_5 => ?_)
          · refine lv_aload_n hx hb dX5_iron_53 rfl (lv_at hl 1 rfl) ?_
            refine lv_ldc (v := -1000000001) hx hb hown (hts _ (List.mem_of_getElem? (i := 1) rfl)) dX5_iron_54 ?_
            refine cl_Vi (As := [.int (-1000000001)]) (rest := []) (C := RX5) ⟨hx, hb, hml, hown, hts⟩ (M_X5_finds l D cI cJ mo R F 0 (by decide) (-1000000001) (by decide +kernel)) (cwV 1 hts gX5_iron_X5_finds rfl rfl rfl qX5_finds ⟨Nat.le_of_ble_eq_true rfl, Nat.le_of_ble_eq_true rfl⟩) E0_good hK hA hW trivial [true, false, true] (fun _ => [mH mo R, mR cI (mo 1) G, aI cI (mo 4) 7 (up F 0 (F 0 + 1))]) rfl (fun _ => rfl) (fun _ => rfl) 0 0 rfl rfl rfl rfl hl.1 rfl (lv_room (Nat.le_of_ble_eq_true rfl)) dX5_iron_56 ⟨Nat.zero_le _, Nat.zero_le _⟩ (fun _ H locs _ hW => ?_)
            exact rt_i hQ hx hb hr hlocks hW dX5_iron_59 () (by (try simp only [ironV]); (repeat' split) <;> first | rfl | (exfalso; omega)) trivial (by (try simp only [ironG, ironF]); (repeat' split) <;> first | rfl | (exfalso; omega))
          · exfalso; omega
        · refine lv_iconst (v := nI 1) hx hb dX5_iron_32 (by decide +kernel) ?_
          refine lv_goto (tgt := 37) hx hb dX5_iron_33 (by decide) ?_
          refine lv_istore_n (lv' := [(3, .int (nI 1)), (0, .ref (mo 0)), (1, .int what), (2, .int v)]) hx hb dX5_iron_37 rfl hl (by decide) rfl (fun ls hl => ?_)
          refine lv_iload_n hx hb dX5_iron_38 rfl (lv_at hl 0 rfl) ?_
          refine nn_zeq (tgt := 53) hx hb dX5_iron_39 (by decide) (by decide) (fun c39_6 => ?_) (fun c39_6 => ?_)
          · exfalso; omega
          · have hlit1 : what = nI 1 := zz_eq.mpr ((show what.toInt = 1 by omega).trans (by decide +kernel))
            rw [hlit1] at hl
            obtain ⟨j, hj, ej⟩ : ∃ j : Nat, v = nI j ∧ v.toInt = (j : Int) := ⟨v.toInt.toNat, nI_ofZ rfl (by omega), by omega⟩
            rw [hj] at hl
            refine lv_aload_n hx hb dX5_iron_42 rfl (lv_at hl 1 rfl) ?_
            refine lv_iconst (v := nI 2) hx hb dX5_iron_43 (by decide +kernel) ?_
            refine lv_iload_n hx hb dX5_iron_44 rfl (lv_at hl 2 rfl) ?_
            refine nn_add hx hb dX5_iron_45 ?_
            refine lv_iload_n hx hb dX5_iron_46 rfl (lv_at hl 3 rfl) ?_
            refine cl_Vi (As := [.int (nI (2 + 1)), .int (nI j)]) (rest := []) (C := RX5) ⟨hx, hb, hml, hown, hts⟩ (M_X5_becomes l D cI cJ mo R G (2 + 1) 24 j (by decide) (by decide)) (cwV 2 hts gX5_iron_X5_becomes rfl rfl rfl qX5_becomes ⟨Nat.le_of_ble_eq_true rfl, Nat.le_of_ble_eq_true rfl⟩) E0_good hK hA hW trivial [true, true] (fun _ => [mH mo R, mR cI (mo 1) (up G 24 j), aI cI (mo 4) 7 F]) rfl (fun _ => rfl) (fun _ => rfl) 0 0 rfl rfl rfl rfl hl.1 rfl (lv_room (Nat.le_of_ble_eq_true rfl)) dX5_iron_47 ⟨Nat.zero_le _, Nat.zero_le _⟩ (fun _ H locs _ hW => ?_)
            refine lv_goto (tgt := 59) hx hb dX5_iron_50 (by decide) ?_
            exact rt_i hQ hx hb hr hlocks hW dX5_iron_59 () (by (try simp only [ironV, ej, Int.toNat_natCast]); (repeat' split) <;> first | rfl | (exfalso; omega)) trivial (by (try simp only [ironG, ironF, ej, Int.toNat_natCast]); (repeat' split) <;> first | rfl | (exfalso; omega))
abbrev rmX5_rain : Room := { frames := 1, cells := 0, slots := 0, locals := 23 }
set_option maxRecDepth 100000 in
set_option maxHeartbeats 4000000 in
theorem M_X5_rain (l : Launch) (D : va_G) (cI cJ : ClassId) (mo R G F : Nat → Nat) (hG : OkG 99999 G) (v : Int32) : CE E0 l D vwCl [(cI, .int), (cJ, .long)] yX5_rain wsX5_rain rmX5_rain [.ref (mo 0), .int v] [mH mo R, mR cI (mo 1) G, aI cI (mo 4) 7 F] (S := Unit) (some (.int (rainV G v.toInt))) (fun _ => True) (fun _ : Unit => [mH mo R, mR cI (mo 1) (rainG G v.toInt), aI cI (mo 4) 7 (rainF F v.toInt)]) 0 0 := by
  refine CE.ofW (cc := cX5_rain) (maxL := 2) (ret := (some .int)) (lv := [(0, .ref (mo 0)), (1, .int v)]) (by decide) rfl (Nat.le_of_ble_eq_true rfl) rfl ?_
  intro p e s m args below meth c ls A Q hQ hx hb hml hr hlocks hnm hown hts hK hA hE hW hl
  have hown : s.vm.findClass RX5 = some m.cls := hown
  obtain ⟨hg0, hg8, hg16, hg16b, hg24, hg32, hg40, hg48⟩ := hG.s
  refine lv_iload_n hx hb dX5_rain_0 rfl (lv_at hl 1 rfl) ?_
  refine lv_i2l (v := (v).toInt64) hx hb dX5_rain_1 rfl ?_
  refine lv_iconst (v := nI 0) hx hb dX5_rain_2 (by decide +kernel) ?_
  refine lv_bipush (v := nI 31) hx hb dX5_rain_3 (by decide +kernel) ?_
  refine cl_Si (As := [.long ((v).toInt64), .int (nI 0), .int (nI 31)]) (rest := []) ⟨hx, hb, hml, hown, hts⟩ (M_X5_in2 l D cI cJ ((v).toInt64) (nI 0) (nI 31) v.toInt ((0 : Nat) : Int) ((31 : Nat) : Int) ((Int32.toInt_toInt64 _).trans rfl) (nI_toInt (n := 0) (by decide)) (nI_toInt (n := 31) (by decide))) (va_cwS 3 hts gX5_rain_X5_in rfl rfl rfl qX5_in ⟨Nat.le_of_ble_eq_true rfl, Nat.le_of_ble_eq_true rfl⟩) E0_good hK hA hW trivial [] (fun _ => [mH mo R, mR cI (mo 1) G, aI cI (mo 4) 7 F]) rfl (fun _ => rfl) (fun _ => rfl) rfl hl.1 rfl (lv_room (Nat.le_of_ble_eq_true rfl)) dX5_rain_5 ⟨Nat.zero_le _, Nat.zero_le _⟩ (fun _ H locs _ hW => ?_)
  have hin_ := inZ_or v.toInt ((0 : Nat) : Int) ((31 : Nat) : Int)
  refine nn_zeq (tgt := 20) hx hb dX5_rain_8 (by decide) (by omega) (fun c8 => ?_) (fun c8 => ?_)
  · refine lv_aload_n hx hb dX5_rain_20 rfl (lv_at hl 0 rfl) ?_
    refine lv_ldc (v := -1000000001) hx hb hown (hts _ (List.mem_of_getElem? (i := 1) rfl)) dX5_rain_21 ?_
    refine cl_Vi (As := [.int (-1000000001)]) (rest := []) (C := RX5) ⟨hx, hb, hml, hown, hts⟩ (M_X5_finds l D cI cJ mo R F 0 (by decide) (-1000000001) (by decide +kernel)) (cwV 1 hts gX5_rain_X5_finds rfl rfl rfl qX5_finds ⟨Nat.le_of_ble_eq_true rfl, Nat.le_of_ble_eq_true rfl⟩) E0_good hK hA hW trivial [true, false, true] (fun _ => [mH mo R, mR cI (mo 1) G, aI cI (mo 4) 7 (up F 0 (F 0 + 1))]) rfl (fun _ => rfl) (fun _ => rfl) 0 0 rfl rfl rfl rfl hl.1 rfl (lv_room (Nat.le_of_ble_eq_true rfl)) dX5_rain_23 ⟨Nat.zero_le _, Nat.zero_le _⟩ (fun _ H locs _ hW => ?_)
    exact rt_i hQ hx hb hr hlocks hW dX5_rain_26 () (by (try simp only [rainV]); (repeat' split) <;> first | rfl | (exfalso; omega)) trivial (by (try simp only [rainG, rainF]); (repeat' split) <;> first | rfl | (exfalso; omega))
  · obtain ⟨j, hj, ej⟩ : ∃ j : Nat, v = nI j ∧ v.toInt = (j : Int) := ⟨v.toInt.toNat, nI_ofZ rfl (by omega), by omega⟩
    rw [hj] at hl
    refine lv_aload_n hx hb dX5_rain_11 rfl (lv_at hl 0 rfl) ?_
    refine lv_iconst (v := nI 1) hx hb dX5_rain_12 (by decide +kernel) ?_
    refine lv_iload_n hx hb dX5_rain_13 rfl (lv_at hl 1 rfl) ?_
    refine cl_Vi (As := [.int (nI 1), .int (nI j)]) (rest := []) (C := RX5) ⟨hx, hb, hml, hown, hts⟩ (M_X5_becomes l D cI cJ mo R G 1 8 j (by decide) (by decide)) (cwV 2 hts gX5_rain_X5_becomes rfl rfl rfl qX5_becomes ⟨Nat.le_of_ble_eq_true rfl, Nat.le_of_ble_eq_true rfl⟩) E0_good hK hA hW trivial [true, true] (fun _ => [mH mo R, mR cI (mo 1) (up G 8 j), aI cI (mo 4) 7 F]) rfl (fun _ => rfl) (fun _ => rfl) 0 0 rfl rfl rfl rfl hl.1 rfl (lv_room (Nat.le_of_ble_eq_true rfl)) dX5_rain_14 ⟨Nat.zero_le _, Nat.zero_le _⟩ (fun _ H locs _ hW => ?_)
    refine lv_goto (tgt := 26) hx hb dX5_rain_17 (by decide) ?_
    exact rt_i hQ hx hb hr hlocks hW dX5_rain_26 () (by (try simp only [rainV, ej, Int.toNat_natCast]); (repeat' split) <;> first | rfl | (exfalso; omega)) trivial (by (try simp only [rainG, rainF, ej, Int.toNat_natCast]); (repeat' split) <;> first | rfl | (exfalso; omega))
abbrev rmX5_now : Room := { frames := 5, cells := 0, slots := 0, locals := 112 }
set_option maxRecDepth 100000 in
set_option maxHeartbeats 4000000 in
theorem M_X5_now (l : Launch) (D : va_G) (cI cJ : ClassId) (mo R G F : Nat → Nat) (hG : OkG 99999 G) (v : Int32) : CE E0 l D vwCl [(cI, .int), (cJ, .long)] yX5_now wsX5_now rmX5_now [.ref (mo 0), .int v] [mH mo R, mR cI (mo 1) G, aI cI (mo 4) 7 F] (S := Unit) (some (.int (nowV G v.toInt))) (fun _ => True) (fun _ : Unit => [mH mo R, mR cI (mo 1) (G), aI cI (mo 4) 7 (nowF F v.toInt)]) 0 0 := by
  refine CE.ofW (cc := cX5_now) (maxL := 2) (ret := (some .int)) (lv := [(0, .ref (mo 0)), (1, .int v)]) (by decide) rfl (Nat.le_of_ble_eq_true rfl) rfl ?_
  intro p e s m args below meth c ls A Q hQ hx hb hml hr hlocks hnm hown hts hK hA hE hW hl
  have hown : s.vm.findClass RX5 = some m.cls := hown
  obtain ⟨hg0, hg8, hg16, hg16b, hg24, hg32, hg40, hg48⟩ := hG.s
  refine lv_iload_n hx hb dX5_now_0 rfl (lv_at hl 1 rfl) ?_
  rcases (show v.toInt = 0 ∨ v.toInt = 1 ∨ v.toInt = 2 ∨ v.toInt = 3 ∨ v.toInt = 4 ∨ v.toInt = 5 ∨ v.toInt = 6 ∨ v.toInt = 7 ∨ v.toInt = 8 ∨ v.toInt = 9 ∨ (v.toInt < 0 ∨ 9 < v.toInt) by omega) with c1 | c1 | c1 | c1 | c1 | c1 | c1 | c1 | c1 | c1 | c1
  · refine zz_tsI (off := 55) (tgt := 56) hx hb dX5_now_1 (rfl : v.toInt = v.toInt) 0 (by omega) (by omega) rfl (by decide) ?_
    refine lv_aload_n hx hb dX5_now_56 rfl (lv_at hl 0 rfl) ?_
    refine sg_get (ci := 4) (C := RX5) (T := TX5) (N := 15) (v := .ref (mo 1)) hx hb hts (fun _ h => List.mem_cons_of_mem _ (List.mem_append_right _ h)) hown hK hW 0 0 rfl rfl rfl 0 (by decide) (hts _ (List.mem_of_getElem? (i := 1) rfl)) rfl dX5_now_57 ?_
    refine lv_iconst (v := nI 0) hx hb dX5_now_60 (by decide +kernel) ?_
    refine sg_ild (v := nI (G 0)) hx hb hK hW 1 0 0 rfl rfl rfl (by decide) (by decide) rfl dX5_now_61 ?_
    exact rt_i hQ hx hb hr hlocks hW dX5_now_62 () (by (try simp only [nowV]); (repeat' split) <;> first | rfl | (exfalso; omega)) trivial (by (try simp only [nowF]); (repeat' split) <;> first | rfl | (exfalso; omega))
  · refine zz_tsI (off := 62) (tgt := 63) hx hb dX5_now_1 (rfl : v.toInt = v.toInt) 1 (by omega) (by omega) rfl (by decide) ?_
    refine lv_aload_n hx hb dX5_now_63 rfl (lv_at hl 0 rfl) ?_
    refine cl_Vi (As := []) (rest := []) (C := RX5) ⟨hx, hb, hml, hown, hts⟩ (M_X5_clock l D cI cJ mo R G 99999 (by decide) hG ) (cwV 0 hts gX5_now_X5_clock rfl rfl rfl qX5_clock ⟨Nat.le_of_ble_eq_true rfl, Nat.le_of_ble_eq_true rfl⟩) E0_good hK hA hW trivial [true, true] (fun _ => [mH mo R, mR cI (mo 1) G, aI cI (mo 4) 7 F]) rfl (fun _ => rfl) (fun _ => rfl) 0 0 rfl rfl rfl rfl hl.1 rfl (lv_room (Nat.le_of_ble_eq_true rfl)) dX5_now_64 ⟨Nat.zero_le _, Nat.zero_le _⟩ (fun _ H locs _ hW => ?_)
    exact rt_i hQ hx hb hr hlocks hW dX5_now_67 () (by (try simp only [nowV]); (repeat' split) <;> first | rfl | (exfalso; omega)) trivial (by (try simp only [nowF]); (repeat' split) <;> first | rfl | (exfalso; omega))
  · refine zz_tsI (off := 67) (tgt := 68) hx hb dX5_now_1 (rfl : v.toInt = v.toInt) 2 (by omega) (by omega) rfl (by decide) ?_
    refine lv_aload_n hx hb dX5_now_68 rfl (lv_at hl 0 rfl) ?_
    refine cl_Vi (As := []) (rest := []) (C := RX5) ⟨hx, hb, hml, hown, hts⟩ (M_X5_isNight l D cI cJ mo R G 99999 (by decide) hG ) (cwV 0 hts gX5_now_X5_isNight rfl rfl rfl qX5_isNight ⟨Nat.le_of_ble_eq_true rfl, Nat.le_of_ble_eq_true rfl⟩) E0_good hK hA hW trivial [true, true] (fun _ => [mH mo R, mR cI (mo 1) G, aI cI (mo 4) 7 F]) rfl (fun _ => rfl) (fun _ => rfl) 0 0 rfl rfl rfl rfl hl.1 rfl (lv_room (Nat.le_of_ble_eq_true rfl)) dX5_now_69 ⟨Nat.zero_le _, Nat.zero_le _⟩ (fun _ H locs _ hW => ?_)
    have hni_ := nightN_le G
    refine nn_zeq (tgt := 79) hx hb dX5_now_72 (by decide) (by omega) (fun c72 => ?_) (fun c72 => ?_)
    · refine lv_iconst (v := nI 0) hx hb dX5_now_79 (by decide +kernel) ?_
      exact rt_i hQ hx hb hr hlocks hW dX5_now_80 () (by (try simp only [nowV]); (repeat' split) <;> first | rfl | (exact congrArg (fun z => some (Value.int (nI z))) (by omega)) | (exfalso; omega)) trivial (by (try simp only [nowF]); (repeat' split) <;> first | rfl | (exfalso; omega))
    · refine lv_iconst (v := nI 1) hx hb dX5_now_75 (by decide +kernel) ?_
      refine lv_goto (tgt := 80) hx hb dX5_now_76 (by decide) ?_
      exact rt_i hQ hx hb hr hlocks hW dX5_now_80 () (by (try simp only [nowV]); (repeat' split) <;> first | rfl | (exact congrArg (fun z => some (Value.int (nI z))) (by omega)) | (exfalso; omega)) trivial (by (try simp only [nowF]); (repeat' split) <;> first | rfl | (exfalso; omega))
  · refine zz_tsI (off := 80) (tgt := 81) hx hb dX5_now_1 (rfl : v.toInt = v.toInt) 3 (by omega) (by omega) rfl (by decide) ?_
    refine lv_aload_n hx hb dX5_now_81 rfl (lv_at hl 0 rfl) ?_
    refine cl_Vi (As := []) (rest := []) (C := RX5) ⟨hx, hb, hml, hown, hts⟩ (M_X5_isWet l D cI cJ mo R G 99999 (by decide) hG ) (cwV 0 hts gX5_now_X5_isWet rfl rfl rfl qX5_isWet ⟨Nat.le_of_ble_eq_true rfl, Nat.le_of_ble_eq_true rfl⟩) E0_good hK hA hW trivial [true, true] (fun _ => [mH mo R, mR cI (mo 1) G, aI cI (mo 4) 7 F]) rfl (fun _ => rfl) (fun _ => rfl) 0 0 rfl rfl rfl rfl hl.1 rfl (lv_room (Nat.le_of_ble_eq_true rfl)) dX5_now_82 ⟨Nat.zero_le _, Nat.zero_le _⟩ (fun _ H locs _ hW => ?_)
    have hwe_ := wetN_le G
    refine nn_zeq (tgt := 92) hx hb dX5_now_85 (by decide) (by omega) (fun c85 => ?_) (fun c85 => ?_)
    · refine lv_iconst (v := nI 0) hx hb dX5_now_92 (by decide +kernel) ?_
      exact rt_i hQ hx hb hr hlocks hW dX5_now_93 () (by (try simp only [nowV]); (repeat' split) <;> first | rfl | (exact congrArg (fun z => some (Value.int (nI z))) (by omega)) | (exfalso; omega)) trivial (by (try simp only [nowF]); (repeat' split) <;> first | rfl | (exfalso; omega))
    · refine lv_iconst (v := nI 1) hx hb dX5_now_88 (by decide +kernel) ?_
      refine lv_goto (tgt := 93) hx hb dX5_now_89 (by decide) ?_
      exact rt_i hQ hx hb hr hlocks hW dX5_now_93 () (by (try simp only [nowV]); (repeat' split) <;> first | rfl | (exact congrArg (fun z => some (Value.int (nI z))) (by omega)) | (exfalso; omega)) trivial (by (try simp only [nowF]); (repeat' split) <;> first | rfl | (exfalso; omega))
  · refine zz_tsI (off := 93) (tgt := 94) hx hb dX5_now_1 (rfl : v.toInt = v.toInt) 4 (by omega) (by omega) rfl (by decide) ?_
    have hlit1 : v = nI 4 := zz_eq.mpr ((show v.toInt = 4 by omega).trans (by decide +kernel))
    rw [hlit1] at hl
    refine lv_aload_n hx hb dX5_now_94 rfl (lv_at hl 0 rfl) ?_
    refine sg_get (ci := 4) (C := RX5) (T := TX5) (N := 15) (v := .ref (mo 1)) hx hb hts (fun _ h => List.mem_cons_of_mem _ (List.mem_append_right _ h)) hown hK hW 0 0 rfl rfl rfl 0 (by decide) (hts _ (List.mem_of_getElem? (i := 1) rfl)) rfl dX5_now_95 ?_
    refine lv_iconst (v := nI 3) hx hb dX5_now_98 (by decide +kernel) ?_
    refine lv_iload_n hx hb dX5_now_99 rfl (lv_at hl 1 rfl) ?_
    refine nn_add hx hb dX5_now_100 ?_
    refine lv_iconst (v := nI 4) hx hb dX5_now_101 (by decide +kernel) ?_
    refine nn_sub hx hb dX5_now_102 (by omega) ?_
    refine sg_ild (v := nI (G (mk ((3 + 4) - 4)))) hx hb hK hW 1 0 0 rfl rfl rfl (by omega) (by decide) rfl dX5_now_103 ?_
    exact rt_i hQ hx hb hr hlocks hW dX5_now_104 () (by (try simp only [nowV]); (repeat' split) <;> first | rfl | (exfalso; omega)) trivial (by (try simp only [nowF]); (repeat' split) <;> first | rfl | (exfalso; omega))
  · refine zz_tsI (off := 93) (tgt := 94) hx hb dX5_now_1 (rfl : v.toInt = v.toInt) 5 (by omega) (by omega) rfl (by decide) ?_
    have hlit1 : v = nI 5 := zz_eq.mpr ((show v.toInt = 5 by omega).trans (by decide +kernel))
    rw [hlit1] at hl
    refine lv_aload_n hx hb dX5_now_94 rfl (lv_at hl 0 rfl) ?_
    refine sg_get (ci := 4) (C := RX5) (T := TX5) (N := 15) (v := .ref (mo 1)) hx hb hts (fun _ h => List.mem_cons_of_mem _ (List.mem_append_right _ h)) hown hK hW 0 0 rfl rfl rfl 0 (by decide) (hts _ (List.mem_of_getElem? (i := 1) rfl)) rfl dX5_now_95 ?_
    refine lv_iconst (v := nI 3) hx hb dX5_now_98 (by decide +kernel) ?_
    refine lv_iload_n hx hb dX5_now_99 rfl (lv_at hl 1 rfl) ?_
    refine nn_add hx hb dX5_now_100 ?_
    refine lv_iconst (v := nI 4) hx hb dX5_now_101 (by decide +kernel) ?_
    refine nn_sub hx hb dX5_now_102 (by omega) ?_
    refine sg_ild (v := nI (G (mk ((3 + 5) - 4)))) hx hb hK hW 1 0 0 rfl rfl rfl (by omega) (by decide) rfl dX5_now_103 ?_
    exact rt_i hQ hx hb hr hlocks hW dX5_now_104 () (by (try simp only [nowV]); (repeat' split) <;> first | rfl | (exfalso; omega)) trivial (by (try simp only [nowF]); (repeat' split) <;> first | rfl | (exfalso; omega))
  · refine zz_tsI (off := 104) (tgt := 105) hx hb dX5_now_1 (rfl : v.toInt = v.toInt) 6 (by omega) (by omega) rfl (by decide) ?_
    refine lv_aload_n hx hb dX5_now_105 rfl (lv_at hl 0 rfl) ?_
    refine cl_Vi (As := []) (rest := []) (C := RX5) ⟨hx, hb, hml, hown, hts⟩ (M_X5_weight l D cI cJ mo R G 99999 (by decide) hG ) (cwV 0 hts gX5_now_X5_weight rfl rfl rfl qX5_weight ⟨Nat.le_of_ble_eq_true rfl, Nat.le_of_ble_eq_true rfl⟩) E0_good hK hA hW trivial [true, true] (fun _ => [mH mo R, mR cI (mo 1) G, aI cI (mo 4) 7 F]) rfl (fun _ => rfl) (fun _ => rfl) 0 0 rfl rfl rfl rfl hl.1 rfl (lv_room (Nat.le_of_ble_eq_true rfl)) dX5_now_106 ⟨Nat.zero_le _, Nat.zero_le _⟩ (fun _ H locs _ hW => ?_)
    exact rt_i hQ hx hb hr hlocks hW dX5_now_109 () (by (try simp only [nowV]); (repeat' split) <;> first | rfl | (exfalso; omega)) trivial (by (try simp only [nowF]); (repeat' split) <;> first | rfl | (exfalso; omega))
  · refine zz_tsI (off := 109) (tgt := 110) hx hb dX5_now_1 (rfl : v.toInt = v.toInt) 7 (by omega) (by omega) rfl (by decide) ?_
    refine lv_aload_n hx hb dX5_now_110 rfl (lv_at hl 0 rfl) ?_
    refine cl_Vi (As := []) (rest := []) (C := RX5) ⟨hx, hb, hml, hown, hts⟩ (M_X5_push l D cI cJ mo R G 99999 (by decide) hG ) (cwV 0 hts gX5_now_X5_push rfl rfl rfl qX5_push ⟨Nat.le_of_ble_eq_true rfl, Nat.le_of_ble_eq_true rfl⟩) E0_good hK hA hW trivial [true, true] (fun _ => [mH mo R, mR cI (mo 1) G, aI cI (mo 4) 7 F]) rfl (fun _ => rfl) (fun _ => rfl) 0 0 rfl rfl rfl rfl hl.1 rfl (lv_room (Nat.le_of_ble_eq_true rfl)) dX5_now_111 ⟨Nat.zero_le _, Nat.zero_le _⟩ (fun _ H locs _ hW => ?_)
    exact rt_i hQ hx hb hr hlocks hW dX5_now_114 () (by (try simp only [nowV]); (repeat' split) <;> first | rfl | (exfalso; omega)) trivial (by (try simp only [nowF]); (repeat' split) <;> first | rfl | (exfalso; omega))
  · refine zz_tsI (off := 114) (tgt := 115) hx hb dX5_now_1 (rfl : v.toInt = v.toInt) 8 (by omega) (by omega) rfl (by decide) ?_
    refine lv_aload_n hx hb dX5_now_115 rfl (lv_at hl 0 rfl) ?_
    refine cl_Vi (As := []) (rest := []) (C := RX5) ⟨hx, hb, hml, hown, hts⟩ (M_X5_outOnes l D cI cJ mo R G 99999 (by decide) hG ) (cwV 0 hts gX5_now_X5_outOnes rfl rfl rfl qX5_outOnes ⟨Nat.le_of_ble_eq_true rfl, Nat.le_of_ble_eq_true rfl⟩) E0_good hK hA hW trivial [true, true] (fun _ => [mH mo R, mR cI (mo 1) G, aI cI (mo 4) 7 F]) rfl (fun _ => rfl) (fun _ => rfl) 0 0 rfl rfl rfl rfl hl.1 rfl (lv_room (Nat.le_of_ble_eq_true rfl)) dX5_now_116 ⟨Nat.zero_le _, Nat.zero_le _⟩ (fun _ H locs _ hW => ?_)
    have hos_ := outS_lt (hG)
    exact rt_i hQ hx hb hr hlocks hW dX5_now_119 () (by (try simp only [nowV]); (repeat' split) <;> first | rfl | (exfalso; omega)) trivial (by (try simp only [nowF]); (repeat' split) <;> first | rfl | (exfalso; omega))
  · refine zz_tsI (off := 119) (tgt := 120) hx hb dX5_now_1 (rfl : v.toInt = v.toInt) 9 (by omega) (by omega) rfl (by decide) ?_
    refine lv_aload_n hx hb dX5_now_120 rfl (lv_at hl 0 rfl) ?_
    refine cl_Vi (As := []) (rest := []) (C := RX5) ⟨hx, hb, hml, hown, hts⟩ (M_X5_riders l D cI cJ mo R G 99999 (by decide) hG ) (cwV 0 hts gX5_now_X5_riders rfl rfl rfl qX5_riders ⟨Nat.le_of_ble_eq_true rfl, Nat.le_of_ble_eq_true rfl⟩) E0_good hK hA hW trivial [true, true] (fun _ => [mH mo R, mR cI (mo 1) G, aI cI (mo 4) 7 F]) rfl (fun _ => rfl) (fun _ => rfl) 0 0 rfl rfl rfl rfl hl.1 rfl (lv_room (Nat.le_of_ble_eq_true rfl)) dX5_now_121 ⟨Nat.zero_le _, Nat.zero_le _⟩ (fun _ H locs _ hW => ?_)
    have hrs_ := onS_lt (hG)
    exact rt_i hQ hx hb hr hlocks hW dX5_now_124 () (by (try simp only [nowV]); (repeat' split) <;> first | rfl | (exfalso; omega)) trivial (by (try simp only [nowF]); (repeat' split) <;> first | rfl | (exfalso; omega))
  · refine zz_tsO (tgt := 125) hx hb dX5_now_1 (rfl : v.toInt = v.toInt) (by omega) (by decide) ?_
    refine lv_aload_n hx hb dX5_now_125 rfl (lv_at hl 0 rfl) ?_
    refine lv_ldc (v := -1000000001) hx hb hown (hts _ (List.mem_of_getElem? (i := 2) rfl)) dX5_now_126 ?_
    refine cl_Vi (As := [.int (-1000000001)]) (rest := []) (C := RX5) ⟨hx, hb, hml, hown, hts⟩ (M_X5_finds l D cI cJ mo R F 0 (by decide) (-1000000001) (by decide +kernel)) (cwV 1 hts gX5_now_X5_finds rfl rfl rfl qX5_finds ⟨Nat.le_of_ble_eq_true rfl, Nat.le_of_ble_eq_true rfl⟩) E0_good hK hA hW trivial [true, false, true] (fun _ => [mH mo R, mR cI (mo 1) G, aI cI (mo 4) 7 (up F 0 (F 0 + 1))]) rfl (fun _ => rfl) (fun _ => rfl) 0 0 rfl rfl rfl rfl hl.1 rfl (lv_room (Nat.le_of_ble_eq_true rfl)) dX5_now_128 ⟨Nat.zero_le _, Nat.zero_le _⟩ (fun _ H locs _ hW => ?_)
    exact rt_i hQ hx hb hr hlocks hW dX5_now_131 () (by (try simp only [nowV]); (repeat' split) <;> first | rfl | (exfalso; omega)) trivial (by (try simp only [nowF]); (repeat' split) <;> first | rfl | (exfalso; omega))
abbrev rmX5_mother : Room := { frames := 2, cells := 0, slots := 0, locals := 47 }
set_option maxRecDepth 100000 in
set_option maxHeartbeats 4000000 in
theorem M_X5_mother (l : Launch) (D : va_G) (cI cJ : ClassId) (mo R G F : Nat → Nat) (hG : OkG 99999 G) (v : Int32) : CE E0 l D vwCl [(cI, .int), (cJ, .long)] yX5_mother wsX5_mother rmX5_mother [.ref (mo 0), .int v] [mH mo R, mR cI (mo 1) G, aI cI (mo 4) 7 F] (S := Unit) (some (.int (motherV G v.toInt))) (fun _ => True) (fun _ : Unit => [mH mo R, mR cI (mo 1) (motherG G v.toInt), aI cI (mo 4) 7 (motherF G F v.toInt)]) 0 0 := by
  refine CE.ofW (cc := cX5_mother) (maxL := 2) (ret := (some .int)) (lv := [(0, .ref (mo 0)), (1, .int v)]) (by decide) rfl (Nat.le_of_ble_eq_true rfl) rfl ?_
  intro p e s m args below meth c ls A Q hQ hx hb hml hr hlocks hnm hown hts hK hA hE hW hl
  have hown : s.vm.findClass RX5 = some m.cls := hown
  obtain ⟨hg0, hg8, hg16, hg16b, hg24, hg32, hg40, hg48⟩ := hG.s
  refine lv_iload_n hx hb dX5_mother_0 rfl (lv_at hl 1 rfl) ?_
  refine lv_i2l (v := (v).toInt64) hx hb dX5_mother_1 rfl ?_
  refine lv_iconst (v := nI 0) hx hb dX5_mother_2 (by decide +kernel) ?_
  refine lv_iconst (v := nI 5) hx hb dX5_mother_3 (by decide +kernel) ?_
  refine cl_Si (As := [.long ((v).toInt64), .int (nI 0), .int (nI 5)]) (rest := []) ⟨hx, hb, hml, hown, hts⟩ (M_X5_in2 l D cI cJ ((v).toInt64) (nI 0) (nI 5) v.toInt ((0 : Nat) : Int) ((5 : Nat) : Int) ((Int32.toInt_toInt64 _).trans rfl) (nI_toInt (n := 0) (by decide)) (nI_toInt (n := 5) (by decide))) (va_cwS 3 hts gX5_mother_X5_in rfl rfl rfl qX5_in ⟨Nat.le_of_ble_eq_true rfl, Nat.le_of_ble_eq_true rfl⟩) E0_good hK hA hW trivial [] (fun _ => [mH mo R, mR cI (mo 1) G, aI cI (mo 4) 7 F]) rfl (fun _ => rfl) (fun _ => rfl) rfl hl.1 rfl (lv_room (Nat.le_of_ble_eq_true rfl)) dX5_mother_4 ⟨Nat.zero_le _, Nat.zero_le _⟩ (fun _ H locs _ hW => ?_)
  have hin_ := inZ_or v.toInt ((0 : Nat) : Int) ((5 : Nat) : Int)
  refine nn_zne (tgt := 17) hx hb dX5_mother_7 (by decide) (by omega) (fun c7 => ?_) (fun c7 => ?_)
  · refine lv_aload_n hx hb dX5_mother_17 rfl (lv_at hl 0 rfl) ?_
    refine sg_get (ci := 4) (C := RX5) (T := TX5) (N := 15) (v := .ref (mo 1)) hx hb hts (fun _ h => List.mem_cons_of_mem _ (List.mem_append_right _ h)) hown hK hW 0 0 rfl rfl rfl 0 (by decide) (hts _ (List.mem_of_getElem? (i := 2) rfl)) rfl dX5_mother_18 ?_
    refine lv_iconst (v := nI 5) hx hb dX5_mother_21 (by decide +kernel) ?_
    refine sg_ild (v := nI (G 40)) hx hb hK hW 1 0 0 rfl rfl rfl (by decide) (by decide) rfl dX5_mother_22 ?_
    refine lv_bipush (v := nI 8) hx hb dX5_mother_23 (by decide +kernel) ?_
    refine nn_cne (tgt := 37) hx hb dX5_mother_25 (by decide) (by omega) (by decide) (fun c25 => ?_) (fun c25 => ?_)
    · obtain ⟨j, hj, ej⟩ : ∃ j : Nat, v = nI j ∧ v.toInt = (j : Int) := ⟨v.toInt.toNat, nI_ofZ rfl (by omega), by omega⟩
      rw [hj] at hl
      refine lv_aload_n hx hb dX5_mother_37 rfl (lv_at hl 0 rfl) ?_
      refine lv_iload_n hx hb dX5_mother_38 rfl (lv_at hl 1 rfl) ?_
      refine lv_bipush (v := nI 10) hx hb dX5_mother_39 (by decide +kernel) ?_
      refine lv_iconst (v := nI 0) hx hb dX5_mother_41 (by decide +kernel) ?_
      refine cl_Vi (As := [.int (nI j), .int (nI 10), .int (nI 0)]) (rest := []) (C := RX5) ⟨hx, hb, hml, hown, hts⟩ (M_X5_comesAs l D cI cJ mo R G 99999 (by decide) hG j 10 0 (by omega)) (cwV 3 hts gX5_mother_X5_comesAs rfl rfl rfl qX5_comesAs ⟨Nat.le_of_ble_eq_true rfl, Nat.le_of_ble_eq_true rfl⟩) E0_good hK hA hW trivial [true, true] (fun _ => [mH mo R, mR cI (mo 1) (addM G j 10 0), aI cI (mo 4) 7 F]) rfl (fun _ => rfl) (fun _ => rfl) 0 0 rfl rfl rfl rfl hl.1 rfl (lv_room (Nat.le_of_ble_eq_true rfl)) dX5_mother_42 ⟨Nat.zero_le _, Nat.zero_le _⟩ (fun _ H locs _ hW => ?_)
      exact rt_i hQ hx hb hr hlocks hW dX5_mother_45 () (by (try simp only [motherV, ej, Int.toNat_natCast]); (repeat' split) <;> first | rfl | (exfalso; omega)) trivial (by (try simp only [motherG, motherF, ej, Int.toNat_natCast]); (repeat' split) <;> first | rfl | (exfalso; omega))
    · refine lv_aload_n hx hb dX5_mother_28 rfl (lv_at hl 0 rfl) ?_
      refine lv_ldc (v := -1000000002) hx hb hown (hts _ (List.mem_of_getElem? (i := 3) rfl)) dX5_mother_29 ?_
      refine cl_Vi (As := [.int (-1000000002)]) (rest := []) (C := RX5) ⟨hx, hb, hml, hown, hts⟩ (M_X5_finds l D cI cJ mo R F 1 (by decide) (-1000000002) (by decide +kernel)) (cwV 1 hts gX5_mother_X5_finds rfl rfl rfl qX5_finds ⟨Nat.le_of_ble_eq_true rfl, Nat.le_of_ble_eq_true rfl⟩) E0_good hK hA hW trivial [true, false, true] (fun _ => [mH mo R, mR cI (mo 1) G, aI cI (mo 4) 7 (up F 1 (F 1 + 1))]) rfl (fun _ => rfl) (fun _ => rfl) 0 0 rfl rfl rfl rfl hl.1 rfl (lv_room (Nat.le_of_ble_eq_true rfl)) dX5_mother_31 ⟨Nat.zero_le _, Nat.zero_le _⟩ (fun _ H locs _ hW => ?_)
      refine lv_goto (tgt := 45) hx hb dX5_mother_34 (by decide) ?_
      exact rt_i hQ hx hb hr hlocks hW dX5_mother_45 () (by (try simp only [motherV]); (repeat' split) <;> first | rfl | (exfalso; omega)) trivial (by (try simp only [motherG, motherF]); (repeat' split) <;> first | rfl | (exfalso; omega))
  · refine lv_aload_n hx hb dX5_mother_10 rfl (lv_at hl 0 rfl) ?_
    refine lv_ldc (v := -1000000001) hx hb hown (hts _ (List.mem_of_getElem? (i := 1) rfl)) dX5_mother_11 ?_
    refine cl_Vi (As := [.int (-1000000001)]) (rest := []) (C := RX5) ⟨hx, hb, hml, hown, hts⟩ (M_X5_finds l D cI cJ mo R F 0 (by decide) (-1000000001) (by decide +kernel)) (cwV 1 hts gX5_mother_X5_finds rfl rfl rfl qX5_finds ⟨Nat.le_of_ble_eq_true rfl, Nat.le_of_ble_eq_true rfl⟩) E0_good hK hA hW trivial [true, false, true] (fun _ => [mH mo R, mR cI (mo 1) G, aI cI (mo 4) 7 (up F 0 (F 0 + 1))]) rfl (fun _ => rfl) (fun _ => rfl) 0 0 rfl rfl rfl rfl hl.1 rfl (lv_room (Nat.le_of_ble_eq_true rfl)) dX5_mother_13 ⟨Nat.zero_le _, Nat.zero_le _⟩ (fun _ H locs _ hW => ?_)
    exact rt_i hQ hx hb hr hlocks hW dX5_mother_16 () (by (try simp only [motherV]); (repeat' split) <;> first | rfl | (exfalso; omega)) trivial (by (try simp only [motherG, motherF]); (repeat' split) <;> first | rfl | (exfalso; omega))
abbrev rmX5_of : Room := { frames := 4, cells := 0, slots := 0, locals := 90 }
set_option maxRecDepth 100000 in
set_option maxHeartbeats 4000000 in
theorem M_X5_of (l : Launch) (D : va_G) (cI cJ : ClassId) (mo R G F : Nat → Nat) (hG : OkG 99999 G) (v w : Int32) : CE E0 l D vwCl [(cI, .int), (cJ, .long)] yX5_of wsX5_of rmX5_of [.ref (mo 0), .int v, .int w] [mH mo R, mR cI (mo 1) G, aI cI (mo 4) 7 F] (S := Unit) (some (.int (ofV G v.toInt w.toInt))) (fun _ => True) (fun _ : Unit => [mH mo R, mR cI (mo 1) (G), aI cI (mo 4) 7 (ofF G F v.toInt w.toInt)]) 0 0 := by
  refine CE.ofW (cc := cX5_of) (maxL := 3) (ret := (some .int)) (lv := [(0, .ref (mo 0)), (1, .int v), (2, .int w)]) (by decide) rfl (Nat.le_of_ble_eq_true rfl) rfl ?_
  intro p e s m args below meth c ls A Q hQ hx hb hml hr hlocks hnm hown hts hK hA hE hW hl
  have hown : s.vm.findClass RX5 = some m.cls := hown
  obtain ⟨hg0, hg8, hg16, hg16b, hg24, hg32, hg40, hg48⟩ := hG.s
  refine lv_aload_n hx hb dX5_of_0 rfl (lv_at hl 0 rfl) ?_
  refine lv_iload_n hx hb dX5_of_1 rfl (lv_at hl 1 rfl) ?_
  refine cl_Vi (As := [.int v]) (rest := []) (C := RX5) ⟨hx, hb, hml, hown, hts⟩ (M_X5_isMother l D cI cJ mo R G 99999 (by decide) hG v) (cwV 1 hts gX5_of_X5_isMother rfl rfl rfl qX5_isMother ⟨Nat.le_of_ble_eq_true rfl, Nat.le_of_ble_eq_true rfl⟩) E0_good hK hA hW trivial [true, true] (fun _ => [mH mo R, mR cI (mo 1) G, aI cI (mo 4) 7 F]) rfl (fun _ => rfl) (fun _ => rfl) 0 0 rfl rfl rfl rfl hl.1 rfl (lv_room (Nat.le_of_ble_eq_true rfl)) dX5_of_2 ⟨Nat.zero_le _, Nat.zero_le _⟩ (fun _ H locs _ hW => ?_)
  have him_ := inN_or v (G 40)
  refine nn_zeq (tgt := 19) hx hb dX5_of_5 (by decide) (by omega) (fun c5 => ?_) (fun c5 => ?_)
  · refine lv_aload_n hx hb dX5_of_19 rfl (lv_at hl 0 rfl) ?_
    refine lv_ldc (v := -1000000001) hx hb hown (hts _ (List.mem_of_getElem? (i := 1) rfl)) dX5_of_20 ?_
    refine cl_Vi (As := [.int (-1000000001)]) (rest := []) (C := RX5) ⟨hx, hb, hml, hown, hts⟩ (M_X5_finds l D cI cJ mo R F 0 (by decide) (-1000000001) (by decide +kernel)) (cwV 1 hts gX5_of_X5_finds rfl rfl rfl qX5_finds ⟨Nat.le_of_ble_eq_true rfl, Nat.le_of_ble_eq_true rfl⟩) E0_good hK hA hW trivial [true, false, true] (fun _ => [mH mo R, mR cI (mo 1) G, aI cI (mo 4) 7 (up F 0 (F 0 + 1))]) rfl (fun _ => rfl) (fun _ => rfl) 0 0 rfl rfl rfl rfl hl.1 rfl (lv_room (Nat.le_of_ble_eq_true rfl)) dX5_of_22 ⟨Nat.zero_le _, Nat.zero_le _⟩ (fun _ H locs _ hW => ?_)
    exact rt_i hQ hx hb hr hlocks hW dX5_of_25 () (by (try simp only [ofV]); (repeat' split) <;> first | rfl | (exact congrArg (fun z => some (Value.int (nI z))) (by omega)) | (exfalso; omega)) trivial (by (try simp only [ofF]); (repeat' split) <;> first | rfl | (exfalso; omega))
  · refine lv_iload_n hx hb dX5_of_8 rfl (lv_at hl 2 rfl) ?_
    refine lv_i2l (v := (w).toInt64) hx hb dX5_of_9 rfl ?_
    refine lv_iconst (v := nI 0) hx hb dX5_of_10 (by decide +kernel) ?_
    refine lv_bipush (v := nI 6) hx hb dX5_of_11 (by decide +kernel) ?_
    refine cl_Si (As := [.long ((w).toInt64), .int (nI 0), .int (nI 6)]) (rest := []) ⟨hx, hb, hml, hown, hts⟩ (M_X5_in2 l D cI cJ ((w).toInt64) (nI 0) (nI 6) w.toInt ((0 : Nat) : Int) ((6 : Nat) : Int) ((Int32.toInt_toInt64 _).trans rfl) (nI_toInt (n := 0) (by decide)) (nI_toInt (n := 6) (by decide))) (va_cwS 3 hts gX5_of_X5_in rfl rfl rfl qX5_in ⟨Nat.le_of_ble_eq_true rfl, Nat.le_of_ble_eq_true rfl⟩) E0_good hK hA hW trivial [] (fun _ => [mH mo R, mR cI (mo 1) G, aI cI (mo 4) 7 F]) rfl (fun _ => rfl) (fun _ => rfl) rfl hl.1 rfl (lv_room (Nat.le_of_ble_eq_true rfl)) dX5_of_13 ⟨Nat.zero_le _, Nat.zero_le _⟩ (fun _ H locs _ hW => ?_)
    have hin_ := inZ_or w.toInt ((0 : Nat) : Int) ((6 : Nat) : Int)
    refine nn_zne (tgt := 26) hx hb dX5_of_16 (by decide) (by omega) (fun c16 => ?_) (fun c16 => ?_)
    · obtain ⟨j, hj, ej⟩ : ∃ j : Nat, v = nI j ∧ v.toInt = (j : Int) := ⟨v.toInt.toNat, nI_ofZ rfl (by omega), by omega⟩
      rw [hj] at hl
      refine lv_iload_n hx hb dX5_of_26 rfl (lv_at hl 2 rfl) ?_
      rcases (show w.toInt = 4 ∨ w.toInt = 5 ∨ w.toInt = 6 ∨ (w.toInt < 4 ∨ 6 < w.toInt) by omega) with c27 | c27 | c27 | c27
      · refine zz_tsI (off := 25) (tgt := 52) hx hb dX5_of_27 (rfl : w.toInt = w.toInt) 0 (by omega) (by omega) rfl (by decide) ?_
        refine lv_aload_n hx hb dX5_of_52 rfl (lv_at hl 0 rfl) ?_
        refine lv_iload_n hx hb dX5_of_53 rfl (lv_at hl 1 rfl) ?_
        refine cl_Vi (As := [.int (nI j)]) (rest := []) (C := RX5) ⟨hx, hb, hml, hown, hts⟩ (M_X5_keepsBack l D cI cJ mo R G 99999 (by decide) hG j (by omega)) (cwV 1 hts gX5_of_X5_keepsBack rfl rfl rfl qX5_keepsBack ⟨Nat.le_of_ble_eq_true rfl, Nat.le_of_ble_eq_true rfl⟩) E0_good hK hA hW trivial [true, true] (fun _ => [mH mo R, mR cI (mo 1) G, aI cI (mo 4) 7 F]) rfl (fun _ => rfl) (fun _ => rfl) 0 0 rfl rfl rfl rfl hl.1 rfl (lv_room (Nat.le_of_ble_eq_true rfl)) dX5_of_54 ⟨Nat.zero_le _, Nat.zero_le _⟩ (fun _ H locs _ hW => ?_)
        exact rt_i hQ hx hb hr hlocks hW dX5_of_57 () (by (try simp only [ofV, ej, Int.toNat_natCast]); (repeat' split) <;> first | rfl | (exact congrArg (fun z => some (Value.int (nI z))) (by omega)) | (exfalso; omega)) trivial (by (try simp only [ofF, ej, Int.toNat_natCast]); (repeat' split) <;> first | rfl | (exfalso; omega))
      · refine zz_tsI (off := 31) (tgt := 58) hx hb dX5_of_27 (rfl : w.toInt = w.toInt) 1 (by omega) (by omega) rfl (by decide) ?_
        refine lv_aload_n hx hb dX5_of_58 rfl (lv_at hl 0 rfl) ?_
        refine lv_iload_n hx hb dX5_of_59 rfl (lv_at hl 1 rfl) ?_
        refine cl_Vi (As := [.int (nI j)]) (rest := []) (C := RX5) ⟨hx, hb, hml, hown, hts⟩ (M_X5_doesSpeak l D cI cJ mo R G 99999 (by decide) hG j (by omega)) (cwV 1 hts gX5_of_X5_doesSpeak rfl rfl rfl qX5_doesSpeak ⟨Nat.le_of_ble_eq_true rfl, Nat.le_of_ble_eq_true rfl⟩) E0_good hK hA hW trivial [true, true] (fun _ => [mH mo R, mR cI (mo 1) G, aI cI (mo 4) 7 F]) rfl (fun _ => rfl) (fun _ => rfl) 0 0 rfl rfl rfl rfl hl.1 rfl (lv_room (Nat.le_of_ble_eq_true rfl)) dX5_of_60 ⟨Nat.zero_le _, Nat.zero_le _⟩ (fun _ H locs _ hW => ?_)
        have hds_ : speaksN G j ≤ 1 := speakK_le _ _ _ _ _
        refine nn_zeq (tgt := 70) hx hb dX5_of_63 (by decide) (by omega) (fun c63 => ?_) (fun c63 => ?_)
        · refine lv_iconst (v := nI 0) hx hb dX5_of_70 (by decide +kernel) ?_
          exact rt_i hQ hx hb hr hlocks hW dX5_of_71 () (by (try simp only [ofV, ej, Int.toNat_natCast]); (repeat' split) <;> first | rfl | (exact congrArg (fun z => some (Value.int (nI z))) (by omega)) | (exfalso; omega)) trivial (by (try simp only [ofF, ej, Int.toNat_natCast]); (repeat' split) <;> first | rfl | (exfalso; omega))
        · refine lv_iconst (v := nI 1) hx hb dX5_of_66 (by decide +kernel) ?_
          refine lv_goto (tgt := 71) hx hb dX5_of_67 (by decide) ?_
          exact rt_i hQ hx hb hr hlocks hW dX5_of_71 () (by (try simp only [ofV, ej, Int.toNat_natCast]); (repeat' split) <;> first | rfl | (exact congrArg (fun z => some (Value.int (nI z))) (by omega)) | (exfalso; omega)) trivial (by (try simp only [ofF, ej, Int.toNat_natCast]); (repeat' split) <;> first | rfl | (exfalso; omega))
      · refine zz_tsI (off := 45) (tgt := 72) hx hb dX5_of_27 (rfl : w.toInt = w.toInt) 2 (by omega) (by omega) rfl (by decide) ?_
        refine lv_aload_n hx hb dX5_of_72 rfl (lv_at hl 0 rfl) ?_
        refine lv_iload_n hx hb dX5_of_73 rfl (lv_at hl 1 rfl) ?_
        refine cl_Vi (As := [.int (nI j)]) (rest := []) (C := RX5) ⟨hx, hb, hml, hown, hts⟩ (M_X5_lessBy l D cI cJ mo R G 99999 (by decide) hG j (by omega)) (cwV 1 hts gX5_of_X5_lessBy rfl rfl rfl qX5_lessBy ⟨Nat.le_of_ble_eq_true rfl, Nat.le_of_ble_eq_true rfl⟩) E0_good hK hA hW trivial [true, true] (fun _ => [mH mo R, mR cI (mo 1) G, aI cI (mo 4) 7 F]) rfl (fun _ => rfl) (fun _ => rfl) 0 0 rfl rfl rfl rfl hl.1 rfl (lv_room (Nat.le_of_ble_eq_true rfl)) dX5_of_74 ⟨Nat.zero_le _, Nat.zero_le _⟩ (fun _ H locs _ hW => ?_)
        have htk_ := tellK_le (G (8 * j + 1))
        exact rt_i hQ hx hb hr hlocks hW dX5_of_77 () (by (try simp only [ofV, ej, Int.toNat_natCast]); (repeat' split) <;> first | rfl | (exact congrArg (fun z => some (Value.int (nI z))) (by omega)) | (exfalso; omega)) trivial (by (try simp only [ofF, ej, Int.toNat_natCast]); (repeat' split) <;> first | rfl | (exfalso; omega))
      · refine zz_tsO (tgt := 78) hx hb dX5_of_27 (rfl : w.toInt = w.toInt) (by omega) (by decide) ?_
        rcases (show w.toInt = 0 ∨ w.toInt = 1 ∨ w.toInt = 2 ∨ w.toInt = 3 by omega) with cq | cq | cq | cq
        · have hlit2 : w = nI 0 := zz_eq.mpr ((show w.toInt = 0 by omega).trans (by decide +kernel))
          rw [hlit2] at hl
          refine lv_aload_n hx hb dX5_of_78 rfl (lv_at hl 0 rfl) ?_
          refine lv_iload_n hx hb dX5_of_79 rfl (lv_at hl 1 rfl) ?_
          refine lv_iload_n hx hb dX5_of_80 rfl (lv_at hl 2 rfl) ?_
          refine cl_Vi (As := [.int (nI j), .int (nI 0)]) (rest := []) (C := RX5) ⟨hx, hb, hml, hown, hts⟩ (M_X5_it l D cI cJ mo R G j 0 1 (by omega) (by decide) rfl) (cwV 2 hts gX5_of_X5_it rfl rfl rfl qX5_it ⟨Nat.le_of_ble_eq_true rfl, Nat.le_of_ble_eq_true rfl⟩) E0_good hK hA hW trivial [true, true] (fun _ => [mH mo R, mR cI (mo 1) G, aI cI (mo 4) 7 F]) rfl (fun _ => rfl) (fun _ => rfl) 0 0 rfl rfl rfl rfl hl.1 rfl (lv_room (Nat.le_of_ble_eq_true rfl)) dX5_of_81 ⟨Nat.zero_le _, Nat.zero_le _⟩ (fun _ H locs _ hW => ?_)
          exact rt_i hQ hx hb hr hlocks hW dX5_of_84 () (by (try simp only [ofV, ej, Int.toNat_natCast]); (repeat' split) <;> first | rfl | (exact congrArg (fun z => some (Value.int (nI z))) (by omega)) | (exfalso; omega)) trivial (by (try simp only [ofF, ej, Int.toNat_natCast]); (repeat' split) <;> first | rfl | (exfalso; omega))
        · have hlit2 : w = nI 1 := zz_eq.mpr ((show w.toInt = 1 by omega).trans (by decide +kernel))
          rw [hlit2] at hl
          refine lv_aload_n hx hb dX5_of_78 rfl (lv_at hl 0 rfl) ?_
          refine lv_iload_n hx hb dX5_of_79 rfl (lv_at hl 1 rfl) ?_
          refine lv_iload_n hx hb dX5_of_80 rfl (lv_at hl 2 rfl) ?_
          refine cl_Vi (As := [.int (nI j), .int (nI 1)]) (rest := []) (C := RX5) ⟨hx, hb, hml, hown, hts⟩ (M_X5_it l D cI cJ mo R G j 1 2 (by omega) (by decide) rfl) (cwV 2 hts gX5_of_X5_it rfl rfl rfl qX5_it ⟨Nat.le_of_ble_eq_true rfl, Nat.le_of_ble_eq_true rfl⟩) E0_good hK hA hW trivial [true, true] (fun _ => [mH mo R, mR cI (mo 1) G, aI cI (mo 4) 7 F]) rfl (fun _ => rfl) (fun _ => rfl) 0 0 rfl rfl rfl rfl hl.1 rfl (lv_room (Nat.le_of_ble_eq_true rfl)) dX5_of_81 ⟨Nat.zero_le _, Nat.zero_le _⟩ (fun _ H locs _ hW => ?_)
          exact rt_i hQ hx hb hr hlocks hW dX5_of_84 () (by (try simp only [ofV, ej, Int.toNat_natCast]); (repeat' split) <;> first | rfl | (exact congrArg (fun z => some (Value.int (nI z))) (by omega)) | (exfalso; omega)) trivial (by (try simp only [ofF, ej, Int.toNat_natCast]); (repeat' split) <;> first | rfl | (exfalso; omega))
        · have hlit2 : w = nI 2 := zz_eq.mpr ((show w.toInt = 2 by omega).trans (by decide +kernel))
          rw [hlit2] at hl
          refine lv_aload_n hx hb dX5_of_78 rfl (lv_at hl 0 rfl) ?_
          refine lv_iload_n hx hb dX5_of_79 rfl (lv_at hl 1 rfl) ?_
          refine lv_iload_n hx hb dX5_of_80 rfl (lv_at hl 2 rfl) ?_
          refine cl_Vi (As := [.int (nI j), .int (nI 2)]) (rest := []) (C := RX5) ⟨hx, hb, hml, hown, hts⟩ (M_X5_it l D cI cJ mo R G j 2 3 (by omega) (by decide) rfl) (cwV 2 hts gX5_of_X5_it rfl rfl rfl qX5_it ⟨Nat.le_of_ble_eq_true rfl, Nat.le_of_ble_eq_true rfl⟩) E0_good hK hA hW trivial [true, true] (fun _ => [mH mo R, mR cI (mo 1) G, aI cI (mo 4) 7 F]) rfl (fun _ => rfl) (fun _ => rfl) 0 0 rfl rfl rfl rfl hl.1 rfl (lv_room (Nat.le_of_ble_eq_true rfl)) dX5_of_81 ⟨Nat.zero_le _, Nat.zero_le _⟩ (fun _ H locs _ hW => ?_)
          exact rt_i hQ hx hb hr hlocks hW dX5_of_84 () (by (try simp only [ofV, ej, Int.toNat_natCast]); (repeat' split) <;> first | rfl | (exact congrArg (fun z => some (Value.int (nI z))) (by omega)) | (exfalso; omega)) trivial (by (try simp only [ofF, ej, Int.toNat_natCast]); (repeat' split) <;> first | rfl | (exfalso; omega))
        · have hlit2 : w = nI 3 := zz_eq.mpr ((show w.toInt = 3 by omega).trans (by decide +kernel))
          rw [hlit2] at hl
          refine lv_aload_n hx hb dX5_of_78 rfl (lv_at hl 0 rfl) ?_
          refine lv_iload_n hx hb dX5_of_79 rfl (lv_at hl 1 rfl) ?_
          refine lv_iload_n hx hb dX5_of_80 rfl (lv_at hl 2 rfl) ?_
          refine cl_Vi (As := [.int (nI j), .int (nI 3)]) (rest := []) (C := RX5) ⟨hx, hb, hml, hown, hts⟩ (M_X5_it l D cI cJ mo R G j 3 4 (by omega) (by decide) rfl) (cwV 2 hts gX5_of_X5_it rfl rfl rfl qX5_it ⟨Nat.le_of_ble_eq_true rfl, Nat.le_of_ble_eq_true rfl⟩) E0_good hK hA hW trivial [true, true] (fun _ => [mH mo R, mR cI (mo 1) G, aI cI (mo 4) 7 F]) rfl (fun _ => rfl) (fun _ => rfl) 0 0 rfl rfl rfl rfl hl.1 rfl (lv_room (Nat.le_of_ble_eq_true rfl)) dX5_of_81 ⟨Nat.zero_le _, Nat.zero_le _⟩ (fun _ H locs _ hW => ?_)
          exact rt_i hQ hx hb hr hlocks hW dX5_of_84 () (by (try simp only [ofV, ej, Int.toNat_natCast]); (repeat' split) <;> first | rfl | (exact congrArg (fun z => some (Value.int (nI z))) (by omega)) | (exfalso; omega)) trivial (by (try simp only [ofF, ej, Int.toNat_natCast]); (repeat' split) <;> first | rfl | (exfalso; omega))
    · refine lv_aload_n hx hb dX5_of_19 rfl (lv_at hl 0 rfl) ?_
      refine lv_ldc (v := -1000000001) hx hb hown (hts _ (List.mem_of_getElem? (i := 1) rfl)) dX5_of_20 ?_
      refine cl_Vi (As := [.int (-1000000001)]) (rest := []) (C := RX5) ⟨hx, hb, hml, hown, hts⟩ (M_X5_finds l D cI cJ mo R F 0 (by decide) (-1000000001) (by decide +kernel)) (cwV 1 hts gX5_of_X5_finds rfl rfl rfl qX5_finds ⟨Nat.le_of_ble_eq_true rfl, Nat.le_of_ble_eq_true rfl⟩) E0_good hK hA hW trivial [true, false, true] (fun _ => [mH mo R, mR cI (mo 1) G, aI cI (mo 4) 7 (up F 0 (F 0 + 1))]) rfl (fun _ => rfl) (fun _ => rfl) 0 0 rfl rfl rfl rfl hl.1 rfl (lv_room (Nat.le_of_ble_eq_true rfl)) dX5_of_22 ⟨Nat.zero_le _, Nat.zero_le _⟩ (fun _ H locs _ hW => ?_)
      exact rt_i hQ hx hb hr hlocks hW dX5_of_25 () (by (try simp only [ofV]); (repeat' split) <;> first | rfl | (exact congrArg (fun z => some (Value.int (nI z))) (by omega)) | (exfalso; omega)) trivial (by (try simp only [ofF]); (repeat' split) <;> first | rfl | (exfalso; omega))
abbrev rmX5_set : Room := { frames := 2, cells := 0, slots := 0, locals := 44 }
set_option maxRecDepth 100000 in
set_option maxHeartbeats 4000000 in
theorem M_X5_set (l : Launch) (D : va_G) (cI cJ : ClassId) (mo R G F : Nat → Nat) (hG : OkG 99999 G) (v w z : Int32) : CE E0 l D vwCl [(cI, .int), (cJ, .long)] yX5_set wsX5_set rmX5_set [.ref (mo 0), .int v, .int w, .int z] [mH mo R, mR cI (mo 1) G, aI cI (mo 4) 7 F] (S := Unit) (some (.int (setV G v.toInt w.toInt z.toInt))) (fun _ => True) (fun _ : Unit => [mH mo R, mR cI (mo 1) (setG G v.toInt w.toInt z.toInt), aI cI (mo 4) 7 (setF G F v.toInt w.toInt z.toInt)]) 0 0 := by
  refine CE.ofW (cc := cX5_set) (maxL := 5) (ret := (some .int)) (lv := [(0, .ref (mo 0)), (1, .int v), (2, .int w), (3, .int z)]) (by decide) rfl (Nat.le_of_ble_eq_true rfl) rfl ?_
  intro p e s m args below meth c ls A Q hQ hx hb hml hr hlocks hnm hown hts hK hA hE hW hl
  have hown : s.vm.findClass RX5 = some m.cls := hown
  obtain ⟨hg0, hg8, hg16, hg16b, hg24, hg32, hg40, hg48⟩ := hG.s
  refine lv_aload_n hx hb dX5_set_0 rfl (lv_at hl 0 rfl) ?_
  refine lv_iload_n hx hb dX5_set_1 rfl (lv_at hl 1 rfl) ?_
  refine cl_Vi (As := [.int v]) (rest := []) (C := RX5) ⟨hx, hb, hml, hown, hts⟩ (M_X5_isMother l D cI cJ mo R G 99999 (by decide) hG v) (cwV 1 hts gX5_set_X5_isMother rfl rfl rfl qX5_isMother ⟨Nat.le_of_ble_eq_true rfl, Nat.le_of_ble_eq_true rfl⟩) E0_good hK hA hW trivial [true, true] (fun _ => [mH mo R, mR cI (mo 1) G, aI cI (mo 4) 7 F]) rfl (fun _ => rfl) (fun _ => rfl) 0 0 rfl rfl rfl rfl hl.1 rfl (lv_room (Nat.le_of_ble_eq_true rfl)) dX5_set_2 ⟨Nat.zero_le _, Nat.zero_le _⟩ (fun _ H locs _ hW => ?_)
  have him_ := inN_or v (G 40)
  refine nn_zeq (tgt := 44) hx hb dX5_set_5 (by decide) (by omega) (fun c5 => ?_) (fun c5 => ?_)
  · refine lv_iconst (v := nI 0) hx hb dX5_set_44 (by decide +kernel) ?_
    refine lv_istore (lv' := [(4, .int (nI 0)), (0, .ref (mo 0)), (1, .int v), (2, .int w), (3, .int z)]) hx hb dX5_set_45 hl (by decide) rfl (fun ls hl => ?_)
    refine lv_iload hx hb dX5_set_47 (lv_at hl 0 rfl) ?_
    refine nn_zeq (tgt := 68) hx hb dX5_set_49 (by decide) (by decide) (fun c49 => ?_) (fun c49 => ?_)
    · refine lv_aload_n hx hb dX5_set_68 rfl (lv_at hl 1 rfl) ?_
      refine lv_ldc (v := -1000000001) hx hb hown (hts _ (List.mem_of_getElem? (i := 1) rfl)) dX5_set_69 ?_
      refine cl_Vi (As := [.int (-1000000001)]) (rest := []) (C := RX5) ⟨hx, hb, hml, hown, hts⟩ (M_X5_finds l D cI cJ mo R F 0 (by decide) (-1000000001) (by decide +kernel)) (cwV 1 hts gX5_set_X5_finds rfl rfl rfl qX5_finds ⟨Nat.le_of_ble_eq_true rfl, Nat.le_of_ble_eq_true rfl⟩) E0_good hK hA hW trivial [true, false, true] (fun _ => [mH mo R, mR cI (mo 1) G, aI cI (mo 4) 7 (up F 0 (F 0 + 1))]) rfl (fun _ => rfl) (fun _ => rfl) 0 0 rfl rfl rfl rfl hl.1 rfl (lv_room (Nat.le_of_ble_eq_true rfl)) dX5_set_71 ⟨Nat.zero_le _, Nat.zero_le _⟩ (fun _ H locs _ hW => ?_)
      exact rt_i hQ hx hb hr hlocks hW dX5_set_74 () (by (try simp only [setV]); (repeat' split) <;> first | rfl | (exfalso; omega)) trivial (by (try simp only [setG, setF]); (repeat' split) <;> first | rfl | (exfalso; omega))
    · exfalso; omega
  · refine lv_iload_n hx hb dX5_set_8 rfl (lv_at hl 2 rfl) ?_
    refine lv_i2l (v := (w).toInt64) hx hb dX5_set_9 rfl ?_
    refine lv_iconst (v := nI 2) hx hb dX5_set_10 (by decide +kernel) ?_
    refine lv_iconst (v := nI 3) hx hb dX5_set_11 (by decide +kernel) ?_
    refine cl_Si (As := [.long ((w).toInt64), .int (nI 2), .int (nI 3)]) (rest := []) ⟨hx, hb, hml, hown, hts⟩ (M_X5_in2 l D cI cJ ((w).toInt64) (nI 2) (nI 3) w.toInt ((2 : Nat) : Int) ((3 : Nat) : Int) ((Int32.toInt_toInt64 _).trans rfl) (nI_toInt (n := 2) (by decide)) (nI_toInt (n := 3) (by decide))) (va_cwS 3 hts gX5_set_X5_in rfl rfl rfl qX5_in ⟨Nat.le_of_ble_eq_true rfl, Nat.le_of_ble_eq_true rfl⟩) E0_good hK hA hW trivial [] (fun _ => [mH mo R, mR cI (mo 1) G, aI cI (mo 4) 7 F]) rfl (fun _ => rfl) (fun _ => rfl) rfl hl.1 rfl (lv_room (Nat.le_of_ble_eq_true rfl)) dX5_set_12 ⟨Nat.zero_le _, Nat.zero_le _⟩ (fun _ H locs _ hW => ?_)
    have hin_ := inZ_or w.toInt ((2 : Nat) : Int) ((3 : Nat) : Int)
    refine nn_zeq (tgt := 44) hx hb dX5_set_15 (by decide) (by omega) (fun c15 => ?_) (fun c15 => ?_)
    · refine lv_iconst (v := nI 0) hx hb dX5_set_44 (by decide +kernel) ?_
      refine lv_istore (lv' := [(4, .int (nI 0)), (0, .ref (mo 0)), (1, .int v), (2, .int w), (3, .int z)]) hx hb dX5_set_45 hl (by decide) rfl (fun ls hl => ?_)
      refine lv_iload hx hb dX5_set_47 (lv_at hl 0 rfl) ?_
      refine nn_zeq (tgt := 68) hx hb dX5_set_49 (by decide) (by decide) (fun c49_1 => ?_) (fun c49_1 => ?_)
      · refine lv_aload_n hx hb dX5_set_68 rfl (lv_at hl 1 rfl) ?_
        refine lv_ldc (v := -1000000001) hx hb hown (hts _ (List.mem_of_getElem? (i := 1) rfl)) dX5_set_69 ?_
        refine cl_Vi (As := [.int (-1000000001)]) (rest := []) (C := RX5) ⟨hx, hb, hml, hown, hts⟩ (M_X5_finds l D cI cJ mo R F 0 (by decide) (-1000000001) (by decide +kernel)) (cwV 1 hts gX5_set_X5_finds rfl rfl rfl qX5_finds ⟨Nat.le_of_ble_eq_true rfl, Nat.le_of_ble_eq_true rfl⟩) E0_good hK hA hW trivial [true, false, true] (fun _ => [mH mo R, mR cI (mo 1) G, aI cI (mo 4) 7 (up F 0 (F 0 + 1))]) rfl (fun _ => rfl) (fun _ => rfl) 0 0 rfl rfl rfl rfl hl.1 rfl (lv_room (Nat.le_of_ble_eq_true rfl)) dX5_set_71 ⟨Nat.zero_le _, Nat.zero_le _⟩ (fun _ H locs _ hW => ?_)
        exact rt_i hQ hx hb hr hlocks hW dX5_set_74 () (by (try simp only [setV]); (repeat' split) <;> first | rfl | (exfalso; omega)) trivial (by (try simp only [setG, setF]); (repeat' split) <;> first | rfl | (exfalso; omega))
      · exfalso; omega
    · refine lv_iload_n hx hb dX5_set_18 rfl (lv_at hl 3 rfl) ?_
      refine lv_i2l (v := (z).toInt64) hx hb dX5_set_19 rfl ?_
      refine lv_iconst (v := nI 0) hx hb dX5_set_20 (by decide +kernel) ?_
      refine lv_iload_n hx hb dX5_set_21 rfl (lv_at hl 2 rfl) ?_
      refine lv_iconst (v := nI 2) hx hb dX5_set_22 (by decide +kernel) ?_
      refine zz_cne (tgt := 31) hx hb dX5_set_23 (by decide) (rfl : w.toInt = w.toInt) (nI_toInt (n := 2) (by decide)) (fun c23 => ?_) (fun c23 => ?_)
      · refine lv_sipush (v := nI 999) hx hb dX5_set_31 (by decide +kernel) ?_
        refine cl_Si (As := [.long ((z).toInt64), .int (nI 0), .int (nI 999)]) (rest := []) ⟨hx, hb, hml, hown, hts⟩ (M_X5_in2 l D cI cJ ((z).toInt64) (nI 0) (nI 999) z.toInt ((0 : Nat) : Int) ((999 : Nat) : Int) ((Int32.toInt_toInt64 _).trans rfl) (nI_toInt (n := 0) (by decide)) (nI_toInt (n := 999) (by decide))) (va_cwS 3 hts gX5_set_X5_in rfl rfl rfl qX5_in ⟨Nat.le_of_ble_eq_true rfl, Nat.le_of_ble_eq_true rfl⟩) E0_good hK hA hW trivial [] (fun _ => [mH mo R, mR cI (mo 1) G, aI cI (mo 4) 7 F]) rfl (fun _ => rfl) (fun _ => rfl) rfl hl.1 rfl (lv_room (Nat.le_of_ble_eq_true rfl)) dX5_set_34 ⟨Nat.zero_le _, Nat.zero_le _⟩ (fun _ H locs _ hW => ?_)
        have hin_ := inZ_or z.toInt ((0 : Nat) : Int) ((999 : Nat) : Int)
        refine nn_zeq (tgt := 44) hx hb dX5_set_37 (by decide) (by omega) (fun c37 => ?_) (fun c37 => ?_)
        · refine lv_iconst (v := nI 0) hx hb dX5_set_44 (by decide +kernel) ?_
          refine lv_istore (lv' := [(4, .int (nI 0)), (0, .ref (mo 0)), (1, .int v), (2, .int w), (3, .int z)]) hx hb dX5_set_45 hl (by decide) rfl (fun ls hl => ?_)
          refine lv_iload hx hb dX5_set_47 (lv_at hl 0 rfl) ?_
          refine nn_zeq (tgt := 68) hx hb dX5_set_49 (by decide) (by decide) (fun c49_2 => ?_) (fun c49_2 => ?_)
          · refine lv_aload_n hx hb dX5_set_68 rfl (lv_at hl 1 rfl) ?_
            refine lv_ldc (v := -1000000001) hx hb hown (hts _ (List.mem_of_getElem? (i := 1) rfl)) dX5_set_69 ?_
            refine cl_Vi (As := [.int (-1000000001)]) (rest := []) (C := RX5) ⟨hx, hb, hml, hown, hts⟩ (M_X5_finds l D cI cJ mo R F 0 (by decide) (-1000000001) (by decide +kernel)) (cwV 1 hts gX5_set_X5_finds rfl rfl rfl qX5_finds ⟨Nat.le_of_ble_eq_true rfl, Nat.le_of_ble_eq_true rfl⟩) E0_good hK hA hW trivial [true, false, true] (fun _ => [mH mo R, mR cI (mo 1) G, aI cI (mo 4) 7 (up F 0 (F 0 + 1))]) rfl (fun _ => rfl) (fun _ => rfl) 0 0 rfl rfl rfl rfl hl.1 rfl (lv_room (Nat.le_of_ble_eq_true rfl)) dX5_set_71 ⟨Nat.zero_le _, Nat.zero_le _⟩ (fun _ H locs _ hW => ?_)
            exact rt_i hQ hx hb hr hlocks hW dX5_set_74 () (by (try simp only [setV]); (repeat' split) <;> first | rfl | (exfalso; omega)) trivial (by (try simp only [setG, setF]); (repeat' split) <;> first | rfl | (exfalso; omega))
          · exfalso; omega
        · refine lv_iconst (v := nI 1) hx hb dX5_set_40 (by decide +kernel) ?_
          refine lv_goto (tgt := 45) hx hb dX5_set_41 (by decide) ?_
          refine lv_istore (lv' := [(4, .int (nI 1)), (0, .ref (mo 0)), (1, .int v), (2, .int w), (3, .int z)]) hx hb dX5_set_45 hl (by decide) rfl (fun ls hl => ?_)
          refine lv_iload hx hb dX5_set_47 (lv_at hl 0 rfl) ?_
          refine nn_zeq (tgt := 68) hx hb dX5_set_49 (by decide) (by decide) (fun c49_3 => ?_) (fun c49_3 => ?_)
          · exfalso; omega
          · obtain ⟨j, hj, ej⟩ : ∃ j : Nat, v = nI j ∧ v.toInt = (j : Int) := ⟨v.toInt.toNat, nI_ofZ rfl (by omega), by omega⟩
            rw [hj] at hl
            obtain ⟨y, hy, ey⟩ : ∃ y : Nat, z = nI y ∧ z.toInt = (y : Int) := ⟨z.toInt.toNat, nI_ofZ rfl (by omega), by omega⟩
            rw [hy] at hl
            rcases (show w.toInt = 2 ∨ w.toInt = 3 by omega) with cq | cq
            · have hlit2 : w = nI 2 := zz_eq.mpr ((show w.toInt = 2 by omega).trans (by decide +kernel))
              rw [hlit2] at hl
              refine lv_aload_n hx hb dX5_set_52 rfl (lv_at hl 1 rfl) ?_
              refine lv_bipush (v := nI 7) hx hb dX5_set_53 (by decide +kernel) ?_
              refine lv_iconst (v := nI 4) hx hb dX5_set_55 (by decide +kernel) ?_
              refine lv_iload_n hx hb dX5_set_56 rfl (lv_at hl 2 rfl) ?_
              refine nn_mul hx hb dX5_set_57 ?_
              refine nn_add hx hb dX5_set_58 ?_
              refine lv_iload_n hx hb dX5_set_59 rfl (lv_at hl 3 rfl) ?_
              refine nn_add hx hb dX5_set_60 ?_
              refine lv_iload_n hx hb dX5_set_61 rfl (lv_at hl 4 rfl) ?_
              refine cl_Vi (As := [.int (nI ((7 + (4 * j)) + 2)), .int (nI y)]) (rest := []) (C := RX5) ⟨hx, hb, hml, hown, hts⟩ (M_X5_becomes l D cI cJ mo R G ((7 + (4 * j)) + 2) (8 * j + 3) y (by omega) (mk_m (by omega) (by decide))) (cwV 2 hts gX5_set_X5_becomes rfl rfl rfl qX5_becomes ⟨Nat.le_of_ble_eq_true rfl, Nat.le_of_ble_eq_true rfl⟩) E0_good hK hA hW trivial [true, true] (fun _ => [mH mo R, mR cI (mo 1) (up G (8 * j + 3) y), aI cI (mo 4) 7 F]) rfl (fun _ => rfl) (fun _ => rfl) 0 0 rfl rfl rfl rfl hl.1 rfl (lv_room (Nat.le_of_ble_eq_true rfl)) dX5_set_62 ⟨Nat.zero_le _, Nat.zero_le _⟩ (fun _ H locs _ hW => ?_)
              refine lv_goto (tgt := 74) hx hb dX5_set_65 (by decide) ?_
              exact rt_i hQ hx hb hr hlocks hW dX5_set_74 () (by (try simp only [setV, ej, ey, Int.toNat_natCast]); (repeat' split) <;> first | rfl | (exfalso; omega)) trivial (by (try simp only [setG, setF, ej, ey, Int.toNat_natCast]); (repeat' split) <;> first | rfl | (exfalso; omega))
            · have hlit2 : w = nI 3 := zz_eq.mpr ((show w.toInt = 3 by omega).trans (by decide +kernel))
              rw [hlit2] at hl
              refine lv_aload_n hx hb dX5_set_52 rfl (lv_at hl 1 rfl) ?_
              refine lv_bipush (v := nI 7) hx hb dX5_set_53 (by decide +kernel) ?_
              refine lv_iconst (v := nI 4) hx hb dX5_set_55 (by decide +kernel) ?_
              refine lv_iload_n hx hb dX5_set_56 rfl (lv_at hl 2 rfl) ?_
              refine nn_mul hx hb dX5_set_57 ?_
              refine nn_add hx hb dX5_set_58 ?_
              refine lv_iload_n hx hb dX5_set_59 rfl (lv_at hl 3 rfl) ?_
              refine nn_add hx hb dX5_set_60 ?_
              refine lv_iload_n hx hb dX5_set_61 rfl (lv_at hl 4 rfl) ?_
              refine cl_Vi (As := [.int (nI ((7 + (4 * j)) + 3)), .int (nI y)]) (rest := []) (C := RX5) ⟨hx, hb, hml, hown, hts⟩ (M_X5_becomes l D cI cJ mo R G ((7 + (4 * j)) + 3) (8 * j + 4) y (by omega) (mk_m (by omega) (by decide))) (cwV 2 hts gX5_set_X5_becomes rfl rfl rfl qX5_becomes ⟨Nat.le_of_ble_eq_true rfl, Nat.le_of_ble_eq_true rfl⟩) E0_good hK hA hW trivial [true, true] (fun _ => [mH mo R, mR cI (mo 1) (up G (8 * j + 4) y), aI cI (mo 4) 7 F]) rfl (fun _ => rfl) (fun _ => rfl) 0 0 rfl rfl rfl rfl hl.1 rfl (lv_room (Nat.le_of_ble_eq_true rfl)) dX5_set_62 ⟨Nat.zero_le _, Nat.zero_le _⟩ (fun _ H locs _ hW => ?_)
              refine lv_goto (tgt := 74) hx hb dX5_set_65 (by decide) ?_
              exact rt_i hQ hx hb hr hlocks hW dX5_set_74 () (by (try simp only [setV, ej, ey, Int.toNat_natCast]); (repeat' split) <;> first | rfl | (exfalso; omega)) trivial (by (try simp only [setG, setF, ej, ey, Int.toNat_natCast]); (repeat' split) <;> first | rfl | (exfalso; omega))
      · refine lv_bipush (v := nI 99) hx hb dX5_set_26 (by decide +kernel) ?_
        refine lv_goto (tgt := 34) hx hb dX5_set_28 (by decide) ?_
        refine cl_Si (As := [.long ((z).toInt64), .int (nI 0), .int (nI 99)]) (rest := []) ⟨hx, hb, hml, hown, hts⟩ (M_X5_in2 l D cI cJ ((z).toInt64) (nI 0) (nI 99) z.toInt ((0 : Nat) : Int) ((99 : Nat) : Int) ((Int32.toInt_toInt64 _).trans rfl) (nI_toInt (n := 0) (by decide)) (nI_toInt (n := 99) (by decide))) (va_cwS 3 hts gX5_set_X5_in rfl rfl rfl qX5_in ⟨Nat.le_of_ble_eq_true rfl, Nat.le_of_ble_eq_true rfl⟩) E0_good hK hA hW trivial [] (fun _ => [mH mo R, mR cI (mo 1) G, aI cI (mo 4) 7 F]) rfl (fun _ => rfl) (fun _ => rfl) rfl hl.1 rfl (lv_room (Nat.le_of_ble_eq_true rfl)) dX5_set_34 ⟨Nat.zero_le _, Nat.zero_le _⟩ (fun _ H locs _ hW => ?_)
        have hin_ := inZ_or z.toInt ((0 : Nat) : Int) ((99 : Nat) : Int)
        refine nn_zeq (tgt := 44) hx hb dX5_set_37 (by decide) (by omega) (fun c37_1 => ?_) (fun c37_1 => ?_)
        · refine lv_iconst (v := nI 0) hx hb dX5_set_44 (by decide +kernel) ?_
          refine lv_istore (lv' := [(4, .int (nI 0)), (0, .ref (mo 0)), (1, .int v), (2, .int w), (3, .int z)]) hx hb dX5_set_45 hl (by decide) rfl (fun ls hl => ?_)
          refine lv_iload hx hb dX5_set_47 (lv_at hl 0 rfl) ?_
          refine nn_zeq (tgt := 68) hx hb dX5_set_49 (by decide) (by decide) (fun c49_4 => ?_) (fun c49_4 => ?_)
          · refine lv_aload_n hx hb dX5_set_68 rfl (lv_at hl 1 rfl) ?_
            refine lv_ldc (v := -1000000001) hx hb hown (hts _ (List.mem_of_getElem? (i := 1) rfl)) dX5_set_69 ?_
            refine cl_Vi (As := [.int (-1000000001)]) (rest := []) (C := RX5) ⟨hx, hb, hml, hown, hts⟩ (M_X5_finds l D cI cJ mo R F 0 (by decide) (-1000000001) (by decide +kernel)) (cwV 1 hts gX5_set_X5_finds rfl rfl rfl qX5_finds ⟨Nat.le_of_ble_eq_true rfl, Nat.le_of_ble_eq_true rfl⟩) E0_good hK hA hW trivial [true, false, true] (fun _ => [mH mo R, mR cI (mo 1) G, aI cI (mo 4) 7 (up F 0 (F 0 + 1))]) rfl (fun _ => rfl) (fun _ => rfl) 0 0 rfl rfl rfl rfl hl.1 rfl (lv_room (Nat.le_of_ble_eq_true rfl)) dX5_set_71 ⟨Nat.zero_le _, Nat.zero_le _⟩ (fun _ H locs _ hW => ?_)
            exact rt_i hQ hx hb hr hlocks hW dX5_set_74 () (by (try simp only [setV]); (repeat' split) <;> first | rfl | (exfalso; omega)) trivial (by (try simp only [setG, setF]); (repeat' split) <;> first | rfl | (exfalso; omega))
          · exfalso; omega
        · refine lv_iconst (v := nI 1) hx hb dX5_set_40 (by decide +kernel) ?_
          refine lv_goto (tgt := 45) hx hb dX5_set_41 (by decide) ?_
          refine lv_istore (lv' := [(4, .int (nI 1)), (0, .ref (mo 0)), (1, .int v), (2, .int w), (3, .int z)]) hx hb dX5_set_45 hl (by decide) rfl (fun ls hl => ?_)
          refine lv_iload hx hb dX5_set_47 (lv_at hl 0 rfl) ?_
          refine nn_zeq (tgt := 68) hx hb dX5_set_49 (by decide) (by decide) (fun c49_5 => ?_) (fun c49_5 => ?_)
          · exfalso; omega
          · obtain ⟨j, hj, ej⟩ : ∃ j : Nat, v = nI j ∧ v.toInt = (j : Int) := ⟨v.toInt.toNat, nI_ofZ rfl (by omega), by omega⟩
            rw [hj] at hl
            obtain ⟨y, hy, ey⟩ : ∃ y : Nat, z = nI y ∧ z.toInt = (y : Int) := ⟨z.toInt.toNat, nI_ofZ rfl (by omega), by omega⟩
            rw [hy] at hl
            rcases (show w.toInt = 2 ∨ w.toInt = 3 by omega) with cq | cq
            · have hlit2 : w = nI 2 := zz_eq.mpr ((show w.toInt = 2 by omega).trans (by decide +kernel))
              rw [hlit2] at hl
              refine lv_aload_n hx hb dX5_set_52 rfl (lv_at hl 1 rfl) ?_
              refine lv_bipush (v := nI 7) hx hb dX5_set_53 (by decide +kernel) ?_
              refine lv_iconst (v := nI 4) hx hb dX5_set_55 (by decide +kernel) ?_
              refine lv_iload_n hx hb dX5_set_56 rfl (lv_at hl 2 rfl) ?_
              refine nn_mul hx hb dX5_set_57 ?_
              refine nn_add hx hb dX5_set_58 ?_
              refine lv_iload_n hx hb dX5_set_59 rfl (lv_at hl 3 rfl) ?_
              refine nn_add hx hb dX5_set_60 ?_
              refine lv_iload_n hx hb dX5_set_61 rfl (lv_at hl 4 rfl) ?_
              refine cl_Vi (As := [.int (nI ((7 + (4 * j)) + 2)), .int (nI y)]) (rest := []) (C := RX5) ⟨hx, hb, hml, hown, hts⟩ (M_X5_becomes l D cI cJ mo R G ((7 + (4 * j)) + 2) (8 * j + 3) y (by omega) (mk_m (by omega) (by decide))) (cwV 2 hts gX5_set_X5_becomes rfl rfl rfl qX5_becomes ⟨Nat.le_of_ble_eq_true rfl, Nat.le_of_ble_eq_true rfl⟩) E0_good hK hA hW trivial [true, true] (fun _ => [mH mo R, mR cI (mo 1) (up G (8 * j + 3) y), aI cI (mo 4) 7 F]) rfl (fun _ => rfl) (fun _ => rfl) 0 0 rfl rfl rfl rfl hl.1 rfl (lv_room (Nat.le_of_ble_eq_true rfl)) dX5_set_62 ⟨Nat.zero_le _, Nat.zero_le _⟩ (fun _ H locs _ hW => ?_)
              refine lv_goto (tgt := 74) hx hb dX5_set_65 (by decide) ?_
              exact rt_i hQ hx hb hr hlocks hW dX5_set_74 () (by (try simp only [setV, ej, ey, Int.toNat_natCast]); (repeat' split) <;> first | rfl | (exfalso; omega)) trivial (by (try simp only [setG, setF, ej, ey, Int.toNat_natCast]); (repeat' split) <;> first | rfl | (exfalso; omega))
            · have hlit2 : w = nI 3 := zz_eq.mpr ((show w.toInt = 3 by omega).trans (by decide +kernel))
              rw [hlit2] at hl
              refine lv_aload_n hx hb dX5_set_52 rfl (lv_at hl 1 rfl) ?_
              refine lv_bipush (v := nI 7) hx hb dX5_set_53 (by decide +kernel) ?_
              refine lv_iconst (v := nI 4) hx hb dX5_set_55 (by decide +kernel) ?_
              refine lv_iload_n hx hb dX5_set_56 rfl (lv_at hl 2 rfl) ?_
              refine nn_mul hx hb dX5_set_57 ?_
              refine nn_add hx hb dX5_set_58 ?_
              refine lv_iload_n hx hb dX5_set_59 rfl (lv_at hl 3 rfl) ?_
              refine nn_add hx hb dX5_set_60 ?_
              refine lv_iload_n hx hb dX5_set_61 rfl (lv_at hl 4 rfl) ?_
              refine cl_Vi (As := [.int (nI ((7 + (4 * j)) + 3)), .int (nI y)]) (rest := []) (C := RX5) ⟨hx, hb, hml, hown, hts⟩ (M_X5_becomes l D cI cJ mo R G ((7 + (4 * j)) + 3) (8 * j + 4) y (by omega) (mk_m (by omega) (by decide))) (cwV 2 hts gX5_set_X5_becomes rfl rfl rfl qX5_becomes ⟨Nat.le_of_ble_eq_true rfl, Nat.le_of_ble_eq_true rfl⟩) E0_good hK hA hW trivial [true, true] (fun _ => [mH mo R, mR cI (mo 1) (up G (8 * j + 4) y), aI cI (mo 4) 7 F]) rfl (fun _ => rfl) (fun _ => rfl) 0 0 rfl rfl rfl rfl hl.1 rfl (lv_room (Nat.le_of_ble_eq_true rfl)) dX5_set_62 ⟨Nat.zero_le _, Nat.zero_le _⟩ (fun _ H locs _ hW => ?_)
              refine lv_goto (tgt := 74) hx hb dX5_set_65 (by decide) ?_
              exact rt_i hQ hx hb hr hlocks hW dX5_set_74 () (by (try simp only [setV, ej, ey, Int.toNat_natCast]); (repeat' split) <;> first | rfl | (exfalso; omega)) trivial (by (try simp only [setG, setF, ej, ey, Int.toNat_natCast]); (repeat' split) <;> first | rfl | (exfalso; omega))
abbrev rmX5_out : Room := { frames := 2, cells := 0, slots := 0, locals := 45 }
set_option maxRecDepth 100000 in
set_option maxHeartbeats 4000000 in
theorem M_X5_out (l : Launch) (D : va_G) (cI cJ : ClassId) (mo R G F : Nat → Nat) (hG : OkG 99999 G) (v z : Int32) : CE E0 l D vwCl [(cI, .int), (cJ, .long)] yX5_out wsX5_out rmX5_out [.ref (mo 0), .int v, .int z] [mH mo R, mR cI (mo 1) G, aI cI (mo 4) 7 F] (S := Unit) (some (.int (outV G v.toInt z.toInt))) (fun _ => True) (fun _ : Unit => [mH mo R, mR cI (mo 1) (outG G v.toInt z.toInt), aI cI (mo 4) 7 (outF G F v.toInt z.toInt)]) 0 0 := by
  refine CE.ofW (cc := cX5_out) (maxL := 3) (ret := (some .int)) (lv := [(0, .ref (mo 0)), (1, .int v), (2, .int z)]) (by decide) rfl (Nat.le_of_ble_eq_true rfl) rfl ?_
  intro p e s m args below meth c ls A Q hQ hx hb hml hr hlocks hnm hown hts hK hA hE hW hl
  have hown : s.vm.findClass RX5 = some m.cls := hown
  obtain ⟨hg0, hg8, hg16, hg16b, hg24, hg32, hg40, hg48⟩ := hG.s
  refine lv_aload_n hx hb dX5_out_0 rfl (lv_at hl 0 rfl) ?_
  refine lv_iload_n hx hb dX5_out_1 rfl (lv_at hl 1 rfl) ?_
  refine cl_Vi (As := [.int v]) (rest := []) (C := RX5) ⟨hx, hb, hml, hown, hts⟩ (M_X5_isMother l D cI cJ mo R G 99999 (by decide) hG v) (cwV 1 hts gX5_out_X5_isMother rfl rfl rfl qX5_isMother ⟨Nat.le_of_ble_eq_true rfl, Nat.le_of_ble_eq_true rfl⟩) E0_good hK hA hW trivial [true, true] (fun _ => [mH mo R, mR cI (mo 1) G, aI cI (mo 4) 7 F]) rfl (fun _ => rfl) (fun _ => rfl) 0 0 rfl rfl rfl rfl hl.1 rfl (lv_room (Nat.le_of_ble_eq_true rfl)) dX5_out_2 ⟨Nat.zero_le _, Nat.zero_le _⟩ (fun _ H locs _ hW => ?_)
  have him_ := inN_or v (G 40)
  refine nn_zeq (tgt := 27) hx hb dX5_out_5 (by decide) (by omega) (fun c5 => ?_) (fun c5 => ?_)
  · refine lv_aload_n hx hb dX5_out_27 rfl (lv_at hl 0 rfl) ?_
    refine lv_ldc (v := -1000000001) hx hb hown (hts _ (List.mem_of_getElem? (i := 1) rfl)) dX5_out_28 ?_
    refine cl_Vi (As := [.int (-1000000001)]) (rest := []) (C := RX5) ⟨hx, hb, hml, hown, hts⟩ (M_X5_finds l D cI cJ mo R F 0 (by decide) (-1000000001) (by decide +kernel)) (cwV 1 hts gX5_out_X5_finds rfl rfl rfl qX5_finds ⟨Nat.le_of_ble_eq_true rfl, Nat.le_of_ble_eq_true rfl⟩) E0_good hK hA hW trivial [true, false, true] (fun _ => [mH mo R, mR cI (mo 1) G, aI cI (mo 4) 7 (up F 0 (F 0 + 1))]) rfl (fun _ => rfl) (fun _ => rfl) 0 0 rfl rfl rfl rfl hl.1 rfl (lv_room (Nat.le_of_ble_eq_true rfl)) dX5_out_30 ⟨Nat.zero_le _, Nat.zero_le _⟩ (fun _ H locs _ hW => ?_)
    exact rt_i hQ hx hb hr hlocks hW dX5_out_33 () (by (try simp only [outV]); (repeat' split) <;> first | rfl | (exfalso; omega)) trivial (by (try simp only [outG, outF]); (repeat' split) <;> first | rfl | (exfalso; omega))
  · refine lv_iload_n hx hb dX5_out_8 rfl (lv_at hl 2 rfl) ?_
    refine lv_i2l (v := (z).toInt64) hx hb dX5_out_9 rfl ?_
    refine lv_iconst (v := nI 0) hx hb dX5_out_10 (by decide +kernel) ?_
    refine lv_iconst (v := nI 1) hx hb dX5_out_11 (by decide +kernel) ?_
    refine cl_Si (As := [.long ((z).toInt64), .int (nI 0), .int (nI 1)]) (rest := []) ⟨hx, hb, hml, hown, hts⟩ (M_X5_in2 l D cI cJ ((z).toInt64) (nI 0) (nI 1) z.toInt ((0 : Nat) : Int) ((1 : Nat) : Int) ((Int32.toInt_toInt64 _).trans rfl) (nI_toInt (n := 0) (by decide)) (nI_toInt (n := 1) (by decide))) (va_cwS 3 hts gX5_out_X5_in rfl rfl rfl qX5_in ⟨Nat.le_of_ble_eq_true rfl, Nat.le_of_ble_eq_true rfl⟩) E0_good hK hA hW trivial [] (fun _ => [mH mo R, mR cI (mo 1) G, aI cI (mo 4) 7 F]) rfl (fun _ => rfl) (fun _ => rfl) rfl hl.1 rfl (lv_room (Nat.le_of_ble_eq_true rfl)) dX5_out_12 ⟨Nat.zero_le _, Nat.zero_le _⟩ (fun _ H locs _ hW => ?_)
    have hin_ := inZ_or z.toInt ((0 : Nat) : Int) ((1 : Nat) : Int)
    refine nn_zeq (tgt := 27) hx hb dX5_out_15 (by decide) (by omega) (fun c15 => ?_) (fun c15 => ?_)
    · refine lv_aload_n hx hb dX5_out_27 rfl (lv_at hl 0 rfl) ?_
      refine lv_ldc (v := -1000000001) hx hb hown (hts _ (List.mem_of_getElem? (i := 1) rfl)) dX5_out_28 ?_
      refine cl_Vi (As := [.int (-1000000001)]) (rest := []) (C := RX5) ⟨hx, hb, hml, hown, hts⟩ (M_X5_finds l D cI cJ mo R F 0 (by decide) (-1000000001) (by decide +kernel)) (cwV 1 hts gX5_out_X5_finds rfl rfl rfl qX5_finds ⟨Nat.le_of_ble_eq_true rfl, Nat.le_of_ble_eq_true rfl⟩) E0_good hK hA hW trivial [true, false, true] (fun _ => [mH mo R, mR cI (mo 1) G, aI cI (mo 4) 7 (up F 0 (F 0 + 1))]) rfl (fun _ => rfl) (fun _ => rfl) 0 0 rfl rfl rfl rfl hl.1 rfl (lv_room (Nat.le_of_ble_eq_true rfl)) dX5_out_30 ⟨Nat.zero_le _, Nat.zero_le _⟩ (fun _ H locs _ hW => ?_)
      exact rt_i hQ hx hb hr hlocks hW dX5_out_33 () (by (try simp only [outV]); (repeat' split) <;> first | rfl | (exfalso; omega)) trivial (by (try simp only [outG, outF]); (repeat' split) <;> first | rfl | (exfalso; omega))
    · obtain ⟨j, hj, ej⟩ : ∃ j : Nat, v = nI j ∧ v.toInt = (j : Int) := ⟨v.toInt.toNat, nI_ofZ rfl (by omega), by omega⟩
      rw [hj] at hl
      obtain ⟨y, hy, ey⟩ : ∃ y : Nat, z = nI y ∧ z.toInt = (y : Int) := ⟨z.toInt.toNat, nI_ofZ rfl (by omega), by omega⟩
      rw [hy] at hl
      refine lv_aload_n hx hb dX5_out_18 rfl (lv_at hl 0 rfl) ?_
      refine lv_iload_n hx hb dX5_out_19 rfl (lv_at hl 1 rfl) ?_
      refine lv_iload_n hx hb dX5_out_20 rfl (lv_at hl 2 rfl) ?_
      refine cl_Vi (As := [.int (nI j), .int (nI y)]) (rest := []) (C := RX5) ⟨hx, hb, hml, hown, hts⟩ (M_X5_moves l D cI cJ mo R G 99999 (by decide) hG j y (by omega)) (cwV 2 hts gX5_out_X5_moves rfl rfl rfl qX5_moves ⟨Nat.le_of_ble_eq_true rfl, Nat.le_of_ble_eq_true rfl⟩) E0_good hK hA hW trivial [true, true] (fun _ => [mH mo R, mR cI (mo 1) (moveM G j y), aI cI (mo 4) 7 F]) rfl (fun _ => rfl) (fun _ => rfl) 0 0 rfl rfl rfl rfl hl.1 rfl (lv_room (Nat.le_of_ble_eq_true rfl)) dX5_out_21 ⟨Nat.zero_le _, Nat.zero_le _⟩ (fun _ H locs _ hW => ?_)
      refine lv_goto (tgt := 33) hx hb dX5_out_24 (by decide) ?_
      exact rt_i hQ hx hb hr hlocks hW dX5_out_33 () (by (try simp only [outV, ej, ey, Int.toNat_natCast]); (repeat' split) <;> first | rfl | (exfalso; omega)) trivial (by (try simp only [outG, outF, ej, ey, Int.toNat_natCast]); (repeat' split) <;> first | rfl | (exfalso; omega))
abbrev rmX5_turn : Room := { frames := 2, cells := 0, slots := 0, locals := 44 }
set_option maxRecDepth 100000 in
set_option maxHeartbeats 4000000 in
theorem M_X5_turn (l : Launch) (D : va_G) (cI cJ : ClassId) (mo R G F : Nat → Nat) (hG : OkG 99999 G) (v z : Int32) : CE E0 l D vwCl [(cI, .int), (cJ, .long)] yX5_turn wsX5_turn rmX5_turn [.ref (mo 0), .int v, .int z] [mH mo R, mR cI (mo 1) G, aI cI (mo 4) 7 F] (S := Unit) (some (.int (turnV G v.toInt z.toInt))) (fun _ => True) (fun _ : Unit => [mH mo R, mR cI (mo 1) (turnG G v.toInt z.toInt), aI cI (mo 4) 7 (turnF G F v.toInt z.toInt)]) 0 0 := by
  refine CE.ofW (cc := cX5_turn) (maxL := 3) (ret := (some .int)) (lv := [(0, .ref (mo 0)), (1, .int v), (2, .int z)]) (by decide) rfl (Nat.le_of_ble_eq_true rfl) rfl ?_
  intro p e s m args below meth c ls A Q hQ hx hb hml hr hlocks hnm hown hts hK hA hE hW hl
  have hown : s.vm.findClass RX5 = some m.cls := hown
  obtain ⟨hg0, hg8, hg16, hg16b, hg24, hg32, hg40, hg48⟩ := hG.s
  refine lv_aload_n hx hb dX5_turn_0 rfl (lv_at hl 0 rfl) ?_
  refine lv_iload_n hx hb dX5_turn_1 rfl (lv_at hl 1 rfl) ?_
  refine cl_Vi (As := [.int v]) (rest := []) (C := RX5) ⟨hx, hb, hml, hown, hts⟩ (M_X5_isMother l D cI cJ mo R G 99999 (by decide) hG v) (cwV 1 hts gX5_turn_X5_isMother rfl rfl rfl qX5_isMother ⟨Nat.le_of_ble_eq_true rfl, Nat.le_of_ble_eq_true rfl⟩) E0_good hK hA hW trivial [true, true] (fun _ => [mH mo R, mR cI (mo 1) G, aI cI (mo 4) 7 F]) rfl (fun _ => rfl) (fun _ => rfl) 0 0 rfl rfl rfl rfl hl.1 rfl (lv_room (Nat.le_of_ble_eq_true rfl)) dX5_turn_2 ⟨Nat.zero_le _, Nat.zero_le _⟩ (fun _ H locs _ hW => ?_)
  have him_ := inN_or v (G 40)
  refine nn_zeq (tgt := 32) hx hb dX5_turn_5 (by decide) (by omega) (fun c5 => ?_) (fun c5 => ?_)
  · refine lv_aload_n hx hb dX5_turn_32 rfl (lv_at hl 0 rfl) ?_
    refine lv_ldc (v := -1000000001) hx hb hown (hts _ (List.mem_of_getElem? (i := 1) rfl)) dX5_turn_33 ?_
    refine cl_Vi (As := [.int (-1000000001)]) (rest := []) (C := RX5) ⟨hx, hb, hml, hown, hts⟩ (M_X5_finds l D cI cJ mo R F 0 (by decide) (-1000000001) (by decide +kernel)) (cwV 1 hts gX5_turn_X5_finds rfl rfl rfl qX5_finds ⟨Nat.le_of_ble_eq_true rfl, Nat.le_of_ble_eq_true rfl⟩) E0_good hK hA hW trivial [true, false, true] (fun _ => [mH mo R, mR cI (mo 1) G, aI cI (mo 4) 7 (up F 0 (F 0 + 1))]) rfl (fun _ => rfl) (fun _ => rfl) 0 0 rfl rfl rfl rfl hl.1 rfl (lv_room (Nat.le_of_ble_eq_true rfl)) dX5_turn_35 ⟨Nat.zero_le _, Nat.zero_le _⟩ (fun _ H locs _ hW => ?_)
    exact rt_i hQ hx hb hr hlocks hW dX5_turn_38 () (by (try simp only [turnV]); (repeat' split) <;> first | rfl | (exfalso; omega)) trivial (by (try simp only [turnG, turnF]); (repeat' split) <;> first | rfl | (exfalso; omega))
  · refine lv_iload_n hx hb dX5_turn_8 rfl (lv_at hl 2 rfl) ?_
    refine lv_i2l (v := (z).toInt64) hx hb dX5_turn_9 rfl ?_
    refine lv_iconst (v := nI 0) hx hb dX5_turn_10 (by decide +kernel) ?_
    refine lv_iconst (v := nI 5) hx hb dX5_turn_11 (by decide +kernel) ?_
    refine cl_Si (As := [.long ((z).toInt64), .int (nI 0), .int (nI 5)]) (rest := []) ⟨hx, hb, hml, hown, hts⟩ (M_X5_in2 l D cI cJ ((z).toInt64) (nI 0) (nI 5) z.toInt ((0 : Nat) : Int) ((5 : Nat) : Int) ((Int32.toInt_toInt64 _).trans rfl) (nI_toInt (n := 0) (by decide)) (nI_toInt (n := 5) (by decide))) (va_cwS 3 hts gX5_turn_X5_in rfl rfl rfl qX5_in ⟨Nat.le_of_ble_eq_true rfl, Nat.le_of_ble_eq_true rfl⟩) E0_good hK hA hW trivial [] (fun _ => [mH mo R, mR cI (mo 1) G, aI cI (mo 4) 7 F]) rfl (fun _ => rfl) (fun _ => rfl) rfl hl.1 rfl (lv_room (Nat.le_of_ble_eq_true rfl)) dX5_turn_12 ⟨Nat.zero_le _, Nat.zero_le _⟩ (fun _ H locs _ hW => ?_)
    have hin_ := inZ_or z.toInt ((0 : Nat) : Int) ((5 : Nat) : Int)
    refine nn_zeq (tgt := 32) hx hb dX5_turn_15 (by decide) (by omega) (fun c15 => ?_) (fun c15 => ?_)
    · refine lv_aload_n hx hb dX5_turn_32 rfl (lv_at hl 0 rfl) ?_
      refine lv_ldc (v := -1000000001) hx hb hown (hts _ (List.mem_of_getElem? (i := 1) rfl)) dX5_turn_33 ?_
      refine cl_Vi (As := [.int (-1000000001)]) (rest := []) (C := RX5) ⟨hx, hb, hml, hown, hts⟩ (M_X5_finds l D cI cJ mo R F 0 (by decide) (-1000000001) (by decide +kernel)) (cwV 1 hts gX5_turn_X5_finds rfl rfl rfl qX5_finds ⟨Nat.le_of_ble_eq_true rfl, Nat.le_of_ble_eq_true rfl⟩) E0_good hK hA hW trivial [true, false, true] (fun _ => [mH mo R, mR cI (mo 1) G, aI cI (mo 4) 7 (up F 0 (F 0 + 1))]) rfl (fun _ => rfl) (fun _ => rfl) 0 0 rfl rfl rfl rfl hl.1 rfl (lv_room (Nat.le_of_ble_eq_true rfl)) dX5_turn_35 ⟨Nat.zero_le _, Nat.zero_le _⟩ (fun _ H locs _ hW => ?_)
      exact rt_i hQ hx hb hr hlocks hW dX5_turn_38 () (by (try simp only [turnV]); (repeat' split) <;> first | rfl | (exfalso; omega)) trivial (by (try simp only [turnG, turnF]); (repeat' split) <;> first | rfl | (exfalso; omega))
    · obtain ⟨j, hj, ej⟩ : ∃ j : Nat, v = nI j ∧ v.toInt = (j : Int) := ⟨v.toInt.toNat, nI_ofZ rfl (by omega), by omega⟩
      rw [hj] at hl
      obtain ⟨y, hy, ey⟩ : ∃ y : Nat, z = nI y ∧ z.toInt = (y : Int) := ⟨z.toInt.toNat, nI_ofZ rfl (by omega), by omega⟩
      rw [hy] at hl
      refine lv_aload_n hx hb dX5_turn_18 rfl (lv_at hl 0 rfl) ?_
      refine lv_bipush (v := nI 7) hx hb dX5_turn_19 (by decide +kernel) ?_
      refine lv_iconst (v := nI 4) hx hb dX5_turn_21 (by decide +kernel) ?_
      refine lv_iload_n hx hb dX5_turn_22 rfl (lv_at hl 1 rfl) ?_
      refine nn_mul hx hb dX5_turn_23 ?_
      refine nn_add hx hb dX5_turn_24 ?_
      refine lv_iload_n hx hb dX5_turn_25 rfl (lv_at hl 2 rfl) ?_
      refine cl_Vi (As := [.int (nI (7 + (4 * j))), .int (nI y)]) (rest := []) (C := RX5) ⟨hx, hb, hml, hown, hts⟩ (M_X5_becomes l D cI cJ mo R G (7 + (4 * j)) (8 * j + 1) y (by omega) (mk_m (w := 0) (by omega) (by decide))) (cwV 2 hts gX5_turn_X5_becomes rfl rfl rfl qX5_becomes ⟨Nat.le_of_ble_eq_true rfl, Nat.le_of_ble_eq_true rfl⟩) E0_good hK hA hW trivial [true, true] (fun _ => [mH mo R, mR cI (mo 1) (up G (8 * j + 1) y), aI cI (mo 4) 7 F]) rfl (fun _ => rfl) (fun _ => rfl) 0 0 rfl rfl rfl rfl hl.1 rfl (lv_room (Nat.le_of_ble_eq_true rfl)) dX5_turn_26 ⟨Nat.zero_le _, Nat.zero_le _⟩ (fun _ H locs _ hW => ?_)
      refine lv_goto (tgt := 38) hx hb dX5_turn_29 (by decide) ?_
      exact rt_i hQ hx hb hr hlocks hW dX5_turn_38 () (by (try simp only [turnV, ej, ey, Int.toNat_natCast]); (repeat' split) <;> first | rfl | (exfalso; omega)) trivial (by (try simp only [turnG, turnF, ej, ey, Int.toNat_natCast]); (repeat' split) <;> first | rfl | (exfalso; omega))
abbrev rmX5_as : Room := { frames := 2, cells := 0, slots := 0, locals := 44 }
set_option maxRecDepth 100000 in
set_option maxHeartbeats 4000000 in
theorem M_X5_as (l : Launch) (D : va_G) (cI cJ : ClassId) (mo R G F : Nat → Nat) (hG : OkG 99999 G) (v z : Int32) : CE E0 l D vwCl [(cI, .int), (cJ, .long)] yX5_as wsX5_as rmX5_as [.ref (mo 0), .int v, .int z] [mH mo R, mR cI (mo 1) G, aI cI (mo 4) 7 F] (S := Unit) (some (.int (asV G v.toInt z.toInt))) (fun _ => True) (fun _ : Unit => [mH mo R, mR cI (mo 1) (G), aI cI (mo 4) 7 (asF G F v.toInt z.toInt)]) 0 0 := by
  refine CE.ofW (cc := cX5_as) (maxL := 5) (ret := (some .int)) (lv := [(0, .ref (mo 0)), (1, .int v), (2, .int z)]) (by decide) rfl (Nat.le_of_ble_eq_true rfl) rfl ?_
  intro p e s m args below meth c ls A Q hQ hx hb hml hr hlocks hnm hown hts hK hA hE hW hl
  have hown : s.vm.findClass RX5 = some m.cls := hown
  obtain ⟨hg0, hg8, hg16, hg16b, hg24, hg32, hg40, hg48⟩ := hG.s
  refine lv_aload_n hx hb dX5_as_0 rfl (lv_at hl 0 rfl) ?_
  refine lv_iload_n hx hb dX5_as_1 rfl (lv_at hl 1 rfl) ?_
  refine cl_Vi (As := [.int v]) (rest := []) (C := RX5) ⟨hx, hb, hml, hown, hts⟩ (M_X5_isMother l D cI cJ mo R G 99999 (by decide) hG v) (cwV 1 hts gX5_as_X5_isMother rfl rfl rfl qX5_isMother ⟨Nat.le_of_ble_eq_true rfl, Nat.le_of_ble_eq_true rfl⟩) E0_good hK hA hW trivial [true, true] (fun _ => [mH mo R, mR cI (mo 1) G, aI cI (mo 4) 7 F]) rfl (fun _ => rfl) (fun _ => rfl) 0 0 rfl rfl rfl rfl hl.1 rfl (lv_room (Nat.le_of_ble_eq_true rfl)) dX5_as_2 ⟨Nat.zero_le _, Nat.zero_le _⟩ (fun _ H locs _ hW => ?_)
  have him_ := inN_or v (G 40)
  refine nn_zeq (tgt := 18) hx hb dX5_as_5 (by decide) (by omega) (fun c5 => ?_) (fun c5 => ?_)
  · refine lv_aload_n hx hb dX5_as_18 rfl (lv_at hl 0 rfl) ?_
    refine lv_ldc (v := -1000000001) hx hb hown (hts _ (List.mem_of_getElem? (i := 1) rfl)) dX5_as_19 ?_
    refine cl_Vi (As := [.int (-1000000001)]) (rest := []) (C := RX5) ⟨hx, hb, hml, hown, hts⟩ (M_X5_finds l D cI cJ mo R F 0 (by decide) (-1000000001) (by decide +kernel)) (cwV 1 hts gX5_as_X5_finds rfl rfl rfl qX5_finds ⟨Nat.le_of_ble_eq_true rfl, Nat.le_of_ble_eq_true rfl⟩) E0_good hK hA hW trivial [true, false, true] (fun _ => [mH mo R, mR cI (mo 1) G, aI cI (mo 4) 7 (up F 0 (F 0 + 1))]) rfl (fun _ => rfl) (fun _ => rfl) 0 0 rfl rfl rfl rfl hl.1 rfl (lv_room (Nat.le_of_ble_eq_true rfl)) dX5_as_21 ⟨Nat.zero_le _, Nat.zero_le _⟩ (fun _ H locs _ hW => ?_)
    exact rt_i hQ hx hb hr hlocks hW dX5_as_24 () (by (try simp only [asV, underN, aboveK]); (repeat' split) <;> first | rfl | (exfalso; omega)) trivial (by (try simp only [asF, underN, aboveK]); (repeat' split) <;> first | rfl | (exfalso; omega))
  · refine lv_iload_n hx hb dX5_as_8 rfl (lv_at hl 2 rfl) ?_
    refine lv_i2l (v := (z).toInt64) hx hb dX5_as_9 rfl ?_
    refine lv_iconst (v := nI 0) hx hb dX5_as_10 (by decide +kernel) ?_
    refine lv_iconst (v := nI 5) hx hb dX5_as_11 (by decide +kernel) ?_
    refine cl_Si (As := [.long ((z).toInt64), .int (nI 0), .int (nI 5)]) (rest := []) ⟨hx, hb, hml, hown, hts⟩ (M_X5_in2 l D cI cJ ((z).toInt64) (nI 0) (nI 5) z.toInt ((0 : Nat) : Int) ((5 : Nat) : Int) ((Int32.toInt_toInt64 _).trans rfl) (nI_toInt (n := 0) (by decide)) (nI_toInt (n := 5) (by decide))) (va_cwS 3 hts gX5_as_X5_in rfl rfl rfl qX5_in ⟨Nat.le_of_ble_eq_true rfl, Nat.le_of_ble_eq_true rfl⟩) E0_good hK hA hW trivial [] (fun _ => [mH mo R, mR cI (mo 1) G, aI cI (mo 4) 7 F]) rfl (fun _ => rfl) (fun _ => rfl) rfl hl.1 rfl (lv_room (Nat.le_of_ble_eq_true rfl)) dX5_as_12 ⟨Nat.zero_le _, Nat.zero_le _⟩ (fun _ H locs _ hW => ?_)
    have hin_ := inZ_or z.toInt ((0 : Nat) : Int) ((5 : Nat) : Int)
    refine nn_zne (tgt := 25) hx hb dX5_as_15 (by decide) (by omega) (fun c15 => ?_) (fun c15 => ?_)
    · obtain ⟨j, hj, ej⟩ : ∃ j : Nat, v = nI j ∧ v.toInt = (j : Int) := ⟨v.toInt.toNat, nI_ofZ rfl (by omega), by omega⟩
      rw [hj] at hl
      obtain ⟨y, hy, ey⟩ : ∃ y : Nat, z = nI y ∧ z.toInt = (y : Int) := ⟨z.toInt.toNat, nI_ofZ rfl (by omega), by omega⟩
      rw [hy] at hl
      have hmj := hG.m j (by omega)
      refine lv_aload_n hx hb dX5_as_25 rfl (lv_at hl 0 rfl) ?_
      refine lv_iload_n hx hb dX5_as_26 rfl (lv_at hl 1 rfl) ?_
      refine lv_iconst (v := nI 0) hx hb dX5_as_27 (by decide +kernel) ?_
      refine cl_Vi (As := [.int (nI j), .int (nI 0)]) (rest := []) (C := RX5) ⟨hx, hb, hml, hown, hts⟩ (M_X5_it l D cI cJ mo R G j 0 1 (by omega) (by decide) rfl) (cwV 2 hts gX5_as_X5_it rfl rfl rfl qX5_it ⟨Nat.le_of_ble_eq_true rfl, Nat.le_of_ble_eq_true rfl⟩) E0_good hK hA hW trivial [true, true] (fun _ => [mH mo R, mR cI (mo 1) G, aI cI (mo 4) 7 F]) rfl (fun _ => rfl) (fun _ => rfl) 0 0 rfl rfl rfl rfl hl.1 rfl (lv_room (Nat.le_of_ble_eq_true rfl)) dX5_as_28 ⟨Nat.zero_le _, Nat.zero_le _⟩ (fun _ H locs _ hW => ?_)
      refine lv_istore_n (lv' := [(3, .int (nI (G (8 * j + 1)))), (0, .ref (mo 0)), (1, .int (nI j)), (2, .int (nI y))]) hx hb dX5_as_31 rfl hl (by decide) rfl (fun ls hl => ?_)
      refine lv_iload_n hx hb dX5_as_32 rfl (lv_at hl 3 rfl) ?_
      refine nn_zeq (tgt := 61) hx hb dX5_as_33 (by decide) (by omega) (fun c33 => ?_) (fun c33 => ?_)
      · refine lv_iconst (v := nI 1) hx hb dX5_as_61 (by decide +kernel) ?_
        refine lv_goto (tgt := 66) hx hb dX5_as_62 (by decide) ?_
        refine lv_istore (lv' := [(4, .int (nI 1)), (3, .int (nI (G (8 * j + 1)))), (0, .ref (mo 0)), (1, .int (nI j)), (2, .int (nI y))]) hx hb dX5_as_66 hl (by decide) rfl (fun ls hl => ?_)
        refine lv_iload hx hb dX5_as_68 (lv_at hl 0 rfl) ?_
        refine nn_zeq (tgt := 82) hx hb dX5_as_70 (by decide) (by decide) (fun c70 => ?_) (fun c70 => ?_)
        · exfalso; omega
        · refine lv_aload_n hx hb dX5_as_73 rfl (lv_at hl 2 rfl) ?_
          refine lv_iload_n hx hb dX5_as_74 rfl (lv_at hl 3 rfl) ?_
          refine lv_iconst (v := nI 2) hx hb dX5_as_75 (by decide +kernel) ?_
          refine cl_Vi (As := [.int (nI j), .int (nI 2)]) (rest := []) (C := RX5) ⟨hx, hb, hml, hown, hts⟩ (M_X5_it l D cI cJ mo R G j 2 3 (by omega) (by decide) rfl) (cwV 2 hts gX5_as_X5_it rfl rfl rfl qX5_it ⟨Nat.le_of_ble_eq_true rfl, Nat.le_of_ble_eq_true rfl⟩) E0_good hK hA hW trivial [true, true] (fun _ => [mH mo R, mR cI (mo 1) G, aI cI (mo 4) 7 F]) rfl (fun _ => rfl) (fun _ => rfl) 0 0 rfl rfl rfl rfl hl.1 rfl (lv_room (Nat.le_of_ble_eq_true rfl)) dX5_as_76 ⟨Nat.zero_le _, Nat.zero_le _⟩ (fun _ H locs _ hW => ?_)
          refine lv_goto (tgt := 88) hx hb dX5_as_79 (by decide) ?_
          exact rt_i hQ hx hb hr hlocks hW dX5_as_88 () (by (try simp only [asV, underN, aboveK, ej, ey, Int.toNat_natCast]); (repeat' split) <;> first | rfl | (exfalso; omega)) trivial (by (try simp only [asF, underN, aboveK, ej, ey, Int.toNat_natCast]); (repeat' split) <;> first | rfl | (exfalso; omega))
      · refine lv_iload_n hx hb dX5_as_36 rfl (lv_at hl 3 rfl) ?_
        refine lv_iload_n hx hb dX5_as_37 rfl (lv_at hl 0 rfl) ?_
        refine nn_ceq (tgt := 61) hx hb dX5_as_38 (by decide) (by omega) (by omega) (fun c38 => ?_) (fun c38 => ?_)
        · refine lv_iconst (v := nI 1) hx hb dX5_as_61 (by decide +kernel) ?_
          refine lv_goto (tgt := 66) hx hb dX5_as_62 (by decide) ?_
          refine lv_istore (lv' := [(4, .int (nI 1)), (3, .int (nI (G (8 * j + 1)))), (0, .ref (mo 0)), (1, .int (nI j)), (2, .int (nI y))]) hx hb dX5_as_66 hl (by decide) rfl (fun ls hl => ?_)
          refine lv_iload hx hb dX5_as_68 (lv_at hl 0 rfl) ?_
          refine nn_zeq (tgt := 82) hx hb dX5_as_70 (by decide) (by decide) (fun c70_1 => ?_) (fun c70_1 => ?_)
          · exfalso; omega
          · refine lv_aload_n hx hb dX5_as_73 rfl (lv_at hl 2 rfl) ?_
            refine lv_iload_n hx hb dX5_as_74 rfl (lv_at hl 3 rfl) ?_
            refine lv_iconst (v := nI 2) hx hb dX5_as_75 (by decide +kernel) ?_
            refine cl_Vi (As := [.int (nI j), .int (nI 2)]) (rest := []) (C := RX5) ⟨hx, hb, hml, hown, hts⟩ (M_X5_it l D cI cJ mo R G j 2 3 (by omega) (by decide) rfl) (cwV 2 hts gX5_as_X5_it rfl rfl rfl qX5_it ⟨Nat.le_of_ble_eq_true rfl, Nat.le_of_ble_eq_true rfl⟩) E0_good hK hA hW trivial [true, true] (fun _ => [mH mo R, mR cI (mo 1) G, aI cI (mo 4) 7 F]) rfl (fun _ => rfl) (fun _ => rfl) 0 0 rfl rfl rfl rfl hl.1 rfl (lv_room (Nat.le_of_ble_eq_true rfl)) dX5_as_76 ⟨Nat.zero_le _, Nat.zero_le _⟩ (fun _ H locs _ hW => ?_)
            refine lv_goto (tgt := 88) hx hb dX5_as_79 (by decide) ?_
            exact rt_i hQ hx hb hr hlocks hW dX5_as_88 () (by (try simp only [asV, underN, aboveK, ej, ey, Int.toNat_natCast]); (repeat' split) <;> first | rfl | (exfalso; omega)) trivial (by (try simp only [asF, underN, aboveK, ej, ey, Int.toNat_natCast]); (repeat' split) <;> first | rfl | (exfalso; omega))
        · refine lv_iload_n hx hb dX5_as_41 rfl (lv_at hl 3 rfl) ?_
          refine lv_iconst (v := nI 1) hx hb dX5_as_42 (by decide +kernel) ?_
          refine nn_cne (tgt := 51) hx hb dX5_as_43 (by decide) (by omega) (by decide) (fun c43 => ?_) (fun c43 => ?_)
          · refine lv_iload_n hx hb dX5_as_51 rfl (lv_at hl 3 rfl) ?_
            refine lv_iconst (v := nI 2) hx hb dX5_as_52 (by decide +kernel) ?_
            refine nn_cne (tgt := 65) hx hb dX5_as_53 (by decide) (by omega) (by decide) (fun c53 => ?_) (fun c53 => ?_)
            · refine lv_iconst (v := nI 0) hx hb dX5_as_65 (by decide +kernel) ?_
              refine lv_istore (lv' := [(4, .int (nI 0)), (3, .int (nI (G (8 * j + 1)))), (0, .ref (mo 0)), (1, .int (nI j)), (2, .int (nI y))]) hx hb dX5_as_66 hl (by decide) rfl (fun ls hl => ?_)
              refine lv_iload hx hb dX5_as_68 (lv_at hl 0 rfl) ?_
              refine nn_zeq (tgt := 82) hx hb dX5_as_70 (by decide) (by decide) (fun c70_2 => ?_) (fun c70_2 => ?_)
              · refine lv_aload_n hx hb dX5_as_82 rfl (lv_at hl 2 rfl) ?_
                refine lv_ldc (v := -1000000003) hx hb hown (hts _ (List.mem_of_getElem? (i := 2) rfl)) dX5_as_83 ?_
                refine cl_Vi (As := [.int (-1000000003)]) (rest := []) (C := RX5) ⟨hx, hb, hml, hown, hts⟩ (M_X5_finds l D cI cJ mo R F 2 (by decide) (-1000000003) (by decide +kernel)) (cwV 1 hts gX5_as_X5_finds rfl rfl rfl qX5_finds ⟨Nat.le_of_ble_eq_true rfl, Nat.le_of_ble_eq_true rfl⟩) E0_good hK hA hW trivial [true, false, true] (fun _ => [mH mo R, mR cI (mo 1) G, aI cI (mo 4) 7 (up F 2 (F 2 + 1))]) rfl (fun _ => rfl) (fun _ => rfl) 0 0 rfl rfl rfl rfl hl.1 rfl (lv_room (Nat.le_of_ble_eq_true rfl)) dX5_as_85 ⟨Nat.zero_le _, Nat.zero_le _⟩ (fun _ H locs _ hW => ?_)
                exact rt_i hQ hx hb hr hlocks hW dX5_as_88 () (by (try simp only [asV, underN, aboveK, ej, ey, Int.toNat_natCast]); (repeat' split) <;> first | rfl | (exfalso; omega)) trivial (by (try simp only [asF, underN, aboveK, ej, ey, Int.toNat_natCast]); (repeat' split) <;> first | rfl | (exfalso; omega))
              · exfalso; omega
            · refine lv_iload_n hx hb dX5_as_56 rfl (lv_at hl 0 rfl) ?_
              refine lv_iconst (v := nI 5) hx hb dX5_as_57 (by decide +kernel) ?_
              refine nn_cne (tgt := 65) hx hb dX5_as_58 (by decide) (by omega) (by decide) (fun c58 => ?_) (fun c58 => ?_)
              · refine lv_iconst (v := nI 0) hx hb dX5_as_65 (by decide +kernel) ?_
                refine lv_istore (lv' := [(4, .int (nI 0)), (3, .int (nI (G (8 * j + 1)))), (0, .ref (mo 0)), (1, .int (nI j)), (2, .int (nI y))]) hx hb dX5_as_66 hl (by decide) rfl (fun ls hl => ?_)
                refine lv_iload hx hb dX5_as_68 (lv_at hl 0 rfl) ?_
                refine nn_zeq (tgt := 82) hx hb dX5_as_70 (by decide) (by decide) (fun c70_3 => ?_) (fun c70_3 => ?_)
                · refine lv_aload_n hx hb dX5_as_82 rfl (lv_at hl 2 rfl) ?_
                  refine lv_ldc (v := -1000000003) hx hb hown (hts _ (List.mem_of_getElem? (i := 2) rfl)) dX5_as_83 ?_
                  refine cl_Vi (As := [.int (-1000000003)]) (rest := []) (C := RX5) ⟨hx, hb, hml, hown, hts⟩ (M_X5_finds l D cI cJ mo R F 2 (by decide) (-1000000003) (by decide +kernel)) (cwV 1 hts gX5_as_X5_finds rfl rfl rfl qX5_finds ⟨Nat.le_of_ble_eq_true rfl, Nat.le_of_ble_eq_true rfl⟩) E0_good hK hA hW trivial [true, false, true] (fun _ => [mH mo R, mR cI (mo 1) G, aI cI (mo 4) 7 (up F 2 (F 2 + 1))]) rfl (fun _ => rfl) (fun _ => rfl) 0 0 rfl rfl rfl rfl hl.1 rfl (lv_room (Nat.le_of_ble_eq_true rfl)) dX5_as_85 ⟨Nat.zero_le _, Nat.zero_le _⟩ (fun _ H locs _ hW => ?_)
                  exact rt_i hQ hx hb hr hlocks hW dX5_as_88 () (by (try simp only [asV, underN, aboveK, ej, ey, Int.toNat_natCast]); (repeat' split) <;> first | rfl | (exfalso; omega)) trivial (by (try simp only [asF, underN, aboveK, ej, ey, Int.toNat_natCast]); (repeat' split) <;> first | rfl | (exfalso; omega))
                · exfalso; omega
              · refine lv_iconst (v := nI 1) hx hb dX5_as_61 (by decide +kernel) ?_
                refine lv_goto (tgt := 66) hx hb dX5_as_62 (by decide) ?_
                refine lv_istore (lv' := [(4, .int (nI 1)), (3, .int (nI (G (8 * j + 1)))), (0, .ref (mo 0)), (1, .int (nI j)), (2, .int (nI y))]) hx hb dX5_as_66 hl (by decide) rfl (fun ls hl => ?_)
                refine lv_iload hx hb dX5_as_68 (lv_at hl 0 rfl) ?_
                refine nn_zeq (tgt := 82) hx hb dX5_as_70 (by decide) (by decide) (fun c70_4 => ?_) (fun c70_4 => ?_)
                · exfalso; omega
                · refine lv_aload_n hx hb dX5_as_73 rfl (lv_at hl 2 rfl) ?_
                  refine lv_iload_n hx hb dX5_as_74 rfl (lv_at hl 3 rfl) ?_
                  refine lv_iconst (v := nI 2) hx hb dX5_as_75 (by decide +kernel) ?_
                  refine cl_Vi (As := [.int (nI j), .int (nI 2)]) (rest := []) (C := RX5) ⟨hx, hb, hml, hown, hts⟩ (M_X5_it l D cI cJ mo R G j 2 3 (by omega) (by decide) rfl) (cwV 2 hts gX5_as_X5_it rfl rfl rfl qX5_it ⟨Nat.le_of_ble_eq_true rfl, Nat.le_of_ble_eq_true rfl⟩) E0_good hK hA hW trivial [true, true] (fun _ => [mH mo R, mR cI (mo 1) G, aI cI (mo 4) 7 F]) rfl (fun _ => rfl) (fun _ => rfl) 0 0 rfl rfl rfl rfl hl.1 rfl (lv_room (Nat.le_of_ble_eq_true rfl)) dX5_as_76 ⟨Nat.zero_le _, Nat.zero_le _⟩ (fun _ H locs _ hW => ?_)
                  refine lv_goto (tgt := 88) hx hb dX5_as_79 (by decide) ?_
                  exact rt_i hQ hx hb hr hlocks hW dX5_as_88 () (by (try simp only [asV, underN, aboveK, ej, ey, Int.toNat_natCast]); (repeat' split) <;> first | rfl | (exfalso; omega)) trivial (by (try simp only [asF, underN, aboveK, ej, ey, Int.toNat_natCast]); (repeat' split) <;> first | rfl | (exfalso; omega))
          · refine lv_iload_n hx hb dX5_as_46 rfl (lv_at hl 0 rfl) ?_
            refine lv_iconst (v := nI 4) hx hb dX5_as_47 (by decide +kernel) ?_
            refine nn_ceq (tgt := 61) hx hb dX5_as_48 (by decide) (by omega) (by decide) (fun c48 => ?_) (fun c48 => ?_)
            · refine lv_iconst (v := nI 1) hx hb dX5_as_61 (by decide +kernel) ?_
              refine lv_goto (tgt := 66) hx hb dX5_as_62 (by decide) ?_
              refine lv_istore (lv' := [(4, .int (nI 1)), (3, .int (nI (G (8 * j + 1)))), (0, .ref (mo 0)), (1, .int (nI j)), (2, .int (nI y))]) hx hb dX5_as_66 hl (by decide) rfl (fun ls hl => ?_)
              refine lv_iload hx hb dX5_as_68 (lv_at hl 0 rfl) ?_
              refine nn_zeq (tgt := 82) hx hb dX5_as_70 (by decide) (by decide) (fun c70_5 => ?_) (fun c70_5 => ?_)
              · exfalso; omega
              · refine lv_aload_n hx hb dX5_as_73 rfl (lv_at hl 2 rfl) ?_
                refine lv_iload_n hx hb dX5_as_74 rfl (lv_at hl 3 rfl) ?_
                refine lv_iconst (v := nI 2) hx hb dX5_as_75 (by decide +kernel) ?_
                refine cl_Vi (As := [.int (nI j), .int (nI 2)]) (rest := []) (C := RX5) ⟨hx, hb, hml, hown, hts⟩ (M_X5_it l D cI cJ mo R G j 2 3 (by omega) (by decide) rfl) (cwV 2 hts gX5_as_X5_it rfl rfl rfl qX5_it ⟨Nat.le_of_ble_eq_true rfl, Nat.le_of_ble_eq_true rfl⟩) E0_good hK hA hW trivial [true, true] (fun _ => [mH mo R, mR cI (mo 1) G, aI cI (mo 4) 7 F]) rfl (fun _ => rfl) (fun _ => rfl) 0 0 rfl rfl rfl rfl hl.1 rfl (lv_room (Nat.le_of_ble_eq_true rfl)) dX5_as_76 ⟨Nat.zero_le _, Nat.zero_le _⟩ (fun _ H locs _ hW => ?_)
                refine lv_goto (tgt := 88) hx hb dX5_as_79 (by decide) ?_
                exact rt_i hQ hx hb hr hlocks hW dX5_as_88 () (by (try simp only [asV, underN, aboveK, ej, ey, Int.toNat_natCast]); (repeat' split) <;> first | rfl | (exfalso; omega)) trivial (by (try simp only [asF, underN, aboveK, ej, ey, Int.toNat_natCast]); (repeat' split) <;> first | rfl | (exfalso; omega))
            · refine lv_iload_n hx hb dX5_as_51 rfl (lv_at hl 3 rfl) ?_
              refine lv_iconst (v := nI 2) hx hb dX5_as_52 (by decide +kernel) ?_
              refine nn_cne (tgt := 65) hx hb dX5_as_53 (by decide) (by omega) (by decide) (fun c53_1 => ?_) (fun c53_1 => ?_)
              · refine lv_iconst (v := nI 0) hx hb dX5_as_65 (by decide +kernel) ?_
                refine lv_istore (lv' := [(4, .int (nI 0)), (3, .int (nI (G (8 * j + 1)))), (0, .ref (mo 0)), (1, .int (nI j)), (2, .int (nI y))]) hx hb dX5_as_66 hl (by decide) rfl (fun ls hl => ?_)
                refine lv_iload hx hb dX5_as_68 (lv_at hl 0 rfl) ?_
                refine nn_zeq (tgt := 82) hx hb dX5_as_70 (by decide) (by decide) (fun c70_6 => ?_) (fun c70_6 => ?_)
                · refine lv_aload_n hx hb dX5_as_82 rfl (lv_at hl 2 rfl) ?_
                  refine lv_ldc (v := -1000000003) hx hb hown (hts _ (List.mem_of_getElem? (i := 2) rfl)) dX5_as_83 ?_
                  refine cl_Vi (As := [.int (-1000000003)]) (rest := []) (C := RX5) ⟨hx, hb, hml, hown, hts⟩ (M_X5_finds l D cI cJ mo R F 2 (by decide) (-1000000003) (by decide +kernel)) (cwV 1 hts gX5_as_X5_finds rfl rfl rfl qX5_finds ⟨Nat.le_of_ble_eq_true rfl, Nat.le_of_ble_eq_true rfl⟩) E0_good hK hA hW trivial [true, false, true] (fun _ => [mH mo R, mR cI (mo 1) G, aI cI (mo 4) 7 (up F 2 (F 2 + 1))]) rfl (fun _ => rfl) (fun _ => rfl) 0 0 rfl rfl rfl rfl hl.1 rfl (lv_room (Nat.le_of_ble_eq_true rfl)) dX5_as_85 ⟨Nat.zero_le _, Nat.zero_le _⟩ (fun _ H locs _ hW => ?_)
                  exact rt_i hQ hx hb hr hlocks hW dX5_as_88 () (by (try simp only [asV, underN, aboveK, ej, ey, Int.toNat_natCast]); (repeat' split) <;> first | rfl | (exfalso; omega)) trivial (by (try simp only [asF, underN, aboveK, ej, ey, Int.toNat_natCast]); (repeat' split) <;> first | rfl | (exfalso; omega))
                · exfalso; omega
              · refine lv_iload_n hx hb dX5_as_56 rfl (lv_at hl 0 rfl) ?_
                refine lv_iconst (v := nI 5) hx hb dX5_as_57 (by decide +kernel) ?_
                refine nn_cne (tgt := 65) hx hb dX5_as_58 (by decide) (by omega) (by decide) (fun c58_1 => ?_) (fun c58_1 => ?_)
                · refine lv_iconst (v := nI 0) hx hb dX5_as_65 (by decide +kernel) ?_
                  refine lv_istore (lv' := [(4, .int (nI 0)), (3, .int (nI (G (8 * j + 1)))), (0, .ref (mo 0)), (1, .int (nI j)), (2, .int (nI y))]) hx hb dX5_as_66 hl (by decide) rfl (fun ls hl => ?_)
                  refine lv_iload hx hb dX5_as_68 (lv_at hl 0 rfl) ?_
                  refine nn_zeq (tgt := 82) hx hb dX5_as_70 (by decide) (by decide) (fun c70_7 => ?_) (fun c70_7 => ?_)
                  · refine lv_aload_n hx hb dX5_as_82 rfl (lv_at hl 2 rfl) ?_
                    refine lv_ldc (v := -1000000003) hx hb hown (hts _ (List.mem_of_getElem? (i := 2) rfl)) dX5_as_83 ?_
                    refine cl_Vi (As := [.int (-1000000003)]) (rest := []) (C := RX5) ⟨hx, hb, hml, hown, hts⟩ (M_X5_finds l D cI cJ mo R F 2 (by decide) (-1000000003) (by decide +kernel)) (cwV 1 hts gX5_as_X5_finds rfl rfl rfl qX5_finds ⟨Nat.le_of_ble_eq_true rfl, Nat.le_of_ble_eq_true rfl⟩) E0_good hK hA hW trivial [true, false, true] (fun _ => [mH mo R, mR cI (mo 1) G, aI cI (mo 4) 7 (up F 2 (F 2 + 1))]) rfl (fun _ => rfl) (fun _ => rfl) 0 0 rfl rfl rfl rfl hl.1 rfl (lv_room (Nat.le_of_ble_eq_true rfl)) dX5_as_85 ⟨Nat.zero_le _, Nat.zero_le _⟩ (fun _ H locs _ hW => ?_)
                    exact rt_i hQ hx hb hr hlocks hW dX5_as_88 () (by (try simp only [asV, underN, aboveK, ej, ey, Int.toNat_natCast]); (repeat' split) <;> first | rfl | (exfalso; omega)) trivial (by (try simp only [asF, underN, aboveK, ej, ey, Int.toNat_natCast]); (repeat' split) <;> first | rfl | (exfalso; omega))
                  · exfalso; omega
                · refine lv_iconst (v := nI 1) hx hb dX5_as_61 (by decide +kernel) ?_
                  refine lv_goto (tgt := 66) hx hb dX5_as_62 (by decide) ?_
                  refine lv_istore (lv' := [(4, .int (nI 1)), (3, .int (nI (G (8 * j + 1)))), (0, .ref (mo 0)), (1, .int (nI j)), (2, .int (nI y))]) hx hb dX5_as_66 hl (by decide) rfl (fun ls hl => ?_)
                  refine lv_iload hx hb dX5_as_68 (lv_at hl 0 rfl) ?_
                  refine nn_zeq (tgt := 82) hx hb dX5_as_70 (by decide) (by decide) (fun c70_8 => ?_) (fun c70_8 => ?_)
                  · exfalso; omega
                  · refine lv_aload_n hx hb dX5_as_73 rfl (lv_at hl 2 rfl) ?_
                    refine lv_iload_n hx hb dX5_as_74 rfl (lv_at hl 3 rfl) ?_
                    refine lv_iconst (v := nI 2) hx hb dX5_as_75 (by decide +kernel) ?_
                    refine cl_Vi (As := [.int (nI j), .int (nI 2)]) (rest := []) (C := RX5) ⟨hx, hb, hml, hown, hts⟩ (M_X5_it l D cI cJ mo R G j 2 3 (by omega) (by decide) rfl) (cwV 2 hts gX5_as_X5_it rfl rfl rfl qX5_it ⟨Nat.le_of_ble_eq_true rfl, Nat.le_of_ble_eq_true rfl⟩) E0_good hK hA hW trivial [true, true] (fun _ => [mH mo R, mR cI (mo 1) G, aI cI (mo 4) 7 F]) rfl (fun _ => rfl) (fun _ => rfl) 0 0 rfl rfl rfl rfl hl.1 rfl (lv_room (Nat.le_of_ble_eq_true rfl)) dX5_as_76 ⟨Nat.zero_le _, Nat.zero_le _⟩ (fun _ H locs _ hW => ?_)
                    refine lv_goto (tgt := 88) hx hb dX5_as_79 (by decide) ?_
                    exact rt_i hQ hx hb hr hlocks hW dX5_as_88 () (by (try simp only [asV, underN, aboveK, ej, ey, Int.toNat_natCast]); (repeat' split) <;> first | rfl | (exfalso; omega)) trivial (by (try simp only [asF, underN, aboveK, ej, ey, Int.toNat_natCast]); (repeat' split) <;> first | rfl | (exfalso; omega))
    · refine lv_aload_n hx hb dX5_as_18 rfl (lv_at hl 0 rfl) ?_
      refine lv_ldc (v := -1000000001) hx hb hown (hts _ (List.mem_of_getElem? (i := 1) rfl)) dX5_as_19 ?_
      refine cl_Vi (As := [.int (-1000000001)]) (rest := []) (C := RX5) ⟨hx, hb, hml, hown, hts⟩ (M_X5_finds l D cI cJ mo R F 0 (by decide) (-1000000001) (by decide +kernel)) (cwV 1 hts gX5_as_X5_finds rfl rfl rfl qX5_finds ⟨Nat.le_of_ble_eq_true rfl, Nat.le_of_ble_eq_true rfl⟩) E0_good hK hA hW trivial [true, false, true] (fun _ => [mH mo R, mR cI (mo 1) G, aI cI (mo 4) 7 (up F 0 (F 0 + 1))]) rfl (fun _ => rfl) (fun _ => rfl) 0 0 rfl rfl rfl rfl hl.1 rfl (lv_room (Nat.le_of_ble_eq_true rfl)) dX5_as_21 ⟨Nat.zero_le _, Nat.zero_le _⟩ (fun _ H locs _ hW => ?_)
      exact rt_i hQ hx hb hr hlocks hW dX5_as_24 () (by (try simp only [asV, underN, aboveK]); (repeat' split) <;> first | rfl | (exfalso; omega)) trivial (by (try simp only [asF, underN, aboveK]); (repeat' split) <;> first | rfl | (exfalso; omega))
abbrev rmX5_child : Room := { frames := 2, cells := 0, slots := 0, locals := 46 }
set_option maxRecDepth 100000 in
set_option maxHeartbeats 4000000 in
theorem M_X5_child (l : Launch) (D : va_G) (cI cJ : ClassId) (mo R G F : Nat → Nat) (hG : OkG 99999 G) (z : Int32) : CE E0 l D vwCl [(cI, .int), (cJ, .long)] yX5_child wsX5_child rmX5_child [.ref (mo 0), .int z] [mH mo R, mR cI (mo 1) G, aI cI (mo 4) 7 F] (S := Unit) (some (.int (childV G z.toInt))) (fun _ => True) (fun _ : Unit => [mH mo R, mR cI (mo 1) (childG G z.toInt), aI cI (mo 4) 7 (childF G F z.toInt)]) 0 0 := by
  refine CE.ofW (cc := cX5_child) (maxL := 2) (ret := (some .int)) (lv := [(0, .ref (mo 0)), (1, .int z)]) (by decide) rfl (Nat.le_of_ble_eq_true rfl) rfl ?_
  intro p e s m args below meth c ls A Q hQ hx hb hml hr hlocks hnm hown hts hK hA hE hW hl
  have hown : s.vm.findClass RX5 = some m.cls := hown
  obtain ⟨hg0, hg8, hg16, hg16b, hg24, hg32, hg40, hg48⟩ := hG.s
  refine lv_iload_n hx hb dX5_child_0 rfl (lv_at hl 1 rfl) ?_
  refine lv_i2l (v := (z).toInt64) hx hb dX5_child_1 rfl ?_
  refine lv_iconst (v := nI 0) hx hb dX5_child_2 (by decide +kernel) ?_
  refine lv_sipush (v := nI 200) hx hb dX5_child_3 (by decide +kernel) ?_
  refine cl_Si (As := [.long ((z).toInt64), .int (nI 0), .int (nI 200)]) (rest := []) ⟨hx, hb, hml, hown, hts⟩ (M_X5_in2 l D cI cJ ((z).toInt64) (nI 0) (nI 200) z.toInt ((0 : Nat) : Int) ((200 : Nat) : Int) ((Int32.toInt_toInt64 _).trans rfl) (nI_toInt (n := 0) (by decide)) (nI_toInt (n := 200) (by decide))) (va_cwS 3 hts gX5_child_X5_in rfl rfl rfl qX5_in ⟨Nat.le_of_ble_eq_true rfl, Nat.le_of_ble_eq_true rfl⟩) E0_good hK hA hW trivial [] (fun _ => [mH mo R, mR cI (mo 1) G, aI cI (mo 4) 7 F]) rfl (fun _ => rfl) (fun _ => rfl) rfl hl.1 rfl (lv_room (Nat.le_of_ble_eq_true rfl)) dX5_child_6 ⟨Nat.zero_le _, Nat.zero_le _⟩ (fun _ H locs _ hW => ?_)
  have hin_ := inZ_or z.toInt ((0 : Nat) : Int) ((200 : Nat) : Int)
  refine nn_zne (tgt := 19) hx hb dX5_child_9 (by decide) (by omega) (fun c9 => ?_) (fun c9 => ?_)
  · refine lv_aload_n hx hb dX5_child_19 rfl (lv_at hl 0 rfl) ?_
    refine sg_get (ci := 4) (C := RX5) (T := TX5) (N := 15) (v := .ref (mo 1)) hx hb hts (fun _ h => List.mem_cons_of_mem _ (List.mem_append_right _ h)) hown hK hW 0 0 rfl rfl rfl 0 (by decide) (hts _ (List.mem_of_getElem? (i := 2) rfl)) rfl dX5_child_20 ?_
    refine lv_bipush (v := nI 6) hx hb dX5_child_23 (by decide +kernel) ?_
    refine sg_ild (v := nI (G 48)) hx hb hK hW 1 0 0 rfl rfl rfl (by decide) (by decide) rfl dX5_child_25 ?_
    refine lv_bipush (v := nI 6) hx hb dX5_child_26 (by decide +kernel) ?_
    refine nn_cne (tgt := 40) hx hb dX5_child_28 (by decide) (by omega) (by decide) (fun c28 => ?_) (fun c28 => ?_)
    · obtain ⟨y, hy, ey⟩ : ∃ y : Nat, z = nI y ∧ z.toInt = (y : Int) := ⟨z.toInt.toNat, nI_ofZ rfl (by omega), by omega⟩
      rw [hy] at hl
      refine lv_aload_n hx hb dX5_child_40 rfl (lv_at hl 0 rfl) ?_
      refine lv_iload_n hx hb dX5_child_41 rfl (lv_at hl 1 rfl) ?_
      refine lv_iconst (v := nI 0) hx hb dX5_child_42 (by decide +kernel) ?_
      refine cl_Vi (As := [.int (nI y), .int (nI 0)]) (rest := []) (C := RX5) ⟨hx, hb, hml, hown, hts⟩ (M_X5_getsOn l D cI cJ mo R G 99999 (by decide) hG y 0 (by omega)) (cwV 2 hts gX5_child_X5_getsOn rfl rfl rfl qX5_getsOn ⟨Nat.le_of_ble_eq_true rfl, Nat.le_of_ble_eq_true rfl⟩) E0_good hK hA hW trivial [true, true] (fun _ => [mH mo R, mR cI (mo 1) (addC G y 0), aI cI (mo 4) 7 F]) rfl (fun _ => rfl) (fun _ => rfl) 0 0 rfl rfl rfl rfl hl.1 rfl (lv_room (Nat.le_of_ble_eq_true rfl)) dX5_child_43 ⟨Nat.zero_le _, Nat.zero_le _⟩ (fun _ H locs _ hW => ?_)
      exact rt_i hQ hx hb hr hlocks hW dX5_child_46 () (by (try simp only [childV, ey, Int.toNat_natCast]); (repeat' split) <;> first | rfl | (exfalso; omega)) trivial (by (try simp only [childG, childF, ey, Int.toNat_natCast]); (repeat' split) <;> first | rfl | (exfalso; omega))
    · refine lv_aload_n hx hb dX5_child_31 rfl (lv_at hl 0 rfl) ?_
      refine lv_ldc (v := -1000000002) hx hb hown (hts _ (List.mem_of_getElem? (i := 3) rfl)) dX5_child_32 ?_
      refine cl_Vi (As := [.int (-1000000002)]) (rest := []) (C := RX5) ⟨hx, hb, hml, hown, hts⟩ (M_X5_finds l D cI cJ mo R F 1 (by decide) (-1000000002) (by decide +kernel)) (cwV 1 hts gX5_child_X5_finds rfl rfl rfl qX5_finds ⟨Nat.le_of_ble_eq_true rfl, Nat.le_of_ble_eq_true rfl⟩) E0_good hK hA hW trivial [true, false, true] (fun _ => [mH mo R, mR cI (mo 1) G, aI cI (mo 4) 7 (up F 1 (F 1 + 1))]) rfl (fun _ => rfl) (fun _ => rfl) 0 0 rfl rfl rfl rfl hl.1 rfl (lv_room (Nat.le_of_ble_eq_true rfl)) dX5_child_34 ⟨Nat.zero_le _, Nat.zero_le _⟩ (fun _ H locs _ hW => ?_)
      refine lv_goto (tgt := 46) hx hb dX5_child_37 (by decide) ?_
      exact rt_i hQ hx hb hr hlocks hW dX5_child_46 () (by (try simp only [childV]); (repeat' split) <;> first | rfl | (exfalso; omega)) trivial (by (try simp only [childG, childF]); (repeat' split) <;> first | rfl | (exfalso; omega))
  · refine lv_aload_n hx hb dX5_child_12 rfl (lv_at hl 0 rfl) ?_
    refine lv_ldc (v := -1000000001) hx hb hown (hts _ (List.mem_of_getElem? (i := 1) rfl)) dX5_child_13 ?_
    refine cl_Vi (As := [.int (-1000000001)]) (rest := []) (C := RX5) ⟨hx, hb, hml, hown, hts⟩ (M_X5_finds l D cI cJ mo R F 0 (by decide) (-1000000001) (by decide +kernel)) (cwV 1 hts gX5_child_X5_finds rfl rfl rfl qX5_finds ⟨Nat.le_of_ble_eq_true rfl, Nat.le_of_ble_eq_true rfl⟩) E0_good hK hA hW trivial [true, false, true] (fun _ => [mH mo R, mR cI (mo 1) G, aI cI (mo 4) 7 (up F 0 (F 0 + 1))]) rfl (fun _ => rfl) (fun _ => rfl) 0 0 rfl rfl rfl rfl hl.1 rfl (lv_room (Nat.le_of_ble_eq_true rfl)) dX5_child_15 ⟨Nat.zero_le _, Nat.zero_le _⟩ (fun _ H locs _ hW => ?_)
    exact rt_i hQ hx hb hr hlocks hW dX5_child_18 () (by (try simp only [childV]); (repeat' split) <;> first | rfl | (exfalso; omega)) trivial (by (try simp only [childG, childF]); (repeat' split) <;> first | rfl | (exfalso; omega))
abbrev rmX5_childOf : Room := { frames := 2, cells := 0, slots := 0, locals := 44 }
set_option maxRecDepth 100000 in
set_option maxHeartbeats 4000000 in
theorem M_X5_childOf (l : Launch) (D : va_G) (cI cJ : ClassId) (mo R G F : Nat → Nat) (hG : OkG 99999 G) (v w : Int32) : CE E0 l D vwCl [(cI, .int), (cJ, .long)] yX5_childOf wsX5_childOf rmX5_childOf [.ref (mo 0), .int v, .int w] [mH mo R, mR cI (mo 1) G, aI cI (mo 4) 7 F] (S := Unit) (some (.int (childOfV G v.toInt w.toInt))) (fun _ => True) (fun _ : Unit => [mH mo R, mR cI (mo 1) (G), aI cI (mo 4) 7 (childOfF G F v.toInt w.toInt)]) 0 0 := by
  refine CE.ofW (cc := cX5_childOf) (maxL := 3) (ret := (some .int)) (lv := [(0, .ref (mo 0)), (1, .int v), (2, .int w)]) (by decide) rfl (Nat.le_of_ble_eq_true rfl) rfl ?_
  intro p e s m args below meth c ls A Q hQ hx hb hml hr hlocks hnm hown hts hK hA hE hW hl
  have hown : s.vm.findClass RX5 = some m.cls := hown
  obtain ⟨hg0, hg8, hg16, hg16b, hg24, hg32, hg40, hg48⟩ := hG.s
  refine lv_aload_n hx hb dX5_childOf_0 rfl (lv_at hl 0 rfl) ?_
  refine lv_iload_n hx hb dX5_childOf_1 rfl (lv_at hl 1 rfl) ?_
  refine cl_Vi (As := [.int v]) (rest := []) (C := RX5) ⟨hx, hb, hml, hown, hts⟩ (M_X5_isChild l D cI cJ mo R G 99999 (by decide) hG v) (cwV 1 hts gX5_childOf_X5_isChild rfl rfl rfl qX5_isChild ⟨Nat.le_of_ble_eq_true rfl, Nat.le_of_ble_eq_true rfl⟩) E0_good hK hA hW trivial [true, true] (fun _ => [mH mo R, mR cI (mo 1) G, aI cI (mo 4) 7 F]) rfl (fun _ => rfl) (fun _ => rfl) 0 0 rfl rfl rfl rfl hl.1 rfl (lv_room (Nat.le_of_ble_eq_true rfl)) dX5_childOf_2 ⟨Nat.zero_le _, Nat.zero_le _⟩ (fun _ H locs _ hW => ?_)
  have him_ := inN_or v (G 48)
  refine nn_zeq (tgt := 27) hx hb dX5_childOf_5 (by decide) (by omega) (fun c5 => ?_) (fun c5 => ?_)
  · refine lv_aload_n hx hb dX5_childOf_27 rfl (lv_at hl 0 rfl) ?_
    refine lv_ldc (v := -1000000001) hx hb hown (hts _ (List.mem_of_getElem? (i := 1) rfl)) dX5_childOf_28 ?_
    refine cl_Vi (As := [.int (-1000000001)]) (rest := []) (C := RX5) ⟨hx, hb, hml, hown, hts⟩ (M_X5_finds l D cI cJ mo R F 0 (by decide) (-1000000001) (by decide +kernel)) (cwV 1 hts gX5_childOf_X5_finds rfl rfl rfl qX5_finds ⟨Nat.le_of_ble_eq_true rfl, Nat.le_of_ble_eq_true rfl⟩) E0_good hK hA hW trivial [true, false, true] (fun _ => [mH mo R, mR cI (mo 1) G, aI cI (mo 4) 7 (up F 0 (F 0 + 1))]) rfl (fun _ => rfl) (fun _ => rfl) 0 0 rfl rfl rfl rfl hl.1 rfl (lv_room (Nat.le_of_ble_eq_true rfl)) dX5_childOf_30 ⟨Nat.zero_le _, Nat.zero_le _⟩ (fun _ H locs _ hW => ?_)
    exact rt_i hQ hx hb hr hlocks hW dX5_childOf_33 () (by (try simp only [childOfV]); (repeat' split) <;> first | rfl | (exfalso; omega)) trivial (by (try simp only [childOfF]); (repeat' split) <;> first | rfl | (exfalso; omega))
  · refine lv_iload_n hx hb dX5_childOf_8 rfl (lv_at hl 2 rfl) ?_
    refine lv_i2l (v := (w).toInt64) hx hb dX5_childOf_9 rfl ?_
    refine lv_iconst (v := nI 0) hx hb dX5_childOf_10 (by decide +kernel) ?_
    refine lv_iconst (v := nI 2) hx hb dX5_childOf_11 (by decide +kernel) ?_
    refine cl_Si (As := [.long ((w).toInt64), .int (nI 0), .int (nI 2)]) (rest := []) ⟨hx, hb, hml, hown, hts⟩ (M_X5_in2 l D cI cJ ((w).toInt64) (nI 0) (nI 2) w.toInt ((0 : Nat) : Int) ((2 : Nat) : Int) ((Int32.toInt_toInt64 _).trans rfl) (nI_toInt (n := 0) (by decide)) (nI_toInt (n := 2) (by decide))) (va_cwS 3 hts gX5_childOf_X5_in rfl rfl rfl qX5_in ⟨Nat.le_of_ble_eq_true rfl, Nat.le_of_ble_eq_true rfl⟩) E0_good hK hA hW trivial [] (fun _ => [mH mo R, mR cI (mo 1) G, aI cI (mo 4) 7 F]) rfl (fun _ => rfl) (fun _ => rfl) rfl hl.1 rfl (lv_room (Nat.le_of_ble_eq_true rfl)) dX5_childOf_12 ⟨Nat.zero_le _, Nat.zero_le _⟩ (fun _ H locs _ hW => ?_)
    have hin_ := inZ_or w.toInt ((0 : Nat) : Int) ((2 : Nat) : Int)
    refine nn_zeq (tgt := 27) hx hb dX5_childOf_15 (by decide) (by omega) (fun c15 => ?_) (fun c15 => ?_)
    · refine lv_aload_n hx hb dX5_childOf_27 rfl (lv_at hl 0 rfl) ?_
      refine lv_ldc (v := -1000000001) hx hb hown (hts _ (List.mem_of_getElem? (i := 1) rfl)) dX5_childOf_28 ?_
      refine cl_Vi (As := [.int (-1000000001)]) (rest := []) (C := RX5) ⟨hx, hb, hml, hown, hts⟩ (M_X5_finds l D cI cJ mo R F 0 (by decide) (-1000000001) (by decide +kernel)) (cwV 1 hts gX5_childOf_X5_finds rfl rfl rfl qX5_finds ⟨Nat.le_of_ble_eq_true rfl, Nat.le_of_ble_eq_true rfl⟩) E0_good hK hA hW trivial [true, false, true] (fun _ => [mH mo R, mR cI (mo 1) G, aI cI (mo 4) 7 (up F 0 (F 0 + 1))]) rfl (fun _ => rfl) (fun _ => rfl) 0 0 rfl rfl rfl rfl hl.1 rfl (lv_room (Nat.le_of_ble_eq_true rfl)) dX5_childOf_30 ⟨Nat.zero_le _, Nat.zero_le _⟩ (fun _ H locs _ hW => ?_)
      exact rt_i hQ hx hb hr hlocks hW dX5_childOf_33 () (by (try simp only [childOfV]); (repeat' split) <;> first | rfl | (exfalso; omega)) trivial (by (try simp only [childOfF]); (repeat' split) <;> first | rfl | (exfalso; omega))
    · obtain ⟨j, hj, ej⟩ : ∃ j : Nat, v = nI j ∧ v.toInt = (j : Int) := ⟨v.toInt.toNat, nI_ofZ rfl (by omega), by omega⟩
      rw [hj] at hl
      rcases (show w.toInt = 0 ∨ w.toInt = 1 ∨ w.toInt = 2 by omega) with cq | cq | cq
      · have hlit2 : w = nI 0 := zz_eq.mpr ((show w.toInt = 0 by omega).trans (by decide +kernel))
        rw [hlit2] at hl
        refine lv_aload_n hx hb dX5_childOf_18 rfl (lv_at hl 0 rfl) ?_
        refine lv_iload_n hx hb dX5_childOf_19 rfl (lv_at hl 1 rfl) ?_
        refine lv_iload_n hx hb dX5_childOf_20 rfl (lv_at hl 2 rfl) ?_
        refine cl_Vi (As := [.int (nI j), .int (nI 0)]) (rest := []) (C := RX5) ⟨hx, hb, hml, hown, hts⟩ (M_X5_about l D cI cJ mo R G j 0 5 (by omega) (by decide) rfl) (cwV 2 hts gX5_childOf_X5_about rfl rfl rfl qX5_about ⟨Nat.le_of_ble_eq_true rfl, Nat.le_of_ble_eq_true rfl⟩) E0_good hK hA hW trivial [true, true] (fun _ => [mH mo R, mR cI (mo 1) G, aI cI (mo 4) 7 F]) rfl (fun _ => rfl) (fun _ => rfl) 0 0 rfl rfl rfl rfl hl.1 rfl (lv_room (Nat.le_of_ble_eq_true rfl)) dX5_childOf_21 ⟨Nat.zero_le _, Nat.zero_le _⟩ (fun _ H locs _ hW => ?_)
        refine lv_goto (tgt := 33) hx hb dX5_childOf_24 (by decide) ?_
        exact rt_i hQ hx hb hr hlocks hW dX5_childOf_33 () (by (try simp only [childOfV, ej, Int.toNat_natCast]); (repeat' split) <;> first | rfl | (exfalso; omega)) trivial (by (try simp only [childOfF, ej, Int.toNat_natCast]); (repeat' split) <;> first | rfl | (exfalso; omega))
      · have hlit2 : w = nI 1 := zz_eq.mpr ((show w.toInt = 1 by omega).trans (by decide +kernel))
        rw [hlit2] at hl
        refine lv_aload_n hx hb dX5_childOf_18 rfl (lv_at hl 0 rfl) ?_
        refine lv_iload_n hx hb dX5_childOf_19 rfl (lv_at hl 1 rfl) ?_
        refine lv_iload_n hx hb dX5_childOf_20 rfl (lv_at hl 2 rfl) ?_
        refine cl_Vi (As := [.int (nI j), .int (nI 1)]) (rest := []) (C := RX5) ⟨hx, hb, hml, hown, hts⟩ (M_X5_about l D cI cJ mo R G j 1 6 (by omega) (by decide) rfl) (cwV 2 hts gX5_childOf_X5_about rfl rfl rfl qX5_about ⟨Nat.le_of_ble_eq_true rfl, Nat.le_of_ble_eq_true rfl⟩) E0_good hK hA hW trivial [true, true] (fun _ => [mH mo R, mR cI (mo 1) G, aI cI (mo 4) 7 F]) rfl (fun _ => rfl) (fun _ => rfl) 0 0 rfl rfl rfl rfl hl.1 rfl (lv_room (Nat.le_of_ble_eq_true rfl)) dX5_childOf_21 ⟨Nat.zero_le _, Nat.zero_le _⟩ (fun _ H locs _ hW => ?_)
        refine lv_goto (tgt := 33) hx hb dX5_childOf_24 (by decide) ?_
        exact rt_i hQ hx hb hr hlocks hW dX5_childOf_33 () (by (try simp only [childOfV, ej, Int.toNat_natCast]); (repeat' split) <;> first | rfl | (exfalso; omega)) trivial (by (try simp only [childOfF, ej, Int.toNat_natCast]); (repeat' split) <;> first | rfl | (exfalso; omega))
      · have hlit2 : w = nI 2 := zz_eq.mpr ((show w.toInt = 2 by omega).trans (by decide +kernel))
        rw [hlit2] at hl
        refine lv_aload_n hx hb dX5_childOf_18 rfl (lv_at hl 0 rfl) ?_
        refine lv_iload_n hx hb dX5_childOf_19 rfl (lv_at hl 1 rfl) ?_
        refine lv_iload_n hx hb dX5_childOf_20 rfl (lv_at hl 2 rfl) ?_
        refine cl_Vi (As := [.int (nI j), .int (nI 2)]) (rest := []) (C := RX5) ⟨hx, hb, hml, hown, hts⟩ (M_X5_about l D cI cJ mo R G j 2 7 (by omega) (by decide) rfl) (cwV 2 hts gX5_childOf_X5_about rfl rfl rfl qX5_about ⟨Nat.le_of_ble_eq_true rfl, Nat.le_of_ble_eq_true rfl⟩) E0_good hK hA hW trivial [true, true] (fun _ => [mH mo R, mR cI (mo 1) G, aI cI (mo 4) 7 F]) rfl (fun _ => rfl) (fun _ => rfl) 0 0 rfl rfl rfl rfl hl.1 rfl (lv_room (Nat.le_of_ble_eq_true rfl)) dX5_childOf_21 ⟨Nat.zero_le _, Nat.zero_le _⟩ (fun _ H locs _ hW => ?_)
        refine lv_goto (tgt := 33) hx hb dX5_childOf_24 (by decide) ?_
        exact rt_i hQ hx hb hr hlocks hW dX5_childOf_33 () (by (try simp only [childOfV, ej, Int.toNat_natCast]); (repeat' split) <;> first | rfl | (exfalso; omega)) trivial (by (try simp only [childOfF, ej, Int.toNat_natCast]); (repeat' split) <;> first | rfl | (exfalso; omega))
abbrev rmX5_grip : Room := { frames := 2, cells := 0, slots := 0, locals := 44 }
set_option maxRecDepth 100000 in
set_option maxHeartbeats 4000000 in
theorem M_X5_grip (l : Launch) (D : va_G) (cI cJ : ClassId) (mo R G F : Nat → Nat) (hG : OkG 99999 G) (v z : Int32) : CE E0 l D vwCl [(cI, .int), (cJ, .long)] yX5_grip wsX5_grip rmX5_grip [.ref (mo 0), .int v, .int z] [mH mo R, mR cI (mo 1) G, aI cI (mo 4) 7 F] (S := Unit) (some (.int (gripV G v.toInt z.toInt))) (fun _ => True) (fun _ : Unit => [mH mo R, mR cI (mo 1) (gripG G v.toInt z.toInt), aI cI (mo 4) 7 (gripF G F v.toInt z.toInt)]) 0 0 := by
  refine CE.ofW (cc := cX5_grip) (maxL := 3) (ret := (some .int)) (lv := [(0, .ref (mo 0)), (1, .int v), (2, .int z)]) (by decide) rfl (Nat.le_of_ble_eq_true rfl) rfl ?_
  intro p e s m args below meth c ls A Q hQ hx hb hml hr hlocks hnm hown hts hK hA hE hW hl
  have hown : s.vm.findClass RX5 = some m.cls := hown
  obtain ⟨hg0, hg8, hg16, hg16b, hg24, hg32, hg40, hg48⟩ := hG.s
  refine lv_aload_n hx hb dX5_grip_0 rfl (lv_at hl 0 rfl) ?_
  refine lv_iload_n hx hb dX5_grip_1 rfl (lv_at hl 1 rfl) ?_
  refine cl_Vi (As := [.int v]) (rest := []) (C := RX5) ⟨hx, hb, hml, hown, hts⟩ (M_X5_isChild l D cI cJ mo R G 99999 (by decide) hG v) (cwV 1 hts gX5_grip_X5_isChild rfl rfl rfl qX5_isChild ⟨Nat.le_of_ble_eq_true rfl, Nat.le_of_ble_eq_true rfl⟩) E0_good hK hA hW trivial [true, true] (fun _ => [mH mo R, mR cI (mo 1) G, aI cI (mo 4) 7 F]) rfl (fun _ => rfl) (fun _ => rfl) 0 0 rfl rfl rfl rfl hl.1 rfl (lv_room (Nat.le_of_ble_eq_true rfl)) dX5_grip_2 ⟨Nat.zero_le _, Nat.zero_le _⟩ (fun _ H locs _ hW => ?_)
  have him_ := inN_or v (G 48)
  refine nn_zeq (tgt := 34) hx hb dX5_grip_5 (by decide) (by omega) (fun c5 => ?_) (fun c5 => ?_)
  · refine lv_aload_n hx hb dX5_grip_34 rfl (lv_at hl 0 rfl) ?_
    refine lv_ldc (v := -1000000001) hx hb hown (hts _ (List.mem_of_getElem? (i := 1) rfl)) dX5_grip_35 ?_
    refine cl_Vi (As := [.int (-1000000001)]) (rest := []) (C := RX5) ⟨hx, hb, hml, hown, hts⟩ (M_X5_finds l D cI cJ mo R F 0 (by decide) (-1000000001) (by decide +kernel)) (cwV 1 hts gX5_grip_X5_finds rfl rfl rfl qX5_finds ⟨Nat.le_of_ble_eq_true rfl, Nat.le_of_ble_eq_true rfl⟩) E0_good hK hA hW trivial [true, false, true] (fun _ => [mH mo R, mR cI (mo 1) G, aI cI (mo 4) 7 (up F 0 (F 0 + 1))]) rfl (fun _ => rfl) (fun _ => rfl) 0 0 rfl rfl rfl rfl hl.1 rfl (lv_room (Nat.le_of_ble_eq_true rfl)) dX5_grip_37 ⟨Nat.zero_le _, Nat.zero_le _⟩ (fun _ H locs _ hW => ?_)
    exact rt_i hQ hx hb hr hlocks hW dX5_grip_40 () (by (try simp only [gripV]); (repeat' split) <;> first | rfl | (exfalso; omega)) trivial (by (try simp only [gripG, gripF]); (repeat' split) <;> first | rfl | (exfalso; omega))
  · refine lv_iload_n hx hb dX5_grip_8 rfl (lv_at hl 2 rfl) ?_
    refine lv_i2l (v := (z).toInt64) hx hb dX5_grip_9 rfl ?_
    refine lv_iconst (v := nI 0) hx hb dX5_grip_10 (by decide +kernel) ?_
    refine lv_sipush (v := nI 200) hx hb dX5_grip_11 (by decide +kernel) ?_
    refine cl_Si (As := [.long ((z).toInt64), .int (nI 0), .int (nI 200)]) (rest := []) ⟨hx, hb, hml, hown, hts⟩ (M_X5_in2 l D cI cJ ((z).toInt64) (nI 0) (nI 200) z.toInt ((0 : Nat) : Int) ((200 : Nat) : Int) ((Int32.toInt_toInt64 _).trans rfl) (nI_toInt (n := 0) (by decide)) (nI_toInt (n := 200) (by decide))) (va_cwS 3 hts gX5_grip_X5_in rfl rfl rfl qX5_in ⟨Nat.le_of_ble_eq_true rfl, Nat.le_of_ble_eq_true rfl⟩) E0_good hK hA hW trivial [] (fun _ => [mH mo R, mR cI (mo 1) G, aI cI (mo 4) 7 F]) rfl (fun _ => rfl) (fun _ => rfl) rfl hl.1 rfl (lv_room (Nat.le_of_ble_eq_true rfl)) dX5_grip_14 ⟨Nat.zero_le _, Nat.zero_le _⟩ (fun _ H locs _ hW => ?_)
    have hin_ := inZ_or z.toInt ((0 : Nat) : Int) ((200 : Nat) : Int)
    refine nn_zeq (tgt := 34) hx hb dX5_grip_17 (by decide) (by omega) (fun c17 => ?_) (fun c17 => ?_)
    · refine lv_aload_n hx hb dX5_grip_34 rfl (lv_at hl 0 rfl) ?_
      refine lv_ldc (v := -1000000001) hx hb hown (hts _ (List.mem_of_getElem? (i := 1) rfl)) dX5_grip_35 ?_
      refine cl_Vi (As := [.int (-1000000001)]) (rest := []) (C := RX5) ⟨hx, hb, hml, hown, hts⟩ (M_X5_finds l D cI cJ mo R F 0 (by decide) (-1000000001) (by decide +kernel)) (cwV 1 hts gX5_grip_X5_finds rfl rfl rfl qX5_finds ⟨Nat.le_of_ble_eq_true rfl, Nat.le_of_ble_eq_true rfl⟩) E0_good hK hA hW trivial [true, false, true] (fun _ => [mH mo R, mR cI (mo 1) G, aI cI (mo 4) 7 (up F 0 (F 0 + 1))]) rfl (fun _ => rfl) (fun _ => rfl) 0 0 rfl rfl rfl rfl hl.1 rfl (lv_room (Nat.le_of_ble_eq_true rfl)) dX5_grip_37 ⟨Nat.zero_le _, Nat.zero_le _⟩ (fun _ H locs _ hW => ?_)
      exact rt_i hQ hx hb hr hlocks hW dX5_grip_40 () (by (try simp only [gripV]); (repeat' split) <;> first | rfl | (exfalso; omega)) trivial (by (try simp only [gripG, gripF]); (repeat' split) <;> first | rfl | (exfalso; omega))
    · obtain ⟨j, hj, ej⟩ : ∃ j : Nat, v = nI j ∧ v.toInt = (j : Int) := ⟨v.toInt.toNat, nI_ofZ rfl (by omega), by omega⟩
      rw [hj] at hl
      obtain ⟨y, hy, ey⟩ : ∃ y : Nat, z = nI y ∧ z.toInt = (y : Int) := ⟨z.toInt.toNat, nI_ofZ rfl (by omega), by omega⟩
      rw [hy] at hl
      refine lv_aload_n hx hb dX5_grip_20 rfl (lv_at hl 0 rfl) ?_
      refine lv_bipush (v := nI 39) hx hb dX5_grip_21 (by decide +kernel) ?_
      refine lv_iconst (v := nI 3) hx hb dX5_grip_23 (by decide +kernel) ?_
      refine lv_iload_n hx hb dX5_grip_24 rfl (lv_at hl 1 rfl) ?_
      refine nn_mul hx hb dX5_grip_25 ?_
      refine nn_add hx hb dX5_grip_26 ?_
      refine lv_iload_n hx hb dX5_grip_27 rfl (lv_at hl 2 rfl) ?_
      refine cl_Vi (As := [.int (nI (39 + (3 * j))), .int (nI y)]) (rest := []) (C := RX5) ⟨hx, hb, hml, hown, hts⟩ (M_X5_becomes l D cI cJ mo R G (39 + (3 * j)) (8 * j + 5) y (by omega) (mk_c (w := 0) (by decide))) (cwV 2 hts gX5_grip_X5_becomes rfl rfl rfl qX5_becomes ⟨Nat.le_of_ble_eq_true rfl, Nat.le_of_ble_eq_true rfl⟩) E0_good hK hA hW trivial [true, true] (fun _ => [mH mo R, mR cI (mo 1) (up G (8 * j + 5) y), aI cI (mo 4) 7 F]) rfl (fun _ => rfl) (fun _ => rfl) 0 0 rfl rfl rfl rfl hl.1 rfl (lv_room (Nat.le_of_ble_eq_true rfl)) dX5_grip_28 ⟨Nat.zero_le _, Nat.zero_le _⟩ (fun _ H locs _ hW => ?_)
      refine lv_goto (tgt := 40) hx hb dX5_grip_31 (by decide) ?_
      exact rt_i hQ hx hb hr hlocks hW dX5_grip_40 () (by (try simp only [gripV, ej, ey, Int.toNat_natCast]); (repeat' split) <;> first | rfl | (exfalso; omega)) trivial (by (try simp only [gripG, gripF, ej, ey, Int.toNat_natCast]); (repeat' split) <;> first | rfl | (exfalso; omega))
abbrev rmX5_ride : Room := { frames := 2, cells := 0, slots := 0, locals := 44 }
set_option maxRecDepth 100000 in
set_option maxHeartbeats 4000000 in
theorem M_X5_ride (l : Launch) (D : va_G) (cI cJ : ClassId) (mo R G F : Nat → Nat) (hG : OkG 99999 G) (v z : Int32) : CE E0 l D vwCl [(cI, .int), (cJ, .long)] yX5_ride wsX5_ride rmX5_ride [.ref (mo 0), .int v, .int z] [mH mo R, mR cI (mo 1) G, aI cI (mo 4) 7 F] (S := Unit) (some (.int (rideV G v.toInt z.toInt))) (fun _ => True) (fun _ : Unit => [mH mo R, mR cI (mo 1) (rideG G v.toInt z.toInt), aI cI (mo 4) 7 (rideF G F v.toInt z.toInt)]) 0 0 := by
  refine CE.ofW (cc := cX5_ride) (maxL := 3) (ret := (some .int)) (lv := [(0, .ref (mo 0)), (1, .int v), (2, .int z)]) (by decide) rfl (Nat.le_of_ble_eq_true rfl) rfl ?_
  intro p e s m args below meth c ls A Q hQ hx hb hml hr hlocks hnm hown hts hK hA hE hW hl
  have hown : s.vm.findClass RX5 = some m.cls := hown
  obtain ⟨hg0, hg8, hg16, hg16b, hg24, hg32, hg40, hg48⟩ := hG.s
  refine lv_aload_n hx hb dX5_ride_0 rfl (lv_at hl 0 rfl) ?_
  refine lv_iload_n hx hb dX5_ride_1 rfl (lv_at hl 1 rfl) ?_
  refine cl_Vi (As := [.int v]) (rest := []) (C := RX5) ⟨hx, hb, hml, hown, hts⟩ (M_X5_isChild l D cI cJ mo R G 99999 (by decide) hG v) (cwV 1 hts gX5_ride_X5_isChild rfl rfl rfl qX5_isChild ⟨Nat.le_of_ble_eq_true rfl, Nat.le_of_ble_eq_true rfl⟩) E0_good hK hA hW trivial [true, true] (fun _ => [mH mo R, mR cI (mo 1) G, aI cI (mo 4) 7 F]) rfl (fun _ => rfl) (fun _ => rfl) 0 0 rfl rfl rfl rfl hl.1 rfl (lv_room (Nat.le_of_ble_eq_true rfl)) dX5_ride_2 ⟨Nat.zero_le _, Nat.zero_le _⟩ (fun _ H locs _ hW => ?_)
  have him_ := inN_or v (G 48)
  refine nn_zeq (tgt := 18) hx hb dX5_ride_5 (by decide) (by omega) (fun c5 => ?_) (fun c5 => ?_)
  · refine lv_aload_n hx hb dX5_ride_18 rfl (lv_at hl 0 rfl) ?_
    refine lv_ldc (v := -1000000001) hx hb hown (hts _ (List.mem_of_getElem? (i := 1) rfl)) dX5_ride_19 ?_
    refine cl_Vi (As := [.int (-1000000001)]) (rest := []) (C := RX5) ⟨hx, hb, hml, hown, hts⟩ (M_X5_finds l D cI cJ mo R F 0 (by decide) (-1000000001) (by decide +kernel)) (cwV 1 hts gX5_ride_X5_finds rfl rfl rfl qX5_finds ⟨Nat.le_of_ble_eq_true rfl, Nat.le_of_ble_eq_true rfl⟩) E0_good hK hA hW trivial [true, false, true] (fun _ => [mH mo R, mR cI (mo 1) G, aI cI (mo 4) 7 (up F 0 (F 0 + 1))]) rfl (fun _ => rfl) (fun _ => rfl) 0 0 rfl rfl rfl rfl hl.1 rfl (lv_room (Nat.le_of_ble_eq_true rfl)) dX5_ride_21 ⟨Nat.zero_le _, Nat.zero_le _⟩ (fun _ H locs _ hW => ?_)
    exact rt_i hQ hx hb hr hlocks hW dX5_ride_24 () (by (try simp only [rideV]); (repeat' split) <;> first | rfl | (exfalso; omega)) trivial (by (try simp only [rideG, rideF]); (repeat' split) <;> first | rfl | (exfalso; omega))
  · refine lv_iload_n hx hb dX5_ride_8 rfl (lv_at hl 2 rfl) ?_
    refine lv_i2l (v := (z).toInt64) hx hb dX5_ride_9 rfl ?_
    refine lv_iconst (v := nI 0) hx hb dX5_ride_10 (by decide +kernel) ?_
    refine lv_iconst (v := nI 1) hx hb dX5_ride_11 (by decide +kernel) ?_
    refine cl_Si (As := [.long ((z).toInt64), .int (nI 0), .int (nI 1)]) (rest := []) ⟨hx, hb, hml, hown, hts⟩ (M_X5_in2 l D cI cJ ((z).toInt64) (nI 0) (nI 1) z.toInt ((0 : Nat) : Int) ((1 : Nat) : Int) ((Int32.toInt_toInt64 _).trans rfl) (nI_toInt (n := 0) (by decide)) (nI_toInt (n := 1) (by decide))) (va_cwS 3 hts gX5_ride_X5_in rfl rfl rfl qX5_in ⟨Nat.le_of_ble_eq_true rfl, Nat.le_of_ble_eq_true rfl⟩) E0_good hK hA hW trivial [] (fun _ => [mH mo R, mR cI (mo 1) G, aI cI (mo 4) 7 F]) rfl (fun _ => rfl) (fun _ => rfl) rfl hl.1 rfl (lv_room (Nat.le_of_ble_eq_true rfl)) dX5_ride_12 ⟨Nat.zero_le _, Nat.zero_le _⟩ (fun _ H locs _ hW => ?_)
    have hin_ := inZ_or z.toInt ((0 : Nat) : Int) ((1 : Nat) : Int)
    refine nn_zne (tgt := 25) hx hb dX5_ride_15 (by decide) (by omega) (fun c15 => ?_) (fun c15 => ?_)
    · obtain ⟨j, hj, ej⟩ : ∃ j : Nat, v = nI j ∧ v.toInt = (j : Int) := ⟨v.toInt.toNat, nI_ofZ rfl (by omega), by omega⟩
      rw [hj] at hl
      obtain ⟨y, hy, ey⟩ : ∃ y : Nat, z = nI y ∧ z.toInt = (y : Int) := ⟨z.toInt.toNat, nI_ofZ rfl (by omega), by omega⟩
      rw [hy] at hl
      refine lv_aload_n hx hb dX5_ride_25 rfl (lv_at hl 0 rfl) ?_
      refine lv_iload_n hx hb dX5_ride_26 rfl (lv_at hl 1 rfl) ?_
      refine lv_iconst (v := nI 1) hx hb dX5_ride_27 (by decide +kernel) ?_
      refine lv_iload_n hx hb dX5_ride_28 rfl (lv_at hl 2 rfl) ?_
      refine cl_Vv (As := [.int (nI j), .int (nI 1), .int (nI y)]) (rest := []) (C := RX5) ⟨hx, hb, hml, hown, hts⟩ (M_X5_lets l D cI cJ mo R G j 1 6 y (by omega) (by decide) rfl) (cwV 3 hts gX5_ride_X5_lets rfl rfl rfl qX5_lets ⟨Nat.le_of_ble_eq_true rfl, Nat.le_of_ble_eq_true rfl⟩) E0_good hK hA hW trivial [true, true] (fun _ => [mH mo R, mR cI (mo 1) (up G (8 * j + 6) y), aI cI (mo 4) 7 F]) rfl (fun _ => rfl) (fun _ => rfl) 0 0 rfl rfl rfl rfl hl.1 rfl (lv_room (Nat.le_of_ble_eq_true rfl)) dX5_ride_29 ⟨Nat.zero_le _, Nat.zero_le _⟩ (fun _ H locs _ hW => ?_)
      refine lv_aload_n hx hb dX5_ride_32 rfl (lv_at hl 0 rfl) ?_
      refine cl_Vi (As := []) (rest := []) (C := RX5) ⟨hx, hb, hml, hown, hts⟩ (M_X5_riders l D cI cJ mo R (up G (8 * j + 6) y) 99999 (by decide) (hG.r6 (a := j) (v := y) (by omega)) ) (cwV 0 hts gX5_ride_X5_riders rfl rfl rfl qX5_riders ⟨Nat.le_of_ble_eq_true rfl, Nat.le_of_ble_eq_true rfl⟩) E0_good hK hA hW trivial [true, true] (fun _ => [mH mo R, mR cI (mo 1) (up G (8 * j + 6) y), aI cI (mo 4) 7 F]) rfl (fun _ => rfl) (fun _ => rfl) 0 0 rfl rfl rfl rfl hl.1 rfl (lv_room (Nat.le_of_ble_eq_true rfl)) dX5_ride_33 ⟨Nat.zero_le _, Nat.zero_le _⟩ (fun _ H locs _ hW => ?_)
      have hrs_ := onS_lt ((hG.r6 (a := j) (v := y) (by omega)))
      refine cl_Si (As := [.int (nI (onS (up G (8 * j + 6) y)))]) (rest := []) ⟨hx, hb, hml, hown, hts⟩ (M_X5_bits l D cI cJ (onS (up G (8 * j + 6) y)) (by omega)) (va_cwS 1 hts gX5_ride_X5_bits rfl rfl rfl qX5_bits ⟨Nat.le_of_ble_eq_true rfl, Nat.le_of_ble_eq_true rfl⟩) E0_good hK hA hW trivial [] (fun _ => [mH mo R, mR cI (mo 1) (up G (8 * j + 6) y), aI cI (mo 4) 7 F]) rfl (fun _ => rfl) (fun _ => rfl) rfl hl.1 rfl (lv_room (Nat.le_of_ble_eq_true rfl)) dX5_ride_36 ⟨Nat.zero_le _, Nat.zero_le _⟩ (fun _ H locs _ hW => ?_)
      exact rt_i hQ hx hb hr hlocks hW dX5_ride_39 () (by (try simp only [rideV, ej, ey, Int.toNat_natCast]); rw [bits_on (hG.r6 (a := j) (v := y) (by omega))]; (repeat' split) <;> first | rfl | (exfalso; omega)) trivial (by (try simp only [rideG, rideF, ej, ey, Int.toNat_natCast]); (repeat' split) <;> first | rfl | (exfalso; omega))
    · refine lv_aload_n hx hb dX5_ride_18 rfl (lv_at hl 0 rfl) ?_
      refine lv_ldc (v := -1000000001) hx hb hown (hts _ (List.mem_of_getElem? (i := 1) rfl)) dX5_ride_19 ?_
      refine cl_Vi (As := [.int (-1000000001)]) (rest := []) (C := RX5) ⟨hx, hb, hml, hown, hts⟩ (M_X5_finds l D cI cJ mo R F 0 (by decide) (-1000000001) (by decide +kernel)) (cwV 1 hts gX5_ride_X5_finds rfl rfl rfl qX5_finds ⟨Nat.le_of_ble_eq_true rfl, Nat.le_of_ble_eq_true rfl⟩) E0_good hK hA hW trivial [true, false, true] (fun _ => [mH mo R, mR cI (mo 1) G, aI cI (mo 4) 7 (up F 0 (F 0 + 1))]) rfl (fun _ => rfl) (fun _ => rfl) 0 0 rfl rfl rfl rfl hl.1 rfl (lv_room (Nat.le_of_ble_eq_true rfl)) dX5_ride_21 ⟨Nat.zero_le _, Nat.zero_le _⟩ (fun _ H locs _ hW => ?_)
      exact rt_i hQ hx hb hr hlocks hW dX5_ride_24 () (by (try simp only [rideV]); (repeat' split) <;> first | rfl | (exfalso; omega)) trivial (by (try simp only [rideG, rideF]); (repeat' split) <;> first | rfl | (exfalso; omega))
abbrev rmX5_minutes : Room := { frames := 7, cells := 0, slots := 0, locals := 159 }
set_option maxRecDepth 100000 in
set_option maxHeartbeats 4000000 in
theorem M_X5_minutes (l : Launch) (D : va_G) (cI cJ : ClassId) (mo R G F : Nat → Nat) (hG : OkG 99999 G) (z : Int32) : CE E0 l D vwCl [(cI, .int), (cJ, .long)] yX5_minutes wsX5_minutes rmX5_minutes [.ref (mo 0), .int z] [mH mo R, mR cI (mo 1) G, aI cI (mo 4) 7 F] (S := Unit) (some (.int (minutesV G z.toInt))) (fun _ => True) (fun _ : Unit => [mH mo R, mR cI (mo 1) (minutesG G z.toInt), aI cI (mo 4) 7 (minutesF G F z.toInt)]) 0 0 := by
  refine CE.ofW (cc := cX5_minutes) (maxL := 2) (ret := (some .int)) (lv := [(0, .ref (mo 0)), (1, .int z)]) (by decide) rfl (Nat.le_of_ble_eq_true rfl) rfl ?_
  intro p e s m args below meth c ls A Q hQ hx hb hml hr hlocks hnm hown hts hK hA hE hW hl
  have hown : s.vm.findClass RX5 = some m.cls := hown
  obtain ⟨hg0, hg8, hg16, hg16b, hg24, hg32, hg40, hg48⟩ := hG.s
  refine lv_iload_n hx hb dX5_minutes_0 rfl (lv_at hl 1 rfl) ?_
  refine lv_i2l (v := (z).toInt64) hx hb dX5_minutes_1 rfl ?_
  refine lv_iconst (v := nI 1) hx hb dX5_minutes_2 (by decide +kernel) ?_
  refine lv_bipush (v := nI 100) hx hb dX5_minutes_3 (by decide +kernel) ?_
  refine cl_Si (As := [.long ((z).toInt64), .int (nI 1), .int (nI 100)]) (rest := []) ⟨hx, hb, hml, hown, hts⟩ (M_X5_in2 l D cI cJ ((z).toInt64) (nI 1) (nI 100) z.toInt ((1 : Nat) : Int) ((100 : Nat) : Int) ((Int32.toInt_toInt64 _).trans rfl) (nI_toInt (n := 1) (by decide)) (nI_toInt (n := 100) (by decide))) (va_cwS 3 hts gX5_minutes_X5_in rfl rfl rfl qX5_in ⟨Nat.le_of_ble_eq_true rfl, Nat.le_of_ble_eq_true rfl⟩) E0_good hK hA hW trivial [] (fun _ => [mH mo R, mR cI (mo 1) G, aI cI (mo 4) 7 F]) rfl (fun _ => rfl) (fun _ => rfl) rfl hl.1 rfl (lv_room (Nat.le_of_ble_eq_true rfl)) dX5_minutes_5 ⟨Nat.zero_le _, Nat.zero_le _⟩ (fun _ H locs _ hW => ?_)
  have hin_ := inZ_or z.toInt ((1 : Nat) : Int) ((100 : Nat) : Int)
  refine nn_zne (tgt := 18) hx hb dX5_minutes_8 (by decide) (by omega) (fun c8 => ?_) (fun c8 => ?_)
  · obtain ⟨y, hy, ey⟩ : ∃ y : Nat, z = nI y ∧ z.toInt = (y : Int) := ⟨z.toInt.toNat, nI_ofZ rfl (by omega), by omega⟩
    rw [hy] at hl
    refine lv_aload_n hx hb dX5_minutes_18 rfl (lv_at hl 0 rfl) ?_
    refine sg_get (ci := 4) (C := RX5) (T := TX5) (N := 15) (v := .ref (mo 1)) hx hb hts (fun _ h => List.mem_cons_of_mem _ (List.mem_append_right _ h)) hown hK hW 0 0 rfl rfl rfl 0 (by decide) (hts _ (List.mem_of_getElem? (i := 2) rfl)) rfl dX5_minutes_19 ?_
    refine lv_iconst (v := nI 0) hx hb dX5_minutes_22 (by decide +kernel) ?_
    refine sg_ild (v := nI (G 0)) hx hb hK hW 1 0 0 rfl rfl rfl (by decide) (by decide) rfl dX5_minutes_23 ?_
    refine lv_iload_n hx hb dX5_minutes_24 rfl (lv_at hl 1 rfl) ?_
    refine nn_add hx hb dX5_minutes_25 ?_
    refine lv_ldc (v := 99999) hx hb hown (hts _ (List.mem_of_getElem? (i := 3) rfl)) dX5_minutes_26 ?_
    refine W.top (v' := .int (nI 99999)) rfl ?_
    refine nn_cle (tgt := 38) hx hb dX5_minutes_28 (by decide) (by omega) (by decide) (fun c28 => ?_) (fun c28 => ?_)
    · refine lv_aload_n hx hb dX5_minutes_38 rfl (lv_at hl 0 rfl) ?_
      refine lv_iload_n hx hb dX5_minutes_39 rfl (lv_at hl 1 rfl) ?_
      refine cl_Vv (As := [.int (nI y)]) (rest := []) (C := RX5) ⟨hx, hb, hml, hown, hts⟩ (M_X5_goesFor l D cI cJ mo R G 99999 (by decide) hG y (by omega)) (cwV 1 hts gX5_minutes_X5_goesFor rfl rfl rfl qX5_goesFor ⟨Nat.le_of_ble_eq_true rfl, Nat.le_of_ble_eq_true rfl⟩) E0_good hK hA hW trivial [true, true] (fun _ => [mH mo R, mR cI (mo 1) (stepN G y), aI cI (mo 4) 7 F]) rfl (fun _ => rfl) (fun _ => rfl) 0 0 rfl rfl rfl rfl hl.1 rfl (lv_room (Nat.le_of_ble_eq_true rfl)) dX5_minutes_40 ⟨Nat.zero_le _, Nat.zero_le _⟩ (fun _ H locs _ hW => ?_)
      refine lv_aload_n hx hb dX5_minutes_43 rfl (lv_at hl 0 rfl) ?_
      refine sg_get (ci := 4) (C := RX5) (T := TX5) (N := 15) (v := .ref (mo 1)) hx hb hts (fun _ h => List.mem_cons_of_mem _ (List.mem_append_right _ h)) hown hK hW 0 0 rfl rfl rfl 0 (by decide) (hts _ (List.mem_of_getElem? (i := 2) rfl)) rfl dX5_minutes_44 ?_
      refine lv_iconst (v := nI 3) hx hb dX5_minutes_47 (by decide +kernel) ?_
      refine sg_ild (v := nI ((stepN G y) 24)) hx hb hK hW 1 0 0 rfl rfl rfl (by decide) (by decide) rfl dX5_minutes_48 ?_
      exact rt_i hQ hx hb hr hlocks hW dX5_minutes_49 () (by (try simp only [minutesV, ey, Int.toNat_natCast]); (repeat' split) <;> first | rfl | (exfalso; omega)) trivial (by (try simp only [minutesG, minutesF, ey, Int.toNat_natCast]); (repeat' split) <;> first | rfl | (exfalso; omega))
    · refine lv_aload_n hx hb dX5_minutes_31 rfl (lv_at hl 0 rfl) ?_
      refine lv_ldc (v := -1000000005) hx hb hown (hts _ (List.mem_of_getElem? (i := 4) rfl)) dX5_minutes_32 ?_
      refine cl_Vi (As := [.int (-1000000005)]) (rest := []) (C := RX5) ⟨hx, hb, hml, hown, hts⟩ (M_X5_finds l D cI cJ mo R F 4 (by decide) (-1000000005) (by decide +kernel)) (cwV 1 hts gX5_minutes_X5_finds rfl rfl rfl qX5_finds ⟨Nat.le_of_ble_eq_true rfl, Nat.le_of_ble_eq_true rfl⟩) E0_good hK hA hW trivial [true, false, true] (fun _ => [mH mo R, mR cI (mo 1) G, aI cI (mo 4) 7 (up F 4 (F 4 + 1))]) rfl (fun _ => rfl) (fun _ => rfl) 0 0 rfl rfl rfl rfl hl.1 rfl (lv_room (Nat.le_of_ble_eq_true rfl)) dX5_minutes_34 ⟨Nat.zero_le _, Nat.zero_le _⟩ (fun _ H locs _ hW => ?_)
      exact rt_i hQ hx hb hr hlocks hW dX5_minutes_37 () (by (try simp only [minutesV, ey, Int.toNat_natCast]); (repeat' split) <;> first | rfl | (exfalso; omega)) trivial (by (try simp only [minutesG, minutesF, ey, Int.toNat_natCast]); (repeat' split) <;> first | rfl | (exfalso; omega))
  · refine lv_aload_n hx hb dX5_minutes_11 rfl (lv_at hl 0 rfl) ?_
    refine lv_ldc (v := -1000000001) hx hb hown (hts _ (List.mem_of_getElem? (i := 1) rfl)) dX5_minutes_12 ?_
    refine cl_Vi (As := [.int (-1000000001)]) (rest := []) (C := RX5) ⟨hx, hb, hml, hown, hts⟩ (M_X5_finds l D cI cJ mo R F 0 (by decide) (-1000000001) (by decide +kernel)) (cwV 1 hts gX5_minutes_X5_finds rfl rfl rfl qX5_finds ⟨Nat.le_of_ble_eq_true rfl, Nat.le_of_ble_eq_true rfl⟩) E0_good hK hA hW trivial [true, false, true] (fun _ => [mH mo R, mR cI (mo 1) G, aI cI (mo 4) 7 (up F 0 (F 0 + 1))]) rfl (fun _ => rfl) (fun _ => rfl) 0 0 rfl rfl rfl rfl hl.1 rfl (lv_room (Nat.le_of_ble_eq_true rfl)) dX5_minutes_14 ⟨Nat.zero_le _, Nat.zero_le _⟩ (fun _ H locs _ hW => ?_)
    exact rt_i hQ hx hb hr hlocks hW dX5_minutes_17 () (by (try simp only [minutesV]); (repeat' split) <;> first | rfl | (exfalso; omega)) trivial (by (try simp only [minutesG, minutesF]); (repeat' split) <;> first | rfl | (exfalso; omega))
