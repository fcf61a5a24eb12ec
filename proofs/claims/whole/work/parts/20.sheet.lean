theorem qX2_isSheet : yX2_isSheet.cls = RX2 ∧ yX2_isSheet.cls ≠ "java/lang/invoke/MethodHandle" ∧ yX2_isSheet.cls ≠ "java/lang/invoke/VarHandle" ∧ (parseMethodDescriptor yX2_isSheet.desc).map (fun d => d.parameters.length) = some 1 := by decide +kernel
theorem qX2_lay : yX2_lay.cls = RX2 ∧ yX2_lay.cls ≠ "java/lang/invoke/MethodHandle" ∧ yX2_lay.cls ≠ "java/lang/invoke/VarHandle" ∧ (parseMethodDescriptor yX2_lay.desc).map (fun d => d.parameters.length) = some 3 := by decide +kernel
theorem qX2_isMissing : yX2_isMissing.cls = RX2 ∧ yX2_isMissing.cls ≠ "java/lang/invoke/MethodHandle" ∧ yX2_isMissing.cls ≠ "java/lang/invoke/VarHandle" ∧ (parseMethodDescriptor yX2_isMissing.desc).map (fun d => d.parameters.length) = some 1 := by decide +kernel
theorem qX2_numberAt : yX2_numberAt.cls = RX2 ∧ yX2_numberAt.cls ≠ "java/lang/invoke/MethodHandle" ∧ yX2_numberAt.cls ≠ "java/lang/invoke/VarHandle" ∧ (parseMethodDescriptor yX2_numberAt.desc).map (fun d => d.parameters.length) = some 2 := by decide +kernel
theorem qX2_put : yX2_put.cls = RX2 ∧ yX2_put.cls ≠ "java/lang/invoke/MethodHandle" ∧ yX2_put.cls ≠ "java/lang/invoke/VarHandle" ∧ (parseMethodDescriptor yX2_put.desc).map (fun d => d.parameters.length) = some 3 := by decide +kernel
theorem qX5_isSheet : yX5_isSheet.cls ≠ "java/lang/invoke/MethodHandle" ∧ yX5_isSheet.cls ≠ "java/lang/invoke/VarHandle" ∧ (parseMethodDescriptor yX5_isSheet.desc).map (fun d => d.parameters.length) = some 1 := by decide +kernel
theorem qX5_notThere : yX5_notThere.cls = RX5 ∧ yX5_notThere.cls ≠ "java/lang/invoke/MethodHandle" ∧ yX5_notThere.cls ≠ "java/lang/invoke/VarHandle" ∧ (parseMethodDescriptor yX5_notThere.desc).map (fun d => d.parameters.length) = some 1 := by decide +kernel
theorem qX5_cutTo : yX5_cutTo.cls ≠ "java/lang/invoke/MethodHandle" ∧ yX5_cutTo.cls ≠ "java/lang/invoke/VarHandle" ∧ (parseMethodDescriptor yX5_cutTo.desc).map (fun d => d.parameters.length) = some 2 := by decide +kernel
def cutV (w : Nat) (v : Int64) : Int64 := if w = 8 then (v.toInt32.toInt8.toInt32).toInt64 else if w = 16 then (v.toInt32.toInt16.toInt32).toInt64 else v
def zrC (C : Nat → Int64) (j i : Nat) : Nat → Int64 := fun k => if j * 40 ≤ k ∧ k < j * 40 + i then 0 else C k
theorem zrC_0 (C : Nat → Int64) (j : Nat) : zrC C j 0 = C := by funext k; unfold zrC; rw [if_neg (by omega)]
theorem zrC_up (C : Nat → Int64) (j i : Nat) : vp_updL (zrC C j i) (j * 40 + i) 0 = zrC C j (i + 1) := by
  funext k
  unfold vp_updL zrC
  by_cases h : k = j * 40 + i
  · rw [if_pos h, if_pos (by omega)]
  · rw [if_neg h]
    by_cases q : j * 40 ≤ k ∧ k < j * 40 + i
    · rw [if_pos q, if_pos (by omega)]
    · rw [if_neg q, if_neg (by omega)]
/-- what always holds of the sheets -/
def OkS (B Z : Nat → Nat) : Prop := ∀ j, j < 4 → B j ≤ 64 ∧ Z j ≤ 40
def shOk (a w z : Int) : Prop := (0 ≤ a ∧ a ≤ 3) ∧ (w = 0 ∨ w = 8 ∨ w = 16 ∨ w = 64) ∧ 0 ≤ z ∧ z ≤ 40
def sheetV (a w z : Int) : Int32 := if (0 ≤ a ∧ a ≤ 3) ∧ (w = 0 ∨ w = 8 ∨ w = 16 ∨ w = 64) then (if z < 0 then -1000000007 else if z ≤ 40 then (if w = 0 then nI 0 else nI z.toNat) else -1000000001) else -1000000001
def sheetF (F : Nat → Nat) (a w z : Int) : Nat → Nat := if (0 ≤ a ∧ a ≤ 3) ∧ (w = 0 ∨ w = 8 ∨ w = 16 ∨ w = 64) then (if z < 0 then fnd F 6 else if z ≤ 40 then F else fnd F 0) else fnd F 0
def sheetB (B : Nat → Nat) (a w z : Int) : Nat → Nat := if ((0 ≤ a ∧ a ≤ 3) ∧ (w = 0 ∨ w = 8 ∨ w = 16 ∨ w = 64)) ∧ 0 ≤ z ∧ z ≤ 40 then up B a.toNat w.toNat else B
def sheetZ (Z : Nat → Nat) (a w z : Int) : Nat → Nat := if ((0 ≤ a ∧ a ≤ 3) ∧ (w = 0 ∨ w = 8 ∨ w = 16 ∨ w = 64)) ∧ 0 ≤ z ∧ z ≤ 40 then (if w = 0 then up Z a.toNat 0 else up Z a.toNat z.toNat) else Z
def sheetC (C : Nat → Int64) (a w z : Int) : Nat → Int64 := if ((0 ≤ a ∧ a ≤ 3) ∧ (w = 0 ∨ w = 8 ∨ w = 16 ∨ w = 64)) ∧ 0 ≤ z ∧ z ≤ 40 then zrC C a.toNat 40 else C
def writeV (B Z : Nat → Nat) (C : Nat → Int64) (a i : Int) : Int64 := if 0 ≤ a ∧ a ≤ 3 then (if B a.toNat = 0 then -1000000006 else if 0 ≤ i ∧ i < Z a.toNat then C (a.toNat * 40 + i.toNat) else -1000000001) else -1000000001
def writeF (B Z F : Nat → Nat) (a i : Int) : Nat → Nat := if 0 ≤ a ∧ a ≤ 3 then (if B a.toNat = 0 then fnd F 5 else if 0 ≤ i ∧ i < Z a.toNat then F else fnd F 0) else fnd F 0
def writeC (B Z : Nat → Nat) (C : Nat → Int64) (a i : Int) (v : Int64) : Nat → Int64 := if (0 ≤ a ∧ a ≤ 3) ∧ ¬ B a.toNat = 0 ∧ 0 ≤ i ∧ i < Z a.toNat then vp_updL C (a.toNat * 40 + i.toNat) (cutV (B a.toNat) v) else C
theorem i64_1 : (-1000000001 : Int32).toInt64 = -1000000001 := by decide +kernel
theorem i64_6 : (-1000000006 : Int32).toInt64 = -1000000006 := by decide +kernel
abbrev rmX2_isSheet : Room := { frames := 0, cells := 0, slots := 0, locals := 0 }
set_option maxRecDepth 100000 in
set_option maxHeartbeats 4000000 in
theorem M_X2_isSheet (l : Launch) (D : va_G) (cI cJ : ClassId) (sh B Z : Nat → Nat) (C : Nat → Int64) (v : Int32) : CE E0 l D vwCl [(cI, .int), (cJ, .long)] yX2_isSheet wsX2_isSheet rmX2_isSheet [.ref (sh 0), .int v] [sW cI cJ sh B Z C] (S := Unit) (some (.int (nI (inN v 4)))) (fun _ => True) (fun _ : Unit => [sW cI cJ sh B Z C]) 0 0 := by
  refine CE.ofW (cc := cX2_isSheet) (maxL := 2) (ret := (some .boolean)) (lv := [(0, .ref (sh 0)), (1, .int v)]) (by decide) rfl (Nat.le_of_ble_eq_true rfl) rfl ?_
  intro p e s m args below meth c ls A Q hQ hx hb hml hr hlocks hnm hown hts hK hA hE hW hl
  have hown : s.vm.findClass RX2 = some m.cls := hown
  refine lv_iload_n hx hb dX2_isSheet_0 rfl (lv_at hl 1 rfl) ?_
  refine zz_zlt (tgt := 13) hx hb dX2_isSheet_1 (by decide) (rfl : v.toInt = v.toInt) (fun c1 => ?_) (fun c1 => ?_)
  · refine lv_iconst (v := nI 0) hx hb dX2_isSheet_13 (by decide +kernel) ?_
    exact rt_z hQ hx hb hr hlocks hW dX2_isSheet_14 (by decide +kernel) () (by unfold inN; split <;> first | rfl | (exfalso; omega)) trivial rfl
  · refine lv_iload_n hx hb dX2_isSheet_4 rfl (lv_at hl 1 rfl) ?_
    refine lv_iconst (v := nI 4) hx hb dX2_isSheet_5 (by decide +kernel) ?_
    refine zz_cge (tgt := 13) hx hb dX2_isSheet_6 (by decide) (rfl : v.toInt = v.toInt) (nI_toInt (n := 4) (by decide)) (fun c6 => ?_) (fun c6 => ?_)
    · refine lv_iconst (v := nI 0) hx hb dX2_isSheet_13 (by decide +kernel) ?_
      exact rt_z hQ hx hb hr hlocks hW dX2_isSheet_14 (by decide +kernel) () (by unfold inN; split <;> first | rfl | (exfalso; omega)) trivial rfl
    · refine lv_iconst (v := nI 1) hx hb dX2_isSheet_9 (by decide +kernel) ?_
      refine lv_goto (tgt := 14) hx hb dX2_isSheet_10 (by decide) ?_
      exact rt_z hQ hx hb hr hlocks hW dX2_isSheet_14 (by decide +kernel) () (by unfold inN; split <;> first | rfl | (exfalso; omega)) trivial rfl
abbrev rmX2_isMissing : Room := { frames := 0, cells := 0, slots := 0, locals := 0 }
set_option maxRecDepth 100000 in
set_option maxHeartbeats 4000000 in
theorem M_X2_isMissing (l : Launch) (D : va_G) (cI cJ : ClassId) (sh B Z : Nat → Nat) (C : Nat → Int64) (hS : OkS B Z) (j : Nat) (hj : j < 4) : CE E0 l D vwCl [(cI, .int), (cJ, .long)] yX2_isMissing wsX2_isMissing rmX2_isMissing [.ref (sh 0), .int (nI j)] [sW cI cJ sh B Z C] (S := Unit) (some (.int (nI (if B j = 0 then 1 else 0)))) (fun _ => True) (fun _ : Unit => [sW cI cJ sh B Z C]) 0 0 := by
  refine CE.ofW (cc := cX2_isMissing) (maxL := 2) (ret := (some .boolean)) (lv := [(0, .ref (sh 0)), (1, .int (nI j))]) (by decide) rfl (Nat.le_of_ble_eq_true rfl) rfl ?_
  intro p e s m args below meth c ls A Q hQ hx hb hml hr hlocks hnm hown hts hK hA hE hW hl
  have hown : s.vm.findClass RX2 = some m.cls := hown
  have hSj := hS j hj
  refine lv_aload_n hx hb dX2_isMissing_0 rfl (lv_at hl 0 rfl) ?_
  refine sg_get (ci := 1) (C := RX2) (T := TX2) (N := 3) (v := .ref (sh 1)) hx hb hts (fun _ h => List.mem_cons_of_mem _ (List.mem_append_right _ h)) hown hK hW 0 0 rfl rfl rfl 0 (by decide) (hts _ (List.mem_of_getElem? (i := 1) rfl)) rfl dX2_isMissing_1 ?_
  refine lv_iload_n hx hb dX2_isMissing_4 rfl (lv_at hl 1 rfl) ?_
  refine sg_ild (v := nI (B j)) hx hb hK hW 0 1 0 rfl rfl rfl (by omega) (by decide) rfl dX2_isMissing_5 ?_
  refine nn_zne (tgt := 13) hx hb dX2_isMissing_6 (by decide) (by omega) (fun c6 => ?_) (fun c6 => ?_)
  · refine lv_iconst (v := nI 0) hx hb dX2_isMissing_13 (by decide +kernel) ?_
    exact rt_z hQ hx hb hr hlocks hW dX2_isMissing_14 (by decide +kernel) () (by (repeat' split) <;> first | rfl | (exfalso; omega)) trivial rfl
  · refine lv_iconst (v := nI 1) hx hb dX2_isMissing_9 (by decide +kernel) ?_
    refine lv_goto (tgt := 14) hx hb dX2_isMissing_10 (by decide) ?_
    exact rt_z hQ hx hb hr hlocks hW dX2_isMissing_14 (by decide +kernel) () (by (repeat' split) <;> first | rfl | (exfalso; omega)) trivial rfl
theorem ite01 (p : Prop) [Decidable p] : ((if p then 1 else 0) = 1 ∧ p) ∨ ((if p then 1 else 0) = 0 ∧ ¬ p) := by split <;> simp_all
abbrev rmX2_numberAt : Room := { frames := 0, cells := 0, slots := 0, locals := 0 }
set_option maxRecDepth 100000 in
set_option maxHeartbeats 4000000 in
theorem M_X2_numberAt (l : Launch) (D : va_G) (cI cJ : ClassId) (sh B Z : Nat → Nat) (C : Nat → Int64) (j i : Nat) (hj : j < 4) (hi : i < 40) : CE E0 l D vwCl [(cI, .int), (cJ, .long)] yX2_numberAt wsX2_numberAt rmX2_numberAt [.ref (sh 0), .int (nI j), .int (nI i)] [sW cI cJ sh B Z C] (S := Unit) (some (.long (C (j * 40 + i)))) (fun _ => True) (fun _ : Unit => [sW cI cJ sh B Z C]) 0 0 := by
  refine CE.ofW (cc := cX2_numberAt) (maxL := 3) (ret := (some .long)) (lv := [(0, .ref (sh 0)), (1, .int (nI j)), (2, .int (nI i))]) (by decide) rfl (Nat.le_of_ble_eq_true rfl) rfl ?_
  intro p e s m args below meth c ls A Q hQ hx hb hml hr hlocks hnm hown hts hK hA hE hW hl
  have hown : s.vm.findClass RX2 = some m.cls := hown
  refine lv_aload_n hx hb dX2_numberAt_0 rfl (lv_at hl 0 rfl) ?_
  refine sg_get (ci := 1) (C := RX2) (T := TX2) (N := 3) (v := .ref (sh 3)) hx hb hts (fun _ h => List.mem_cons_of_mem _ (List.mem_append_right _ h)) hown hK hW 0 0 rfl rfl rfl 2 (by decide) (hts _ (List.mem_of_getElem? (i := 1) rfl)) rfl dX2_numberAt_1 ?_
  refine lv_iload_n hx hb dX2_numberAt_4 rfl (lv_at hl 1 rfl) ?_
  refine lv_bipush (v := nI 40) hx hb dX2_numberAt_5 (by decide +kernel) ?_
  refine nn_mul hx hb dX2_numberAt_7 ?_
  refine lv_iload_n hx hb dX2_numberAt_8 rfl (lv_at hl 2 rfl) ?_
  refine nn_add hx hb dX2_numberAt_9 ?_
  refine sg_lld (v := C ((j * 40) + i)) hx hb hK hW 0 3 1 rfl rfl rfl (by omega) (by decide) rfl dX2_numberAt_10 ?_
  exact rt_l hQ hx hb hr hlocks hW dX2_numberAt_11 () rfl trivial rfl
abbrev rmX2_put : Room := { frames := 0, cells := 0, slots := 0, locals := 0 }
set_option maxRecDepth 100000 in
set_option maxHeartbeats 4000000 in
theorem M_X2_put (l : Launch) (D : va_G) (cI cJ : ClassId) (sh B Z : Nat → Nat) (C : Nat → Int64) (hS : OkS B Z) (j i : Nat) (v : Int64) (hj : j < 4) (hi : i < 40) : CE E0 l D vwCl [(cI, .int), (cJ, .long)] yX2_put wsX2_put rmX2_put [.ref (sh 0), .int (nI j), .int (nI i), .long v] [sW cI cJ sh B Z C] (S := Unit) none (fun _ => True) (fun _ : Unit => [sW cI cJ sh B Z (vp_updL C (j * 40 + i) (cutV (B j) v))]) 0 0 := by
  refine CE.ofW (cc := cX2_put) (maxL := 7) (ret := none) (lv := [(0, .ref (sh 0)), (1, .int (nI j)), (2, .int (nI i)), (3, .long v)]) (by decide) rfl (Nat.le_of_ble_eq_true rfl) rfl ?_
  intro p e s m args below meth c ls A Q hQ hx hb hml hr hlocks hnm hown hts hK hA hE hW hl
  have hown : s.vm.findClass RX2 = some m.cls := hown
  have hSj := hS j hj
  refine lv_lload_n hx hb dX2_put_0 rfl (lv_at hl 3 rfl) ?_
  refine lv_lstore (lv' := [(5, .long v), (0, .ref (sh 0)), (1, .int (nI j)), (2, .int (nI i)), (3, .long v)]) hx hb dX2_put_1 hl (by decide) rfl (fun ls hl => ?_)
  refine lv_aload_n hx hb dX2_put_3 rfl (lv_at hl 1 rfl) ?_
  refine sg_get (ci := 1) (C := RX2) (T := TX2) (N := 3) (v := .ref (sh 1)) hx hb hts (fun _ h => List.mem_cons_of_mem _ (List.mem_append_right _ h)) hown hK hW 0 0 rfl rfl rfl 0 (by decide) (hts _ (List.mem_of_getElem? (i := 1) rfl)) rfl dX2_put_4 ?_
  refine lv_iload_n hx hb dX2_put_7 rfl (lv_at hl 2 rfl) ?_
  refine sg_ild (v := nI (B j)) hx hb hK hW 0 1 0 rfl rfl rfl (by omega) (by decide) rfl dX2_put_8 ?_
  refine lv_bipush (v := nI 8) hx hb dX2_put_9 (by decide +kernel) ?_
  refine nn_cne (tgt := 23) hx hb dX2_put_11 (by decide) (by omega) (by decide) (fun c11 => ?_) (fun c11 => ?_)
  · refine lv_aload_n hx hb dX2_put_23 rfl (lv_at hl 1 rfl) ?_
    refine sg_get (ci := 1) (C := RX2) (T := TX2) (N := 3) (v := .ref (sh 1)) hx hb hts (fun _ h => List.mem_cons_of_mem _ (List.mem_append_right _ h)) hown hK hW 0 0 rfl rfl rfl 0 (by decide) (hts _ (List.mem_of_getElem? (i := 1) rfl)) rfl dX2_put_24 ?_
    refine lv_iload_n hx hb dX2_put_27 rfl (lv_at hl 2 rfl) ?_
    refine sg_ild (v := nI (B j)) hx hb hK hW 0 1 0 rfl rfl rfl (by omega) (by decide) rfl dX2_put_28 ?_
    refine lv_bipush (v := nI 16) hx hb dX2_put_29 (by decide +kernel) ?_
    refine nn_cne (tgt := 40) hx hb dX2_put_31 (by decide) (by omega) (by decide) (fun c31 => ?_) (fun c31 => ?_)
    · refine lv_aload_n hx hb dX2_put_40 rfl (lv_at hl 1 rfl) ?_
      refine sg_get (ci := 1) (C := RX2) (T := TX2) (N := 3) (v := .ref (sh 3)) hx hb hts (fun _ h => List.mem_cons_of_mem _ (List.mem_append_right _ h)) hown hK hW 0 0 rfl rfl rfl 2 (by decide) (hts _ (List.mem_of_getElem? (i := 2) rfl)) rfl dX2_put_41 ?_
      refine lv_iload_n hx hb dX2_put_44 rfl (lv_at hl 2 rfl) ?_
      refine lv_bipush (v := nI 40) hx hb dX2_put_45 (by decide +kernel) ?_
      refine nn_mul hx hb dX2_put_47 ?_
      refine lv_iload_n hx hb dX2_put_48 rfl (lv_at hl 3 rfl) ?_
      refine nn_add hx hb dX2_put_49 ?_
      refine lv_lload hx hb dX2_put_50 (lv_at hl 0 rfl) ?_
      refine sg_lst hx hb hK hW 0 3 1 rfl rfl rfl (by omega) (by decide) (sW_r3 cI cJ sh B Z C ((j * 40) + i) v) (ss' := [sW cI cJ sh B Z (vp_updL C ((j * 40) + i) v)]) rfl dX2_put_52 (fun H locs hW => ?_)
      exact rt_v hQ hx hb hr hlocks hW dX2_put_53 () rfl trivial (by unfold cutV; (repeat' split) <;> first | rfl | (exfalso; omega))
    · refine lv_lload_n hx hb dX2_put_34 rfl (lv_at hl 4 rfl) ?_
      refine lv_l2i (v := v.toInt32) hx hb dX2_put_35 rfl ?_
      refine lv_i2s (v := (v.toInt32).toInt16.toInt32) hx hb dX2_put_36 rfl ?_
      refine lv_i2l (v := ((v.toInt32).toInt16.toInt32).toInt64) hx hb dX2_put_37 rfl ?_
      refine lv_lstore (lv' := [(5, .long (((v.toInt32).toInt16.toInt32).toInt64)), (0, .ref (sh 0)), (1, .int (nI j)), (2, .int (nI i)), (3, .long v)]) hx hb dX2_put_38 hl (by decide) rfl (fun ls hl => ?_)
      refine lv_aload_n hx hb dX2_put_40 rfl (lv_at hl 1 rfl) ?_
      refine sg_get (ci := 1) (C := RX2) (T := TX2) (N := 3) (v := .ref (sh 3)) hx hb hts (fun _ h => List.mem_cons_of_mem _ (List.mem_append_right _ h)) hown hK hW 0 0 rfl rfl rfl 2 (by decide) (hts _ (List.mem_of_getElem? (i := 2) rfl)) rfl dX2_put_41 ?_
      refine lv_iload_n hx hb dX2_put_44 rfl (lv_at hl 2 rfl) ?_
      refine lv_bipush (v := nI 40) hx hb dX2_put_45 (by decide +kernel) ?_
      refine nn_mul hx hb dX2_put_47 ?_
      refine lv_iload_n hx hb dX2_put_48 rfl (lv_at hl 3 rfl) ?_
      refine nn_add hx hb dX2_put_49 ?_
      refine lv_lload hx hb dX2_put_50 (lv_at hl 0 rfl) ?_
      refine sg_lst hx hb hK hW 0 3 1 rfl rfl rfl (by omega) (by decide) (sW_r3 cI cJ sh B Z C ((j * 40) + i) (((v.toInt32).toInt16.toInt32).toInt64)) (ss' := [sW cI cJ sh B Z (vp_updL C ((j * 40) + i) (((v.toInt32).toInt16.toInt32).toInt64))]) rfl dX2_put_52 (fun H locs hW => ?_)
      exact rt_v hQ hx hb hr hlocks hW dX2_put_53 () rfl trivial (by unfold cutV; (repeat' split) <;> first | rfl | (exfalso; omega))
  · refine lv_lload_n hx hb dX2_put_14 rfl (lv_at hl 4 rfl) ?_
    refine lv_l2i (v := v.toInt32) hx hb dX2_put_15 rfl ?_
    refine lv_i2b (v := (v.toInt32).toInt8.toInt32) hx hb dX2_put_16 rfl ?_
    refine lv_i2l (v := ((v.toInt32).toInt8.toInt32).toInt64) hx hb dX2_put_17 rfl ?_
    refine lv_lstore (lv' := [(5, .long (((v.toInt32).toInt8.toInt32).toInt64)), (0, .ref (sh 0)), (1, .int (nI j)), (2, .int (nI i)), (3, .long v)]) hx hb dX2_put_18 hl (by decide) rfl (fun ls hl => ?_)
    refine lv_goto (tgt := 40) hx hb dX2_put_20 (by decide) ?_
    refine lv_aload_n hx hb dX2_put_40 rfl (lv_at hl 1 rfl) ?_
    refine sg_get (ci := 1) (C := RX2) (T := TX2) (N := 3) (v := .ref (sh 3)) hx hb hts (fun _ h => List.mem_cons_of_mem _ (List.mem_append_right _ h)) hown hK hW 0 0 rfl rfl rfl 2 (by decide) (hts _ (List.mem_of_getElem? (i := 2) rfl)) rfl dX2_put_41 ?_
    refine lv_iload_n hx hb dX2_put_44 rfl (lv_at hl 2 rfl) ?_
    refine lv_bipush (v := nI 40) hx hb dX2_put_45 (by decide +kernel) ?_
    refine nn_mul hx hb dX2_put_47 ?_
    refine lv_iload_n hx hb dX2_put_48 rfl (lv_at hl 3 rfl) ?_
    refine nn_add hx hb dX2_put_49 ?_
    refine lv_lload hx hb dX2_put_50 (lv_at hl 0 rfl) ?_
    refine sg_lst hx hb hK hW 0 3 1 rfl rfl rfl (by omega) (by decide) (sW_r3 cI cJ sh B Z C ((j * 40) + i) (((v.toInt32).toInt8.toInt32).toInt64)) (ss' := [sW cI cJ sh B Z (vp_updL C ((j * 40) + i) (((v.toInt32).toInt8.toInt32).toInt64))]) rfl dX2_put_52 (fun H locs hW => ?_)
    exact rt_v hQ hx hb hr hlocks hW dX2_put_53 () rfl trivial (by unfold cutV; (repeat' split) <;> first | rfl | (exfalso; omega))
abbrev rmX2_lay : Room := { frames := 0, cells := 0, slots := 0, locals := 0 }
set_option maxRecDepth 100000 in
set_option maxHeartbeats 4000000 in
theorem M_X2_lay (l : Launch) (D : va_G) (cI cJ : ClassId) (sh B Z : Nat → Nat) (C : Nat → Int64) (j bt k : Nat) (hj : j < 4) : CE E0 l D vwCl [(cI, .int), (cJ, .long)] yX2_lay wsX2_lay rmX2_lay [.ref (sh 0), .int (nI j), .int (nI bt), .int (nI k)] [sW cI cJ sh B Z C] (S := Unit) (some (.int (nI (k)))) (fun _ => True) (fun _ : Unit => [sW cI cJ sh (up B j bt) (up Z j k) (zrC C j 40)]) 0 0 := by
  refine CE.ofW (cc := cX2_lay) (maxL := 5) (ret := (some .int)) (lv := [(0, .ref (sh 0)), (1, .int (nI j)), (2, .int (nI bt)), (3, .int (nI k))]) (by decide) rfl (Nat.le_of_ble_eq_true rfl) rfl ?_
  intro p e s m args below meth c ls A Q hQ hx hb hml hr hlocks hnm hown hts hK hA hE hW hl
  have hown : s.vm.findClass RX2 = some m.cls := hown
  refine lv_aload_n hx hb dX2_lay_0 rfl (lv_at hl 0 rfl) ?_
  refine sg_get (ci := 1) (C := RX2) (T := TX2) (N := 3) (v := .ref (sh 1)) hx hb hts (fun _ h => List.mem_cons_of_mem _ (List.mem_append_right _ h)) hown hK hW 0 0 rfl rfl rfl 0 (by decide) (hts _ (List.mem_of_getElem? (i := 1) rfl)) rfl dX2_lay_1 ?_
  refine lv_iload_n hx hb dX2_lay_4 rfl (lv_at hl 1 rfl) ?_
  refine lv_iload_n hx hb dX2_lay_5 rfl (lv_at hl 2 rfl) ?_
  refine sg_ist hx hb hK hW 0 1 0 rfl rfl rfl (by omega) (by decide) (sW_r1 cI cJ sh B Z C j bt) (ss' := [sW cI cJ sh (up B j bt) Z C]) rfl dX2_lay_6 (fun H locs hW => ?_)
  refine lv_aload_n hx hb dX2_lay_7 rfl (lv_at hl 0 rfl) ?_
  refine sg_get (ci := 1) (C := RX2) (T := TX2) (N := 3) (v := .ref (sh 2)) hx hb hts (fun _ h => List.mem_cons_of_mem _ (List.mem_append_right _ h)) hown hK hW 0 0 rfl rfl rfl 1 (by decide) (hts _ (List.mem_of_getElem? (i := 2) rfl)) rfl dX2_lay_8 ?_
  refine lv_iload_n hx hb dX2_lay_11 rfl (lv_at hl 1 rfl) ?_
  refine lv_iload_n hx hb dX2_lay_12 rfl (lv_at hl 3 rfl) ?_
  refine sg_ist hx hb hK hW 0 2 0 rfl rfl rfl (by omega) (by decide) (sW_r2 cI cJ sh (up B j bt) Z C j k) (ss' := [sW cI cJ sh (up B j bt) (up Z j k) C]) rfl dX2_lay_13 (fun H locs hW => ?_)
  refine lv_iconst (v := nI 0) hx hb dX2_lay_14 (by decide +kernel) ?_
  refine lv_istore (lv' := [(4, .int (nI 0)), (0, .ref (sh 0)), (1, .int (nI j)), (2, .int (nI bt)), (3, .int (nI k))]) hx hb dX2_lay_15 hl (by decide) rfl (fun ls hl => ?_)
  have lp17 : ∀ (n : Nat) (i : Nat), 40 - i < n → i ≤ 40 → ∀ (H : Heap) (locs : List Loc), Wo D vwCl A s.heap H locs [sW cI cJ sh (up B j bt) (up Z j k) (zrC C j i)] → ∀ ls : Array Slot, lv_has ls 5 [(4, .int (nI i)), (0, .ref (sh 0)), (1, .int (nI j)), (2, .int (nI bt)), (3, .int (nI k))] → W p l e rmX2_lay s m args below meth c H locs 0 0 Q (F0 m 17 ls []) := by
    intro n
    induction n with
    | zero => intro i hm; exact absurd hm (Nat.not_lt_zero _)
    | succ n ih =>
      intro i hm hi H locs hW ls hl
      refine lv_iload hx hb dX2_lay_17 (lv_at hl 0 rfl) ?_
      refine lv_bipush (v := nI 40) hx hb dX2_lay_19 (by decide +kernel) ?_
      refine nn_cge (tgt := 43) hx hb dX2_lay_21 (by decide) (by omega) (by decide) (fun c21 => ?_) (fun c21 => ?_)
      · refine lv_iload_n hx hb dX2_lay_43 rfl (lv_at hl 4 rfl) ?_
        exact rt_i hQ hx hb hr hlocks hW dX2_lay_44 () rfl trivial (by rw [show i = 40 by omega])
      · refine lv_aload_n hx hb dX2_lay_24 rfl (lv_at hl 1 rfl) ?_
        refine sg_get (ci := 1) (C := RX2) (T := TX2) (N := 3) (v := .ref (sh 3)) hx hb hts (fun _ h => List.mem_cons_of_mem _ (List.mem_append_right _ h)) hown hK hW 0 0 rfl rfl rfl 2 (by decide) (hts _ (List.mem_of_getElem? (i := 3) rfl)) rfl dX2_lay_25 ?_
        refine lv_iload_n hx hb dX2_lay_28 rfl (lv_at hl 2 rfl) ?_
        refine lv_bipush (v := nI 40) hx hb dX2_lay_29 (by decide +kernel) ?_
        refine nn_mul hx hb dX2_lay_31 ?_
        refine lv_iload hx hb dX2_lay_32 (lv_at hl 0 rfl) ?_
        refine nn_add hx hb dX2_lay_34 ?_
        refine lv_lconst (v := 0) hx hb dX2_lay_35 (by decide +kernel) ?_
        refine sg_lst hx hb hK hW 0 3 1 rfl rfl rfl (by omega) (by decide) (sW_r3 cI cJ sh (up B j bt) (up Z j k) (zrC C j i) ((j * 40) + i) 0) (ss' := [sW cI cJ sh (up B j bt) (up Z j k) (vp_updL (zrC C j i) ((j * 40) + i) 0)]) rfl dX2_lay_36 (fun H locs hW => ?_)
        refine lv_iinc (v := nI (i + 1)) (lv' := [(4, .int (nI (i + 1))), (0, .ref (sh 0)), (1, .int (nI j)), (2, .int (nI bt)), (3, .int (nI k))]) hx hb dX2_lay_37 hl (k := 0) rfl (nI_add _ 1) (by decide) rfl (fun ls hl => ?_)
        refine lv_goto (tgt := 17) hx hb dX2_lay_40 (by decide) ?_
        have hW := hW.to (ss' := [sW cI cJ sh (up B j bt) (up Z j k) (zrC C j (i + 1))]) (by rw [zrC_up])
        exact ih (i + 1) (by omega) (by omega) _ _ hW _ (lv_sub hl [0, 1, 2, 3, 4] rfl)
  have hW := hW.to (ss' := [sW cI cJ sh (up B j bt) (up Z j k) (zrC C j 0)]) (by rw [zrC_0])
  exact lp17 (40 - 0 + 1) 0 (Nat.lt_succ_self _) (by omega) _ _ hW _ (lv_sub hl [0, 1, 2, 3, 4] rfl)
abbrev rmX4_sheet : Room := { frames := 1, cells := 0, slots := 0, locals := 24 }
set_option maxRecDepth 100000 in
set_option maxHeartbeats 4000000 in
theorem M_X4_sheet (l : Launch) (D : va_G) (cI cJ : ClassId) (x fi ik : Nat) (la ta ka tp sh B Z F : Nat → Nat) (C : Nat → Int64) (hS : OkS B Z) (v w z : Int32) : CE E0 l D vwCl [(cI, .int), (cJ, .long)] yX4_sheet wsX4_sheet rmX4_sheet [.ref x, .int v, .int w, .int z] [xH x la ta ka tp sh fi ik, sW cI cJ sh B Z C, aI cI fi 7 F] (S := Unit) (some (.int (sheetV v.toInt w.toInt z.toInt))) (fun _ => True) (fun _ : Unit => [xH x la ta ka tp sh fi ik, sW cI cJ sh (sheetB B v.toInt w.toInt z.toInt) (sheetZ Z v.toInt w.toInt z.toInt) (sheetC C v.toInt w.toInt z.toInt), aI cI fi 7 (sheetF F v.toInt w.toInt z.toInt)]) 0 0 := by
  refine CE.ofW (cc := cX4_sheet) (maxL := 4) (ret := (some .int)) (lv := [(0, .ref x), (1, .int v), (2, .int w), (3, .int z)]) (by decide) rfl (Nat.le_of_ble_eq_true rfl) rfl ?_
  intro p e s m args below meth c ls A Q hQ hx hb hml hr hlocks hnm hown hts hK hA hE hW hl
  have hown : s.vm.findClass RX4 = some m.cls := hown
  refine lv_aload_n hx hb dX4_sheet_0 rfl (lv_at hl 0 rfl) ?_
  refine sg_get (ci := 3) (C := RX4) (T := TX4) (N := 7) (v := .ref (sh 0)) hx hb hts (fun _ h => List.mem_cons_of_mem _ (List.mem_append_left _ (List.mem_append_right _ h))) hown hK hW 0 0 rfl rfl rfl 5 (by decide) (hts _ (List.mem_of_getElem? (i := 1) rfl)) rfl dX4_sheet_1 ?_
  refine lv_iload_n hx hb dX4_sheet_4 rfl (lv_at hl 1 rfl) ?_
  refine cl_Vi (As := [.int v]) (rest := []) (C := RX2) ⟨hx, hb, hml, hown, hts⟩ (M_X2_isSheet l D cI cJ sh B Z C v) (cwV 1 hts gX4_sheet_X2_isSheet rfl rfl rfl qX2_isSheet ⟨Nat.le_of_ble_eq_true rfl, Nat.le_of_ble_eq_true rfl⟩) E0_good hK hA hW trivial [false, true] (fun _ => [xH x la ta ka tp sh fi ik, sW cI cJ sh B Z C, aI cI fi 7 F]) rfl (fun _ => rfl) (fun _ => rfl) 1 0 rfl rfl rfl rfl hl.1 rfl (lv_room (Nat.le_of_ble_eq_true rfl)) dX4_sheet_5 ⟨Nat.zero_le _, Nat.zero_le _⟩ (fun _ H locs _ hW => ?_)
  have him_ := inN_or v 4
  refine nn_zeq (tgt := 33) hx hb dX4_sheet_8 (by decide) (by omega) (fun c8 => ?_) (fun c8 => ?_)
  · refine lv_aload_n hx hb dX4_sheet_33 rfl (lv_at hl 0 rfl) ?_
    refine lv_ldc (v := -1000000001) hx hb hown (hts _ (List.mem_of_getElem? (i := 2) rfl)) dX4_sheet_34 ?_
    refine cl_Vi (As := [.int (-1000000001)]) (rest := []) (C := RX4) ⟨hx, hb, hml, hown, hts⟩ (M_X4_tell l D cI cJ x fi ik la ta ka tp sh F 0 (by decide) (-1000000001) (by decide +kernel)) (cwV 1 hts gX4_sheet_X4_tell rfl rfl rfl qX4_tell ⟨Nat.le_of_ble_eq_true rfl, Nat.le_of_ble_eq_true rfl⟩) E0_good hK hA hW trivial [true, false, true] (fun _ => [xH x la ta ka tp sh fi ik, sW cI cJ sh B Z C, aI cI fi 7 (up F 0 (F 0 + 1))]) rfl (fun _ => rfl) (fun _ => rfl) 0 0 rfl rfl rfl rfl hl.1 rfl (lv_room (Nat.le_of_ble_eq_true rfl)) dX4_sheet_36 ⟨Nat.zero_le _, Nat.zero_le _⟩ (fun _ H locs _ hW => ?_)
    exact rt_i hQ hx hb hr hlocks hW dX4_sheet_39 () (by (try simp only [sheetV]); (repeat' split) <;> first | rfl | (exfalso; omega)) trivial (by (try simp only [sheetB, sheetZ, sheetC, sheetF]); (repeat' split) <;> first | rfl | (exfalso; omega))
  · refine lv_iload_n hx hb dX4_sheet_11 rfl (lv_at hl 2 rfl) ?_
    refine zz_zeq (tgt := 40) hx hb dX4_sheet_12 (by decide) (rfl : w.toInt = w.toInt) (fun c12 => ?_) (fun c12 => ?_)
    · refine lv_iload_n hx hb dX4_sheet_40 rfl (lv_at hl 3 rfl) ?_
      refine zz_zge (tgt := 51) hx hb dX4_sheet_41 (by decide) (rfl : z.toInt = z.toInt) (fun c41 => ?_) (fun c41 => ?_)
      · refine lv_iload_n hx hb dX4_sheet_51 rfl (lv_at hl 3 rfl) ?_
        refine lv_bipush (v := nI 40) hx hb dX4_sheet_52 (by decide +kernel) ?_
        refine zz_cle (tgt := 64) hx hb dX4_sheet_54 (by decide) (rfl : z.toInt = z.toInt) (nI_toInt (n := 40) (by decide)) (fun c54 => ?_) (fun c54 => ?_)
        · obtain ⟨j, hj, ej⟩ : ∃ j : Nat, v = nI j ∧ v.toInt = (j : Int) := ⟨v.toInt.toNat, nI_ofZ rfl (by omega), by omega⟩
          rw [hj] at hl
          obtain ⟨wb, hwb, ewb⟩ : ∃ wb : Nat, w = nI wb ∧ w.toInt = (wb : Int) := ⟨w.toInt.toNat, nI_ofZ rfl (by omega), by omega⟩
          rw [hwb] at hl
          obtain ⟨y, hy, ey⟩ : ∃ y : Nat, z = nI y ∧ z.toInt = (y : Int) := ⟨z.toInt.toNat, nI_ofZ rfl (by omega), by omega⟩
          rw [hy] at hl
          refine lv_aload_n hx hb dX4_sheet_64 rfl (lv_at hl 0 rfl) ?_
          refine sg_get (ci := 3) (C := RX4) (T := TX4) (N := 7) (v := .ref (sh 0)) hx hb hts (fun _ h => List.mem_cons_of_mem _ (List.mem_append_left _ (List.mem_append_right _ h))) hown hK hW 0 0 rfl rfl rfl 5 (by decide) (hts _ (List.mem_of_getElem? (i := 1) rfl)) rfl dX4_sheet_65 ?_
          refine lv_iload_n hx hb dX4_sheet_68 rfl (lv_at hl 1 rfl) ?_
          refine lv_iload_n hx hb dX4_sheet_69 rfl (lv_at hl 2 rfl) ?_
          refine lv_iload_n hx hb dX4_sheet_70 rfl (lv_at hl 2 rfl) ?_
          refine nn_zne (tgt := 78) hx hb dX4_sheet_71 (by decide) (by omega) (fun c71 => ?_) (fun c71 => ?_)
          · refine lv_iload_n hx hb dX4_sheet_78 rfl (lv_at hl 3 rfl) ?_
            refine cl_Vi (As := [.int (nI j), .int (nI wb), .int (nI y)]) (rest := []) (C := RX2) ⟨hx, hb, hml, hown, hts⟩ (M_X2_lay l D cI cJ sh B Z C j wb y (by omega)) (cwV 3 hts gX4_sheet_X2_lay rfl rfl rfl qX2_lay ⟨Nat.le_of_ble_eq_true rfl, Nat.le_of_ble_eq_true rfl⟩) E0_good hK hA hW trivial [false, true] (fun _ => [xH x la ta ka tp sh fi ik, sW cI cJ sh (up B j wb) (up Z j y) (zrC C j 40), aI cI fi 7 F]) rfl (fun _ => rfl) (fun _ => rfl) 1 0 rfl rfl rfl rfl hl.1 rfl (lv_room (Nat.le_of_ble_eq_true rfl)) dX4_sheet_79 ⟨Nat.zero_le _, Nat.zero_le _⟩ (fun _ H locs _ hW => ?_)
            exact rt_i hQ hx hb hr hlocks hW dX4_sheet_82 () (by (try simp only [sheetV, ej, ewb, ey, Int.toNat_natCast]); (repeat' split) <;> first | rfl | (exfalso; omega)) trivial (by (try simp only [sheetB, sheetZ, sheetC, sheetF, ej, ewb, ey, Int.toNat_natCast]); (repeat' split) <;> first | rfl | (exfalso; omega))
          · refine lv_iconst (v := nI 0) hx hb dX4_sheet_74 (by decide +kernel) ?_
            refine lv_goto (tgt := 79) hx hb dX4_sheet_75 (by decide) ?_
            refine cl_Vi (As := [.int (nI j), .int (nI wb), .int (nI 0)]) (rest := []) (C := RX2) ⟨hx, hb, hml, hown, hts⟩ (M_X2_lay l D cI cJ sh B Z C j wb 0 (by omega)) (cwV 3 hts gX4_sheet_X2_lay rfl rfl rfl qX2_lay ⟨Nat.le_of_ble_eq_true rfl, Nat.le_of_ble_eq_true rfl⟩) E0_good hK hA hW trivial [false, true] (fun _ => [xH x la ta ka tp sh fi ik, sW cI cJ sh (up B j wb) (up Z j 0) (zrC C j 40), aI cI fi 7 F]) rfl (fun _ => rfl) (fun _ => rfl) 1 0 rfl rfl rfl rfl hl.1 rfl (lv_room (Nat.le_of_ble_eq_true rfl)) dX4_sheet_79 ⟨Nat.zero_le _, Nat.zero_le _⟩ (fun _ H locs _ hW => ?_)
            exact rt_i hQ hx hb hr hlocks hW dX4_sheet_82 () (by (try simp only [sheetV, ej, ewb, ey, Int.toNat_natCast]); (repeat' split) <;> first | rfl | (exfalso; omega)) trivial (by (try simp only [sheetB, sheetZ, sheetC, sheetF, ej, ewb, ey, Int.toNat_natCast]); (repeat' split) <;> first | rfl | (exfalso; omega))
        · refine lv_aload_n hx hb dX4_sheet_57 rfl (lv_at hl 0 rfl) ?_
          refine lv_ldc (v := -1000000001) hx hb hown (hts _ (List.mem_of_getElem? (i := 2) rfl)) dX4_sheet_58 ?_
          refine cl_Vi (As := [.int (-1000000001)]) (rest := []) (C := RX4) ⟨hx, hb, hml, hown, hts⟩ (M_X4_tell l D cI cJ x fi ik la ta ka tp sh F 0 (by decide) (-1000000001) (by decide +kernel)) (cwV 1 hts gX4_sheet_X4_tell rfl rfl rfl qX4_tell ⟨Nat.le_of_ble_eq_true rfl, Nat.le_of_ble_eq_true rfl⟩) E0_good hK hA hW trivial [true, false, true] (fun _ => [xH x la ta ka tp sh fi ik, sW cI cJ sh B Z C, aI cI fi 7 (up F 0 (F 0 + 1))]) rfl (fun _ => rfl) (fun _ => rfl) 0 0 rfl rfl rfl rfl hl.1 rfl (lv_room (Nat.le_of_ble_eq_true rfl)) dX4_sheet_60 ⟨Nat.zero_le _, Nat.zero_le _⟩ (fun _ H locs _ hW => ?_)
          exact rt_i hQ hx hb hr hlocks hW dX4_sheet_63 () (by (try simp only [sheetV]); (repeat' split) <;> first | rfl | (exfalso; omega)) trivial (by (try simp only [sheetB, sheetZ, sheetC, sheetF]); (repeat' split) <;> first | rfl | (exfalso; omega))
      · refine lv_aload_n hx hb dX4_sheet_44 rfl (lv_at hl 0 rfl) ?_
        refine lv_ldc (v := -1000000007) hx hb hown (hts _ (List.mem_of_getElem? (i := 3) rfl)) dX4_sheet_45 ?_
        refine cl_Vi (As := [.int (-1000000007)]) (rest := []) (C := RX4) ⟨hx, hb, hml, hown, hts⟩ (M_X4_tell l D cI cJ x fi ik la ta ka tp sh F 6 (by decide) (-1000000007) (by decide +kernel)) (cwV 1 hts gX4_sheet_X4_tell rfl rfl rfl qX4_tell ⟨Nat.le_of_ble_eq_true rfl, Nat.le_of_ble_eq_true rfl⟩) E0_good hK hA hW trivial [true, false, true] (fun _ => [xH x la ta ka tp sh fi ik, sW cI cJ sh B Z C, aI cI fi 7 (up F 6 (F 6 + 1))]) rfl (fun _ => rfl) (fun _ => rfl) 0 0 rfl rfl rfl rfl hl.1 rfl (lv_room (Nat.le_of_ble_eq_true rfl)) dX4_sheet_47 ⟨Nat.zero_le _, Nat.zero_le _⟩ (fun _ H locs _ hW => ?_)
        exact rt_i hQ hx hb hr hlocks hW dX4_sheet_50 () (by (try simp only [sheetV]); (repeat' split) <;> first | rfl | (exfalso; omega)) trivial (by (try simp only [sheetB, sheetZ, sheetC, sheetF]); (repeat' split) <;> first | rfl | (exfalso; omega))
    · refine lv_iload_n hx hb dX4_sheet_15 rfl (lv_at hl 2 rfl) ?_
      refine lv_bipush (v := nI 8) hx hb dX4_sheet_16 (by decide +kernel) ?_
      refine zz_ceq (tgt := 40) hx hb dX4_sheet_18 (by decide) (rfl : w.toInt = w.toInt) (nI_toInt (n := 8) (by decide)) (fun c18 => ?_) (fun c18 => ?_)
      · refine lv_iload_n hx hb dX4_sheet_40 rfl (lv_at hl 3 rfl) ?_
        refine zz_zge (tgt := 51) hx hb dX4_sheet_41 (by decide) (rfl : z.toInt = z.toInt) (fun c41_1 => ?_) (fun c41_1 => ?_)
        · refine lv_iload_n hx hb dX4_sheet_51 rfl (lv_at hl 3 rfl) ?_
          refine lv_bipush (v := nI 40) hx hb dX4_sheet_52 (by decide +kernel) ?_
          refine zz_cle (tgt := 64) hx hb dX4_sheet_54 (by decide) (rfl : z.toInt = z.toInt) (nI_toInt (n := 40) (by decide)) (fun c54_1 => ?_) (fun c54_1 => ?_)
          · obtain ⟨j, hj, ej⟩ : ∃ j : Nat, v = nI j ∧ v.toInt = (j : Int) := ⟨v.toInt.toNat, nI_ofZ rfl (by omega), by omega⟩
            rw [hj] at hl
            obtain ⟨wb, hwb, ewb⟩ : ∃ wb : Nat, w = nI wb ∧ w.toInt = (wb : Int) := ⟨w.toInt.toNat, nI_ofZ rfl (by omega), by omega⟩
            rw [hwb] at hl
            obtain ⟨y, hy, ey⟩ : ∃ y : Nat, z = nI y ∧ z.toInt = (y : Int) := ⟨z.toInt.toNat, nI_ofZ rfl (by omega), by omega⟩
            rw [hy] at hl
            refine lv_aload_n hx hb dX4_sheet_64 rfl (lv_at hl 0 rfl) ?_
            refine sg_get (ci := 3) (C := RX4) (T := TX4) (N := 7) (v := .ref (sh 0)) hx hb hts (fun _ h => List.mem_cons_of_mem _ (List.mem_append_left _ (List.mem_append_right _ h))) hown hK hW 0 0 rfl rfl rfl 5 (by decide) (hts _ (List.mem_of_getElem? (i := 1) rfl)) rfl dX4_sheet_65 ?_
            refine lv_iload_n hx hb dX4_sheet_68 rfl (lv_at hl 1 rfl) ?_
            refine lv_iload_n hx hb dX4_sheet_69 rfl (lv_at hl 2 rfl) ?_
            refine lv_iload_n hx hb dX4_sheet_70 rfl (lv_at hl 2 rfl) ?_
            refine nn_zne (tgt := 78) hx hb dX4_sheet_71 (by decide) (by omega) (fun c71_1 => ?_) (fun c71_1 => ?_)
            · refine lv_iload_n hx hb dX4_sheet_78 rfl (lv_at hl 3 rfl) ?_
              refine cl_Vi (As := [.int (nI j), .int (nI wb), .int (nI y)]) (rest := []) (C := RX2) ⟨hx, hb, hml, hown, hts⟩ (M_X2_lay l D cI cJ sh B Z C j wb y (by omega)) (cwV 3 hts gX4_sheet_X2_lay rfl rfl rfl qX2_lay ⟨Nat.le_of_ble_eq_true rfl, Nat.le_of_ble_eq_true rfl⟩) E0_good hK hA hW trivial [false, true] (fun _ => [xH x la ta ka tp sh fi ik, sW cI cJ sh (up B j wb) (up Z j y) (zrC C j 40), aI cI fi 7 F]) rfl (fun _ => rfl) (fun _ => rfl) 1 0 rfl rfl rfl rfl hl.1 rfl (lv_room (Nat.le_of_ble_eq_true rfl)) dX4_sheet_79 ⟨Nat.zero_le _, Nat.zero_le _⟩ (fun _ H locs _ hW => ?_)
              exact rt_i hQ hx hb hr hlocks hW dX4_sheet_82 () (by (try simp only [sheetV, ej, ewb, ey, Int.toNat_natCast]); (repeat' split) <;> first | rfl | (exfalso; omega)) trivial (by (try simp only [sheetB, sheetZ, sheetC, sheetF, ej, ewb, ey, Int.toNat_natCast]); (repeat' split) <;> first | rfl | (exfalso; omega))
            · refine lv_iconst (v := nI 0) hx hb dX4_sheet_74 (by decide +kernel) ?_
              refine lv_goto (tgt := 79) hx hb dX4_sheet_75 (by decide) ?_
              refine cl_Vi (As := [.int (nI j), .int (nI wb), .int (nI 0)]) (rest := []) (C := RX2) ⟨hx, hb, hml, hown, hts⟩ (M_X2_lay l D cI cJ sh B Z C j wb 0 (by omega)) (cwV 3 hts gX4_sheet_X2_lay rfl rfl rfl qX2_lay ⟨Nat.le_of_ble_eq_true rfl, Nat.le_of_ble_eq_true rfl⟩) E0_good hK hA hW trivial [false, true] (fun _ => [xH x la ta ka tp sh fi ik, sW cI cJ sh (up B j wb) (up Z j 0) (zrC C j 40), aI cI fi 7 F]) rfl (fun _ => rfl) (fun _ => rfl) 1 0 rfl rfl rfl rfl hl.1 rfl (lv_room (Nat.le_of_ble_eq_true rfl)) dX4_sheet_79 ⟨Nat.zero_le _, Nat.zero_le _⟩ (fun _ H locs _ hW => ?_)
              exact rt_i hQ hx hb hr hlocks hW dX4_sheet_82 () (by (try simp only [sheetV, ej, ewb, ey, Int.toNat_natCast]); (repeat' split) <;> first | rfl | (exfalso; omega)) trivial (by (try simp only [sheetB, sheetZ, sheetC, sheetF, ej, ewb, ey, Int.toNat_natCast]); (repeat' split) <;> first | rfl | (exfalso; omega))
          · refine lv_aload_n hx hb dX4_sheet_57 rfl (lv_at hl 0 rfl) ?_
            refine lv_ldc (v := -1000000001) hx hb hown (hts _ (List.mem_of_getElem? (i := 2) rfl)) dX4_sheet_58 ?_
            refine cl_Vi (As := [.int (-1000000001)]) (rest := []) (C := RX4) ⟨hx, hb, hml, hown, hts⟩ (M_X4_tell l D cI cJ x fi ik la ta ka tp sh F 0 (by decide) (-1000000001) (by decide +kernel)) (cwV 1 hts gX4_sheet_X4_tell rfl rfl rfl qX4_tell ⟨Nat.le_of_ble_eq_true rfl, Nat.le_of_ble_eq_true rfl⟩) E0_good hK hA hW trivial [true, false, true] (fun _ => [xH x la ta ka tp sh fi ik, sW cI cJ sh B Z C, aI cI fi 7 (up F 0 (F 0 + 1))]) rfl (fun _ => rfl) (fun _ => rfl) 0 0 rfl rfl rfl rfl hl.1 rfl (lv_room (Nat.le_of_ble_eq_true rfl)) dX4_sheet_60 ⟨Nat.zero_le _, Nat.zero_le _⟩ (fun _ H locs _ hW => ?_)
            exact rt_i hQ hx hb hr hlocks hW dX4_sheet_63 () (by (try simp only [sheetV]); (repeat' split) <;> first | rfl | (exfalso; omega)) trivial (by (try simp only [sheetB, sheetZ, sheetC, sheetF]); (repeat' split) <;> first | rfl | (exfalso; omega))
        · refine lv_aload_n hx hb dX4_sheet_44 rfl (lv_at hl 0 rfl) ?_
          refine lv_ldc (v := -1000000007) hx hb hown (hts _ (List.mem_of_getElem? (i := 3) rfl)) dX4_sheet_45 ?_
          refine cl_Vi (As := [.int (-1000000007)]) (rest := []) (C := RX4) ⟨hx, hb, hml, hown, hts⟩ (M_X4_tell l D cI cJ x fi ik la ta ka tp sh F 6 (by decide) (-1000000007) (by decide +kernel)) (cwV 1 hts gX4_sheet_X4_tell rfl rfl rfl qX4_tell ⟨Nat.le_of_ble_eq_true rfl, Nat.le_of_ble_eq_true rfl⟩) E0_good hK hA hW trivial [true, false, true] (fun _ => [xH x la ta ka tp sh fi ik, sW cI cJ sh B Z C, aI cI fi 7 (up F 6 (F 6 + 1))]) rfl (fun _ => rfl) (fun _ => rfl) 0 0 rfl rfl rfl rfl hl.1 rfl (lv_room (Nat.le_of_ble_eq_true rfl)) dX4_sheet_47 ⟨Nat.zero_le _, Nat.zero_le _⟩ (fun _ H locs _ hW => ?_)
          exact rt_i hQ hx hb hr hlocks hW dX4_sheet_50 () (by (try simp only [sheetV]); (repeat' split) <;> first | rfl | (exfalso; omega)) trivial (by (try simp only [sheetB, sheetZ, sheetC, sheetF]); (repeat' split) <;> first | rfl | (exfalso; omega))
      · refine lv_iload_n hx hb dX4_sheet_21 rfl (lv_at hl 2 rfl) ?_
        refine lv_bipush (v := nI 16) hx hb dX4_sheet_22 (by decide +kernel) ?_
        refine zz_ceq (tgt := 40) hx hb dX4_sheet_24 (by decide) (rfl : w.toInt = w.toInt) (nI_toInt (n := 16) (by decide)) (fun c24 => ?_) (fun c24 => ?_)
        · refine lv_iload_n hx hb dX4_sheet_40 rfl (lv_at hl 3 rfl) ?_
          refine zz_zge (tgt := 51) hx hb dX4_sheet_41 (by decide) (rfl : z.toInt = z.toInt) (fun c41_2 => ?_) (fun c41_2 => ?_)
          · refine lv_iload_n hx hb dX4_sheet_51 rfl (lv_at hl 3 rfl) ?_
            refine lv_bipush (v := nI 40) hx hb dX4_sheet_52 (by decide +kernel) ?_
            refine zz_cle (tgt := 64) hx hb dX4_sheet_54 (by decide) (rfl : z.toInt = z.toInt) (nI_toInt (n := 40) (by decide)) (fun c54_2 => ?_) (fun c54_2 => ?_)
            · obtain ⟨j, hj, ej⟩ : ∃ j : Nat, v = nI j ∧ v.toInt = (j : Int) := ⟨v.toInt.toNat, nI_ofZ rfl (by omega), by omega⟩
              rw [hj] at hl
              obtain ⟨wb, hwb, ewb⟩ : ∃ wb : Nat, w = nI wb ∧ w.toInt = (wb : Int) := ⟨w.toInt.toNat, nI_ofZ rfl (by omega), by omega⟩
              rw [hwb] at hl
              obtain ⟨y, hy, ey⟩ : ∃ y : Nat, z = nI y ∧ z.toInt = (y : Int) := ⟨z.toInt.toNat, nI_ofZ rfl (by omega), by omega⟩
              rw [hy] at hl
              refine lv_aload_n hx hb dX4_sheet_64 rfl (lv_at hl 0 rfl) ?_
              refine sg_get (ci := 3) (C := RX4) (T := TX4) (N := 7) (v := .ref (sh 0)) hx hb hts (fun _ h => List.mem_cons_of_mem _ (List.mem_append_left _ (List.mem_append_right _ h))) hown hK hW 0 0 rfl rfl rfl 5 (by decide) (hts _ (List.mem_of_getElem? (i := 1) rfl)) rfl dX4_sheet_65 ?_
              refine lv_iload_n hx hb dX4_sheet_68 rfl (lv_at hl 1 rfl) ?_
              refine lv_iload_n hx hb dX4_sheet_69 rfl (lv_at hl 2 rfl) ?_
              refine lv_iload_n hx hb dX4_sheet_70 rfl (lv_at hl 2 rfl) ?_
              refine nn_zne (tgt := 78) hx hb dX4_sheet_71 (by decide) (by omega) (fun c71_2 => ?_) (fun c71_2 => ?_)
              · refine lv_iload_n hx hb dX4_sheet_78 rfl (lv_at hl 3 rfl) ?_
                refine cl_Vi (As := [.int (nI j), .int (nI wb), .int (nI y)]) (rest := []) (C := RX2) ⟨hx, hb, hml, hown, hts⟩ (M_X2_lay l D cI cJ sh B Z C j wb y (by omega)) (cwV 3 hts gX4_sheet_X2_lay rfl rfl rfl qX2_lay ⟨Nat.le_of_ble_eq_true rfl, Nat.le_of_ble_eq_true rfl⟩) E0_good hK hA hW trivial [false, true] (fun _ => [xH x la ta ka tp sh fi ik, sW cI cJ sh (up B j wb) (up Z j y) (zrC C j 40), aI cI fi 7 F]) rfl (fun _ => rfl) (fun _ => rfl) 1 0 rfl rfl rfl rfl hl.1 rfl (lv_room (Nat.le_of_ble_eq_true rfl)) dX4_sheet_79 ⟨Nat.zero_le _, Nat.zero_le _⟩ (fun _ H locs _ hW => ?_)
                exact rt_i hQ hx hb hr hlocks hW dX4_sheet_82 () (by (try simp only [sheetV, ej, ewb, ey, Int.toNat_natCast]); (repeat' split) <;> first | rfl | (exfalso; omega)) trivial (by (try simp only [sheetB, sheetZ, sheetC, sheetF, ej, ewb, ey, Int.toNat_natCast]); (repeat' split) <;> first | rfl | (exfalso; omega))
              · refine lv_iconst (v := nI 0) hx hb dX4_sheet_74 (by decide +kernel) ?_
                refine lv_goto (tgt := 79) hx hb dX4_sheet_75 (by decide) ?_
                refine cl_Vi (As := [.int (nI j), .int (nI wb), .int (nI 0)]) (rest := []) (C := RX2) ⟨hx, hb, hml, hown, hts⟩ (M_X2_lay l D cI cJ sh B Z C j wb 0 (by omega)) (cwV 3 hts gX4_sheet_X2_lay rfl rfl rfl qX2_lay ⟨Nat.le_of_ble_eq_true rfl, Nat.le_of_ble_eq_true rfl⟩) E0_good hK hA hW trivial [false, true] (fun _ => [xH x la ta ka tp sh fi ik, sW cI cJ sh (up B j wb) (up Z j 0) (zrC C j 40), aI cI fi 7 F]) rfl (fun _ => rfl) (fun _ => rfl) 1 0 rfl rfl rfl rfl hl.1 rfl (lv_room (Nat.le_of_ble_eq_true rfl)) dX4_sheet_79 ⟨Nat.zero_le _, Nat.zero_le _⟩ (fun _ H locs _ hW => ?_)
                exact rt_i hQ hx hb hr hlocks hW dX4_sheet_82 () (by (try simp only [sheetV, ej, ewb, ey, Int.toNat_natCast]); (repeat' split) <;> first | rfl | (exfalso; omega)) trivial (by (try simp only [sheetB, sheetZ, sheetC, sheetF, ej, ewb, ey, Int.toNat_natCast]); (repeat' split) <;> first | rfl | (exfalso; omega))
            · refine lv_aload_n hx hb dX4_sheet_57 rfl (lv_at hl 0 rfl) ?_
              refine lv_ldc (v := -1000000001) hx hb hown (hts _ (List.mem_of_getElem? (i := 2) rfl)) dX4_sheet_58 ?_
              refine cl_Vi (As := [.int (-1000000001)]) (rest := []) (C := RX4) ⟨hx, hb, hml, hown, hts⟩ (M_X4_tell l D cI cJ x fi ik la ta ka tp sh F 0 (by decide) (-1000000001) (by decide +kernel)) (cwV 1 hts gX4_sheet_X4_tell rfl rfl rfl qX4_tell ⟨Nat.le_of_ble_eq_true rfl, Nat.le_of_ble_eq_true rfl⟩) E0_good hK hA hW trivial [true, false, true] (fun _ => [xH x la ta ka tp sh fi ik, sW cI cJ sh B Z C, aI cI fi 7 (up F 0 (F 0 + 1))]) rfl (fun _ => rfl) (fun _ => rfl) 0 0 rfl rfl rfl rfl hl.1 rfl (lv_room (Nat.le_of_ble_eq_true rfl)) dX4_sheet_60 ⟨Nat.zero_le _, Nat.zero_le _⟩ (fun _ H locs _ hW => ?_)
              exact rt_i hQ hx hb hr hlocks hW dX4_sheet_63 () (by (try simp only [sheetV]); (repeat' split) <;> first | rfl | (exfalso; omega)) trivial (by (try simp only [sheetB, sheetZ, sheetC, sheetF]); (repeat' split) <;> first | rfl | (exfalso; omega))
          · refine lv_aload_n hx hb dX4_sheet_44 rfl (lv_at hl 0 rfl) ?_
            refine lv_ldc (v := -1000000007) hx hb hown (hts _ (List.mem_of_getElem? (i := 3) rfl)) dX4_sheet_45 ?_
            refine cl_Vi (As := [.int (-1000000007)]) (rest := []) (C := RX4) ⟨hx, hb, hml, hown, hts⟩ (M_X4_tell l D cI cJ x fi ik la ta ka tp sh F 6 (by decide) (-1000000007) (by decide +kernel)) (cwV 1 hts gX4_sheet_X4_tell rfl rfl rfl qX4_tell ⟨Nat.le_of_ble_eq_true rfl, Nat.le_of_ble_eq_true rfl⟩) E0_good hK hA hW trivial [true, false, true] (fun _ => [xH x la ta ka tp sh fi ik, sW cI cJ sh B Z C, aI cI fi 7 (up F 6 (F 6 + 1))]) rfl (fun _ => rfl) (fun _ => rfl) 0 0 rfl rfl rfl rfl hl.1 rfl (lv_room (Nat.le_of_ble_eq_true rfl)) dX4_sheet_47 ⟨Nat.zero_le _, Nat.zero_le _⟩ (fun _ H locs _ hW => ?_)
            exact rt_i hQ hx hb hr hlocks hW dX4_sheet_50 () (by (try simp only [sheetV]); (repeat' split) <;> first | rfl | (exfalso; omega)) trivial (by (try simp only [sheetB, sheetZ, sheetC, sheetF]); (repeat' split) <;> first | rfl | (exfalso; omega))
        · refine lv_iload_n hx hb dX4_sheet_27 rfl (lv_at hl 2 rfl) ?_
          refine lv_bipush (v := nI 64) hx hb dX4_sheet_28 (by decide +kernel) ?_
          refine zz_ceq (tgt := 40) hx hb dX4_sheet_30 (by decide) (rfl : w.toInt = w.toInt) (nI_toInt (n := 64) (by decide)) (fun c30 => ?_) (fun c30 => ?_)
          · refine lv_iload_n hx hb dX4_sheet_40 rfl (lv_at hl 3 rfl) ?_
            refine zz_zge (tgt := 51) hx hb dX4_sheet_41 (by decide) (rfl : z.toInt = z.toInt) (fun c41_3 => ?_) (fun c41_3 => ?_)
            · refine lv_iload_n hx hb dX4_sheet_51 rfl (lv_at hl 3 rfl) ?_
              refine lv_bipush (v := nI 40) hx hb dX4_sheet_52 (by decide +kernel) ?_
              refine zz_cle (tgt := 64) hx hb dX4_sheet_54 (by decide) (rfl : z.toInt = z.toInt) (nI_toInt (n := 40) (by decide)) (fun c54_3 => ?_) (fun c54_3 => ?_)
              · obtain ⟨j, hj, ej⟩ : ∃ j : Nat, v = nI j ∧ v.toInt = (j : Int) := ⟨v.toInt.toNat, nI_ofZ rfl (by omega), by omega⟩
                rw [hj] at hl
                obtain ⟨wb, hwb, ewb⟩ : ∃ wb : Nat, w = nI wb ∧ w.toInt = (wb : Int) := ⟨w.toInt.toNat, nI_ofZ rfl (by omega), by omega⟩
                rw [hwb] at hl
                obtain ⟨y, hy, ey⟩ : ∃ y : Nat, z = nI y ∧ z.toInt = (y : Int) := ⟨z.toInt.toNat, nI_ofZ rfl (by omega), by omega⟩
                rw [hy] at hl
                refine lv_aload_n hx hb dX4_sheet_64 rfl (lv_at hl 0 rfl) ?_
                refine sg_get (ci := 3) (C := RX4) (T := TX4) (N := 7) (v := .ref (sh 0)) hx hb hts (fun _ h => List.mem_cons_of_mem _ (List.mem_append_left _ (List.mem_append_right _ h))) hown hK hW 0 0 rfl rfl rfl 5 (by decide) (hts _ (List.mem_of_getElem? (i := 1) rfl)) rfl dX4_sheet_65 ?_
                refine lv_iload_n hx hb dX4_sheet_68 rfl (lv_at hl 1 rfl) ?_
                refine lv_iload_n hx hb dX4_sheet_69 rfl (lv_at hl 2 rfl) ?_
                refine lv_iload_n hx hb dX4_sheet_70 rfl (lv_at hl 2 rfl) ?_
                refine nn_zne (tgt := 78) hx hb dX4_sheet_71 (by decide) (by omega) (fun c71_3 => ?_) (fun c71_3 => ?_)
                · refine lv_iload_n hx hb dX4_sheet_78 rfl (lv_at hl 3 rfl) ?_
                  refine cl_Vi (As := [.int (nI j), .int (nI wb), .int (nI y)]) (rest := []) (C := RX2) ⟨hx, hb, hml, hown, hts⟩ (M_X2_lay l D cI cJ sh B Z C j wb y (by omega)) (cwV 3 hts gX4_sheet_X2_lay rfl rfl rfl qX2_lay ⟨Nat.le_of_ble_eq_true rfl, Nat.le_of_ble_eq_true rfl⟩) E0_good hK hA hW trivial [false, true] (fun _ => [xH x la ta ka tp sh fi ik, sW cI cJ sh (up B j wb) (up Z j y) (zrC C j 40), aI cI fi 7 F]) rfl (fun _ => rfl) (fun _ => rfl) 1 0 rfl rfl rfl rfl hl.1 rfl (lv_room (Nat.le_of_ble_eq_true rfl)) dX4_sheet_79 ⟨Nat.zero_le _, Nat.zero_le _⟩ (fun _ H locs _ hW => ?_)
                  exact rt_i hQ hx hb hr hlocks hW dX4_sheet_82 () (by (try simp only [sheetV, ej, ewb, ey, Int.toNat_natCast]); (repeat' split) <;> first | rfl | (exfalso; omega)) trivial (by (try simp only [sheetB, sheetZ, sheetC, sheetF, ej, ewb, ey, Int.toNat_natCast]); (repeat' split) <;> first | rfl | (exfalso; omega))
                · refine lv_iconst (v := nI 0) hx hb dX4_sheet_74 (by decide +kernel) ?_
                  refine lv_goto (tgt := 79) hx hb dX4_sheet_75 (by decide) ?_
                  refine cl_Vi (As := [.int (nI j), .int (nI wb), .int (nI 0)]) (rest := []) (C := RX2) ⟨hx, hb, hml, hown, hts⟩ (M_X2_lay l D cI cJ sh B Z C j wb 0 (by omega)) (cwV 3 hts gX4_sheet_X2_lay rfl rfl rfl qX2_lay ⟨Nat.le_of_ble_eq_true rfl, Nat.le_of_ble_eq_true rfl⟩) E0_good hK hA hW trivial [false, true] (fun _ => [xH x la ta ka tp sh fi ik, sW cI cJ sh (up B j wb) (up Z j 0) (zrC C j 40), aI cI fi 7 F]) rfl (fun _ => rfl) (fun _ => rfl) 1 0 rfl rfl rfl rfl hl.1 rfl (lv_room (Nat.le_of_ble_eq_true rfl)) dX4_sheet_79 ⟨Nat.zero_le _, Nat.zero_le _⟩ (fun _ H locs _ hW => ?_)
                  exact rt_i hQ hx hb hr hlocks hW dX4_sheet_82 () (by (try simp only [sheetV, ej, ewb, ey, Int.toNat_natCast]); (repeat' split) <;> first | rfl | (exfalso; omega)) trivial (by (try simp only [sheetB, sheetZ, sheetC, sheetF, ej, ewb, ey, Int.toNat_natCast]); (repeat' split) <;> first | rfl | (exfalso; omega))
              · refine lv_aload_n hx hb dX4_sheet_57 rfl (lv_at hl 0 rfl) ?_
                refine lv_ldc (v := -1000000001) hx hb hown (hts _ (List.mem_of_getElem? (i := 2) rfl)) dX4_sheet_58 ?_
                refine cl_Vi (As := [.int (-1000000001)]) (rest := []) (C := RX4) ⟨hx, hb, hml, hown, hts⟩ (M_X4_tell l D cI cJ x fi ik la ta ka tp sh F 0 (by decide) (-1000000001) (by decide +kernel)) (cwV 1 hts gX4_sheet_X4_tell rfl rfl rfl qX4_tell ⟨Nat.le_of_ble_eq_true rfl, Nat.le_of_ble_eq_true rfl⟩) E0_good hK hA hW trivial [true, false, true] (fun _ => [xH x la ta ka tp sh fi ik, sW cI cJ sh B Z C, aI cI fi 7 (up F 0 (F 0 + 1))]) rfl (fun _ => rfl) (fun _ => rfl) 0 0 rfl rfl rfl rfl hl.1 rfl (lv_room (Nat.le_of_ble_eq_true rfl)) dX4_sheet_60 ⟨Nat.zero_le _, Nat.zero_le _⟩ (fun _ H locs _ hW => ?_)
                exact rt_i hQ hx hb hr hlocks hW dX4_sheet_63 () (by (try simp only [sheetV]); (repeat' split) <;> first | rfl | (exfalso; omega)) trivial (by (try simp only [sheetB, sheetZ, sheetC, sheetF]); (repeat' split) <;> first | rfl | (exfalso; omega))
            · refine lv_aload_n hx hb dX4_sheet_44 rfl (lv_at hl 0 rfl) ?_
              refine lv_ldc (v := -1000000007) hx hb hown (hts _ (List.mem_of_getElem? (i := 3) rfl)) dX4_sheet_45 ?_
              refine cl_Vi (As := [.int (-1000000007)]) (rest := []) (C := RX4) ⟨hx, hb, hml, hown, hts⟩ (M_X4_tell l D cI cJ x fi ik la ta ka tp sh F 6 (by decide) (-1000000007) (by decide +kernel)) (cwV 1 hts gX4_sheet_X4_tell rfl rfl rfl qX4_tell ⟨Nat.le_of_ble_eq_true rfl, Nat.le_of_ble_eq_true rfl⟩) E0_good hK hA hW trivial [true, false, true] (fun _ => [xH x la ta ka tp sh fi ik, sW cI cJ sh B Z C, aI cI fi 7 (up F 6 (F 6 + 1))]) rfl (fun _ => rfl) (fun _ => rfl) 0 0 rfl rfl rfl rfl hl.1 rfl (lv_room (Nat.le_of_ble_eq_true rfl)) dX4_sheet_47 ⟨Nat.zero_le _, Nat.zero_le _⟩ (fun _ H locs _ hW => ?_)
              exact rt_i hQ hx hb hr hlocks hW dX4_sheet_50 () (by (try simp only [sheetV]); (repeat' split) <;> first | rfl | (exfalso; omega)) trivial (by (try simp only [sheetB, sheetZ, sheetC, sheetF]); (repeat' split) <;> first | rfl | (exfalso; omega))
          · refine lv_aload_n hx hb dX4_sheet_33 rfl (lv_at hl 0 rfl) ?_
            refine lv_ldc (v := -1000000001) hx hb hown (hts _ (List.mem_of_getElem? (i := 2) rfl)) dX4_sheet_34 ?_
            refine cl_Vi (As := [.int (-1000000001)]) (rest := []) (C := RX4) ⟨hx, hb, hml, hown, hts⟩ (M_X4_tell l D cI cJ x fi ik la ta ka tp sh F 0 (by decide) (-1000000001) (by decide +kernel)) (cwV 1 hts gX4_sheet_X4_tell rfl rfl rfl qX4_tell ⟨Nat.le_of_ble_eq_true rfl, Nat.le_of_ble_eq_true rfl⟩) E0_good hK hA hW trivial [true, false, true] (fun _ => [xH x la ta ka tp sh fi ik, sW cI cJ sh B Z C, aI cI fi 7 (up F 0 (F 0 + 1))]) rfl (fun _ => rfl) (fun _ => rfl) 0 0 rfl rfl rfl rfl hl.1 rfl (lv_room (Nat.le_of_ble_eq_true rfl)) dX4_sheet_36 ⟨Nat.zero_le _, Nat.zero_le _⟩ (fun _ H locs _ hW => ?_)
            exact rt_i hQ hx hb hr hlocks hW dX4_sheet_39 () (by (try simp only [sheetV]); (repeat' split) <;> first | rfl | (exfalso; omega)) trivial (by (try simp only [sheetB, sheetZ, sheetC, sheetF]); (repeat' split) <;> first | rfl | (exfalso; omega))
abbrev rmX4_write : Room := { frames := 1, cells := 0, slots := 0, locals := 26 }
set_option maxRecDepth 100000 in
set_option maxHeartbeats 4000000 in
theorem M_X4_write (l : Launch) (D : va_G) (cI cJ : ClassId) (x fi ik : Nat) (la ta ka tp sh B Z F : Nat → Nat) (C : Nat → Int64) (hS : OkS B Z) (v z : Int32) (lv : Int64) : CE E0 l D vwCl [(cI, .int), (cJ, .long)] yX4_write wsX4_write rmX4_write [.ref x, .int v, .int z, .long lv] [xH x la ta ka tp sh fi ik, sW cI cJ sh B Z C, aI cI fi 7 F] (S := Unit) (some (.long (writeV B Z C v.toInt z.toInt))) (fun _ => True) (fun _ : Unit => [xH x la ta ka tp sh fi ik, sW cI cJ sh B Z (writeC B Z C v.toInt z.toInt lv), aI cI fi 7 (writeF B Z F v.toInt z.toInt)]) 0 0 := by
  refine CE.ofW (cc := cX4_write) (maxL := 7) (ret := (some .long)) (lv := [(0, .ref x), (1, .int v), (2, .int z), (3, .long lv)]) (by decide) rfl (Nat.le_of_ble_eq_true rfl) rfl ?_
  intro p e s m args below meth c ls A Q hQ hx hb hml hr hlocks hnm hown hts hK hA hE hW hl
  have hown : s.vm.findClass RX4 = some m.cls := hown
  refine lv_aload_n hx hb dX4_write_0 rfl (lv_at hl 0 rfl) ?_
  refine sg_get (ci := 3) (C := RX4) (T := TX4) (N := 7) (v := .ref (sh 0)) hx hb hts (fun _ h => List.mem_cons_of_mem _ (List.mem_append_left _ (List.mem_append_right _ h))) hown hK hW 0 0 rfl rfl rfl 5 (by decide) (hts _ (List.mem_of_getElem? (i := 1) rfl)) rfl dX4_write_1 ?_
  refine lv_iload_n hx hb dX4_write_4 rfl (lv_at hl 1 rfl) ?_
  refine cl_Vi (As := [.int v]) (rest := []) (C := RX2) ⟨hx, hb, hml, hown, hts⟩ (M_X2_isSheet l D cI cJ sh B Z C v) (cwV 1 hts gX4_write_X2_isSheet rfl rfl rfl qX2_isSheet ⟨Nat.le_of_ble_eq_true rfl, Nat.le_of_ble_eq_true rfl⟩) E0_good hK hA hW trivial [false, true] (fun _ => [xH x la ta ka tp sh fi ik, sW cI cJ sh B Z C, aI cI fi 7 F]) rfl (fun _ => rfl) (fun _ => rfl) 1 0 rfl rfl rfl rfl hl.1 rfl (lv_room (Nat.le_of_ble_eq_true rfl)) dX4_write_5 ⟨Nat.zero_le _, Nat.zero_le _⟩ (fun _ H locs _ hW => ?_)
  have him_ := inN_or v 4
  refine nn_zne (tgt := 19) hx hb dX4_write_8 (by decide) (by omega) (fun c8 => ?_) (fun c8 => ?_)
  · obtain ⟨j, hj, ej⟩ : ∃ j : Nat, v = nI j ∧ v.toInt = (j : Int) := ⟨v.toInt.toNat, nI_ofZ rfl (by omega), by omega⟩
    rw [hj] at hl
    have hSj := hS j (by omega)
    refine lv_aload_n hx hb dX4_write_19 rfl (lv_at hl 0 rfl) ?_
    refine sg_get (ci := 3) (C := RX4) (T := TX4) (N := 7) (v := .ref (sh 0)) hx hb hts (fun _ h => List.mem_cons_of_mem _ (List.mem_append_left _ (List.mem_append_right _ h))) hown hK hW 0 0 rfl rfl rfl 5 (by decide) (hts _ (List.mem_of_getElem? (i := 1) rfl)) rfl dX4_write_20 ?_
    refine lv_iload_n hx hb dX4_write_23 rfl (lv_at hl 1 rfl) ?_
    refine cl_Vi (As := [.int (nI j)]) (rest := []) (C := RX2) ⟨hx, hb, hml, hown, hts⟩ (M_X2_isMissing l D cI cJ sh B Z C hS j (by omega)) (cwV 1 hts gX4_write_X2_isMissing rfl rfl rfl qX2_isMissing ⟨Nat.le_of_ble_eq_true rfl, Nat.le_of_ble_eq_true rfl⟩) E0_good hK hA hW trivial [false, true] (fun _ => [xH x la ta ka tp sh fi ik, sW cI cJ sh B Z C, aI cI fi 7 F]) rfl (fun _ => rfl) (fun _ => rfl) 1 0 rfl rfl rfl rfl hl.1 rfl (lv_room (Nat.le_of_ble_eq_true rfl)) dX4_write_24 ⟨Nat.zero_le _, Nat.zero_le _⟩ (fun _ H locs _ hW => ?_)
    have hms_ : ((if B j = 0 then 1 else 0) = 1 ∧ B j = 0) ∨ ((if B j = 0 then 1 else 0) = 0 ∧ ¬ B j = 0) := ite01 _
    refine nn_zeq (tgt := 38) hx hb dX4_write_27 (by decide) (by omega) (fun c27 => ?_) (fun c27 => ?_)
    · refine lv_iload_n hx hb dX4_write_38 rfl (lv_at hl 2 rfl) ?_
      refine zz_zlt (tgt := 55) hx hb dX4_write_39 (by decide) (rfl : z.toInt = z.toInt) (fun c39 => ?_) (fun c39 => ?_)
      · refine lv_aload_n hx hb dX4_write_55 rfl (lv_at hl 0 rfl) ?_
        refine lv_ldc (v := -1000000001) hx hb hown (hts _ (List.mem_of_getElem? (i := 2) rfl)) dX4_write_56 ?_
        refine cl_Vi (As := [.int (-1000000001)]) (rest := []) (C := RX4) ⟨hx, hb, hml, hown, hts⟩ (M_X4_tell l D cI cJ x fi ik la ta ka tp sh F 0 (by decide) (-1000000001) (by decide +kernel)) (cwV 1 hts gX4_write_X4_tell rfl rfl rfl qX4_tell ⟨Nat.le_of_ble_eq_true rfl, Nat.le_of_ble_eq_true rfl⟩) E0_good hK hA hW trivial [true, false, true] (fun _ => [xH x la ta ka tp sh fi ik, sW cI cJ sh B Z C, aI cI fi 7 (up F 0 (F 0 + 1))]) rfl (fun _ => rfl) (fun _ => rfl) 0 0 rfl rfl rfl rfl hl.1 rfl (lv_room (Nat.le_of_ble_eq_true rfl)) dX4_write_58 ⟨Nat.zero_le _, Nat.zero_le _⟩ (fun _ H locs _ hW => ?_)
        refine lv_i2l (v := ((-1000000001)).toInt64) hx hb dX4_write_61 rfl ?_
        exact rt_l hQ hx hb hr hlocks hW dX4_write_62 () (by (try simp only [writeV, i64_1, i64_6, ej, Int.toNat_natCast]); (repeat' split) <;> first | rfl | (exfalso; omega)) trivial (by (try simp only [writeF, writeC, ej, Int.toNat_natCast]); (repeat' split) <;> first | rfl | (exfalso; omega))
      · refine lv_iload_n hx hb dX4_write_42 rfl (lv_at hl 2 rfl) ?_
        refine lv_aload_n hx hb dX4_write_43 rfl (lv_at hl 0 rfl) ?_
        refine sg_get (ci := 3) (C := RX4) (T := TX4) (N := 7) (v := .ref (sh 0)) hx hb hts (fun _ h => List.mem_cons_of_mem _ (List.mem_append_left _ (List.mem_append_right _ h))) hown hK hW 0 0 rfl rfl rfl 5 (by decide) (hts _ (List.mem_of_getElem? (i := 1) rfl)) rfl dX4_write_44 ?_
        refine sg_get (ci := 1) (C := RX2) (T := TX2) (N := 3) (v := .ref (sh 2)) hx hb hts (fun _ h => List.mem_cons_of_mem _ (List.mem_append_right _ h)) hown hK hW 1 0 rfl rfl rfl 1 (by decide) (hts _ (List.mem_of_getElem? (i := 4) rfl)) rfl dX4_write_47 ?_
        refine lv_iload_n hx hb dX4_write_50 rfl (lv_at hl 1 rfl) ?_
        refine sg_ild (v := nI (Z j)) hx hb hK hW 1 2 0 rfl rfl rfl (by omega) (by decide) rfl dX4_write_51 ?_
        refine zz_clt (tgt := 63) hx hb dX4_write_52 (by decide) (rfl : z.toInt = z.toInt) (nI_toInt (n := Z j) (by omega)) (fun c52 => ?_) (fun c52 => ?_)
        · obtain ⟨y, hy, ey⟩ : ∃ y : Nat, z = nI y ∧ z.toInt = (y : Int) := ⟨z.toInt.toNat, nI_ofZ rfl (by omega), by omega⟩
          rw [hy] at hl
          refine lv_aload_n hx hb dX4_write_63 rfl (lv_at hl 0 rfl) ?_
          refine sg_get (ci := 3) (C := RX4) (T := TX4) (N := 7) (v := .ref (sh 0)) hx hb hts (fun _ h => List.mem_cons_of_mem _ (List.mem_append_left _ (List.mem_append_right _ h))) hown hK hW 0 0 rfl rfl rfl 5 (by decide) (hts _ (List.mem_of_getElem? (i := 1) rfl)) rfl dX4_write_64 ?_
          refine lv_iload_n hx hb dX4_write_67 rfl (lv_at hl 1 rfl) ?_
          refine lv_iload_n hx hb dX4_write_68 rfl (lv_at hl 2 rfl) ?_
          refine cl_Vl (As := [.int (nI j), .int (nI y)]) (rest := []) (C := RX2) ⟨hx, hb, hml, hown, hts⟩ (M_X2_numberAt l D cI cJ sh B Z C j y (by omega) (by omega)) (cwV 2 hts gX4_write_X2_numberAt rfl rfl rfl qX2_numberAt ⟨Nat.le_of_ble_eq_true rfl, Nat.le_of_ble_eq_true rfl⟩) E0_good hK hA hW trivial [false, true] (fun _ => [xH x la ta ka tp sh fi ik, sW cI cJ sh B Z C, aI cI fi 7 F]) rfl (fun _ => rfl) (fun _ => rfl) 1 0 rfl rfl rfl rfl hl.1 rfl (lv_room (Nat.le_of_ble_eq_true rfl)) dX4_write_69 ⟨Nat.zero_le _, Nat.zero_le _⟩ (fun _ H locs _ hW => ?_)
          refine lv_lstore (lv' := [(5, .long (C (j * 40 + y))), (0, .ref x), (1, .int (nI j)), (2, .int (nI y)), (3, .long lv)]) hx hb dX4_write_72 hl (by decide) rfl (fun ls hl => ?_)
          refine lv_aload_n hx hb dX4_write_74 rfl (lv_at hl 1 rfl) ?_
          refine sg_get (ci := 3) (C := RX4) (T := TX4) (N := 7) (v := .ref (sh 0)) hx hb hts (fun _ h => List.mem_cons_of_mem _ (List.mem_append_left _ (List.mem_append_right _ h))) hown hK hW 0 0 rfl rfl rfl 5 (by decide) (hts _ (List.mem_of_getElem? (i := 1) rfl)) rfl dX4_write_75 ?_
          refine lv_iload_n hx hb dX4_write_78 rfl (lv_at hl 2 rfl) ?_
          refine lv_iload_n hx hb dX4_write_79 rfl (lv_at hl 3 rfl) ?_
          refine lv_lload_n hx hb dX4_write_80 rfl (lv_at hl 4 rfl) ?_
          refine cl_Vv (As := [.int (nI j), .int (nI y), .long lv]) (rest := []) (C := RX2) ⟨hx, hb, hml, hown, hts⟩ (M_X2_put l D cI cJ sh B Z C hS j y lv (by omega) (by omega)) (cwV 3 hts gX4_write_X2_put rfl rfl rfl qX2_put ⟨Nat.le_of_ble_eq_true rfl, Nat.le_of_ble_eq_true rfl⟩) E0_good hK hA hW trivial [false, true] (fun _ => [xH x la ta ka tp sh fi ik, sW cI cJ sh B Z (vp_updL C (j * 40 + y) (cutV (B j) lv)), aI cI fi 7 F]) rfl (fun _ => rfl) (fun _ => rfl) 1 0 rfl rfl rfl rfl hl.1 rfl (lv_room (Nat.le_of_ble_eq_true rfl)) dX4_write_81 ⟨Nat.zero_le _, Nat.zero_le _⟩ (fun _ H locs _ hW => ?_)
          refine lv_lload hx hb dX4_write_84 (lv_at hl 0 rfl) ?_
          exact rt_l hQ hx hb hr hlocks hW dX4_write_86 () (by (try simp only [writeV, i64_1, i64_6, ej, ey, Int.toNat_natCast]); (repeat' split) <;> first | rfl | (exfalso; omega)) trivial (by (try simp only [writeF, writeC, ej, ey, Int.toNat_natCast]); (repeat' split) <;> first | rfl | (exfalso; omega))
        · refine lv_aload_n hx hb dX4_write_55 rfl (lv_at hl 0 rfl) ?_
          refine lv_ldc (v := -1000000001) hx hb hown (hts _ (List.mem_of_getElem? (i := 2) rfl)) dX4_write_56 ?_
          refine cl_Vi (As := [.int (-1000000001)]) (rest := []) (C := RX4) ⟨hx, hb, hml, hown, hts⟩ (M_X4_tell l D cI cJ x fi ik la ta ka tp sh F 0 (by decide) (-1000000001) (by decide +kernel)) (cwV 1 hts gX4_write_X4_tell rfl rfl rfl qX4_tell ⟨Nat.le_of_ble_eq_true rfl, Nat.le_of_ble_eq_true rfl⟩) E0_good hK hA hW trivial [true, false, true] (fun _ => [xH x la ta ka tp sh fi ik, sW cI cJ sh B Z C, aI cI fi 7 (up F 0 (F 0 + 1))]) rfl (fun _ => rfl) (fun _ => rfl) 0 0 rfl rfl rfl rfl hl.1 rfl (lv_room (Nat.le_of_ble_eq_true rfl)) dX4_write_58 ⟨Nat.zero_le _, Nat.zero_le _⟩ (fun _ H locs _ hW => ?_)
          refine lv_i2l (v := ((-1000000001)).toInt64) hx hb dX4_write_61 rfl ?_
          exact rt_l hQ hx hb hr hlocks hW dX4_write_62 () (by (try simp only [writeV, i64_1, i64_6, ej, Int.toNat_natCast]); (repeat' split) <;> first | rfl | (exfalso; omega)) trivial (by (try simp only [writeF, writeC, ej, Int.toNat_natCast]); (repeat' split) <;> first | rfl | (exfalso; omega))
    · refine lv_aload_n hx hb dX4_write_30 rfl (lv_at hl 0 rfl) ?_
      refine lv_ldc (v := -1000000006) hx hb hown (hts _ (List.mem_of_getElem? (i := 3) rfl)) dX4_write_31 ?_
      refine cl_Vi (As := [.int (-1000000006)]) (rest := []) (C := RX4) ⟨hx, hb, hml, hown, hts⟩ (M_X4_tell l D cI cJ x fi ik la ta ka tp sh F 5 (by decide) (-1000000006) (by decide +kernel)) (cwV 1 hts gX4_write_X4_tell rfl rfl rfl qX4_tell ⟨Nat.le_of_ble_eq_true rfl, Nat.le_of_ble_eq_true rfl⟩) E0_good hK hA hW trivial [true, false, true] (fun _ => [xH x la ta ka tp sh fi ik, sW cI cJ sh B Z C, aI cI fi 7 (up F 5 (F 5 + 1))]) rfl (fun _ => rfl) (fun _ => rfl) 0 0 rfl rfl rfl rfl hl.1 rfl (lv_room (Nat.le_of_ble_eq_true rfl)) dX4_write_33 ⟨Nat.zero_le _, Nat.zero_le _⟩ (fun _ H locs _ hW => ?_)
      refine lv_i2l (v := ((-1000000006)).toInt64) hx hb dX4_write_36 rfl ?_
      exact rt_l hQ hx hb hr hlocks hW dX4_write_37 () (by (try simp only [writeV, i64_1, i64_6, ej, Int.toNat_natCast]); (repeat' split) <;> first | rfl | (exfalso; omega)) trivial (by (try simp only [writeF, writeC, ej, Int.toNat_natCast]); (repeat' split) <;> first | rfl | (exfalso; omega))
  · refine lv_aload_n hx hb dX4_write_11 rfl (lv_at hl 0 rfl) ?_
    refine lv_ldc (v := -1000000001) hx hb hown (hts _ (List.mem_of_getElem? (i := 2) rfl)) dX4_write_12 ?_
    refine cl_Vi (As := [.int (-1000000001)]) (rest := []) (C := RX4) ⟨hx, hb, hml, hown, hts⟩ (M_X4_tell l D cI cJ x fi ik la ta ka tp sh F 0 (by decide) (-1000000001) (by decide +kernel)) (cwV 1 hts gX4_write_X4_tell rfl rfl rfl qX4_tell ⟨Nat.le_of_ble_eq_true rfl, Nat.le_of_ble_eq_true rfl⟩) E0_good hK hA hW trivial [true, false, true] (fun _ => [xH x la ta ka tp sh fi ik, sW cI cJ sh B Z C, aI cI fi 7 (up F 0 (F 0 + 1))]) rfl (fun _ => rfl) (fun _ => rfl) 0 0 rfl rfl rfl rfl hl.1 rfl (lv_room (Nat.le_of_ble_eq_true rfl)) dX4_write_14 ⟨Nat.zero_le _, Nat.zero_le _⟩ (fun _ H locs _ hW => ?_)
    refine lv_i2l (v := ((-1000000001)).toInt64) hx hb dX4_write_17 rfl ?_
    exact rt_l hQ hx hb hr hlocks hW dX4_write_18 () (by (try simp only [writeV, i64_1, i64_6]); (repeat' split) <;> first | rfl | (exfalso; omega)) trivial (by (try simp only [writeF, writeC]); (repeat' split) <;> first | rfl | (exfalso; omega))
abbrev rmX5_isSheet : Room := { frames := 1, cells := 0, slots := 0, locals := 23 }
set_option maxRecDepth 100000 in
set_option maxHeartbeats 4000000 in
theorem M_X5_isSheet (l : Launch) (D : va_G) (cI cJ : ClassId) (v : Int32) : CE E0 l D vwCl [(cI, .int), (cJ, .long)] yX5_isSheet wsX5_isSheet rmX5_isSheet [.int v] [] (S := Unit) (some (.int (nI (inZ v.toInt 0 3)))) (fun _ => True) (fun _ : Unit => []) 0 0 := by
  refine CE.ofW (cc := cX5_isSheet) (maxL := 1) (ret := (some .boolean)) (lv := [(0, .int v)]) (by decide) rfl (Nat.le_of_ble_eq_true rfl) rfl ?_
  intro p e s m args below meth c ls A Q hQ hx hb hml hr hlocks hnm hown hts hK hA hE hW hl
  have hown : s.vm.findClass RX5 = some m.cls := hown
  refine lv_iload_n hx hb dX5_isSheet_0 rfl (lv_at hl 0 rfl) ?_
  refine lv_i2l (v := (v).toInt64) hx hb dX5_isSheet_1 rfl ?_
  refine lv_iconst (v := nI 0) hx hb dX5_isSheet_2 (by decide +kernel) ?_
  refine lv_iconst (v := nI 3) hx hb dX5_isSheet_3 (by decide +kernel) ?_
  refine cl_Si (As := [.long ((v).toInt64), .int (nI 0), .int (nI 3)]) (rest := []) ⟨hx, hb, hml, hown, hts⟩ (M_X5_in2 l D cI cJ ((v).toInt64) (nI 0) (nI 3) v.toInt ((0 : Nat) : Int) ((3 : Nat) : Int) ((Int32.toInt_toInt64 _).trans rfl) (nI_toInt (n := 0) (by decide)) (nI_toInt (n := 3) (by decide))) (va_cwS 3 hts gX5_isSheet_X5_in rfl rfl rfl qX5_in ⟨Nat.le_of_ble_eq_true rfl, Nat.le_of_ble_eq_true rfl⟩) E0_good hK hA hW trivial [] (fun _ => []) rfl (fun _ => rfl) (fun _ => rfl) rfl hl.1 rfl (lv_room (Nat.le_of_ble_eq_true rfl)) dX5_isSheet_4 ⟨Nat.zero_le _, Nat.zero_le _⟩ (fun _ H locs _ hW => ?_)
  have hin_ := inZ_or v.toInt ((0 : Nat) : Int) ((3 : Nat) : Int)
  exact rt_z hQ hx hb hr hlocks hW dX5_isSheet_7 (bit_narrow (inZ_le _ _ _)) () rfl trivial rfl
abbrev rmX5_cutTo : Room := { frames := 0, cells := 0, slots := 0, locals := 0 }
set_option maxRecDepth 100000 in
set_option maxHeartbeats 4000000 in
theorem M_X5_cutTo (l : Launch) (D : va_G) (cI cJ : ClassId) (w : Nat) (hw : w < 1000) (v : Int64) : CE E0 l D vwCl [(cI, .int), (cJ, .long)] yX5_cutTo wsX5_cutTo rmX5_cutTo [.int (nI w), .long v] [] (S := Unit) (some (.long (cutV w v))) (fun _ => True) (fun _ : Unit => []) 0 0 := by
  refine CE.ofW (cc := cX5_cutTo) (maxL := 3) (ret := (some .long)) (lv := [(0, .int (nI w)), (1, .long v)]) (by decide) rfl (Nat.le_of_ble_eq_true rfl) rfl ?_
  intro p e s m args below meth c ls A Q hQ hx hb hml hr hlocks hnm hown hts hK hA hE hW hl
  have hown : s.vm.findClass RX5 = some m.cls := hown
  refine lv_iload_n hx hb dX5_cutTo_0 rfl (lv_at hl 0 rfl) ?_
  refine lv_bipush (v := nI 8) hx hb dX5_cutTo_1 (by decide +kernel) ?_
  refine nn_cne (tgt := 13) hx hb dX5_cutTo_3 (by decide) (by omega) (by decide) (fun c3 => ?_) (fun c3 => ?_)
  · refine lv_iload_n hx hb dX5_cutTo_13 rfl (lv_at hl 0 rfl) ?_
    refine lv_bipush (v := nI 16) hx hb dX5_cutTo_14 (by decide +kernel) ?_
    refine nn_cne (tgt := 26) hx hb dX5_cutTo_16 (by decide) (by omega) (by decide) (fun c16 => ?_) (fun c16 => ?_)
    · refine lv_lload_n hx hb dX5_cutTo_26 rfl (lv_at hl 1 rfl) ?_
      exact rt_l hQ hx hb hr hlocks hW dX5_cutTo_27 () (by unfold cutV; (repeat' split) <;> first | rfl | (exfalso; omega)) trivial rfl
    · refine lv_lload_n hx hb dX5_cutTo_19 rfl (lv_at hl 1 rfl) ?_
      refine lv_l2i (v := v.toInt32) hx hb dX5_cutTo_20 rfl ?_
      refine lv_i2s (v := (v.toInt32).toInt16.toInt32) hx hb dX5_cutTo_21 rfl ?_
      refine lv_i2l (v := ((v.toInt32).toInt16.toInt32).toInt64) hx hb dX5_cutTo_22 rfl ?_
      refine lv_goto (tgt := 27) hx hb dX5_cutTo_23 (by decide) ?_
      exact rt_l hQ hx hb hr hlocks hW dX5_cutTo_27 () (by unfold cutV; (repeat' split) <;> first | rfl | (exfalso; omega)) trivial rfl
  · refine lv_lload_n hx hb dX5_cutTo_6 rfl (lv_at hl 1 rfl) ?_
    refine lv_l2i (v := v.toInt32) hx hb dX5_cutTo_7 rfl ?_
    refine lv_i2b (v := (v.toInt32).toInt8.toInt32) hx hb dX5_cutTo_8 rfl ?_
    refine lv_i2l (v := ((v.toInt32).toInt8.toInt32).toInt64) hx hb dX5_cutTo_9 rfl ?_
    refine lv_goto (tgt := 27) hx hb dX5_cutTo_10 (by decide) ?_
    exact rt_l hQ hx hb hr hlocks hW dX5_cutTo_27 () (by unfold cutV; (repeat' split) <;> first | rfl | (exfalso; omega)) trivial rfl
def notV (B : Nat → Nat) (a : Int) : Int32 := if 0 ≤ a ∧ a ≤ 3 then (if B a.toNat = 0 then -1000000006 else nI 0) else -1000000001
abbrev rmX5_notThere : Room := { frames := 2, cells := 0, slots := 0, locals := 43 }
set_option maxRecDepth 100000 in
set_option maxHeartbeats 4000000 in
theorem M_X5_notThere (l : Launch) (D : va_G) (cI cJ : ClassId) (mo R B : Nat → Nat) (hB : ∀ j, j < 4 → B j ≤ 64) (v : Int32) : CE E0 l D vwCl [(cI, .int), (cJ, .long)] yX5_notThere wsX5_notThere rmX5_notThere [.ref (mo 0), .int v] [mH mo R, aI cI (mo 6) 4 B] (S := Unit) (some (.int (notV B v.toInt))) (fun _ => True) (fun _ : Unit => [mH mo R, aI cI (mo 6) 4 B]) 0 0 := by
  refine CE.ofW (cc := cX5_notThere) (maxL := 2) (ret := (some .int)) (lv := [(0, .ref (mo 0)), (1, .int v)]) (by decide) rfl (Nat.le_of_ble_eq_true rfl) rfl ?_
  intro p e s m args below meth c ls A Q hQ hx hb hml hr hlocks hnm hown hts hK hA hE hW hl
  have hown : s.vm.findClass RX5 = some m.cls := hown
  refine lv_iload_n hx hb dX5_notThere_0 rfl (lv_at hl 1 rfl) ?_
  refine cl_Si (As := [.int v]) (rest := []) ⟨hx, hb, hml, hown, hts⟩ (M_X5_isSheet l D cI cJ v) (va_cwS 1 hts gX5_notThere_X5_isSheet rfl rfl rfl qX5_isSheet ⟨Nat.le_of_ble_eq_true rfl, Nat.le_of_ble_eq_true rfl⟩) E0_good hK hA hW trivial [] (fun _ => [mH mo R, aI cI (mo 6) 4 B]) rfl (fun _ => rfl) (fun _ => rfl) rfl hl.1 rfl (lv_room (Nat.le_of_ble_eq_true rfl)) dX5_notThere_1 ⟨Nat.zero_le _, Nat.zero_le _⟩ (fun _ H locs _ hW => ?_)
  have hin_ := inZ_or v.toInt 0 3
  refine nn_zne (tgt := 12) hx hb dX5_notThere_4 (by decide) (by omega) (fun c4 => ?_) (fun c4 => ?_)
  · obtain ⟨j, hj, ej⟩ : ∃ j : Nat, v = nI j ∧ v.toInt = (j : Int) := ⟨v.toInt.toNat, nI_ofZ rfl (by omega), by omega⟩
    rw [hj] at hl
    have hBj := hB j (by omega)
    refine lv_aload_n hx hb dX5_notThere_12 rfl (lv_at hl 0 rfl) ?_
    refine sg_get (ci := 4) (C := RX5) (T := TX5) (N := 15) (v := .ref (mo 6)) hx hb hts (fun _ h => List.mem_cons_of_mem _ (List.mem_append_right _ h)) hown hK hW 0 0 rfl rfl rfl 12 (by decide) (hts _ (List.mem_of_getElem? (i := 2) rfl)) rfl dX5_notThere_13 ?_
    refine lv_iload_n hx hb dX5_notThere_16 rfl (lv_at hl 1 rfl) ?_
    refine sg_ild (v := nI (B j)) hx hb hK hW 1 0 0 rfl rfl rfl (by omega) (by decide) rfl dX5_notThere_17 ?_
    refine nn_zne (tgt := 26) hx hb dX5_notThere_18 (by decide) (by omega) (fun c18 => ?_) (fun c18 => ?_)
    · refine lv_iconst (v := nI 0) hx hb dX5_notThere_26 (by decide +kernel) ?_
      exact rt_i hQ hx hb hr hlocks hW dX5_notThere_27 () (by (try simp only [notV, ej, Int.toNat_natCast]); (repeat' split) <;> first | rfl | (exfalso; omega)) trivial rfl
    · refine lv_ldc (v := -1000000006) hx hb hown (hts _ (List.mem_of_getElem? (i := 3) rfl)) dX5_notThere_21 ?_
      refine lv_goto (tgt := 27) hx hb dX5_notThere_23 (by decide) ?_
      exact rt_i hQ hx hb hr hlocks hW dX5_notThere_27 () (by (try simp only [notV, ej, Int.toNat_natCast]); (repeat' split) <;> first | rfl | (exfalso; omega)) trivial rfl
  · refine lv_ldc (v := -1000000001) hx hb hown (hts _ (List.mem_of_getElem? (i := 1) rfl)) dX5_notThere_7 ?_
    refine lv_goto (tgt := 27) hx hb dX5_notThere_9 (by decide) ?_
    exact rt_i hQ hx hb hr hlocks hW dX5_notThere_27 () (by (try simp only [notV]); (repeat' split) <;> first | rfl | (exfalso; omega)) trivial rfl
theorem notV_or (B : Nat → Nat) (a : Int) : (notV B a = nI 0 ∧ (0 ≤ a ∧ a ≤ 3) ∧ ¬ B a.toNat = 0) ∨ (notV B a = -1000000006 ∧ (0 ≤ a ∧ a ≤ 3) ∧ B a.toNat = 0) ∨ (notV B a = -1000000001 ∧ ¬ (0 ≤ a ∧ a ≤ 3)) := by
  unfold notV
  by_cases h : 0 ≤ a ∧ a ≤ 3
  · rw [if_pos h]
    by_cases q : B a.toNat = 0
    · rw [if_pos q]; exact Or.inr (Or.inl ⟨rfl, h, q⟩)
    · rw [if_neg q]; exact Or.inl ⟨rfl, h, q⟩
  · rw [if_neg h]; exact Or.inr (Or.inr ⟨rfl, h⟩)
abbrev rmX5_sheet : Room := { frames := 2, cells := 0, slots := 0, locals := 43 }
set_option maxRecDepth 100000 in
set_option maxHeartbeats 4000000 in
theorem M_X5_sheet (l : Launch) (D : va_G) (cI cJ : ClassId) (mo R F B Z : Nat → Nat) (C : Nat → Int64) (hS : OkS B Z) (v w z : Int32) : CE E0 l D vwCl [(cI, .int), (cJ, .long)] yX5_sheet wsX5_sheet rmX5_sheet [.ref (mo 0), .int v, .int w, .int z] [mH mo R, aI cI (mo 4) 7 F, aI cI (mo 6) 4 B, aI cI (mo 7) 4 Z, aJ cJ (mo 8) 160 C] (S := Unit) (some (.int (sheetV v.toInt w.toInt z.toInt))) (fun _ => True) (fun _ : Unit => [mH mo R, aI cI (mo 4) 7 (sheetF F v.toInt w.toInt z.toInt), aI cI (mo 6) 4 (sheetB B v.toInt w.toInt z.toInt), aI cI (mo 7) 4 (sheetZ Z v.toInt w.toInt z.toInt), aJ cJ (mo 8) 160 (sheetC C v.toInt w.toInt z.toInt)]) 0 0 := by
  refine CE.ofW (cc := cX5_sheet) (maxL := 5) (ret := (some .int)) (lv := [(0, .ref (mo 0)), (1, .int v), (2, .int w), (3, .int z)]) (by decide) rfl (Nat.le_of_ble_eq_true rfl) rfl ?_
  intro p e s m args below meth c ls A Q hQ hx hb hml hr hlocks hnm hown hts hK hA hE hW hl
  have hown : s.vm.findClass RX5 = some m.cls := hown
  refine lv_iload_n hx hb dX5_sheet_0 rfl (lv_at hl 1 rfl) ?_
  refine cl_Si (As := [.int v]) (rest := []) ⟨hx, hb, hml, hown, hts⟩ (M_X5_isSheet l D cI cJ v) (va_cwS 1 hts gX5_sheet_X5_isSheet rfl rfl rfl qX5_isSheet ⟨Nat.le_of_ble_eq_true rfl, Nat.le_of_ble_eq_true rfl⟩) E0_good hK hA hW trivial [] (fun _ => [mH mo R, aI cI (mo 4) 7 F, aI cI (mo 6) 4 B, aI cI (mo 7) 4 Z, aJ cJ (mo 8) 160 C]) rfl (fun _ => rfl) (fun _ => rfl) rfl hl.1 rfl (lv_room (Nat.le_of_ble_eq_true rfl)) dX5_sheet_1 ⟨Nat.zero_le _, Nat.zero_le _⟩ (fun _ H locs _ hW => ?_)
  have hin_ := inZ_or v.toInt 0 3
  refine nn_zeq (tgt := 29) hx hb dX5_sheet_4 (by decide) (by omega) (fun c4 => ?_) (fun c4 => ?_)
  · refine lv_aload_n hx hb dX5_sheet_29 rfl (lv_at hl 0 rfl) ?_
    refine lv_ldc (v := -1000000001) hx hb hown (hts _ (List.mem_of_getElem? (i := 1) rfl)) dX5_sheet_30 ?_
    refine cl_Vi (As := [.int (-1000000001)]) (rest := []) (C := RX5) ⟨hx, hb, hml, hown, hts⟩ (M_X5_finds l D cI cJ mo R F 0 (by decide) (-1000000001) (by decide +kernel)) (cwV 1 hts gX5_sheet_X5_finds rfl rfl rfl qX5_finds ⟨Nat.le_of_ble_eq_true rfl, Nat.le_of_ble_eq_true rfl⟩) E0_good hK hA hW trivial [true, true] (fun _ => [mH mo R, aI cI (mo 4) 7 (up F 0 (F 0 + 1)), aI cI (mo 6) 4 B, aI cI (mo 7) 4 Z, aJ cJ (mo 8) 160 C]) rfl (fun _ => rfl) (fun _ => rfl) 0 0 rfl rfl rfl rfl hl.1 rfl (lv_room (Nat.le_of_ble_eq_true rfl)) dX5_sheet_32 ⟨Nat.zero_le _, Nat.zero_le _⟩ (fun _ H locs _ hW => ?_)
    exact rt_i hQ hx hb hr hlocks hW dX5_sheet_35 () (by (try simp only [sheetV]); (repeat' split) <;> first | rfl | (exfalso; omega)) trivial (by (try simp only [sheetB, sheetZ, sheetC, sheetF]); (repeat' split) <;> first | rfl | (exfalso; omega))
  · refine lv_iload_n hx hb dX5_sheet_7 rfl (lv_at hl 2 rfl) ?_
    refine zz_zeq (tgt := 36) hx hb dX5_sheet_8 (by decide) (rfl : w.toInt = w.toInt) (fun c8 => ?_) (fun c8 => ?_)
    · refine lv_iload_n hx hb dX5_sheet_36 rfl (lv_at hl 3 rfl) ?_
      refine zz_zge (tgt := 47) hx hb dX5_sheet_37 (by decide) (rfl : z.toInt = z.toInt) (fun c37 => ?_) (fun c37 => ?_)
      · refine lv_iload_n hx hb dX5_sheet_47 rfl (lv_at hl 3 rfl) ?_
        refine lv_bipush (v := nI 40) hx hb dX5_sheet_48 (by decide +kernel) ?_
        refine zz_cle (tgt := 60) hx hb dX5_sheet_50 (by decide) (rfl : z.toInt = z.toInt) (nI_toInt (n := 40) (by decide)) (fun c50 => ?_) (fun c50 => ?_)
        · obtain ⟨j, hj, ej⟩ : ∃ j : Nat, v = nI j ∧ v.toInt = (j : Int) := ⟨v.toInt.toNat, nI_ofZ rfl (by omega), by omega⟩
          rw [hj] at hl
          obtain ⟨wb, hwb, ewb⟩ : ∃ wb : Nat, w = nI wb ∧ w.toInt = (wb : Int) := ⟨w.toInt.toNat, nI_ofZ rfl (by omega), by omega⟩
          rw [hwb] at hl
          obtain ⟨y, hy, ey⟩ : ∃ y : Nat, z = nI y ∧ z.toInt = (y : Int) := ⟨z.toInt.toNat, nI_ofZ rfl (by omega), by omega⟩
          rw [hy] at hl
          refine lv_aload_n hx hb dX5_sheet_60 rfl (lv_at hl 0 rfl) ?_
          refine sg_get (ci := 4) (C := RX5) (T := TX5) (N := 15) (v := .ref (mo 6)) hx hb hts (fun _ h => List.mem_cons_of_mem _ (List.mem_append_right _ h)) hown hK hW 0 0 rfl rfl rfl 12 (by decide) (hts _ (List.mem_of_getElem? (i := 3) rfl)) rfl dX5_sheet_61 ?_
          refine lv_iload_n hx hb dX5_sheet_64 rfl (lv_at hl 1 rfl) ?_
          refine lv_iload_n hx hb dX5_sheet_65 rfl (lv_at hl 2 rfl) ?_
          refine sg_ist hx hb hK hW 2 0 0 rfl rfl rfl (by omega) (by decide) (aI_set cI (mo 6) 4 B j wb) (ss' := [mH mo R, aI cI (mo 4) 7 F, aI cI (mo 6) 4 (up B j wb), aI cI (mo 7) 4 Z, aJ cJ (mo 8) 160 C]) rfl dX5_sheet_66 (fun H locs hW => ?_)
          refine lv_aload_n hx hb dX5_sheet_67 rfl (lv_at hl 0 rfl) ?_
          refine sg_get (ci := 4) (C := RX5) (T := TX5) (N := 15) (v := .ref (mo 7)) hx hb hts (fun _ h => List.mem_cons_of_mem _ (List.mem_append_right _ h)) hown hK hW 0 0 rfl rfl rfl 13 (by decide) (hts _ (List.mem_of_getElem? (i := 4) rfl)) rfl dX5_sheet_68 ?_
          refine lv_iload_n hx hb dX5_sheet_71 rfl (lv_at hl 1 rfl) ?_
          refine lv_iload_n hx hb dX5_sheet_72 rfl (lv_at hl 2 rfl) ?_
          refine nn_zne (tgt := 80) hx hb dX5_sheet_73 (by decide) (by omega) (fun c73 => ?_) (fun c73 => ?_)
          · refine lv_iload_n hx hb dX5_sheet_80 rfl (lv_at hl 3 rfl) ?_
            refine sg_ist hx hb hK hW 3 0 0 rfl rfl rfl (by omega) (by decide) (aI_set cI (mo 7) 4 Z j y) (ss' := [mH mo R, aI cI (mo 4) 7 F, aI cI (mo 6) 4 (up B j wb), aI cI (mo 7) 4 (up Z j y), aJ cJ (mo 8) 160 C]) rfl dX5_sheet_81 (fun H locs hW => ?_)
            refine lv_iconst (v := nI 0) hx hb dX5_sheet_82 (by decide +kernel) ?_
            refine lv_istore (lv' := [(4, .int (nI 0)), (0, .ref (mo 0)), (1, .int (nI j)), (2, .int (nI wb)), (3, .int (nI y))]) hx hb dX5_sheet_83 hl (by decide) rfl (fun ls hl => ?_)
            have lp85 : ∀ (n : Nat) (i : Nat), 40 - i < n → i ≤ 40 → ∀ (H : Heap) (locs : List Loc), Wo D vwCl A s.heap H locs [mH mo R, aI cI (mo 4) 7 F, aI cI (mo 6) 4 (up B j wb), aI cI (mo 7) 4 (up Z j y), aJ cJ (mo 8) 160 (zrC C j i)] → ∀ ls : Array Slot, lv_has ls 5 [(4, .int (nI i)), (0, .ref (mo 0)), (1, .int (nI j)), (2, .int (nI wb)), (3, .int (nI y))] → W p l e rmX5_sheet s m args below meth c H locs 0 0 Q (F0 m 85 ls []) := by
              intro n
              induction n with
              | zero => intro i hm; exact absurd hm (Nat.not_lt_zero _)
              | succ n ih =>
                intro i hm hi H locs hW ls hl
                refine lv_iload hx hb dX5_sheet_85 (lv_at hl 0 rfl) ?_
                refine lv_bipush (v := nI 40) hx hb dX5_sheet_87 (by decide +kernel) ?_
                refine nn_cge (tgt := 111) hx hb dX5_sheet_89 (by decide) (by omega) (by decide) (fun c89 => ?_) (fun c89 => ?_)
                · have hi40 : i = 40 := by omega
                  subst hi40
                  refine lv_aload_n hx hb dX5_sheet_111 rfl (lv_at hl 1 rfl) ?_
                  refine sg_get (ci := 4) (C := RX5) (T := TX5) (N := 15) (v := .ref (mo 7)) hx hb hts (fun _ h => List.mem_cons_of_mem _ (List.mem_append_right _ h)) hown hK hW 0 0 rfl rfl rfl 13 (by decide) (hts _ (List.mem_of_getElem? (i := 4) rfl)) rfl dX5_sheet_112 ?_
                  refine lv_iload_n hx hb dX5_sheet_115 rfl (lv_at hl 2 rfl) ?_
                  refine sg_ild (v := nI y) hx hb hK hW 3 0 0 rfl rfl rfl (by omega) (by decide) (congrArg nI (up_eq _ _ _)) dX5_sheet_116 ?_
                  exact rt_i hQ hx hb hr hlocks hW dX5_sheet_117 () (by (try simp only [sheetV, ej, ewb, ey, Int.toNat_natCast]); (repeat' split) <;> first | rfl | (exfalso; omega)) trivial (by (try simp only [sheetB, sheetZ, sheetC, sheetF, ej, ewb, ey, Int.toNat_natCast]); (repeat' split) <;> first | rfl | (exfalso; omega))
                · refine lv_aload_n hx hb dX5_sheet_92 rfl (lv_at hl 1 rfl) ?_
                  refine sg_get (ci := 4) (C := RX5) (T := TX5) (N := 15) (v := .ref (mo 8)) hx hb hts (fun _ h => List.mem_cons_of_mem _ (List.mem_append_right _ h)) hown hK hW 0 0 rfl rfl rfl 14 (by decide) (hts _ (List.mem_of_getElem? (i := 5) rfl)) rfl dX5_sheet_93 ?_
                  refine lv_bipush (v := nI 40) hx hb dX5_sheet_96 (by decide +kernel) ?_
                  refine lv_iload_n hx hb dX5_sheet_98 rfl (lv_at hl 2 rfl) ?_
                  refine nn_mul hx hb dX5_sheet_99 ?_
                  refine lv_iload hx hb dX5_sheet_100 (lv_at hl 0 rfl) ?_
                  refine nn_add hx hb dX5_sheet_102 ?_
                  refine lv_lconst (v := 0) hx hb dX5_sheet_103 (by decide +kernel) ?_
                  refine sg_lst hx hb hK hW 4 0 1 rfl rfl rfl (by omega) (by decide) (aJ_set cJ (mo 8) 160 (zrC C j i) ((40 * j) + i) 0) (ss' := [mH mo R, aI cI (mo 4) 7 F, aI cI (mo 6) 4 (up B j wb), aI cI (mo 7) 4 (up Z j y), aJ cJ (mo 8) 160 (vp_updL (zrC C j i) ((40 * j) + i) 0)]) rfl dX5_sheet_104 (fun H locs hW => ?_)
                  refine lv_iinc (v := nI (i + 1)) (lv' := [(4, .int (nI (i + 1))), (0, .ref (mo 0)), (1, .int (nI j)), (2, .int (nI wb)), (3, .int (nI y))]) hx hb dX5_sheet_105 hl (k := 0) rfl (nI_add _ 1) (by decide) rfl (fun ls hl => ?_)
                  refine lv_goto (tgt := 85) hx hb dX5_sheet_108 (by decide) ?_
                  have hW := hW.to (ss' := [mH mo R, aI cI (mo 4) 7 F, aI cI (mo 6) 4 (up B j wb), aI cI (mo 7) 4 (up Z j y), aJ cJ (mo 8) 160 (zrC C j (i + 1))]) (by rw [Nat.mul_comm 40 j, zrC_up])
                  exact ih (i + 1) (by omega) (by omega) _ _ hW _ (lv_sub hl [0, 1, 2, 3, 4] rfl)
            have hW := hW.to (ss' := [mH mo R, aI cI (mo 4) 7 F, aI cI (mo 6) 4 (up B j wb), aI cI (mo 7) 4 (up Z j y), aJ cJ (mo 8) 160 (zrC C j 0)]) (by rw [zrC_0])
            exact lp85 (40 - 0 + 1) 0 (Nat.lt_succ_self _) (by omega) _ _ hW _ (lv_sub hl [0, 1, 2, 3, 4] rfl)
          · refine lv_iconst (v := nI 0) hx hb dX5_sheet_76 (by decide +kernel) ?_
            refine lv_goto (tgt := 81) hx hb dX5_sheet_77 (by decide) ?_
            refine sg_ist hx hb hK hW 3 0 0 rfl rfl rfl (by omega) (by decide) (aI_set cI (mo 7) 4 Z j 0) (ss' := [mH mo R, aI cI (mo 4) 7 F, aI cI (mo 6) 4 (up B j wb), aI cI (mo 7) 4 (up Z j 0), aJ cJ (mo 8) 160 C]) rfl dX5_sheet_81 (fun H locs hW => ?_)
            refine lv_iconst (v := nI 0) hx hb dX5_sheet_82 (by decide +kernel) ?_
            refine lv_istore (lv' := [(4, .int (nI 0)), (0, .ref (mo 0)), (1, .int (nI j)), (2, .int (nI wb)), (3, .int (nI y))]) hx hb dX5_sheet_83 hl (by decide) rfl (fun ls hl => ?_)
            have lp85 : ∀ (n : Nat) (i : Nat), 40 - i < n → i ≤ 40 → ∀ (H : Heap) (locs : List Loc), Wo D vwCl A s.heap H locs [mH mo R, aI cI (mo 4) 7 F, aI cI (mo 6) 4 (up B j wb), aI cI (mo 7) 4 (up Z j 0), aJ cJ (mo 8) 160 (zrC C j i)] → ∀ ls : Array Slot, lv_has ls 5 [(4, .int (nI i)), (0, .ref (mo 0)), (1, .int (nI j)), (2, .int (nI wb)), (3, .int (nI y))] → W p l e rmX5_sheet s m args below meth c H locs 0 0 Q (F0 m 85 ls []) := by
              intro n
              induction n with
              | zero => intro i hm; exact absurd hm (Nat.not_lt_zero _)
              | succ n ih =>
                intro i hm hi H locs hW ls hl
                refine lv_iload hx hb dX5_sheet_85 (lv_at hl 0 rfl) ?_
                refine lv_bipush (v := nI 40) hx hb dX5_sheet_87 (by decide +kernel) ?_
                refine nn_cge (tgt := 111) hx hb dX5_sheet_89 (by decide) (by omega) (by decide) (fun c89_1 => ?_) (fun c89_1 => ?_)
                · have hi40 : i = 40 := by omega
                  subst hi40
                  refine lv_aload_n hx hb dX5_sheet_111 rfl (lv_at hl 1 rfl) ?_
                  refine sg_get (ci := 4) (C := RX5) (T := TX5) (N := 15) (v := .ref (mo 7)) hx hb hts (fun _ h => List.mem_cons_of_mem _ (List.mem_append_right _ h)) hown hK hW 0 0 rfl rfl rfl 13 (by decide) (hts _ (List.mem_of_getElem? (i := 4) rfl)) rfl dX5_sheet_112 ?_
                  refine lv_iload_n hx hb dX5_sheet_115 rfl (lv_at hl 2 rfl) ?_
                  refine sg_ild (v := nI 0) hx hb hK hW 3 0 0 rfl rfl rfl (by omega) (by decide) (congrArg nI (up_eq _ _ _)) dX5_sheet_116 ?_
                  exact rt_i hQ hx hb hr hlocks hW dX5_sheet_117 () (by (try simp only [sheetV, ej, ewb, ey, Int.toNat_natCast]); (repeat' split) <;> first | rfl | (exfalso; omega)) trivial (by (try simp only [sheetB, sheetZ, sheetC, sheetF, ej, ewb, ey, Int.toNat_natCast]); (repeat' split) <;> first | rfl | (exfalso; omega))
                · refine lv_aload_n hx hb dX5_sheet_92 rfl (lv_at hl 1 rfl) ?_
                  refine sg_get (ci := 4) (C := RX5) (T := TX5) (N := 15) (v := .ref (mo 8)) hx hb hts (fun _ h => List.mem_cons_of_mem _ (List.mem_append_right _ h)) hown hK hW 0 0 rfl rfl rfl 14 (by decide) (hts _ (List.mem_of_getElem? (i := 5) rfl)) rfl dX5_sheet_93 ?_
                  refine lv_bipush (v := nI 40) hx hb dX5_sheet_96 (by decide +kernel) ?_
                  refine lv_iload_n hx hb dX5_sheet_98 rfl (lv_at hl 2 rfl) ?_
                  refine nn_mul hx hb dX5_sheet_99 ?_
                  refine lv_iload hx hb dX5_sheet_100 (lv_at hl 0 rfl) ?_
                  refine nn_add hx hb dX5_sheet_102 ?_
                  refine lv_lconst (v := 0) hx hb dX5_sheet_103 (by decide +kernel) ?_
                  refine sg_lst hx hb hK hW 4 0 1 rfl rfl rfl (by omega) (by decide) (aJ_set cJ (mo 8) 160 (zrC C j i) ((40 * j) + i) 0) (ss' := [mH mo R, aI cI (mo 4) 7 F, aI cI (mo 6) 4 (up B j wb), aI cI (mo 7) 4 (up Z j 0), aJ cJ (mo 8) 160 (vp_updL (zrC C j i) ((40 * j) + i) 0)]) rfl dX5_sheet_104 (fun H locs hW => ?_)
                  refine lv_iinc (v := nI (i + 1)) (lv' := [(4, .int (nI (i + 1))), (0, .ref (mo 0)), (1, .int (nI j)), (2, .int (nI wb)), (3, .int (nI y))]) hx hb dX5_sheet_105 hl (k := 0) rfl (nI_add _ 1) (by decide) rfl (fun ls hl => ?_)
                  refine lv_goto (tgt := 85) hx hb dX5_sheet_108 (by decide) ?_
                  have hW := hW.to (ss' := [mH mo R, aI cI (mo 4) 7 F, aI cI (mo 6) 4 (up B j wb), aI cI (mo 7) 4 (up Z j 0), aJ cJ (mo 8) 160 (zrC C j (i + 1))]) (by rw [Nat.mul_comm 40 j, zrC_up])
                  exact ih (i + 1) (by omega) (by omega) _ _ hW _ (lv_sub hl [0, 1, 2, 3, 4] rfl)
            have hW := hW.to (ss' := [mH mo R, aI cI (mo 4) 7 F, aI cI (mo 6) 4 (up B j wb), aI cI (mo 7) 4 (up Z j 0), aJ cJ (mo 8) 160 (zrC C j 0)]) (by rw [zrC_0])
            exact lp85 (40 - 0 + 1) 0 (Nat.lt_succ_self _) (by omega) _ _ hW _ (lv_sub hl [0, 1, 2, 3, 4] rfl)
        · refine lv_aload_n hx hb dX5_sheet_53 rfl (lv_at hl 0 rfl) ?_
          refine lv_ldc (v := -1000000001) hx hb hown (hts _ (List.mem_of_getElem? (i := 1) rfl)) dX5_sheet_54 ?_
          refine cl_Vi (As := [.int (-1000000001)]) (rest := []) (C := RX5) ⟨hx, hb, hml, hown, hts⟩ (M_X5_finds l D cI cJ mo R F 0 (by decide) (-1000000001) (by decide +kernel)) (cwV 1 hts gX5_sheet_X5_finds rfl rfl rfl qX5_finds ⟨Nat.le_of_ble_eq_true rfl, Nat.le_of_ble_eq_true rfl⟩) E0_good hK hA hW trivial [true, true] (fun _ => [mH mo R, aI cI (mo 4) 7 (up F 0 (F 0 + 1)), aI cI (mo 6) 4 B, aI cI (mo 7) 4 Z, aJ cJ (mo 8) 160 C]) rfl (fun _ => rfl) (fun _ => rfl) 0 0 rfl rfl rfl rfl hl.1 rfl (lv_room (Nat.le_of_ble_eq_true rfl)) dX5_sheet_56 ⟨Nat.zero_le _, Nat.zero_le _⟩ (fun _ H locs _ hW => ?_)
          exact rt_i hQ hx hb hr hlocks hW dX5_sheet_59 () (by (try simp only [sheetV]); (repeat' split) <;> first | rfl | (exfalso; omega)) trivial (by (try simp only [sheetB, sheetZ, sheetC, sheetF]); (repeat' split) <;> first | rfl | (exfalso; omega))
      · refine lv_aload_n hx hb dX5_sheet_40 rfl (lv_at hl 0 rfl) ?_
        refine lv_ldc (v := -1000000007) hx hb hown (hts _ (List.mem_of_getElem? (i := 2) rfl)) dX5_sheet_41 ?_
        refine cl_Vi (As := [.int (-1000000007)]) (rest := []) (C := RX5) ⟨hx, hb, hml, hown, hts⟩ (M_X5_finds l D cI cJ mo R F 6 (by decide) (-1000000007) (by decide +kernel)) (cwV 1 hts gX5_sheet_X5_finds rfl rfl rfl qX5_finds ⟨Nat.le_of_ble_eq_true rfl, Nat.le_of_ble_eq_true rfl⟩) E0_good hK hA hW trivial [true, true] (fun _ => [mH mo R, aI cI (mo 4) 7 (up F 6 (F 6 + 1)), aI cI (mo 6) 4 B, aI cI (mo 7) 4 Z, aJ cJ (mo 8) 160 C]) rfl (fun _ => rfl) (fun _ => rfl) 0 0 rfl rfl rfl rfl hl.1 rfl (lv_room (Nat.le_of_ble_eq_true rfl)) dX5_sheet_43 ⟨Nat.zero_le _, Nat.zero_le _⟩ (fun _ H locs _ hW => ?_)
        exact rt_i hQ hx hb hr hlocks hW dX5_sheet_46 () (by (try simp only [sheetV]); (repeat' split) <;> first | rfl | (exfalso; omega)) trivial (by (try simp only [sheetB, sheetZ, sheetC, sheetF]); (repeat' split) <;> first | rfl | (exfalso; omega))
    · refine lv_iload_n hx hb dX5_sheet_11 rfl (lv_at hl 2 rfl) ?_
      refine lv_bipush (v := nI 8) hx hb dX5_sheet_12 (by decide +kernel) ?_
      refine zz_ceq (tgt := 36) hx hb dX5_sheet_14 (by decide) (rfl : w.toInt = w.toInt) (nI_toInt (n := 8) (by decide)) (fun c14 => ?_) (fun c14 => ?_)
      · refine lv_iload_n hx hb dX5_sheet_36 rfl (lv_at hl 3 rfl) ?_
        refine zz_zge (tgt := 47) hx hb dX5_sheet_37 (by decide) (rfl : z.toInt = z.toInt) (fun c37_1 => ?_) (fun c37_1 => ?_)
        · refine lv_iload_n hx hb dX5_sheet_47 rfl (lv_at hl 3 rfl) ?_
          refine lv_bipush (v := nI 40) hx hb dX5_sheet_48 (by decide +kernel) ?_
          refine zz_cle (tgt := 60) hx hb dX5_sheet_50 (by decide) (rfl : z.toInt = z.toInt) (nI_toInt (n := 40) (by decide)) (fun c50_1 => ?_) (fun c50_1 => ?_)
          · obtain ⟨j, hj, ej⟩ : ∃ j : Nat, v = nI j ∧ v.toInt = (j : Int) := ⟨v.toInt.toNat, nI_ofZ rfl (by omega), by omega⟩
            rw [hj] at hl
            obtain ⟨wb, hwb, ewb⟩ : ∃ wb : Nat, w = nI wb ∧ w.toInt = (wb : Int) := ⟨w.toInt.toNat, nI_ofZ rfl (by omega), by omega⟩
            rw [hwb] at hl
            obtain ⟨y, hy, ey⟩ : ∃ y : Nat, z = nI y ∧ z.toInt = (y : Int) := ⟨z.toInt.toNat, nI_ofZ rfl (by omega), by omega⟩
            rw [hy] at hl
            refine lv_aload_n hx hb dX5_sheet_60 rfl (lv_at hl 0 rfl) ?_
            refine sg_get (ci := 4) (C := RX5) (T := TX5) (N := 15) (v := .ref (mo 6)) hx hb hts (fun _ h => List.mem_cons_of_mem _ (List.mem_append_right _ h)) hown hK hW 0 0 rfl rfl rfl 12 (by decide) (hts _ (List.mem_of_getElem? (i := 3) rfl)) rfl dX5_sheet_61 ?_
            refine lv_iload_n hx hb dX5_sheet_64 rfl (lv_at hl 1 rfl) ?_
            refine lv_iload_n hx hb dX5_sheet_65 rfl (lv_at hl 2 rfl) ?_
            refine sg_ist hx hb hK hW 2 0 0 rfl rfl rfl (by omega) (by decide) (aI_set cI (mo 6) 4 B j wb) (ss' := [mH mo R, aI cI (mo 4) 7 F, aI cI (mo 6) 4 (up B j wb), aI cI (mo 7) 4 Z, aJ cJ (mo 8) 160 C]) rfl dX5_sheet_66 (fun H locs hW => ?_)
            refine lv_aload_n hx hb dX5_sheet_67 rfl (lv_at hl 0 rfl) ?_
            refine sg_get (ci := 4) (C := RX5) (T := TX5) (N := 15) (v := .ref (mo 7)) hx hb hts (fun _ h => List.mem_cons_of_mem _ (List.mem_append_right _ h)) hown hK hW 0 0 rfl rfl rfl 13 (by decide) (hts _ (List.mem_of_getElem? (i := 4) rfl)) rfl dX5_sheet_68 ?_
            refine lv_iload_n hx hb dX5_sheet_71 rfl (lv_at hl 1 rfl) ?_
            refine lv_iload_n hx hb dX5_sheet_72 rfl (lv_at hl 2 rfl) ?_
            refine nn_zne (tgt := 80) hx hb dX5_sheet_73 (by decide) (by omega) (fun c73_1 => ?_) (fun c73_1 => ?_)
            · refine lv_iload_n hx hb dX5_sheet_80 rfl (lv_at hl 3 rfl) ?_
              refine sg_ist hx hb hK hW 3 0 0 rfl rfl rfl (by omega) (by decide) (aI_set cI (mo 7) 4 Z j y) (ss' := [mH mo R, aI cI (mo 4) 7 F, aI cI (mo 6) 4 (up B j wb), aI cI (mo 7) 4 (up Z j y), aJ cJ (mo 8) 160 C]) rfl dX5_sheet_81 (fun H locs hW => ?_)
              refine lv_iconst (v := nI 0) hx hb dX5_sheet_82 (by decide +kernel) ?_
              refine lv_istore (lv' := [(4, .int (nI 0)), (0, .ref (mo 0)), (1, .int (nI j)), (2, .int (nI wb)), (3, .int (nI y))]) hx hb dX5_sheet_83 hl (by decide) rfl (fun ls hl => ?_)
              have lp85 : ∀ (n : Nat) (i : Nat), 40 - i < n → i ≤ 40 → ∀ (H : Heap) (locs : List Loc), Wo D vwCl A s.heap H locs [mH mo R, aI cI (mo 4) 7 F, aI cI (mo 6) 4 (up B j wb), aI cI (mo 7) 4 (up Z j y), aJ cJ (mo 8) 160 (zrC C j i)] → ∀ ls : Array Slot, lv_has ls 5 [(4, .int (nI i)), (0, .ref (mo 0)), (1, .int (nI j)), (2, .int (nI wb)), (3, .int (nI y))] → W p l e rmX5_sheet s m args below meth c H locs 0 0 Q (F0 m 85 ls []) := by
                intro n
                induction n with
                | zero => intro i hm; exact absurd hm (Nat.not_lt_zero _)
                | succ n ih =>
                  intro i hm hi H locs hW ls hl
                  refine lv_iload hx hb dX5_sheet_85 (lv_at hl 0 rfl) ?_
                  refine lv_bipush (v := nI 40) hx hb dX5_sheet_87 (by decide +kernel) ?_
                  refine nn_cge (tgt := 111) hx hb dX5_sheet_89 (by decide) (by omega) (by decide) (fun c89_2 => ?_) (fun c89_2 => ?_)
                  · have hi40 : i = 40 := by omega
                    subst hi40
                    refine lv_aload_n hx hb dX5_sheet_111 rfl (lv_at hl 1 rfl) ?_
                    refine sg_get (ci := 4) (C := RX5) (T := TX5) (N := 15) (v := .ref (mo 7)) hx hb hts (fun _ h => List.mem_cons_of_mem _ (List.mem_append_right _ h)) hown hK hW 0 0 rfl rfl rfl 13 (by decide) (hts _ (List.mem_of_getElem? (i := 4) rfl)) rfl dX5_sheet_112 ?_
                    refine lv_iload_n hx hb dX5_sheet_115 rfl (lv_at hl 2 rfl) ?_
                    refine sg_ild (v := nI y) hx hb hK hW 3 0 0 rfl rfl rfl (by omega) (by decide) (congrArg nI (up_eq _ _ _)) dX5_sheet_116 ?_
                    exact rt_i hQ hx hb hr hlocks hW dX5_sheet_117 () (by (try simp only [sheetV, ej, ewb, ey, Int.toNat_natCast]); (repeat' split) <;> first | rfl | (exfalso; omega)) trivial (by (try simp only [sheetB, sheetZ, sheetC, sheetF, ej, ewb, ey, Int.toNat_natCast]); (repeat' split) <;> first | rfl | (exfalso; omega))
                  · refine lv_aload_n hx hb dX5_sheet_92 rfl (lv_at hl 1 rfl) ?_
                    refine sg_get (ci := 4) (C := RX5) (T := TX5) (N := 15) (v := .ref (mo 8)) hx hb hts (fun _ h => List.mem_cons_of_mem _ (List.mem_append_right _ h)) hown hK hW 0 0 rfl rfl rfl 14 (by decide) (hts _ (List.mem_of_getElem? (i := 5) rfl)) rfl dX5_sheet_93 ?_
                    refine lv_bipush (v := nI 40) hx hb dX5_sheet_96 (by decide +kernel) ?_
                    refine lv_iload_n hx hb dX5_sheet_98 rfl (lv_at hl 2 rfl) ?_
                    refine nn_mul hx hb dX5_sheet_99 ?_
                    refine lv_iload hx hb dX5_sheet_100 (lv_at hl 0 rfl) ?_
                    refine nn_add hx hb dX5_sheet_102 ?_
                    refine lv_lconst (v := 0) hx hb dX5_sheet_103 (by decide +kernel) ?_
                    refine sg_lst hx hb hK hW 4 0 1 rfl rfl rfl (by omega) (by decide) (aJ_set cJ (mo 8) 160 (zrC C j i) ((40 * j) + i) 0) (ss' := [mH mo R, aI cI (mo 4) 7 F, aI cI (mo 6) 4 (up B j wb), aI cI (mo 7) 4 (up Z j y), aJ cJ (mo 8) 160 (vp_updL (zrC C j i) ((40 * j) + i) 0)]) rfl dX5_sheet_104 (fun H locs hW => ?_)
                    refine lv_iinc (v := nI (i + 1)) (lv' := [(4, .int (nI (i + 1))), (0, .ref (mo 0)), (1, .int (nI j)), (2, .int (nI wb)), (3, .int (nI y))]) hx hb dX5_sheet_105 hl (k := 0) rfl (nI_add _ 1) (by decide) rfl (fun ls hl => ?_)
                    refine lv_goto (tgt := 85) hx hb dX5_sheet_108 (by decide) ?_
                    have hW := hW.to (ss' := [mH mo R, aI cI (mo 4) 7 F, aI cI (mo 6) 4 (up B j wb), aI cI (mo 7) 4 (up Z j y), aJ cJ (mo 8) 160 (zrC C j (i + 1))]) (by rw [Nat.mul_comm 40 j, zrC_up])
                    exact ih (i + 1) (by omega) (by omega) _ _ hW _ (lv_sub hl [0, 1, 2, 3, 4] rfl)
              have hW := hW.to (ss' := [mH mo R, aI cI (mo 4) 7 F, aI cI (mo 6) 4 (up B j wb), aI cI (mo 7) 4 (up Z j y), aJ cJ (mo 8) 160 (zrC C j 0)]) (by rw [zrC_0])
              exact lp85 (40 - 0 + 1) 0 (Nat.lt_succ_self _) (by omega) _ _ hW _ (lv_sub hl [0, 1, 2, 3, 4] rfl)
            · refine lv_iconst (v := nI 0) hx hb dX5_sheet_76 (by decide +kernel) ?_
              refine lv_goto (tgt := 81) hx hb dX5_sheet_77 (by decide) ?_
              refine sg_ist hx hb hK hW 3 0 0 rfl rfl rfl (by omega) (by decide) (aI_set cI (mo 7) 4 Z j 0) (ss' := [mH mo R, aI cI (mo 4) 7 F, aI cI (mo 6) 4 (up B j wb), aI cI (mo 7) 4 (up Z j 0), aJ cJ (mo 8) 160 C]) rfl dX5_sheet_81 (fun H locs hW => ?_)
              refine lv_iconst (v := nI 0) hx hb dX5_sheet_82 (by decide +kernel) ?_
              refine lv_istore (lv' := [(4, .int (nI 0)), (0, .ref (mo 0)), (1, .int (nI j)), (2, .int (nI wb)), (3, .int (nI y))]) hx hb dX5_sheet_83 hl (by decide) rfl (fun ls hl => ?_)
              have lp85 : ∀ (n : Nat) (i : Nat), 40 - i < n → i ≤ 40 → ∀ (H : Heap) (locs : List Loc), Wo D vwCl A s.heap H locs [mH mo R, aI cI (mo 4) 7 F, aI cI (mo 6) 4 (up B j wb), aI cI (mo 7) 4 (up Z j 0), aJ cJ (mo 8) 160 (zrC C j i)] → ∀ ls : Array Slot, lv_has ls 5 [(4, .int (nI i)), (0, .ref (mo 0)), (1, .int (nI j)), (2, .int (nI wb)), (3, .int (nI y))] → W p l e rmX5_sheet s m args below meth c H locs 0 0 Q (F0 m 85 ls []) := by
                intro n
                induction n with
                | zero => intro i hm; exact absurd hm (Nat.not_lt_zero _)
                | succ n ih =>
                  intro i hm hi H locs hW ls hl
                  refine lv_iload hx hb dX5_sheet_85 (lv_at hl 0 rfl) ?_
                  refine lv_bipush (v := nI 40) hx hb dX5_sheet_87 (by decide +kernel) ?_
                  refine nn_cge (tgt := 111) hx hb dX5_sheet_89 (by decide) (by omega) (by decide) (fun c89_3 => ?_) (fun c89_3 => ?_)
                  · have hi40 : i = 40 := by omega
                    subst hi40
                    refine lv_aload_n hx hb dX5_sheet_111 rfl (lv_at hl 1 rfl) ?_
                    refine sg_get (ci := 4) (C := RX5) (T := TX5) (N := 15) (v := .ref (mo 7)) hx hb hts (fun _ h => List.mem_cons_of_mem _ (List.mem_append_right _ h)) hown hK hW 0 0 rfl rfl rfl 13 (by decide) (hts _ (List.mem_of_getElem? (i := 4) rfl)) rfl dX5_sheet_112 ?_
                    refine lv_iload_n hx hb dX5_sheet_115 rfl (lv_at hl 2 rfl) ?_
                    refine sg_ild (v := nI 0) hx hb hK hW 3 0 0 rfl rfl rfl (by omega) (by decide) (congrArg nI (up_eq _ _ _)) dX5_sheet_116 ?_
                    exact rt_i hQ hx hb hr hlocks hW dX5_sheet_117 () (by (try simp only [sheetV, ej, ewb, ey, Int.toNat_natCast]); (repeat' split) <;> first | rfl | (exfalso; omega)) trivial (by (try simp only [sheetB, sheetZ, sheetC, sheetF, ej, ewb, ey, Int.toNat_natCast]); (repeat' split) <;> first | rfl | (exfalso; omega))
                  · refine lv_aload_n hx hb dX5_sheet_92 rfl (lv_at hl 1 rfl) ?_
                    refine sg_get (ci := 4) (C := RX5) (T := TX5) (N := 15) (v := .ref (mo 8)) hx hb hts (fun _ h => List.mem_cons_of_mem _ (List.mem_append_right _ h)) hown hK hW 0 0 rfl rfl rfl 14 (by decide) (hts _ (List.mem_of_getElem? (i := 5) rfl)) rfl dX5_sheet_93 ?_
                    refine lv_bipush (v := nI 40) hx hb dX5_sheet_96 (by decide +kernel) ?_
                    refine lv_iload_n hx hb dX5_sheet_98 rfl (lv_at hl 2 rfl) ?_
                    refine nn_mul hx hb dX5_sheet_99 ?_
                    refine lv_iload hx hb dX5_sheet_100 (lv_at hl 0 rfl) ?_
                    refine nn_add hx hb dX5_sheet_102 ?_
                    refine lv_lconst (v := 0) hx hb dX5_sheet_103 (by decide +kernel) ?_
                    refine sg_lst hx hb hK hW 4 0 1 rfl rfl rfl (by omega) (by decide) (aJ_set cJ (mo 8) 160 (zrC C j i) ((40 * j) + i) 0) (ss' := [mH mo R, aI cI (mo 4) 7 F, aI cI (mo 6) 4 (up B j wb), aI cI (mo 7) 4 (up Z j 0), aJ cJ (mo 8) 160 (vp_updL (zrC C j i) ((40 * j) + i) 0)]) rfl dX5_sheet_104 (fun H locs hW => ?_)
                    refine lv_iinc (v := nI (i + 1)) (lv' := [(4, .int (nI (i + 1))), (0, .ref (mo 0)), (1, .int (nI j)), (2, .int (nI wb)), (3, .int (nI y))]) hx hb dX5_sheet_105 hl (k := 0) rfl (nI_add _ 1) (by decide) rfl (fun ls hl => ?_)
                    refine lv_goto (tgt := 85) hx hb dX5_sheet_108 (by decide) ?_
                    have hW := hW.to (ss' := [mH mo R, aI cI (mo 4) 7 F, aI cI (mo 6) 4 (up B j wb), aI cI (mo 7) 4 (up Z j 0), aJ cJ (mo 8) 160 (zrC C j (i + 1))]) (by rw [Nat.mul_comm 40 j, zrC_up])
                    exact ih (i + 1) (by omega) (by omega) _ _ hW _ (lv_sub hl [0, 1, 2, 3, 4] rfl)
              have hW := hW.to (ss' := [mH mo R, aI cI (mo 4) 7 F, aI cI (mo 6) 4 (up B j wb), aI cI (mo 7) 4 (up Z j 0), aJ cJ (mo 8) 160 (zrC C j 0)]) (by rw [zrC_0])
              exact lp85 (40 - 0 + 1) 0 (Nat.lt_succ_self _) (by omega) _ _ hW _ (lv_sub hl [0, 1, 2, 3, 4] rfl)
          · refine lv_aload_n hx hb dX5_sheet_53 rfl (lv_at hl 0 rfl) ?_
            refine lv_ldc (v := -1000000001) hx hb hown (hts _ (List.mem_of_getElem? (i := 1) rfl)) dX5_sheet_54 ?_
            refine cl_Vi (As := [.int (-1000000001)]) (rest := []) (C := RX5) ⟨hx, hb, hml, hown, hts⟩ (M_X5_finds l D cI cJ mo R F 0 (by decide) (-1000000001) (by decide +kernel)) (cwV 1 hts gX5_sheet_X5_finds rfl rfl rfl qX5_finds ⟨Nat.le_of_ble_eq_true rfl, Nat.le_of_ble_eq_true rfl⟩) E0_good hK hA hW trivial [true, true] (fun _ => [mH mo R, aI cI (mo 4) 7 (up F 0 (F 0 + 1)), aI cI (mo 6) 4 B, aI cI (mo 7) 4 Z, aJ cJ (mo 8) 160 C]) rfl (fun _ => rfl) (fun _ => rfl) 0 0 rfl rfl rfl rfl hl.1 rfl (lv_room (Nat.le_of_ble_eq_true rfl)) dX5_sheet_56 ⟨Nat.zero_le _, Nat.zero_le _⟩ (fun _ H locs _ hW => ?_)
            exact rt_i hQ hx hb hr hlocks hW dX5_sheet_59 () (by (try simp only [sheetV]); (repeat' split) <;> first | rfl | (exfalso; omega)) trivial (by (try simp only [sheetB, sheetZ, sheetC, sheetF]); (repeat' split) <;> first | rfl | (exfalso; omega))
        · refine lv_aload_n hx hb dX5_sheet_40 rfl (lv_at hl 0 rfl) ?_
          refine lv_ldc (v := -1000000007) hx hb hown (hts _ (List.mem_of_getElem? (i := 2) rfl)) dX5_sheet_41 ?_
          refine cl_Vi (As := [.int (-1000000007)]) (rest := []) (C := RX5) ⟨hx, hb, hml, hown, hts⟩ (M_X5_finds l D cI cJ mo R F 6 (by decide) (-1000000007) (by decide +kernel)) (cwV 1 hts gX5_sheet_X5_finds rfl rfl rfl qX5_finds ⟨Nat.le_of_ble_eq_true rfl, Nat.le_of_ble_eq_true rfl⟩) E0_good hK hA hW trivial [true, true] (fun _ => [mH mo R, aI cI (mo 4) 7 (up F 6 (F 6 + 1)), aI cI (mo 6) 4 B, aI cI (mo 7) 4 Z, aJ cJ (mo 8) 160 C]) rfl (fun _ => rfl) (fun _ => rfl) 0 0 rfl rfl rfl rfl hl.1 rfl (lv_room (Nat.le_of_ble_eq_true rfl)) dX5_sheet_43 ⟨Nat.zero_le _, Nat.zero_le _⟩ (fun _ H locs _ hW => ?_)
          exact rt_i hQ hx hb hr hlocks hW dX5_sheet_46 () (by (try simp only [sheetV]); (repeat' split) <;> first | rfl | (exfalso; omega)) trivial (by (try simp only [sheetB, sheetZ, sheetC, sheetF]); (repeat' split) <;> first | rfl | (exfalso; omega))
      · refine lv_iload_n hx hb dX5_sheet_17 rfl (lv_at hl 2 rfl) ?_
        refine lv_bipush (v := nI 16) hx hb dX5_sheet_18 (by decide +kernel) ?_
        refine zz_ceq (tgt := 36) hx hb dX5_sheet_20 (by decide) (rfl : w.toInt = w.toInt) (nI_toInt (n := 16) (by decide)) (fun c20 => ?_) (fun c20 => ?_)
        · refine lv_iload_n hx hb dX5_sheet_36 rfl (lv_at hl 3 rfl) ?_
          refine zz_zge (tgt := 47) hx hb dX5_sheet_37 (by decide) (rfl : z.toInt = z.toInt) (fun c37_2 => ?_) (fun c37_2 => ?_)
          · refine lv_iload_n hx hb dX5_sheet_47 rfl (lv_at hl 3 rfl) ?_
            refine lv_bipush (v := nI 40) hx hb dX5_sheet_48 (by decide +kernel) ?_
            refine zz_cle (tgt := 60) hx hb dX5_sheet_50 (by decide) (rfl : z.toInt = z.toInt) (nI_toInt (n := 40) (by decide)) (fun c50_2 => ?_) (fun c50_2 => ?_)
            · obtain ⟨j, hj, ej⟩ : ∃ j : Nat, v = nI j ∧ v.toInt = (j : Int) := ⟨v.toInt.toNat, nI_ofZ rfl (by omega), by omega⟩
              rw [hj] at hl
              obtain ⟨wb, hwb, ewb⟩ : ∃ wb : Nat, w = nI wb ∧ w.toInt = (wb : Int) := ⟨w.toInt.toNat, nI_ofZ rfl (by omega), by omega⟩
              rw [hwb] at hl
              obtain ⟨y, hy, ey⟩ : ∃ y : Nat, z = nI y ∧ z.toInt = (y : Int) := ⟨z.toInt.toNat, nI_ofZ rfl (by omega), by omega⟩
              rw [hy] at hl
              refine lv_aload_n hx hb dX5_sheet_60 rfl (lv_at hl 0 rfl) ?_
              refine sg_get (ci := 4) (C := RX5) (T := TX5) (N := 15) (v := .ref (mo 6)) hx hb hts (fun _ h => List.mem_cons_of_mem _ (List.mem_append_right _ h)) hown hK hW 0 0 rfl rfl rfl 12 (by decide) (hts _ (List.mem_of_getElem? (i := 3) rfl)) rfl dX5_sheet_61 ?_
              refine lv_iload_n hx hb dX5_sheet_64 rfl (lv_at hl 1 rfl) ?_
              refine lv_iload_n hx hb dX5_sheet_65 rfl (lv_at hl 2 rfl) ?_
              refine sg_ist hx hb hK hW 2 0 0 rfl rfl rfl (by omega) (by decide) (aI_set cI (mo 6) 4 B j wb) (ss' := [mH mo R, aI cI (mo 4) 7 F, aI cI (mo 6) 4 (up B j wb), aI cI (mo 7) 4 Z, aJ cJ (mo 8) 160 C]) rfl dX5_sheet_66 (fun H locs hW => ?_)
              refine lv_aload_n hx hb dX5_sheet_67 rfl (lv_at hl 0 rfl) ?_
              refine sg_get (ci := 4) (C := RX5) (T := TX5) (N := 15) (v := .ref (mo 7)) hx hb hts (fun _ h => List.mem_cons_of_mem _ (List.mem_append_right _ h)) hown hK hW 0 0 rfl rfl rfl 13 (by decide) (hts _ (List.mem_of_getElem? (i := 4) rfl)) rfl dX5_sheet_68 ?_
              refine lv_iload_n hx hb dX5_sheet_71 rfl (lv_at hl 1 rfl) ?_
              refine lv_iload_n hx hb dX5_sheet_72 rfl (lv_at hl 2 rfl) ?_
              refine nn_zne (tgt := 80) hx hb dX5_sheet_73 (by decide) (by omega) (fun c73_2 => ?_) (fun c73_2 => ?_)
              · refine lv_iload_n hx hb dX5_sheet_80 rfl (lv_at hl 3 rfl) ?_
                refine sg_ist hx hb hK hW 3 0 0 rfl rfl rfl (by omega) (by decide) (aI_set cI (mo 7) 4 Z j y) (ss' := [mH mo R, aI cI (mo 4) 7 F, aI cI (mo 6) 4 (up B j wb), aI cI (mo 7) 4 (up Z j y), aJ cJ (mo 8) 160 C]) rfl dX5_sheet_81 (fun H locs hW => ?_)
                refine lv_iconst (v := nI 0) hx hb dX5_sheet_82 (by decide +kernel) ?_
                refine lv_istore (lv' := [(4, .int (nI 0)), (0, .ref (mo 0)), (1, .int (nI j)), (2, .int (nI wb)), (3, .int (nI y))]) hx hb dX5_sheet_83 hl (by decide) rfl (fun ls hl => ?_)
                have lp85 : ∀ (n : Nat) (i : Nat), 40 - i < n → i ≤ 40 → ∀ (H : Heap) (locs : List Loc), Wo D vwCl A s.heap H locs [mH mo R, aI cI (mo 4) 7 F, aI cI (mo 6) 4 (up B j wb), aI cI (mo 7) 4 (up Z j y), aJ cJ (mo 8) 160 (zrC C j i)] → ∀ ls : Array Slot, lv_has ls 5 [(4, .int (nI i)), (0, .ref (mo 0)), (1, .int (nI j)), (2, .int (nI wb)), (3, .int (nI y))] → W p l e rmX5_sheet s m args below meth c H locs 0 0 Q (F0 m 85 ls []) := by
                  intro n
                  induction n with
                  | zero => intro i hm; exact absurd hm (Nat.not_lt_zero _)
                  | succ n ih =>
                    intro i hm hi H locs hW ls hl
                    refine lv_iload hx hb dX5_sheet_85 (lv_at hl 0 rfl) ?_
                    refine lv_bipush (v := nI 40) hx hb dX5_sheet_87 (by decide +kernel) ?_
                    refine nn_cge (tgt := 111) hx hb dX5_sheet_89 (by decide) (by omega) (by decide) (fun c89_4 => ?_) (fun c89_4 => ?_)
                    · have hi40 : i = 40 := by omega
                      subst hi40
                      refine lv_aload_n hx hb dX5_sheet_111 rfl (lv_at hl 1 rfl) ?_
                      refine sg_get (ci := 4) (C := RX5) (T := TX5) (N := 15) (v := .ref (mo 7)) hx hb hts (fun _ h => List.mem_cons_of_mem _ (List.mem_append_right _ h)) hown hK hW 0 0 rfl rfl rfl 13 (by decide) (hts _ (List.mem_of_getElem? (i := 4) rfl)) rfl dX5_sheet_112 ?_
                      refine lv_iload_n hx hb dX5_sheet_115 rfl (lv_at hl 2 rfl) ?_
                      refine sg_ild (v := nI y) hx hb hK hW 3 0 0 rfl rfl rfl (by omega) (by decide) (congrArg nI (up_eq _ _ _)) dX5_sheet_116 ?_
                      exact rt_i hQ hx hb hr hlocks hW dX5_sheet_117 () (by (try simp only [sheetV, ej, ewb, ey, Int.toNat_natCast]); (repeat' split) <;> first | rfl | (exfalso; omega)) trivial (by (try simp only [sheetB, sheetZ, sheetC, sheetF, ej, ewb, ey, Int.toNat_natCast]); (repeat' split) <;> first | rfl | (exfalso; omega))
                    · refine lv_aload_n hx hb dX5_sheet_92 rfl (lv_at hl 1 rfl) ?_
                      refine sg_get (ci := 4) (C := RX5) (T := TX5) (N := 15) (v := .ref (mo 8)) hx hb hts (fun _ h => List.mem_cons_of_mem _ (List.mem_append_right _ h)) hown hK hW 0 0 rfl rfl rfl 14 (by decide) (hts _ (List.mem_of_getElem? (i := 5) rfl)) rfl dX5_sheet_93 ?_
                      refine lv_bipush (v := nI 40) hx hb dX5_sheet_96 (by decide +kernel) ?_
                      refine lv_iload_n hx hb dX5_sheet_98 rfl (lv_at hl 2 rfl) ?_
                      refine nn_mul hx hb dX5_sheet_99 ?_
                      refine lv_iload hx hb dX5_sheet_100 (lv_at hl 0 rfl) ?_
                      refine nn_add hx hb dX5_sheet_102 ?_
                      refine lv_lconst (v := 0) hx hb dX5_sheet_103 (by decide +kernel) ?_
                      refine sg_lst hx hb hK hW 4 0 1 rfl rfl rfl (by omega) (by decide) (aJ_set cJ (mo 8) 160 (zrC C j i) ((40 * j) + i) 0) (ss' := [mH mo R, aI cI (mo 4) 7 F, aI cI (mo 6) 4 (up B j wb), aI cI (mo 7) 4 (up Z j y), aJ cJ (mo 8) 160 (vp_updL (zrC C j i) ((40 * j) + i) 0)]) rfl dX5_sheet_104 (fun H locs hW => ?_)
                      refine lv_iinc (v := nI (i + 1)) (lv' := [(4, .int (nI (i + 1))), (0, .ref (mo 0)), (1, .int (nI j)), (2, .int (nI wb)), (3, .int (nI y))]) hx hb dX5_sheet_105 hl (k := 0) rfl (nI_add _ 1) (by decide) rfl (fun ls hl => ?_)
                      refine lv_goto (tgt := 85) hx hb dX5_sheet_108 (by decide) ?_
                      have hW := hW.to (ss' := [mH mo R, aI cI (mo 4) 7 F, aI cI (mo 6) 4 (up B j wb), aI cI (mo 7) 4 (up Z j y), aJ cJ (mo 8) 160 (zrC C j (i + 1))]) (by rw [Nat.mul_comm 40 j, zrC_up])
                      exact ih (i + 1) (by omega) (by omega) _ _ hW _ (lv_sub hl [0, 1, 2, 3, 4] rfl)
                have hW := hW.to (ss' := [mH mo R, aI cI (mo 4) 7 F, aI cI (mo 6) 4 (up B j wb), aI cI (mo 7) 4 (up Z j y), aJ cJ (mo 8) 160 (zrC C j 0)]) (by rw [zrC_0])
                exact lp85 (40 - 0 + 1) 0 (Nat.lt_succ_self _) (by omega) _ _ hW _ (lv_sub hl [0, 1, 2, 3, 4] rfl)
              · refine lv_iconst (v := nI 0) hx hb dX5_sheet_76 (by decide +kernel) ?_
                refine lv_goto (tgt := 81) hx hb dX5_sheet_77 (by decide) ?_
                refine sg_ist hx hb hK hW 3 0 0 rfl rfl rfl (by omega) (by decide) (aI_set cI (mo 7) 4 Z j 0) (ss' := [mH mo R, aI cI (mo 4) 7 F, aI cI (mo 6) 4 (up B j wb), aI cI (mo 7) 4 (up Z j 0), aJ cJ (mo 8) 160 C]) rfl dX5_sheet_81 (fun H locs hW => ?_)
                refine lv_iconst (v := nI 0) hx hb dX5_sheet_82 (by decide +kernel) ?_
                refine lv_istore (lv' := [(4, .int (nI 0)), (0, .ref (mo 0)), (1, .int (nI j)), (2, .int (nI wb)), (3, .int (nI y))]) hx hb dX5_sheet_83 hl (by decide) rfl (fun ls hl => ?_)
                have lp85 : ∀ (n : Nat) (i : Nat), 40 - i < n → i ≤ 40 → ∀ (H : Heap) (locs : List Loc), Wo D vwCl A s.heap H locs [mH mo R, aI cI (mo 4) 7 F, aI cI (mo 6) 4 (up B j wb), aI cI (mo 7) 4 (up Z j 0), aJ cJ (mo 8) 160 (zrC C j i)] → ∀ ls : Array Slot, lv_has ls 5 [(4, .int (nI i)), (0, .ref (mo 0)), (1, .int (nI j)), (2, .int (nI wb)), (3, .int (nI y))] → W p l e rmX5_sheet s m args below meth c H locs 0 0 Q (F0 m 85 ls []) := by
                  intro n
                  induction n with
                  | zero => intro i hm; exact absurd hm (Nat.not_lt_zero _)
                  | succ n ih =>
                    intro i hm hi H locs hW ls hl
                    refine lv_iload hx hb dX5_sheet_85 (lv_at hl 0 rfl) ?_
                    refine lv_bipush (v := nI 40) hx hb dX5_sheet_87 (by decide +kernel) ?_
                    refine nn_cge (tgt := 111) hx hb dX5_sheet_89 (by decide) (by omega) (by decide) (fun c89_5 => ?_) (fun c89_5 => ?_)
                    · have hi40 : i = 40 := by omega
                      subst hi40
                      refine lv_aload_n hx hb dX5_sheet_111 rfl (lv_at hl 1 rfl) ?_
                      refine sg_get (ci := 4) (C := RX5) (T := TX5) (N := 15) (v := .ref (mo 7)) hx hb hts (fun _ h => List.mem_cons_of_mem _ (List.mem_append_right _ h)) hown hK hW 0 0 rfl rfl rfl 13 (by decide) (hts _ (List.mem_of_getElem? (i := 4) rfl)) rfl dX5_sheet_112 ?_
                      refine lv_iload_n hx hb dX5_sheet_115 rfl (lv_at hl 2 rfl) ?_
                      refine sg_ild (v := nI 0) hx hb hK hW 3 0 0 rfl rfl rfl (by omega) (by decide) (congrArg nI (up_eq _ _ _)) dX5_sheet_116 ?_
                      exact rt_i hQ hx hb hr hlocks hW dX5_sheet_117 () (by (try simp only [sheetV, ej, ewb, ey, Int.toNat_natCast]); (repeat' split) <;> first | rfl | (exfalso; omega)) trivial (by (try simp only [sheetB, sheetZ, sheetC, sheetF, ej, ewb, ey, Int.toNat_natCast]); (repeat' split) <;> first | rfl | (exfalso; omega))
                    · refine lv_aload_n hx hb dX5_sheet_92 rfl (lv_at hl 1 rfl) ?_
                      refine sg_get (ci := 4) (C := RX5) (T := TX5) (N := 15) (v := .ref (mo 8)) hx hb hts (fun _ h => List.mem_cons_of_mem _ (List.mem_append_right _ h)) hown hK hW 0 0 rfl rfl rfl 14 (by decide) (hts _ (List.mem_of_getElem? (i := 5) rfl)) rfl dX5_sheet_93 ?_
                      refine lv_bipush (v := nI 40) hx hb dX5_sheet_96 (by decide +kernel) ?_
                      refine lv_iload_n hx hb dX5_sheet_98 rfl (lv_at hl 2 rfl) ?_
                      refine nn_mul hx hb dX5_sheet_99 ?_
                      refine lv_iload hx hb dX5_sheet_100 (lv_at hl 0 rfl) ?_
                      refine nn_add hx hb dX5_sheet_102 ?_
                      refine lv_lconst (v := 0) hx hb dX5_sheet_103 (by decide +kernel) ?_
                      refine sg_lst hx hb hK hW 4 0 1 rfl rfl rfl (by omega) (by decide) (aJ_set cJ (mo 8) 160 (zrC C j i) ((40 * j) + i) 0) (ss' := [mH mo R, aI cI (mo 4) 7 F, aI cI (mo 6) 4 (up B j wb), aI cI (mo 7) 4 (up Z j 0), aJ cJ (mo 8) 160 (vp_updL (zrC C j i) ((40 * j) + i) 0)]) rfl dX5_sheet_104 (fun H locs hW => ?_)
                      refine lv_iinc (v := nI (i + 1)) (lv' := [(4, .int (nI (i + 1))), (0, .ref (mo 0)), (1, .int (nI j)), (2, .int (nI wb)), (3, .int (nI y))]) hx hb dX5_sheet_105 hl (k := 0) rfl (nI_add _ 1) (by decide) rfl (fun ls hl => ?_)
                      refine lv_goto (tgt := 85) hx hb dX5_sheet_108 (by decide) ?_
                      have hW := hW.to (ss' := [mH mo R, aI cI (mo 4) 7 F, aI cI (mo 6) 4 (up B j wb), aI cI (mo 7) 4 (up Z j 0), aJ cJ (mo 8) 160 (zrC C j (i + 1))]) (by rw [Nat.mul_comm 40 j, zrC_up])
                      exact ih (i + 1) (by omega) (by omega) _ _ hW _ (lv_sub hl [0, 1, 2, 3, 4] rfl)
                have hW := hW.to (ss' := [mH mo R, aI cI (mo 4) 7 F, aI cI (mo 6) 4 (up B j wb), aI cI (mo 7) 4 (up Z j 0), aJ cJ (mo 8) 160 (zrC C j 0)]) (by rw [zrC_0])
                exact lp85 (40 - 0 + 1) 0 (Nat.lt_succ_self _) (by omega) _ _ hW _ (lv_sub hl [0, 1, 2, 3, 4] rfl)
            · refine lv_aload_n hx hb dX5_sheet_53 rfl (lv_at hl 0 rfl) ?_
              refine lv_ldc (v := -1000000001) hx hb hown (hts _ (List.mem_of_getElem? (i := 1) rfl)) dX5_sheet_54 ?_
              refine cl_Vi (As := [.int (-1000000001)]) (rest := []) (C := RX5) ⟨hx, hb, hml, hown, hts⟩ (M_X5_finds l D cI cJ mo R F 0 (by decide) (-1000000001) (by decide +kernel)) (cwV 1 hts gX5_sheet_X5_finds rfl rfl rfl qX5_finds ⟨Nat.le_of_ble_eq_true rfl, Nat.le_of_ble_eq_true rfl⟩) E0_good hK hA hW trivial [true, true] (fun _ => [mH mo R, aI cI (mo 4) 7 (up F 0 (F 0 + 1)), aI cI (mo 6) 4 B, aI cI (mo 7) 4 Z, aJ cJ (mo 8) 160 C]) rfl (fun _ => rfl) (fun _ => rfl) 0 0 rfl rfl rfl rfl hl.1 rfl (lv_room (Nat.le_of_ble_eq_true rfl)) dX5_sheet_56 ⟨Nat.zero_le _, Nat.zero_le _⟩ (fun _ H locs _ hW => ?_)
              exact rt_i hQ hx hb hr hlocks hW dX5_sheet_59 () (by (try simp only [sheetV]); (repeat' split) <;> first | rfl | (exfalso; omega)) trivial (by (try simp only [sheetB, sheetZ, sheetC, sheetF]); (repeat' split) <;> first | rfl | (exfalso; omega))
          · refine lv_aload_n hx hb dX5_sheet_40 rfl (lv_at hl 0 rfl) ?_
            refine lv_ldc (v := -1000000007) hx hb hown (hts _ (List.mem_of_getElem? (i := 2) rfl)) dX5_sheet_41 ?_
            refine cl_Vi (As := [.int (-1000000007)]) (rest := []) (C := RX5) ⟨hx, hb, hml, hown, hts⟩ (M_X5_finds l D cI cJ mo R F 6 (by decide) (-1000000007) (by decide +kernel)) (cwV 1 hts gX5_sheet_X5_finds rfl rfl rfl qX5_finds ⟨Nat.le_of_ble_eq_true rfl, Nat.le_of_ble_eq_true rfl⟩) E0_good hK hA hW trivial [true, true] (fun _ => [mH mo R, aI cI (mo 4) 7 (up F 6 (F 6 + 1)), aI cI (mo 6) 4 B, aI cI (mo 7) 4 Z, aJ cJ (mo 8) 160 C]) rfl (fun _ => rfl) (fun _ => rfl) 0 0 rfl rfl rfl rfl hl.1 rfl (lv_room (Nat.le_of_ble_eq_true rfl)) dX5_sheet_43 ⟨Nat.zero_le _, Nat.zero_le _⟩ (fun _ H locs _ hW => ?_)
            exact rt_i hQ hx hb hr hlocks hW dX5_sheet_46 () (by (try simp only [sheetV]); (repeat' split) <;> first | rfl | (exfalso; omega)) trivial (by (try simp only [sheetB, sheetZ, sheetC, sheetF]); (repeat' split) <;> first | rfl | (exfalso; omega))
        · refine lv_iload_n hx hb dX5_sheet_23 rfl (lv_at hl 2 rfl) ?_
          refine lv_bipush (v := nI 64) hx hb dX5_sheet_24 (by decide +kernel) ?_
          refine zz_ceq (tgt := 36) hx hb dX5_sheet_26 (by decide) (rfl : w.toInt = w.toInt) (nI_toInt (n := 64) (by decide)) (fun c26 => ?_) (fun c26 => ?_)
          · refine lv_iload_n hx hb dX5_sheet_36 rfl (lv_at hl 3 rfl) ?_
            refine zz_zge (tgt := 47) hx hb dX5_sheet_37 (by decide) (rfl : z.toInt = z.toInt) (fun c37_3 => ?_) (fun c37_3 => ?_)
            · refine lv_iload_n hx hb dX5_sheet_47 rfl (lv_at hl 3 rfl) ?_
              refine lv_bipush (v := nI 40) hx hb dX5_sheet_48 (by decide +kernel) ?_
              refine zz_cle (tgt := 60) hx hb dX5_sheet_50 (by decide) (rfl : z.toInt = z.toInt) (nI_toInt (n := 40) (by decide)) (fun c50_3 => ?_) (fun c50_3 => ?_)
              · obtain ⟨j, hj, ej⟩ : ∃ j : Nat, v = nI j ∧ v.toInt = (j : Int) := ⟨v.toInt.toNat, nI_ofZ rfl (by omega), by omega⟩
                rw [hj] at hl
                obtain ⟨wb, hwb, ewb⟩ : ∃ wb : Nat, w = nI wb ∧ w.toInt = (wb : Int) := ⟨w.toInt.toNat, nI_ofZ rfl (by omega), by omega⟩
                rw [hwb] at hl
                obtain ⟨y, hy, ey⟩ : ∃ y : Nat, z = nI y ∧ z.toInt = (y : Int) := ⟨z.toInt.toNat, nI_ofZ rfl (by omega), by omega⟩
                rw [hy] at hl
                refine lv_aload_n hx hb dX5_sheet_60 rfl (lv_at hl 0 rfl) ?_
                refine sg_get (ci := 4) (C := RX5) (T := TX5) (N := 15) (v := .ref (mo 6)) hx hb hts (fun _ h => List.mem_cons_of_mem _ (List.mem_append_right _ h)) hown hK hW 0 0 rfl rfl rfl 12 (by decide) (hts _ (List.mem_of_getElem? (i := 3) rfl)) rfl dX5_sheet_61 ?_
                refine lv_iload_n hx hb dX5_sheet_64 rfl (lv_at hl 1 rfl) ?_
                refine lv_iload_n hx hb dX5_sheet_65 rfl (lv_at hl 2 rfl) ?_
                refine sg_ist hx hb hK hW 2 0 0 rfl rfl rfl (by omega) (by decide) (aI_set cI (mo 6) 4 B j wb) (ss' := [mH mo R, aI cI (mo 4) 7 F, aI cI (mo 6) 4 (up B j wb), aI cI (mo 7) 4 Z, aJ cJ (mo 8) 160 C]) rfl dX5_sheet_66 (fun H locs hW => ?_)
                refine lv_aload_n hx hb dX5_sheet_67 rfl (lv_at hl 0 rfl) ?_
                refine sg_get (ci := 4) (C := RX5) (T := TX5) (N := 15) (v := .ref (mo 7)) hx hb hts (fun _ h => List.mem_cons_of_mem _ (List.mem_append_right _ h)) hown hK hW 0 0 rfl rfl rfl 13 (by decide) (hts _ (List.mem_of_getElem? (i := 4) rfl)) rfl dX5_sheet_68 ?_
                refine lv_iload_n hx hb dX5_sheet_71 rfl (lv_at hl 1 rfl) ?_
                refine lv_iload_n hx hb dX5_sheet_72 rfl (lv_at hl 2 rfl) ?_
                refine nn_zne (tgt := 80) hx hb dX5_sheet_73 (by decide) (by omega) (fun c73_3 => ?_) (fun c73_3 => ?_)
                · refine lv_iload_n hx hb dX5_sheet_80 rfl (lv_at hl 3 rfl) ?_
                  refine sg_ist hx hb hK hW 3 0 0 rfl rfl rfl (by omega) (by decide) (aI_set cI (mo 7) 4 Z j y) (ss' := [mH mo R, aI cI (mo 4) 7 F, aI cI (mo 6) 4 (up B j wb), aI cI (mo 7) 4 (up Z j y), aJ cJ (mo 8) 160 C]) rfl dX5_sheet_81 (fun H locs hW => ?_)
                  refine lv_iconst (v := nI 0) hx hb dX5_sheet_82 (by decide +kernel) ?_
                  refine lv_istore (lv' := [(4, .int (nI 0)), (0, .ref (mo 0)), (1, .int (nI j)), (2, .int (nI wb)), (3, .int (nI y))]) hx hb dX5_sheet_83 hl (by decide) rfl (fun ls hl => ?_)
                  have lp85 : ∀ (n : Nat) (i : Nat), 40 - i < n → i ≤ 40 → ∀ (H : Heap) (locs : List Loc), Wo D vwCl A s.heap H locs [mH mo R, aI cI (mo 4) 7 F, aI cI (mo 6) 4 (up B j wb), aI cI (mo 7) 4 (up Z j y), aJ cJ (mo 8) 160 (zrC C j i)] → ∀ ls : Array Slot, lv_has ls 5 [(4, .int (nI i)), (0, .ref (mo 0)), (1, .int (nI j)), (2, .int (nI wb)), (3, .int (nI y))] → W p l e rmX5_sheet s m args below meth c H locs 0 0 Q (F0 m 85 ls []) := by
                    intro n
                    induction n with
                    | zero => intro i hm; exact absurd hm (Nat.not_lt_zero _)
                    | succ n ih =>
                      intro i hm hi H locs hW ls hl
                      refine lv_iload hx hb dX5_sheet_85 (lv_at hl 0 rfl) ?_
                      refine lv_bipush (v := nI 40) hx hb dX5_sheet_87 (by decide +kernel) ?_
                      refine nn_cge (tgt := 111) hx hb dX5_sheet_89 (by decide) (by omega) (by decide) (fun c89_6 => ?_) (fun c89_6 => ?_)
                      · have hi40 : i = 40 := by omega
                        subst hi40
                        refine lv_aload_n hx hb dX5_sheet_111 rfl (lv_at hl 1 rfl) ?_
                        refine sg_get (ci := 4) (C := RX5) (T := TX5) (N := 15) (v := .ref (mo 7)) hx hb hts (fun _ h => List.mem_cons_of_mem _ (List.mem_append_right _ h)) hown hK hW 0 0 rfl rfl rfl 13 (by decide) (hts _ (List.mem_of_getElem? (i := 4) rfl)) rfl dX5_sheet_112 ?_
                        refine lv_iload_n hx hb dX5_sheet_115 rfl (lv_at hl 2 rfl) ?_
                        refine sg_ild (v := nI y) hx hb hK hW 3 0 0 rfl rfl rfl (by omega) (by decide) (congrArg nI (up_eq _ _ _)) dX5_sheet_116 ?_
                        exact rt_i hQ hx hb hr hlocks hW dX5_sheet_117 () (by (try simp only [sheetV, ej, ewb, ey, Int.toNat_natCast]); (repeat' split) <;> first | rfl | (exfalso; omega)) trivial (by (try simp only [sheetB, sheetZ, sheetC, sheetF, ej, ewb, ey, Int.toNat_natCast]); (repeat' split) <;> first | rfl | (exfalso; omega))
                      · refine lv_aload_n hx hb dX5_sheet_92 rfl (lv_at hl 1 rfl) ?_
                        refine sg_get (ci := 4) (C := RX5) (T := TX5) (N := 15) (v := .ref (mo 8)) hx hb hts (fun _ h => List.mem_cons_of_mem _ (List.mem_append_right _ h)) hown hK hW 0 0 rfl rfl rfl 14 (by decide) (hts _ (List.mem_of_getElem? (i := 5) rfl)) rfl dX5_sheet_93 ?_
                        refine lv_bipush (v := nI 40) hx hb dX5_sheet_96 (by decide +kernel) ?_
                        refine lv_iload_n hx hb dX5_sheet_98 rfl (lv_at hl 2 rfl) ?_
                        refine nn_mul hx hb dX5_sheet_99 ?_
                        refine lv_iload hx hb dX5_sheet_100 (lv_at hl 0 rfl) ?_
                        refine nn_add hx hb dX5_sheet_102 ?_
                        refine lv_lconst (v := 0) hx hb dX5_sheet_103 (by decide +kernel) ?_
                        refine sg_lst hx hb hK hW 4 0 1 rfl rfl rfl (by omega) (by decide) (aJ_set cJ (mo 8) 160 (zrC C j i) ((40 * j) + i) 0) (ss' := [mH mo R, aI cI (mo 4) 7 F, aI cI (mo 6) 4 (up B j wb), aI cI (mo 7) 4 (up Z j y), aJ cJ (mo 8) 160 (vp_updL (zrC C j i) ((40 * j) + i) 0)]) rfl dX5_sheet_104 (fun H locs hW => ?_)
                        refine lv_iinc (v := nI (i + 1)) (lv' := [(4, .int (nI (i + 1))), (0, .ref (mo 0)), (1, .int (nI j)), (2, .int (nI wb)), (3, .int (nI y))]) hx hb dX5_sheet_105 hl (k := 0) rfl (nI_add _ 1) (by decide) rfl (fun ls hl => ?_)
                        refine lv_goto (tgt := 85) hx hb dX5_sheet_108 (by decide) ?_
                        have hW := hW.to (ss' := [mH mo R, aI cI (mo 4) 7 F, aI cI (mo 6) 4 (up B j wb), aI cI (mo 7) 4 (up Z j y), aJ cJ (mo 8) 160 (zrC C j (i + 1))]) (by rw [Nat.mul_comm 40 j, zrC_up])
                        exact ih (i + 1) (by omega) (by omega) _ _ hW _ (lv_sub hl [0, 1, 2, 3, 4] rfl)
                  have hW := hW.to (ss' := [mH mo R, aI cI (mo 4) 7 F, aI cI (mo 6) 4 (up B j wb), aI cI (mo 7) 4 (up Z j y), aJ cJ (mo 8) 160 (zrC C j 0)]) (by rw [zrC_0])
                  exact lp85 (40 - 0 + 1) 0 (Nat.lt_succ_self _) (by omega) _ _ hW _ (lv_sub hl [0, 1, 2, 3, 4] rfl)
                · refine lv_iconst (v := nI 0) hx hb dX5_sheet_76 (by decide +kernel) ?_
                  refine lv_goto (tgt := 81) hx hb dX5_sheet_77 (by decide) ?_
                  refine sg_ist hx hb hK hW 3 0 0 rfl rfl rfl (by omega) (by decide) (aI_set cI (mo 7) 4 Z j 0) (ss' := [mH mo R, aI cI (mo 4) 7 F, aI cI (mo 6) 4 (up B j wb), aI cI (mo 7) 4 (up Z j 0), aJ cJ (mo 8) 160 C]) rfl dX5_sheet_81 (fun H locs hW => ?_)
                  refine lv_iconst (v := nI 0) hx hb dX5_sheet_82 (by decide +kernel) ?_
                  refine lv_istore (lv' := [(4, .int (nI 0)), (0, .ref (mo 0)), (1, .int (nI j)), (2, .int (nI wb)), (3, .int (nI y))]) hx hb dX5_sheet_83 hl (by decide) rfl (fun ls hl => ?_)
                  have lp85 : ∀ (n : Nat) (i : Nat), 40 - i < n → i ≤ 40 → ∀ (H : Heap) (locs : List Loc), Wo D vwCl A s.heap H locs [mH mo R, aI cI (mo 4) 7 F, aI cI (mo 6) 4 (up B j wb), aI cI (mo 7) 4 (up Z j 0), aJ cJ (mo 8) 160 (zrC C j i)] → ∀ ls : Array Slot, lv_has ls 5 [(4, .int (nI i)), (0, .ref (mo 0)), (1, .int (nI j)), (2, .int (nI wb)), (3, .int (nI y))] → W p l e rmX5_sheet s m args below meth c H locs 0 0 Q (F0 m 85 ls []) := by
                    intro n
                    induction n with
                    | zero => intro i hm; exact absurd hm (Nat.not_lt_zero _)
                    | succ n ih =>
                      intro i hm hi H locs hW ls hl
                      refine lv_iload hx hb dX5_sheet_85 (lv_at hl 0 rfl) ?_
                      refine lv_bipush (v := nI 40) hx hb dX5_sheet_87 (by decide +kernel) ?_
                      refine nn_cge (tgt := 111) hx hb dX5_sheet_89 (by decide) (by omega) (by decide) (fun c89_7 => ?_) (fun c89_7 => ?_)
                      · have hi40 : i = 40 := by omega
                        subst hi40
                        refine lv_aload_n hx hb dX5_sheet_111 rfl (lv_at hl 1 rfl) ?_
                        refine sg_get (ci := 4) (C := RX5) (T := TX5) (N := 15) (v := .ref (mo 7)) hx hb hts (fun _ h => List.mem_cons_of_mem _ (List.mem_append_right _ h)) hown hK hW 0 0 rfl rfl rfl 13 (by decide) (hts _ (List.mem_of_getElem? (i := 4) rfl)) rfl dX5_sheet_112 ?_
                        refine lv_iload_n hx hb dX5_sheet_115 rfl (lv_at hl 2 rfl) ?_
                        refine sg_ild (v := nI 0) hx hb hK hW 3 0 0 rfl rfl rfl (by omega) (by decide) (congrArg nI (up_eq _ _ _)) dX5_sheet_116 ?_
                        exact rt_i hQ hx hb hr hlocks hW dX5_sheet_117 () (by (try simp only [sheetV, ej, ewb, ey, Int.toNat_natCast]); (repeat' split) <;> first | rfl | (exfalso; omega)) trivial (by (try simp only [sheetB, sheetZ, sheetC, sheetF, ej, ewb, ey, Int.toNat_natCast]); (repeat' split) <;> first | rfl | (exfalso; omega))
                      · refine lv_aload_n hx hb dX5_sheet_92 rfl (lv_at hl 1 rfl) ?_
                        refine sg_get (ci := 4) (C := RX5) (T := TX5) (N := 15) (v := .ref (mo 8)) hx hb hts (fun _ h => List.mem_cons_of_mem _ (List.mem_append_right _ h)) hown hK hW 0 0 rfl rfl rfl 14 (by decide) (hts _ (List.mem_of_getElem? (i := 5) rfl)) rfl dX5_sheet_93 ?_
                        refine lv_bipush (v := nI 40) hx hb dX5_sheet_96 (by decide +kernel) ?_
                        refine lv_iload_n hx hb dX5_sheet_98 rfl (lv_at hl 2 rfl) ?_
                        refine nn_mul hx hb dX5_sheet_99 ?_
                        refine lv_iload hx hb dX5_sheet_100 (lv_at hl 0 rfl) ?_
                        refine nn_add hx hb dX5_sheet_102 ?_
                        refine lv_lconst (v := 0) hx hb dX5_sheet_103 (by decide +kernel) ?_
                        refine sg_lst hx hb hK hW 4 0 1 rfl rfl rfl (by omega) (by decide) (aJ_set cJ (mo 8) 160 (zrC C j i) ((40 * j) + i) 0) (ss' := [mH mo R, aI cI (mo 4) 7 F, aI cI (mo 6) 4 (up B j wb), aI cI (mo 7) 4 (up Z j 0), aJ cJ (mo 8) 160 (vp_updL (zrC C j i) ((40 * j) + i) 0)]) rfl dX5_sheet_104 (fun H locs hW => ?_)
                        refine lv_iinc (v := nI (i + 1)) (lv' := [(4, .int (nI (i + 1))), (0, .ref (mo 0)), (1, .int (nI j)), (2, .int (nI wb)), (3, .int (nI y))]) hx hb dX5_sheet_105 hl (k := 0) rfl (nI_add _ 1) (by decide) rfl (fun ls hl => ?_)
                        refine lv_goto (tgt := 85) hx hb dX5_sheet_108 (by decide) ?_
                        have hW := hW.to (ss' := [mH mo R, aI cI (mo 4) 7 F, aI cI (mo 6) 4 (up B j wb), aI cI (mo 7) 4 (up Z j 0), aJ cJ (mo 8) 160 (zrC C j (i + 1))]) (by rw [Nat.mul_comm 40 j, zrC_up])
                        exact ih (i + 1) (by omega) (by omega) _ _ hW _ (lv_sub hl [0, 1, 2, 3, 4] rfl)
                  have hW := hW.to (ss' := [mH mo R, aI cI (mo 4) 7 F, aI cI (mo 6) 4 (up B j wb), aI cI (mo 7) 4 (up Z j 0), aJ cJ (mo 8) 160 (zrC C j 0)]) (by rw [zrC_0])
                  exact lp85 (40 - 0 + 1) 0 (Nat.lt_succ_self _) (by omega) _ _ hW _ (lv_sub hl [0, 1, 2, 3, 4] rfl)
              · refine lv_aload_n hx hb dX5_sheet_53 rfl (lv_at hl 0 rfl) ?_
                refine lv_ldc (v := -1000000001) hx hb hown (hts _ (List.mem_of_getElem? (i := 1) rfl)) dX5_sheet_54 ?_
                refine cl_Vi (As := [.int (-1000000001)]) (rest := []) (C := RX5) ⟨hx, hb, hml, hown, hts⟩ (M_X5_finds l D cI cJ mo R F 0 (by decide) (-1000000001) (by decide +kernel)) (cwV 1 hts gX5_sheet_X5_finds rfl rfl rfl qX5_finds ⟨Nat.le_of_ble_eq_true rfl, Nat.le_of_ble_eq_true rfl⟩) E0_good hK hA hW trivial [true, true] (fun _ => [mH mo R, aI cI (mo 4) 7 (up F 0 (F 0 + 1)), aI cI (mo 6) 4 B, aI cI (mo 7) 4 Z, aJ cJ (mo 8) 160 C]) rfl (fun _ => rfl) (fun _ => rfl) 0 0 rfl rfl rfl rfl hl.1 rfl (lv_room (Nat.le_of_ble_eq_true rfl)) dX5_sheet_56 ⟨Nat.zero_le _, Nat.zero_le _⟩ (fun _ H locs _ hW => ?_)
                exact rt_i hQ hx hb hr hlocks hW dX5_sheet_59 () (by (try simp only [sheetV]); (repeat' split) <;> first | rfl | (exfalso; omega)) trivial (by (try simp only [sheetB, sheetZ, sheetC, sheetF]); (repeat' split) <;> first | rfl | (exfalso; omega))
            · refine lv_aload_n hx hb dX5_sheet_40 rfl (lv_at hl 0 rfl) ?_
              refine lv_ldc (v := -1000000007) hx hb hown (hts _ (List.mem_of_getElem? (i := 2) rfl)) dX5_sheet_41 ?_
              refine cl_Vi (As := [.int (-1000000007)]) (rest := []) (C := RX5) ⟨hx, hb, hml, hown, hts⟩ (M_X5_finds l D cI cJ mo R F 6 (by decide) (-1000000007) (by decide +kernel)) (cwV 1 hts gX5_sheet_X5_finds rfl rfl rfl qX5_finds ⟨Nat.le_of_ble_eq_true rfl, Nat.le_of_ble_eq_true rfl⟩) E0_good hK hA hW trivial [true, true] (fun _ => [mH mo R, aI cI (mo 4) 7 (up F 6 (F 6 + 1)), aI cI (mo 6) 4 B, aI cI (mo 7) 4 Z, aJ cJ (mo 8) 160 C]) rfl (fun _ => rfl) (fun _ => rfl) 0 0 rfl rfl rfl rfl hl.1 rfl (lv_room (Nat.le_of_ble_eq_true rfl)) dX5_sheet_43 ⟨Nat.zero_le _, Nat.zero_le _⟩ (fun _ H locs _ hW => ?_)
              exact rt_i hQ hx hb hr hlocks hW dX5_sheet_46 () (by (try simp only [sheetV]); (repeat' split) <;> first | rfl | (exfalso; omega)) trivial (by (try simp only [sheetB, sheetZ, sheetC, sheetF]); (repeat' split) <;> first | rfl | (exfalso; omega))
          · refine lv_aload_n hx hb dX5_sheet_29 rfl (lv_at hl 0 rfl) ?_
            refine lv_ldc (v := -1000000001) hx hb hown (hts _ (List.mem_of_getElem? (i := 1) rfl)) dX5_sheet_30 ?_
            refine cl_Vi (As := [.int (-1000000001)]) (rest := []) (C := RX5) ⟨hx, hb, hml, hown, hts⟩ (M_X5_finds l D cI cJ mo R F 0 (by decide) (-1000000001) (by decide +kernel)) (cwV 1 hts gX5_sheet_X5_finds rfl rfl rfl qX5_finds ⟨Nat.le_of_ble_eq_true rfl, Nat.le_of_ble_eq_true rfl⟩) E0_good hK hA hW trivial [true, true] (fun _ => [mH mo R, aI cI (mo 4) 7 (up F 0 (F 0 + 1)), aI cI (mo 6) 4 B, aI cI (mo 7) 4 Z, aJ cJ (mo 8) 160 C]) rfl (fun _ => rfl) (fun _ => rfl) 0 0 rfl rfl rfl rfl hl.1 rfl (lv_room (Nat.le_of_ble_eq_true rfl)) dX5_sheet_32 ⟨Nat.zero_le _, Nat.zero_le _⟩ (fun _ H locs _ hW => ?_)
            exact rt_i hQ hx hb hr hlocks hW dX5_sheet_35 () (by (try simp only [sheetV]); (repeat' split) <;> first | rfl | (exfalso; omega)) trivial (by (try simp only [sheetB, sheetZ, sheetC, sheetF]); (repeat' split) <;> first | rfl | (exfalso; omega))
abbrev rmX5_write : Room := { frames := 3, cells := 0, slots := 0, locals := 64 }
set_option maxRecDepth 100000 in
set_option maxHeartbeats 4000000 in
theorem M_X5_write (l : Launch) (D : va_G) (cI cJ : ClassId) (mo R F B Z : Nat → Nat) (C : Nat → Int64) (hS : OkS B Z) (v z : Int32) (lv : Int64) : CE E0 l D vwCl [(cI, .int), (cJ, .long)] yX5_write wsX5_write rmX5_write [.ref (mo 0), .int v, .int z, .long lv] [mH mo R, aI cI (mo 4) 7 F, aI cI (mo 6) 4 B, aI cI (mo 7) 4 Z, aJ cJ (mo 8) 160 C] (S := Unit) (some (.long (writeV B Z C v.toInt z.toInt))) (fun _ => True) (fun _ : Unit => [mH mo R, aI cI (mo 4) 7 (writeF B Z F v.toInt z.toInt), aI cI (mo 6) 4 B, aI cI (mo 7) 4 Z, aJ cJ (mo 8) 160 (writeC B Z C v.toInt z.toInt lv)]) 0 0 := by
  refine CE.ofW (cc := cX5_write) (maxL := 8) (ret := (some .long)) (lv := [(0, .ref (mo 0)), (1, .int v), (2, .int z), (3, .long lv)]) (by decide) rfl (Nat.le_of_ble_eq_true rfl) rfl ?_
  intro p e s m args below meth c ls A Q hQ hx hb hml hr hlocks hnm hown hts hK hA hE hW hl
  have hown : s.vm.findClass RX5 = some m.cls := hown
  refine lv_aload_n hx hb dX5_write_0 rfl (lv_at hl 0 rfl) ?_
  refine lv_iload_n hx hb dX5_write_1 rfl (lv_at hl 1 rfl) ?_
  refine cl_Vi (As := [.int v]) (rest := []) (C := RX5) ⟨hx, hb, hml, hown, hts⟩ (M_X5_notThere l D cI cJ mo R B (fun j hj => (hS j hj).1) v) (cwV 1 hts gX5_write_X5_notThere rfl rfl rfl qX5_notThere ⟨Nat.le_of_ble_eq_true rfl, Nat.le_of_ble_eq_true rfl⟩) E0_good hK hA hW trivial [true, false, true] (fun _ => [mH mo R, aI cI (mo 4) 7 F, aI cI (mo 6) 4 B, aI cI (mo 7) 4 Z, aJ cJ (mo 8) 160 C]) rfl (fun _ => rfl) (fun _ => rfl) 0 0 rfl rfl rfl rfl hl.1 rfl (lv_room (Nat.le_of_ble_eq_true rfl)) dX5_write_2 ⟨Nat.zero_le _, Nat.zero_le _⟩ (fun _ H locs _ hW => ?_)
  refine lv_istore (lv' := [(5, .int (notV B v.toInt)), (0, .ref (mo 0)), (1, .int v), (2, .int z), (3, .long lv)]) hx hb dX5_write_5 hl (by decide) rfl (fun ls hl => ?_)
  rcases notV_or B v.toInt with ⟨hnv, hnv1, hnv2⟩ | ⟨hnv, hnv1, hnv2⟩ | ⟨hnv, hnv1⟩
  · rw [hnv] at hl
    refine lv_iload hx hb dX5_write_7 (lv_at hl 0 rfl) ?_
    refine nn_zne (tgt := 33) hx hb dX5_write_9 (by decide) (by decide) (fun c9 => ?_) (fun c9 => ?_)
    · exfalso; omega
    · obtain ⟨j, hj, ej⟩ : ∃ j : Nat, v = nI j ∧ v.toInt = (j : Int) := ⟨v.toInt.toNat, nI_ofZ rfl (by omega), by omega⟩
      rw [hj] at hl
      have hSj := hS j (by omega)
      rw [ej, Int.toNat_natCast] at hnv2
      refine lv_iload_n hx hb dX5_write_12 rfl (lv_at hl 3 rfl) ?_
      refine lv_i2l (v := (z).toInt64) hx hb dX5_write_13 rfl ?_
      refine lv_iconst (v := nI 0) hx hb dX5_write_14 (by decide +kernel) ?_
      refine lv_aload_n hx hb dX5_write_15 rfl (lv_at hl 1 rfl) ?_
      refine sg_get (ci := 4) (C := RX5) (T := TX5) (N := 15) (v := .ref (mo 7)) hx hb hts (fun _ h => List.mem_cons_of_mem _ (List.mem_append_right _ h)) hown hK hW 0 0 rfl rfl rfl 13 (by decide) (hts _ (List.mem_of_getElem? (i := 1) rfl)) rfl dX5_write_16 ?_
      refine lv_iload_n hx hb dX5_write_19 rfl (lv_at hl 2 rfl) ?_
      refine sg_ild (v := nI (Z j)) hx hb hK hW 3 0 0 rfl rfl rfl (by omega) (by decide) rfl dX5_write_20 ?_
      refine lv_iconst (v := nI 1) hx hb dX5_write_21 (by decide +kernel) ?_
      refine lv_isub hx hb dX5_write_22 ?_
      refine cl_Si (As := [.long ((z).toInt64), .int (nI 0), .int ((nI (Z j)) - (nI 1))]) (rest := []) ⟨hx, hb, hml, hown, hts⟩ (M_X5_in2 l D cI cJ ((z).toInt64) (nI 0) ((nI (Z j)) - (nI 1)) z.toInt ((0 : Nat) : Int) (((Z j : Nat) : Int) - ((1 : Nat) : Int)) ((Int32.toInt_toInt64 _).trans rfl) (nI_toInt (n := 0) (by decide)) (pk_sub_toInt (by omega) (by omega))) (va_cwS 3 hts gX5_write_X5_in rfl rfl rfl qX5_in ⟨Nat.le_of_ble_eq_true rfl, Nat.le_of_ble_eq_true rfl⟩) E0_good hK hA hW trivial [] (fun _ => [mH mo R, aI cI (mo 4) 7 F, aI cI (mo 6) 4 B, aI cI (mo 7) 4 Z, aJ cJ (mo 8) 160 C]) rfl (fun _ => rfl) (fun _ => rfl) rfl hl.1 rfl (lv_room (Nat.le_of_ble_eq_true rfl)) dX5_write_23 ⟨Nat.zero_le _, Nat.zero_le _⟩ (fun _ H locs _ hW => ?_)
      have hin_ := inZ_or z.toInt ((0 : Nat) : Int) (((Z j : Nat) : Int) - ((1 : Nat) : Int))
      refine nn_zne (tgt := 33) hx hb dX5_write_26 (by decide) (by omega) (fun c26 => ?_) (fun c26 => ?_)
      · refine lv_iload hx hb dX5_write_33 (lv_at hl 0 rfl) ?_
        refine nn_zeq (tgt := 46) hx hb dX5_write_35 (by decide) (by decide) (fun c35 => ?_) (fun c35 => ?_)
        · obtain ⟨y, hy, ey⟩ : ∃ y : Nat, z = nI y ∧ z.toInt = (y : Int) := ⟨z.toInt.toNat, nI_ofZ rfl (by omega), by omega⟩
          rw [hy] at hl
          refine lv_aload_n hx hb dX5_write_46 rfl (lv_at hl 1 rfl) ?_
          refine sg_get (ci := 4) (C := RX5) (T := TX5) (N := 15) (v := .ref (mo 8)) hx hb hts (fun _ h => List.mem_cons_of_mem _ (List.mem_append_right _ h)) hown hK hW 0 0 rfl rfl rfl 14 (by decide) (hts _ (List.mem_of_getElem? (i := 3) rfl)) rfl dX5_write_47 ?_
          refine lv_bipush (v := nI 40) hx hb dX5_write_50 (by decide +kernel) ?_
          refine lv_iload_n hx hb dX5_write_52 rfl (lv_at hl 2 rfl) ?_
          refine nn_mul hx hb dX5_write_53 ?_
          refine lv_iload_n hx hb dX5_write_54 rfl (lv_at hl 3 rfl) ?_
          refine nn_add hx hb dX5_write_55 ?_
          refine sg_lld (v := C ((40 * j) + y)) hx hb hK hW 4 0 1 rfl rfl rfl (by omega) (by decide) rfl dX5_write_56 ?_
          refine lv_lstore (lv' := [(6, .long (C ((40 * j) + y))), (5, .int (nI 0)), (0, .ref (mo 0)), (1, .int (nI j)), (2, .int (nI y)), (3, .long lv)]) hx hb dX5_write_57 hl (by decide) rfl (fun ls hl => ?_)
          refine lv_aload_n hx hb dX5_write_59 rfl (lv_at hl 2 rfl) ?_
          refine sg_get (ci := 4) (C := RX5) (T := TX5) (N := 15) (v := .ref (mo 8)) hx hb hts (fun _ h => List.mem_cons_of_mem _ (List.mem_append_right _ h)) hown hK hW 0 0 rfl rfl rfl 14 (by decide) (hts _ (List.mem_of_getElem? (i := 3) rfl)) rfl dX5_write_60 ?_
          refine lv_bipush (v := nI 40) hx hb dX5_write_63 (by decide +kernel) ?_
          refine lv_iload_n hx hb dX5_write_65 rfl (lv_at hl 3 rfl) ?_
          refine nn_mul hx hb dX5_write_66 ?_
          refine lv_iload_n hx hb dX5_write_67 rfl (lv_at hl 4 rfl) ?_
          refine nn_add hx hb dX5_write_68 ?_
          refine lv_aload_n hx hb dX5_write_69 rfl (lv_at hl 2 rfl) ?_
          refine sg_get (ci := 4) (C := RX5) (T := TX5) (N := 15) (v := .ref (mo 6)) hx hb hts (fun _ h => List.mem_cons_of_mem _ (List.mem_append_right _ h)) hown hK hW 0 0 rfl rfl rfl 12 (by decide) (hts _ (List.mem_of_getElem? (i := 4) rfl)) rfl dX5_write_70 ?_
          refine lv_iload_n hx hb dX5_write_73 rfl (lv_at hl 3 rfl) ?_
          refine sg_ild (v := nI (B j)) hx hb hK hW 2 0 0 rfl rfl rfl (by omega) (by decide) rfl dX5_write_74 ?_
          refine lv_lload_n hx hb dX5_write_75 rfl (lv_at hl 5 rfl) ?_
          refine cl_Sl (As := [.int (nI (B j)), .long lv]) (rest := [.int (nI ((40 * j) + y)), .ref (mo 8)]) ⟨hx, hb, hml, hown, hts⟩ (M_X5_cutTo l D cI cJ (B j) (by omega) lv) (va_cwS 2 hts gX5_write_X5_cutTo rfl rfl rfl qX5_cutTo ⟨Nat.le_of_ble_eq_true rfl, Nat.le_of_ble_eq_true rfl⟩) E0_good hK hA hW trivial [] (fun _ => [mH mo R, aI cI (mo 4) 7 F, aI cI (mo 6) 4 B, aI cI (mo 7) 4 Z, aJ cJ (mo 8) 160 C]) rfl (fun _ => rfl) (fun _ => rfl) rfl hl.1 rfl (lv_room (Nat.le_of_ble_eq_true rfl)) dX5_write_76 ⟨Nat.zero_le _, Nat.zero_le _⟩ (fun _ H locs _ hW => ?_)
          refine sg_lst hx hb hK hW 4 0 1 rfl rfl rfl (by omega) (by decide) (aJ_set cJ (mo 8) 160 C ((40 * j) + y) (cutV (B j) lv)) (ss' := [mH mo R, aI cI (mo 4) 7 F, aI cI (mo 6) 4 B, aI cI (mo 7) 4 Z, aJ cJ (mo 8) 160 (vp_updL C ((40 * j) + y) (cutV (B j) lv))]) rfl dX5_write_79 (fun H locs hW => ?_)
          refine lv_lload hx hb dX5_write_80 (lv_at hl 0 rfl) ?_
          exact rt_l hQ hx hb hr hlocks hW dX5_write_82 () (by (try simp only [writeV, i64_1, i64_6, Nat.mul_comm 40 j, ej, ey, Int.toNat_natCast]); (repeat' split) <;> first | rfl | (exfalso; omega)) trivial (by (try simp only [writeF, writeC, Nat.mul_comm 40 j, ej, ey, Int.toNat_natCast]); (repeat' split) <;> first | rfl | (exfalso; omega))
        · exfalso; omega
      · refine lv_ldc (v := -1000000001) hx hb hown (hts _ (List.mem_of_getElem? (i := 2) rfl)) dX5_write_29 ?_
        refine lv_istore (lv' := [(5, .int (-1000000001)), (0, .ref (mo 0)), (1, .int (nI j)), (2, .int z), (3, .long lv)]) hx hb dX5_write_31 hl (by decide) rfl (fun ls hl => ?_)
        refine lv_iload hx hb dX5_write_33 (lv_at hl 0 rfl) ?_
        refine zz_zeq (tgt := 46) hx hb dX5_write_35 (by decide) (show ((-1000000001) : Int32).toInt = (-1000000001) by decide +kernel) (fun c35_1 => ?_) (fun c35_1 => ?_)
        · exfalso; omega
        · refine lv_aload_n hx hb dX5_write_38 rfl (lv_at hl 1 rfl) ?_
          refine lv_iload hx hb dX5_write_39 (lv_at hl 0 rfl) ?_
          refine cl_Vi (As := [.int (-1000000001)]) (rest := []) (C := RX5) ⟨hx, hb, hml, hown, hts⟩ (M_X5_finds l D cI cJ mo R F 0 (by decide) (-1000000001) (by decide +kernel)) (cwV 1 hts gX5_write_X5_finds rfl rfl rfl qX5_finds ⟨Nat.le_of_ble_eq_true rfl, Nat.le_of_ble_eq_true rfl⟩) E0_good hK hA hW trivial [true, true] (fun _ => [mH mo R, aI cI (mo 4) 7 (up F 0 (F 0 + 1)), aI cI (mo 6) 4 B, aI cI (mo 7) 4 Z, aJ cJ (mo 8) 160 C]) rfl (fun _ => rfl) (fun _ => rfl) 0 0 rfl rfl rfl rfl hl.1 rfl (lv_room (Nat.le_of_ble_eq_true rfl)) dX5_write_41 ⟨Nat.zero_le _, Nat.zero_le _⟩ (fun _ H locs _ hW => ?_)
          refine lv_i2l (v := ((-1000000001)).toInt64) hx hb dX5_write_44 rfl ?_
          exact rt_l hQ hx hb hr hlocks hW dX5_write_45 () (by (try simp only [writeV, i64_1, i64_6, ej, Int.toNat_natCast]); (repeat' split) <;> first | rfl | (exfalso; omega)) trivial (by (try simp only [writeF, writeC, ej, Int.toNat_natCast]); (repeat' split) <;> first | rfl | (exfalso; omega))
  · rw [hnv] at hl
    refine lv_iload hx hb dX5_write_7 (lv_at hl 0 rfl) ?_
    refine zz_zne (tgt := 33) hx hb dX5_write_9 (by decide) (show ((-1000000006) : Int32).toInt = (-1000000006) by decide +kernel) (fun c9_1 => ?_) (fun c9_1 => ?_)
    · refine lv_iload hx hb dX5_write_33 (lv_at hl 0 rfl) ?_
      refine zz_zeq (tgt := 46) hx hb dX5_write_35 (by decide) (show ((-1000000006) : Int32).toInt = (-1000000006) by decide +kernel) (fun c35_2 => ?_) (fun c35_2 => ?_)
      · exfalso; omega
      · refine lv_aload_n hx hb dX5_write_38 rfl (lv_at hl 1 rfl) ?_
        refine lv_iload hx hb dX5_write_39 (lv_at hl 0 rfl) ?_
        refine cl_Vi (As := [.int (-1000000006)]) (rest := []) (C := RX5) ⟨hx, hb, hml, hown, hts⟩ (M_X5_finds l D cI cJ mo R F 5 (by decide) (-1000000006) (by decide +kernel)) (cwV 1 hts gX5_write_X5_finds rfl rfl rfl qX5_finds ⟨Nat.le_of_ble_eq_true rfl, Nat.le_of_ble_eq_true rfl⟩) E0_good hK hA hW trivial [true, true] (fun _ => [mH mo R, aI cI (mo 4) 7 (up F 5 (F 5 + 1)), aI cI (mo 6) 4 B, aI cI (mo 7) 4 Z, aJ cJ (mo 8) 160 C]) rfl (fun _ => rfl) (fun _ => rfl) 0 0 rfl rfl rfl rfl hl.1 rfl (lv_room (Nat.le_of_ble_eq_true rfl)) dX5_write_41 ⟨Nat.zero_le _, Nat.zero_le _⟩ (fun _ H locs _ hW => ?_)
        refine lv_i2l (v := ((-1000000006)).toInt64) hx hb dX5_write_44 rfl ?_
        exact rt_l hQ hx hb hr hlocks hW dX5_write_45 () (by (try simp only [writeV, i64_1, i64_6]); (repeat' split) <;> first | rfl | (exfalso; omega)) trivial (by (try simp only [writeF, writeC]); (repeat' split) <;> first | rfl | (exfalso; omega))
    · exfalso; omega
  · rw [hnv] at hl
    refine lv_iload hx hb dX5_write_7 (lv_at hl 0 rfl) ?_
    refine zz_zne (tgt := 33) hx hb dX5_write_9 (by decide) (show ((-1000000001) : Int32).toInt = (-1000000001) by decide +kernel) (fun c9_2 => ?_) (fun c9_2 => ?_)
    · refine lv_iload hx hb dX5_write_33 (lv_at hl 0 rfl) ?_
      refine zz_zeq (tgt := 46) hx hb dX5_write_35 (by decide) (show ((-1000000001) : Int32).toInt = (-1000000001) by decide +kernel) (fun c35_3 => ?_) (fun c35_3 => ?_)
      · exfalso; omega
      · refine lv_aload_n hx hb dX5_write_38 rfl (lv_at hl 1 rfl) ?_
        refine lv_iload hx hb dX5_write_39 (lv_at hl 0 rfl) ?_
        refine cl_Vi (As := [.int (-1000000001)]) (rest := []) (C := RX5) ⟨hx, hb, hml, hown, hts⟩ (M_X5_finds l D cI cJ mo R F 0 (by decide) (-1000000001) (by decide +kernel)) (cwV 1 hts gX5_write_X5_finds rfl rfl rfl qX5_finds ⟨Nat.le_of_ble_eq_true rfl, Nat.le_of_ble_eq_true rfl⟩) E0_good hK hA hW trivial [true, true] (fun _ => [mH mo R, aI cI (mo 4) 7 (up F 0 (F 0 + 1)), aI cI (mo 6) 4 B, aI cI (mo 7) 4 Z, aJ cJ (mo 8) 160 C]) rfl (fun _ => rfl) (fun _ => rfl) 0 0 rfl rfl rfl rfl hl.1 rfl (lv_room (Nat.le_of_ble_eq_true rfl)) dX5_write_41 ⟨Nat.zero_le _, Nat.zero_le _⟩ (fun _ H locs _ hW => ?_)
        refine lv_i2l (v := ((-1000000001)).toInt64) hx hb dX5_write_44 rfl ?_
        exact rt_l hQ hx hb hr hlocks hW dX5_write_45 () (by (try simp only [writeV, i64_1, i64_6]); (repeat' split) <;> first | rfl | (exfalso; omega)) trivial (by (try simp only [writeF, writeC]); (repeat' split) <;> first | rfl | (exfalso; omega))
    · exfalso; omega
