theorem qX5_held : yX5_held.cls ≠ "java/lang/invoke/MethodHandle" ∧ yX5_held.cls ≠ "java/lang/invoke/VarHandle" ∧ (parseMethodDescriptor yX5_held.desc).map (fun d => d.parameters.length) = some 3 := by decide +kernel
theorem qX5_lets : yX5_lets.cls = RX5 ∧ yX5_lets.cls ≠ "java/lang/invoke/MethodHandle" ∧ yX5_lets.cls ≠ "java/lang/invoke/VarHandle" ∧ (parseMethodDescriptor yX5_lets.desc).map (fun d => d.parameters.length) = some 3 := by decide +kernel
theorem qX5_push : yX5_push.cls = RX5 ∧ yX5_push.cls ≠ "java/lang/invoke/MethodHandle" ∧ yX5_push.cls ≠ "java/lang/invoke/VarHandle" ∧ (parseMethodDescriptor yX5_push.desc).map (fun d => d.parameters.length) = some 0 := by decide +kernel
theorem qX5_weight : yX5_weight.cls = RX5 ∧ yX5_weight.cls ≠ "java/lang/invoke/MethodHandle" ∧ yX5_weight.cls ≠ "java/lang/invoke/VarHandle" ∧ (parseMethodDescriptor yX5_weight.desc).map (fun d => d.parameters.length) = some 0 := by decide +kernel
theorem qX5_doesSpeak : yX5_doesSpeak.cls = RX5 ∧ yX5_doesSpeak.cls ≠ "java/lang/invoke/MethodHandle" ∧ yX5_doesSpeak.cls ≠ "java/lang/invoke/VarHandle" ∧ (parseMethodDescriptor yX5_doesSpeak.desc).map (fun d => d.parameters.length) = some 1 := by decide +kernel
theorem qX5_put : yX5_put.cls = RX5 ∧ yX5_put.cls ≠ "java/lang/invoke/MethodHandle" ∧ yX5_put.cls ≠ "java/lang/invoke/VarHandle" ∧ (parseMethodDescriptor yX5_put.desc).map (fun d => d.parameters.length) = some 3 := by decide +kernel
theorem qX5_lessBy : yX5_lessBy.cls = RX5 ∧ yX5_lessBy.cls ≠ "java/lang/invoke/MethodHandle" ∧ yX5_lessBy.cls ≠ "java/lang/invoke/VarHandle" ∧ (parseMethodDescriptor yX5_lessBy.desc).map (fun d => d.parameters.length) = some 1 := by decide +kernel
theorem qX5_holds : yX5_holds.cls = RX5 ∧ yX5_holds.cls ≠ "java/lang/invoke/MethodHandle" ∧ yX5_holds.cls ≠ "java/lang/invoke/VarHandle" ∧ (parseMethodDescriptor yX5_holds.desc).map (fun d => d.parameters.length) = some 1 := by decide +kernel
theorem up_self (f : Nat → Nat) (k : Nat) : up f k (f k) = f := by
  funext j
  unfold up
  by_cases h : j = k
  · subst h; rw [if_pos rfl]
  · rw [if_neg h]
theorem up_comm {f : Nat → Nat} {k k2 v w : Nat} (h : ¬ k = k2) : up (up f k v) k2 w = up (up f k2 w) k v := by
  funext j
  simp only [up]
  by_cases h1 : j = k
  · subst h1; rw [if_neg h, if_pos rfl, if_pos rfl]
  · by_cases h2 : j = k2
    · subst h2; rw [if_pos rfl, if_neg h1, if_pos rfl]
    · rw [if_neg h2, if_neg h1, if_neg h1, if_neg h2]
theorem addM_alt (G : Nat → Nat) (k sc o : Nat) : up (up (up (up (up G 40 (G 40 + 1)) (8 * G 40 + 1) k) (8 * G 40 + 2) o) (8 * G 40 + 3) sc) (8 * G 40 + 4) 0 = addM G k sc o := by
  unfold addM
  rw [up_comm (f := G) (k := 40) (by omega), up_comm (k := 40) (by omega), up_comm (k := 40) (by omega), up_comm (k := 40) (by omega)]
theorem addC_alt (G : Nat → Nat) (gr o : Nat) : up (up (up (up G 48 (G 48 + 1)) (8 * G 48 + 5) gr) (8 * G 48 + 6) o) (8 * G 48 + 7) 0 = addC G gr o := by
  unfold addC
  rw [up_comm (f := G) (k := 48) (by omega), up_comm (k := 48) (by omega), up_comm (k := 48) (by omega)]
theorem moveM_alt (G : Nat → Nat) (a o : Nat) : up (up G (8 * a + 4) 0) (8 * a + 2) o = moveM G a o := up_comm (by omega)
def comeTo (G : Nat → Nat) (t : Nat) : Nat → Nat → Nat
  | 0 => G
  | n + 1 => if t / 2 ^ n % 2 = 1 then moveM (comeTo G t n) n 1 else comeTo G t n
def comeG (G : Nat → Nat) (t : Nat) : Nat → Nat := comeTo G t (G 40)
theorem comeTo_ok {b : Nat} {G : Nat → Nat} (h : OkG b G) (t : Nat) : ∀ n, OkG b (comeTo G t n)
  | 0 => h
  | n + 1 => by
    show OkG b (if t / 2 ^ n % 2 = 1 then moveM (comeTo G t n) n 1 else comeTo G t n)
    split
    · exact moveM_ok (comeTo_ok h t n) (Nat.le_refl 1)
    · exact comeTo_ok h t n
theorem comeTo_keep (G : Nat → Nat) (t k : Nat) (h : ¬ k % 8 = 2) (h' : ¬ k % 8 = 4) : ∀ n, comeTo G t n k = G k
  | 0 => rfl
  | n + 1 => by
    show (if t / 2 ^ n % 2 = 1 then moveM (comeTo G t n) n 1 else comeTo G t n) k = G k
    split
    · unfold moveM; rw [up_ne (by omega), up_ne (by omega), comeTo_keep G t k h h' n]
    · exact comeTo_keep G t k h h' n
def bst (o : Nat) : Int32 := if o = 0 then -1 else nI (o - 1)
abbrev rmX5_holds : Room := { frames := 1, cells := 0, slots := 0, locals := 23 }
set_option maxRecDepth 100000 in
set_option maxHeartbeats 4000000 in
theorem M_X5_holds (l : Launch) (D : va_G) (cI cJ : ClassId) (mo R G : Nat → Nat) (b : Nat) (hb30 : b < 2 ^ 30) (hG : OkG b G) (i : Nat) (hi : i < 6) (hon : G (8 * i + 6) = 1) : CE E0 l D vwCl [(cI, .int), (cJ, .long)] yX5_holds wsX5_holds rmX5_holds [.ref (mo 0), .int (nI i)] [mH mo R, mR cI (mo 1) G] (S := Unit) none (fun _ => True) (fun _ : Unit => [mH mo R, mR cI (mo 1) (holdF G i)]) 0 0 := by
  refine CE.ofW (cc := cX5_holds) (maxL := 2) (ret := none) (lv := [(0, .ref (mo 0)), (1, .int (nI i))]) (by decide) rfl (Nat.le_of_ble_eq_true rfl) rfl ?_
  intro p e s m args below meth c ls A Q hQ hx hb hml hr hlocks hnm hown hts hK hA hE hW hl
  have hown : s.vm.findClass RX5 = some m.cls := hown
  obtain ⟨hg0, hg8, hg16, hg16b, hg24, hg32, hg40, hg48⟩ := hG.s
  have hci := hG.c i hi
  refine lv_aload_n hx hb dX5_holds_0 rfl (lv_at hl 0 rfl) ?_
  refine lv_iload_n hx hb dX5_holds_1 rfl (lv_at hl 1 rfl) ?_
  refine lv_iconst (v := nI 0) hx hb dX5_holds_2 (by decide +kernel) ?_
  refine cl_Vi (As := [.int (nI i), .int (nI 0)]) (rest := []) (C := RX5) ⟨hx, hb, hml, hown, hts⟩ (M_X5_about l D cI cJ mo R G i 0 5 (by omega) (by decide) rfl) (cwV 2 hts gX5_holds_X5_about rfl rfl rfl qX5_about ⟨Nat.le_of_ble_eq_true rfl, Nat.le_of_ble_eq_true rfl⟩) E0_good hK hA hW trivial [true, true] (fun _ => [mH mo R, mR cI (mo 1) G]) rfl (fun _ => rfl) (fun _ => rfl) 0 0 rfl rfl rfl rfl hl.1 rfl (lv_room (Nat.le_of_ble_eq_true rfl)) dX5_holds_3 ⟨Nat.zero_le _, Nat.zero_le _⟩ (fun _ H locs _ hW => ?_)
  refine lv_aload_n hx hb dX5_holds_6 rfl (lv_at hl 0 rfl) ?_
  refine sg_get (ci := 4) (C := RX5) (T := TX5) (N := 15) (v := .ref (mo 1)) hx hb hts (fun _ h => List.mem_cons_of_mem _ (List.mem_append_right _ h)) hown hK hW 0 0 rfl rfl rfl 0 (by decide) (hts _ (List.mem_of_getElem? (i := 1) rfl)) rfl dX5_holds_7 ?_
  refine lv_iconst (v := nI 3) hx hb dX5_holds_10 (by decide +kernel) ?_
  refine sg_ild (v := nI (G 24)) hx hb hK hW 1 0 0 rfl rfl rfl (by decide) (by decide) rfl dX5_holds_11 ?_
  refine nn_cge (tgt := 46) hx hb dX5_holds_12 (by decide) (by omega) (by omega) (fun c12 => ?_) (fun c12 => ?_)
  · refine lv_aload_n hx hb dX5_holds_46 rfl (lv_at hl 0 rfl) ?_
    refine sg_get (ci := 4) (C := RX5) (T := TX5) (N := 15) (v := .ref (mo 1)) hx hb hts (fun _ h => List.mem_cons_of_mem _ (List.mem_append_right _ h)) hown hK hW 0 0 rfl rfl rfl 0 (by decide) (hts _ (List.mem_of_getElem? (i := 1) rfl)) rfl dX5_holds_47 ?_
    refine lv_iconst (v := nI 3) hx hb dX5_holds_50 (by decide +kernel) ?_
    refine sg_ild (v := nI (G 24)) hx hb hK hW 1 0 0 rfl rfl rfl (by decide) (by decide) rfl dX5_holds_51 ?_
    refine lv_bipush (v := nI 30) hx hb dX5_holds_52 (by decide +kernel) ?_
    refine nn_cle (tgt := 78) hx hb dX5_holds_54 (by decide) (by omega) (by decide) (fun c54 => ?_) (fun c54 => ?_)
    · exact rt_v hQ hx hb hr hlocks hW dX5_holds_78 () rfl trivial (by unfold holdF; (repeat' split) <;> first | rfl | (exfalso; omega))
    · refine lv_aload_n hx hb dX5_holds_57 rfl (lv_at hl 0 rfl) ?_
      refine lv_iload_n hx hb dX5_holds_58 rfl (lv_at hl 1 rfl) ?_
      refine lv_iconst (v := nI 0) hx hb dX5_holds_59 (by decide +kernel) ?_
      refine lv_aload_n hx hb dX5_holds_60 rfl (lv_at hl 0 rfl) ?_
      refine lv_iload_n hx hb dX5_holds_61 rfl (lv_at hl 1 rfl) ?_
      refine lv_iconst (v := nI 0) hx hb dX5_holds_62 (by decide +kernel) ?_
      refine cl_Vi (As := [.int (nI i), .int (nI 0)]) (rest := [.int (nI 0), .int (nI i), .ref (mo 0)]) (C := RX5) ⟨hx, hb, hml, hown, hts⟩ (M_X5_about l D cI cJ mo R G i 0 5 (by omega) (by decide) rfl) (cwV 2 hts gX5_holds_X5_about rfl rfl rfl qX5_about ⟨Nat.le_of_ble_eq_true rfl, Nat.le_of_ble_eq_true rfl⟩) E0_good hK hA hW trivial [true, true] (fun _ => [mH mo R, mR cI (mo 1) G]) rfl (fun _ => rfl) (fun _ => rfl) 0 0 rfl rfl rfl rfl hl.1 rfl (lv_room (Nat.le_of_ble_eq_true rfl)) dX5_holds_63 ⟨Nat.zero_le _, Nat.zero_le _⟩ (fun _ H locs _ hW => ?_)
      refine lv_iconst (v := nI 1) hx hb dX5_holds_66 (by decide +kernel) ?_
      refine lv_isub hx hb dX5_holds_67 ?_
      refine lv_iconst (v := nI 0) hx hb dX5_holds_68 (by decide +kernel) ?_
      refine lv_sipush (v := nI 200) hx hb dX5_holds_69 (by decide +kernel) ?_
      refine cl_Si (As := [.int ((nI (G (8 * i + 5))) - (nI 1)), .int (nI 0), .int (nI 200)]) (rest := [.int (nI 0), .int (nI i), .ref (mo 0)]) ⟨hx, hb, hml, hown, hts⟩ (M_X5_held l D cI cJ ((nI (G (8 * i + 5))) - (nI 1)) (((G (8 * i + 5) : Nat) : Int) - ((1 : Nat) : Int)) 0 200 (pk_sub_toInt (by omega) (by omega)) (by decide) (by decide)) (va_cwS 3 hts gX5_holds_X5_held rfl rfl rfl qX5_held ⟨Nat.le_of_ble_eq_true rfl, Nat.le_of_ble_eq_true rfl⟩) E0_good hK hA hW trivial [] (fun _ => [mH mo R, mR cI (mo 1) G]) rfl (fun _ => rfl) (fun _ => rfl) rfl hl.1 rfl (lv_room (Nat.le_of_ble_eq_true rfl)) dX5_holds_72 ⟨Nat.zero_le _, Nat.zero_le _⟩ (fun _ H locs _ hW => ?_)
      refine W.top (v' := .int (nI (G (8 * i + 5) - 1))) (congrArg (fun z => Value.int (nI z)) (by unfold heldV; (repeat' split) <;> omega)) ?_
      refine cl_Vv (As := [.int (nI i), .int (nI 0), .int (nI (G (8 * i + 5) - 1))]) (rest := []) (C := RX5) ⟨hx, hb, hml, hown, hts⟩ (M_X5_lets l D cI cJ mo R G i 0 5 (G (8 * i + 5) - 1) (by omega) (by decide) rfl) (cwV 3 hts gX5_holds_X5_lets rfl rfl rfl qX5_lets ⟨Nat.le_of_ble_eq_true rfl, Nat.le_of_ble_eq_true rfl⟩) E0_good hK hA hW trivial [true, true] (fun _ => [mH mo R, mR cI (mo 1) (up G (8 * i + 5) (G (8 * i + 5) - 1))]) rfl (fun _ => rfl) (fun _ => rfl) 0 0 rfl rfl rfl rfl hl.1 rfl (lv_room (Nat.le_of_ble_eq_true rfl)) dX5_holds_75 ⟨Nat.zero_le _, Nat.zero_le _⟩ (fun _ H locs _ hW => ?_)
      exact rt_v hQ hx hb hr hlocks hW dX5_holds_78 () rfl trivial (by unfold holdF; (repeat' split) <;> first | rfl | (exfalso; omega))
  · refine lv_aload_n hx hb dX5_holds_15 rfl (lv_at hl 0 rfl) ?_
    refine lv_iload_n hx hb dX5_holds_16 rfl (lv_at hl 1 rfl) ?_
    refine lv_iconst (v := nI 1) hx hb dX5_holds_17 (by decide +kernel) ?_
    refine lv_iconst (v := nI 0) hx hb dX5_holds_18 (by decide +kernel) ?_
    refine cl_Vv (As := [.int (nI i), .int (nI 1), .int (nI 0)]) (rest := []) (C := RX5) ⟨hx, hb, hml, hown, hts⟩ (M_X5_lets l D cI cJ mo R G i 1 6 0 (by omega) (by decide) rfl) (cwV 3 hts gX5_holds_X5_lets rfl rfl rfl qX5_lets ⟨Nat.le_of_ble_eq_true rfl, Nat.le_of_ble_eq_true rfl⟩) E0_good hK hA hW trivial [true, true] (fun _ => [mH mo R, mR cI (mo 1) (up G (8 * i + 6) 0)]) rfl (fun _ => rfl) (fun _ => rfl) 0 0 rfl rfl rfl rfl hl.1 rfl (lv_room (Nat.le_of_ble_eq_true rfl)) dX5_holds_19 ⟨Nat.zero_le _, Nat.zero_le _⟩ (fun _ H locs _ hW => ?_)
    refine lv_aload_n hx hb dX5_holds_22 rfl (lv_at hl 0 rfl) ?_
    refine lv_iload_n hx hb dX5_holds_23 rfl (lv_at hl 1 rfl) ?_
    refine lv_iconst (v := nI 2) hx hb dX5_holds_24 (by decide +kernel) ?_
    refine lv_aload_n hx hb dX5_holds_25 rfl (lv_at hl 0 rfl) ?_
    refine lv_iload_n hx hb dX5_holds_26 rfl (lv_at hl 1 rfl) ?_
    refine lv_iconst (v := nI 2) hx hb dX5_holds_27 (by decide +kernel) ?_
    refine cl_Vi (As := [.int (nI i), .int (nI 2)]) (rest := [.int (nI 2), .int (nI i), .ref (mo 0)]) (C := RX5) ⟨hx, hb, hml, hown, hts⟩ (M_X5_about l D cI cJ mo R (up G (8 * i + 6) 0) i 2 7 (by omega) (by decide) rfl) (cwV 2 hts gX5_holds_X5_about rfl rfl rfl qX5_about ⟨Nat.le_of_ble_eq_true rfl, Nat.le_of_ble_eq_true rfl⟩) E0_good hK hA hW trivial [true, true] (fun _ => [mH mo R, mR cI (mo 1) (up G (8 * i + 6) 0)]) rfl (fun _ => rfl) (fun _ => rfl) 0 0 rfl rfl rfl rfl hl.1 rfl (lv_room (Nat.le_of_ble_eq_true rfl)) dX5_holds_28 ⟨Nat.zero_le _, Nat.zero_le _⟩ (fun _ H locs _ hW => ?_)
    refine W.top (v' := .int (nI (G (8 * i + 7)))) (congrArg (fun z => Value.int (nI z)) (up_ne (by omega))) ?_
    refine lv_iconst (v := nI 1) hx hb dX5_holds_31 (by decide +kernel) ?_
    refine nn_add hx hb dX5_holds_32 ?_
    refine lv_iconst (v := nI 0) hx hb dX5_holds_33 (by decide +kernel) ?_
    refine lv_sipush (v := nI 9999) hx hb dX5_holds_34 (by decide +kernel) ?_
    refine cl_Si (As := [.int (nI ((G (8 * i + 7)) + 1)), .int (nI 0), .int (nI 9999)]) (rest := [.int (nI 2), .int (nI i), .ref (mo 0)]) ⟨hx, hb, hml, hown, hts⟩ (M_X5_held l D cI cJ (nI ((G (8 * i + 7)) + 1)) (((G (8 * i + 7)) + 1 : Nat) : Int) 0 9999 (nI_toInt (n := (G (8 * i + 7)) + 1) (by omega)) (by decide) (by decide)) (va_cwS 3 hts gX5_holds_X5_held rfl rfl rfl qX5_held ⟨Nat.le_of_ble_eq_true rfl, Nat.le_of_ble_eq_true rfl⟩) E0_good hK hA hW trivial [] (fun _ => [mH mo R, mR cI (mo 1) (up G (8 * i + 6) 0)]) rfl (fun _ => rfl) (fun _ => rfl) rfl hl.1 rfl (lv_room (Nat.le_of_ble_eq_true rfl)) dX5_holds_37 ⟨Nat.zero_le _, Nat.zero_le _⟩ (fun _ H locs _ hW => ?_)
    refine W.top (v' := .int (nI (min 9999 (G (8 * i + 7) + 1)))) (congrArg (fun z => Value.int (nI z)) (by unfold heldV; (repeat' split) <;> omega)) ?_
    refine cl_Vv (As := [.int (nI i), .int (nI 2), .int (nI (min 9999 (G (8 * i + 7) + 1)))]) (rest := []) (C := RX5) ⟨hx, hb, hml, hown, hts⟩ (M_X5_lets l D cI cJ mo R (up G (8 * i + 6) 0) i 2 7 (min 9999 (G (8 * i + 7) + 1)) (by omega) (by decide) rfl) (cwV 3 hts gX5_holds_X5_lets rfl rfl rfl qX5_lets ⟨Nat.le_of_ble_eq_true rfl, Nat.le_of_ble_eq_true rfl⟩) E0_good hK hA hW trivial [true, true] (fun _ => [mH mo R, mR cI (mo 1) (up (up G (8 * i + 6) 0) (8 * i + 7) (min 9999 (G (8 * i + 7) + 1)))]) rfl (fun _ => rfl) (fun _ => rfl) 0 0 rfl rfl rfl rfl hl.1 rfl (lv_room (Nat.le_of_ble_eq_true rfl)) dX5_holds_40 ⟨Nat.zero_le _, Nat.zero_le _⟩ (fun _ H locs _ hW => ?_)
    refine lv_goto (tgt := 78) hx hb dX5_holds_43 (by decide) ?_
    exact rt_v hQ hx hb hr hlocks hW dX5_holds_78 () rfl trivial (by unfold holdF; (repeat' split) <;> first | rfl | (exfalso; omega))
abbrev rmX5_goes : Room := { frames := 5, cells := 0, slots := 0, locals := 112 }
set_option maxRecDepth 100000 in
set_option maxHeartbeats 4000000 in
theorem M_X5_goes (l : Launch) (D : va_G) (cI cJ : ClassId) (mo R G : Nat → Nat) (b : Nat) (hb30 : b < 2 ^ 30) (hG : OkG b G) : CE E0 l D vwCl [(cI, .int), (cJ, .long)] yX5_goes wsX5_goes rmX5_goes [.ref (mo 0)] [mH mo R, mR cI (mo 1) G] (S := Unit) none (fun _ => True) (fun _ : Unit => [mH mo R, mR cI (mo 1) (stepG G)]) 0 0 := by
  refine CE.ofW (cc := cX5_goes) (maxL := 6) (ret := none) (lv := [(0, .ref (mo 0))]) (by decide) rfl (Nat.le_of_ble_eq_true rfl) rfl ?_
  intro p e s m args below meth c ls A Q hQ hx hb hml hr hlocks hnm hown hts hK hA hE hW hl
  have hown : s.vm.findClass RX5 = some m.cls := hown
  obtain ⟨hg0, hg8, hg16, hg16b, hg24, hg32, hg40, hg48⟩ := hG.s
  have hpl := pushN_le hG
  have hwi := weightN_in hG
  have hsl := speedN_le G
  have hdv : pushN G / weightN G ≤ pushN G := Nat.div_le_self _ _
  have hmx : max 1 (G 24 / 10) ≤ 20 := by omega
  refine lv_aload_n hx hb dX5_goes_0 rfl (lv_at hl 0 rfl) ?_
  refine sg_get (ci := 4) (C := RX5) (T := TX5) (N := 15) (v := .ref (mo 1)) hx hb hts (fun _ h => List.mem_cons_of_mem _ (List.mem_append_right _ h)) hown hK hW 0 0 rfl rfl rfl 0 (by decide) (hts _ (List.mem_of_getElem? (i := 1) rfl)) rfl dX5_goes_1 ?_
  refine lv_iconst (v := nI 3) hx hb dX5_goes_4 (by decide +kernel) ?_
  refine sg_ild (v := nI (G 24)) hx hb hK hW 1 0 0 rfl rfl rfl (by decide) (by decide) rfl dX5_goes_5 ?_
  refine lv_istore_n (lv' := [(1, .int (nI (G 24))), (0, .ref (mo 0))]) hx hb dX5_goes_6 rfl hl (by decide) rfl (fun ls hl => ?_)
  refine lv_aload_n hx hb dX5_goes_7 rfl (lv_at hl 1 rfl) ?_
  refine cl_Vi (As := []) (rest := []) (C := RX5) ⟨hx, hb, hml, hown, hts⟩ (M_X5_push l D cI cJ mo R G b hb30 hG ) (cwV 0 hts gX5_goes_X5_push rfl rfl rfl qX5_push ⟨Nat.le_of_ble_eq_true rfl, Nat.le_of_ble_eq_true rfl⟩) E0_good hK hA hW trivial [true, true] (fun _ => [mH mo R, mR cI (mo 1) G]) rfl (fun _ => rfl) (fun _ => rfl) 0 0 rfl rfl rfl rfl hl.1 rfl (lv_room (Nat.le_of_ble_eq_true rfl)) dX5_goes_8 ⟨Nat.zero_le _, Nat.zero_le _⟩ (fun _ H locs _ hW => ?_)
  refine lv_aload_n hx hb dX5_goes_11 rfl (lv_at hl 1 rfl) ?_
  refine cl_Vi (As := []) (rest := [.int (nI (pushN G))]) (C := RX5) ⟨hx, hb, hml, hown, hts⟩ (M_X5_weight l D cI cJ mo R G b hb30 hG ) (cwV 0 hts gX5_goes_X5_weight rfl rfl rfl qX5_weight ⟨Nat.le_of_ble_eq_true rfl, Nat.le_of_ble_eq_true rfl⟩) E0_good hK hA hW trivial [true, true] (fun _ => [mH mo R, mR cI (mo 1) G]) rfl (fun _ => rfl) (fun _ => rfl) 0 0 rfl rfl rfl rfl hl.1 rfl (lv_room (Nat.le_of_ble_eq_true rfl)) dX5_goes_12 ⟨Nat.zero_le _, Nat.zero_le _⟩ (fun _ H locs _ hW => ?_)
  refine nn_div hx hb dX5_goes_15 (by omega) (by omega) (by omega) ?_
  refine lv_istore_n (lv' := [(2, .int (nI ((pushN G) / (weightN G)))), (1, .int (nI (G 24))), (0, .ref (mo 0))]) hx hb dX5_goes_16 rfl hl (by decide) rfl (fun ls hl => ?_)
  have jn31 : ∀ (H : Heap) (locs : List Loc), Wo D vwCl A s.heap H locs [mH mo R, mR cI (mo 1) G] → ∀ ls : Array Slot, lv_has ls 6 [(2, .int (nI ((pushN G) / (weightN G)))), (1, .int (nI (G 24))), (0, .ref (mo 0))] → W p l e rmX5_goes s m args below meth c H locs 0 0 Q (F0 m 31 ls [.int (nI (max 1 (G 24 / 10)))]) := by
    intro  H locs hW ls hl
    refine lv_istore_n (lv' := [(3, .int (nI (max 1 (G 24 / 10)))), (2, .int (nI ((pushN G) / (weightN G)))), (1, .int (nI (G 24))), (0, .ref (mo 0))]) hx hb dX5_goes_31 rfl hl (by decide) rfl (fun ls hl => ?_)
    refine lv_aload_n hx hb dX5_goes_32 rfl (lv_at hl 3 rfl) ?_
    refine sg_get (ci := 4) (C := RX5) (T := TX5) (N := 15) (v := .ref (mo 1)) hx hb hts (fun _ h => List.mem_cons_of_mem _ (List.mem_append_right _ h)) hown hK hW 0 0 rfl rfl rfl 0 (by decide) (hts _ (List.mem_of_getElem? (i := 1) rfl)) rfl dX5_goes_33 ?_
    refine lv_iconst (v := nI 3) hx hb dX5_goes_36 (by decide +kernel) ?_
    refine lv_iload_n hx hb dX5_goes_37 rfl (lv_at hl 2 rfl) ?_
    refine lv_iload_n hx hb dX5_goes_38 rfl (lv_at hl 1 rfl) ?_
    refine nn_add hx hb dX5_goes_39 ?_
    refine lv_iload_n hx hb dX5_goes_40 rfl (lv_at hl 0 rfl) ?_
    refine lv_isub hx hb dX5_goes_41 ?_
    refine lv_iconst (v := nI 0) hx hb dX5_goes_42 (by decide +kernel) ?_
    refine lv_sipush (v := nI 200) hx hb dX5_goes_43 (by decide +kernel) ?_
    refine cl_Si (As := [.int ((nI ((G 24) + ((pushN G) / (weightN G)))) - (nI (max 1 (G 24 / 10)))), .int (nI 0), .int (nI 200)]) (rest := [.int (nI 3), .ref (mo 1)]) ⟨hx, hb, hml, hown, hts⟩ (M_X5_held l D cI cJ ((nI ((G 24) + ((pushN G) / (weightN G)))) - (nI (max 1 (G 24 / 10)))) ((((G 24) + ((pushN G) / (weightN G)) : Nat) : Int) - ((max 1 (G 24 / 10) : Nat) : Int)) 0 200 (pk_sub_toInt (by omega) (by omega)) (by decide) (by decide)) (va_cwS 3 hts gX5_goes_X5_held rfl rfl rfl qX5_held ⟨Nat.le_of_ble_eq_true rfl, Nat.le_of_ble_eq_true rfl⟩) E0_good hK hA hW trivial [] (fun _ => [mH mo R, mR cI (mo 1) G]) rfl (fun _ => rfl) (fun _ => rfl) rfl hl.1 rfl (lv_room (Nat.le_of_ble_eq_true rfl)) dX5_goes_46 ⟨Nat.zero_le _, Nat.zero_le _⟩ (fun _ H locs _ hW => ?_)
    refine W.top (v' := .int (nI (speedN G))) (congrArg (fun z => Value.int (nI z)) (by unfold speedN heldV; (repeat' split) <;> omega)) ?_
    refine sg_ist hx hb hK hW 1 0 0 rfl rfl rfl (by decide) (by decide) (mR_set cI (mo 1) G 3 (speedN G)) (ss' := [mH mo R, mR cI (mo 1) (up G 24 (speedN G))]) rfl dX5_goes_49 (fun H locs hW => ?_)
    refine lv_aload_n hx hb dX5_goes_50 rfl (lv_at hl 3 rfl) ?_
    refine sg_get (ci := 4) (C := RX5) (T := TX5) (N := 15) (v := .ref (mo 1)) hx hb hts (fun _ h => List.mem_cons_of_mem _ (List.mem_append_right _ h)) hown hK hW 0 0 rfl rfl rfl 0 (by decide) (hts _ (List.mem_of_getElem? (i := 1) rfl)) rfl dX5_goes_51 ?_
    refine lv_iconst (v := nI 4) hx hb dX5_goes_54 (by decide +kernel) ?_
    refine lv_aload_n hx hb dX5_goes_55 rfl (lv_at hl 3 rfl) ?_
    refine sg_get (ci := 4) (C := RX5) (T := TX5) (N := 15) (v := .ref (mo 1)) hx hb hts (fun _ h => List.mem_cons_of_mem _ (List.mem_append_right _ h)) hown hK hW 0 0 rfl rfl rfl 0 (by decide) (hts _ (List.mem_of_getElem? (i := 1) rfl)) rfl dX5_goes_56 ?_
    refine lv_iconst (v := nI 4) hx hb dX5_goes_59 (by decide +kernel) ?_
    refine sg_ild (v := nI (G 32)) hx hb hK hW 1 0 0 rfl rfl rfl (by decide) (by decide) (congrArg nI (up_ne (by decide))) dX5_goes_60 ?_
    refine lv_aload_n hx hb dX5_goes_61 rfl (lv_at hl 3 rfl) ?_
    refine sg_get (ci := 4) (C := RX5) (T := TX5) (N := 15) (v := .ref (mo 1)) hx hb hts (fun _ h => List.mem_cons_of_mem _ (List.mem_append_right _ h)) hown hK hW 0 0 rfl rfl rfl 0 (by decide) (hts _ (List.mem_of_getElem? (i := 1) rfl)) rfl dX5_goes_62 ?_
    refine lv_iconst (v := nI 3) hx hb dX5_goes_65 (by decide +kernel) ?_
    refine sg_ild (v := nI (speedN G)) hx hb hK hW 1 0 0 rfl rfl rfl (by decide) (by decide) (congrArg nI (up_eq _ _ _)) dX5_goes_66 ?_
    refine nn_add hx hb dX5_goes_67 ?_
    refine lv_iconst (v := nI 0) hx hb dX5_goes_68 (by decide +kernel) ?_
    refine lv_ldc (v := 999999) hx hb hown (hts _ (List.mem_of_getElem? (i := 2) rfl)) dX5_goes_69 ?_
    refine W.top (v' := .int (nI 999999)) rfl ?_
    refine cl_Si (As := [.int (nI ((G 32) + (speedN G))), .int (nI 0), .int (nI 999999)]) (rest := [.int (nI 4), .ref (mo 1)]) ⟨hx, hb, hml, hown, hts⟩ (M_X5_held l D cI cJ (nI ((G 32) + (speedN G))) (((G 32) + (speedN G) : Nat) : Int) 0 999999 (nI_toInt (n := (G 32) + (speedN G)) (by omega)) (by decide) (by decide)) (va_cwS 3 hts gX5_goes_X5_held rfl rfl rfl qX5_held ⟨Nat.le_of_ble_eq_true rfl, Nat.le_of_ble_eq_true rfl⟩) E0_good hK hA hW trivial [] (fun _ => [mH mo R, mR cI (mo 1) (up G 24 (speedN G))]) rfl (fun _ => rfl) (fun _ => rfl) rfl hl.1 rfl (lv_room (Nat.le_of_ble_eq_true rfl)) dX5_goes_71 ⟨Nat.zero_le _, Nat.zero_le _⟩ (fun _ H locs _ hW => ?_)
    refine W.top (v' := .int (nI (min 999999 (G 32 + speedN G)))) (congrArg (fun z => Value.int (nI z)) (by unfold heldV; (repeat' split) <;> omega)) ?_
    refine sg_ist hx hb hK hW 1 0 0 rfl rfl rfl (by decide) (by decide) (mR_set cI (mo 1) (up G 24 (speedN G)) 4 (min 999999 (G 32 + speedN G))) (ss' := [mH mo R, mR cI (mo 1) (up (up G 24 (speedN G)) 32 (min 999999 (G 32 + speedN G)))]) rfl dX5_goes_74 (fun H locs hW => ?_)
    have hW := hW.to (ss' := [mH mo R, mR cI (mo 1) (spinG G)]) rfl
    refine lv_iconst (v := nI 0) hx hb dX5_goes_75 (by decide +kernel) ?_
    refine lv_istore (lv' := [(4, .int (nI 0)), (3, .int (nI (max 1 (G 24 / 10)))), (2, .int (nI ((pushN G) / (weightN G)))), (1, .int (nI (G 24))), (0, .ref (mo 0))]) hx hb dX5_goes_76 hl (by decide) rfl (fun ls hl => ?_)
    have hS6 := (spin_ok hG).s
    have lp78 : ∀ (n : Nat) (i : Nat), spinG G 48 - i < n → i ≤ spinG G 48 → ∀ (H : Heap) (locs : List Loc), Wo D vwCl A s.heap H locs [mH mo R, mR cI (mo 1) (gripsTo (spinG G) i)] → ∀ ls : Array Slot, lv_has ls 6 [(4, .int (nI i)), (3, .int (nI (max 1 (G 24 / 10)))), (2, .int (nI ((pushN G) / (weightN G)))), (1, .int (nI (G 24))), (0, .ref (mo 0))] → W p l e rmX5_goes s m args below meth c H locs 0 0 Q (F0 m 78 ls []) := by
      intro n
      induction n with
      | zero => intro i hm; exact absurd hm (Nat.not_lt_zero _)
      | succ n ih =>
        intro i hm hi H locs hW ls hl
        have h48 : gripsTo (spinG G) i 48 = spinG G 48 := grips_keep _ 48 (by decide) i
        have hT1 := gripsTo_ok (spin_ok hG) i (by omega)
        refine lv_iload hx hb dX5_goes_78 (lv_at hl 0 rfl) ?_
        refine lv_aload_n hx hb dX5_goes_80 rfl (lv_at hl 4 rfl) ?_
        refine sg_get (ci := 4) (C := RX5) (T := TX5) (N := 15) (v := .ref (mo 1)) hx hb hts (fun _ h => List.mem_cons_of_mem _ (List.mem_append_right _ h)) hown hK hW 0 0 rfl rfl rfl 0 (by decide) (hts _ (List.mem_of_getElem? (i := 1) rfl)) rfl dX5_goes_81 ?_
        refine lv_bipush (v := nI 6) hx hb dX5_goes_84 (by decide +kernel) ?_
        refine sg_ild (v := nI ((gripsTo (spinG G) i) 48)) hx hb hK hW 1 0 0 rfl rfl rfl (by decide) (by decide) rfl dX5_goes_86 ?_
        refine nn_cge (tgt := 113) hx hb dX5_goes_87 (by decide) (by omega) (by omega) (fun c87 => ?_) (fun c87 => ?_)
        · have hW := hW.to (ss' := [mH mo R, mR cI (mo 1) (gripsG (spinG G))]) (by rw [show i = spinG G 48 by omega]; rfl)
          refine lv_iconst (v := nI 0) hx hb dX5_goes_113 (by decide +kernel) ?_
          refine lv_istore (lv' := [(4, .int (nI 0)), (3, .int (nI (max 1 (G 24 / 10)))), (2, .int (nI ((pushN G) / (weightN G)))), (1, .int (nI (G 24))), (0, .ref (mo 0))]) hx hb dX5_goes_114 hl (by decide) rfl (fun ls hl => ?_)
          have hS8 := (grips_ok (spin_ok hG)).s
          have lp116 : ∀ (n : Nat) (i : Nat), gripsG (spinG G) 40 - i < n → i ≤ gripsG (spinG G) 40 → ∀ (H : Heap) (locs : List Loc), Wo D vwCl A s.heap H locs [mH mo R, mR cI (mo 1) (talkTo (gripsG (spinG G)) i)] → ∀ ls : Array Slot, lv_has ls 6 [(4, .int (nI i)), (3, .int (nI (max 1 (G 24 / 10)))), (2, .int (nI ((pushN G) / (weightN G)))), (1, .int (nI (G 24))), (0, .ref (mo 0))] → W p l e rmX5_goes s m args below meth c H locs 0 0 Q (F0 m 116 ls []) := by
            intro n
            induction n with
            | zero => intro i hm; exact absurd hm (Nat.not_lt_zero _)
            | succ n ih =>
              intro i hm hi H locs hW ls hl
              have h40 : talkTo (gripsG (spinG G)) i 40 = gripsG (spinG G) 40 := talk_keep _ 40 (by decide) (by decide) i
              have hT2 := talkTo_ok (grips_ok (spin_ok hG)) i (by omega)
              refine lv_iload hx hb dX5_goes_116 (lv_at hl 0 rfl) ?_
              refine lv_aload_n hx hb dX5_goes_118 rfl (lv_at hl 4 rfl) ?_
              refine sg_get (ci := 4) (C := RX5) (T := TX5) (N := 15) (v := .ref (mo 1)) hx hb hts (fun _ h => List.mem_cons_of_mem _ (List.mem_append_right _ h)) hown hK hW 0 0 rfl rfl rfl 0 (by decide) (hts _ (List.mem_of_getElem? (i := 1) rfl)) rfl dX5_goes_119 ?_
              refine lv_iconst (v := nI 5) hx hb dX5_goes_122 (by decide +kernel) ?_
              refine sg_ild (v := nI ((talkTo (gripsG (spinG G)) i) 40)) hx hb hK hW 1 0 0 rfl rfl rfl (by decide) (by decide) rfl dX5_goes_123 ?_
              refine nn_cge (tgt := 220) hx hb dX5_goes_124 (by decide) (by omega) (by omega) (fun c124 => ?_) (fun c124 => ?_)
              · have hW := hW.to (ss' := [mH mo R, mR cI (mo 1) (talkG (gripsG (spinG G)))]) (by rw [show i = gripsG (spinG G) 40 by omega]; rfl)
                refine lv_aload_n hx hb dX5_goes_220 rfl (lv_at hl 4 rfl) ?_
                refine sg_get (ci := 4) (C := RX5) (T := TX5) (N := 15) (v := .ref (mo 1)) hx hb hts (fun _ h => List.mem_cons_of_mem _ (List.mem_append_right _ h)) hown hK hW 0 0 rfl rfl rfl 0 (by decide) (hts _ (List.mem_of_getElem? (i := 1) rfl)) rfl dX5_goes_221 ?_
                refine lv_iconst (v := nI 0) hx hb dX5_goes_224 (by decide +kernel) ?_
                refine lv_dup2_11 hx hb dX5_goes_225 rfl rfl ?_
                refine sg_ild (v := nI ((talkG (gripsG (spinG G))) 0)) hx hb hK hW 1 0 0 rfl rfl rfl (by decide) (by decide) rfl dX5_goes_226 ?_
                refine lv_iconst (v := nI 1) hx hb dX5_goes_227 (by decide +kernel) ?_
                refine nn_add hx hb dX5_goes_228 ?_
                refine sg_ist hx hb hK hW 1 0 0 rfl rfl rfl (by decide) (by decide) (mR_set cI (mo 1) (talkG (gripsG (spinG G))) 0 (((talkG (gripsG (spinG G))) 0) + 1)) (ss' := [mH mo R, mR cI (mo 1) (up (talkG (gripsG (spinG G))) 0 (((talkG (gripsG (spinG G))) 0) + 1))]) rfl dX5_goes_229 (fun H locs hW => ?_)
                exact rt_v hQ hx hb hr hlocks hW dX5_goes_230 () rfl trivial rfl
              · have hmi := hT2.m i (by omega)
                refine lv_aload_n hx hb dX5_goes_127 rfl (lv_at hl 4 rfl) ?_
                refine lv_iload hx hb dX5_goes_128 (lv_at hl 0 rfl) ?_
                refine lv_iconst (v := nI 1) hx hb dX5_goes_130 (by decide +kernel) ?_
                refine cl_Vi (As := [.int (nI i), .int (nI 1)]) (rest := []) (C := RX5) ⟨hx, hb, hml, hown, hts⟩ (M_X5_it l D cI cJ mo R (talkTo (gripsG (spinG G)) i) i 1 2 (by omega) (by decide) rfl) (cwV 2 hts gX5_goes_X5_it rfl rfl rfl qX5_it ⟨Nat.le_of_ble_eq_true rfl, Nat.le_of_ble_eq_true rfl⟩) E0_good hK hA hW trivial [true, true] (fun _ => [mH mo R, mR cI (mo 1) (talkTo (gripsG (spinG G)) i)]) rfl (fun _ => rfl) (fun _ => rfl) 0 0 rfl rfl rfl rfl hl.1 rfl (lv_room (Nat.le_of_ble_eq_true rfl)) dX5_goes_131 ⟨Nat.zero_le _, Nat.zero_le _⟩ (fun _ H locs _ hW => ?_)
                refine lv_iconst (v := nI 1) hx hb dX5_goes_134 (by decide +kernel) ?_
                refine nn_cne (tgt := 214) hx hb dX5_goes_135 (by decide) (by omega) (by decide) (fun c135 => ?_) (fun c135 => ?_)
                · refine lv_iinc (v := nI (i + 1)) (lv' := [(4, .int (nI (i + 1))), (3, .int (nI (max 1 (G 24 / 10)))), (2, .int (nI ((pushN G) / (weightN G)))), (1, .int (nI (G 24))), (0, .ref (mo 0))]) hx hb dX5_goes_214 hl (k := 0) rfl (nI_add _ 1) (by decide) rfl (fun ls hl => ?_)
                  refine lv_goto (tgt := 116) hx hb dX5_goes_217 (by decide) ?_
                  have hW := hW.to (ss' := [mH mo R, mR cI (mo 1) (talkTo (gripsG (spinG G)) (i + 1))]) (by simp only [talkTo, talkF, up_self]; (repeat' split) <;> first | rfl | (exfalso; omega))
                  exact ih (i + 1) (by omega) (by omega) _ _ hW _ (lv_sub hl [0, 1, 2, 3, 4] rfl)
                · refine lv_aload_n hx hb dX5_goes_138 rfl (lv_at hl 4 rfl) ?_
                  refine lv_iload hx hb dX5_goes_139 (lv_at hl 0 rfl) ?_
                  refine cl_Vi (As := [.int (nI i)]) (rest := []) (C := RX5) ⟨hx, hb, hml, hown, hts⟩ (M_X5_doesSpeak l D cI cJ mo R (talkTo (gripsG (spinG G)) i) b hb30 hT2 i (by omega)) (cwV 1 hts gX5_goes_X5_doesSpeak rfl rfl rfl qX5_doesSpeak ⟨Nat.le_of_ble_eq_true rfl, Nat.le_of_ble_eq_true rfl⟩) E0_good hK hA hW trivial [true, true] (fun _ => [mH mo R, mR cI (mo 1) (talkTo (gripsG (spinG G)) i)]) rfl (fun _ => rfl) (fun _ => rfl) 0 0 rfl rfl rfl rfl hl.1 rfl (lv_room (Nat.le_of_ble_eq_true rfl)) dX5_goes_141 ⟨Nat.zero_le _, Nat.zero_le _⟩ (fun _ H locs _ hW => ?_)
                  have hds_ : speaksN (talkTo (gripsG (spinG G)) i) i ≤ 1 := speakK_le _ _ _ _ _
                  refine lv_istore (lv' := [(5, .int (nI (speaksN (talkTo (gripsG (spinG G)) i) i))), (4, .int (nI i)), (3, .int (nI (max 1 (G 24 / 10)))), (2, .int (nI ((pushN G) / (weightN G)))), (1, .int (nI (G 24))), (0, .ref (mo 0))]) hx hb dX5_goes_144 hl (by decide) rfl (fun ls hl => ?_)
                  refine lv_aload_n hx hb dX5_goes_146 rfl (lv_at hl 5 rfl) ?_
                  refine lv_iload hx hb dX5_goes_147 (lv_at hl 1 rfl) ?_
                  refine lv_iconst (v := nI 2) hx hb dX5_goes_149 (by decide +kernel) ?_
                  refine lv_aload_n hx hb dX5_goes_150 rfl (lv_at hl 5 rfl) ?_
                  refine lv_iload hx hb dX5_goes_151 (lv_at hl 1 rfl) ?_
                  refine lv_iconst (v := nI 2) hx hb dX5_goes_153 (by decide +kernel) ?_
                  refine cl_Vi (As := [.int (nI i), .int (nI 2)]) (rest := [.int (nI 2), .int (nI i), .ref (mo 0)]) (C := RX5) ⟨hx, hb, hml, hown, hts⟩ (M_X5_it l D cI cJ mo R (talkTo (gripsG (spinG G)) i) i 2 3 (by omega) (by decide) rfl) (cwV 2 hts gX5_goes_X5_it rfl rfl rfl qX5_it ⟨Nat.le_of_ble_eq_true rfl, Nat.le_of_ble_eq_true rfl⟩) E0_good hK hA hW trivial [true, true] (fun _ => [mH mo R, mR cI (mo 1) (talkTo (gripsG (spinG G)) i)]) rfl (fun _ => rfl) (fun _ => rfl) 0 0 rfl rfl rfl rfl hl.1 rfl (lv_room (Nat.le_of_ble_eq_true rfl)) dX5_goes_154 ⟨Nat.zero_le _, Nat.zero_le _⟩ (fun _ H locs _ hW => ?_)
                  refine lv_iload hx hb dX5_goes_157 (lv_at hl 0 rfl) ?_
                  refine nn_zeq (tgt := 171) hx hb dX5_goes_159 (by decide) (by omega) (fun c159 => ?_) (fun c159 => ?_)
                  · refine lv_iconst (v := nI 0) hx hb dX5_goes_171 (by decide +kernel) ?_
                    refine lv_isub hx hb dX5_goes_172 ?_
                    refine lv_iconst (v := nI 0) hx hb dX5_goes_173 (by decide +kernel) ?_
                    refine lv_bipush (v := nI 99) hx hb dX5_goes_174 (by decide +kernel) ?_
                    refine cl_Si (As := [.int ((nI ((talkTo (gripsG (spinG G)) i) (8 * i + 3))) - (nI 0)), .int (nI 0), .int (nI 99)]) (rest := [.int (nI 2), .int (nI i), .ref (mo 0)]) ⟨hx, hb, hml, hown, hts⟩ (M_X5_held l D cI cJ ((nI ((talkTo (gripsG (spinG G)) i) (8 * i + 3))) - (nI 0)) ((((talkTo (gripsG (spinG G)) i) (8 * i + 3) : Nat) : Int) - ((0 : Nat) : Int)) 0 99 (pk_sub_toInt (by omega) (by omega)) (by decide) (by decide)) (va_cwS 3 hts gX5_goes_X5_held rfl rfl rfl qX5_held ⟨Nat.le_of_ble_eq_true rfl, Nat.le_of_ble_eq_true rfl⟩) E0_good hK hA hW trivial [] (fun _ => [mH mo R, mR cI (mo 1) (talkTo (gripsG (spinG G)) i)]) rfl (fun _ => rfl) (fun _ => rfl) rfl hl.1 rfl (lv_room (Nat.le_of_ble_eq_true rfl)) dX5_goes_176 ⟨Nat.zero_le _, Nat.zero_le _⟩ (fun _ H locs _ hW => ?_)
                    refine W.top (v' := .int (nI (talkTo (gripsG (spinG G)) i (8 * i + 3)))) (congrArg (fun z => Value.int (nI z)) (by unfold heldV; (repeat' split) <;> omega)) ?_
                    refine cl_Vv (As := [.int (nI i), .int (nI 2), .int (nI (talkTo (gripsG (spinG G)) i (8 * i + 3)))]) (rest := []) (C := RX5) ⟨hx, hb, hml, hown, hts⟩ (M_X5_put l D cI cJ mo R (talkTo (gripsG (spinG G)) i) i 2 3 (talkTo (gripsG (spinG G)) i (8 * i + 3)) (by omega) (by decide) rfl) (cwV 3 hts gX5_goes_X5_put rfl rfl rfl qX5_put ⟨Nat.le_of_ble_eq_true rfl, Nat.le_of_ble_eq_true rfl⟩) E0_good hK hA hW trivial [true, true] (fun _ => [mH mo R, mR cI (mo 1) (up (talkTo (gripsG (spinG G)) i) (8 * i + 3) (talkTo (gripsG (spinG G)) i (8 * i + 3)))]) rfl (fun _ => rfl) (fun _ => rfl) 0 0 rfl rfl rfl rfl hl.1 rfl (lv_room (Nat.le_of_ble_eq_true rfl)) dX5_goes_179 ⟨Nat.zero_le _, Nat.zero_le _⟩ (fun _ H locs _ hW => ?_)
                    refine lv_aload_n hx hb dX5_goes_182 rfl (lv_at hl 5 rfl) ?_
                    refine lv_iload hx hb dX5_goes_183 (lv_at hl 1 rfl) ?_
                    refine lv_iconst (v := nI 3) hx hb dX5_goes_185 (by decide +kernel) ?_
                    refine lv_iload hx hb dX5_goes_186 (lv_at hl 0 rfl) ?_
                    refine nn_zeq (tgt := 195) hx hb dX5_goes_188 (by decide) (by omega) (fun c188 => ?_) (fun c188 => ?_)
                    · refine lv_aload_n hx hb dX5_goes_195 rfl (lv_at hl 5 rfl) ?_
                      refine lv_iload hx hb dX5_goes_196 (lv_at hl 1 rfl) ?_
                      refine lv_iconst (v := nI 3) hx hb dX5_goes_198 (by decide +kernel) ?_
                      refine cl_Vi (As := [.int (nI i), .int (nI 3)]) (rest := [.int (nI 3), .int (nI i), .ref (mo 0)]) (C := RX5) ⟨hx, hb, hml, hown, hts⟩ (M_X5_it l D cI cJ mo R (up (talkTo (gripsG (spinG G)) i) (8 * i + 3) (talkTo (gripsG (spinG G)) i (8 * i + 3))) i 3 4 (by omega) (by decide) rfl) (cwV 2 hts gX5_goes_X5_it rfl rfl rfl qX5_it ⟨Nat.le_of_ble_eq_true rfl, Nat.le_of_ble_eq_true rfl⟩) E0_good hK hA hW trivial [true, true] (fun _ => [mH mo R, mR cI (mo 1) (up (talkTo (gripsG (spinG G)) i) (8 * i + 3) (talkTo (gripsG (spinG G)) i (8 * i + 3)))]) rfl (fun _ => rfl) (fun _ => rfl) 0 0 rfl rfl rfl rfl hl.1 rfl (lv_room (Nat.le_of_ble_eq_true rfl)) dX5_goes_199 ⟨Nat.zero_le _, Nat.zero_le _⟩ (fun _ H locs _ hW => ?_)
                      refine W.top (v' := .int (nI ((talkTo (gripsG (spinG G)) i) (8 * i + 4)))) (congrArg (fun z => Value.int (nI z)) (up_ne (by omega))) ?_
                      refine lv_iconst (v := nI 1) hx hb dX5_goes_202 (by decide +kernel) ?_
                      refine nn_add hx hb dX5_goes_203 ?_
                      refine lv_iconst (v := nI 0) hx hb dX5_goes_204 (by decide +kernel) ?_
                      refine lv_sipush (v := nI 999) hx hb dX5_goes_205 (by decide +kernel) ?_
                      refine cl_Si (As := [.int (nI (((talkTo (gripsG (spinG G)) i) (8 * i + 4)) + 1)), .int (nI 0), .int (nI 999)]) (rest := [.int (nI 3), .int (nI i), .ref (mo 0)]) ⟨hx, hb, hml, hown, hts⟩ (M_X5_held l D cI cJ (nI (((talkTo (gripsG (spinG G)) i) (8 * i + 4)) + 1)) ((((talkTo (gripsG (spinG G)) i) (8 * i + 4)) + 1 : Nat) : Int) 0 999 (nI_toInt (n := ((talkTo (gripsG (spinG G)) i) (8 * i + 4)) + 1) (by omega)) (by decide) (by decide)) (va_cwS 3 hts gX5_goes_X5_held rfl rfl rfl qX5_held ⟨Nat.le_of_ble_eq_true rfl, Nat.le_of_ble_eq_true rfl⟩) E0_good hK hA hW trivial [] (fun _ => [mH mo R, mR cI (mo 1) (up (talkTo (gripsG (spinG G)) i) (8 * i + 3) (talkTo (gripsG (spinG G)) i (8 * i + 3)))]) rfl (fun _ => rfl) (fun _ => rfl) rfl hl.1 rfl (lv_room (Nat.le_of_ble_eq_true rfl)) dX5_goes_208 ⟨Nat.zero_le _, Nat.zero_le _⟩ (fun _ H locs _ hW => ?_)
                      refine W.top (v' := .int (nI (min 999 (talkTo (gripsG (spinG G)) i (8 * i + 4) + 1)))) (congrArg (fun z => Value.int (nI z)) (by unfold heldV; (repeat' split) <;> omega)) ?_
                      refine cl_Vv (As := [.int (nI i), .int (nI 3), .int (nI (min 999 (talkTo (gripsG (spinG G)) i (8 * i + 4) + 1)))]) (rest := []) (C := RX5) ⟨hx, hb, hml, hown, hts⟩ (M_X5_put l D cI cJ mo R (up (talkTo (gripsG (spinG G)) i) (8 * i + 3) (talkTo (gripsG (spinG G)) i (8 * i + 3))) i 3 4 (min 999 (talkTo (gripsG (spinG G)) i (8 * i + 4) + 1)) (by omega) (by decide) rfl) (cwV 3 hts gX5_goes_X5_put rfl rfl rfl qX5_put ⟨Nat.le_of_ble_eq_true rfl, Nat.le_of_ble_eq_true rfl⟩) E0_good hK hA hW trivial [true, true] (fun _ => [mH mo R, mR cI (mo 1) (up (up (talkTo (gripsG (spinG G)) i) (8 * i + 3) (talkTo (gripsG (spinG G)) i (8 * i + 3))) (8 * i + 4) (min 999 (talkTo (gripsG (spinG G)) i (8 * i + 4) + 1)))]) rfl (fun _ => rfl) (fun _ => rfl) 0 0 rfl rfl rfl rfl hl.1 rfl (lv_room (Nat.le_of_ble_eq_true rfl)) dX5_goes_211 ⟨Nat.zero_le _, Nat.zero_le _⟩ (fun _ H locs _ hW => ?_)
                      refine lv_iinc (v := nI (i + 1)) (lv' := [(4, .int (nI (i + 1))), (5, .int (nI (speaksN (talkTo (gripsG (spinG G)) i) i))), (3, .int (nI (max 1 (G 24 / 10)))), (2, .int (nI ((pushN G) / (weightN G)))), (1, .int (nI (G 24))), (0, .ref (mo 0))]) hx hb dX5_goes_214 hl (k := 1) rfl (nI_add _ 1) (by decide) rfl (fun ls hl => ?_)
                      refine lv_goto (tgt := 116) hx hb dX5_goes_217 (by decide) ?_
                      have hW := hW.to (ss' := [mH mo R, mR cI (mo 1) (talkTo (gripsG (spinG G)) (i + 1))]) (by simp only [talkTo, talkF, up_self]; (repeat' split) <;> first | rfl | (exfalso; omega))
                      exact ih (i + 1) (by omega) (by omega) _ _ hW _ (lv_sub hl [0, 2, 3, 4, 5] rfl)
                    · exfalso; omega
                  · refine lv_aload_n hx hb dX5_goes_162 rfl (lv_at hl 5 rfl) ?_
                    refine lv_iload hx hb dX5_goes_163 (lv_at hl 1 rfl) ?_
                    refine cl_Vi (As := [.int (nI i)]) (rest := [.int (nI ((talkTo (gripsG (spinG G)) i) (8 * i + 3))), .int (nI 2), .int (nI i), .ref (mo 0)]) (C := RX5) ⟨hx, hb, hml, hown, hts⟩ (M_X5_lessBy l D cI cJ mo R (talkTo (gripsG (spinG G)) i) b hb30 hT2 i (by omega)) (cwV 1 hts gX5_goes_X5_lessBy rfl rfl rfl qX5_lessBy ⟨Nat.le_of_ble_eq_true rfl, Nat.le_of_ble_eq_true rfl⟩) E0_good hK hA hW trivial [true, true] (fun _ => [mH mo R, mR cI (mo 1) (talkTo (gripsG (spinG G)) i)]) rfl (fun _ => rfl) (fun _ => rfl) 0 0 rfl rfl rfl rfl hl.1 rfl (lv_room (Nat.le_of_ble_eq_true rfl)) dX5_goes_165 ⟨Nat.zero_le _, Nat.zero_le _⟩ (fun _ H locs _ hW => ?_)
                    have htk_ := tellK_le ((talkTo (gripsG (spinG G)) i) (8 * i + 1))
                    refine lv_goto (tgt := 172) hx hb dX5_goes_168 (by decide) ?_
                    refine lv_isub hx hb dX5_goes_172 ?_
                    refine lv_iconst (v := nI 0) hx hb dX5_goes_173 (by decide +kernel) ?_
                    refine lv_bipush (v := nI 99) hx hb dX5_goes_174 (by decide +kernel) ?_
                    refine cl_Si (As := [.int ((nI ((talkTo (gripsG (spinG G)) i) (8 * i + 3))) - (nI (tellK ((talkTo (gripsG (spinG G)) i) (8 * i + 1))))), .int (nI 0), .int (nI 99)]) (rest := [.int (nI 2), .int (nI i), .ref (mo 0)]) ⟨hx, hb, hml, hown, hts⟩ (M_X5_held l D cI cJ ((nI ((talkTo (gripsG (spinG G)) i) (8 * i + 3))) - (nI (tellK ((talkTo (gripsG (spinG G)) i) (8 * i + 1))))) ((((talkTo (gripsG (spinG G)) i) (8 * i + 3) : Nat) : Int) - ((tellK ((talkTo (gripsG (spinG G)) i) (8 * i + 1)) : Nat) : Int)) 0 99 (pk_sub_toInt (by omega) (by omega)) (by decide) (by decide)) (va_cwS 3 hts gX5_goes_X5_held rfl rfl rfl qX5_held ⟨Nat.le_of_ble_eq_true rfl, Nat.le_of_ble_eq_true rfl⟩) E0_good hK hA hW trivial [] (fun _ => [mH mo R, mR cI (mo 1) (talkTo (gripsG (spinG G)) i)]) rfl (fun _ => rfl) (fun _ => rfl) rfl hl.1 rfl (lv_room (Nat.le_of_ble_eq_true rfl)) dX5_goes_176 ⟨Nat.zero_le _, Nat.zero_le _⟩ (fun _ H locs _ hW => ?_)
                    refine W.top (v' := .int (nI (talkTo (gripsG (spinG G)) i (8 * i + 3) - tellK (talkTo (gripsG (spinG G)) i (8 * i + 1))))) (congrArg (fun z => Value.int (nI z)) (by unfold heldV; (repeat' split) <;> omega)) ?_
                    refine cl_Vv (As := [.int (nI i), .int (nI 2), .int (nI (talkTo (gripsG (spinG G)) i (8 * i + 3) - tellK (talkTo (gripsG (spinG G)) i (8 * i + 1))))]) (rest := []) (C := RX5) ⟨hx, hb, hml, hown, hts⟩ (M_X5_put l D cI cJ mo R (talkTo (gripsG (spinG G)) i) i 2 3 (talkTo (gripsG (spinG G)) i (8 * i + 3) - tellK (talkTo (gripsG (spinG G)) i (8 * i + 1))) (by omega) (by decide) rfl) (cwV 3 hts gX5_goes_X5_put rfl rfl rfl qX5_put ⟨Nat.le_of_ble_eq_true rfl, Nat.le_of_ble_eq_true rfl⟩) E0_good hK hA hW trivial [true, true] (fun _ => [mH mo R, mR cI (mo 1) (up (talkTo (gripsG (spinG G)) i) (8 * i + 3) (talkTo (gripsG (spinG G)) i (8 * i + 3) - tellK (talkTo (gripsG (spinG G)) i (8 * i + 1))))]) rfl (fun _ => rfl) (fun _ => rfl) 0 0 rfl rfl rfl rfl hl.1 rfl (lv_room (Nat.le_of_ble_eq_true rfl)) dX5_goes_179 ⟨Nat.zero_le _, Nat.zero_le _⟩ (fun _ H locs _ hW => ?_)
                    refine lv_aload_n hx hb dX5_goes_182 rfl (lv_at hl 5 rfl) ?_
                    refine lv_iload hx hb dX5_goes_183 (lv_at hl 1 rfl) ?_
                    refine lv_iconst (v := nI 3) hx hb dX5_goes_185 (by decide +kernel) ?_
                    refine lv_iload hx hb dX5_goes_186 (lv_at hl 0 rfl) ?_
                    refine nn_zeq (tgt := 195) hx hb dX5_goes_188 (by decide) (by omega) (fun c188_1 => ?_) (fun c188_1 => ?_)
                    · exfalso; omega
                    · refine lv_iconst (v := nI 0) hx hb dX5_goes_191 (by decide +kernel) ?_
                      refine lv_goto (tgt := 211) hx hb dX5_goes_192 (by decide) ?_
                      refine cl_Vv (As := [.int (nI i), .int (nI 3), .int (nI 0)]) (rest := []) (C := RX5) ⟨hx, hb, hml, hown, hts⟩ (M_X5_put l D cI cJ mo R (up (talkTo (gripsG (spinG G)) i) (8 * i + 3) (talkTo (gripsG (spinG G)) i (8 * i + 3) - tellK (talkTo (gripsG (spinG G)) i (8 * i + 1)))) i 3 4 0 (by omega) (by decide) rfl) (cwV 3 hts gX5_goes_X5_put rfl rfl rfl qX5_put ⟨Nat.le_of_ble_eq_true rfl, Nat.le_of_ble_eq_true rfl⟩) E0_good hK hA hW trivial [true, true] (fun _ => [mH mo R, mR cI (mo 1) (up (up (talkTo (gripsG (spinG G)) i) (8 * i + 3) (talkTo (gripsG (spinG G)) i (8 * i + 3) - tellK (talkTo (gripsG (spinG G)) i (8 * i + 1)))) (8 * i + 4) 0)]) rfl (fun _ => rfl) (fun _ => rfl) 0 0 rfl rfl rfl rfl hl.1 rfl (lv_room (Nat.le_of_ble_eq_true rfl)) dX5_goes_211 ⟨Nat.zero_le _, Nat.zero_le _⟩ (fun _ H locs _ hW => ?_)
                      refine lv_iinc (v := nI (i + 1)) (lv' := [(4, .int (nI (i + 1))), (5, .int (nI (speaksN (talkTo (gripsG (spinG G)) i) i))), (3, .int (nI (max 1 (G 24 / 10)))), (2, .int (nI ((pushN G) / (weightN G)))), (1, .int (nI (G 24))), (0, .ref (mo 0))]) hx hb dX5_goes_214 hl (k := 1) rfl (nI_add _ 1) (by decide) rfl (fun ls hl => ?_)
                      refine lv_goto (tgt := 116) hx hb dX5_goes_217 (by decide) ?_
                      have hW := hW.to (ss' := [mH mo R, mR cI (mo 1) (talkTo (gripsG (spinG G)) (i + 1))]) (by simp only [talkTo, talkF, up_self]; (repeat' split) <;> first | rfl | (exfalso; omega))
                      exact ih (i + 1) (by omega) (by omega) _ _ hW _ (lv_sub hl [0, 2, 3, 4, 5] rfl)
          have hW := hW.to (ss' := [mH mo R, mR cI (mo 1) (talkTo (gripsG (spinG G)) 0)]) rfl
          exact lp116 (gripsG (spinG G) 40 - 0 + 1) 0 (Nat.lt_succ_self _) (by omega) _ _ hW _ (lv_sub hl [0, 1, 2, 3, 4] rfl)
        · have hci := hT1.c i (by omega)
          refine lv_aload_n hx hb dX5_goes_90 rfl (lv_at hl 4 rfl) ?_
          refine lv_iload hx hb dX5_goes_91 (lv_at hl 0 rfl) ?_
          refine lv_iconst (v := nI 1) hx hb dX5_goes_93 (by decide +kernel) ?_
          refine cl_Vi (As := [.int (nI i), .int (nI 1)]) (rest := []) (C := RX5) ⟨hx, hb, hml, hown, hts⟩ (M_X5_about l D cI cJ mo R (gripsTo (spinG G) i) i 1 6 (by omega) (by decide) rfl) (cwV 2 hts gX5_goes_X5_about rfl rfl rfl qX5_about ⟨Nat.le_of_ble_eq_true rfl, Nat.le_of_ble_eq_true rfl⟩) E0_good hK hA hW trivial [true, true] (fun _ => [mH mo R, mR cI (mo 1) (gripsTo (spinG G) i)]) rfl (fun _ => rfl) (fun _ => rfl) 0 0 rfl rfl rfl rfl hl.1 rfl (lv_room (Nat.le_of_ble_eq_true rfl)) dX5_goes_94 ⟨Nat.zero_le _, Nat.zero_le _⟩ (fun _ H locs _ hW => ?_)
          refine lv_iconst (v := nI 1) hx hb dX5_goes_97 (by decide +kernel) ?_
          refine nn_cne (tgt := 107) hx hb dX5_goes_98 (by decide) (by omega) (by decide) (fun c98 => ?_) (fun c98 => ?_)
          · refine lv_iinc (v := nI (i + 1)) (lv' := [(4, .int (nI (i + 1))), (3, .int (nI (max 1 (G 24 / 10)))), (2, .int (nI ((pushN G) / (weightN G)))), (1, .int (nI (G 24))), (0, .ref (mo 0))]) hx hb dX5_goes_107 hl (k := 0) rfl (nI_add _ 1) (by decide) rfl (fun ls hl => ?_)
            refine lv_goto (tgt := 78) hx hb dX5_goes_110 (by decide) ?_
            have hW := hW.to (ss' := [mH mo R, mR cI (mo 1) (gripsTo (spinG G) (i + 1))]) (by first | rfl | (simp only [gripsTo]; unfold holdF; rw [if_neg (by omega)]))
            exact ih (i + 1) (by omega) (by omega) _ _ hW _ (lv_sub hl [0, 1, 2, 3, 4] rfl)
          · refine lv_aload_n hx hb dX5_goes_101 rfl (lv_at hl 4 rfl) ?_
            refine lv_iload hx hb dX5_goes_102 (lv_at hl 0 rfl) ?_
            refine cl_Vv (As := [.int (nI i)]) (rest := []) (C := RX5) ⟨hx, hb, hml, hown, hts⟩ (M_X5_holds l D cI cJ mo R (gripsTo (spinG G) i) b hb30 hT1 i (by omega) (by omega)) (cwV 1 hts gX5_goes_X5_holds rfl rfl rfl qX5_holds ⟨Nat.le_of_ble_eq_true rfl, Nat.le_of_ble_eq_true rfl⟩) E0_good hK hA hW trivial [true, true] (fun _ => [mH mo R, mR cI (mo 1) (holdF (gripsTo (spinG G) i) i)]) rfl (fun _ => rfl) (fun _ => rfl) 0 0 rfl rfl rfl rfl hl.1 rfl (lv_room (Nat.le_of_ble_eq_true rfl)) dX5_goes_104 ⟨Nat.zero_le _, Nat.zero_le _⟩ (fun _ H locs _ hW => ?_)
            refine lv_iinc (v := nI (i + 1)) (lv' := [(4, .int (nI (i + 1))), (3, .int (nI (max 1 (G 24 / 10)))), (2, .int (nI ((pushN G) / (weightN G)))), (1, .int (nI (G 24))), (0, .ref (mo 0))]) hx hb dX5_goes_107 hl (k := 0) rfl (nI_add _ 1) (by decide) rfl (fun ls hl => ?_)
            refine lv_goto (tgt := 78) hx hb dX5_goes_110 (by decide) ?_
            have hW := hW.to (ss' := [mH mo R, mR cI (mo 1) (gripsTo (spinG G) (i + 1))]) (by first | rfl | (simp only [gripsTo]; unfold holdF; rw [if_neg (by omega)]))
            exact ih (i + 1) (by omega) (by omega) _ _ hW _ (lv_sub hl [0, 1, 2, 3, 4] rfl)
    have hW := hW.to (ss' := [mH mo R, mR cI (mo 1) (gripsTo (spinG G) 0)]) rfl
    exact lp78 (spinG G 48 - 0 + 1) 0 (Nat.lt_succ_self _) (by omega) _ _ hW _ (lv_sub hl [0, 1, 2, 3, 4] rfl)
  refine lv_iload_n hx hb dX5_goes_17 rfl (lv_at hl 1 rfl) ?_
  refine lv_bipush (v := nI 20) hx hb dX5_goes_18 (by decide +kernel) ?_
  refine nn_cge (tgt := 27) hx hb dX5_goes_20 (by decide) (by omega) (by decide) (fun c20 => ?_) (fun c20 => ?_)
  · refine lv_iload_n hx hb dX5_goes_27 rfl (lv_at hl 1 rfl) ?_
    refine lv_bipush (v := nI 10) hx hb dX5_goes_28 (by decide +kernel) ?_
    refine nn_div hx hb dX5_goes_30 (by omega) (by decide) (by decide) ?_
    refine W.top (v' := .int (nI (max 1 (G 24 / 10)))) (congrArg (fun z => Value.int (nI z)) (by omega)) ?_
    exact jn31   _ _ hW _ (lv_sub hl [0, 1, 2] rfl)
  · refine lv_iconst (v := nI 1) hx hb dX5_goes_23 (by decide +kernel) ?_
    refine lv_goto (tgt := 31) hx hb dX5_goes_24 (by decide) ?_
    refine W.top (v' := .int (nI (max 1 (G 24 / 10)))) (congrArg (fun z => Value.int (nI z)) (by omega)) ?_
    exact jn31   _ _ hW _ (lv_sub hl [0, 1, 2] rfl)
