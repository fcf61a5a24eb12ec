theorem qX5_notCopied : yX5_notCopied.cls = RX5 ∧ yX5_notCopied.cls ≠ "java/lang/invoke/MethodHandle" ∧ yX5_notCopied.cls ≠ "java/lang/invoke/VarHandle" ∧ (parseMethodDescriptor yX5_notCopied.desc).map (fun d => d.parameters.length) = some 5 := by decide +kernel
theorem cpD_rd {C : Nat → Int64} {sp dp y k q : Nat} (h : ¬ (dp + (y - k) ≤ q ∧ q < dp + y)) : cpD C sp dp y k q = C q := if_neg h
theorem cpU_rd {C : Nat → Int64} {sp dp k q : Nat} (h : ¬ (dp ≤ q ∧ q < dp + k)) : cpU C sp dp k q = C q := if_neg h
abbrev rmX5_copy : Room := { frames := 3, cells := 0, slots := 0, locals := 69 }
set_option maxRecDepth 100000 in
set_option maxHeartbeats 4000000 in
theorem M_X5_copy (l : Launch) (D : va_G) (cI cJ : ClassId) (mo R F B Z : Nat → Nat) (C : Nat → Int64) (hS : OkS B Z) (v fr w gg z : Int32) : CE E0 l D vwCl [(cI, .int), (cJ, .long)] yX5_copy wsX5_copy rmX5_copy [.ref (mo 0), .int v, .int fr, .int w, .int gg, .int z] [mH mo R, aI cI (mo 4) 7 F, aI cI (mo 6) 4 B, aI cI (mo 7) 4 Z, aJ cJ (mo 8) 160 C] (S := Unit) (some (.int (copyV B Z v.toInt fr.toInt w.toInt gg.toInt z.toInt))) (fun _ => True) (fun _ : Unit => [mH mo R, aI cI (mo 4) 7 (copyF B Z F v.toInt fr.toInt w.toInt gg.toInt z.toInt), aI cI (mo 6) 4 B, aI cI (mo 7) 4 Z, aJ cJ (mo 8) 160 (copyC B Z C v.toInt fr.toInt w.toInt gg.toInt z.toInt)]) 0 0 := by
  refine CE.ofW (cc := cX5_copy) (maxL := 9) (ret := (some .int)) (lv := [(0, .ref (mo 0)), (1, .int v), (2, .int fr), (3, .int w), (4, .int gg), (5, .int z)]) (by decide) rfl (Nat.le_of_ble_eq_true rfl) rfl ?_
  intro p e s m args below meth c ls A Q hQ hx hb hml hr hlocks hnm hown hts hK hA hE hW hl
  have hown : s.vm.findClass RX5 = some m.cls := hown
  refine lv_aload_n hx hb dX5_copy_0 rfl (lv_at hl 0 rfl) ?_
  refine lv_iload_n hx hb dX5_copy_1 rfl (lv_at hl 1 rfl) ?_
  refine lv_iload_n hx hb dX5_copy_2 rfl (lv_at hl 2 rfl) ?_
  refine lv_iload_n hx hb dX5_copy_3 rfl (lv_at hl 3 rfl) ?_
  refine lv_iload hx hb dX5_copy_4 (lv_at hl 4 rfl) ?_
  refine lv_iload hx hb dX5_copy_6 (lv_at hl 5 rfl) ?_
  refine cl_Vi (As := [.int v, .int fr, .int w, .int gg, .int z]) (rest := []) (C := RX5) ⟨hx, hb, hml, hown, hts⟩ (M_X5_notCopied l D cI cJ mo R B Z hS v fr w gg z) (cwV 5 hts gX5_copy_X5_notCopied rfl rfl rfl qX5_notCopied ⟨Nat.le_of_ble_eq_true rfl, Nat.le_of_ble_eq_true rfl⟩) E0_good hK hA hW trivial [true, false, true, true] (fun _ => [mH mo R, aI cI (mo 4) 7 F, aI cI (mo 6) 4 B, aI cI (mo 7) 4 Z, aJ cJ (mo 8) 160 C]) rfl (fun _ => rfl) (fun _ => rfl) 0 0 rfl rfl rfl rfl hl.1 rfl (lv_room (Nat.le_of_ble_eq_true rfl)) dX5_copy_8 ⟨Nat.zero_le _, Nat.zero_le _⟩ (fun _ H locs _ hW => ?_)
  refine lv_istore (lv' := [(6, .int (ncV B Z v.toInt fr.toInt w.toInt gg.toInt z.toInt)), (0, .ref (mo 0)), (1, .int v), (2, .int fr), (3, .int w), (4, .int gg), (5, .int z)]) hx hb dX5_copy_11 hl (by decide) rfl (fun ls hl => ?_)
  rcases ncV_or B Z v.toInt fr.toInt w.toInt gg.toInt z.toInt with ⟨hnv, hnv1, hnv2, hnv3, hnv4⟩ | ⟨hnv, hnv1, hnv2⟩ | ⟨hnv, hnv1, hnv2, hnv3⟩ | ⟨hnv, hnv1⟩
  · rw [hnv] at hl
    refine lv_iload hx hb dX5_copy_13 (lv_at hl 0 rfl) ?_
    refine nn_zeq (tgt := 25) hx hb dX5_copy_15 (by decide) (by decide) (fun c15 => ?_) (fun c15 => ?_)
    · obtain ⟨j, hj, ej⟩ : ∃ j : Nat, v = nI j ∧ v.toInt = (j : Int) := ⟨v.toInt.toNat, nI_ofZ rfl (by omega), by omega⟩
      rw [hj] at hl
      obtain ⟨a, ha, ea⟩ : ∃ a : Nat, fr = nI a ∧ fr.toInt = (a : Int) := ⟨fr.toInt.toNat, nI_ofZ rfl (by omega), by omega⟩
      rw [ha] at hl
      obtain ⟨k, hk, ek⟩ : ∃ k : Nat, w = nI k ∧ w.toInt = (k : Int) := ⟨w.toInt.toNat, nI_ofZ rfl (by omega), by omega⟩
      rw [hk] at hl
      obtain ⟨g, hg, eg⟩ : ∃ g : Nat, gg = nI g ∧ gg.toInt = (g : Int) := ⟨gg.toInt.toNat, nI_ofZ rfl (by omega), by omega⟩
      rw [hg] at hl
      obtain ⟨y, hy, ey⟩ : ∃ y : Nat, z = nI y ∧ z.toInt = (y : Int) := ⟨z.toInt.toNat, nI_ofZ rfl (by omega), by omega⟩
      rw [hy] at hl
      have hSj := hS j (by omega)
      have hSk := hS k (by omega)
      simp only [ej, ek, ea, eg, ey, Int.toNat_natCast] at hnv1 hnv2 hnv3 hnv4
      rcases Nat.lt_or_ge a g with hag | hag
      · skip
        refine lv_iconst (v := nI 0) hx hb dX5_copy_25 (by decide +kernel) ?_
        refine lv_istore (lv' := [(7, .int (nI 0)), (6, .int (nI 0)), (0, .ref (mo 0)), (1, .int (nI j)), (2, .int (nI a)), (3, .int (nI k)), (4, .int (nI g)), (5, .int (nI y))]) hx hb dX5_copy_26 hl (by decide) rfl (fun ls hl => ?_)
        have lp28 : ∀ (n : Nat) (i : Nat), y - i < n → i ≤ y → ∀ (H : Heap) (locs : List Loc), Wo D vwCl A s.heap H locs [mH mo R, aI cI (mo 4) 7 F, aI cI (mo 6) 4 B, aI cI (mo 7) 4 Z, aJ cJ (mo 8) 160 (cpD C (40 * j + a) (40 * k + g) y i)] → ∀ ls : Array Slot, lv_has ls 9 [(7, .int (nI i)), (6, .int (nI 0)), (0, .ref (mo 0)), (1, .int (nI j)), (2, .int (nI a)), (3, .int (nI k)), (4, .int (nI g)), (5, .int (nI y))] → W p l e rmX5_copy s m args below meth c H locs 0 0 Q (F0 m 28 ls []) := by
          intro n
          induction n with
          | zero => intro i hm; exact absurd hm (Nat.not_lt_zero _)
          | succ n ih =>
            intro i hm hi H locs hW ls hl
            refine lv_iload hx hb dX5_copy_28 (lv_at hl 0 rfl) ?_
            refine lv_iload hx hb dX5_copy_30 (lv_at hl 7 rfl) ?_
            refine nn_cge (tgt := 90) hx hb dX5_copy_32 (by decide) (by omega) (by omega) (fun c32 => ?_) (fun c32 => ?_)
            · have hiy : i = y := by omega
              rw [hiy] at hl hW
              refine lv_iload hx hb dX5_copy_90 (lv_at hl 7 rfl) ?_
              exact rt_i hQ hx hb hr hlocks hW dX5_copy_92 () (by (try simp only [copyV, ej, ea, ek, eg, ey, Int.toNat_natCast]); (repeat' split) <;> first | rfl | (exfalso; omega)) trivial (by (try simp only [copyC, copyF, Nat.mul_comm 40 j, Nat.mul_comm 40 k, cpD_all, cpU_all, ej, ea, ek, eg, ey, Int.toNat_natCast]); (repeat' split) <;> first | rfl | (exfalso; omega))
            · refine lv_iload_n hx hb dX5_copy_35 rfl (lv_at hl 4 rfl) ?_
              refine lv_iload hx hb dX5_copy_36 (lv_at hl 6 rfl) ?_
              refine nn_cge (tgt := 51) hx hb dX5_copy_38 (by decide) (by omega) (by omega) (fun c38 => ?_) (fun c38 => ?_)
              · exfalso; omega
              · refine lv_iload hx hb dX5_copy_41 (lv_at hl 7 rfl) ?_
                refine lv_iconst (v := nI 1) hx hb dX5_copy_43 (by decide +kernel) ?_
                refine nn_sub hx hb dX5_copy_44 (by omega) ?_
                refine lv_iload hx hb dX5_copy_45 (lv_at hl 0 rfl) ?_
                refine nn_sub hx hb dX5_copy_47 (by omega) ?_
                refine lv_goto (tgt := 53) hx hb dX5_copy_48 (by decide) ?_
                refine lv_istore (lv' := [(8, .int (nI ((y - 1) - i))), (7, .int (nI i)), (6, .int (nI 0)), (0, .ref (mo 0)), (1, .int (nI j)), (2, .int (nI a)), (3, .int (nI k)), (4, .int (nI g)), (5, .int (nI y))]) hx hb dX5_copy_53 hl (by decide) rfl (fun ls hl => ?_)
                refine lv_aload_n hx hb dX5_copy_55 rfl (lv_at hl 3 rfl) ?_
                refine sg_get (ci := 4) (C := RX5) (T := TX5) (N := 15) (v := .ref (mo 8)) hx hb hts (fun _ h => List.mem_cons_of_mem _ (List.mem_append_right _ h)) hown hK hW 0 0 rfl rfl rfl 14 (by decide) (hts _ (List.mem_of_getElem? (i := 1) rfl)) rfl dX5_copy_56 ?_
                refine lv_bipush (v := nI 40) hx hb dX5_copy_59 (by decide +kernel) ?_
                refine lv_iload_n hx hb dX5_copy_61 rfl (lv_at hl 6 rfl) ?_
                refine nn_mul hx hb dX5_copy_62 ?_
                refine lv_iload hx hb dX5_copy_63 (lv_at hl 7 rfl) ?_
                refine nn_add hx hb dX5_copy_65 ?_
                refine lv_iload hx hb dX5_copy_66 (lv_at hl 0 rfl) ?_
                refine nn_add hx hb dX5_copy_68 ?_
                refine lv_aload_n hx hb dX5_copy_69 rfl (lv_at hl 3 rfl) ?_
                refine sg_get (ci := 4) (C := RX5) (T := TX5) (N := 15) (v := .ref (mo 8)) hx hb hts (fun _ h => List.mem_cons_of_mem _ (List.mem_append_right _ h)) hown hK hW 0 0 rfl rfl rfl 14 (by decide) (hts _ (List.mem_of_getElem? (i := 1) rfl)) rfl dX5_copy_70 ?_
                refine lv_bipush (v := nI 40) hx hb dX5_copy_73 (by decide +kernel) ?_
                refine lv_iload_n hx hb dX5_copy_75 rfl (lv_at hl 4 rfl) ?_
                refine nn_mul hx hb dX5_copy_76 ?_
                refine lv_iload_n hx hb dX5_copy_77 rfl (lv_at hl 5 rfl) ?_
                refine nn_add hx hb dX5_copy_78 ?_
                refine lv_iload hx hb dX5_copy_79 (lv_at hl 0 rfl) ?_
                refine nn_add hx hb dX5_copy_81 ?_
                refine sg_lld (v := (cpD C (40 * j + a) (40 * k + g) y i) (((40 * j) + a) + ((y - 1) - i))) hx hb hK hW 4 0 1 rfl rfl rfl (by omega) (by decide) rfl dX5_copy_82 ?_
                refine W.top (v' := .long (C (40 * j + a + (y - 1 - i)))) (congrArg Value.long (cpD_rd (by omega))) ?_
                refine sg_lst hx hb hK hW 4 0 1 rfl rfl rfl (by omega) (by decide) (aJ_set cJ (mo 8) 160 (cpD C (40 * j + a) (40 * k + g) y i) (((40 * k) + g) + ((y - 1) - i)) (C (40 * j + a + (y - 1 - i)))) (ss' := [mH mo R, aI cI (mo 4) 7 F, aI cI (mo 6) 4 B, aI cI (mo 7) 4 Z, aJ cJ (mo 8) 160 (vp_updL (cpD C (40 * j + a) (40 * k + g) y i) (((40 * k) + g) + ((y - 1) - i)) (C (40 * j + a + (y - 1 - i))))]) rfl dX5_copy_83 (fun H locs hW => ?_)
                refine lv_iinc (v := nI (i + 1)) (lv' := [(7, .int (nI (i + 1))), (8, .int (nI ((y - 1) - i))), (6, .int (nI 0)), (0, .ref (mo 0)), (1, .int (nI j)), (2, .int (nI a)), (3, .int (nI k)), (4, .int (nI g)), (5, .int (nI y))]) hx hb dX5_copy_84 hl (k := 1) rfl (nI_add _ 1) (by decide) rfl (fun ls hl => ?_)
                refine lv_goto (tgt := 28) hx hb dX5_copy_87 (by decide) ?_
                have hW := hW.to (ss' := [mH mo R, aI cI (mo 4) 7 F, aI cI (mo 6) 4 B, aI cI (mo 7) 4 Z, aJ cJ (mo 8) 160 (cpD C (40 * j + a) (40 * k + g) y (i + 1))]) (by rw [cpD_up _ _ _ _ _ (by omega)])
                exact ih (i + 1) (by omega) (by omega) _ _ hW _ (lv_sub hl [0, 2, 3, 4, 5, 6, 7, 8] rfl)
        have hW := hW.to (ss' := [mH mo R, aI cI (mo 4) 7 F, aI cI (mo 6) 4 B, aI cI (mo 7) 4 Z, aJ cJ (mo 8) 160 (cpD C (40 * j + a) (40 * k + g) y 0)]) (by rw [cpD_0])
        exact lp28 (y - 0 + 1) 0 (Nat.lt_succ_self _) (by omega) _ _ hW _ (lv_sub hl [0, 1, 2, 3, 4, 5, 6, 7] rfl)
      · skip
        refine lv_iconst (v := nI 0) hx hb dX5_copy_25 (by decide +kernel) ?_
        refine lv_istore (lv' := [(7, .int (nI 0)), (6, .int (nI 0)), (0, .ref (mo 0)), (1, .int (nI j)), (2, .int (nI a)), (3, .int (nI k)), (4, .int (nI g)), (5, .int (nI y))]) hx hb dX5_copy_26 hl (by decide) rfl (fun ls hl => ?_)
        have lp28 : ∀ (n : Nat) (i : Nat), y - i < n → i ≤ y → ∀ (H : Heap) (locs : List Loc), Wo D vwCl A s.heap H locs [mH mo R, aI cI (mo 4) 7 F, aI cI (mo 6) 4 B, aI cI (mo 7) 4 Z, aJ cJ (mo 8) 160 (cpU C (40 * j + a) (40 * k + g) i)] → ∀ ls : Array Slot, lv_has ls 9 [(7, .int (nI i)), (6, .int (nI 0)), (0, .ref (mo 0)), (1, .int (nI j)), (2, .int (nI a)), (3, .int (nI k)), (4, .int (nI g)), (5, .int (nI y))] → W p l e rmX5_copy s m args below meth c H locs 0 0 Q (F0 m 28 ls []) := by
          intro n
          induction n with
          | zero => intro i hm; exact absurd hm (Nat.not_lt_zero _)
          | succ n ih =>
            intro i hm hi H locs hW ls hl
            refine lv_iload hx hb dX5_copy_28 (lv_at hl 0 rfl) ?_
            refine lv_iload hx hb dX5_copy_30 (lv_at hl 7 rfl) ?_
            refine nn_cge (tgt := 90) hx hb dX5_copy_32 (by decide) (by omega) (by omega) (fun c32_1 => ?_) (fun c32_1 => ?_)
            · have hiy : i = y := by omega
              rw [hiy] at hl hW
              refine lv_iload hx hb dX5_copy_90 (lv_at hl 7 rfl) ?_
              exact rt_i hQ hx hb hr hlocks hW dX5_copy_92 () (by (try simp only [copyV, ej, ea, ek, eg, ey, Int.toNat_natCast]); (repeat' split) <;> first | rfl | (exfalso; omega)) trivial (by (try simp only [copyC, copyF, Nat.mul_comm 40 j, Nat.mul_comm 40 k, cpD_all, cpU_all, ej, ea, ek, eg, ey, Int.toNat_natCast]); (repeat' split) <;> first | rfl | (exfalso; omega))
            · refine lv_iload_n hx hb dX5_copy_35 rfl (lv_at hl 4 rfl) ?_
              refine lv_iload hx hb dX5_copy_36 (lv_at hl 6 rfl) ?_
              refine nn_cge (tgt := 51) hx hb dX5_copy_38 (by decide) (by omega) (by omega) (fun c38_1 => ?_) (fun c38_1 => ?_)
              · refine lv_iload hx hb dX5_copy_51 (lv_at hl 0 rfl) ?_
                refine lv_istore (lv' := [(8, .int (nI i)), (7, .int (nI i)), (6, .int (nI 0)), (0, .ref (mo 0)), (1, .int (nI j)), (2, .int (nI a)), (3, .int (nI k)), (4, .int (nI g)), (5, .int (nI y))]) hx hb dX5_copy_53 hl (by decide) rfl (fun ls hl => ?_)
                refine lv_aload_n hx hb dX5_copy_55 rfl (lv_at hl 3 rfl) ?_
                refine sg_get (ci := 4) (C := RX5) (T := TX5) (N := 15) (v := .ref (mo 8)) hx hb hts (fun _ h => List.mem_cons_of_mem _ (List.mem_append_right _ h)) hown hK hW 0 0 rfl rfl rfl 14 (by decide) (hts _ (List.mem_of_getElem? (i := 1) rfl)) rfl dX5_copy_56 ?_
                refine lv_bipush (v := nI 40) hx hb dX5_copy_59 (by decide +kernel) ?_
                refine lv_iload_n hx hb dX5_copy_61 rfl (lv_at hl 6 rfl) ?_
                refine nn_mul hx hb dX5_copy_62 ?_
                refine lv_iload hx hb dX5_copy_63 (lv_at hl 7 rfl) ?_
                refine nn_add hx hb dX5_copy_65 ?_
                refine lv_iload hx hb dX5_copy_66 (lv_at hl 0 rfl) ?_
                refine nn_add hx hb dX5_copy_68 ?_
                refine lv_aload_n hx hb dX5_copy_69 rfl (lv_at hl 3 rfl) ?_
                refine sg_get (ci := 4) (C := RX5) (T := TX5) (N := 15) (v := .ref (mo 8)) hx hb hts (fun _ h => List.mem_cons_of_mem _ (List.mem_append_right _ h)) hown hK hW 0 0 rfl rfl rfl 14 (by decide) (hts _ (List.mem_of_getElem? (i := 1) rfl)) rfl dX5_copy_70 ?_
                refine lv_bipush (v := nI 40) hx hb dX5_copy_73 (by decide +kernel) ?_
                refine lv_iload_n hx hb dX5_copy_75 rfl (lv_at hl 4 rfl) ?_
                refine nn_mul hx hb dX5_copy_76 ?_
                refine lv_iload_n hx hb dX5_copy_77 rfl (lv_at hl 5 rfl) ?_
                refine nn_add hx hb dX5_copy_78 ?_
                refine lv_iload hx hb dX5_copy_79 (lv_at hl 0 rfl) ?_
                refine nn_add hx hb dX5_copy_81 ?_
                refine sg_lld (v := (cpU C (40 * j + a) (40 * k + g) i) (((40 * j) + a) + i)) hx hb hK hW 4 0 1 rfl rfl rfl (by omega) (by decide) rfl dX5_copy_82 ?_
                refine W.top (v' := .long (C (40 * j + a + i))) (congrArg Value.long (cpU_rd (by omega))) ?_
                refine sg_lst hx hb hK hW 4 0 1 rfl rfl rfl (by omega) (by decide) (aJ_set cJ (mo 8) 160 (cpU C (40 * j + a) (40 * k + g) i) (((40 * k) + g) + i) (C (40 * j + a + i))) (ss' := [mH mo R, aI cI (mo 4) 7 F, aI cI (mo 6) 4 B, aI cI (mo 7) 4 Z, aJ cJ (mo 8) 160 (vp_updL (cpU C (40 * j + a) (40 * k + g) i) (((40 * k) + g) + i) (C (40 * j + a + i)))]) rfl dX5_copy_83 (fun H locs hW => ?_)
                refine lv_iinc (v := nI (i + 1)) (lv' := [(7, .int (nI (i + 1))), (8, .int (nI i)), (6, .int (nI 0)), (0, .ref (mo 0)), (1, .int (nI j)), (2, .int (nI a)), (3, .int (nI k)), (4, .int (nI g)), (5, .int (nI y))]) hx hb dX5_copy_84 hl (k := 1) rfl (nI_add _ 1) (by decide) rfl (fun ls hl => ?_)
                refine lv_goto (tgt := 28) hx hb dX5_copy_87 (by decide) ?_
                have hW := hW.to (ss' := [mH mo R, aI cI (mo 4) 7 F, aI cI (mo 6) 4 B, aI cI (mo 7) 4 Z, aJ cJ (mo 8) 160 (cpU C (40 * j + a) (40 * k + g) (i + 1))]) (by rw [cpU_up])
                exact ih (i + 1) (by omega) (by omega) _ _ hW _ (lv_sub hl [0, 2, 3, 4, 5, 6, 7, 8] rfl)
              · exfalso; omega
        have hW := hW.to (ss' := [mH mo R, aI cI (mo 4) 7 F, aI cI (mo 6) 4 B, aI cI (mo 7) 4 Z, aJ cJ (mo 8) 160 (cpU C (40 * j + a) (40 * k + g) 0)]) (by rw [cpU_0])
        exact lp28 (y - 0 + 1) 0 (Nat.lt_succ_self _) (by omega) _ _ hW _ (lv_sub hl [0, 1, 2, 3, 4, 5, 6, 7] rfl)
    · exfalso; omega
  · rw [hnv] at hl
    refine lv_iload hx hb dX5_copy_13 (lv_at hl 0 rfl) ?_
    refine zz_zeq (tgt := 25) hx hb dX5_copy_15 (by decide) (show ((-1000000006) : Int32).toInt = (-1000000006) by decide +kernel) (fun c15_1 => ?_) (fun c15_1 => ?_)
    · exfalso; omega
    · refine lv_aload_n hx hb dX5_copy_18 rfl (lv_at hl 1 rfl) ?_
      refine lv_iload hx hb dX5_copy_19 (lv_at hl 0 rfl) ?_
      refine cl_Vi (As := [.int (-1000000006)]) (rest := []) (C := RX5) ⟨hx, hb, hml, hown, hts⟩ (M_X5_finds l D cI cJ mo R F 5 (by decide) (-1000000006) (by decide +kernel)) (cwV 1 hts gX5_copy_X5_finds rfl rfl rfl qX5_finds ⟨Nat.le_of_ble_eq_true rfl, Nat.le_of_ble_eq_true rfl⟩) E0_good hK hA hW trivial [true, true] (fun _ => [mH mo R, aI cI (mo 4) 7 (up F 5 (F 5 + 1)), aI cI (mo 6) 4 B, aI cI (mo 7) 4 Z, aJ cJ (mo 8) 160 C]) rfl (fun _ => rfl) (fun _ => rfl) 0 0 rfl rfl rfl rfl hl.1 rfl (lv_room (Nat.le_of_ble_eq_true rfl)) dX5_copy_21 ⟨Nat.zero_le _, Nat.zero_le _⟩ (fun _ H locs _ hW => ?_)
      exact rt_i hQ hx hb hr hlocks hW dX5_copy_24 () (by (try simp only [copyV]); (repeat' split) <;> first | rfl | (exfalso; omega)) trivial (by (try simp only [copyC, copyF]); (repeat' split) <;> first | rfl | (exfalso; omega))
  · rw [hnv] at hl
    refine lv_iload hx hb dX5_copy_13 (lv_at hl 0 rfl) ?_
    refine zz_zeq (tgt := 25) hx hb dX5_copy_15 (by decide) (show ((-1000000003) : Int32).toInt = (-1000000003) by decide +kernel) (fun c15_2 => ?_) (fun c15_2 => ?_)
    · exfalso; omega
    · refine lv_aload_n hx hb dX5_copy_18 rfl (lv_at hl 1 rfl) ?_
      refine lv_iload hx hb dX5_copy_19 (lv_at hl 0 rfl) ?_
      refine cl_Vi (As := [.int (-1000000003)]) (rest := []) (C := RX5) ⟨hx, hb, hml, hown, hts⟩ (M_X5_finds l D cI cJ mo R F 2 (by decide) (-1000000003) (by decide +kernel)) (cwV 1 hts gX5_copy_X5_finds rfl rfl rfl qX5_finds ⟨Nat.le_of_ble_eq_true rfl, Nat.le_of_ble_eq_true rfl⟩) E0_good hK hA hW trivial [true, true] (fun _ => [mH mo R, aI cI (mo 4) 7 (up F 2 (F 2 + 1)), aI cI (mo 6) 4 B, aI cI (mo 7) 4 Z, aJ cJ (mo 8) 160 C]) rfl (fun _ => rfl) (fun _ => rfl) 0 0 rfl rfl rfl rfl hl.1 rfl (lv_room (Nat.le_of_ble_eq_true rfl)) dX5_copy_21 ⟨Nat.zero_le _, Nat.zero_le _⟩ (fun _ H locs _ hW => ?_)
      exact rt_i hQ hx hb hr hlocks hW dX5_copy_24 () (by (try simp only [copyV]); (repeat' split) <;> first | rfl | (exfalso; omega)) trivial (by (try simp only [copyC, copyF]); (repeat' split) <;> first | rfl | (exfalso; omega))
  · rw [hnv] at hl
    refine lv_iload hx hb dX5_copy_13 (lv_at hl 0 rfl) ?_
    refine zz_zeq (tgt := 25) hx hb dX5_copy_15 (by decide) (show ((-1000000001) : Int32).toInt = (-1000000001) by decide +kernel) (fun c15_3 => ?_) (fun c15_3 => ?_)
    · exfalso; omega
    · refine lv_aload_n hx hb dX5_copy_18 rfl (lv_at hl 1 rfl) ?_
      refine lv_iload hx hb dX5_copy_19 (lv_at hl 0 rfl) ?_
      refine cl_Vi (As := [.int (-1000000001)]) (rest := []) (C := RX5) ⟨hx, hb, hml, hown, hts⟩ (M_X5_finds l D cI cJ mo R F 0 (by decide) (-1000000001) (by decide +kernel)) (cwV 1 hts gX5_copy_X5_finds rfl rfl rfl qX5_finds ⟨Nat.le_of_ble_eq_true rfl, Nat.le_of_ble_eq_true rfl⟩) E0_good hK hA hW trivial [true, true] (fun _ => [mH mo R, aI cI (mo 4) 7 (up F 0 (F 0 + 1)), aI cI (mo 6) 4 B, aI cI (mo 7) 4 Z, aJ cJ (mo 8) 160 C]) rfl (fun _ => rfl) (fun _ => rfl) 0 0 rfl rfl rfl rfl hl.1 rfl (lv_room (Nat.le_of_ble_eq_true rfl)) dX5_copy_21 ⟨Nat.zero_le _, Nat.zero_le _⟩ (fun _ H locs _ hW => ?_)
      exact rt_i hQ hx hb hr hlocks hW dX5_copy_24 () (by (try simp only [copyV]); (repeat' split) <;> first | rfl | (exfalso; omega)) trivial (by (try simp only [copyC, copyF]); (repeat' split) <;> first | rfl | (exfalso; omega))
theorem lyG_t {G : Nat → Nat} {C : Nat → Int64} {j i : Nat} (h : 0 ≤ (C (j * 40 + i)).toInt ∧ (C (j * 40 + i)).toInt ≤ 99) : up (lyG G C j i) (8 * i + 3) (C (j * 40 + i)).toInt.toNat = lyG G C j (i + 1) := (if_pos h).symm
theorem lyG_f {G : Nat → Nat} {C : Nat → Int64} {j i : Nat} (h : ¬ (0 ≤ (C (j * 40 + i)).toInt ∧ (C (j * 40 + i)).toInt ≤ 99)) : lyG G C j i = lyG G C j (i + 1) := (if_neg h).symm
theorem lyN_t {C : Nat → Int64} {j i : Nat} (h : 0 ≤ (C (j * 40 + i)).toInt ∧ (C (j * 40 + i)).toInt ≤ 99) : lyN C j i + 1 = lyN C j (i + 1) := by show _ = lyN C j i + (if _ then 1 else 0); rw [if_pos h]
theorem lyN_f {C : Nat → Int64} {j i : Nat} (h : ¬ (0 ≤ (C (j * 40 + i)).toInt ∧ (C (j * 40 + i)).toInt ≤ 99)) : lyN C j i = lyN C j (i + 1) := by show _ = lyN C j i + (if _ then 1 else 0); rw [if_neg h, Nat.add_zero]
theorem lyN_le (C : Nat → Int64) (j : Nat) : ∀ i, lyN C j i ≤ i
  | 0 => Nat.le_refl _
  | i + 1 => by have := lyN_le C j i; show lyN C j i + (if _ then 1 else 0) ≤ _; split <;> omega
