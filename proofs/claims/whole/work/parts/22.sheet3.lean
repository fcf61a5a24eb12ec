theorem qX5_notCopied : yX5_notCopied.cls = RX5 ∧ yX5_notCopied.cls ≠ "java/lang/invoke/MethodHandle" ∧ yX5_notCopied.cls ≠ "java/lang/invoke/VarHandle" ∧ (parseMethodDescriptor yX5_notCopied.desc).map (fun d => d.parameters.length) = some 5 := by decide +kernel
theorem cpD_rd {C : Nat → Int64} {sp dp y k q : Nat} (h : ¬ (dp + (y - k) ≤ q ∧ q < dp + y)) : cpD C sp dp y k q = C q := if_neg h
theorem cpU_rd {C : Nat → Int64} {sp dp k q : Nat} (h : ¬ (dp ≤ q ∧ q < dp + k)) : cpU C sp dp k q = C q := if_neg h
abbrev rmX5_copy : Room := { frames := 3, cells := 0, slots := 0, locals := 69 }
set_option maxRecDepth 100000 in
set_option maxHeartbeats 4000000 in
theorem M_X5_copy (l : Launch) (D : va_G) (cI cJ : ClassId) (mo R F B Z : Nat → Nat) (C : Nat → Int64) (hS : OkS B Z) (v fr w gg z : Int32) : CE E0 l D vwCl [(cI, .int), (cJ, .long)] yX5_copy wsX5_copy rmX5_copy [.ref (mo 0), .int v, .int fr, .int w, .int gg, .int z] [mH mo R, aI cI (mo 4) 7 F, aI cI (mo 6) 4 B, aI cI (mo 7) 4 Z, aJ cJ (mo 8) 160 C] (S := Unit) (some (.int (copyV B Z v.toInt fr.toInt w.toInt gg.toInt z.toInt))) (fun _ => True) (fun _ : Unit => [mH mo R, aI cI (mo 4) 7 (copyF B Z F v.toInt fr.toInt w.toInt gg.toInt z.toInt), aI cI (mo 6) 4 B, aI cI (mo 7) 4 Z, aJ cJ (mo 8) 160 (copyC B Z C v.toInt fr.toInt w.toInt gg.toInt z.toInt)]) 0 0 := by
  refine CE.ofW (cc := cX5_copy) (maxL := 9) (ret := (some .int)) (lv := [(0, .ref (mo 0)), (1, .int v), (2, .int fr), (3, .int w), (4, .int gg), (5, .int z)]) (by decide) rfl (Nat.le_of_ble_eq_true rfl) rfl ?_
  intro p e s m args below meth c ls A Q hQ hx hb hml hr hlocks hnm hown hts hK hA hE hW hl
  have hown : s.vm.findClass RX5 = some m.cls := hown
  refine lv_aload_n hx hb dX5_copy_0 rfl (lv_at hl 0 rfl) ?_
  refine lv_iload_n hx hb dX5_copy_1 rfl (lv_at hl 1 rfl) ?_
  refine lv_iload_n hx hb dX5_copy_2 rfl (lv_at hl 2 rfl) ?_
  refine lv_iload_n hx hb dX5_copy_3 rfl (lv_at hl 3 rfl) ?_
  refine lv_iload hx hb dX5_copy_4 (lv_at hl 4 rfl) ?_
  refine lv_iload hx hb dX5_copy_6 (lv_at hl 5 rfl) ?_
  refine cl_Vi (As := [.int v, .int fr, .int w, .int gg, .int z]) (rest := []) (C := RX5) ⟨hx, hb, hml, hown, hts⟩ (M_X5_notCopied l D cI cJ mo R B Z hS v fr w gg z) (cwV 5 hts gX5_copy_X5_notCopied rfl rfl rfl qX5_notCopied ⟨Nat.le_of_ble_eq_true rfl, Nat.le_of_ble_eq_true rfl⟩) E0_good hK hA hW trivial [true, false, true, true] (fun _ => [mH mo R, aI cI (mo 4) 7 F, aI cI (mo 6) 4 B, aI cI (mo 7) 4 Z, aJ cJ (mo 8) 160 C]) rfl (fun _ => rfl) (fun _ => rfl) 0 0 rfl rfl rfl rfl hl.1 rfl (lv_room (Nat.le_of_ble_eq_true rfl)) dX5_copy_8 ⟨Nat.zero_le _, Nat.zero_le _⟩ (fun _ H locs _ hW => ?_)
  refine lv_istore (lv' := [(6, .int (ncV B Z v.toInt fr.toInt w.toInt gg.toInt z.toInt)), (0, .ref (mo 0)), (1, .int v), (2, .int fr), (3, .int w), (4, .int gg), (5, .int z)]) hx hb dX5_copy_11 hl (by decide) rfl (fun ls hl => ?_)
  rcases ncV_or B Z v.toInt fr.toInt w.toInt gg.toInt z.toInt with ⟨hnv, hnv1, hnv2, hnv3, hnv4⟩ | ⟨hnv, hnv1, hnv2⟩ | ⟨hnv, hnv1, hnv2, hnv3⟩ | ⟨hnv, hnv1⟩
  · rw [hnv] at hl
    refine lv_iload hx hb dX5_copy_13 (lv_at hl 0 rfl) ?_
    refine nn_zeq (tgt := 25) hx hb dX5_copy_15 (by decide) (by decide) (fun c15 => ?_) (fun c15 => ?_)
    · obtain ⟨j, hj, ej⟩ : ∃ j : Nat, v = nI j ∧ v.toInt = (j : Int) := ⟨v.toInt.toNat, nI_ofZ rfl (by omega), by omega⟩
      rw [hj] at hl
      obtain ⟨a, ha, ea⟩ : ∃ a : Nat, fr = nI a ∧ fr.toInt = (a : Int) := ⟨fr.toInt.toNat, nI_ofZ rfl (by omega), by omega⟩
      rw [ha] at hl
      obtain ⟨k, hk, ek⟩ : ∃ k : Nat, w = nI k ∧ w.toInt = (k : Int) := ⟨w.toInt.toNat, nI_ofZ rfl (by omega), by omega⟩
      rw [hk] at hl
      obtain ⟨g, hg, eg⟩ : ∃ g : Nat, gg = nI g ∧ gg.toInt = (g : Int) := ⟨gg.toInt.toNat, nI_ofZ rfl (by omega), by omega⟩
      rw [hg] at hl
      obtain ⟨y, hy, ey⟩ : ∃ y : Nat, z = nI y ∧ z.toInt = (y : Int) := ⟨z.toInt.toNat, nI_ofZ rfl (by omega), by omega⟩
      rw [hy] at hl
      have hSj := hS j (by omega)
      have hSk := hS k (by omega)
      simp only [ej, ek, ea, eg, ey, Int.toNat_natCast] at hnv1 hnv2 hnv3 hnv4
      rcases Nat.lt_or_ge a g with hag | hag
      · skip
        refine lv_iconst (v := nI 0) hx hb dX5_copy_25 (by decide +kernel) ?_
        refine lv_istore (lv' := [(7, .int (nI 0)), (6, .int (nI 0)), (0, .ref (mo 0)), (1, .int (nI j)), (2, .int (nI a)), (3, .int (nI k)), (4, .int (nI g)), (5, .int (nI y))]) hx hb dX5_copy_26 hl (by decide) rfl (fun ls hl => ?_)
        have lp28 : ∀ (n : Nat) (i : Nat), y - i < n → i ≤ y → ∀ (H : Heap) (locs : List Loc), Wo D vwCl A s.heap H locs [mH mo R, aI cI (mo 4) 7 F, aI cI (mo 6) 4 B, aI cI (mo 7) 4 Z, aJ cJ (mo 8) 160 (cpD C (40 * j + a) (40 * k + g) y i)] → ∀ ls : Array Slot, lv_has ls 9 [(7, .int (nI i)), (6, .int (nI 0)), (0, .ref (mo 0)), (1, .int (nI j)), (2, .int (nI a)), (3, .int (nI k)), (4, .int (nI g)), (5, .int (nI y))] → W p l e rmX5_copy s m args below meth c H locs 0 0 Q (F0 m 28 ls []) := by
          intro n
          induction n with
          | zero => intro i hm; exact absurd hm (Nat.not_lt_zero _)
          | succ n ih =>
            intro i hm hi H locs hW ls hl
            refine lv_iload hx hb dX5_copy_28 (lv_at hl 0 rfl) ?_
            refine lv_iload hx hb dX5_copy_30 (lv_at hl 7 rfl) ?_
            refine nn_cge (tgt := 90) hx hb dX5_copy_32 (by decide) (by omega) (by omega) (fun c32 => ?_) (fun c32 => ?_)
            · have hiy : i = y := by omega
              rw [hiy] at hl hW
              refine lv_iload hx hb dX5_copy_90 (lv_at hl 7 rfl) ?_
              exact rt_i hQ hx hb hr hlocks hW dX5_copy_92 () (by (try simp only [copyV, ej, ea, ek, eg, ey, Int.toNat_natCast]); (repeat' split) <;> first | rfl | (exfalso; omega)) trivial (by (try simp only [copyC, copyF, Nat.mul_comm 40 j, Nat.mul_comm 40 k, cpD_all, cpU_all, ej, ea, ek, eg, ey, Int.toNat_natCast]); (repeat' split) <;> first | rfl | (exfalso; omega))
            · refine lv_iload_n hx hb dX5_copy_35 rfl (lv_at hl 4 rfl) ?_
              refine lv_iload hx hb dX5_copy_36 (lv_at hl 6 rfl) ?_
              refine nn_cge (tgt := 51) hx hb dX5_copy_38 (by decide) (by omega) (by omega) (fun c38 => ?_) (fun c38 => ?_)
              · exfalso; omega
              · refine lv_iload hx hb dX5_copy_41 (lv_at hl 7 rfl) ?_
                refine lv_iconst (v := nI 1) hx hb dX5_copy_43 (by decide +kernel) ?_
                refine nn_sub hx hb dX5_copy_44 (by omega) ?_
                refine lv_iload hx hb dX5_copy_45 (lv_at hl 0 rfl) ?_
                refine nn_sub hx hb dX5_copy_47 (by omega) ?_
                refine lv_goto (tgt := 53) hx hb dX5_copy_48 (by decide) ?_
                refine lv_istore (lv' := [(8, .int (nI ((y - 1) - i))), (7, .int (nI i)), (6, .int (nI 0)), (0, .ref (mo 0)), (1, .int (nI j)), (2, .int (nI a)), (3, .int (nI k)), (4, .int (nI g)), (5, .int (nI y))]) hx hb dX5_copy_53 hl (by decide) rfl (fun ls hl => ?_)
                refine lv_aload_n hx hb dX5_copy_55 rfl (lv_at hl 3 rfl) ?_
                refine sg_get (ci := 4) (C := RX5) (T := TX5) (N := 15) (v := .ref (mo 8)) hx hb hts (fun _ h => List.mem_cons_of_mem _ (List.mem_append_right _ h)) hown hK hW 0 0 rfl rfl rfl 14 (by decide) (hts _ (List.mem_of_getElem? (i := 1) rfl)) rfl dX5_copy_56 ?_
                refine lv_bipush (v := nI 40) hx hb dX5_copy_59 (by decide +kernel) ?_
                refine lv_iload_n hx hb dX5_copy_61 rfl (lv_at hl 6 rfl) ?_
                refine nn_mul hx hb dX5_copy_62 ?_
                refine lv_iload hx hb dX5_copy_63 (lv_at hl 7 rfl) ?_
                refine nn_add hx hb dX5_copy_65 ?_
                refine lv_iload hx hb dX5_copy_66 (lv_at hl 0 rfl) ?_
                refine nn_add hx hb dX5_copy_68 ?_
                refine lv_aload_n hx hb dX5_copy_69 rfl (lv_at hl 3 rfl) ?_
                refine sg_get (ci := 4) (C := RX5) (T := TX5) (N := 15) (v := .ref (mo 8)) hx hb hts (fun _ h => List.mem_cons_of_mem _ (List.mem_append_right _ h)) hown hK hW 0 0 rfl rfl rfl 14 (by decide) (hts _ (List.mem_of_getElem? (i := 1) rfl)) rfl dX5_copy_70 ?_
                refine lv_bipush (v := nI 40) hx hb dX5_copy_73 (by decide +kernel) ?_
                refine lv_iload_n hx hb dX5_copy_75 rfl (lv_at hl 4 rfl) ?_
                refine nn_mul hx hb dX5_copy_76 ?_
                refine lv_iload_n hx hb dX5_copy_77 rfl (lv_at hl 5 rfl) ?_
                refine nn_add hx hb dX5_copy_78 ?_
                refine lv_iload hx hb dX5_copy_79 (lv_at hl 0 rfl) ?_
                refine nn_add hx hb dX5_copy_81 ?_
                refine sg_lld (v := (cpD C (40 * j + a) (40 * k + g) y i) (((40 * j) + a) + ((y - 1) - i))) hx hb hK hW 4 0 1 rfl rfl rfl (by omega) (by decide) rfl dX5_copy_82 ?_
                refine W.top (v' := .long (C (40 * j + a + (y - 1 - i)))) (congrArg Value.long (cpD_rd (by omega))) ?_
                refine sg_lst hx hb hK hW 4 0 1 rfl rfl rfl (by omega) (by decide) (aJ_set cJ (mo 8) 160 (cpD C (40 * j + a) (40 * k + g) y i) (((40 * k) + g) + ((y - 1) - i)) (C (40 * j + a + (y - 1 - i)))) (ss' := [mH mo R, aI cI (mo 4) 7 F, aI cI (mo 6) 4 B, aI cI (mo 7) 4 Z, aJ cJ (mo 8) 160 (vp_updL (cpD C (40 * j + a) (40 * k + g) y i) (((40 * k) + g) + ((y - 1) - i)) (C (40 * j + a + (y - 1 - i))))]) rfl dX5_copy_83 (fun H locs hW => ?_)
                refine lv_iinc (v := nI (i + 1)) (lv' := [(7, .int (nI (i + 1))), (8, .int (nI ((y - 1) - i))), (6, .int (nI 0)), (0, .ref (mo 0)), (1, .int (nI j)), (2, .int (nI a)), (3, .int (nI k)), (4, .int (nI g)), (5, .int (nI y))]) hx hb dX5_copy_84 hl (k := 1) rfl (nI_add _ 1) (by decide) rfl (fun ls hl => ?_)
                refine lv_goto (tgt := 28) hx hb dX5_copy_87 (by decide) ?_
                have hW := hW.to (ss' := [mH mo R, aI cI (mo 4) 7 F, aI cI (mo 6) 4 B, aI cI (mo 7) 4 Z, aJ cJ (mo 8) 160 (cpD C (40 * j + a) (40 * k + g) y (i + 1))]) (by rw [cpD_up _ _ _ _ _ (by omega)])
                exact ih (i + 1) (by omega) (by omega) _ _ hW _ (lv_sub hl [0, 2, 3, 4, 5, 6, 7, 8] rfl)
        have hW := hW.to (ss' := [mH mo R, aI cI (mo 4) 7 F, aI cI (mo 6) 4 B, aI cI (mo 7) 4 Z, aJ cJ (mo 8) 160 (cpD C (40 * j + a) (40 * k + g) y 0)]) (by rw [cpD_0])
        exact lp28 (y - 0 + 1) 0 (Nat.lt_succ_self _) (by omega) _ _ hW _ (lv_sub hl [0, 1, 2, 3, 4, 5, 6, 7] rfl)
      · skip
        refine lv_iconst (v := nI 0) hx hb dX5_copy_25 (by decide +kernel) ?_
        refine lv_istore (lv' := [(7, .int (nI 0)), (6, .int (nI 0)), (0, .ref (mo 0)), (1, .int (nI j)), (2, .int (nI a)), (3, .int (nI k)), (4, .int (nI g)), (5, .int (nI y))]) hx hb dX5_copy_26 hl (by decide) rfl (fun ls hl => ?_)
        have lp28 : ∀ (n : Nat) (i : Nat), y - i < n → i ≤ y → ∀ (H : Heap) (locs : List Loc), Wo D vwCl A s.heap H locs [mH mo R, aI cI (mo 4) 7 F, aI cI (mo 6) 4 B, aI cI (mo 7) 4 Z, aJ cJ (mo 8) 160 (cpU C (40 * j + a) (40 * k + g) i)] → ∀ ls : Array Slot, lv_has ls 9 [(7, .int (nI i)), (6, .int (nI 0)), (0, .ref (mo 0)), (1, .int (nI j)), (2, .int (nI a)), (3, .int (nI k)), (4, .int (nI g)), (5, .int (nI y))] → W p l e rmX5_copy s m args below meth c H locs 0 0 Q (F0 m 28 ls []) := by
          intro n
          induction n with
          | zero => intro i hm; exact absurd hm (Nat.not_lt_zero _)
          | succ n ih =>
            intro i hm hi H locs hW ls hl
            refine lv_iload hx hb dX5_copy_28 (lv_at hl 0 rfl) ?_
            refine lv_iload hx hb dX5_copy_30 (lv_at hl 7 rfl) ?_
            refine nn_cge (tgt := 90) hx hb dX5_copy_32 (by decide) (by omega) (by omega) (fun c32_1 => ?_) (fun c32_1 => ?_)
            · have hiy : i = y := by omega
              rw [hiy] at hl hW
              refine lv_iload hx hb dX5_copy_90 (lv_at hl 7 rfl) ?_
              exact rt_i hQ hx hb hr hlocks hW dX5_copy_92 () (by (try simp only [copyV, ej, ea, ek, eg, ey, Int.toNat_natCast]); (repeat' split) <;> first | rfl | (exfalso; omega)) trivial (by (try simp only [copyC, copyF, Nat.mul_comm 40 j, Nat.mul_comm 40 k, cpD_all, cpU_all, ej, ea, ek, eg, ey, Int.toNat_natCast]); (repeat' split) <;> first | rfl | (exfalso; omega))
            · refine lv_iload_n hx hb dX5_copy_35 rfl (lv_at hl 4 rfl) ?_
              refine lv_iload hx hb dX5_copy_36 (lv_at hl 6 rfl) ?_
              refine nn_cge (tgt := 51) hx hb dX5_copy_38 (by decide) (by omega) (by omega) (fun c38_1 => ?_) (fun c38_1 => ?_)
              · refine lv_iload hx hb dX5_copy_51 (lv_at hl 0 rfl) ?_
                refine lv_istore (lv' := [(8, .int (nI i)), (7, .int (nI i)), (6, .int (nI 0)), (0, .ref (mo 0)), (1, .int (nI j)), (2, .int (nI a)), (3, .int (nI k)), (4, .int (nI g)), (5, .int (nI y))]) hx hb dX5_copy_53 hl (by decide) rfl (fun ls hl => ?_)
                refine lv_aload_n hx hb dX5_copy_55 rfl (lv_at hl 3 rfl) ?_
                refine sg_get (ci := 4) (C := RX5) (T := TX5) (N := 15) (v := .ref (mo 8)) hx hb hts (fun _ h => List.mem_cons_of_mem _ (List.mem_append_right _ h)) hown hK hW 0 0 rfl rfl rfl 14 (by decide) (hts _ (List.mem_of_getElem? (i := 1) rfl)) rfl dX5_copy_56 ?_
                refine lv_bipush (v := nI 40) hx hb dX5_copy_59 (by decide +kernel) ?_
                refine lv_iload_n hx hb dX5_copy_61 rfl (lv_at hl 6 rfl) ?_
                refine nn_mul hx hb dX5_copy_62 ?_
                refine lv_iload hx hb dX5_copy_63 (lv_at hl 7 rfl) ?_
                refine nn_add hx hb dX5_copy_65 ?_
                refine lv_iload hx hb dX5_copy_66 (lv_at hl 0 rfl) ?_
                refine nn_add hx hb dX5_copy_68 ?_
                refine lv_aload_n hx hb dX5_copy_69 rfl (lv_at hl 3 rfl) ?_
                refine sg_get (ci := 4) (C := RX5) (T := TX5) (N := 15) (v := .ref (mo 8)) hx hb hts (fun _ h => List.mem_cons_of_mem _ (List.mem_append_right _ h)) hown hK hW 0 0 rfl rfl rfl 14 (by decide) (hts _ (List.mem_of_getElem? (i := 1) rfl)) rfl dX5_copy_70 ?_
                refine lv_bipush (v := nI 40) hx hb dX5_copy_73 (by decide +kernel) ?_
                refine lv_iload_n hx hb dX5_copy_75 rfl (lv_at hl 4 rfl) ?_
                refine nn_mul hx hb dX5_copy_76 ?_
                refine lv_iload_n hx hb dX5_copy_77 rfl (lv_at hl 5 rfl) ?_
                refine nn_add hx hb dX5_copy_78 ?_
                refine lv_iload hx hb dX5_copy_79 (lv_at hl 0 rfl) ?_
                refine nn_add hx hb dX5_copy_81 ?_
                refine sg_lld (v := (cpU C (40 * j + a) (40 * k + g) i) (((40 * j) + a) + i)) hx hb hK hW 4 0 1 rfl rfl rfl (by omega) (by decide) rfl dX5_copy_82 ?_
                refine W.top (v' := .long (C (40 * j + a + i))) (congrArg Value.long (cpU_rd (by omega))) ?_
                refine sg_lst hx hb hK hW 4 0 1 rfl rfl rfl (by omega) (by decide) (aJ_set cJ (mo 8) 160 (cpU C (40 * j + a) (40 * k + g) i) (((40 * k) + g) + i) (C (40 * j + a + i))) (ss' := [mH mo R, aI cI (mo 4) 7 F, aI cI (mo 6) 4 B, aI cI (mo 7) 4 Z, aJ cJ (mo 8) 160 (vp_updL (cpU C (40 * j + a) (40 * k + g) i) (((40 * k) + g) + i) (C (40 * j + a + i)))]) rfl dX5_copy_83 (fun H locs hW => ?_)
                refine lv_iinc (v := nI (i + 1)) (lv' := [(7, .int (nI (i + 1))), (8, .int (nI i)), (6, .int (nI 0)), (0, .ref (mo 0)), (1, .int (nI j)), (2, .int (nI a)), (3, .int (nI k)), (4, .int (nI g)), (5, .int (nI y))]) hx hb dX5_copy_84 hl (k := 1) rfl (nI_add _ 1) (by decide) rfl (fun ls hl => ?_)
                refine lv_goto (tgt := 28) hx hb dX5_copy_87 (by decide) ?_
                have hW := hW.to (ss' := [mH mo R, aI cI (mo 4) 7 F, aI cI (mo 6) 4 B, aI cI (mo 7) 4 Z, aJ cJ (mo 8) 160 (cpU C (40 * j + a) (40 * k + g) (i + 1))]) (by rw [cpU_up])
                exact ih (i + 1) (by omega) (by omega) _ _ hW _ (lv_sub hl [0, 2, 3, 4, 5, 6, 7, 8] rfl)
              · exfalso; omega
        have hW := hW.to (ss' := [mH mo R, aI cI (mo 4) 7 F, aI cI (mo 6) 4 B, aI cI (mo 7) 4 Z, aJ cJ (mo 8) 160 (cpU C (40 * j + a) (40 * k + g) 0)]) (by rw [cpU_0])
        exact lp28 (y - 0 + 1) 0 (Nat.lt_succ_self _) (by omega) _ _ hW _ (lv_sub hl [0, 1, 2, 3, 4, 5, 6, 7] rfl)
    · exfalso; omega
  · rw [hnv] at hl
    refine lv_iload hx hb dX5_copy_13 (lv_at hl 0 rfl) ?_
    refine zz_zeq (tgt := 25) hx hb dX5_copy_15 (by decide) (show ((-1000000006) : Int32).toInt = (-1000000006) by decide +kernel) (fun c15_1 => ?_) (fun c15_1 => ?_)
    · exfalso; omega
    · refine lv_aload_n hx hb dX5_copy_18 rfl (lv_at hl 1 rfl) ?_
      refine lv_iload hx hb dX5_copy_19 (lv_at hl 0 rfl) ?_
      refine cl_Vi (As := [.int (-1000000006)]) (rest := []) (C := RX5) ⟨hx, hb, hml, hown, hts⟩ (M_X5_finds l D cI cJ mo R F 5 (by decide) (-1000000006) (by decide +kernel)) (cwV 1 hts gX5_copy_X5_finds rfl rfl rfl qX5_finds ⟨Nat.le_of_ble_eq_true rfl, Nat.le_of_ble_eq_true rfl⟩) E0_good hK hA hW trivial [true, true] (fun _ => [mH mo R, aI cI (mo 4) 7 (up F 5 (F 5 + 1)), aI cI (mo 6) 4 B, aI cI (mo 7) 4 Z, aJ cJ (mo 8) 160 C]) rfl (fun _ => rfl) (fun _ => rfl) 0 0 rfl rfl rfl rfl hl.1 rfl (lv_room (Nat.le_of_ble_eq_true rfl)) dX5_copy_21 ⟨Nat.zero_le _, Nat.zero_le _⟩ (fun _ H locs _ hW => ?_)
      exact rt_i hQ hx hb hr hlocks hW dX5_copy_24 () (by (try simp only [copyV]); (repeat' split) <;> first | rfl | (exfalso; omega)) trivial (by (try simp only [copyC, copyF]); (repeat' split) <;> first | rfl | (exfalso; omega))
  · rw [hnv] at hl
    refine lv_iload hx hb dX5_copy_13 (lv_at hl 0 rfl) ?_
    refine zz_zeq (tgt := 25) hx hb dX5_copy_15 (by decide) (show ((-1000000003) : Int32).toInt = (-1000000003) by decide +kernel) (fun c15_2 => ?_) (fun c15_2 => ?_)
    · exfalso; omega
    · refine lv_aload_n hx hb dX5_copy_18 rfl (lv_at hl 1 rfl) ?_
      refine lv_iload hx hb dX5_copy_19 (lv_at hl 0 rfl) ?_
      refine cl_Vi (As := [.int (-1000000003)]) (rest := []) (C := RX5) ⟨hx, hb, hml, hown, hts⟩ (M_X5_finds l D cI cJ mo R F 2 (by decide) (-1000000003) (by decide +kernel)) (cwV 1 hts gX5_copy_X5_finds rfl rfl rfl qX5_finds ⟨Nat.le_of_ble_eq_true rfl, Nat.le_of_ble_eq_true rfl⟩) E0_good hK hA hW trivial [true, true] (fun _ => [mH mo R, aI cI (mo 4) 7 (up F 2 (F 2 + 1)), aI cI (mo 6) 4 B, aI cI (mo 7) 4 Z, aJ cJ (mo 8) 160 C]) rfl (fun _ => rfl) (fun _ => rfl) 0 0 rfl rfl rfl rfl hl.1 rfl (lv_room (Nat.le_of_ble_eq_true rfl)) dX5_copy_21 ⟨Nat.zero_le _, Nat.zero_le _⟩ (fun _ H locs _ hW => ?_)
      exact rt_i hQ hx hb hr hlocks hW dX5_copy_24 () (by (try simp only [copyV]); (repeat' split) <;> first | rfl | (exfalso; omega)) trivial (by (try simp only [copyC, copyF]); (repeat' split) <;> first | rfl | (exfalso; omega))
  · rw [hnv] at hl
    refine lv_iload hx hb dX5_copy_13 (lv_at hl 0 rfl) ?_
    refine zz_zeq (tgt := 25) hx hb dX5_copy_15 (by decide) (show ((-1000000001) : Int32).toInt = (-1000000001) by decide +kernel) (fun c15_3 => ?_) (fun c15_3 => ?_)
    · exfalso; omega
    · refine lv_aload_n hx hb dX5_copy_18 rfl (lv_at hl 1 rfl) ?_
      refine lv_iload hx hb dX5_copy_19 (lv_at hl 0 rfl) ?_
      refine cl_Vi (As := [.int (-1000000001)]) (rest := []) (C := RX5) ⟨hx, hb, hml, hown, hts⟩ (M_X5_finds l D cI cJ mo R F 0 (by decide) (-1000000001) (by decide +kernel)) (cwV 1 hts gX5_copy_X5_finds rfl rfl rfl qX5_finds ⟨Nat.le_of_ble_eq_true rfl, Nat.le_of_ble_eq_true rfl⟩) E0_good hK hA hW trivial [true, true] (fun _ => [mH mo R, aI cI (mo 4) 7 (up F 0 (F 0 + 1)), aI cI (mo 6) 4 B, aI cI (mo 7) 4 Z, aJ cJ (mo 8) 160 C]) rfl (fun _ => rfl) (fun _ => rfl) 0 0 rfl rfl rfl rfl hl.1 rfl (lv_room (Nat.le_of_ble_eq_true rfl)) dX5_copy_21 ⟨Nat.zero_le _, Nat.zero_le _⟩ (fun _ H locs _ hW => ?_)
      exact rt_i hQ hx hb hr hlocks hW dX5_copy_24 () (by (try simp only [copyV]); (repeat' split) <;> first | rfl | (exfalso; omega)) trivial (by (try simp only [copyC, copyF]); (repeat' split) <;> first | rfl | (exfalso; omega))
theorem lyG_t {G : Nat → Nat} {C : Nat → Int64} {j i : Nat} (h : 0 ≤ (C (j * 40 + i)).toInt ∧ (C (j * 40 + i)).toInt ≤ 99) : up (lyG G C j i) (8 * i + 3) (C (j * 40 + i)).toInt.toNat = lyG G C j (i + 1) := (if_pos h).symm
theorem lyG_f {G : Nat → Nat} {C : Nat → Int64} {j i : Nat} (h : ¬ (0 ≤ (C (j * 40 + i)).toInt ∧ (C (j * 40 + i)).toInt ≤ 99)) : lyG G C j i = lyG G C j (i + 1) := (if_neg h).symm
theorem lyN_t {C : Nat → Int64} {j i : Nat} (h : 0 ≤ (C (j * 40 + i)).toInt ∧ (C (j * 40 + i)).toInt ≤ 99) : lyN C j i + 1 = lyN C j (i + 1) := by show _ = lyN C j i + (if _ then 1 else 0); rw [if_pos h]
theorem lyN_f {C : Nat → Int64} {j i : Nat} (h : ¬ (0 ≤ (C (j * 40 + i)).toInt ∧ (C (j * 40 + i)).toInt ≤ 99)) : lyN C j i = lyN C j (i + 1) := by show _ = lyN C j i + (if _ then 1 else 0); rw [if_neg h, Nat.add_zero]
theorem lyN_le (C : Nat → Int64) (j : Nat) : ∀ i, lyN C j i ≤ i
  | 0 => Nat.le_refl _
  | i + 1 => by have := lyN_le C j i; show lyN C j i + (if _ then 1 else 0) ≤ _; split <;> omega
abbrev rmX4_lays : Room := { frames := 1, cells := 0, slots := 0, locals := 22 }
set_option maxRecDepth 100000 in
set_option maxHeartbeats 4000000 in
theorem M_X4_lays (l : Launch) (D : va_G) (cI cJ : ClassId) (x fi ik : Nat) (la ta ka tp sh G B Z F : Nat → Nat) (C : Nat → Int64) (hG : OkG 99999 G) (hS : OkS B Z) (v : Int32) : CE E0 l D vwCl [(cI, .int), (cJ, .long)] yX4_lays wsX4_lays rmX4_lays [.ref x, .int v] [xH x la ta ka tp sh fi ik, gW cI la G, sW cI cJ sh B Z C, aI cI fi 7 F] (S := Unit) (some (.int (laysV G B Z C v.toInt))) (fun _ => True) (fun _ : Unit => [xH x la ta ka tp sh fi ik, gW cI la (laysG G B Z C v.toInt), sW cI cJ sh B Z C, aI cI fi 7 (shF B F v.toInt)]) 0 0 := by
  refine CE.ofW (cc := cX4_lays) (maxL := 6) (ret := (some .int)) (lv := [(0, .ref x), (1, .int v)]) (by decide) rfl (Nat.le_of_ble_eq_true rfl) rfl ?_
  intro p e s m args below meth c ls A Q hQ hx hb hml hr hlocks hnm hown hts hK hA hE hW hl
  have hown : s.vm.findClass RX4 = some m.cls := hown
  obtain ⟨hg0, hg8, hg16, hg16b, hg24, hg32, hg40, hg48⟩ := hG.s
  have h640 : Int64.toInt 0 = 0 := by decide +kernel
  have h6499 : Int64.toInt 99 = 99 := by decide +kernel
  refine lv_aload_n hx hb dX4_lays_0 rfl (lv_at hl 0 rfl) ?_
  refine sg_get (ci := 3) (C := RX4) (T := TX4) (N := 7) (v := .ref (sh 0)) hx hb hts (fun _ h => List.mem_cons_of_mem _ (List.mem_append_left _ (List.mem_append_left _ (List.mem_append_right _ h)))) hown hK hW 0 0 rfl rfl rfl 5 (by decide) (hts _ (List.mem_of_getElem? (i := 1) rfl)) rfl dX4_lays_1 ?_
  refine lv_iload_n hx hb dX4_lays_4 rfl (lv_at hl 1 rfl) ?_
  refine cl_Vi (As := [.int v]) (rest := []) (C := RX2) ⟨hx, hb, hml, hown, hts⟩ (M_X2_isSheet l D cI cJ sh B Z C v) (cwV 1 hts gX4_lays_X2_isSheet rfl rfl rfl qX2_isSheet ⟨Nat.le_of_ble_eq_true rfl, Nat.le_of_ble_eq_true rfl⟩) E0_good hK hA hW trivial [false, false, true] (fun _ => [xH x la ta ka tp sh fi ik, gW cI la G, sW cI cJ sh B Z C, aI cI fi 7 F]) rfl (fun _ => rfl) (fun _ => rfl) 2 0 rfl rfl rfl rfl hl.1 rfl (lv_room (Nat.le_of_ble_eq_true rfl)) dX4_lays_5 ⟨Nat.zero_le _, Nat.zero_le _⟩ (fun _ H locs _ hW => ?_)
  have him_ := inN_or v 4
  refine nn_zne (tgt := 18) hx hb dX4_lays_8 (by decide) (by omega) (fun c8 => ?_) (fun c8 => ?_)
  · obtain ⟨j, hj, ej⟩ : ∃ j : Nat, v = nI j ∧ v.toInt = (j : Int) := ⟨v.toInt.toNat, nI_ofZ rfl (by omega), by omega⟩
    rw [hj] at hl
    have hSj := hS j (by omega)
    refine lv_aload_n hx hb dX4_lays_18 rfl (lv_at hl 0 rfl) ?_
    refine sg_get (ci := 3) (C := RX4) (T := TX4) (N := 7) (v := .ref (sh 0)) hx hb hts (fun _ h => List.mem_cons_of_mem _ (List.mem_append_left _ (List.mem_append_left _ (List.mem_append_right _ h)))) hown hK hW 0 0 rfl rfl rfl 5 (by decide) (hts _ (List.mem_of_getElem? (i := 1) rfl)) rfl dX4_lays_19 ?_
    refine lv_iload_n hx hb dX4_lays_22 rfl (lv_at hl 1 rfl) ?_
    refine cl_Vi (As := [.int (nI j)]) (rest := []) (C := RX2) ⟨hx, hb, hml, hown, hts⟩ (M_X2_isMissing l D cI cJ sh B Z C hS j (by omega)) (cwV 1 hts gX4_lays_X2_isMissing rfl rfl rfl qX2_isMissing ⟨Nat.le_of_ble_eq_true rfl, Nat.le_of_ble_eq_true rfl⟩) E0_good hK hA hW trivial [false, false, true] (fun _ => [xH x la ta ka tp sh fi ik, gW cI la G, sW cI cJ sh B Z C, aI cI fi 7 F]) rfl (fun _ => rfl) (fun _ => rfl) 2 0 rfl rfl rfl rfl hl.1 rfl (lv_room (Nat.le_of_ble_eq_true rfl)) dX4_lays_23 ⟨Nat.zero_le _, Nat.zero_le _⟩ (fun _ H locs _ hW => ?_)
    have hms_ : ((if B j = 0 then 1 else 0) = 1 ∧ B j = 0) ∨ ((if B j = 0 then 1 else 0) = 0 ∧ ¬ B j = 0) := ite01 _
    refine nn_zeq (tgt := 36) hx hb dX4_lays_26 (by decide) (by omega) (fun c26 => ?_) (fun c26 => ?_)
    · refine lv_iconst (v := nI 0) hx hb dX4_lays_36 (by decide +kernel) ?_
      refine lv_istore_n (lv' := [(2, .int (nI 0)), (0, .ref x), (1, .int (nI j))]) hx hb dX4_lays_37 rfl hl (by decide) rfl (fun ls hl => ?_)
      refine lv_iconst (v := nI 0) hx hb dX4_lays_38 (by decide +kernel) ?_
      refine lv_istore_n (lv' := [(3, .int (nI 0)), (2, .int (nI 0)), (0, .ref x), (1, .int (nI j))]) hx hb dX4_lays_39 rfl hl (by decide) rfl (fun ls hl => ?_)
      have lp40 : ∀ (n : Nat) (i : Nat), 40 - i < n → i ≤ Z j ∧ i ≤ G 40 → ∀ (H : Heap) (locs : List Loc), Wo D vwCl A s.heap H locs [xH x la ta ka tp sh fi ik, gW cI la (lyG G C j i), sW cI cJ sh B Z C, aI cI fi 7 F] → ∀ ls : Array Slot, lv_has ls 6 [(3, .int (nI i)), (2, .int (nI (lyN C j i))), (0, .ref x), (1, .int (nI j))] → W p l e rmX4_lays s m args below meth c H locs 0 0 Q (F0 m 40 ls []) := by
        intro n
        induction n with
        | zero => intro i hm; exact absurd hm (Nat.not_lt_zero _)
        | succ n ih =>
          intro i hm hi H locs hW ls hl
          have h40i := lyG_keep G C j 40 (by decide) i
          have hnl := lyN_le C j i
          have hOi := lyG_ok hG C j i
          refine lv_iload_n hx hb dX4_lays_40 rfl (lv_at hl 0 rfl) ?_
          refine lv_aload_n hx hb dX4_lays_41 rfl (lv_at hl 2 rfl) ?_
          refine sg_get (ci := 3) (C := RX4) (T := TX4) (N := 7) (v := .ref (sh 0)) hx hb hts (fun _ h => List.mem_cons_of_mem _ (List.mem_append_left _ (List.mem_append_left _ (List.mem_append_right _ h)))) hown hK hW 0 0 rfl rfl rfl 5 (by decide) (hts _ (List.mem_of_getElem? (i := 1) rfl)) rfl dX4_lays_42 ?_
          refine sg_get (ci := 1) (C := RX2) (T := TX2) (N := 3) (v := .ref (sh 2)) hx hb hts (fun _ h => List.mem_cons_of_mem _ (List.mem_append_left _ (List.mem_append_right _ h))) hown hK hW 2 0 rfl rfl rfl 1 (by decide) (hts _ (List.mem_of_getElem? (i := 4) rfl)) rfl dX4_lays_45 ?_
          refine lv_iload_n hx hb dX4_lays_48 rfl (lv_at hl 3 rfl) ?_
          refine sg_ild (v := nI (Z j)) hx hb hK hW 2 2 0 rfl rfl rfl (by omega) (by decide) rfl dX4_lays_49 ?_
          refine nn_cge (tgt := 112) hx hb dX4_lays_50 (by decide) (by omega) (by omega) (fun c50 => ?_) (fun c50 => ?_)
          · have hmin : min (Z j) (G 40) = i := by omega
            refine lv_iload_n hx hb dX4_lays_112 rfl (lv_at hl 1 rfl) ?_
            exact rt_i hQ hx hb hr hlocks hW dX4_lays_113 () (by (try simp only [laysV, ej, hmin, Int.toNat_natCast]); (repeat' split) <;> first | rfl | (exfalso; omega)) trivial (by (try simp only [laysG, shF, ej, hmin, Int.toNat_natCast]); (repeat' split) <;> first | rfl | (exfalso; omega))
          · refine lv_iload_n hx hb dX4_lays_53 rfl (lv_at hl 0 rfl) ?_
            refine lv_aload_n hx hb dX4_lays_54 rfl (lv_at hl 2 rfl) ?_
            refine sg_get (ci := 3) (C := RX4) (T := TX4) (N := 7) (v := .ref (la 0)) hx hb hts (fun _ h => List.mem_cons_of_mem _ (List.mem_append_left _ (List.mem_append_left _ (List.mem_append_right _ h)))) hown hK hW 0 0 rfl rfl rfl 0 (by decide) (hts _ (List.mem_of_getElem? (i := 5) rfl)) rfl dX4_lays_55 ?_
            refine sg_get (ci := 0) (C := RX0) (T := TX0) (N := 14) (v := .int (nI ((lyG G C j i) 40))) hx hb hts (fun _ h => List.mem_cons_of_mem _ (List.mem_append_right _ h)) hown hK hW 1 0 rfl rfl rfl 5 (by decide) (hts _ (List.mem_of_getElem? (i := 6) rfl)) rfl dX4_lays_58 ?_
            refine nn_cge (tgt := 112) hx hb dX4_lays_61 (by decide) (by omega) (by omega) (fun c61 => ?_) (fun c61 => ?_)
            · have hmin : min (Z j) (G 40) = i := by omega
              refine lv_iload_n hx hb dX4_lays_112 rfl (lv_at hl 1 rfl) ?_
              exact rt_i hQ hx hb hr hlocks hW dX4_lays_113 () (by (try simp only [laysV, ej, hmin, Int.toNat_natCast]); (repeat' split) <;> first | rfl | (exfalso; omega)) trivial (by (try simp only [laysG, shF, ej, hmin, Int.toNat_natCast]); (repeat' split) <;> first | rfl | (exfalso; omega))
            · refine lv_aload_n hx hb dX4_lays_64 rfl (lv_at hl 2 rfl) ?_
              refine sg_get (ci := 3) (C := RX4) (T := TX4) (N := 7) (v := .ref (sh 0)) hx hb hts (fun _ h => List.mem_cons_of_mem _ (List.mem_append_left _ (List.mem_append_left _ (List.mem_append_right _ h)))) hown hK hW 0 0 rfl rfl rfl 5 (by decide) (hts _ (List.mem_of_getElem? (i := 1) rfl)) rfl dX4_lays_65 ?_
              refine lv_iload_n hx hb dX4_lays_68 rfl (lv_at hl 3 rfl) ?_
              refine lv_iload_n hx hb dX4_lays_69 rfl (lv_at hl 0 rfl) ?_
              refine cl_Vl (As := [.int (nI j), .int (nI i)]) (rest := []) (C := RX2) ⟨hx, hb, hml, hown, hts⟩ (M_X2_numberAt l D cI cJ sh B Z C j i (by omega) (by omega)) (cwV 2 hts gX4_lays_X2_numberAt rfl rfl rfl qX2_numberAt ⟨Nat.le_of_ble_eq_true rfl, Nat.le_of_ble_eq_true rfl⟩) E0_good hK hA hW trivial [false, false, true] (fun _ => [xH x la ta ka tp sh fi ik, gW cI la (lyG G C j i), sW cI cJ sh B Z C, aI cI fi 7 F]) rfl (fun _ => rfl) (fun _ => rfl) 2 0 rfl rfl rfl rfl hl.1 rfl (lv_room (Nat.le_of_ble_eq_true rfl)) dX4_lays_70 ⟨Nat.zero_le _, Nat.zero_le _⟩ (fun _ H locs _ hW => ?_)
              refine lv_lstore (lv' := [(4, .long (C (j * 40 + i))), (3, .int (nI i)), (2, .int (nI (lyN C j i))), (0, .ref x), (1, .int (nI j))]) hx hb dX4_lays_73 hl (by decide) rfl (fun ls hl => ?_)
              refine lv_lload hx hb dX4_lays_75 (lv_at hl 0 rfl) ?_
              refine lv_lconst (v := 0) hx hb dX4_lays_77 (by decide +kernel) ?_
              refine W.lcmp hx hb dX4_lays_78 ?_
              refine lc_zlt (tgt := 106) hx hb dX4_lays_79 (by decide) (fun c79 => ?_) (fun c79 => ?_)
              · refine lv_iinc (v := nI (i + 1)) (lv' := [(3, .int (nI (i + 1))), (4, .long (C (j * 40 + i))), (2, .int (nI (lyN C j i))), (0, .ref x), (1, .int (nI j))]) hx hb dX4_lays_106 hl (k := 1) rfl (nI_add _ 1) (by decide) rfl (fun ls hl => ?_)
                refine lv_goto (tgt := 40) hx hb dX4_lays_109 (by decide) ?_
                have e1 : nI (lyN C j i) = nI (lyN C j (i + 1)) := (congrArg nI (lyN_f (by omega)))
                rw [e1] at hl
                have hW := hW.to (ss' := [xH x la ta ka tp sh fi ik, gW cI la (lyG G C j (i + 1)), sW cI cJ sh B Z C, aI cI fi 7 F]) (by rw [lyG_f (by omega)])
                exact ih (i + 1) (by omega) (by omega) _ _ hW _ (lv_sub hl [0, 2, 3, 4] rfl)
              · refine lv_lload hx hb dX4_lays_82 (lv_at hl 0 rfl) ?_
                refine lv_ldc2 (v := 99) hx hb hown (hts _ (List.mem_of_getElem? (i := 7) rfl)) dX4_lays_84 ?_
                refine W.lcmp hx hb dX4_lays_87 ?_
                refine lc_zgt (tgt := 106) hx hb dX4_lays_88 (by decide) (fun c88 => ?_) (fun c88 => ?_)
                · refine lv_iinc (v := nI (i + 1)) (lv' := [(3, .int (nI (i + 1))), (4, .long (C (j * 40 + i))), (2, .int (nI (lyN C j i))), (0, .ref x), (1, .int (nI j))]) hx hb dX4_lays_106 hl (k := 1) rfl (nI_add _ 1) (by decide) rfl (fun ls hl => ?_)
                  refine lv_goto (tgt := 40) hx hb dX4_lays_109 (by decide) ?_
                  have e2 : nI (lyN C j i) = nI (lyN C j (i + 1)) := (congrArg nI (lyN_f (by omega)))
                  rw [e2] at hl
                  have hW := hW.to (ss' := [xH x la ta ka tp sh fi ik, gW cI la (lyG G C j (i + 1)), sW cI cJ sh B Z C, aI cI fi 7 F]) (by rw [lyG_f (by omega)])
                  exact ih (i + 1) (by omega) (by omega) _ _ hW _ (lv_sub hl [0, 2, 3, 4] rfl)
                · refine lv_aload_n hx hb dX4_lays_91 rfl (lv_at hl 3 rfl) ?_
                  refine sg_get (ci := 3) (C := RX4) (T := TX4) (N := 7) (v := .ref (la 0)) hx hb hts (fun _ h => List.mem_cons_of_mem _ (List.mem_append_left _ (List.mem_append_left _ (List.mem_append_right _ h)))) hown hK hW 0 0 rfl rfl rfl 0 (by decide) (hts _ (List.mem_of_getElem? (i := 5) rfl)) rfl dX4_lays_92 ?_
                  refine sg_get (ci := 0) (C := RX0) (T := TX0) (N := 14) (v := .ref (la 3)) hx hb hts (fun _ h => List.mem_cons_of_mem _ (List.mem_append_right _ h)) hown hK hW 1 0 rfl rfl rfl 8 (by decide) (hts _ (List.mem_of_getElem? (i := 8) rfl)) rfl dX4_lays_95 ?_
                  refine lv_iload_n hx hb dX4_lays_98 rfl (lv_at hl 1 rfl) ?_
                  refine lv_lload hx hb dX4_lays_99 (lv_at hl 0 rfl) ?_
                  refine lv_l2i (v := (C (j * 40 + i)).toInt32) hx hb dX4_lays_101 rfl ?_
                  refine W.top (v' := .int (nI ((C (j * 40 + i)).toInt.toNat))) (congrArg Value.int (l2iN (by omega) (by omega))) ?_
                  refine sg_ist hx hb hK hW 1 3 0 rfl rfl rfl (by omega) (by decide) (gW_r3 cI la (lyG G C j i) i ((C (j * 40 + i)).toInt.toNat)) (ss' := [xH x la ta ka tp sh fi ik, gW cI la (up (lyG G C j i) (8 * i + 3) ((C (j * 40 + i)).toInt.toNat)), sW cI cJ sh B Z C, aI cI fi 7 F]) rfl dX4_lays_102 (fun H locs hW => ?_)
                  refine lv_iinc (v := nI (lyN C j i + 1)) (lv' := [(2, .int (nI (lyN C j i + 1))), (4, .long (C (j * 40 + i))), (3, .int (nI i)), (0, .ref x), (1, .int (nI j))]) hx hb dX4_lays_103 hl (k := 2) rfl (nI_add _ 1) (by decide) rfl (fun ls hl => ?_)
                  refine lv_iinc (v := nI (i + 1)) (lv' := [(3, .int (nI (i + 1))), (2, .int (nI (lyN C j i + 1))), (4, .long (C (j * 40 + i))), (0, .ref x), (1, .int (nI j))]) hx hb dX4_lays_106 hl (k := 2) rfl (nI_add _ 1) (by decide) rfl (fun ls hl => ?_)
                  refine lv_goto (tgt := 40) hx hb dX4_lays_109 (by decide) ?_
                  have e3 : nI (lyN C j i + 1) = nI (lyN C j (i + 1)) := (congrArg nI (lyN_t (by omega)))
                  rw [e3] at hl
                  have hW := hW.to (ss' := [xH x la ta ka tp sh fi ik, gW cI la (lyG G C j (i + 1)), sW cI cJ sh B Z C, aI cI fi 7 F]) (by rw [lyG_t (by omega)])
                  exact ih (i + 1) (by omega) (by omega) _ _ hW _ (lv_sub hl [0, 1, 3, 4] rfl)
      have hW := hW.to (ss' := [xH x la ta ka tp sh fi ik, gW cI la (lyG G C j 0), sW cI cJ sh B Z C, aI cI fi 7 F]) rfl
      exact lp40 (40 - 0 + 1) 0 (Nat.lt_succ_self _) (by omega) _ _ hW _ (lv_sub hl [0, 1, 2, 3] rfl)
    · refine lv_aload_n hx hb dX4_lays_29 rfl (lv_at hl 0 rfl) ?_
      refine lv_ldc (v := -1000000006) hx hb hown (hts _ (List.mem_of_getElem? (i := 3) rfl)) dX4_lays_30 ?_
      refine cl_Vi (As := [.int (-1000000006)]) (rest := []) (C := RX4) ⟨hx, hb, hml, hown, hts⟩ (M_X4_tell l D cI cJ x fi ik la ta ka tp sh F 5 (by decide) (-1000000006) (by decide +kernel)) (cwV 1 hts gX4_lays_X4_tell rfl rfl rfl qX4_tell ⟨Nat.le_of_ble_eq_true rfl, Nat.le_of_ble_eq_true rfl⟩) E0_good hK hA hW trivial [true, false, false, true] (fun _ => [xH x la ta ka tp sh fi ik, gW cI la G, sW cI cJ sh B Z C, aI cI fi 7 (up F 5 (F 5 + 1))]) rfl (fun _ => rfl) (fun _ => rfl) 0 0 rfl rfl rfl rfl hl.1 rfl (lv_room (Nat.le_of_ble_eq_true rfl)) dX4_lays_32 ⟨Nat.zero_le _, Nat.zero_le _⟩ (fun _ H locs _ hW => ?_)
      exact rt_i hQ hx hb hr hlocks hW dX4_lays_35 () (by (try simp only [laysV, ej, Int.toNat_natCast]); (repeat' split) <;> first | rfl | (exfalso; omega)) trivial (by (try simp only [laysG, shF, ej, Int.toNat_natCast]); (repeat' split) <;> first | rfl | (exfalso; omega))
  · refine lv_aload_n hx hb dX4_lays_11 rfl (lv_at hl 0 rfl) ?_
    refine lv_ldc (v := -1000000001) hx hb hown (hts _ (List.mem_of_getElem? (i := 2) rfl)) dX4_lays_12 ?_
    refine cl_Vi (As := [.int (-1000000001)]) (rest := []) (C := RX4) ⟨hx, hb, hml, hown, hts⟩ (M_X4_tell l D cI cJ x fi ik la ta ka tp sh F 0 (by decide) (-1000000001) (by decide +kernel)) (cwV 1 hts gX4_lays_X4_tell rfl rfl rfl qX4_tell ⟨Nat.le_of_ble_eq_true rfl, Nat.le_of_ble_eq_true rfl⟩) E0_good hK hA hW trivial [true, false, false, true] (fun _ => [xH x la ta ka tp sh fi ik, gW cI la G, sW cI cJ sh B Z C, aI cI fi 7 (up F 0 (F 0 + 1))]) rfl (fun _ => rfl) (fun _ => rfl) 0 0 rfl rfl rfl rfl hl.1 rfl (lv_room (Nat.le_of_ble_eq_true rfl)) dX4_lays_14 ⟨Nat.zero_le _, Nat.zero_le _⟩ (fun _ H locs _ hW => ?_)
    exact rt_i hQ hx hb hr hlocks hW dX4_lays_17 () (by (try simp only [laysV]); (repeat' split) <;> first | rfl | (exfalso; omega)) trivial (by (try simp only [laysG, shF]); (repeat' split) <;> first | rfl | (exfalso; omega))
abbrev rmX5_lays : Room := { frames := 3, cells := 0, slots := 0, locals := 64 }
set_option maxRecDepth 100000 in
set_option maxHeartbeats 4000000 in
theorem M_X5_lays (l : Launch) (D : va_G) (cI cJ : ClassId) (mo R G F B Z : Nat → Nat) (C : Nat → Int64) (hG : OkG 99999 G) (hS : OkS B Z) (v : Int32) : CE E0 l D vwCl [(cI, .int), (cJ, .long)] yX5_lays wsX5_lays rmX5_lays [.ref (mo 0), .int v] [mH mo R, mR cI (mo 1) G, aI cI (mo 4) 7 F, aI cI (mo 6) 4 B, aI cI (mo 7) 4 Z, aJ cJ (mo 8) 160 C] (S := Unit) (some (.int (laysV G B Z C v.toInt))) (fun _ => True) (fun _ : Unit => [mH mo R, mR cI (mo 1) (laysG G B Z C v.toInt), aI cI (mo 4) 7 (shF B F v.toInt), aI cI (mo 6) 4 B, aI cI (mo 7) 4 Z, aJ cJ (mo 8) 160 C]) 0 0 := by
  refine CE.ofW (cc := cX5_lays) (maxL := 5) (ret := (some .int)) (lv := [(0, .ref (mo 0)), (1, .int v)]) (by decide) rfl (Nat.le_of_ble_eq_true rfl) rfl ?_
  intro p e s m args below meth c ls A Q hQ hx hb hml hr hlocks hnm hown hts hK hA hE hW hl
  have hown : s.vm.findClass RX5 = some m.cls := hown
  obtain ⟨hg0, hg8, hg16, hg16b, hg24, hg32, hg40, hg48⟩ := hG.s
  refine lv_aload_n hx hb dX5_lays_0 rfl (lv_at hl 0 rfl) ?_
  refine lv_iload_n hx hb dX5_lays_1 rfl (lv_at hl 1 rfl) ?_
  refine cl_Vi (As := [.int v]) (rest := []) (C := RX5) ⟨hx, hb, hml, hown, hts⟩ (M_X5_notThere l D cI cJ mo R B (fun j hj => (hS j hj).1) v) (cwV 1 hts gX5_lays_X5_notThere rfl rfl rfl qX5_notThere ⟨Nat.le_of_ble_eq_true rfl, Nat.le_of_ble_eq_true rfl⟩) E0_good hK hA hW trivial [true, false, false, true] (fun _ => [mH mo R, mR cI (mo 1) G, aI cI (mo 4) 7 F, aI cI (mo 6) 4 B, aI cI (mo 7) 4 Z, aJ cJ (mo 8) 160 C]) rfl (fun _ => rfl) (fun _ => rfl) 0 0 rfl rfl rfl rfl hl.1 rfl (lv_room (Nat.le_of_ble_eq_true rfl)) dX5_lays_2 ⟨Nat.zero_le _, Nat.zero_le _⟩ (fun _ H locs _ hW => ?_)
  refine lv_istore_n (lv' := [(2, .int (notV B v.toInt)), (0, .ref (mo 0)), (1, .int v)]) hx hb dX5_lays_5 rfl hl (by decide) rfl (fun ls hl => ?_)
  rcases notV_or B v.toInt with ⟨hnv, hnv1, hnv2⟩ | ⟨hnv, hnv1, hnv2⟩ | ⟨hnv, hnv1⟩
  · rw [hnv] at hl
    refine lv_iload_n hx hb dX5_lays_6 rfl (lv_at hl 0 rfl) ?_
    refine nn_zeq (tgt := 16) hx hb dX5_lays_7 (by decide) (by decide) (fun c7 => ?_) (fun c7 => ?_)
    · obtain ⟨j, hj, ej⟩ : ∃ j : Nat, v = nI j ∧ v.toInt = (j : Int) := ⟨v.toInt.toNat, nI_ofZ rfl (by omega), by omega⟩
      rw [hj] at hl
      have hSj := hS j (by omega)
      rw [ej, Int.toNat_natCast] at hnv2
      refine lv_iconst (v := nI 0) hx hb dX5_lays_16 (by decide +kernel) ?_
      refine lv_istore_n (lv' := [(3, .int (nI 0)), (2, .int (nI 0)), (0, .ref (mo 0)), (1, .int (nI j))]) hx hb dX5_lays_17 rfl hl (by decide) rfl (fun ls hl => ?_)
      refine lv_iconst (v := nI 0) hx hb dX5_lays_18 (by decide +kernel) ?_
      refine lv_istore (lv' := [(4, .int (nI 0)), (3, .int (nI 0)), (2, .int (nI 0)), (0, .ref (mo 0)), (1, .int (nI j))]) hx hb dX5_lays_19 hl (by decide) rfl (fun ls hl => ?_)
      have lp21 : ∀ (n : Nat) (i : Nat), 40 - i < n → i ≤ Z j ∧ i ≤ G 40 → ∀ (H : Heap) (locs : List Loc), Wo D vwCl A s.heap H locs [mH mo R, mR cI (mo 1) (lyG G C j i), aI cI (mo 4) 7 F, aI cI (mo 6) 4 B, aI cI (mo 7) 4 Z, aJ cJ (mo 8) 160 C] → ∀ ls : Array Slot, lv_has ls 5 [(4, .int (nI i)), (3, .int (nI (lyN C j i))), (2, .int (nI 0)), (0, .ref (mo 0)), (1, .int (nI j))] → W p l e rmX5_lays s m args below meth c H locs 0 0 Q (F0 m 21 ls []) := by
        intro n
        induction n with
        | zero => intro i hm; exact absurd hm (Nat.not_lt_zero _)
        | succ n ih =>
          intro i hm hi H locs hW ls hl
          have h40i := lyG_keep G C j 40 (by decide) i
          have hnl := lyN_le C j i
          have hOi := lyG_ok hG C j i
          refine lv_iload hx hb dX5_lays_21 (lv_at hl 0 rfl) ?_
          refine lv_aload_n hx hb dX5_lays_23 rfl (lv_at hl 3 rfl) ?_
          refine sg_get (ci := 4) (C := RX5) (T := TX5) (N := 15) (v := .ref (mo 7)) hx hb hts (fun _ h => List.mem_cons_of_mem _ (List.mem_append_right _ h)) hown hK hW 0 0 rfl rfl rfl 13 (by decide) (hts _ (List.mem_of_getElem? (i := 1) rfl)) rfl dX5_lays_24 ?_
          refine lv_iload_n hx hb dX5_lays_27 rfl (lv_at hl 4 rfl) ?_
          refine sg_ild (v := nI (Z j)) hx hb hK hW 4 0 0 rfl rfl rfl (by omega) (by decide) rfl dX5_lays_28 ?_
          refine nn_cge (tgt := 93) hx hb dX5_lays_29 (by decide) (by omega) (by omega) (fun c29 => ?_) (fun c29 => ?_)
          · have hmin : min (Z j) (G 40) = i := by omega
            refine lv_iload_n hx hb dX5_lays_93 rfl (lv_at hl 1 rfl) ?_
            exact rt_i hQ hx hb hr hlocks hW dX5_lays_94 () (by (try simp only [laysV, ej, hmin, Int.toNat_natCast]); (repeat' split) <;> first | rfl | (exfalso; omega)) trivial (by (try simp only [laysG, shF, ej, hmin, Int.toNat_natCast]); (repeat' split) <;> first | rfl | (exfalso; omega))
          · refine lv_iload hx hb dX5_lays_32 (lv_at hl 0 rfl) ?_
            refine lv_aload_n hx hb dX5_lays_34 rfl (lv_at hl 3 rfl) ?_
            refine sg_get (ci := 4) (C := RX5) (T := TX5) (N := 15) (v := .ref (mo 1)) hx hb hts (fun _ h => List.mem_cons_of_mem _ (List.mem_append_right _ h)) hown hK hW 0 0 rfl rfl rfl 0 (by decide) (hts _ (List.mem_of_getElem? (i := 2) rfl)) rfl dX5_lays_35 ?_
            refine lv_iconst (v := nI 5) hx hb dX5_lays_38 (by decide +kernel) ?_
            refine sg_ild (v := nI ((lyG G C j i) 40)) hx hb hK hW 1 0 0 rfl rfl rfl (by decide) (by decide) rfl dX5_lays_39 ?_
            refine nn_cge (tgt := 93) hx hb dX5_lays_40 (by decide) (by omega) (by omega) (fun c40 => ?_) (fun c40 => ?_)
            · have hmin : min (Z j) (G 40) = i := by omega
              refine lv_iload_n hx hb dX5_lays_93 rfl (lv_at hl 1 rfl) ?_
              exact rt_i hQ hx hb hr hlocks hW dX5_lays_94 () (by (try simp only [laysV, ej, hmin, Int.toNat_natCast]); (repeat' split) <;> first | rfl | (exfalso; omega)) trivial (by (try simp only [laysG, shF, ej, hmin, Int.toNat_natCast]); (repeat' split) <;> first | rfl | (exfalso; omega))
            · refine lv_aload_n hx hb dX5_lays_43 rfl (lv_at hl 3 rfl) ?_
              refine sg_get (ci := 4) (C := RX5) (T := TX5) (N := 15) (v := .ref (mo 8)) hx hb hts (fun _ h => List.mem_cons_of_mem _ (List.mem_append_right _ h)) hown hK hW 0 0 rfl rfl rfl 14 (by decide) (hts _ (List.mem_of_getElem? (i := 3) rfl)) rfl dX5_lays_44 ?_
              refine lv_bipush (v := nI 40) hx hb dX5_lays_47 (by decide +kernel) ?_
              refine lv_iload_n hx hb dX5_lays_49 rfl (lv_at hl 4 rfl) ?_
              refine nn_mul hx hb dX5_lays_50 ?_
              refine lv_iload hx hb dX5_lays_51 (lv_at hl 0 rfl) ?_
              refine nn_add hx hb dX5_lays_53 ?_
              refine sg_lld (v := C ((40 * j) + i)) hx hb hK hW 5 0 1 rfl rfl rfl (by omega) (by decide) rfl dX5_lays_54 ?_
              refine W.top (v' := .long (C (j * 40 + i))) (by rw [Nat.mul_comm 40 j]) ?_
              refine lv_iconst (v := nI 0) hx hb dX5_lays_55 (by decide +kernel) ?_
              refine lv_bipush (v := nI 99) hx hb dX5_lays_56 (by decide +kernel) ?_
              refine cl_Si (As := [.long (C (j * 40 + i)), .int (nI 0), .int (nI 99)]) (rest := []) ⟨hx, hb, hml, hown, hts⟩ (M_X5_in2 l D cI cJ (C (j * 40 + i)) (nI 0) (nI 99) (C (j * 40 + i)).toInt ((0 : Nat) : Int) ((99 : Nat) : Int) rfl (nI_toInt (n := 0) (by decide)) (nI_toInt (n := 99) (by decide))) (va_cwS 3 hts gX5_lays_X5_in rfl rfl rfl qX5_in ⟨Nat.le_of_ble_eq_true rfl, Nat.le_of_ble_eq_true rfl⟩) E0_good hK hA hW trivial [] (fun _ => [mH mo R, mR cI (mo 1) (lyG G C j i), aI cI (mo 4) 7 F, aI cI (mo 6) 4 B, aI cI (mo 7) 4 Z, aJ cJ (mo 8) 160 C]) rfl (fun _ => rfl) (fun _ => rfl) rfl hl.1 rfl (lv_room (Nat.le_of_ble_eq_true rfl)) dX5_lays_58 ⟨Nat.zero_le _, Nat.zero_le _⟩ (fun _ H locs _ hW => ?_)
              have hin_ := inZ_or (C (j * 40 + i)).toInt ((0 : Nat) : Int) ((99 : Nat) : Int)
              refine nn_zeq (tgt := 87) hx hb dX5_lays_61 (by decide) (by omega) (fun c61 => ?_) (fun c61 => ?_)
              · refine lv_iinc (v := nI (i + 1)) (lv' := [(4, .int (nI (i + 1))), (3, .int (nI (lyN C j i))), (2, .int (nI 0)), (0, .ref (mo 0)), (1, .int (nI j))]) hx hb dX5_lays_87 hl (k := 0) rfl (nI_add _ 1) (by decide) rfl (fun ls hl => ?_)
                refine lv_goto (tgt := 21) hx hb dX5_lays_90 (by decide) ?_
                have e1 : nI (lyN C j i) = nI (lyN C j (i + 1)) := (congrArg nI (lyN_f (by omega)))
                rw [e1] at hl
                have hW := hW.to (ss' := [mH mo R, mR cI (mo 1) (lyG G C j (i + 1)), aI cI (mo 4) 7 F, aI cI (mo 6) 4 B, aI cI (mo 7) 4 Z, aJ cJ (mo 8) 160 C]) (by rw [lyG_f (by omega)])
                exact ih (i + 1) (by omega) (by omega) _ _ hW _ (lv_sub hl [0, 1, 2, 3, 4] rfl)
              · refine lv_aload_n hx hb dX5_lays_64 rfl (lv_at hl 3 rfl) ?_
                refine lv_iload hx hb dX5_lays_65 (lv_at hl 0 rfl) ?_
                refine lv_iconst (v := nI 2) hx hb dX5_lays_67 (by decide +kernel) ?_
                refine lv_aload_n hx hb dX5_lays_68 rfl (lv_at hl 3 rfl) ?_
                refine sg_get (ci := 4) (C := RX5) (T := TX5) (N := 15) (v := .ref (mo 8)) hx hb hts (fun _ h => List.mem_cons_of_mem _ (List.mem_append_right _ h)) hown hK hW 0 0 rfl rfl rfl 14 (by decide) (hts _ (List.mem_of_getElem? (i := 3) rfl)) rfl dX5_lays_69 ?_
                refine lv_bipush (v := nI 40) hx hb dX5_lays_72 (by decide +kernel) ?_
                refine lv_iload_n hx hb dX5_lays_74 rfl (lv_at hl 4 rfl) ?_
                refine nn_mul hx hb dX5_lays_75 ?_
                refine lv_iload hx hb dX5_lays_76 (lv_at hl 0 rfl) ?_
                refine nn_add hx hb dX5_lays_78 ?_
                refine sg_lld (v := C ((40 * j) + i)) hx hb hK hW 5 0 1 rfl rfl rfl (by omega) (by decide) rfl dX5_lays_79 ?_
                refine W.top (v' := .long (C (j * 40 + i))) (by rw [Nat.mul_comm 40 j]) ?_
                refine lv_l2i (v := (C (j * 40 + i)).toInt32) hx hb dX5_lays_80 rfl ?_
                refine W.top (v' := .int (nI ((C (j * 40 + i)).toInt.toNat))) (congrArg Value.int (l2iN (by omega) (by omega))) ?_
                refine cl_Vv (As := [.int (nI i), .int (nI 2), .int (nI ((C (j * 40 + i)).toInt.toNat))]) (rest := []) (C := RX5) ⟨hx, hb, hml, hown, hts⟩ (M_X5_put l D cI cJ mo R (lyG G C j i) i 2 3 ((C (j * 40 + i)).toInt.toNat) (by omega) (by decide) rfl) (cwV 3 hts gX5_lays_X5_put rfl rfl rfl qX5_put ⟨Nat.le_of_ble_eq_true rfl, Nat.le_of_ble_eq_true rfl⟩) E0_good hK hA hW trivial [true, true] (fun _ => [mH mo R, mR cI (mo 1) (up (lyG G C j i) (8 * i + 3) ((C (j * 40 + i)).toInt.toNat)), aI cI (mo 4) 7 F, aI cI (mo 6) 4 B, aI cI (mo 7) 4 Z, aJ cJ (mo 8) 160 C]) rfl (fun _ => rfl) (fun _ => rfl) 0 0 rfl rfl rfl rfl hl.1 rfl (lv_room (Nat.le_of_ble_eq_true rfl)) dX5_lays_81 ⟨Nat.zero_le _, Nat.zero_le _⟩ (fun _ H locs _ hW => ?_)
                refine lv_iinc (v := nI (lyN C j i + 1)) (lv' := [(3, .int (nI (lyN C j i + 1))), (4, .int (nI i)), (2, .int (nI 0)), (0, .ref (mo 0)), (1, .int (nI j))]) hx hb dX5_lays_84 hl (k := 1) rfl (nI_add _ 1) (by decide) rfl (fun ls hl => ?_)
                refine lv_iinc (v := nI (i + 1)) (lv' := [(4, .int (nI (i + 1))), (3, .int (nI (lyN C j i + 1))), (2, .int (nI 0)), (0, .ref (mo 0)), (1, .int (nI j))]) hx hb dX5_lays_87 hl (k := 1) rfl (nI_add _ 1) (by decide) rfl (fun ls hl => ?_)
                refine lv_goto (tgt := 21) hx hb dX5_lays_90 (by decide) ?_
                have e2 : nI (lyN C j i + 1) = nI (lyN C j (i + 1)) := (congrArg nI (lyN_t (by omega)))
                rw [e2] at hl
                have hW := hW.to (ss' := [mH mo R, mR cI (mo 1) (lyG G C j (i + 1)), aI cI (mo 4) 7 F, aI cI (mo 6) 4 B, aI cI (mo 7) 4 Z, aJ cJ (mo 8) 160 C]) (by rw [lyG_t (by omega)])
                exact ih (i + 1) (by omega) (by omega) _ _ hW _ (lv_sub hl [0, 1, 2, 3, 4] rfl)
      have hW := hW.to (ss' := [mH mo R, mR cI (mo 1) (lyG G C j 0), aI cI (mo 4) 7 F, aI cI (mo 6) 4 B, aI cI (mo 7) 4 Z, aJ cJ (mo 8) 160 C]) rfl
      exact lp21 (40 - 0 + 1) 0 (Nat.lt_succ_self _) (by omega) _ _ hW _ (lv_sub hl [0, 1, 2, 3, 4] rfl)
    · exfalso; omega
  · rw [hnv] at hl
    refine lv_iload_n hx hb dX5_lays_6 rfl (lv_at hl 0 rfl) ?_
    refine zz_zeq (tgt := 16) hx hb dX5_lays_7 (by decide) (show ((-1000000006) : Int32).toInt = (-1000000006) by decide +kernel) (fun c7_1 => ?_) (fun c7_1 => ?_)
    · exfalso; omega
    · refine lv_aload_n hx hb dX5_lays_10 rfl (lv_at hl 1 rfl) ?_
      refine lv_iload_n hx hb dX5_lays_11 rfl (lv_at hl 0 rfl) ?_
      refine cl_Vi (As := [.int (-1000000006)]) (rest := []) (C := RX5) ⟨hx, hb, hml, hown, hts⟩ (M_X5_finds l D cI cJ mo R F 5 (by decide) (-1000000006) (by decide +kernel)) (cwV 1 hts gX5_lays_X5_finds rfl rfl rfl qX5_finds ⟨Nat.le_of_ble_eq_true rfl, Nat.le_of_ble_eq_true rfl⟩) E0_good hK hA hW trivial [true, false, true] (fun _ => [mH mo R, mR cI (mo 1) G, aI cI (mo 4) 7 (up F 5 (F 5 + 1)), aI cI (mo 6) 4 B, aI cI (mo 7) 4 Z, aJ cJ (mo 8) 160 C]) rfl (fun _ => rfl) (fun _ => rfl) 0 0 rfl rfl rfl rfl hl.1 rfl (lv_room (Nat.le_of_ble_eq_true rfl)) dX5_lays_12 ⟨Nat.zero_le _, Nat.zero_le _⟩ (fun _ H locs _ hW => ?_)
      exact rt_i hQ hx hb hr hlocks hW dX5_lays_15 () (by (try simp only [laysV]); (repeat' split) <;> first | rfl | (exfalso; omega)) trivial (by (try simp only [laysG, shF]); (repeat' split) <;> first | rfl | (exfalso; omega))
  · rw [hnv] at hl
    refine lv_iload_n hx hb dX5_lays_6 rfl (lv_at hl 0 rfl) ?_
    refine zz_zeq (tgt := 16) hx hb dX5_lays_7 (by decide) (show ((-1000000001) : Int32).toInt = (-1000000001) by decide +kernel) (fun c7_2 => ?_) (fun c7_2 => ?_)
    · exfalso; omega
    · refine lv_aload_n hx hb dX5_lays_10 rfl (lv_at hl 1 rfl) ?_
      refine lv_iload_n hx hb dX5_lays_11 rfl (lv_at hl 0 rfl) ?_
      refine cl_Vi (As := [.int (-1000000001)]) (rest := []) (C := RX5) ⟨hx, hb, hml, hown, hts⟩ (M_X5_finds l D cI cJ mo R F 0 (by decide) (-1000000001) (by decide +kernel)) (cwV 1 hts gX5_lays_X5_finds rfl rfl rfl qX5_finds ⟨Nat.le_of_ble_eq_true rfl, Nat.le_of_ble_eq_true rfl⟩) E0_good hK hA hW trivial [true, false, true] (fun _ => [mH mo R, mR cI (mo 1) G, aI cI (mo 4) 7 (up F 0 (F 0 + 1)), aI cI (mo 6) 4 B, aI cI (mo 7) 4 Z, aJ cJ (mo 8) 160 C]) rfl (fun _ => rfl) (fun _ => rfl) 0 0 rfl rfl rfl rfl hl.1 rfl (lv_room (Nat.le_of_ble_eq_true rfl)) dX5_lays_12 ⟨Nat.zero_le _, Nat.zero_le _⟩ (fun _ H locs _ hW => ?_)
      exact rt_i hQ hx hb hr hlocks hW dX5_lays_15 () (by (try simp only [laysV]); (repeat' split) <;> first | rfl | (exfalso; omega)) trivial (by (try simp only [laysG, shF]); (repeat' split) <;> first | rfl | (exfalso; omega))
abbrev rmX4_book : Room := { frames := 4, cells := 0, slots := 0, locals := 98 }
set_option maxRecDepth 100000 in
set_option maxHeartbeats 4000000 in
theorem M_X4_book (l : Launch) (D : va_G) (cI cJ : ClassId) (x fi ik : Nat) (la ta ka tp sh G T B Z F : Nat → Nat) (C : Nat → Int64) (hG : OkG 99999 G) (hS : OkS B Z) (v : Int32) : CE E0 l D vwCl [(cI, .int), (cJ, .long)] yX4_book wsX4_book rmX4_book [.ref x, .int v] [xH x la ta ka tp sh fi ik, gW cI la G, gW cI ta T, sW cI cJ sh B Z C, aI cI fi 7 F] (S := (Nat → Nat)) (some (.int (bookV B Z v.toInt))) (fun _ => True) (fun Tx : Nat → Nat => [xH x la ta ka tp sh fi ik, gW cI la G, gW cI ta Tx, sW cI cJ sh B Z (bookC G B Z C v.toInt), aI cI fi 7 (shF B F v.toInt)]) 0 0 := by
  refine CE.ofW (cc := cX4_book) (maxL := 3) (ret := (some .int)) (lv := [(0, .ref x), (1, .int v)]) (by decide) rfl (Nat.le_of_ble_eq_true rfl) rfl ?_
  intro p e s m args below meth c ls A Q hQ hx hb hml hr hlocks hnm hown hts hK hA hE hW hl
  have hown : s.vm.findClass RX4 = some m.cls := hown
  obtain ⟨hg0, hg8, hg16, hg16b, hg24, hg32, hg40, hg48⟩ := hG.s
  refine lv_aload_n hx hb dX4_book_0 rfl (lv_at hl 0 rfl) ?_
  refine sg_get (ci := 3) (C := RX4) (T := TX4) (N := 7) (v := .ref (sh 0)) hx hb hts (fun _ h => List.mem_cons_of_mem _ (List.mem_append_left _ (List.mem_append_left _ (List.mem_append_right _ h)))) hown hK hW 0 0 rfl rfl rfl 5 (by decide) (hts _ (List.mem_of_getElem? (i := 1) rfl)) rfl dX4_book_1 ?_
  refine lv_iload_n hx hb dX4_book_4 rfl (lv_at hl 1 rfl) ?_
  refine cl_Vi (As := [.int v]) (rest := []) (C := RX2) ⟨hx, hb, hml, hown, hts⟩ (M_X2_isSheet l D cI cJ sh B Z C v) (cwV 1 hts gX4_book_X2_isSheet rfl rfl rfl qX2_isSheet ⟨Nat.le_of_ble_eq_true rfl, Nat.le_of_ble_eq_true rfl⟩) E0_good hK hA hW trivial [false, false, false, true] (fun _ => [xH x la ta ka tp sh fi ik, gW cI la G, gW cI ta T, sW cI cJ sh B Z C, aI cI fi 7 F]) rfl (fun _ => rfl) (fun _ => rfl) 3 0 rfl rfl rfl rfl hl.1 rfl (lv_room (Nat.le_of_ble_eq_true rfl)) dX4_book_5 ⟨Nat.zero_le _, Nat.zero_le _⟩ (fun _ H locs _ hW => ?_)
  have him_ := inN_or v 4
  refine nn_zne (tgt := 18) hx hb dX4_book_8 (by decide) (by omega) (fun c8 => ?_) (fun c8 => ?_)
  · obtain ⟨j, hj, ej⟩ : ∃ j : Nat, v = nI j ∧ v.toInt = (j : Int) := ⟨v.toInt.toNat, nI_ofZ rfl (by omega), by omega⟩
    rw [hj] at hl
    have hSj := hS j (by omega)
    refine lv_aload_n hx hb dX4_book_18 rfl (lv_at hl 0 rfl) ?_
    refine sg_get (ci := 3) (C := RX4) (T := TX4) (N := 7) (v := .ref (sh 0)) hx hb hts (fun _ h => List.mem_cons_of_mem _ (List.mem_append_left _ (List.mem_append_left _ (List.mem_append_right _ h)))) hown hK hW 0 0 rfl rfl rfl 5 (by decide) (hts _ (List.mem_of_getElem? (i := 1) rfl)) rfl dX4_book_19 ?_
    refine lv_iload_n hx hb dX4_book_22 rfl (lv_at hl 1 rfl) ?_
    refine cl_Vi (As := [.int (nI j)]) (rest := []) (C := RX2) ⟨hx, hb, hml, hown, hts⟩ (M_X2_isMissing l D cI cJ sh B Z C hS j (by omega)) (cwV 1 hts gX4_book_X2_isMissing rfl rfl rfl qX2_isMissing ⟨Nat.le_of_ble_eq_true rfl, Nat.le_of_ble_eq_true rfl⟩) E0_good hK hA hW trivial [false, false, false, true] (fun _ => [xH x la ta ka tp sh fi ik, gW cI la G, gW cI ta T, sW cI cJ sh B Z C, aI cI fi 7 F]) rfl (fun _ => rfl) (fun _ => rfl) 3 0 rfl rfl rfl rfl hl.1 rfl (lv_room (Nat.le_of_ble_eq_true rfl)) dX4_book_23 ⟨Nat.zero_le _, Nat.zero_le _⟩ (fun _ H locs _ hW => ?_)
    have hms_ : ((if B j = 0 then 1 else 0) = 1 ∧ B j = 0) ∨ ((if B j = 0 then 1 else 0) = 0 ∧ ¬ B j = 0) := ite01 _
    refine nn_zeq (tgt := 36) hx hb dX4_book_26 (by decide) (by omega) (fun c26 => ?_) (fun c26 => ?_)
    · refine lv_aload_n hx hb dX4_book_36 rfl (lv_at hl 0 rfl) ?_
      refine sg_get (ci := 3) (C := RX4) (T := TX4) (N := 7) (v := .ref (ta 0)) hx hb hts (fun _ h => List.mem_cons_of_mem _ (List.mem_append_left _ (List.mem_append_left _ (List.mem_append_right _ h)))) hown hK hW 0 0 rfl rfl rfl 1 (by decide) (hts _ (List.mem_of_getElem? (i := 4) rfl)) rfl dX4_book_37 ?_
      refine lv_aload_n hx hb dX4_book_40 rfl (lv_at hl 0 rfl) ?_
      refine sg_get (ci := 3) (C := RX4) (T := TX4) (N := 7) (v := .ref (la 0)) hx hb hts (fun _ h => List.mem_cons_of_mem _ (List.mem_append_left _ (List.mem_append_left _ (List.mem_append_right _ h)))) hown hK hW 0 0 rfl rfl rfl 0 (by decide) (hts _ (List.mem_of_getElem? (i := 5) rfl)) rfl dX4_book_41 ?_
      refine cl_Vv (As := [.ref (la 0)]) (rest := []) (C := RX0) ⟨hx, hb, hml, hown, hts⟩ (M_X0_become2 l D cI cJ ta la T G) (cwV 1 hts gX4_book_X0_become rfl rfl rfl qX0_become ⟨Nat.le_of_ble_eq_true rfl, Nat.le_of_ble_eq_true rfl⟩) E0_good hK hA hW trivial [false, true, true] (fun _ => [xH x la ta ka tp sh fi ik, gW cI la G, gW cI ta G, sW cI cJ sh B Z C, aI cI fi 7 F]) rfl (fun _ => rfl) (fun _ => rfl) 2 0 rfl rfl rfl rfl hl.1 rfl (lv_room (Nat.le_of_ble_eq_true rfl)) dX4_book_44 ⟨Nat.zero_le _, Nat.zero_le _⟩ (fun _ H locs _ hW => ?_)
      refine lv_iconst (v := nI 0) hx hb dX4_book_47 (by decide +kernel) ?_
      refine lv_istore_n (lv' := [(2, .int (nI 0)), (0, .ref x), (1, .int (nI j))]) hx hb dX4_book_48 rfl hl (by decide) rfl (fun ls hl => ?_)
      have lp49 : ∀ (n : Nat) (i : Nat), 40 - i < n → i ≤ Z j → ∀ (H : Heap) (locs : List Loc), Wo D vwCl A s.heap H locs [xH x la ta ka tp sh fi ik, gW cI la G, gW cI ta (stepN G i), sW cI cJ sh B Z (bkC G B C j i), aI cI fi 7 F] → ∀ ls : Array Slot, lv_has ls 3 [(2, .int (nI i)), (0, .ref x), (1, .int (nI j))] → W p l e rmX4_book s m args below meth c H locs 0 0 Q (F0 m 49 ls []) := by
        intro n
        induction n with
        | zero => intro i hm; exact absurd hm (Nat.not_lt_zero _)
        | succ n ih =>
          intro i hm hi H locs hW ls hl
          have hTi := stepN_ok hG i
          have hTs := hTi.s
          refine lv_iload_n hx hb dX4_book_49 rfl (lv_at hl 0 rfl) ?_
          refine lv_aload_n hx hb dX4_book_50 rfl (lv_at hl 1 rfl) ?_
          refine sg_get (ci := 3) (C := RX4) (T := TX4) (N := 7) (v := .ref (sh 0)) hx hb hts (fun _ h => List.mem_cons_of_mem _ (List.mem_append_left _ (List.mem_append_left _ (List.mem_append_right _ h)))) hown hK hW 0 0 rfl rfl rfl 5 (by decide) (hts _ (List.mem_of_getElem? (i := 1) rfl)) rfl dX4_book_51 ?_
          refine sg_get (ci := 1) (C := RX2) (T := TX2) (N := 3) (v := .ref (sh 2)) hx hb hts (fun _ h => List.mem_cons_of_mem _ (List.mem_append_left _ (List.mem_append_right _ h))) hown hK hW 3 0 rfl rfl rfl 1 (by decide) (hts _ (List.mem_of_getElem? (i := 6) rfl)) rfl dX4_book_54 ?_
          refine lv_iload_n hx hb dX4_book_57 rfl (lv_at hl 2 rfl) ?_
          refine sg_ild (v := nI (Z j)) hx hb hK hW 3 2 0 rfl rfl rfl (by omega) (by decide) rfl dX4_book_58 ?_
          refine nn_cge (tgt := 92) hx hb dX4_book_59 (by decide) (by omega) (by omega) (fun c59 => ?_) (fun c59 => ?_)
          · have hiZ : i = Z j := by omega
            rw [hiZ] at hl hW
            refine lv_aload_n hx hb dX4_book_92 rfl (lv_at hl 1 rfl) ?_
            refine sg_get (ci := 3) (C := RX4) (T := TX4) (N := 7) (v := .ref (sh 0)) hx hb hts (fun _ h => List.mem_cons_of_mem _ (List.mem_append_left _ (List.mem_append_left _ (List.mem_append_right _ h)))) hown hK hW 0 0 rfl rfl rfl 5 (by decide) (hts _ (List.mem_of_getElem? (i := 1) rfl)) rfl dX4_book_93 ?_
            refine sg_get (ci := 1) (C := RX2) (T := TX2) (N := 3) (v := .ref (sh 2)) hx hb hts (fun _ h => List.mem_cons_of_mem _ (List.mem_append_left _ (List.mem_append_right _ h))) hown hK hW 3 0 rfl rfl rfl 1 (by decide) (hts _ (List.mem_of_getElem? (i := 6) rfl)) rfl dX4_book_96 ?_
            refine lv_iload_n hx hb dX4_book_99 rfl (lv_at hl 2 rfl) ?_
            refine sg_ild (v := nI (Z j)) hx hb hK hW 3 2 0 rfl rfl rfl (by omega) (by decide) rfl dX4_book_100 ?_
            exact rt_i hQ hx hb hr hlocks hW dX4_book_101 (stepN G (Z j)) (by (try simp only [bookV, ej, Int.toNat_natCast]); (repeat' split) <;> first | rfl | (exfalso; omega)) trivial (by (try simp only [bookC, shF, ej, Int.toNat_natCast]); (repeat' split) <;> first | rfl | (exfalso; omega))
          · refine lv_aload_n hx hb dX4_book_62 rfl (lv_at hl 1 rfl) ?_
            refine sg_get (ci := 3) (C := RX4) (T := TX4) (N := 7) (v := .ref (sh 0)) hx hb hts (fun _ h => List.mem_cons_of_mem _ (List.mem_append_left _ (List.mem_append_left _ (List.mem_append_right _ h)))) hown hK hW 0 0 rfl rfl rfl 5 (by decide) (hts _ (List.mem_of_getElem? (i := 1) rfl)) rfl dX4_book_63 ?_
            refine lv_iload_n hx hb dX4_book_66 rfl (lv_at hl 2 rfl) ?_
            refine lv_iload_n hx hb dX4_book_67 rfl (lv_at hl 0 rfl) ?_
            refine lv_aload_n hx hb dX4_book_68 rfl (lv_at hl 1 rfl) ?_
            refine sg_get (ci := 3) (C := RX4) (T := TX4) (N := 7) (v := .ref (ta 0)) hx hb hts (fun _ h => List.mem_cons_of_mem _ (List.mem_append_left _ (List.mem_append_left _ (List.mem_append_right _ h)))) hown hK hW 0 0 rfl rfl rfl 1 (by decide) (hts _ (List.mem_of_getElem? (i := 4) rfl)) rfl dX4_book_69 ?_
            refine sg_get (ci := 0) (C := RX0) (T := TX0) (N := 14) (v := .int (nI ((stepN G i) 24))) hx hb hts (fun _ h => List.mem_cons_of_mem _ (List.mem_append_right _ h)) hown hK hW 2 0 rfl rfl rfl 3 (by decide) (hts _ (List.mem_of_getElem? (i := 7) rfl)) rfl dX4_book_72 ?_
            refine lv_i2l (v := (nI ((stepN G i) 24)).toInt64) hx hb dX4_book_75 rfl ?_
            refine cl_Vv (As := [.int (nI j), .int (nI i), .long ((nI ((stepN G i) 24)).toInt64)]) (rest := []) (C := RX2) ⟨hx, hb, hml, hown, hts⟩ (M_X2_put l D cI cJ sh B Z (bkC G B C j i) hS j i ((nI ((stepN G i) 24)).toInt64) (by omega) (by omega)) (cwV 3 hts gX4_book_X2_put rfl rfl rfl qX2_put ⟨Nat.le_of_ble_eq_true rfl, Nat.le_of_ble_eq_true rfl⟩) E0_good hK hA hW trivial [false, false, false, true] (fun _ => [xH x la ta ka tp sh fi ik, gW cI la G, gW cI ta (stepN G i), sW cI cJ sh B Z (vp_updL (bkC G B C j i) (j * 40 + i) (cutV (B j) ((nI ((stepN G i) 24)).toInt64))), aI cI fi 7 F]) rfl (fun _ => rfl) (fun _ => rfl) 3 0 rfl rfl rfl rfl hl.1 rfl (lv_room (Nat.le_of_ble_eq_true rfl)) dX4_book_76 ⟨Nat.zero_le _, Nat.zero_le _⟩ (fun _ H locs _ hW => ?_)
            refine lv_aload_n hx hb dX4_book_79 rfl (lv_at hl 1 rfl) ?_
            refine sg_get (ci := 3) (C := RX4) (T := TX4) (N := 7) (v := .ref (ta 0)) hx hb hts (fun _ h => List.mem_cons_of_mem _ (List.mem_append_left _ (List.mem_append_left _ (List.mem_append_right _ h)))) hown hK hW 0 0 rfl rfl rfl 1 (by decide) (hts _ (List.mem_of_getElem? (i := 4) rfl)) rfl dX4_book_80 ?_
            refine cl_Vv (As := []) (rest := []) (C := RX0) ⟨hx, hb, hml, hown, hts⟩ (M_X0_passMinute l D cI cJ ta (stepN G i) (99999 + i) (by omega) hTi) (cwV 0 hts gX4_book_X0_passMinute rfl rfl rfl qX0_passMinute ⟨Nat.le_of_ble_eq_true rfl, Nat.le_of_ble_eq_true rfl⟩) E0_good hK hA hW trivial [false, false, true] (fun _ => [xH x la ta ka tp sh fi ik, gW cI la G, gW cI ta (stepG (stepN G i)), sW cI cJ sh B Z (vp_updL (bkC G B C j i) (j * 40 + i) (cutV (B j) ((nI ((stepN G i) 24)).toInt64))), aI cI fi 7 F]) rfl (fun _ => rfl) (fun _ => rfl) 2 0 rfl rfl rfl rfl hl.1 rfl (lv_room (Nat.le_of_ble_eq_true rfl)) dX4_book_83 ⟨Nat.zero_le _, Nat.zero_le _⟩ (fun _ H locs _ hW => ?_)
            refine lv_iinc (v := nI (i + 1)) (lv' := [(2, .int (nI (i + 1))), (0, .ref x), (1, .int (nI j))]) hx hb dX4_book_86 hl (k := 0) rfl (nI_add _ 1) (by decide) rfl (fun ls hl => ?_)
            refine lv_goto (tgt := 49) hx hb dX4_book_89 (by decide) ?_
            have hW := hW.to (ss' := [xH x la ta ka tp sh fi ik, gW cI la G, gW cI ta (stepN G (i + 1)), sW cI cJ sh B Z (bkC G B C j (i + 1)), aI cI fi 7 F]) rfl
            exact ih (i + 1) (by omega) (by omega) _ _ hW _ (lv_sub hl [0, 1, 2] rfl)
      have hW := hW.to (ss' := [xH x la ta ka tp sh fi ik, gW cI la G, gW cI ta (stepN G 0), sW cI cJ sh B Z (bkC G B C j 0), aI cI fi 7 F]) rfl
      exact lp49 (40 - 0 + 1) 0 (Nat.lt_succ_self _) (by omega) _ _ hW _ (lv_sub hl [0, 1, 2] rfl)
    · refine lv_aload_n hx hb dX4_book_29 rfl (lv_at hl 0 rfl) ?_
      refine lv_ldc (v := -1000000006) hx hb hown (hts _ (List.mem_of_getElem? (i := 3) rfl)) dX4_book_30 ?_
      refine cl_Vi (As := [.int (-1000000006)]) (rest := []) (C := RX4) ⟨hx, hb, hml, hown, hts⟩ (M_X4_tell l D cI cJ x fi ik la ta ka tp sh F 5 (by decide) (-1000000006) (by decide +kernel)) (cwV 1 hts gX4_book_X4_tell rfl rfl rfl qX4_tell ⟨Nat.le_of_ble_eq_true rfl, Nat.le_of_ble_eq_true rfl⟩) E0_good hK hA hW trivial [true, false, false, false, true] (fun _ => [xH x la ta ka tp sh fi ik, gW cI la G, gW cI ta T, sW cI cJ sh B Z C, aI cI fi 7 (up F 5 (F 5 + 1))]) rfl (fun _ => rfl) (fun _ => rfl) 0 0 rfl rfl rfl rfl hl.1 rfl (lv_room (Nat.le_of_ble_eq_true rfl)) dX4_book_32 ⟨Nat.zero_le _, Nat.zero_le _⟩ (fun _ H locs _ hW => ?_)
      exact rt_i hQ hx hb hr hlocks hW dX4_book_35 T (by (try simp only [bookV, ej, Int.toNat_natCast]); (repeat' split) <;> first | rfl | (exfalso; omega)) trivial (by (try simp only [bookC, shF, ej, Int.toNat_natCast]); (repeat' split) <;> first | rfl | (exfalso; omega))
  · refine lv_aload_n hx hb dX4_book_11 rfl (lv_at hl 0 rfl) ?_
    refine lv_ldc (v := -1000000001) hx hb hown (hts _ (List.mem_of_getElem? (i := 2) rfl)) dX4_book_12 ?_
    refine cl_Vi (As := [.int (-1000000001)]) (rest := []) (C := RX4) ⟨hx, hb, hml, hown, hts⟩ (M_X4_tell l D cI cJ x fi ik la ta ka tp sh F 0 (by decide) (-1000000001) (by decide +kernel)) (cwV 1 hts gX4_book_X4_tell rfl rfl rfl qX4_tell ⟨Nat.le_of_ble_eq_true rfl, Nat.le_of_ble_eq_true rfl⟩) E0_good hK hA hW trivial [true, false, false, false, true] (fun _ => [xH x la ta ka tp sh fi ik, gW cI la G, gW cI ta T, sW cI cJ sh B Z C, aI cI fi 7 (up F 0 (F 0 + 1))]) rfl (fun _ => rfl) (fun _ => rfl) 0 0 rfl rfl rfl rfl hl.1 rfl (lv_room (Nat.le_of_ble_eq_true rfl)) dX4_book_14 ⟨Nat.zero_le _, Nat.zero_le _⟩ (fun _ H locs _ hW => ?_)
    exact rt_i hQ hx hb hr hlocks hW dX4_book_17 T (by (try simp only [bookV]); (repeat' split) <;> first | rfl | (exfalso; omega)) trivial (by (try simp only [bookC, shF]); (repeat' split) <;> first | rfl | (exfalso; omega))
abbrev rmX5_book : Room := { frames := 6, cells := 0, slots := 0, locals := 137 }
set_option maxRecDepth 100000 in
set_option maxHeartbeats 4000000 in
theorem M_X5_book (l : Launch) (D : va_G) (cI cJ : ClassId) (mo R G Wa F B Z : Nat → Nat) (C : Nat → Int64) (hG : OkG 99999 G) (hS : OkS B Z) (v : Int32) : CE E0 l D vwCl [(cI, .int), (cJ, .long)] yX5_book wsX5_book rmX5_book [.ref (mo 0), .int v] [mH mo R, mR cI (mo 1) G, mR cI (mo 3) Wa, aI cI (mo 4) 7 F, aI cI (mo 6) 4 B, aI cI (mo 7) 4 Z, aJ cJ (mo 8) 160 C] (S := (Nat → Nat)) (some (.int (bookV B Z v.toInt))) (fun _ => True) (fun Wx : Nat → Nat => [mH mo R, mR cI (mo 1) G, mR cI (mo 3) Wx, aI cI (mo 4) 7 (shF B F v.toInt), aI cI (mo 6) 4 B, aI cI (mo 7) 4 Z, aJ cJ (mo 8) 160 (bookC G B Z C v.toInt)]) 0 0 := by
  refine CE.ofW (cc := cX5_book) (maxL := 4) (ret := (some .int)) (lv := [(0, .ref (mo 0)), (1, .int v)]) (by decide) rfl (Nat.le_of_ble_eq_true rfl) rfl ?_
  intro p e s m args below meth c ls A Q hQ hx hb hml hr hlocks hnm hown hts hK hA hE hW hl
  have hown : s.vm.findClass RX5 = some m.cls := hown
  obtain ⟨hg0, hg8, hg16, hg16b, hg24, hg32, hg40, hg48⟩ := hG.s
  refine lv_aload_n hx hb dX5_book_0 rfl (lv_at hl 0 rfl) ?_
  refine lv_iload_n hx hb dX5_book_1 rfl (lv_at hl 1 rfl) ?_
  refine cl_Vi (As := [.int v]) (rest := []) (C := RX5) ⟨hx, hb, hml, hown, hts⟩ (M_X5_notThere l D cI cJ mo R B (fun j hj => (hS j hj).1) v) (cwV 1 hts gX5_book_X5_notThere rfl rfl rfl qX5_notThere ⟨Nat.le_of_ble_eq_true rfl, Nat.le_of_ble_eq_true rfl⟩) E0_good hK hA hW trivial [true, false, false, false, true] (fun _ => [mH mo R, mR cI (mo 1) G, mR cI (mo 3) Wa, aI cI (mo 4) 7 F, aI cI (mo 6) 4 B, aI cI (mo 7) 4 Z, aJ cJ (mo 8) 160 C]) rfl (fun _ => rfl) (fun _ => rfl) 0 0 rfl rfl rfl rfl hl.1 rfl (lv_room (Nat.le_of_ble_eq_true rfl)) dX5_book_2 ⟨Nat.zero_le _, Nat.zero_le _⟩ (fun _ H locs _ hW => ?_)
  refine lv_istore_n (lv' := [(2, .int (notV B v.toInt)), (0, .ref (mo 0)), (1, .int v)]) hx hb dX5_book_5 rfl hl (by decide) rfl (fun ls hl => ?_)
  rcases notV_or B v.toInt with ⟨hnv, hnv1, hnv2⟩ | ⟨hnv, hnv1, hnv2⟩ | ⟨hnv, hnv1⟩
  · rw [hnv] at hl
    refine lv_iload_n hx hb dX5_book_6 rfl (lv_at hl 0 rfl) ?_
    refine nn_zeq (tgt := 16) hx hb dX5_book_7 (by decide) (by decide) (fun c7 => ?_) (fun c7 => ?_)
    · obtain ⟨j, hj, ej⟩ : ∃ j : Nat, v = nI j ∧ v.toInt = (j : Int) := ⟨v.toInt.toNat, nI_ofZ rfl (by omega), by omega⟩
      rw [hj] at hl
      have hSj := hS j (by omega)
      rw [ej, Int.toNat_natCast] at hnv2
      refine lv_aload_n hx hb dX5_book_16 rfl (lv_at hl 1 rfl) ?_
      refine cl_Vv (As := []) (rest := []) (C := RX5) ⟨hx, hb, hml, hown, hts⟩ (M_X5_thinks l D cI cJ mo R G Wa ) (cwV 0 hts gX5_book_X5_thinks rfl rfl rfl qX5_thinks ⟨Nat.le_of_ble_eq_true rfl, Nat.le_of_ble_eq_true rfl⟩) E0_good hK hA hW trivial [true, true, true] (fun _ => [mH mo R, mR cI (mo 1) G, mR cI (mo 3) G, aI cI (mo 4) 7 F, aI cI (mo 6) 4 B, aI cI (mo 7) 4 Z, aJ cJ (mo 8) 160 C]) rfl (fun _ => rfl) (fun _ => rfl) 0 0 rfl rfl rfl rfl hl.1 rfl (lv_room (Nat.le_of_ble_eq_true rfl)) dX5_book_17 ⟨Nat.zero_le _, Nat.zero_le _⟩ (fun _ H locs _ hW => ?_)
      refine lv_iconst (v := nI 0) hx hb dX5_book_20 (by decide +kernel) ?_
      refine lv_istore_n (lv' := [(3, .int (nI 0)), (2, .int (nI 0)), (0, .ref (mo 0)), (1, .int (nI j))]) hx hb dX5_book_21 rfl hl (by decide) rfl (fun ls hl => ?_)
      have lp22 : ∀ (n : Nat) (i : Nat), 40 - i < n → i ≤ Z j → ∀ (H : Heap) (locs : List Loc), Wo D vwCl A s.heap H locs [mH mo R, mR cI (mo 1) (stepN G i), mR cI (mo 3) G, aI cI (mo 4) 7 F, aI cI (mo 6) 4 B, aI cI (mo 7) 4 Z, aJ cJ (mo 8) 160 (bkC G B C j i)] → ∀ ls : Array Slot, lv_has ls 4 [(3, .int (nI i)), (2, .int (nI 0)), (0, .ref (mo 0)), (1, .int (nI j))] → W p l e rmX5_book s m args below meth c H locs 0 0 Q (F0 m 22 ls []) := by
        intro n
        induction n with
        | zero => intro i hm; exact absurd hm (Nat.not_lt_zero _)
        | succ n ih =>
          intro i hm hi H locs hW ls hl
          have hTi := stepN_ok hG i
          have hTs := hTi.s
          refine lv_iload_n hx hb dX5_book_22 rfl (lv_at hl 0 rfl) ?_
          refine lv_aload_n hx hb dX5_book_23 rfl (lv_at hl 2 rfl) ?_
          refine sg_get (ci := 4) (C := RX5) (T := TX5) (N := 15) (v := .ref (mo 7)) hx hb hts (fun _ h => List.mem_cons_of_mem _ (List.mem_append_right _ h)) hown hK hW 0 0 rfl rfl rfl 13 (by decide) (hts _ (List.mem_of_getElem? (i := 1) rfl)) rfl dX5_book_24 ?_
          refine lv_iload_n hx hb dX5_book_27 rfl (lv_at hl 3 rfl) ?_
          refine sg_ild (v := nI (Z j)) hx hb hK hW 5 0 0 rfl rfl rfl (by omega) (by decide) rfl dX5_book_28 ?_
          refine nn_cge (tgt := 69) hx hb dX5_book_29 (by decide) (by omega) (by omega) (fun c29 => ?_) (fun c29 => ?_)
          · have hiZ : i = Z j := by omega
            rw [hiZ] at hl hW
            refine lv_aload_n hx hb dX5_book_69 rfl (lv_at hl 2 rfl) ?_
            refine cl_Vv (As := []) (rest := []) (C := RX5) ⟨hx, hb, hml, hown, hts⟩ (M_X5_putsBack l D cI cJ mo R (stepN G (Z j)) G ) (cwV 0 hts gX5_book_X5_putsBack rfl rfl rfl qX5_putsBack ⟨Nat.le_of_ble_eq_true rfl, Nat.le_of_ble_eq_true rfl⟩) E0_good hK hA hW trivial [true, true, true] (fun _ => [mH mo R, mR cI (mo 1) G, mR cI (mo 3) G, aI cI (mo 4) 7 F, aI cI (mo 6) 4 B, aI cI (mo 7) 4 Z, aJ cJ (mo 8) 160 (bkC G B C j (Z j))]) rfl (fun _ => rfl) (fun _ => rfl) 0 0 rfl rfl rfl rfl hl.1 rfl (lv_room (Nat.le_of_ble_eq_true rfl)) dX5_book_70 ⟨Nat.zero_le _, Nat.zero_le _⟩ (fun _ H locs _ hW => ?_)
            refine lv_aload_n hx hb dX5_book_73 rfl (lv_at hl 2 rfl) ?_
            refine sg_get (ci := 4) (C := RX5) (T := TX5) (N := 15) (v := .ref (mo 7)) hx hb hts (fun _ h => List.mem_cons_of_mem _ (List.mem_append_right _ h)) hown hK hW 0 0 rfl rfl rfl 13 (by decide) (hts _ (List.mem_of_getElem? (i := 1) rfl)) rfl dX5_book_74 ?_
            refine lv_iload_n hx hb dX5_book_77 rfl (lv_at hl 3 rfl) ?_
            refine sg_ild (v := nI (Z j)) hx hb hK hW 5 0 0 rfl rfl rfl (by omega) (by decide) rfl dX5_book_78 ?_
            exact rt_i hQ hx hb hr hlocks hW dX5_book_79 G (by (try simp only [bookV, ej, Int.toNat_natCast]); (repeat' split) <;> first | rfl | (exfalso; omega)) trivial (by (try simp only [bookC, shF, ej, Int.toNat_natCast]); (repeat' split) <;> first | rfl | (exfalso; omega))
          · refine lv_aload_n hx hb dX5_book_32 rfl (lv_at hl 2 rfl) ?_
            refine sg_get (ci := 4) (C := RX5) (T := TX5) (N := 15) (v := .ref (mo 8)) hx hb hts (fun _ h => List.mem_cons_of_mem _ (List.mem_append_right _ h)) hown hK hW 0 0 rfl rfl rfl 14 (by decide) (hts _ (List.mem_of_getElem? (i := 2) rfl)) rfl dX5_book_33 ?_
            refine lv_bipush (v := nI 40) hx hb dX5_book_36 (by decide +kernel) ?_
            refine lv_iload_n hx hb dX5_book_38 rfl (lv_at hl 3 rfl) ?_
            refine nn_mul hx hb dX5_book_39 ?_
            refine lv_iload_n hx hb dX5_book_40 rfl (lv_at hl 0 rfl) ?_
            refine nn_add hx hb dX5_book_41 ?_
            refine lv_aload_n hx hb dX5_book_42 rfl (lv_at hl 2 rfl) ?_
            refine sg_get (ci := 4) (C := RX5) (T := TX5) (N := 15) (v := .ref (mo 6)) hx hb hts (fun _ h => List.mem_cons_of_mem _ (List.mem_append_right _ h)) hown hK hW 0 0 rfl rfl rfl 12 (by decide) (hts _ (List.mem_of_getElem? (i := 3) rfl)) rfl dX5_book_43 ?_
            refine lv_iload_n hx hb dX5_book_46 rfl (lv_at hl 3 rfl) ?_
            refine sg_ild (v := nI (B j)) hx hb hK hW 4 0 0 rfl rfl rfl (by omega) (by decide) rfl dX5_book_47 ?_
            refine lv_aload_n hx hb dX5_book_48 rfl (lv_at hl 2 rfl) ?_
            refine sg_get (ci := 4) (C := RX5) (T := TX5) (N := 15) (v := .ref (mo 1)) hx hb hts (fun _ h => List.mem_cons_of_mem _ (List.mem_append_right _ h)) hown hK hW 0 0 rfl rfl rfl 0 (by decide) (hts _ (List.mem_of_getElem? (i := 4) rfl)) rfl dX5_book_49 ?_
            refine lv_iconst (v := nI 3) hx hb dX5_book_52 (by decide +kernel) ?_
            refine sg_ild (v := nI ((stepN G i) 24)) hx hb hK hW 1 0 0 rfl rfl rfl (by decide) (by decide) rfl dX5_book_53 ?_
            refine lv_i2l (v := (nI ((stepN G i) 24)).toInt64) hx hb dX5_book_54 rfl ?_
            refine cl_Sl (As := [.int (nI (B j)), .long ((nI ((stepN G i) 24)).toInt64)]) (rest := [.int (nI ((40 * j) + i)), .ref (mo 8)]) ⟨hx, hb, hml, hown, hts⟩ (M_X5_cutTo l D cI cJ (B j) (by omega) ((nI ((stepN G i) 24)).toInt64)) (va_cwS 2 hts gX5_book_X5_cutTo rfl rfl rfl qX5_cutTo ⟨Nat.le_of_ble_eq_true rfl, Nat.le_of_ble_eq_true rfl⟩) E0_good hK hA hW trivial [] (fun _ => [mH mo R, mR cI (mo 1) (stepN G i), mR cI (mo 3) G, aI cI (mo 4) 7 F, aI cI (mo 6) 4 B, aI cI (mo 7) 4 Z, aJ cJ (mo 8) 160 (bkC G B C j i)]) rfl (fun _ => rfl) (fun _ => rfl) rfl hl.1 rfl (lv_room (Nat.le_of_ble_eq_true rfl)) dX5_book_55 ⟨Nat.zero_le _, Nat.zero_le _⟩ (fun _ H locs _ hW => ?_)
            refine sg_lst hx hb hK hW 6 0 1 rfl rfl rfl (by omega) (by decide) (aJ_set cJ (mo 8) 160 (bkC G B C j i) ((40 * j) + i) (cutV (B j) ((nI ((stepN G i) 24)).toInt64))) (ss' := [mH mo R, mR cI (mo 1) (stepN G i), mR cI (mo 3) G, aI cI (mo 4) 7 F, aI cI (mo 6) 4 B, aI cI (mo 7) 4 Z, aJ cJ (mo 8) 160 (vp_updL (bkC G B C j i) ((40 * j) + i) (cutV (B j) ((nI ((stepN G i) 24)).toInt64)))]) rfl dX5_book_58 (fun H locs hW => ?_)
            refine lv_aload_n hx hb dX5_book_59 rfl (lv_at hl 2 rfl) ?_
            refine cl_Vv (As := []) (rest := []) (C := RX5) ⟨hx, hb, hml, hown, hts⟩ (M_X5_goes l D cI cJ mo R (stepN G i) (99999 + i) (by omega) hTi ) (cwV 0 hts gX5_book_X5_goes rfl rfl rfl qX5_goes ⟨Nat.le_of_ble_eq_true rfl, Nat.le_of_ble_eq_true rfl⟩) E0_good hK hA hW trivial [true, true] (fun _ => [mH mo R, mR cI (mo 1) (stepG (stepN G i)), mR cI (mo 3) G, aI cI (mo 4) 7 F, aI cI (mo 6) 4 B, aI cI (mo 7) 4 Z, aJ cJ (mo 8) 160 (vp_updL (bkC G B C j i) ((40 * j) + i) (cutV (B j) ((nI ((stepN G i) 24)).toInt64)))]) rfl (fun _ => rfl) (fun _ => rfl) 0 0 rfl rfl rfl rfl hl.1 rfl (lv_room (Nat.le_of_ble_eq_true rfl)) dX5_book_60 ⟨Nat.zero_le _, Nat.zero_le _⟩ (fun _ H locs _ hW => ?_)
            refine lv_iinc (v := nI (i + 1)) (lv' := [(3, .int (nI (i + 1))), (2, .int (nI 0)), (0, .ref (mo 0)), (1, .int (nI j))]) hx hb dX5_book_63 hl (k := 0) rfl (nI_add _ 1) (by decide) rfl (fun ls hl => ?_)
            refine lv_goto (tgt := 22) hx hb dX5_book_66 (by decide) ?_
            have hW := hW.to (ss' := [mH mo R, mR cI (mo 1) (stepN G (i + 1)), mR cI (mo 3) G, aI cI (mo 4) 7 F, aI cI (mo 6) 4 B, aI cI (mo 7) 4 Z, aJ cJ (mo 8) 160 (bkC G B C j (i + 1))]) (by rw [Nat.mul_comm 40 j]; rfl)
            exact ih (i + 1) (by omega) (by omega) _ _ hW _ (lv_sub hl [0, 1, 2, 3] rfl)
      have hW := hW.to (ss' := [mH mo R, mR cI (mo 1) (stepN G 0), mR cI (mo 3) G, aI cI (mo 4) 7 F, aI cI (mo 6) 4 B, aI cI (mo 7) 4 Z, aJ cJ (mo 8) 160 (bkC G B C j 0)]) rfl
      exact lp22 (40 - 0 + 1) 0 (Nat.lt_succ_self _) (by omega) _ _ hW _ (lv_sub hl [0, 1, 2, 3] rfl)
    · exfalso; omega
  · rw [hnv] at hl
    refine lv_iload_n hx hb dX5_book_6 rfl (lv_at hl 0 rfl) ?_
    refine zz_zeq (tgt := 16) hx hb dX5_book_7 (by decide) (show ((-1000000006) : Int32).toInt = (-1000000006) by decide +kernel) (fun c7_1 => ?_) (fun c7_1 => ?_)
    · exfalso; omega
    · refine lv_aload_n hx hb dX5_book_10 rfl (lv_at hl 1 rfl) ?_
      refine lv_iload_n hx hb dX5_book_11 rfl (lv_at hl 0 rfl) ?_
      refine cl_Vi (As := [.int (-1000000006)]) (rest := []) (C := RX5) ⟨hx, hb, hml, hown, hts⟩ (M_X5_finds l D cI cJ mo R F 5 (by decide) (-1000000006) (by decide +kernel)) (cwV 1 hts gX5_book_X5_finds rfl rfl rfl qX5_finds ⟨Nat.le_of_ble_eq_true rfl, Nat.le_of_ble_eq_true rfl⟩) E0_good hK hA hW trivial [true, false, false, true] (fun _ => [mH mo R, mR cI (mo 1) G, mR cI (mo 3) Wa, aI cI (mo 4) 7 (up F 5 (F 5 + 1)), aI cI (mo 6) 4 B, aI cI (mo 7) 4 Z, aJ cJ (mo 8) 160 C]) rfl (fun _ => rfl) (fun _ => rfl) 0 0 rfl rfl rfl rfl hl.1 rfl (lv_room (Nat.le_of_ble_eq_true rfl)) dX5_book_12 ⟨Nat.zero_le _, Nat.zero_le _⟩ (fun _ H locs _ hW => ?_)
      exact rt_i hQ hx hb hr hlocks hW dX5_book_15 Wa (by (try simp only [bookV]); (repeat' split) <;> first | rfl | (exfalso; omega)) trivial (by (try simp only [bookC, shF]); (repeat' split) <;> first | rfl | (exfalso; omega))
  · rw [hnv] at hl
    refine lv_iload_n hx hb dX5_book_6 rfl (lv_at hl 0 rfl) ?_
    refine zz_zeq (tgt := 16) hx hb dX5_book_7 (by decide) (show ((-1000000001) : Int32).toInt = (-1000000001) by decide +kernel) (fun c7_2 => ?_) (fun c7_2 => ?_)
    · exfalso; omega
    · refine lv_aload_n hx hb dX5_book_10 rfl (lv_at hl 1 rfl) ?_
      refine lv_iload_n hx hb dX5_book_11 rfl (lv_at hl 0 rfl) ?_
      refine cl_Vi (As := [.int (-1000000001)]) (rest := []) (C := RX5) ⟨hx, hb, hml, hown, hts⟩ (M_X5_finds l D cI cJ mo R F 0 (by decide) (-1000000001) (by decide +kernel)) (cwV 1 hts gX5_book_X5_finds rfl rfl rfl qX5_finds ⟨Nat.le_of_ble_eq_true rfl, Nat.le_of_ble_eq_true rfl⟩) E0_good hK hA hW trivial [true, false, false, true] (fun _ => [mH mo R, mR cI (mo 1) G, mR cI (mo 3) Wa, aI cI (mo 4) 7 (up F 0 (F 0 + 1)), aI cI (mo 6) 4 B, aI cI (mo 7) 4 Z, aJ cJ (mo 8) 160 C]) rfl (fun _ => rfl) (fun _ => rfl) 0 0 rfl rfl rfl rfl hl.1 rfl (lv_room (Nat.le_of_ble_eq_true rfl)) dX5_book_12 ⟨Nat.zero_le _, Nat.zero_le _⟩ (fun _ H locs _ hW => ?_)
      exact rt_i hQ hx hb hr hlocks hW dX5_book_15 Wa (by (try simp only [bookV]); (repeat' split) <;> first | rfl | (exfalso; omega)) trivial (by (try simp only [bookC, shF]); (repeat' split) <;> first | rfl | (exfalso; omega))
