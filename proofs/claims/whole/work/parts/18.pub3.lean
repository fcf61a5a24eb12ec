def countV (G : Nat → Nat) (tn : Nat) (z : Int) : Int32 := if z = 0 then nI (G 40) else if z = 1 then nI (G 48) else if z = 2 then nI tn else if z = 3 then nI (flC G) else -1000000001
def countF (F : Nat → Nat) (z : Int) : Nat → Nat := if 0 ≤ z ∧ z ≤ 3 then F else fnd F 0
def statusV (F : Nat → Nat) (z : Int) : Int32 := if -1 ≤ z ∧ z ≤ 6 then (if z < 0 then nI (sumN F 7) else nI (F z.toNat)) else -1000000001
def statusF (F : Nat → Nat) (z : Int) : Nat → Nat := if -1 ≤ z ∧ z ≤ 6 then F else fnd F 0
def statG (F : Nat → Nat) (z : Int) (k : Nat) : Nat := if z < 0 ∨ z = (k : Int) then F k else 0
theorem statG_all {F : Nat → Nat} {z : Int} (h : z < 0) : sumN (statG F z) 7 = sumN F 7 := sumN_cong (fun i _ => if_pos (Or.inl h))
theorem statG_one {F : Nat → Nat} {k : Nat} (h : k < 7) : sumN (statG F (k : Int)) 7 = F k := by
  have e : ∀ i, statG F (k : Int) i = if i = k then F k else 0 := fun i => by
    unfold statG
    by_cases q : i = k
    · subst q; rw [if_pos (Or.inr rfl), if_pos rfl]
    · rw [if_neg (by omega), if_neg q]
  rw [sumN_cong (g := fun i => if i = k then F k else 0) (fun i _ => e i)]
  rcases (show k = 0 ∨ k = 1 ∨ k = 2 ∨ k = 3 ∨ k = 4 ∨ k = 5 ∨ k = 6 by omega) with q | q | q | q | q | q | q <;> subst q <;> simp [sumN]
def undoV (K : Nat → Nat) (ik : Nat) : Int32 := if ik = 0 then -1000000004 else nI (K 40)
def undoG (G K : Nat → Nat) (ik : Nat) : Nat → Nat := if ik = 0 then G else K
def undoF (F : Nat → Nat) (ik : Nat) : Nat → Nat := if ik = 0 then fnd F 3 else F
def byteN (v : Int32) (k : Nat) : Nat := (v >>> (nI (8 * k) &&& 31)).toBitVec.toNat % 256
def fdT (Tp : Nat → Nat) (tn : Nat) (v : Int32) (y : Nat) : Nat → Nat → Nat
  | 0 => Tp
  | i + 1 => up (fdT Tp tn v y i) (tn + i) (byteN v (y - 1 - i))
def feedV (tn : Nat) (z : Int) : Int32 := if 1 ≤ z ∧ z ≤ 4 then (if (tn : Int) + z ≤ 120 then nI (tn + z.toNat) else -1000000002) else -1000000001
def feedT (Tp : Nat → Nat) (tn : Nat) (v : Int32) (z : Int) : Nat → Nat := if 1 ≤ z ∧ z ≤ 4 ∧ (tn : Int) + z ≤ 120 then fdT Tp tn v z.toNat z.toNat else Tp
def feedN (tn : Nat) (z : Int) : Nat := if 1 ≤ z ∧ z ≤ 4 ∧ (tn : Int) + z ≤ 120 then tn + z.toNat else tn
def feedF (F : Nat → Nat) (tn : Nat) (z : Int) : Nat → Nat := if 1 ≤ z ∧ z ≤ 4 then (if (tn : Int) + z ≤ 120 then F else fnd F 1) else fnd F 0
theorem bst_dec {r : Nat} (h : 0 < r) : nI (r - 1) + (-1) = bst (r - 1) := by
  unfold bst
  by_cases q : r - 1 = 0
  · rw [if_pos q, q]; decide +kernel
  · rw [if_neg q, ← pk_m1 (r - 1 - 1), show r - 1 - 1 + 1 = r - 1 by omega]
abbrev rmX5_count : Room := { frames := 2, cells := 0, slots := 0, locals := 44 }
set_option maxRecDepth 100000 in
set_option maxHeartbeats 4000000 in
theorem M_X5_count (l : Launch) (D : va_G) (cI cJ : ClassId) (mo R G F : Nat → Nat) (hG : OkG 99999 G) (v : Int32) : CE E0 l D vwCl [(cI, .int), (cJ, .long)] yX5_count wsX5_count rmX5_count [.ref (mo 0), .int v] [mH mo R, mR cI (mo 1) G, aI cI (mo 4) 7 F] (S := Unit) (some (.int (countV G (R 1) v.toInt))) (fun _ => True) (fun _ : Unit => [mH mo R, mR cI (mo 1) G, aI cI (mo 4) 7 (countF F v.toInt)]) 0 0 := by
  refine CE.ofW (cc := cX5_count) (maxL := 2) (ret := (some .int)) (lv := [(0, .ref (mo 0)), (1, .int v)]) (by decide) rfl (Nat.le_of_ble_eq_true rfl) rfl ?_
  intro p e s m args below meth c ls A Q hQ hx hb hml hr hlocks hnm hown hts hK hA hE hW hl
  have hown : s.vm.findClass RX5 = some m.cls := hown
  obtain ⟨hg0, hg8, hg16, hg16b, hg24, hg32, hg40, hg48⟩ := hG.s
  refine lv_iload_n hx hb dX5_count_0 rfl (lv_at hl 1 rfl) ?_
  rcases (show v.toInt = 0 ∨ v.toInt = 1 ∨ v.toInt = 2 ∨ v.toInt = 3 ∨ (v.toInt < 0 ∨ 3 < v.toInt) by omega) with c1 | c1 | c1 | c1 | c1
  · refine zz_tsI (off := 31) (tgt := 32) hx hb dX5_count_1 (rfl : v.toInt = v.toInt) 0 (by omega) (by omega) rfl (by decide) ?_
    have hlit1 : v = nI 0 := zz_eq.mpr ((show v.toInt = 0 by omega).trans (by decide +kernel))
    rw [hlit1] at hl
    refine lv_aload_n hx hb dX5_count_32 rfl (lv_at hl 0 rfl) ?_
    refine sg_get (ci := 4) (C := RX5) (T := TX5) (N := 15) (v := .ref (mo 1)) hx hb hts (fun _ h => List.mem_cons_of_mem _ (List.mem_append_right _ h)) hown hK hW 0 0 rfl rfl rfl 0 (by decide) (hts _ (List.mem_of_getElem? (i := 1) rfl)) rfl dX5_count_33 ?_
    refine lv_iconst (v := nI 5) hx hb dX5_count_36 (by decide +kernel) ?_
    refine lv_iload_n hx hb dX5_count_37 rfl (lv_at hl 1 rfl) ?_
    refine nn_add hx hb dX5_count_38 ?_
    refine sg_ild (v := nI (G (mk (5 + 0)))) hx hb hK hW 1 0 0 rfl rfl rfl (by omega) (by decide) rfl dX5_count_39 ?_
    exact rt_i hQ hx hb hr hlocks hW dX5_count_40 () (by (try simp only [countV]); (repeat' split) <;> first | rfl | (exfalso; omega)) trivial (by (try simp only [countF]); (repeat' split) <;> first | rfl | (exfalso; omega))
  · refine zz_tsI (off := 31) (tgt := 32) hx hb dX5_count_1 (rfl : v.toInt = v.toInt) 1 (by omega) (by omega) rfl (by decide) ?_
    have hlit1 : v = nI 1 := zz_eq.mpr ((show v.toInt = 1 by omega).trans (by decide +kernel))
    rw [hlit1] at hl
    refine lv_aload_n hx hb dX5_count_32 rfl (lv_at hl 0 rfl) ?_
    refine sg_get (ci := 4) (C := RX5) (T := TX5) (N := 15) (v := .ref (mo 1)) hx hb hts (fun _ h => List.mem_cons_of_mem _ (List.mem_append_right _ h)) hown hK hW 0 0 rfl rfl rfl 0 (by decide) (hts _ (List.mem_of_getElem? (i := 1) rfl)) rfl dX5_count_33 ?_
    refine lv_iconst (v := nI 5) hx hb dX5_count_36 (by decide +kernel) ?_
    refine lv_iload_n hx hb dX5_count_37 rfl (lv_at hl 1 rfl) ?_
    refine nn_add hx hb dX5_count_38 ?_
    refine sg_ild (v := nI (G (mk (5 + 1)))) hx hb hK hW 1 0 0 rfl rfl rfl (by omega) (by decide) rfl dX5_count_39 ?_
    exact rt_i hQ hx hb hr hlocks hW dX5_count_40 () (by (try simp only [countV]); (repeat' split) <;> first | rfl | (exfalso; omega)) trivial (by (try simp only [countF]); (repeat' split) <;> first | rfl | (exfalso; omega))
  · refine zz_tsI (off := 40) (tgt := 41) hx hb dX5_count_1 (rfl : v.toInt = v.toInt) 2 (by omega) (by omega) rfl (by decide) ?_
    refine lv_aload_n hx hb dX5_count_41 rfl (lv_at hl 0 rfl) ?_
    refine sg_get (ci := 4) (C := RX5) (T := TX5) (N := 15) (v := .int (nI (R 1))) hx hb hts (fun _ h => List.mem_cons_of_mem _ (List.mem_append_right _ h)) hown hK hW 0 0 rfl rfl rfl 6 (by decide) (hts _ (List.mem_of_getElem? (i := 2) rfl)) rfl dX5_count_42 ?_
    exact rt_i hQ hx hb hr hlocks hW dX5_count_45 () (by (try simp only [countV]); (repeat' split) <;> first | rfl | (exfalso; omega)) trivial (by (try simp only [countF]); (repeat' split) <;> first | rfl | (exfalso; omega))
  · refine zz_tsI (off := 45) (tgt := 46) hx hb dX5_count_1 (rfl : v.toInt = v.toInt) 3 (by omega) (by omega) rfl (by decide) ?_
    refine lv_aload_n hx hb dX5_count_46 rfl (lv_at hl 0 rfl) ?_
    refine cl_Vi (As := []) (rest := []) (C := RX5) ⟨hx, hb, hml, hown, hts⟩ (M_X5_allFlung l D cI cJ mo R G 99999 (by decide) hG ) (cwV 0 hts gX5_count_X5_allFlung rfl rfl rfl qX5_allFlung ⟨Nat.le_of_ble_eq_true rfl, Nat.le_of_ble_eq_true rfl⟩) E0_good hK hA hW trivial [true, true] (fun _ => [mH mo R, mR cI (mo 1) G, aI cI (mo 4) 7 F]) rfl (fun _ => rfl) (fun _ => rfl) 0 0 rfl rfl rfl rfl hl.1 rfl (lv_room (Nat.le_of_ble_eq_true rfl)) dX5_count_47 ⟨Nat.zero_le _, Nat.zero_le _⟩ (fun _ H locs _ hW => ?_)
    exact rt_i hQ hx hb hr hlocks hW dX5_count_50 () (by (try simp only [countV]); (repeat' split) <;> first | rfl | (exfalso; omega)) trivial (by (try simp only [countF]); (repeat' split) <;> first | rfl | (exfalso; omega))
  · refine zz_tsO (tgt := 51) hx hb dX5_count_1 (rfl : v.toInt = v.toInt) (by omega) (by decide) ?_
    refine lv_aload_n hx hb dX5_count_51 rfl (lv_at hl 0 rfl) ?_
    refine lv_ldc (v := -1000000001) hx hb hown (hts _ (List.mem_of_getElem? (i := 3) rfl)) dX5_count_52 ?_
    refine cl_Vi (As := [.int (-1000000001)]) (rest := []) (C := RX5) ⟨hx, hb, hml, hown, hts⟩ (M_X5_finds l D cI cJ mo R F 0 (by decide) (-1000000001) (by decide +kernel)) (cwV 1 hts gX5_count_X5_finds rfl rfl rfl qX5_finds ⟨Nat.le_of_ble_eq_true rfl, Nat.le_of_ble_eq_true rfl⟩) E0_good hK hA hW trivial [true, false, true] (fun _ => [mH mo R, mR cI (mo 1) G, aI cI (mo 4) 7 (up F 0 (F 0 + 1))]) rfl (fun _ => rfl) (fun _ => rfl) 0 0 rfl rfl rfl rfl hl.1 rfl (lv_room (Nat.le_of_ble_eq_true rfl)) dX5_count_54 ⟨Nat.zero_le _, Nat.zero_le _⟩ (fun _ H locs _ hW => ?_)
    exact rt_i hQ hx hb hr hlocks hW dX5_count_57 () (by (try simp only [countV]); (repeat' split) <;> first | rfl | (exfalso; omega)) trivial (by (try simp only [countF]); (repeat' split) <;> first | rfl | (exfalso; omega))
abbrev rmX5_status : Room := { frames := 1, cells := 0, slots := 0, locals := 23 }
set_option maxRecDepth 100000 in
set_option maxHeartbeats 4000000 in
theorem M_X5_status (l : Launch) (D : va_G) (cI cJ : ClassId) (mo R F : Nat → Nat) (v : Int32) : CE E0 l D vwCl [(cI, .int), (cJ, .long)] yX5_status wsX5_status rmX5_status [.ref (mo 0), .int v] [mH mo R, aI cI (mo 4) 7 F] (S := Unit) (some (.int (statusV F v.toInt))) (fun _ => True) (fun _ : Unit => [mH mo R, aI cI (mo 4) 7 (statusF F v.toInt)]) 0 0 := by
  refine CE.ofW (cc := cX5_status) (maxL := 4) (ret := (some .int)) (lv := [(0, .ref (mo 0)), (1, .int v)]) (by decide) rfl (Nat.le_of_ble_eq_true rfl) rfl ?_
  intro p e s m args below meth c ls A Q hQ hx hb hml hr hlocks hnm hown hts hK hA hE hW hl
  have hown : s.vm.findClass RX5 = some m.cls := hown
  refine lv_iload_n hx hb dX5_status_0 rfl (lv_at hl 1 rfl) ?_
  refine lv_i2l (v := (v).toInt64) hx hb dX5_status_1 rfl ?_
  refine lv_iconst (v := -1) hx hb dX5_status_2 (by decide +kernel) ?_
  refine lv_bipush (v := nI 6) hx hb dX5_status_3 (by decide +kernel) ?_
  refine cl_Si (As := [.long ((v).toInt64), .int (-1), .int (nI 6)]) (rest := []) ⟨hx, hb, hml, hown, hts⟩ (M_X5_in2 l D cI cJ ((v).toInt64) (-1) (nI 6) v.toInt (-1) ((6 : Nat) : Int) ((Int32.toInt_toInt64 _).trans rfl) (show (-1 : Int32).toInt = -1 by decide +kernel) (nI_toInt (n := 6) (by decide))) (va_cwS 3 hts gX5_status_X5_in rfl rfl rfl qX5_in ⟨Nat.le_of_ble_eq_true rfl, Nat.le_of_ble_eq_true rfl⟩) E0_good hK hA hW trivial [] (fun _ => [mH mo R, aI cI (mo 4) 7 F]) rfl (fun _ => rfl) (fun _ => rfl) rfl hl.1 rfl (lv_room (Nat.le_of_ble_eq_true rfl)) dX5_status_5 ⟨Nat.zero_le _, Nat.zero_le _⟩ (fun _ H locs _ hW => ?_)
  have hin_ := inZ_or v.toInt (-1) ((6 : Nat) : Int)
  refine nn_zne (tgt := 18) hx hb dX5_status_8 (by decide) (by omega) (fun c8 => ?_) (fun c8 => ?_)
  · refine lv_iconst (v := nI 0) hx hb dX5_status_18 (by decide +kernel) ?_
    refine lv_istore_n (lv' := [(2, .int (nI 0)), (0, .ref (mo 0)), (1, .int v)]) hx hb dX5_status_19 rfl hl (by decide) rfl (fun ls hl => ?_)
    refine lv_iconst (v := nI 0) hx hb dX5_status_20 (by decide +kernel) ?_
    refine lv_istore_n (lv' := [(3, .int (nI 0)), (2, .int (nI 0)), (0, .ref (mo 0)), (1, .int v)]) hx hb dX5_status_21 rfl hl (by decide) rfl (fun ls hl => ?_)
    have lp22 : ∀ (n : Nat) (k : Nat), 7 - k < n → k ≤ 7 → ∀ (H : Heap) (locs : List Loc), Wo D vwCl A s.heap H locs [mH mo R, aI cI (mo 4) 7 F] → ∀ ls : Array Slot, lv_has ls 4 [(3, .int (nI k)), (2, .int (nI (sumN (statG F v.toInt) k))), (0, .ref (mo 0)), (1, .int v)] → W p l e rmX5_status s m args below meth c H locs 0 0 Q (F0 m 22 ls []) := by
      intro n
      induction n with
      | zero => intro k hm; exact absurd hm (Nat.not_lt_zero _)
      | succ n ih =>
        intro k hm hi H locs hW ls hl
        refine lv_iload_n hx hb dX5_status_22 rfl (lv_at hl 0 rfl) ?_
        refine lv_bipush (v := nI 7) hx hb dX5_status_23 (by decide +kernel) ?_
        refine nn_cge (tgt := 56) hx hb dX5_status_25 (by decide) (by omega) (by decide) (fun c25 => ?_) (fun c25 => ?_)
        · refine lv_iload_n hx hb dX5_status_56 rfl (lv_at hl 1 rfl) ?_
          have hk7 : k = 7 := by omega
          subst hk7
          have hfin : (if v.toInt < 0 then nI (sumN F 7) else nI (F v.toInt.toNat)) = nI (sumN (statG F v.toInt) 7) := by
            by_cases q : v.toInt < 0
            · rw [if_pos q, statG_all q]
            · have q2 := statG_one (F := F) (k := v.toInt.toNat) (by omega); rw [if_neg q]; rw [show ((v.toInt.toNat : Nat) : Int) = v.toInt by omega] at q2; rw [q2]
          exact rt_i hQ hx hb hr hlocks hW dX5_status_57 () (by unfold statusV; rw [if_pos (by omega), hfin]) trivial (by unfold statusF; rw [if_pos (by omega)])
        · refine lv_iload_n hx hb dX5_status_28 rfl (lv_at hl 1 rfl) ?_
          refine lv_iload_n hx hb dX5_status_29 rfl (lv_at hl 3 rfl) ?_
          refine zz_zlt (tgt := 38) hx hb dX5_status_30 (by decide) (rfl : v.toInt = v.toInt) (fun c30 => ?_) (fun c30 => ?_)
          · refine lv_aload_n hx hb dX5_status_38 rfl (lv_at hl 2 rfl) ?_
            refine sg_get (ci := 4) (C := RX5) (T := TX5) (N := 15) (v := .ref (mo 4)) hx hb hts (fun _ h => List.mem_cons_of_mem _ (List.mem_append_right _ h)) hown hK hW 0 0 rfl rfl rfl 4 (by decide) (hts _ (List.mem_of_getElem? (i := 2) rfl)) rfl dX5_status_39 ?_
            refine lv_iload_n hx hb dX5_status_42 rfl (lv_at hl 0 rfl) ?_
            refine sg_ild (v := nI (F k)) hx hb hK hW 1 0 0 rfl rfl rfl (by omega) (by decide) rfl dX5_status_43 ?_
            refine lv_goto (tgt := 48) hx hb dX5_status_44 (by decide) ?_
            refine nn_add hx hb dX5_status_48 ?_
            refine lv_istore_n (lv' := [(2, .int (nI ((sumN (statG F v.toInt) k) + (F k)))), (3, .int (nI k)), (0, .ref (mo 0)), (1, .int v)]) hx hb dX5_status_49 rfl hl (by decide) rfl (fun ls hl => ?_)
            refine lv_iinc (v := nI (k + 1)) (lv' := [(3, .int (nI (k + 1))), (2, .int (nI ((sumN (statG F v.toInt) k) + (F k)))), (0, .ref (mo 0)), (1, .int v)]) hx hb dX5_status_50 hl (k := 1) rfl (nI_add _ 1) (by decide) rfl (fun ls hl => ?_)
            refine lv_goto (tgt := 22) hx hb dX5_status_53 (by decide) ?_
            have e1 : nI ((sumN (statG F v.toInt) k) + (F k)) = nI (sumN (statG F v.toInt) (k + 1)) := (by show nI (sumN (statG F v.toInt) k + F k) = nI (sumN (statG F v.toInt) k + statG F v.toInt k); rw [show statG F v.toInt k = F k from if_pos (by omega)])
            rw [e1] at hl
            exact ih (k + 1) (by omega) (by omega) _ _ hW _ (lv_sub hl [0, 1, 2, 3] rfl)
          · refine lv_iload_n hx hb dX5_status_33 rfl (lv_at hl 3 rfl) ?_
            refine lv_iload_n hx hb dX5_status_34 rfl (lv_at hl 0 rfl) ?_
            refine zz_cne (tgt := 47) hx hb dX5_status_35 (by decide) (rfl : v.toInt = v.toInt) (nI_toInt (n := k) (by omega)) (fun c35 => ?_) (fun c35 => ?_)
            · refine lv_iconst (v := nI 0) hx hb dX5_status_47 (by decide +kernel) ?_
              refine nn_add hx hb dX5_status_48 ?_
              refine lv_istore_n (lv' := [(2, .int (nI ((sumN (statG F v.toInt) k) + 0))), (3, .int (nI k)), (0, .ref (mo 0)), (1, .int v)]) hx hb dX5_status_49 rfl hl (by decide) rfl (fun ls hl => ?_)
              refine lv_iinc (v := nI (k + 1)) (lv' := [(3, .int (nI (k + 1))), (2, .int (nI ((sumN (statG F v.toInt) k) + 0))), (0, .ref (mo 0)), (1, .int v)]) hx hb dX5_status_50 hl (k := 1) rfl (nI_add _ 1) (by decide) rfl (fun ls hl => ?_)
              refine lv_goto (tgt := 22) hx hb dX5_status_53 (by decide) ?_
              have e2 : nI ((sumN (statG F v.toInt) k) + 0) = nI (sumN (statG F v.toInt) (k + 1)) := (by show nI (sumN (statG F v.toInt) k + 0) = nI (sumN (statG F v.toInt) k + statG F v.toInt k); rw [show statG F v.toInt k = 0 from if_neg (by omega)])
              rw [e2] at hl
              exact ih (k + 1) (by omega) (by omega) _ _ hW _ (lv_sub hl [0, 1, 2, 3] rfl)
            · refine lv_aload_n hx hb dX5_status_38 rfl (lv_at hl 2 rfl) ?_
              refine sg_get (ci := 4) (C := RX5) (T := TX5) (N := 15) (v := .ref (mo 4)) hx hb hts (fun _ h => List.mem_cons_of_mem _ (List.mem_append_right _ h)) hown hK hW 0 0 rfl rfl rfl 4 (by decide) (hts _ (List.mem_of_getElem? (i := 2) rfl)) rfl dX5_status_39 ?_
              refine lv_iload_n hx hb dX5_status_42 rfl (lv_at hl 0 rfl) ?_
              refine sg_ild (v := nI (F k)) hx hb hK hW 1 0 0 rfl rfl rfl (by omega) (by decide) rfl dX5_status_43 ?_
              refine lv_goto (tgt := 48) hx hb dX5_status_44 (by decide) ?_
              refine nn_add hx hb dX5_status_48 ?_
              refine lv_istore_n (lv' := [(2, .int (nI ((sumN (statG F v.toInt) k) + (F k)))), (3, .int (nI k)), (0, .ref (mo 0)), (1, .int v)]) hx hb dX5_status_49 rfl hl (by decide) rfl (fun ls hl => ?_)
              refine lv_iinc (v := nI (k + 1)) (lv' := [(3, .int (nI (k + 1))), (2, .int (nI ((sumN (statG F v.toInt) k) + (F k)))), (0, .ref (mo 0)), (1, .int v)]) hx hb dX5_status_50 hl (k := 1) rfl (nI_add _ 1) (by decide) rfl (fun ls hl => ?_)
              refine lv_goto (tgt := 22) hx hb dX5_status_53 (by decide) ?_
              have e3 : nI ((sumN (statG F v.toInt) k) + (F k)) = nI (sumN (statG F v.toInt) (k + 1)) := (by show nI (sumN (statG F v.toInt) k + F k) = nI (sumN (statG F v.toInt) k + statG F v.toInt k); rw [show statG F v.toInt k = F k from if_pos (by omega)])
              rw [e3] at hl
              exact ih (k + 1) (by omega) (by omega) _ _ hW _ (lv_sub hl [0, 1, 2, 3] rfl)
    exact lp22 (7 - 0 + 1) 0 (Nat.lt_succ_self _) (by omega) _ _ hW _ (lv_sub hl [0, 1, 2, 3] rfl)
  · refine lv_aload_n hx hb dX5_status_11 rfl (lv_at hl 0 rfl) ?_
    refine lv_ldc (v := -1000000001) hx hb hown (hts _ (List.mem_of_getElem? (i := 1) rfl)) dX5_status_12 ?_
    refine cl_Vi (As := [.int (-1000000001)]) (rest := []) (C := RX5) ⟨hx, hb, hml, hown, hts⟩ (M_X5_finds l D cI cJ mo R F 0 (by decide) (-1000000001) (by decide +kernel)) (cwV 1 hts gX5_status_X5_finds rfl rfl rfl qX5_finds ⟨Nat.le_of_ble_eq_true rfl, Nat.le_of_ble_eq_true rfl⟩) E0_good hK hA hW trivial [true, true] (fun _ => [mH mo R, aI cI (mo 4) 7 (up F 0 (F 0 + 1))]) rfl (fun _ => rfl) (fun _ => rfl) 0 0 rfl rfl rfl rfl hl.1 rfl (lv_room (Nat.le_of_ble_eq_true rfl)) dX5_status_14 ⟨Nat.zero_le _, Nat.zero_le _⟩ (fun _ H locs _ hW => ?_)
    exact rt_i hQ hx hb hr hlocks hW dX5_status_17 () (by (try simp only [statusV]); (repeat' split) <;> first | rfl | (exfalso; omega)) trivial (by (try simp only [statusF]); (repeat' split) <;> first | rfl | (exfalso; omega))
abbrev rmX5_image : Room := { frames := 1, cells := 0, slots := 0, locals := 22 }
set_option maxRecDepth 100000 in
set_option maxHeartbeats 4000000 in
theorem M_X5_image (l : Launch) (D : va_G) (cI cJ : ClassId) (mo R G K : Nat → Nat) : CE E0 l D vwCl [(cI, .int), (cJ, .long)] yX5_image wsX5_image rmX5_image [.ref (mo 0)] [mH mo R, mR cI (mo 1) G, mR cI (mo 2) K] (S := Unit) (some (.int (nI 1))) (fun _ => True) (fun _ : Unit => [mH mo (up R 0 1), mR cI (mo 1) G, mR cI (mo 2) G]) 0 0 := by
  refine CE.ofW (cc := cX5_image) (maxL := 1) (ret := (some .int)) (lv := [(0, .ref (mo 0))]) (by decide) rfl (Nat.le_of_ble_eq_true rfl) rfl ?_
  intro p e s m args below meth c ls A Q hQ hx hb hml hr hlocks hnm hown hts hK hA hE hW hl
  have hown : s.vm.findClass RX5 = some m.cls := hown
  refine lv_aload_n hx hb dX5_image_0 rfl (lv_at hl 0 rfl) ?_
  refine sg_get (ci := 4) (C := RX5) (T := TX5) (N := 15) (v := .ref (mo 1)) hx hb hts (fun _ h => List.mem_cons_of_mem _ (List.mem_append_right _ h)) hown hK hW 0 0 rfl rfl rfl 0 (by decide) (hts _ (List.mem_of_getElem? (i := 1) rfl)) rfl dX5_image_1 ?_
  refine lv_aload_n hx hb dX5_image_4 rfl (lv_at hl 0 rfl) ?_
  refine sg_get (ci := 4) (C := RX5) (T := TX5) (N := 15) (v := .ref (mo 2)) hx hb hts (fun _ h => List.mem_cons_of_mem _ (List.mem_append_right _ h)) hown hK hW 0 0 rfl rfl rfl 1 (by decide) (hts _ (List.mem_of_getElem? (i := 2) rfl)) rfl dX5_image_5 ?_
  refine cl_Sv (As := [.ref (mo 1), .ref (mo 2)]) (rest := []) ⟨hx, hb, hml, hown, hts⟩ (M_X5_copyAll l D cI cJ (mo 1) (mo 2) (fun k => G (mk k)) (fun k => K (mk k))) (va_cwS 2 hts gX5_image_X5_copyAll rfl rfl rfl qX5_copyAll ⟨Nat.le_of_ble_eq_true rfl, Nat.le_of_ble_eq_true rfl⟩) E0_good hK hA hW trivial [false, true, true] (fun _ => [mH mo R, mR cI (mo 1) G, mR cI (mo 2) G]) rfl (fun _ => rfl) (fun _ => rfl) rfl hl.1 rfl (lv_room (Nat.le_of_ble_eq_true rfl)) dX5_image_8 ⟨Nat.zero_le _, Nat.zero_le _⟩ (fun _ H locs _ hW => ?_)
  refine lv_aload_n hx hb dX5_image_11 rfl (lv_at hl 0 rfl) ?_
  refine lv_iconst (v := nI 1) hx hb dX5_image_12 (by decide +kernel) ?_
  refine sg_put (ci := 4) (C := RX5) (T := TX5) (N := 15) hx hb hts (fun _ h => List.mem_cons_of_mem _ (List.mem_append_right _ h)) tyX5 tyX5_ok nmX5 hown hK hW 0 0 rfl rfl rfl 3 (by decide) (hts _ (List.mem_of_getElem? (i := 3) rfl)) rfl (by decide +kernel) (by decide +kernel) (Nat.le_of_ble_eq_true rfl) (mH_s0 mo R 1) (ss' := [mH mo (up R 0 1), mR cI (mo 1) G, mR cI (mo 2) G]) rfl dX5_image_13 (fun H locs hW => ?_)
  refine lv_iconst (v := nI 1) hx hb dX5_image_16 (by decide +kernel) ?_
  exact rt_i hQ hx hb hr hlocks hW dX5_image_17 () rfl trivial rfl
abbrev rmX5_undo : Room := { frames := 1, cells := 0, slots := 0, locals := 22 }
set_option maxRecDepth 100000 in
set_option maxHeartbeats 4000000 in
theorem M_X5_undo (l : Launch) (D : va_G) (cI cJ : ClassId) (mo R G K F : Nat → Nat) (hr0 : R 0 ≤ 1) : CE E0 l D vwCl [(cI, .int), (cJ, .long)] yX5_undo wsX5_undo rmX5_undo [.ref (mo 0)] [mH mo R, mR cI (mo 1) G, mR cI (mo 2) K, aI cI (mo 4) 7 F] (S := Unit) (some (.int (undoV K (R 0)))) (fun _ => True) (fun _ : Unit => [mH mo R, mR cI (mo 1) (undoG G K (R 0)), mR cI (mo 2) K, aI cI (mo 4) 7 (undoF F (R 0))]) 0 0 := by
  refine CE.ofW (cc := cX5_undo) (maxL := 1) (ret := (some .int)) (lv := [(0, .ref (mo 0))]) (by decide) rfl (Nat.le_of_ble_eq_true rfl) rfl ?_
  intro p e s m args below meth c ls A Q hQ hx hb hml hr hlocks hnm hown hts hK hA hE hW hl
  have hown : s.vm.findClass RX5 = some m.cls := hown
  refine lv_aload_n hx hb dX5_undo_0 rfl (lv_at hl 0 rfl) ?_
  refine sg_get (ci := 4) (C := RX5) (T := TX5) (N := 15) (v := .int (nI (R 0))) hx hb hts (fun _ h => List.mem_cons_of_mem _ (List.mem_append_right _ h)) hown hK hW 0 0 rfl rfl rfl 3 (by decide) (hts _ (List.mem_of_getElem? (i := 1) rfl)) rfl dX5_undo_1 ?_
  refine nn_zne (tgt := 14) hx hb dX5_undo_4 (by decide) (by omega) (fun c4 => ?_) (fun c4 => ?_)
  · refine lv_aload_n hx hb dX5_undo_14 rfl (lv_at hl 0 rfl) ?_
    refine sg_get (ci := 4) (C := RX5) (T := TX5) (N := 15) (v := .ref (mo 2)) hx hb hts (fun _ h => List.mem_cons_of_mem _ (List.mem_append_right _ h)) hown hK hW 0 0 rfl rfl rfl 1 (by decide) (hts _ (List.mem_of_getElem? (i := 3) rfl)) rfl dX5_undo_15 ?_
    refine lv_aload_n hx hb dX5_undo_18 rfl (lv_at hl 0 rfl) ?_
    refine sg_get (ci := 4) (C := RX5) (T := TX5) (N := 15) (v := .ref (mo 1)) hx hb hts (fun _ h => List.mem_cons_of_mem _ (List.mem_append_right _ h)) hown hK hW 0 0 rfl rfl rfl 0 (by decide) (hts _ (List.mem_of_getElem? (i := 4) rfl)) rfl dX5_undo_19 ?_
    refine cl_Sv (As := [.ref (mo 2), .ref (mo 1)]) (rest := []) ⟨hx, hb, hml, hown, hts⟩ (M_X5_copyAll2 l D cI cJ (mo 2) (mo 1) (fun k => K (mk k)) (fun k => G (mk k))) (va_cwS 2 hts gX5_undo_X5_copyAll rfl rfl rfl qX5_copyAll ⟨Nat.le_of_ble_eq_true rfl, Nat.le_of_ble_eq_true rfl⟩) E0_good hK hA hW trivial [false, true, true] (fun _ => [mH mo R, mR cI (mo 1) K, mR cI (mo 2) K, aI cI (mo 4) 7 F]) rfl (fun _ => rfl) (fun _ => rfl) rfl hl.1 rfl (lv_room (Nat.le_of_ble_eq_true rfl)) dX5_undo_22 ⟨Nat.zero_le _, Nat.zero_le _⟩ (fun _ H locs _ hW => ?_)
    refine lv_aload_n hx hb dX5_undo_25 rfl (lv_at hl 0 rfl) ?_
    refine sg_get (ci := 4) (C := RX5) (T := TX5) (N := 15) (v := .ref (mo 1)) hx hb hts (fun _ h => List.mem_cons_of_mem _ (List.mem_append_right _ h)) hown hK hW 0 0 rfl rfl rfl 0 (by decide) (hts _ (List.mem_of_getElem? (i := 4) rfl)) rfl dX5_undo_26 ?_
    refine lv_iconst (v := nI 5) hx hb dX5_undo_29 (by decide +kernel) ?_
    refine sg_ild (v := nI (K 40)) hx hb hK hW 1 0 0 rfl rfl rfl (by decide) (by decide) rfl dX5_undo_30 ?_
    exact rt_i hQ hx hb hr hlocks hW dX5_undo_31 () (by (try simp only [undoV]); (repeat' split) <;> first | rfl | (exfalso; omega)) trivial (by (try simp only [undoG, undoF]); (repeat' split) <;> first | rfl | (exfalso; omega))
  · refine lv_aload_n hx hb dX5_undo_7 rfl (lv_at hl 0 rfl) ?_
    refine lv_ldc (v := -1000000004) hx hb hown (hts _ (List.mem_of_getElem? (i := 2) rfl)) dX5_undo_8 ?_
    refine cl_Vi (As := [.int (-1000000004)]) (rest := []) (C := RX5) ⟨hx, hb, hml, hown, hts⟩ (M_X5_finds l D cI cJ mo R F 3 (by decide) (-1000000004) (by decide +kernel)) (cwV 1 hts gX5_undo_X5_finds rfl rfl rfl qX5_finds ⟨Nat.le_of_ble_eq_true rfl, Nat.le_of_ble_eq_true rfl⟩) E0_good hK hA hW trivial [true, false, false, true] (fun _ => [mH mo R, mR cI (mo 1) G, mR cI (mo 2) K, aI cI (mo 4) 7 (up F 3 (F 3 + 1))]) rfl (fun _ => rfl) (fun _ => rfl) 0 0 rfl rfl rfl rfl hl.1 rfl (lv_room (Nat.le_of_ble_eq_true rfl)) dX5_undo_10 ⟨Nat.zero_le _, Nat.zero_le _⟩ (fun _ H locs _ hW => ?_)
    exact rt_i hQ hx hb hr hlocks hW dX5_undo_13 () (by (try simp only [undoV]); (repeat' split) <;> first | rfl | (exfalso; omega)) trivial (by (try simp only [undoG, undoF]); (repeat' split) <;> first | rfl | (exfalso; omega))
abbrev rmX5_tear : Room := { frames := 0, cells := 0, slots := 0, locals := 0 }
set_option maxRecDepth 100000 in
set_option maxHeartbeats 4000000 in
theorem M_X5_tear (l : Launch) (D : va_G) (cI cJ : ClassId) (mo R : Nat → Nat) (hr0 : R 0 ≤ 1) : CE E0 l D vwCl [(cI, .int), (cJ, .long)] yX5_tear wsX5_tear rmX5_tear [.ref (mo 0)] [mH mo R] (S := Unit) (some (.int (nI (R 0)))) (fun _ => True) (fun _ : Unit => [mH mo (up R 0 0)]) 0 0 := by
  refine CE.ofW (cc := cX5_tear) (maxL := 2) (ret := (some .int)) (lv := [(0, .ref (mo 0))]) (by decide) rfl (Nat.le_of_ble_eq_true rfl) rfl ?_
  intro p e s m args below meth c ls A Q hQ hx hb hml hr hlocks hnm hown hts hK hA hE hW hl
  have hown : s.vm.findClass RX5 = some m.cls := hown
  refine lv_aload_n hx hb dX5_tear_0 rfl (lv_at hl 0 rfl) ?_
  refine sg_get (ci := 4) (C := RX5) (T := TX5) (N := 15) (v := .int (nI (R 0))) hx hb hts (fun _ h => List.mem_cons_of_mem _ (List.mem_append_right _ h)) hown hK hW 0 0 rfl rfl rfl 3 (by decide) (hts _ (List.mem_of_getElem? (i := 1) rfl)) rfl dX5_tear_1 ?_
  refine nn_zeq (tgt := 11) hx hb dX5_tear_4 (by decide) (by omega) (fun c4 => ?_) (fun c4 => ?_)
  · refine lv_iconst (v := nI 0) hx hb dX5_tear_11 (by decide +kernel) ?_
    refine lv_istore_n (lv' := [(1, .int (nI 0)), (0, .ref (mo 0))]) hx hb dX5_tear_12 rfl hl (by decide) rfl (fun ls hl => ?_)
    refine lv_aload_n hx hb dX5_tear_13 rfl (lv_at hl 1 rfl) ?_
    refine lv_iconst (v := nI 0) hx hb dX5_tear_14 (by decide +kernel) ?_
    refine sg_put (ci := 4) (C := RX5) (T := TX5) (N := 15) hx hb hts (fun _ h => List.mem_cons_of_mem _ (List.mem_append_right _ h)) tyX5 tyX5_ok nmX5 hown hK hW 0 0 rfl rfl rfl 3 (by decide) (hts _ (List.mem_of_getElem? (i := 1) rfl)) rfl (by decide +kernel) (by decide +kernel) (Nat.le_of_ble_eq_true rfl) (mH_s0 mo R 0) (ss' := [mH mo (up R 0 0)]) rfl dX5_tear_15 (fun H locs hW => ?_)
    refine lv_iload_n hx hb dX5_tear_18 rfl (lv_at hl 0 rfl) ?_
    exact rt_i hQ hx hb hr hlocks hW dX5_tear_19 () (congrArg (fun z => some (Value.int (nI z))) (by omega)) trivial rfl
  · refine lv_iconst (v := nI 1) hx hb dX5_tear_7 (by decide +kernel) ?_
    refine lv_goto (tgt := 12) hx hb dX5_tear_8 (by decide) ?_
    refine lv_istore_n (lv' := [(1, .int (nI 1)), (0, .ref (mo 0))]) hx hb dX5_tear_12 rfl hl (by decide) rfl (fun ls hl => ?_)
    refine lv_aload_n hx hb dX5_tear_13 rfl (lv_at hl 1 rfl) ?_
    refine lv_iconst (v := nI 0) hx hb dX5_tear_14 (by decide +kernel) ?_
    refine sg_put (ci := 4) (C := RX5) (T := TX5) (N := 15) hx hb hts (fun _ h => List.mem_cons_of_mem _ (List.mem_append_right _ h)) tyX5 tyX5_ok nmX5 hown hK hW 0 0 rfl rfl rfl 3 (by decide) (hts _ (List.mem_of_getElem? (i := 1) rfl)) rfl (by decide +kernel) (by decide +kernel) (Nat.le_of_ble_eq_true rfl) (mH_s0 mo R 0) (ss' := [mH mo (up R 0 0)]) rfl dX5_tear_15 (fun H locs hW => ?_)
    refine lv_iload_n hx hb dX5_tear_18 rfl (lv_at hl 0 rfl) ?_
    exact rt_i hQ hx hb hr hlocks hW dX5_tear_19 () (congrArg (fun z => some (Value.int (nI z))) (by omega)) trivial rfl
abbrev rmX5_wipe : Room := { frames := 0, cells := 0, slots := 0, locals := 0 }
set_option maxRecDepth 100000 in
set_option maxHeartbeats 4000000 in
theorem M_X5_wipe (l : Launch) (D : va_G) (cI cJ : ClassId) (mo R : Nat → Nat) : CE E0 l D vwCl [(cI, .int), (cJ, .long)] yX5_wipe wsX5_wipe rmX5_wipe [.ref (mo 0)] [mH mo R] (S := Unit) (some (.int (nI (R 1)))) (fun _ => True) (fun _ : Unit => [mH mo (up R 1 0)]) 0 0 := by
  refine CE.ofW (cc := cX5_wipe) (maxL := 2) (ret := (some .int)) (lv := [(0, .ref (mo 0))]) (by decide) rfl (Nat.le_of_ble_eq_true rfl) rfl ?_
  intro p e s m args below meth c ls A Q hQ hx hb hml hr hlocks hnm hown hts hK hA hE hW hl
  have hown : s.vm.findClass RX5 = some m.cls := hown
  refine lv_aload_n hx hb dX5_wipe_0 rfl (lv_at hl 0 rfl) ?_
  refine sg_get (ci := 4) (C := RX5) (T := TX5) (N := 15) (v := .int (nI (R 1))) hx hb hts (fun _ h => List.mem_cons_of_mem _ (List.mem_append_right _ h)) hown hK hW 0 0 rfl rfl rfl 6 (by decide) (hts _ (List.mem_of_getElem? (i := 1) rfl)) rfl dX5_wipe_1 ?_
  refine lv_istore_n (lv' := [(1, .int (nI (R 1))), (0, .ref (mo 0))]) hx hb dX5_wipe_4 rfl hl (by decide) rfl (fun ls hl => ?_)
  refine lv_aload_n hx hb dX5_wipe_5 rfl (lv_at hl 1 rfl) ?_
  refine lv_iconst (v := nI 0) hx hb dX5_wipe_6 (by decide +kernel) ?_
  refine sg_put (ci := 4) (C := RX5) (T := TX5) (N := 15) hx hb hts (fun _ h => List.mem_cons_of_mem _ (List.mem_append_right _ h)) tyX5 tyX5_ok nmX5 hown hK hW 0 0 rfl rfl rfl 6 (by decide) (hts _ (List.mem_of_getElem? (i := 1) rfl)) rfl (by decide +kernel) (by decide +kernel) (Nat.le_of_ble_eq_true rfl) (mH_s1 mo R 0) (ss' := [mH mo (up R 1 0)]) rfl dX5_wipe_7 (fun H locs hW => ?_)
  refine lv_iload_n hx hb dX5_wipe_10 rfl (lv_at hl 0 rfl) ?_
  exact rt_i hQ hx hb hr hlocks hW dX5_wipe_11 () rfl trivial rfl
theorem up_up (f : Nat → Nat) (k v w : Nat) : up (up f k v) k w = up f k w := by
  funext j
  unfold up
  by_cases h : j = k
  · rw [if_pos h, if_pos h]
  · rw [if_neg h, if_neg h, if_neg h]
theorem byte_and (x : Int32) : x &&& nI 255 = nI (x.toBitVec.toNat % 256) := pk_and x 8 (by decide +kernel)
abbrev rmX5_feed : Room := { frames := 1, cells := 0, slots := 0, locals := 23 }
set_option maxRecDepth 100000 in
set_option maxHeartbeats 4000000 in
theorem M_X5_feed (l : Launch) (D : va_G) (cI cJ : ClassId) (mo R F Tp : Nat → Nat) (hr1 : R 1 ≤ 120) (v z : Int32) : CE E0 l D vwCl [(cI, .int), (cJ, .long)] yX5_feed wsX5_feed rmX5_feed [.ref (mo 0), .int v, .int z] [mH mo R, aI cI (mo 4) 7 F, aI cI (mo 5) 120 Tp] (S := Unit) (some (.int (feedV (R 1) z.toInt))) (fun _ => True) (fun _ : Unit => [mH mo (up R 1 (feedN (R 1) z.toInt)), aI cI (mo 4) 7 (feedF F (R 1) z.toInt), aI cI (mo 5) 120 (feedT Tp (R 1) v z.toInt)]) 0 0 := by
  refine CE.ofW (cc := cX5_feed) (maxL := 4) (ret := (some .int)) (lv := [(0, .ref (mo 0)), (1, .int v), (2, .int z)]) (by decide) rfl (Nat.le_of_ble_eq_true rfl) rfl ?_
  intro p e s m args below meth c ls A Q hQ hx hb hml hr hlocks hnm hown hts hK hA hE hW hl
  have hown : s.vm.findClass RX5 = some m.cls := hown
  refine lv_iload_n hx hb dX5_feed_0 rfl (lv_at hl 2 rfl) ?_
  refine lv_i2l (v := (z).toInt64) hx hb dX5_feed_1 rfl ?_
  refine lv_iconst (v := nI 1) hx hb dX5_feed_2 (by decide +kernel) ?_
  refine lv_iconst (v := nI 4) hx hb dX5_feed_3 (by decide +kernel) ?_
  refine cl_Si (As := [.long ((z).toInt64), .int (nI 1), .int (nI 4)]) (rest := []) ⟨hx, hb, hml, hown, hts⟩ (M_X5_in2 l D cI cJ ((z).toInt64) (nI 1) (nI 4) z.toInt ((1 : Nat) : Int) ((4 : Nat) : Int) ((Int32.toInt_toInt64 _).trans rfl) (nI_toInt (n := 1) (by decide)) (nI_toInt (n := 4) (by decide))) (va_cwS 3 hts gX5_feed_X5_in rfl rfl rfl qX5_in ⟨Nat.le_of_ble_eq_true rfl, Nat.le_of_ble_eq_true rfl⟩) E0_good hK hA hW trivial [] (fun _ => [mH mo R, aI cI (mo 4) 7 F, aI cI (mo 5) 120 Tp]) rfl (fun _ => rfl) (fun _ => rfl) rfl hl.1 rfl (lv_room (Nat.le_of_ble_eq_true rfl)) dX5_feed_4 ⟨Nat.zero_le _, Nat.zero_le _⟩ (fun _ H locs _ hW => ?_)
  have hin_ := inZ_or z.toInt ((1 : Nat) : Int) ((4 : Nat) : Int)
  refine nn_zne (tgt := 17) hx hb dX5_feed_7 (by decide) (by omega) (fun c7 => ?_) (fun c7 => ?_)
  · obtain ⟨y, hy, ey⟩ : ∃ y : Nat, z = nI y ∧ z.toInt = (y : Int) := ⟨z.toInt.toNat, nI_ofZ rfl (by omega), by omega⟩
    rw [hy] at hl
    refine lv_aload_n hx hb dX5_feed_17 rfl (lv_at hl 0 rfl) ?_
    refine sg_get (ci := 4) (C := RX5) (T := TX5) (N := 15) (v := .int (nI (R 1))) hx hb hts (fun _ h => List.mem_cons_of_mem _ (List.mem_append_right _ h)) hown hK hW 0 0 rfl rfl rfl 6 (by decide) (hts _ (List.mem_of_getElem? (i := 2) rfl)) rfl dX5_feed_18 ?_
    refine lv_iload_n hx hb dX5_feed_21 rfl (lv_at hl 2 rfl) ?_
    refine nn_add hx hb dX5_feed_22 ?_
    refine lv_bipush (v := nI 120) hx hb dX5_feed_23 (by decide +kernel) ?_
    refine nn_cle (tgt := 35) hx hb dX5_feed_25 (by decide) (by omega) (by decide) (fun c25 => ?_) (fun c25 => ?_)
    · refine lv_iload_n hx hb dX5_feed_35 rfl (lv_at hl 2 rfl) ?_
      refine lv_iconst (v := nI 1) hx hb dX5_feed_36 (by decide +kernel) ?_
      refine nn_sub hx hb dX5_feed_37 (by omega) ?_
      refine lv_istore_n (lv' := [(3, .int (nI (y - 1))), (0, .ref (mo 0)), (1, .int v), (2, .int (nI y))]) hx hb dX5_feed_38 rfl hl (by decide) rfl (fun ls hl => ?_)
      have lp39 : ∀ (n : Nat) (i : Nat), y - i < n → i ≤ y → ∀ (H : Heap) (locs : List Loc), Wo D vwCl A s.heap H locs [mH mo (up R 1 (R 1 + i)), aI cI (mo 4) 7 F, aI cI (mo 5) 120 (fdT Tp (R 1) v y i)] → ∀ ls : Array Slot, lv_has ls 4 [(3, .int (bst (y - i))), (0, .ref (mo 0)), (1, .int v), (2, .int (nI y))] → W p l e rmX5_feed s m args below meth c H locs 0 0 Q (F0 m 39 ls []) := by
        intro n
        induction n with
        | zero => intro i hm; exact absurd hm (Nat.not_lt_zero _)
        | succ n ih =>
          intro i hm hi H locs hW ls hl
          refine lv_iload_n hx hb dX5_feed_39 rfl (lv_at hl 0 rfl) ?_
          refine zz_zlt (tgt := 78) hx hb dX5_feed_40 (by decide) (bst_toInt (o := y - i) (by omega)) (fun c40 => ?_) (fun c40 => ?_)
          · have hiy : i = y := by omega
            subst hiy
            refine lv_aload_n hx hb dX5_feed_78 rfl (lv_at hl 1 rfl) ?_
            refine sg_get (ci := 4) (C := RX5) (T := TX5) (N := 15) (v := .int (nI (R 1 + i))) hx hb hts (fun _ h => List.mem_cons_of_mem _ (List.mem_append_right _ h)) hown hK hW 0 0 rfl rfl rfl 6 (by decide) (hts _ (List.mem_of_getElem? (i := 2) rfl)) (congrArg (fun z => some (Value.int (nI z))) (up_eq _ _ _)) dX5_feed_79 ?_
            exact rt_i hQ hx hb hr hlocks hW dX5_feed_82 () (by (try simp only [feedV, ey, Int.toNat_natCast]); (repeat' split) <;> first | rfl | (exfalso; omega)) trivial (by (try simp only [feedN, feedF, feedT, up_self, ey, Int.toNat_natCast]); (repeat' split) <;> first | rfl | (exfalso; omega))
          · have hb1 : bst (y - i) = nI (y - i - 1) := (if_neg (by omega))
            have hl : lv_has ls 4 [(3, .int (nI (y - i - 1))), (0, .ref (mo 0)), (1, .int v), (2, .int (nI y))] := by rw [← hb1]; exact hl
            refine lv_aload_n hx hb dX5_feed_43 rfl (lv_at hl 1 rfl) ?_
            refine sg_get (ci := 4) (C := RX5) (T := TX5) (N := 15) (v := .ref (mo 5)) hx hb hts (fun _ h => List.mem_cons_of_mem _ (List.mem_append_right _ h)) hown hK hW 0 0 rfl rfl rfl 5 (by decide) (hts _ (List.mem_of_getElem? (i := 4) rfl)) rfl dX5_feed_44 ?_
            refine lv_aload_n hx hb dX5_feed_47 rfl (lv_at hl 1 rfl) ?_
            refine sg_get (ci := 4) (C := RX5) (T := TX5) (N := 15) (v := .int (nI (R 1 + i))) hx hb hts (fun _ h => List.mem_cons_of_mem _ (List.mem_append_right _ h)) hown hK hW 0 0 rfl rfl rfl 6 (by decide) (hts _ (List.mem_of_getElem? (i := 2) rfl)) (congrArg (fun z => some (Value.int (nI z))) (up_eq _ _ _)) dX5_feed_48 ?_
            refine lv_iload_n hx hb dX5_feed_51 rfl (lv_at hl 2 rfl) ?_
            refine lv_bipush (v := nI 8) hx hb dX5_feed_52 (by decide +kernel) ?_
            refine lv_iload_n hx hb dX5_feed_54 rfl (lv_at hl 0 rfl) ?_
            refine nn_mul hx hb dX5_feed_55 ?_
            refine lv_ishr hx hb dX5_feed_56 ?_
            refine lv_sipush (v := nI 255) hx hb dX5_feed_57 (by decide +kernel) ?_
            refine lv_iand hx hb dX5_feed_60 ?_
            refine W.top (v' := .int (nI (byteN v (y - 1 - i)))) (congrArg Value.int ((byte_and _).trans (by rw [show y - i - 1 = y - 1 - i by omega]; rfl))) ?_
            refine sg_ist hx hb hK hW 2 0 0 rfl rfl rfl (by omega) (by decide) (aI_set cI (mo 5) 120 (fdT Tp (R 1) v y i) (R 1 + i) (byteN v (y - 1 - i))) (ss' := [mH mo (up R 1 (R 1 + i)), aI cI (mo 4) 7 F, aI cI (mo 5) 120 (up (fdT Tp (R 1) v y i) (R 1 + i) (byteN v (y - 1 - i)))]) rfl dX5_feed_61 (fun H locs hW => ?_)
            refine lv_aload_n hx hb dX5_feed_62 rfl (lv_at hl 1 rfl) ?_
            refine lv_dup hx hb dX5_feed_63 rfl ?_
            refine sg_get (ci := 4) (C := RX5) (T := TX5) (N := 15) (v := .int (nI (R 1 + i))) hx hb hts (fun _ h => List.mem_cons_of_mem _ (List.mem_append_right _ h)) hown hK hW 0 0 rfl rfl rfl 6 (by decide) (hts _ (List.mem_of_getElem? (i := 2) rfl)) (congrArg (fun z => some (Value.int (nI z))) (up_eq _ _ _)) dX5_feed_64 ?_
            refine lv_iconst (v := nI 1) hx hb dX5_feed_67 (by decide +kernel) ?_
            refine nn_add hx hb dX5_feed_68 ?_
            refine sg_put (ci := 4) (C := RX5) (T := TX5) (N := 15) hx hb hts (fun _ h => List.mem_cons_of_mem _ (List.mem_append_right _ h)) tyX5 tyX5_ok nmX5 hown hK hW 0 0 rfl rfl rfl 6 (by decide) (hts _ (List.mem_of_getElem? (i := 2) rfl)) rfl rfl rfl (Nat.le_of_ble_eq_true rfl) (mH_s1 mo (up R 1 (R 1 + i)) ((R 1 + i) + 1)) (ss' := [mH mo (up (up R 1 (R 1 + i)) 1 ((R 1 + i) + 1)), aI cI (mo 4) 7 F, aI cI (mo 5) 120 (up (fdT Tp (R 1) v y i) (R 1 + i) (byteN v (y - 1 - i)))]) rfl dX5_feed_69 (fun H locs hW => ?_)
            refine lv_iinc (v := bst (y - i - 1)) (lv' := [(3, .int (bst (y - i - 1))), (0, .ref (mo 0)), (1, .int v), (2, .int (nI y))]) hx hb dX5_feed_72 hl (k := 0) rfl (bst_dec (r := y - i) (by omega)) (by decide) rfl (fun ls hl => ?_)
            refine lv_goto (tgt := 39) hx hb dX5_feed_75 (by decide) ?_
            have e2 : bst (y - i - 1) = bst (y - (i + 1)) := (by rw [Nat.sub_sub])
            rw [e2] at hl
            have hW := hW.to (ss' := [mH mo (up R 1 (R 1 + (i + 1))), aI cI (mo 4) 7 F, aI cI (mo 5) 120 (fdT Tp (R 1) v y (i + 1))]) (by rw [up_up, Nat.add_assoc]; rfl)
            exact ih (i + 1) (by omega) (by omega) _ _ hW _ (lv_sub hl [0, 1, 2, 3] rfl)
      have e3 : nI (y - 1) = bst (y - 0) := (if_neg (by omega)).symm
      rw [e3] at hl
      have hW := hW.to (ss' := [mH mo (up R 1 (R 1 + 0)), aI cI (mo 4) 7 F, aI cI (mo 5) 120 (fdT Tp (R 1) v y 0)]) (by rw [Nat.add_zero, up_self]; rfl)
      exact lp39 (y - 0 + 1) 0 (Nat.lt_succ_self _) (by omega) _ _ hW _ (lv_sub hl [0, 1, 2, 3] rfl)
    · refine lv_aload_n hx hb dX5_feed_28 rfl (lv_at hl 0 rfl) ?_
      refine lv_ldc (v := -1000000002) hx hb hown (hts _ (List.mem_of_getElem? (i := 3) rfl)) dX5_feed_29 ?_
      refine cl_Vi (As := [.int (-1000000002)]) (rest := []) (C := RX5) ⟨hx, hb, hml, hown, hts⟩ (M_X5_finds l D cI cJ mo R F 1 (by decide) (-1000000002) (by decide +kernel)) (cwV 1 hts gX5_feed_X5_finds rfl rfl rfl qX5_finds ⟨Nat.le_of_ble_eq_true rfl, Nat.le_of_ble_eq_true rfl⟩) E0_good hK hA hW trivial [true, true] (fun _ => [mH mo R, aI cI (mo 4) 7 (up F 1 (F 1 + 1)), aI cI (mo 5) 120 Tp]) rfl (fun _ => rfl) (fun _ => rfl) 0 0 rfl rfl rfl rfl hl.1 rfl (lv_room (Nat.le_of_ble_eq_true rfl)) dX5_feed_31 ⟨Nat.zero_le _, Nat.zero_le _⟩ (fun _ H locs _ hW => ?_)
      exact rt_i hQ hx hb hr hlocks hW dX5_feed_34 () (by (try simp only [feedV, ey, Int.toNat_natCast]); (repeat' split) <;> first | rfl | (exfalso; omega)) trivial (by (try simp only [feedN, feedF, feedT, up_self, ey, Int.toNat_natCast]); (repeat' split) <;> first | rfl | (exfalso; omega))
  · refine lv_aload_n hx hb dX5_feed_10 rfl (lv_at hl 0 rfl) ?_
    refine lv_ldc (v := -1000000001) hx hb hown (hts _ (List.mem_of_getElem? (i := 1) rfl)) dX5_feed_11 ?_
    refine cl_Vi (As := [.int (-1000000001)]) (rest := []) (C := RX5) ⟨hx, hb, hml, hown, hts⟩ (M_X5_finds l D cI cJ mo R F 0 (by decide) (-1000000001) (by decide +kernel)) (cwV 1 hts gX5_feed_X5_finds rfl rfl rfl qX5_finds ⟨Nat.le_of_ble_eq_true rfl, Nat.le_of_ble_eq_true rfl⟩) E0_good hK hA hW trivial [true, true] (fun _ => [mH mo R, aI cI (mo 4) 7 (up F 0 (F 0 + 1)), aI cI (mo 5) 120 Tp]) rfl (fun _ => rfl) (fun _ => rfl) 0 0 rfl rfl rfl rfl hl.1 rfl (lv_room (Nat.le_of_ble_eq_true rfl)) dX5_feed_13 ⟨Nat.zero_le _, Nat.zero_le _⟩ (fun _ H locs _ hW => ?_)
    exact rt_i hQ hx hb hr hlocks hW dX5_feed_16 () (by (try simp only [feedV]); (repeat' split) <;> first | rfl | (exfalso; omega)) trivial (by (try simp only [feedN, feedF, feedT, up_self]); (repeat' split) <;> first | rfl | (exfalso; omega))
