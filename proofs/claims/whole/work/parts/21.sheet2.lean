theorem qX2_hasRange : yX2_hasRange.cls = RX2 ∧ yX2_hasRange.cls ≠ "java/lang/invoke/MethodHandle" ∧ yX2_hasRange.cls ≠ "java/lang/invoke/VarHandle" ∧ (parseMethodDescriptor yX2_hasRange.desc).map (fun d => d.parameters.length) = some 3 := by decide +kernel
theorem qX2_move : yX2_move.cls = RX2 ∧ yX2_move.cls ≠ "java/lang/invoke/MethodHandle" ∧ yX2_move.cls ≠ "java/lang/invoke/VarHandle" ∧ (parseMethodDescriptor yX2_move.desc).map (fun d => d.parameters.length) = some 5 := by decide +kernel
def rangeN (k : Nat) (a n : Int) : Nat := if 0 ≤ a ∧ 0 ≤ n ∧ n ≤ k ∧ a ≤ k - n then 1 else 0
theorem rangeN_or (k : Nat) (a n : Int) : (rangeN k a n = 1 ∧ 0 ≤ a ∧ 0 ≤ n ∧ n ≤ k ∧ a ≤ k - n) ∨ (rangeN k a n = 0 ∧ ¬ (0 ≤ a ∧ 0 ≤ n ∧ n ≤ k ∧ a ≤ k - n)) := by unfold rangeN; split <;> omega
def copyV (B Z : Nat → Nat) (a f t g n : Int) : Int32 := if (0 ≤ a ∧ a ≤ 3) ∧ (0 ≤ t ∧ t ≤ 3) then (if B a.toNat = 0 ∨ B t.toNat = 0 then -1000000006 else if B a.toNat = B t.toNat then (if 0 ≤ n ∧ 0 ≤ f ∧ 0 ≤ g ∧ n ≤ Z a.toNat - f ∧ n ≤ Z t.toNat - g then nI n.toNat else -1000000001) else -1000000003) else -1000000001
def copyF (B Z F : Nat → Nat) (a f t g n : Int) : Nat → Nat := if (0 ≤ a ∧ a ≤ 3) ∧ (0 ≤ t ∧ t ≤ 3) then (if B a.toNat = 0 ∨ B t.toNat = 0 then fnd F 5 else if B a.toNat = B t.toNat then (if 0 ≤ n ∧ 0 ≤ f ∧ 0 ≤ g ∧ n ≤ Z a.toNat - f ∧ n ≤ Z t.toNat - g then F else fnd F 0) else fnd F 2) else fnd F 0
def copyC (B Z : Nat → Nat) (C : Nat → Int64) (a f t g n : Int) : Nat → Int64 := if ((0 ≤ a ∧ a ≤ 3) ∧ (0 ≤ t ∧ t ≤ 3)) ∧ ¬ (B a.toNat = 0 ∨ B t.toNat = 0) ∧ B a.toNat = B t.toNat ∧ 0 ≤ n ∧ 0 ≤ f ∧ 0 ≤ g ∧ n ≤ Z a.toNat - f ∧ n ≤ Z t.toNat - g then va_cpy C C (a.toNat * 40 + f.toNat) (t.toNat * 40 + g.toNat) n.toNat else C
def ncV (B Z : Nat → Nat) (a f t g n : Int) : Int32 := if (0 ≤ a ∧ a ≤ 3) ∧ (0 ≤ t ∧ t ≤ 3) then (if B a.toNat = 0 ∨ B t.toNat = 0 then -1000000006 else if B a.toNat = B t.toNat then (if 0 ≤ n ∧ 0 ≤ f ∧ 0 ≤ g ∧ n ≤ Z a.toNat - f ∧ n ≤ Z t.toNat - g then nI 0 else -1000000001) else -1000000003) else -1000000001
theorem ncV_or (B Z : Nat → Nat) (a f t g n : Int) : (ncV B Z a f t g n = nI 0 ∧ ((0 ≤ a ∧ a ≤ 3) ∧ (0 ≤ t ∧ t ≤ 3)) ∧ ¬ (B a.toNat = 0 ∨ B t.toNat = 0) ∧ B a.toNat = B t.toNat ∧ 0 ≤ n ∧ 0 ≤ f ∧ 0 ≤ g ∧ n ≤ Z a.toNat - f ∧ n ≤ Z t.toNat - g) ∨ (ncV B Z a f t g n = -1000000006 ∧ ((0 ≤ a ∧ a ≤ 3) ∧ (0 ≤ t ∧ t ≤ 3)) ∧ (B a.toNat = 0 ∨ B t.toNat = 0)) ∨ (ncV B Z a f t g n = -1000000003 ∧ ((0 ≤ a ∧ a ≤ 3) ∧ (0 ≤ t ∧ t ≤ 3)) ∧ ¬ (B a.toNat = 0 ∨ B t.toNat = 0) ∧ ¬ B a.toNat = B t.toNat) ∨ (ncV B Z a f t g n = -1000000001 ∧ (¬ ((0 ≤ a ∧ a ≤ 3) ∧ (0 ≤ t ∧ t ≤ 3)) ∨ (¬ (B a.toNat = 0 ∨ B t.toNat = 0) ∧ B a.toNat = B t.toNat ∧ ¬ (0 ≤ n ∧ 0 ≤ f ∧ 0 ≤ g ∧ n ≤ Z a.toNat - f ∧ n ≤ Z t.toNat - g)))) := by
  unfold ncV
  by_cases h : (0 ≤ a ∧ a ≤ 3) ∧ (0 ≤ t ∧ t ≤ 3)
  · rw [if_pos h]
    by_cases q : B a.toNat = 0 ∨ B t.toNat = 0
    · rw [if_pos q]; exact Or.inr (Or.inl ⟨rfl, h, q⟩)
    · rw [if_neg q]
      by_cases q2 : B a.toNat = B t.toNat
      · rw [if_pos q2]
        by_cases q3 : 0 ≤ n ∧ 0 ≤ f ∧ 0 ≤ g ∧ n ≤ Z a.toNat - f ∧ n ≤ Z t.toNat - g
        · rw [if_pos q3]; exact Or.inl ⟨rfl, h, q, q2, q3⟩
        · rw [if_neg q3]; exact Or.inr (Or.inr (Or.inr ⟨rfl, Or.inr ⟨q, q2, q3⟩⟩))
      · rw [if_neg q2]; exact Or.inr (Or.inr (Or.inl ⟨rfl, h, q, q2⟩))
  · rw [if_neg h]; exact Or.inr (Or.inr (Or.inr ⟨rfl, Or.inl h⟩))
def cpD (C : Nat → Int64) (sp dp y k : Nat) : Nat → Int64 := fun q => if dp + (y - k) ≤ q ∧ q < dp + y then C (sp + (q - dp)) else C q
def cpU (C : Nat → Int64) (sp dp k : Nat) : Nat → Int64 := fun q => if dp ≤ q ∧ q < dp + k then C (sp + (q - dp)) else C q
theorem cpD_0 (C : Nat → Int64) (sp dp y : Nat) : cpD C sp dp y 0 = C := by funext q; unfold cpD; rw [if_neg (by omega)]
theorem cpU_0 (C : Nat → Int64) (sp dp : Nat) : cpU C sp dp 0 = C := by funext q; unfold cpU; rw [if_neg (by omega)]
theorem cpD_up (C : Nat → Int64) (sp dp y k : Nat) (h : k < y) : vp_updL (cpD C sp dp y k) (dp + (y - 1 - k)) (C (sp + (y - 1 - k))) = cpD C sp dp y (k + 1) := by
  funext q
  unfold vp_updL cpD
  by_cases e : q = dp + (y - 1 - k)
  · rw [if_pos e, if_pos (by omega), e, Nat.add_sub_cancel_left]
  · rw [if_neg e]
    by_cases r : dp + (y - k) ≤ q ∧ q < dp + y
    · rw [if_pos r, if_pos (by omega)]
    · rw [if_neg r, if_neg (by omega)]
theorem cpU_up (C : Nat → Int64) (sp dp k : Nat) : vp_updL (cpU C sp dp k) (dp + k) (C (sp + k)) = cpU C sp dp (k + 1) := by
  funext q
  unfold vp_updL cpU
  by_cases e : q = dp + k
  · rw [if_pos e, if_pos (by omega), e, Nat.add_sub_cancel_left]
  · rw [if_neg e]
    by_cases r : dp ≤ q ∧ q < dp + k
    · rw [if_pos r, if_pos (by omega)]
    · rw [if_neg r, if_neg (by omega)]
theorem cpD_all (C : Nat → Int64) (sp dp y : Nat) : cpD C sp dp y y = va_cpy C C sp dp y := by
  funext q; unfold cpD va_cpy; rw [Nat.sub_self, Nat.add_zero]
theorem cpU_all (C : Nat → Int64) (sp dp y : Nat) : cpU C sp dp y = va_cpy C C sp dp y := rfl
theorem subZ {k : Nat} {x : Int32} (hk : k ≤ 40) (h : 0 ≤ x.toInt) : (nI k - x).toInt = (k : Int) - x.toInt := by
  have := Int32.toInt_lt x
  rw [Int32.toInt_sub, nI_toInt (by omega), Int.bmod_eq_of_le (by omega) (by omega)]
theorem l2iN {x : Int64} (h0 : 0 ≤ x.toInt) (h1 : x.toInt ≤ 99) : x.toInt32 = nI x.toInt.toNat := by
  refine nI_ofZ ?_ h0
  rw [Int64.toInt_toInt32, Int.bmod_eq_of_le (by omega) (by omega)]
def lyG (G : Nat → Nat) (C : Nat → Int64) (j : Nat) : Nat → Nat → Nat
  | 0 => G
  | i + 1 => if 0 ≤ (C (j * 40 + i)).toInt ∧ (C (j * 40 + i)).toInt ≤ 99 then up (lyG G C j i) (8 * i + 3) (C (j * 40 + i)).toInt.toNat else lyG G C j i
def lyN (C : Nat → Int64) (j : Nat) : Nat → Nat
  | 0 => 0
  | i + 1 => lyN C j i + (if 0 ≤ (C (j * 40 + i)).toInt ∧ (C (j * 40 + i)).toInt ≤ 99 then 1 else 0)
theorem lyG_keep (G : Nat → Nat) (C : Nat → Int64) (j k : Nat) (h : ¬ k % 8 = 3) : ∀ i, lyG G C j i k = G k
  | 0 => rfl
  | i + 1 => by
    show (if 0 ≤ (C (j * 40 + i)).toInt ∧ (C (j * 40 + i)).toInt ≤ 99 then up (lyG G C j i) (8 * i + 3) (C (j * 40 + i)).toInt.toNat else lyG G C j i) k = G k
    split
    · rw [up_ne (by omega), lyG_keep G C j k h i]
    · exact lyG_keep G C j k h i
theorem lyG_ok {b : Nat} {G : Nat → Nat} (h : OkG b G) (C : Nat → Int64) (j : Nat) : ∀ i, OkG b (lyG G C j i)
  | 0 => h
  | i + 1 => by
    show OkG b (if 0 ≤ (C (j * 40 + i)).toInt ∧ (C (j * 40 + i)).toInt ≤ 99 then up (lyG G C j i) (8 * i + 3) (C (j * 40 + i)).toInt.toNat else lyG G C j i)
    split
    · exact (lyG_ok h C j i).r3 (by omega)
    · exact lyG_ok h C j i
def laysV (G B Z : Nat → Nat) (C : Nat → Int64) (a : Int) : Int32 := if 0 ≤ a ∧ a ≤ 3 then (if B a.toNat = 0 then -1000000006 else nI (lyN C a.toNat (min (Z a.toNat) (G 40)))) else -1000000001
def laysG (G B Z : Nat → Nat) (C : Nat → Int64) (a : Int) : Nat → Nat := if (0 ≤ a ∧ a ≤ 3) ∧ ¬ B a.toNat = 0 then lyG G C a.toNat (min (Z a.toNat) (G 40)) else G
def shF (B F : Nat → Nat) (a : Int) : Nat → Nat := if 0 ≤ a ∧ a ≤ 3 then (if B a.toNat = 0 then fnd F 5 else F) else fnd F 0
def bkC (G B : Nat → Nat) (C : Nat → Int64) (j : Nat) : Nat → Nat → Int64
  | 0 => C
  | i + 1 => vp_updL (bkC G B C j i) (j * 40 + i) (cutV (B j) (nI (stepN G i 24)).toInt64)
def bookV (B Z : Nat → Nat) (a : Int) : Int32 := if 0 ≤ a ∧ a ≤ 3 then (if B a.toNat = 0 then -1000000006 else nI (Z a.toNat)) else -1000000001
def bookC (G B Z : Nat → Nat) (C : Nat → Int64) (a : Int) : Nat → Int64 := if (0 ≤ a ∧ a ≤ 3) ∧ ¬ B a.toNat = 0 then bkC G B C a.toNat (Z a.toNat) else C
abbrev rmX2_hasRange : Room := { frames := 0, cells := 0, slots := 0, locals := 0 }
set_option maxRecDepth 100000 in
set_option maxHeartbeats 4000000 in
theorem M_X2_hasRange (l : Launch) (D : va_G) (cI cJ : ClassId) (sh B Z : Nat → Nat) (C : Nat → Int64) (hS : OkS B Z) (j : Nat) (hj : j < 4) (v z : Int32) : CE E0 l D vwCl [(cI, .int), (cJ, .long)] yX2_hasRange wsX2_hasRange rmX2_hasRange [.ref (sh 0), .int (nI j), .int v, .int z] [sW cI cJ sh B Z C] (S := Unit) (some (.int (nI (rangeN (Z j) v.toInt z.toInt)))) (fun _ => True) (fun _ : Unit => [sW cI cJ sh B Z C]) 0 0 := by
  refine CE.ofW (cc := cX2_hasRange) (maxL := 4) (ret := (some .boolean)) (lv := [(0, .ref (sh 0)), (1, .int (nI j)), (2, .int v), (3, .int z)]) (by decide) rfl (Nat.le_of_ble_eq_true rfl) rfl ?_
  intro p e s m args below meth c ls A Q hQ hx hb hml hr hlocks hnm hown hts hK hA hE hW hl
  have hown : s.vm.findClass RX2 = some m.cls := hown
  have hSj := hS j hj
  refine lv_iload_n hx hb dX2_hasRange_0 rfl (lv_at hl 2 rfl) ?_
  refine zz_zlt (tgt := 34) hx hb dX2_hasRange_1 (by decide) (rfl : v.toInt = v.toInt) (fun c1 => ?_) (fun c1 => ?_)
  · refine lv_iconst (v := nI 0) hx hb dX2_hasRange_34 (by decide +kernel) ?_
    exact rt_z hQ hx hb hr hlocks hW dX2_hasRange_35 (by decide +kernel) () (by unfold rangeN; (repeat' split) <;> first | rfl | (exfalso; omega) | (congr 3; omega)) trivial rfl
  · refine lv_iload_n hx hb dX2_hasRange_4 rfl (lv_at hl 3 rfl) ?_
    refine zz_zlt (tgt := 34) hx hb dX2_hasRange_5 (by decide) (rfl : z.toInt = z.toInt) (fun c5 => ?_) (fun c5 => ?_)
    · refine lv_iconst (v := nI 0) hx hb dX2_hasRange_34 (by decide +kernel) ?_
      exact rt_z hQ hx hb hr hlocks hW dX2_hasRange_35 (by decide +kernel) () (by unfold rangeN; (repeat' split) <;> first | rfl | (exfalso; omega) | (congr 3; omega)) trivial rfl
    · refine lv_iload_n hx hb dX2_hasRange_8 rfl (lv_at hl 3 rfl) ?_
      refine lv_aload_n hx hb dX2_hasRange_9 rfl (lv_at hl 0 rfl) ?_
      refine sg_get (ci := 1) (C := RX2) (T := TX2) (N := 3) (v := .ref (sh 2)) hx hb hts (fun _ h => List.mem_cons_of_mem _ (List.mem_append_right _ h)) hown hK hW 0 0 rfl rfl rfl 1 (by decide) (hts _ (List.mem_of_getElem? (i := 1) rfl)) rfl dX2_hasRange_10 ?_
      refine lv_iload_n hx hb dX2_hasRange_13 rfl (lv_at hl 1 rfl) ?_
      refine sg_ild (v := nI (Z j)) hx hb hK hW 0 2 0 rfl rfl rfl (by omega) (by decide) rfl dX2_hasRange_14 ?_
      refine zz_cgt (tgt := 34) hx hb dX2_hasRange_15 (by decide) (rfl : z.toInt = z.toInt) (nI_toInt (n := Z j) (by omega)) (fun c15 => ?_) (fun c15 => ?_)
      · refine lv_iconst (v := nI 0) hx hb dX2_hasRange_34 (by decide +kernel) ?_
        exact rt_z hQ hx hb hr hlocks hW dX2_hasRange_35 (by decide +kernel) () (by unfold rangeN; (repeat' split) <;> first | rfl | (exfalso; omega) | (congr 3; omega)) trivial rfl
      · obtain ⟨y, hy, ey⟩ : ∃ y : Nat, z = nI y ∧ z.toInt = (y : Int) := ⟨z.toInt.toNat, nI_ofZ rfl (by omega), by omega⟩
        rw [hy] at hl
        refine lv_iload_n hx hb dX2_hasRange_18 rfl (lv_at hl 2 rfl) ?_
        refine lv_aload_n hx hb dX2_hasRange_19 rfl (lv_at hl 0 rfl) ?_
        refine sg_get (ci := 1) (C := RX2) (T := TX2) (N := 3) (v := .ref (sh 2)) hx hb hts (fun _ h => List.mem_cons_of_mem _ (List.mem_append_right _ h)) hown hK hW 0 0 rfl rfl rfl 1 (by decide) (hts _ (List.mem_of_getElem? (i := 1) rfl)) rfl dX2_hasRange_20 ?_
        refine lv_iload_n hx hb dX2_hasRange_23 rfl (lv_at hl 1 rfl) ?_
        refine sg_ild (v := nI (Z j)) hx hb hK hW 0 2 0 rfl rfl rfl (by omega) (by decide) rfl dX2_hasRange_24 ?_
        refine lv_iload_n hx hb dX2_hasRange_25 rfl (lv_at hl 3 rfl) ?_
        refine nn_sub hx hb dX2_hasRange_26 (by omega) ?_
        refine zz_cgt (tgt := 34) hx hb dX2_hasRange_27 (by decide) (rfl : v.toInt = v.toInt) (nI_toInt (n := (Z j) - y) (by omega)) (fun c27 => ?_) (fun c27 => ?_)
        · refine lv_iconst (v := nI 0) hx hb dX2_hasRange_34 (by decide +kernel) ?_
          exact rt_z hQ hx hb hr hlocks hW dX2_hasRange_35 (by decide +kernel) () (by unfold rangeN; (repeat' split) <;> first | rfl | (exfalso; omega) | (congr 3; omega)) trivial rfl
        · refine lv_iconst (v := nI 1) hx hb dX2_hasRange_30 (by decide +kernel) ?_
          refine lv_goto (tgt := 35) hx hb dX2_hasRange_31 (by decide) ?_
          exact rt_z hQ hx hb hr hlocks hW dX2_hasRange_35 (by decide +kernel) () (by unfold rangeN; (repeat' split) <;> first | rfl | (exfalso; omega) | (congr 3; omega)) trivial rfl
abbrev rmX2_move : Room := { frames := 1, cells := 0, slots := 0, locals := 48 }
set_option maxRecDepth 100000 in
set_option maxHeartbeats 4000000 in
theorem M_X2_move (l : Launch) (D : va_G) (cI cJ : ClassId) (sh B Z : Nat → Nat) (C : Nat → Int64) (j a k g y : Nat) (hj : j < 4) (hk : k < 4) (ha : a + y ≤ 40) (hg : g + y ≤ 40) : CE E0 l D vwCl [(cI, .int), (cJ, .long)] yX2_move wsX2_move rmX2_move [.ref (sh 0), .int (nI j), .int (nI a), .int (nI k), .int (nI g), .int (nI y)] [sW cI cJ sh B Z C] (S := Unit) none (fun _ => True) (fun _ : Unit => [sW cI cJ sh B Z (va_cpy C C (j * 40 + a) (k * 40 + g) y)]) 0 0 := by
  refine CE.ofW (cc := cX2_move) (maxL := 6) (ret := none) (lv := [(0, .ref (sh 0)), (1, .int (nI j)), (2, .int (nI a)), (3, .int (nI k)), (4, .int (nI g)), (5, .int (nI y))]) (by decide) rfl (Nat.le_of_ble_eq_true rfl) rfl ?_
  intro p e s m args below meth c ls A Q hQ hx hb hml hr hlocks hnm hown hts hK hA hE hW hl
  have hown : s.vm.findClass RX2 = some m.cls := hown
  refine lv_aload_n hx hb dX2_move_0 rfl (lv_at hl 0 rfl) ?_
  refine sg_get (ci := 1) (C := RX2) (T := TX2) (N := 3) (v := .ref (sh 3)) hx hb hts (fun _ h => List.mem_cons_of_mem _ (List.mem_append_right _ h)) hown hK hW 0 0 rfl rfl rfl 2 (by decide) (hts _ (List.mem_of_getElem? (i := 1) rfl)) rfl dX2_move_1 ?_
  refine lv_iload_n hx hb dX2_move_4 rfl (lv_at hl 1 rfl) ?_
  refine lv_bipush (v := nI 40) hx hb dX2_move_5 (by decide +kernel) ?_
  refine nn_mul hx hb dX2_move_7 ?_
  refine lv_iload_n hx hb dX2_move_8 rfl (lv_at hl 2 rfl) ?_
  refine nn_add hx hb dX2_move_9 ?_
  refine lv_aload_n hx hb dX2_move_10 rfl (lv_at hl 0 rfl) ?_
  refine sg_get (ci := 1) (C := RX2) (T := TX2) (N := 3) (v := .ref (sh 3)) hx hb hts (fun _ h => List.mem_cons_of_mem _ (List.mem_append_right _ h)) hown hK hW 0 0 rfl rfl rfl 2 (by decide) (hts _ (List.mem_of_getElem? (i := 1) rfl)) rfl dX2_move_11 ?_
  refine lv_iload_n hx hb dX2_move_14 rfl (lv_at hl 3 rfl) ?_
  refine lv_bipush (v := nI 40) hx hb dX2_move_15 (by decide +kernel) ?_
  refine nn_mul hx hb dX2_move_17 ?_
  refine lv_iload hx hb dX2_move_18 (lv_at hl 4 rfl) ?_
  refine nn_add hx hb dX2_move_20 ?_
  refine lv_iload hx hb dX2_move_21 (lv_at hl 5 rfl) ?_
  refine sg_cpyl hx hb (hml.trans hl.1.symm) hown (hts _ (List.mem_of_getElem? (i := 2) rfl)) (hts _ (List.mem_of_getElem? (i := 3) rfl)) (hts _ (List.mem_of_getElem? (i := 4) rfl)) (hts _ (List.mem_of_getElem? (i := 5) rfl)) hK hW 0 3 1 rfl rfl rfl (by omega) (by omega) (by decide) (Nat.le_of_ble_eq_true rfl) (Nat.le_of_ble_eq_true rfl) rfl (ss' := [sW cI cJ sh B Z (va_cpy C C ((j * 40) + a) ((k * 40) + g) y)]) rfl dX2_move_23 (fun H locs hW => ?_)
  exact rt_v hQ hx hb hr hlocks hW dX2_move_26 () rfl trivial rfl
abbrev rmX4_copy : Room := { frames := 2, cells := 0, slots := 0, locals := 73 }
set_option maxRecDepth 100000 in
set_option maxHeartbeats 4000000 in
theorem M_X4_copy (l : Launch) (D : va_G) (cI cJ : ClassId) (x fi ik : Nat) (la ta ka tp sh B Z F : Nat → Nat) (C : Nat → Int64) (hS : OkS B Z) (v fr w gg z : Int32) : CE E0 l D vwCl [(cI, .int), (cJ, .long)] yX4_copy wsX4_copy rmX4_copy [.ref x, .int v, .int fr, .int w, .int gg, .int z] [xH x la ta ka tp sh fi ik, sW cI cJ sh B Z C, aI cI fi 7 F] (S := Unit) (some (.int (copyV B Z v.toInt fr.toInt w.toInt gg.toInt z.toInt))) (fun _ => True) (fun _ : Unit => [xH x la ta ka tp sh fi ik, sW cI cJ sh B Z (copyC B Z C v.toInt fr.toInt w.toInt gg.toInt z.toInt), aI cI fi 7 (copyF B Z F v.toInt fr.toInt w.toInt gg.toInt z.toInt)]) 0 0 := by
  refine CE.ofW (cc := cX4_copy) (maxL := 6) (ret := (some .int)) (lv := [(0, .ref x), (1, .int v), (2, .int fr), (3, .int w), (4, .int gg), (5, .int z)]) (by decide) rfl (Nat.le_of_ble_eq_true rfl) rfl ?_
  intro p e s m args below meth c ls A Q hQ hx hb hml hr hlocks hnm hown hts hK hA hE hW hl
  have hown : s.vm.findClass RX4 = some m.cls := hown
  refine lv_aload_n hx hb dX4_copy_0 rfl (lv_at hl 0 rfl) ?_
  refine sg_get (ci := 3) (C := RX4) (T := TX4) (N := 7) (v := .ref (sh 0)) hx hb hts (fun _ h => List.mem_cons_of_mem _ (List.mem_append_left _ (List.mem_append_right _ h))) hown hK hW 0 0 rfl rfl rfl 5 (by decide) (hts _ (List.mem_of_getElem? (i := 1) rfl)) rfl dX4_copy_1 ?_
  refine lv_iload_n hx hb dX4_copy_4 rfl (lv_at hl 1 rfl) ?_
  refine cl_Vi (As := [.int v]) (rest := []) (C := RX2) ⟨hx, hb, hml, hown, hts⟩ (M_X2_isSheet l D cI cJ sh B Z C v) (cwV 1 hts gX4_copy_X2_isSheet rfl rfl rfl qX2_isSheet ⟨Nat.le_of_ble_eq_true rfl, Nat.le_of_ble_eq_true rfl⟩) E0_good hK hA hW trivial [false, true] (fun _ => [xH x la ta ka tp sh fi ik, sW cI cJ sh B Z C, aI cI fi 7 F]) rfl (fun _ => rfl) (fun _ => rfl) 1 0 rfl rfl rfl rfl hl.1 rfl (lv_room (Nat.le_of_ble_eq_true rfl)) dX4_copy_5 ⟨Nat.zero_le _, Nat.zero_le _⟩ (fun _ H locs _ hW => ?_)
  have him_ := inN_or v 4
  refine nn_zeq (tgt := 22) hx hb dX4_copy_8 (by decide) (by omega) (fun c8 => ?_) (fun c8 => ?_)
  · refine lv_aload_n hx hb dX4_copy_22 rfl (lv_at hl 0 rfl) ?_
    refine lv_ldc (v := -1000000001) hx hb hown (hts _ (List.mem_of_getElem? (i := 2) rfl)) dX4_copy_23 ?_
    refine cl_Vi (As := [.int (-1000000001)]) (rest := []) (C := RX4) ⟨hx, hb, hml, hown, hts⟩ (M_X4_tell l D cI cJ x fi ik la ta ka tp sh F 0 (by decide) (-1000000001) (by decide +kernel)) (cwV 1 hts gX4_copy_X4_tell rfl rfl rfl qX4_tell ⟨Nat.le_of_ble_eq_true rfl, Nat.le_of_ble_eq_true rfl⟩) E0_good hK hA hW trivial [true, false, true] (fun _ => [xH x la ta ka tp sh fi ik, sW cI cJ sh B Z C, aI cI fi 7 (up F 0 (F 0 + 1))]) rfl (fun _ => rfl) (fun _ => rfl) 0 0 rfl rfl rfl rfl hl.1 rfl (lv_room (Nat.le_of_ble_eq_true rfl)) dX4_copy_25 ⟨Nat.zero_le _, Nat.zero_le _⟩ (fun _ H locs _ hW => ?_)
    exact rt_i hQ hx hb hr hlocks hW dX4_copy_28 () (by (try simp only [copyV]); (repeat' split) <;> first | rfl | (exfalso; omega)) trivial (by (try simp only [copyC, copyF]); (repeat' split) <;> first | rfl | (exfalso; omega))
  · refine lv_aload_n hx hb dX4_copy_11 rfl (lv_at hl 0 rfl) ?_
    refine sg_get (ci := 3) (C := RX4) (T := TX4) (N := 7) (v := .ref (sh 0)) hx hb hts (fun _ h => List.mem_cons_of_mem _ (List.mem_append_left _ (List.mem_append_right _ h))) hown hK hW 0 0 rfl rfl rfl 5 (by decide) (hts _ (List.mem_of_getElem? (i := 1) rfl)) rfl dX4_copy_12 ?_
    refine lv_iload_n hx hb dX4_copy_15 rfl (lv_at hl 3 rfl) ?_
    refine cl_Vi (As := [.int w]) (rest := []) (C := RX2) ⟨hx, hb, hml, hown, hts⟩ (M_X2_isSheet l D cI cJ sh B Z C w) (cwV 1 hts gX4_copy_X2_isSheet rfl rfl rfl qX2_isSheet ⟨Nat.le_of_ble_eq_true rfl, Nat.le_of_ble_eq_true rfl⟩) E0_good hK hA hW trivial [false, true] (fun _ => [xH x la ta ka tp sh fi ik, sW cI cJ sh B Z C, aI cI fi 7 F]) rfl (fun _ => rfl) (fun _ => rfl) 1 0 rfl rfl rfl rfl hl.1 rfl (lv_room (Nat.le_of_ble_eq_true rfl)) dX4_copy_16 ⟨Nat.zero_le _, Nat.zero_le _⟩ (fun _ H locs _ hW => ?_)
    have him_ := inN_or w 4
    refine nn_zne (tgt := 29) hx hb dX4_copy_19 (by decide) (by omega) (fun c19 => ?_) (fun c19 => ?_)
    · obtain ⟨j, hj, ej⟩ : ∃ j : Nat, v = nI j ∧ v.toInt = (j : Int) := ⟨v.toInt.toNat, nI_ofZ rfl (by omega), by omega⟩
      rw [hj] at hl
      obtain ⟨k, hk, ek⟩ : ∃ k : Nat, w = nI k ∧ w.toInt = (k : Int) := ⟨w.toInt.toNat, nI_ofZ rfl (by omega), by omega⟩
      rw [hk] at hl
      have hSj := hS j (by omega)
      have hSk := hS k (by omega)
      refine lv_aload_n hx hb dX4_copy_29 rfl (lv_at hl 0 rfl) ?_
      refine sg_get (ci := 3) (C := RX4) (T := TX4) (N := 7) (v := .ref (sh 0)) hx hb hts (fun _ h => List.mem_cons_of_mem _ (List.mem_append_left _ (List.mem_append_right _ h))) hown hK hW 0 0 rfl rfl rfl 5 (by decide) (hts _ (List.mem_of_getElem? (i := 1) rfl)) rfl dX4_copy_30 ?_
      refine lv_iload_n hx hb dX4_copy_33 rfl (lv_at hl 1 rfl) ?_
      refine cl_Vi (As := [.int (nI j)]) (rest := []) (C := RX2) ⟨hx, hb, hml, hown, hts⟩ (M_X2_isMissing l D cI cJ sh B Z C hS j (by omega)) (cwV 1 hts gX4_copy_X2_isMissing rfl rfl rfl qX2_isMissing ⟨Nat.le_of_ble_eq_true rfl, Nat.le_of_ble_eq_true rfl⟩) E0_good hK hA hW trivial [false, true] (fun _ => [xH x la ta ka tp sh fi ik, sW cI cJ sh B Z C, aI cI fi 7 F]) rfl (fun _ => rfl) (fun _ => rfl) 1 0 rfl rfl rfl rfl hl.1 rfl (lv_room (Nat.le_of_ble_eq_true rfl)) dX4_copy_34 ⟨Nat.zero_le _, Nat.zero_le _⟩ (fun _ H locs _ hW => ?_)
      have hms_ : ((if B j = 0 then 1 else 0) = 1 ∧ B j = 0) ∨ ((if B j = 0 then 1 else 0) = 0 ∧ ¬ B j = 0) := ite01 _
      refine nn_zne (tgt := 51) hx hb dX4_copy_37 (by decide) (by omega) (fun c37 => ?_) (fun c37 => ?_)
      · refine lv_aload_n hx hb dX4_copy_51 rfl (lv_at hl 0 rfl) ?_
        refine lv_ldc (v := -1000000006) hx hb hown (hts _ (List.mem_of_getElem? (i := 3) rfl)) dX4_copy_52 ?_
        refine cl_Vi (As := [.int (-1000000006)]) (rest := []) (C := RX4) ⟨hx, hb, hml, hown, hts⟩ (M_X4_tell l D cI cJ x fi ik la ta ka tp sh F 5 (by decide) (-1000000006) (by decide +kernel)) (cwV 1 hts gX4_copy_X4_tell rfl rfl rfl qX4_tell ⟨Nat.le_of_ble_eq_true rfl, Nat.le_of_ble_eq_true rfl⟩) E0_good hK hA hW trivial [true, false, true] (fun _ => [xH x la ta ka tp sh fi ik, sW cI cJ sh B Z C, aI cI fi 7 (up F 5 (F 5 + 1))]) rfl (fun _ => rfl) (fun _ => rfl) 0 0 rfl rfl rfl rfl hl.1 rfl (lv_room (Nat.le_of_ble_eq_true rfl)) dX4_copy_54 ⟨Nat.zero_le _, Nat.zero_le _⟩ (fun _ H locs _ hW => ?_)
        exact rt_i hQ hx hb hr hlocks hW dX4_copy_57 () (by (try simp only [copyV, ej, ek, Int.toNat_natCast]); (repeat' split) <;> first | rfl | (exfalso; omega)) trivial (by (try simp only [copyC, copyF, ej, ek, Int.toNat_natCast]); (repeat' split) <;> first | rfl | (exfalso; omega))
      · refine lv_aload_n hx hb dX4_copy_40 rfl (lv_at hl 0 rfl) ?_
        refine sg_get (ci := 3) (C := RX4) (T := TX4) (N := 7) (v := .ref (sh 0)) hx hb hts (fun _ h => List.mem_cons_of_mem _ (List.mem_append_left _ (List.mem_append_right _ h))) hown hK hW 0 0 rfl rfl rfl 5 (by decide) (hts _ (List.mem_of_getElem? (i := 1) rfl)) rfl dX4_copy_41 ?_
        refine lv_iload_n hx hb dX4_copy_44 rfl (lv_at hl 3 rfl) ?_
        refine cl_Vi (As := [.int (nI k)]) (rest := []) (C := RX2) ⟨hx, hb, hml, hown, hts⟩ (M_X2_isMissing l D cI cJ sh B Z C hS k (by omega)) (cwV 1 hts gX4_copy_X2_isMissing rfl rfl rfl qX2_isMissing ⟨Nat.le_of_ble_eq_true rfl, Nat.le_of_ble_eq_true rfl⟩) E0_good hK hA hW trivial [false, true] (fun _ => [xH x la ta ka tp sh fi ik, sW cI cJ sh B Z C, aI cI fi 7 F]) rfl (fun _ => rfl) (fun _ => rfl) 1 0 rfl rfl rfl rfl hl.1 rfl (lv_room (Nat.le_of_ble_eq_true rfl)) dX4_copy_45 ⟨Nat.zero_le _, Nat.zero_le _⟩ (fun _ H locs _ hW => ?_)
        have hms_ : ((if B k = 0 then 1 else 0) = 1 ∧ B k = 0) ∨ ((if B k = 0 then 1 else 0) = 0 ∧ ¬ B k = 0) := ite01 _
        refine nn_zeq (tgt := 58) hx hb dX4_copy_48 (by decide) (by omega) (fun c48 => ?_) (fun c48 => ?_)
        · refine lv_aload_n hx hb dX4_copy_58 rfl (lv_at hl 0 rfl) ?_
          refine sg_get (ci := 3) (C := RX4) (T := TX4) (N := 7) (v := .ref (sh 0)) hx hb hts (fun _ h => List.mem_cons_of_mem _ (List.mem_append_left _ (List.mem_append_right _ h))) hown hK hW 0 0 rfl rfl rfl 5 (by decide) (hts _ (List.mem_of_getElem? (i := 1) rfl)) rfl dX4_copy_59 ?_
          refine sg_get (ci := 1) (C := RX2) (T := TX2) (N := 3) (v := .ref (sh 1)) hx hb hts (fun _ h => List.mem_cons_of_mem _ (List.mem_append_right _ h)) hown hK hW 1 0 rfl rfl rfl 0 (by decide) (hts _ (List.mem_of_getElem? (i := 4) rfl)) rfl dX4_copy_62 ?_
          refine lv_iload_n hx hb dX4_copy_65 rfl (lv_at hl 1 rfl) ?_
          refine sg_ild (v := nI (B j)) hx hb hK hW 1 1 0 rfl rfl rfl (by omega) (by decide) rfl dX4_copy_66 ?_
          refine lv_aload_n hx hb dX4_copy_67 rfl (lv_at hl 0 rfl) ?_
          refine sg_get (ci := 3) (C := RX4) (T := TX4) (N := 7) (v := .ref (sh 0)) hx hb hts (fun _ h => List.mem_cons_of_mem _ (List.mem_append_left _ (List.mem_append_right _ h))) hown hK hW 0 0 rfl rfl rfl 5 (by decide) (hts _ (List.mem_of_getElem? (i := 1) rfl)) rfl dX4_copy_68 ?_
          refine sg_get (ci := 1) (C := RX2) (T := TX2) (N := 3) (v := .ref (sh 1)) hx hb hts (fun _ h => List.mem_cons_of_mem _ (List.mem_append_right _ h)) hown hK hW 1 0 rfl rfl rfl 0 (by decide) (hts _ (List.mem_of_getElem? (i := 4) rfl)) rfl dX4_copy_71 ?_
          refine lv_iload_n hx hb dX4_copy_74 rfl (lv_at hl 3 rfl) ?_
          refine sg_ild (v := nI (B k)) hx hb hK hW 1 1 0 rfl rfl rfl (by omega) (by decide) rfl dX4_copy_75 ?_
          refine nn_ceq (tgt := 86) hx hb dX4_copy_76 (by decide) (by omega) (by omega) (fun c76 => ?_) (fun c76 => ?_)
          · refine lv_aload_n hx hb dX4_copy_86 rfl (lv_at hl 0 rfl) ?_
            refine sg_get (ci := 3) (C := RX4) (T := TX4) (N := 7) (v := .ref (sh 0)) hx hb hts (fun _ h => List.mem_cons_of_mem _ (List.mem_append_left _ (List.mem_append_right _ h))) hown hK hW 0 0 rfl rfl rfl 5 (by decide) (hts _ (List.mem_of_getElem? (i := 1) rfl)) rfl dX4_copy_87 ?_
            refine lv_iload_n hx hb dX4_copy_90 rfl (lv_at hl 1 rfl) ?_
            refine lv_iload_n hx hb dX4_copy_91 rfl (lv_at hl 2 rfl) ?_
            refine lv_iload hx hb dX4_copy_92 (lv_at hl 5 rfl) ?_
            refine cl_Vi (As := [.int (nI j), .int fr, .int z]) (rest := []) (C := RX2) ⟨hx, hb, hml, hown, hts⟩ (M_X2_hasRange l D cI cJ sh B Z C hS j (by omega) fr z) (cwV 3 hts gX4_copy_X2_hasRange rfl rfl rfl qX2_hasRange ⟨Nat.le_of_ble_eq_true rfl, Nat.le_of_ble_eq_true rfl⟩) E0_good hK hA hW trivial [false, true] (fun _ => [xH x la ta ka tp sh fi ik, sW cI cJ sh B Z C, aI cI fi 7 F]) rfl (fun _ => rfl) (fun _ => rfl) 1 0 rfl rfl rfl rfl hl.1 rfl (lv_room (Nat.le_of_ble_eq_true rfl)) dX4_copy_94 ⟨Nat.zero_le _, Nat.zero_le _⟩ (fun _ H locs _ hW => ?_)
            have hrg_ := rangeN_or (Z j) fr.toInt z.toInt
            refine nn_zeq (tgt := 115) hx hb dX4_copy_97 (by decide) (by omega) (fun c97 => ?_) (fun c97 => ?_)
            · refine lv_aload_n hx hb dX4_copy_115 rfl (lv_at hl 0 rfl) ?_
              refine lv_ldc (v := -1000000001) hx hb hown (hts _ (List.mem_of_getElem? (i := 2) rfl)) dX4_copy_116 ?_
              refine cl_Vi (As := [.int (-1000000001)]) (rest := []) (C := RX4) ⟨hx, hb, hml, hown, hts⟩ (M_X4_tell l D cI cJ x fi ik la ta ka tp sh F 0 (by decide) (-1000000001) (by decide +kernel)) (cwV 1 hts gX4_copy_X4_tell rfl rfl rfl qX4_tell ⟨Nat.le_of_ble_eq_true rfl, Nat.le_of_ble_eq_true rfl⟩) E0_good hK hA hW trivial [true, false, true] (fun _ => [xH x la ta ka tp sh fi ik, sW cI cJ sh B Z C, aI cI fi 7 (up F 0 (F 0 + 1))]) rfl (fun _ => rfl) (fun _ => rfl) 0 0 rfl rfl rfl rfl hl.1 rfl (lv_room (Nat.le_of_ble_eq_true rfl)) dX4_copy_118 ⟨Nat.zero_le _, Nat.zero_le _⟩ (fun _ H locs _ hW => ?_)
              exact rt_i hQ hx hb hr hlocks hW dX4_copy_121 () (by (try simp only [copyV, ej, ek, Int.toNat_natCast]); (repeat' split) <;> first | rfl | (exfalso; omega)) trivial (by (try simp only [copyC, copyF, ej, ek, Int.toNat_natCast]); (repeat' split) <;> first | rfl | (exfalso; omega))
            · refine lv_aload_n hx hb dX4_copy_100 rfl (lv_at hl 0 rfl) ?_
              refine sg_get (ci := 3) (C := RX4) (T := TX4) (N := 7) (v := .ref (sh 0)) hx hb hts (fun _ h => List.mem_cons_of_mem _ (List.mem_append_left _ (List.mem_append_right _ h))) hown hK hW 0 0 rfl rfl rfl 5 (by decide) (hts _ (List.mem_of_getElem? (i := 1) rfl)) rfl dX4_copy_101 ?_
              refine lv_iload_n hx hb dX4_copy_104 rfl (lv_at hl 3 rfl) ?_
              refine lv_iload hx hb dX4_copy_105 (lv_at hl 4 rfl) ?_
              refine lv_iload hx hb dX4_copy_107 (lv_at hl 5 rfl) ?_
              refine cl_Vi (As := [.int (nI k), .int gg, .int z]) (rest := []) (C := RX2) ⟨hx, hb, hml, hown, hts⟩ (M_X2_hasRange l D cI cJ sh B Z C hS k (by omega) gg z) (cwV 3 hts gX4_copy_X2_hasRange rfl rfl rfl qX2_hasRange ⟨Nat.le_of_ble_eq_true rfl, Nat.le_of_ble_eq_true rfl⟩) E0_good hK hA hW trivial [false, true] (fun _ => [xH x la ta ka tp sh fi ik, sW cI cJ sh B Z C, aI cI fi 7 F]) rfl (fun _ => rfl) (fun _ => rfl) 1 0 rfl rfl rfl rfl hl.1 rfl (lv_room (Nat.le_of_ble_eq_true rfl)) dX4_copy_109 ⟨Nat.zero_le _, Nat.zero_le _⟩ (fun _ H locs _ hW => ?_)
              have hrg_ := rangeN_or (Z k) gg.toInt z.toInt
              refine nn_zne (tgt := 122) hx hb dX4_copy_112 (by decide) (by omega) (fun c112 => ?_) (fun c112 => ?_)
              · obtain ⟨a, ha, ea⟩ : ∃ a : Nat, fr = nI a ∧ fr.toInt = (a : Int) := ⟨fr.toInt.toNat, nI_ofZ rfl (by omega), by omega⟩
                rw [ha] at hl
                obtain ⟨g, hg, eg⟩ : ∃ g : Nat, gg = nI g ∧ gg.toInt = (g : Int) := ⟨gg.toInt.toNat, nI_ofZ rfl (by omega), by omega⟩
                rw [hg] at hl
                obtain ⟨y, hy, ey⟩ : ∃ y : Nat, z = nI y ∧ z.toInt = (y : Int) := ⟨z.toInt.toNat, nI_ofZ rfl (by omega), by omega⟩
                rw [hy] at hl
                refine lv_aload_n hx hb dX4_copy_122 rfl (lv_at hl 0 rfl) ?_
                refine sg_get (ci := 3) (C := RX4) (T := TX4) (N := 7) (v := .ref (sh 0)) hx hb hts (fun _ h => List.mem_cons_of_mem _ (List.mem_append_left _ (List.mem_append_right _ h))) hown hK hW 0 0 rfl rfl rfl 5 (by decide) (hts _ (List.mem_of_getElem? (i := 1) rfl)) rfl dX4_copy_123 ?_
                refine lv_iload_n hx hb dX4_copy_126 rfl (lv_at hl 1 rfl) ?_
                refine lv_iload_n hx hb dX4_copy_127 rfl (lv_at hl 2 rfl) ?_
                refine lv_iload_n hx hb dX4_copy_128 rfl (lv_at hl 3 rfl) ?_
                refine lv_iload hx hb dX4_copy_129 (lv_at hl 4 rfl) ?_
                refine lv_iload hx hb dX4_copy_131 (lv_at hl 5 rfl) ?_
                refine cl_Vv (As := [.int (nI j), .int (nI a), .int (nI k), .int (nI g), .int (nI y)]) (rest := []) (C := RX2) ⟨hx, hb, hml, hown, hts⟩ (M_X2_move l D cI cJ sh B Z C j a k g y (by omega) (by omega) (by omega) (by omega)) (cwV 5 hts gX4_copy_X2_move rfl rfl rfl qX2_move ⟨Nat.le_of_ble_eq_true rfl, Nat.le_of_ble_eq_true rfl⟩) E0_good hK hA hW trivial [false, true] (fun _ => [xH x la ta ka tp sh fi ik, sW cI cJ sh B Z (va_cpy C C (j * 40 + a) (k * 40 + g) y), aI cI fi 7 F]) rfl (fun _ => rfl) (fun _ => rfl) 1 0 rfl rfl rfl rfl hl.1 rfl (lv_room (Nat.le_of_ble_eq_true rfl)) dX4_copy_133 ⟨Nat.zero_le _, Nat.zero_le _⟩ (fun _ H locs _ hW => ?_)
                refine lv_iload hx hb dX4_copy_136 (lv_at hl 5 rfl) ?_
                exact rt_i hQ hx hb hr hlocks hW dX4_copy_138 () (by (try simp only [copyV, ej, ek, ea, eg, ey, Int.toNat_natCast]); (repeat' split) <;> first | rfl | (exfalso; omega)) trivial (by (try simp only [copyC, copyF, ej, ek, ea, eg, ey, Int.toNat_natCast]); (repeat' split) <;> first | rfl | (exfalso; omega))
              · refine lv_aload_n hx hb dX4_copy_115 rfl (lv_at hl 0 rfl) ?_
                refine lv_ldc (v := -1000000001) hx hb hown (hts _ (List.mem_of_getElem? (i := 2) rfl)) dX4_copy_116 ?_
                refine cl_Vi (As := [.int (-1000000001)]) (rest := []) (C := RX4) ⟨hx, hb, hml, hown, hts⟩ (M_X4_tell l D cI cJ x fi ik la ta ka tp sh F 0 (by decide) (-1000000001) (by decide +kernel)) (cwV 1 hts gX4_copy_X4_tell rfl rfl rfl qX4_tell ⟨Nat.le_of_ble_eq_true rfl, Nat.le_of_ble_eq_true rfl⟩) E0_good hK hA hW trivial [true, false, true] (fun _ => [xH x la ta ka tp sh fi ik, sW cI cJ sh B Z C, aI cI fi 7 (up F 0 (F 0 + 1))]) rfl (fun _ => rfl) (fun _ => rfl) 0 0 rfl rfl rfl rfl hl.1 rfl (lv_room (Nat.le_of_ble_eq_true rfl)) dX4_copy_118 ⟨Nat.zero_le _, Nat.zero_le _⟩ (fun _ H locs _ hW => ?_)
                exact rt_i hQ hx hb hr hlocks hW dX4_copy_121 () (by (try simp only [copyV, ej, ek, Int.toNat_natCast]); (repeat' split) <;> first | rfl | (exfalso; omega)) trivial (by (try simp only [copyC, copyF, ej, ek, Int.toNat_natCast]); (repeat' split) <;> first | rfl | (exfalso; omega))
          · refine lv_aload_n hx hb dX4_copy_79 rfl (lv_at hl 0 rfl) ?_
            refine lv_ldc (v := -1000000003) hx hb hown (hts _ (List.mem_of_getElem? (i := 5) rfl)) dX4_copy_80 ?_
            refine cl_Vi (As := [.int (-1000000003)]) (rest := []) (C := RX4) ⟨hx, hb, hml, hown, hts⟩ (M_X4_tell l D cI cJ x fi ik la ta ka tp sh F 2 (by decide) (-1000000003) (by decide +kernel)) (cwV 1 hts gX4_copy_X4_tell rfl rfl rfl qX4_tell ⟨Nat.le_of_ble_eq_true rfl, Nat.le_of_ble_eq_true rfl⟩) E0_good hK hA hW trivial [true, false, true] (fun _ => [xH x la ta ka tp sh fi ik, sW cI cJ sh B Z C, aI cI fi 7 (up F 2 (F 2 + 1))]) rfl (fun _ => rfl) (fun _ => rfl) 0 0 rfl rfl rfl rfl hl.1 rfl (lv_room (Nat.le_of_ble_eq_true rfl)) dX4_copy_82 ⟨Nat.zero_le _, Nat.zero_le _⟩ (fun _ H locs _ hW => ?_)
            exact rt_i hQ hx hb hr hlocks hW dX4_copy_85 () (by (try simp only [copyV, ej, ek, Int.toNat_natCast]); (repeat' split) <;> first | rfl | (exfalso; omega)) trivial (by (try simp only [copyC, copyF, ej, ek, Int.toNat_natCast]); (repeat' split) <;> first | rfl | (exfalso; omega))
        · refine lv_aload_n hx hb dX4_copy_51 rfl (lv_at hl 0 rfl) ?_
          refine lv_ldc (v := -1000000006) hx hb hown (hts _ (List.mem_of_getElem? (i := 3) rfl)) dX4_copy_52 ?_
          refine cl_Vi (As := [.int (-1000000006)]) (rest := []) (C := RX4) ⟨hx, hb, hml, hown, hts⟩ (M_X4_tell l D cI cJ x fi ik la ta ka tp sh F 5 (by decide) (-1000000006) (by decide +kernel)) (cwV 1 hts gX4_copy_X4_tell rfl rfl rfl qX4_tell ⟨Nat.le_of_ble_eq_true rfl, Nat.le_of_ble_eq_true rfl⟩) E0_good hK hA hW trivial [true, false, true] (fun _ => [xH x la ta ka tp sh fi ik, sW cI cJ sh B Z C, aI cI fi 7 (up F 5 (F 5 + 1))]) rfl (fun _ => rfl) (fun _ => rfl) 0 0 rfl rfl rfl rfl hl.1 rfl (lv_room (Nat.le_of_ble_eq_true rfl)) dX4_copy_54 ⟨Nat.zero_le _, Nat.zero_le _⟩ (fun _ H locs _ hW => ?_)
          exact rt_i hQ hx hb hr hlocks hW dX4_copy_57 () (by (try simp only [copyV, ej, ek, Int.toNat_natCast]); (repeat' split) <;> first | rfl | (exfalso; omega)) trivial (by (try simp only [copyC, copyF, ej, ek, Int.toNat_natCast]); (repeat' split) <;> first | rfl | (exfalso; omega))
    · refine lv_aload_n hx hb dX4_copy_22 rfl (lv_at hl 0 rfl) ?_
      refine lv_ldc (v := -1000000001) hx hb hown (hts _ (List.mem_of_getElem? (i := 2) rfl)) dX4_copy_23 ?_
      refine cl_Vi (As := [.int (-1000000001)]) (rest := []) (C := RX4) ⟨hx, hb, hml, hown, hts⟩ (M_X4_tell l D cI cJ x fi ik la ta ka tp sh F 0 (by decide) (-1000000001) (by decide +kernel)) (cwV 1 hts gX4_copy_X4_tell rfl rfl rfl qX4_tell ⟨Nat.le_of_ble_eq_true rfl, Nat.le_of_ble_eq_true rfl⟩) E0_good hK hA hW trivial [true, false, true] (fun _ => [xH x la ta ka tp sh fi ik, sW cI cJ sh B Z C, aI cI fi 7 (up F 0 (F 0 + 1))]) rfl (fun _ => rfl) (fun _ => rfl) 0 0 rfl rfl rfl rfl hl.1 rfl (lv_room (Nat.le_of_ble_eq_true rfl)) dX4_copy_25 ⟨Nat.zero_le _, Nat.zero_le _⟩ (fun _ H locs _ hW => ?_)
      exact rt_i hQ hx hb hr hlocks hW dX4_copy_28 () (by (try simp only [copyV]); (repeat' split) <;> first | rfl | (exfalso; omega)) trivial (by (try simp only [copyC, copyF]); (repeat' split) <;> first | rfl | (exfalso; omega))
abbrev rmX5_notCopied : Room := { frames := 2, cells := 0, slots := 0, locals := 43 }
set_option maxRecDepth 100000 in
set_option maxHeartbeats 4000000 in
theorem M_X5_notCopied (l : Launch) (D : va_G) (cI cJ : ClassId) (mo R B Z : Nat → Nat) (hS : OkS B Z) (v fr w gg z : Int32) : CE E0 l D vwCl [(cI, .int), (cJ, .long)] yX5_notCopied wsX5_notCopied rmX5_notCopied [.ref (mo 0), .int v, .int fr, .int w, .int gg, .int z] [mH mo R, aI cI (mo 6) 4 B, aI cI (mo 7) 4 Z] (S := Unit) (some (.int (ncV B Z v.toInt fr.toInt w.toInt gg.toInt z.toInt))) (fun _ => True) (fun _ : Unit => [mH mo R, aI cI (mo 6) 4 B, aI cI (mo 7) 4 Z]) 0 0 := by
  refine CE.ofW (cc := cX5_notCopied) (maxL := 7) (ret := (some .int)) (lv := [(0, .ref (mo 0)), (1, .int v), (2, .int fr), (3, .int w), (4, .int gg), (5, .int z)]) (by decide) rfl (Nat.le_of_ble_eq_true rfl) rfl ?_
  intro p e s m args below meth c ls A Q hQ hx hb hml hr hlocks hnm hown hts hK hA hE hW hl
  have hown : s.vm.findClass RX5 = some m.cls := hown
  refine lv_iload_n hx hb dX5_notCopied_0 rfl (lv_at hl 1 rfl) ?_
  refine cl_Si (As := [.int v]) (rest := []) ⟨hx, hb, hml, hown, hts⟩ (M_X5_isSheet l D cI cJ v) (va_cwS 1 hts gX5_notCopied_X5_isSheet rfl rfl rfl qX5_isSheet ⟨Nat.le_of_ble_eq_true rfl, Nat.le_of_ble_eq_true rfl⟩) E0_good hK hA hW trivial [] (fun _ => [mH mo R, aI cI (mo 6) 4 B, aI cI (mo 7) 4 Z]) rfl (fun _ => rfl) (fun _ => rfl) rfl hl.1 rfl (lv_room (Nat.le_of_ble_eq_true rfl)) dX5_notCopied_1 ⟨Nat.zero_le _, Nat.zero_le _⟩ (fun _ H locs _ hW => ?_)
  have hin_ := inZ_or v.toInt 0 3
  refine nn_zeq (tgt := 14) hx hb dX5_notCopied_4 (by decide) (by omega) (fun c4 => ?_) (fun c4 => ?_)
  · refine lv_ldc (v := -1000000001) hx hb hown (hts _ (List.mem_of_getElem? (i := 1) rfl)) dX5_notCopied_14 ?_
    exact rt_i hQ hx hb hr hlocks hW dX5_notCopied_16 () (by (try simp only [ncV]); (repeat' split) <;> first | rfl | (exfalso; omega)) trivial rfl
  · refine lv_iload_n hx hb dX5_notCopied_7 rfl (lv_at hl 3 rfl) ?_
    refine cl_Si (As := [.int w]) (rest := []) ⟨hx, hb, hml, hown, hts⟩ (M_X5_isSheet l D cI cJ w) (va_cwS 1 hts gX5_notCopied_X5_isSheet rfl rfl rfl qX5_isSheet ⟨Nat.le_of_ble_eq_true rfl, Nat.le_of_ble_eq_true rfl⟩) E0_good hK hA hW trivial [] (fun _ => [mH mo R, aI cI (mo 6) 4 B, aI cI (mo 7) 4 Z]) rfl (fun _ => rfl) (fun _ => rfl) rfl hl.1 rfl (lv_room (Nat.le_of_ble_eq_true rfl)) dX5_notCopied_8 ⟨Nat.zero_le _, Nat.zero_le _⟩ (fun _ H locs _ hW => ?_)
    have hin_ := inZ_or w.toInt 0 3
    refine nn_zne (tgt := 17) hx hb dX5_notCopied_11 (by decide) (by omega) (fun c11 => ?_) (fun c11 => ?_)
    · obtain ⟨j, hj, ej⟩ : ∃ j : Nat, v = nI j ∧ v.toInt = (j : Int) := ⟨v.toInt.toNat, nI_ofZ rfl (by omega), by omega⟩
      rw [hj] at hl
      obtain ⟨k, hk, ek⟩ : ∃ k : Nat, w = nI k ∧ w.toInt = (k : Int) := ⟨w.toInt.toNat, nI_ofZ rfl (by omega), by omega⟩
      rw [hk] at hl
      have hSj := hS j (by omega)
      have hSk := hS k (by omega)
      refine lv_aload_n hx hb dX5_notCopied_17 rfl (lv_at hl 0 rfl) ?_
      refine sg_get (ci := 4) (C := RX5) (T := TX5) (N := 15) (v := .ref (mo 6)) hx hb hts (fun _ h => List.mem_cons_of_mem _ (List.mem_append_right _ h)) hown hK hW 0 0 rfl rfl rfl 12 (by decide) (hts _ (List.mem_of_getElem? (i := 2) rfl)) rfl dX5_notCopied_18 ?_
      refine lv_iload_n hx hb dX5_notCopied_21 rfl (lv_at hl 1 rfl) ?_
      refine sg_ild (v := nI (B j)) hx hb hK hW 1 0 0 rfl rfl rfl (by omega) (by decide) rfl dX5_notCopied_22 ?_
      refine nn_zeq (tgt := 35) hx hb dX5_notCopied_23 (by decide) (by omega) (fun c23 => ?_) (fun c23 => ?_)
      · refine lv_ldc (v := -1000000006) hx hb hown (hts _ (List.mem_of_getElem? (i := 3) rfl)) dX5_notCopied_35 ?_
        exact rt_i hQ hx hb hr hlocks hW dX5_notCopied_37 () (by (try simp only [ncV, ej, ek, Int.toNat_natCast]); (repeat' split) <;> first | rfl | (exfalso; omega)) trivial rfl
      · refine lv_aload_n hx hb dX5_notCopied_26 rfl (lv_at hl 0 rfl) ?_
        refine sg_get (ci := 4) (C := RX5) (T := TX5) (N := 15) (v := .ref (mo 6)) hx hb hts (fun _ h => List.mem_cons_of_mem _ (List.mem_append_right _ h)) hown hK hW 0 0 rfl rfl rfl 12 (by decide) (hts _ (List.mem_of_getElem? (i := 2) rfl)) rfl dX5_notCopied_27 ?_
        refine lv_iload_n hx hb dX5_notCopied_30 rfl (lv_at hl 3 rfl) ?_
        refine sg_ild (v := nI (B k)) hx hb hK hW 1 0 0 rfl rfl rfl (by omega) (by decide) rfl dX5_notCopied_31 ?_
        refine nn_zne (tgt := 38) hx hb dX5_notCopied_32 (by decide) (by omega) (fun c32 => ?_) (fun c32 => ?_)
        · refine lv_aload_n hx hb dX5_notCopied_38 rfl (lv_at hl 0 rfl) ?_
          refine sg_get (ci := 4) (C := RX5) (T := TX5) (N := 15) (v := .ref (mo 6)) hx hb hts (fun _ h => List.mem_cons_of_mem _ (List.mem_append_right _ h)) hown hK hW 0 0 rfl rfl rfl 12 (by decide) (hts _ (List.mem_of_getElem? (i := 2) rfl)) rfl dX5_notCopied_39 ?_
          refine lv_iload_n hx hb dX5_notCopied_42 rfl (lv_at hl 1 rfl) ?_
          refine sg_ild (v := nI (B j)) hx hb hK hW 1 0 0 rfl rfl rfl (by omega) (by decide) rfl dX5_notCopied_43 ?_
          refine lv_aload_n hx hb dX5_notCopied_44 rfl (lv_at hl 0 rfl) ?_
          refine sg_get (ci := 4) (C := RX5) (T := TX5) (N := 15) (v := .ref (mo 6)) hx hb hts (fun _ h => List.mem_cons_of_mem _ (List.mem_append_right _ h)) hown hK hW 0 0 rfl rfl rfl 12 (by decide) (hts _ (List.mem_of_getElem? (i := 2) rfl)) rfl dX5_notCopied_45 ?_
          refine lv_iload_n hx hb dX5_notCopied_48 rfl (lv_at hl 3 rfl) ?_
          refine sg_ild (v := nI (B k)) hx hb hK hW 1 0 0 rfl rfl rfl (by omega) (by decide) rfl dX5_notCopied_49 ?_
          refine nn_ceq (tgt := 56) hx hb dX5_notCopied_50 (by decide) (by omega) (by omega) (fun c50 => ?_) (fun c50 => ?_)
          · refine lv_iload hx hb dX5_notCopied_56 (lv_at hl 5 rfl) ?_
            refine zz_zlt (tgt := 101) hx hb dX5_notCopied_58 (by decide) (rfl : z.toInt = z.toInt) (fun c58 => ?_) (fun c58 => ?_)
            · refine lv_iconst (v := nI 0) hx hb dX5_notCopied_101 (by decide +kernel) ?_
              refine lv_istore (lv' := [(6, .int (nI 0)), (0, .ref (mo 0)), (1, .int (nI j)), (2, .int fr), (3, .int (nI k)), (4, .int gg), (5, .int z)]) hx hb dX5_notCopied_102 hl (by decide) rfl (fun ls hl => ?_)
              refine lv_iload hx hb dX5_notCopied_104 (lv_at hl 0 rfl) ?_
              refine nn_zeq (tgt := 113) hx hb dX5_notCopied_106 (by decide) (by decide) (fun c106 => ?_) (fun c106 => ?_)
              · refine lv_ldc (v := -1000000001) hx hb hown (hts _ (List.mem_of_getElem? (i := 1) rfl)) dX5_notCopied_113 ?_
                exact rt_i hQ hx hb hr hlocks hW dX5_notCopied_115 () (by (try simp only [ncV, ej, ek, Int.toNat_natCast]); (repeat' split) <;> first | rfl | (exfalso; omega)) trivial rfl
              · exfalso; omega
            · refine lv_iload_n hx hb dX5_notCopied_61 rfl (lv_at hl 2 rfl) ?_
              refine zz_zlt (tgt := 101) hx hb dX5_notCopied_62 (by decide) (rfl : fr.toInt = fr.toInt) (fun c62 => ?_) (fun c62 => ?_)
              · refine lv_iconst (v := nI 0) hx hb dX5_notCopied_101 (by decide +kernel) ?_
                refine lv_istore (lv' := [(6, .int (nI 0)), (0, .ref (mo 0)), (1, .int (nI j)), (2, .int fr), (3, .int (nI k)), (4, .int gg), (5, .int z)]) hx hb dX5_notCopied_102 hl (by decide) rfl (fun ls hl => ?_)
                refine lv_iload hx hb dX5_notCopied_104 (lv_at hl 0 rfl) ?_
                refine nn_zeq (tgt := 113) hx hb dX5_notCopied_106 (by decide) (by decide) (fun c106_1 => ?_) (fun c106_1 => ?_)
                · refine lv_ldc (v := -1000000001) hx hb hown (hts _ (List.mem_of_getElem? (i := 1) rfl)) dX5_notCopied_113 ?_
                  exact rt_i hQ hx hb hr hlocks hW dX5_notCopied_115 () (by (try simp only [ncV, ej, ek, Int.toNat_natCast]); (repeat' split) <;> first | rfl | (exfalso; omega)) trivial rfl
                · exfalso; omega
              · refine lv_iload hx hb dX5_notCopied_65 (lv_at hl 4 rfl) ?_
                refine zz_zlt (tgt := 101) hx hb dX5_notCopied_67 (by decide) (rfl : gg.toInt = gg.toInt) (fun c67 => ?_) (fun c67 => ?_)
                · refine lv_iconst (v := nI 0) hx hb dX5_notCopied_101 (by decide +kernel) ?_
                  refine lv_istore (lv' := [(6, .int (nI 0)), (0, .ref (mo 0)), (1, .int (nI j)), (2, .int fr), (3, .int (nI k)), (4, .int gg), (5, .int z)]) hx hb dX5_notCopied_102 hl (by decide) rfl (fun ls hl => ?_)
                  refine lv_iload hx hb dX5_notCopied_104 (lv_at hl 0 rfl) ?_
                  refine nn_zeq (tgt := 113) hx hb dX5_notCopied_106 (by decide) (by decide) (fun c106_2 => ?_) (fun c106_2 => ?_)
                  · refine lv_ldc (v := -1000000001) hx hb hown (hts _ (List.mem_of_getElem? (i := 1) rfl)) dX5_notCopied_113 ?_
                    exact rt_i hQ hx hb hr hlocks hW dX5_notCopied_115 () (by (try simp only [ncV, ej, ek, Int.toNat_natCast]); (repeat' split) <;> first | rfl | (exfalso; omega)) trivial rfl
                  · exfalso; omega
                · refine lv_iload hx hb dX5_notCopied_70 (lv_at hl 5 rfl) ?_
                  refine lv_aload_n hx hb dX5_notCopied_72 rfl (lv_at hl 0 rfl) ?_
                  refine sg_get (ci := 4) (C := RX5) (T := TX5) (N := 15) (v := .ref (mo 7)) hx hb hts (fun _ h => List.mem_cons_of_mem _ (List.mem_append_right _ h)) hown hK hW 0 0 rfl rfl rfl 13 (by decide) (hts _ (List.mem_of_getElem? (i := 5) rfl)) rfl dX5_notCopied_73 ?_
                  refine lv_iload_n hx hb dX5_notCopied_76 rfl (lv_at hl 1 rfl) ?_
                  refine sg_ild (v := nI (Z j)) hx hb hK hW 2 0 0 rfl rfl rfl (by omega) (by decide) rfl dX5_notCopied_77 ?_
                  refine lv_iload_n hx hb dX5_notCopied_78 rfl (lv_at hl 2 rfl) ?_
                  refine lv_isub hx hb dX5_notCopied_79 ?_
                  refine zz_cgt (tgt := 101) hx hb dX5_notCopied_80 (by decide) (rfl : z.toInt = z.toInt) (subZ (by omega) (by omega)) (fun c80 => ?_) (fun c80 => ?_)
                  · refine lv_iconst (v := nI 0) hx hb dX5_notCopied_101 (by decide +kernel) ?_
                    refine lv_istore (lv' := [(6, .int (nI 0)), (0, .ref (mo 0)), (1, .int (nI j)), (2, .int fr), (3, .int (nI k)), (4, .int gg), (5, .int z)]) hx hb dX5_notCopied_102 hl (by decide) rfl (fun ls hl => ?_)
                    refine lv_iload hx hb dX5_notCopied_104 (lv_at hl 0 rfl) ?_
                    refine nn_zeq (tgt := 113) hx hb dX5_notCopied_106 (by decide) (by decide) (fun c106_3 => ?_) (fun c106_3 => ?_)
                    · refine lv_ldc (v := -1000000001) hx hb hown (hts _ (List.mem_of_getElem? (i := 1) rfl)) dX5_notCopied_113 ?_
                      exact rt_i hQ hx hb hr hlocks hW dX5_notCopied_115 () (by (try simp only [ncV, ej, ek, Int.toNat_natCast]); (repeat' split) <;> first | rfl | (exfalso; omega)) trivial rfl
                    · exfalso; omega
                  · refine lv_iload hx hb dX5_notCopied_83 (lv_at hl 5 rfl) ?_
                    refine lv_aload_n hx hb dX5_notCopied_85 rfl (lv_at hl 0 rfl) ?_
                    refine sg_get (ci := 4) (C := RX5) (T := TX5) (N := 15) (v := .ref (mo 7)) hx hb hts (fun _ h => List.mem_cons_of_mem _ (List.mem_append_right _ h)) hown hK hW 0 0 rfl rfl rfl 13 (by decide) (hts _ (List.mem_of_getElem? (i := 5) rfl)) rfl dX5_notCopied_86 ?_
                    refine lv_iload_n hx hb dX5_notCopied_89 rfl (lv_at hl 3 rfl) ?_
                    refine sg_ild (v := nI (Z k)) hx hb hK hW 2 0 0 rfl rfl rfl (by omega) (by decide) rfl dX5_notCopied_90 ?_
                    refine lv_iload hx hb dX5_notCopied_91 (lv_at hl 4 rfl) ?_
                    refine lv_isub hx hb dX5_notCopied_93 ?_
                    refine zz_cgt (tgt := 101) hx hb dX5_notCopied_94 (by decide) (rfl : z.toInt = z.toInt) (subZ (by omega) (by omega)) (fun c94 => ?_) (fun c94 => ?_)
                    · refine lv_iconst (v := nI 0) hx hb dX5_notCopied_101 (by decide +kernel) ?_
                      refine lv_istore (lv' := [(6, .int (nI 0)), (0, .ref (mo 0)), (1, .int (nI j)), (2, .int fr), (3, .int (nI k)), (4, .int gg), (5, .int z)]) hx hb dX5_notCopied_102 hl (by decide) rfl (fun ls hl => ?_)
                      refine lv_iload hx hb dX5_notCopied_104 (lv_at hl 0 rfl) ?_
                      refine nn_zeq (tgt := 113) hx hb dX5_notCopied_106 (by decide) (by decide) (fun c106_4 => ?_) (fun c106_4 => ?_)
                      · refine lv_ldc (v := -1000000001) hx hb hown (hts _ (List.mem_of_getElem? (i := 1) rfl)) dX5_notCopied_113 ?_
                        exact rt_i hQ hx hb hr hlocks hW dX5_notCopied_115 () (by (try simp only [ncV, ej, ek, Int.toNat_natCast]); (repeat' split) <;> first | rfl | (exfalso; omega)) trivial rfl
                      · exfalso; omega
                    · refine lv_iconst (v := nI 1) hx hb dX5_notCopied_97 (by decide +kernel) ?_
                      refine lv_goto (tgt := 102) hx hb dX5_notCopied_98 (by decide) ?_
                      refine lv_istore (lv' := [(6, .int (nI 1)), (0, .ref (mo 0)), (1, .int (nI j)), (2, .int fr), (3, .int (nI k)), (4, .int gg), (5, .int z)]) hx hb dX5_notCopied_102 hl (by decide) rfl (fun ls hl => ?_)
                      refine lv_iload hx hb dX5_notCopied_104 (lv_at hl 0 rfl) ?_
                      refine nn_zeq (tgt := 113) hx hb dX5_notCopied_106 (by decide) (by decide) (fun c106_5 => ?_) (fun c106_5 => ?_)
                      · exfalso; omega
                      · refine lv_iconst (v := nI 0) hx hb dX5_notCopied_109 (by decide +kernel) ?_
                        refine lv_goto (tgt := 115) hx hb dX5_notCopied_110 (by decide) ?_
                        exact rt_i hQ hx hb hr hlocks hW dX5_notCopied_115 () (by (try simp only [ncV, ej, ek, Int.toNat_natCast]); (repeat' split) <;> first | rfl | (exfalso; omega)) trivial rfl
          · refine lv_ldc (v := -1000000003) hx hb hown (hts _ (List.mem_of_getElem? (i := 4) rfl)) dX5_notCopied_53 ?_
            exact rt_i hQ hx hb hr hlocks hW dX5_notCopied_55 () (by (try simp only [ncV, ej, ek, Int.toNat_natCast]); (repeat' split) <;> first | rfl | (exfalso; omega)) trivial rfl
        · refine lv_ldc (v := -1000000006) hx hb hown (hts _ (List.mem_of_getElem? (i := 3) rfl)) dX5_notCopied_35 ?_
          exact rt_i hQ hx hb hr hlocks hW dX5_notCopied_37 () (by (try simp only [ncV, ej, ek, Int.toNat_natCast]); (repeat' split) <;> first | rfl | (exfalso; omega)) trivial rfl
    · refine lv_ldc (v := -1000000001) hx hb hown (hts _ (List.mem_of_getElem? (i := 1) rfl)) dX5_notCopied_14 ?_
      exact rt_i hQ hx hb hr hlocks hW dX5_notCopied_16 () (by (try simp only [ncV]); (repeat' split) <;> first | rfl | (exfalso; omega)) trivial rfl
