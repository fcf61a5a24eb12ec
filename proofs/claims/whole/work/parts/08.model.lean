theorem qX5_in : yX5_in.cls ≠ "java/lang/invoke/MethodHandle" ∧ yX5_in.cls ≠ "java/lang/invoke/VarHandle" ∧ (parseMethodDescriptor yX5_in.desc).map (fun d => d.parameters.length) = some 3 := by decide +kernel
theorem qX5_clock : yX5_clock.cls = RX5 ∧ yX5_clock.cls ≠ "java/lang/invoke/MethodHandle" ∧ yX5_clock.cls ≠ "java/lang/invoke/VarHandle" ∧ (parseMethodDescriptor yX5_clock.desc).map (fun d => d.parameters.length) = some 0 := by decide +kernel
theorem qX5_it : yX5_it.cls = RX5 ∧ yX5_it.cls ≠ "java/lang/invoke/MethodHandle" ∧ yX5_it.cls ≠ "java/lang/invoke/VarHandle" ∧ (parseMethodDescriptor yX5_it.desc).map (fun d => d.parameters.length) = some 2 := by decide +kernel
theorem qX5_about : yX5_about.cls = RX5 ∧ yX5_about.cls ≠ "java/lang/invoke/MethodHandle" ∧ yX5_about.cls ≠ "java/lang/invoke/VarHandle" ∧ (parseMethodDescriptor yX5_about.desc).map (fun d => d.parameters.length) = some 2 := by decide +kernel
theorem qX5_outOnes : yX5_outOnes.cls = RX5 ∧ yX5_outOnes.cls ≠ "java/lang/invoke/MethodHandle" ∧ yX5_outOnes.cls ≠ "java/lang/invoke/VarHandle" ∧ (parseMethodDescriptor yX5_outOnes.desc).map (fun d => d.parameters.length) = some 0 := by decide +kernel
theorem qX5_bits : yX5_bits.cls ≠ "java/lang/invoke/MethodHandle" ∧ yX5_bits.cls ≠ "java/lang/invoke/VarHandle" ∧ (parseMethodDescriptor yX5_bits.desc).map (fun d => d.parameters.length) = some 1 := by decide +kernel
theorem qX5_others : yX5_others.cls = RX5 ∧ yX5_others.cls ≠ "java/lang/invoke/MethodHandle" ∧ yX5_others.cls ≠ "java/lang/invoke/VarHandle" ∧ (parseMethodDescriptor yX5_others.desc).map (fun d => d.parameters.length) = some 1 := by decide +kernel
theorem qX5_isNight : yX5_isNight.cls = RX5 ∧ yX5_isNight.cls ≠ "java/lang/invoke/MethodHandle" ∧ yX5_isNight.cls ≠ "java/lang/invoke/VarHandle" ∧ (parseMethodDescriptor yX5_isNight.desc).map (fun d => d.parameters.length) = some 0 := by decide +kernel
theorem qX5_riders : yX5_riders.cls = RX5 ∧ yX5_riders.cls ≠ "java/lang/invoke/MethodHandle" ∧ yX5_riders.cls ≠ "java/lang/invoke/VarHandle" ∧ (parseMethodDescriptor yX5_riders.desc).map (fun d => d.parameters.length) = some 0 := by decide +kernel
theorem qX5_isWet : yX5_isWet.cls = RX5 ∧ yX5_isWet.cls ≠ "java/lang/invoke/MethodHandle" ∧ yX5_isWet.cls ≠ "java/lang/invoke/VarHandle" ∧ (parseMethodDescriptor yX5_isWet.desc).map (fun d => d.parameters.length) = some 0 := by decide +kernel
theorem qX5_keepsBack : yX5_keepsBack.cls = RX5 ∧ yX5_keepsBack.cls ≠ "java/lang/invoke/MethodHandle" ∧ yX5_keepsBack.cls ≠ "java/lang/invoke/VarHandle" ∧ (parseMethodDescriptor yX5_keepsBack.desc).map (fun d => d.parameters.length) = some 1 := by decide +kernel
def inZ (z a b : Int) : Nat := if a ≤ z ∧ z ≤ b then 1 else 0
theorem inZ_le (z a b : Int) : inZ z a b ≤ 1 := by unfold inZ; split <;> omega
theorem inN_le (x : Int32) (n : Nat) : inN x n ≤ 1 := by unfold inN; split <;> omega
def heldV (z : Int) (lo hi : Nat) : Nat := if z < lo then lo else if hi < z then hi else z.toNat
theorem nI_ofZ {x : Int32} {z : Int} (h : x.toInt = z) (h0 : 0 ≤ z) : x = nI z.toNat := by
  apply zz_eq.mpr
  have := Int32.toInt_lt x
  rw [nI_toInt (by omega), h]; omega
theorem bit_narrow {k : Nat} (h : k ≤ 1) : narrow .boolean (.int (nI k)) = .int (nI k) := by
  rcases (show k = 0 ∨ k = 1 by omega) with q | q <;> rw [q] <;> decide +kernel
def bitsN (n : Nat) : Nat := sumN (fun i => n / 2 ^ i % 2) 8
theorem bits_step : ∀ r, r < 256 → ¬ r = 0 → bitsN (r &&& (r - 1)) + 1 = bitsN r ∧ (r &&& (r - 1)) < r := by decide +kernel
theorem bits_0 : bitsN 0 = 0 := by decide +kernel
def clrN (n a : Nat) : Nat := n - n / 2 ^ a % 2 * 2 ^ a
theorem clr_eq : ∀ n, n < 256 → ∀ a, a < 8 → nI n &&& (nI (1 * 2 ^ a) ^^^ (-1)) = nI (clrN n a) ∧ clrN n a < 256 ∧ bitsN (clrN n a) = bitsN n - n / 2 ^ a % 2 := by decide +kernel
theorem setN_bit {f : Nat → Nat} : ∀ {n : Nat}, (∀ i, i < n → f i ≤ 1) → ∀ i, i < n → setN f n / 2 ^ i % 2 = f i
  | 0, _, i, hi => absurd hi (Nat.not_lt_zero i)
  | n + 1, h, i, hi => by
    have h1 := setN_lt (n := n) (fun i hi => h i (by omega))
    have h2 := h n (by omega)
    show (setN f n + f n * 2 ^ n) / 2 ^ i % 2 = f i
    by_cases q : i = n
    · subst q
      rw [Nat.add_mul_div_right _ _ (Nat.two_pow_pos i), Nat.div_eq_of_lt h1, Nat.zero_add]
      omega
    · have h3 := setN_bit (n := n) (fun i hi => h i (by omega)) i (by omega)
      have e : 2 ^ n = 2 * 2 ^ (n - i - 1) * 2 ^ i := by
        rw [Nat.mul_comm 2, ← Nat.pow_succ, ← Nat.pow_add, show (n - i - 1).succ + i = n by omega]
      rw [e, ← Nat.mul_assoc, Nat.add_mul_div_right _ _ (Nat.two_pow_pos i), ← h3]
      rw [show f n * (2 * 2 ^ (n - i - 1)) = 2 * (f n * 2 ^ (n - i - 1)) by rw [Nat.mul_left_comm]]
      omega
theorem setN_high {f : Nat → Nat} {n i : Nat} (h : ∀ i, i < n → f i ≤ 1) (hi : n ≤ i) : setN f n / 2 ^ i % 2 = 0 := by
  have h1 := setN_lt (n := n) h
  rw [Nat.div_eq_of_lt (Nat.lt_of_lt_of_le h1 (Nat.pow_le_pow_right (by decide) hi))]
theorem sumN_cut {f g : Nat → Nat} {n : Nat} (h1 : ∀ i, i < n → g i = f i) (h2 : ∀ i, n ≤ i → g i = 0) : ∀ k, sumN g (n + k) = sumN f n
  | 0 => sumN_cong h1
  | k + 1 => by
    show sumN g (n + k) + g (n + k) = sumN f n
    rw [sumN_cut h1 h2 k, h2 _ (by omega)]; rfl
theorem bits_set {f : Nat → Nat} {n : Nat} (hn : n ≤ 8) (h : ∀ i, i < n → f i ≤ 1) : bitsN (setN f n) = sumN f n := by
  have e := sumN_cut (f := f) (g := fun i => setN f n / 2 ^ i % 2) (n := n) (fun i hi => setN_bit h i hi) (fun i hi => setN_high h hi) (8 - n)
  rw [show n + (8 - n) = 8 by omega] at e
  exact e
theorem outS_lt {b : Nat} {G : Nat → Nat} (h : OkG b G) : outS G < 256 := by
  have h1 := setN_lt (f := fun i => G (8 * i + 2)) (n := G 40) (fun i hi => (h.m i (by have := h.s; omega)).2.1)
  exact Nat.lt_of_lt_of_le h1 (pow8 (by have := h.s; omega))
theorem onS_lt {b : Nat} {G : Nat → Nat} (h : OkG b G) : onS G < 256 := by
  have h1 := setN_lt (f := fun i => G (8 * i + 6)) (n := G 48) (fun i hi => (h.c i (by have := h.s; omega)).2.1)
  exact Nat.lt_of_lt_of_le h1 (pow8 (by have := h.s; omega))
theorem bits_out {b : Nat} {G : Nat → Nat} (h : OkG b G) : bitsN (outS G) = outC G := bits_set (by have := h.s; omega) (fun i hi => (h.m i (by have := h.s; omega)).2.1)
theorem bits_on {b : Nat} {G : Nat → Nat} (h : OkG b G) : bitsN (onS G) = onC G := bits_set (by have := h.s; omega) (fun i hi => (h.c i (by have := h.s; omega)).2.1)
theorem bits_others {b : Nat} {G : Nat → Nat} (h : OkG b G) {a : Nat} (ha : a < G 40) : bitsN (clrN (outS G) a) = outC G - G (8 * a + 2) := by
  have h8 : a < 8 := by have := h.s; omega
  rw [(clr_eq _ (outS_lt h) a h8).2.2, bits_out h]
  have e : outS G / 2 ^ a % 2 = G (8 * a + 2) := setN_bit (f := fun i => G (8 * i + 2)) (n := G 40) (fun i hi => (h.m i (by have := h.s; omega)).2.1) a ha
  rw [e]
abbrev rmX5_finds : Room := { frames := 0, cells := 0, slots := 0, locals := 0 }
set_option maxRecDepth 100000 in
set_option maxHeartbeats 4000000 in
theorem M_X5_finds (l : Launch) (D : va_G) (cI cJ : ClassId) (mo R F : Nat → Nat) (w : Nat) (hw : w < 7) (f : Int32) (hf : (-1000000001) - f = nI w) : CE E0 l D vwCl [(cI, .int), (cJ, .long)] yX5_finds wsX5_finds rmX5_finds [.ref (mo 0), .int f] [mH mo R, aI cI (mo 4) 7 F] (S := Unit) (some (.int f)) (fun _ => True) (fun _ : Unit => [mH mo R, aI cI (mo 4) 7 (up F w (F w + 1))]) 0 0 := by
  refine CE.ofW (cc := cX5_finds) (maxL := 2) (ret := (some .int)) (lv := [(0, .ref (mo 0)), (1, .int f)]) (by decide) rfl (Nat.le_of_ble_eq_true rfl) rfl ?_
  intro p e s m args below meth c ls A Q hQ hx hb hml hr hlocks hnm hown hts hK hA hE hW hl
  have hown : s.vm.findClass RX5 = some m.cls := hown
  refine lv_aload_n hx hb dX5_finds_0 rfl (lv_at hl 0 rfl) ?_
  refine sg_get (ci := 4) (C := RX5) (T := TX5) (N := 15) (v := .ref (mo 4)) hx hb hts (fun _ h => List.mem_cons_of_mem _ (List.mem_append_right _ h)) hown hK hW 0 0 rfl rfl rfl 4 (by decide) (hts _ (List.mem_of_getElem? (i := 1) rfl)) rfl dX5_finds_1 ?_
  refine lv_ldc (v := -1000000001) hx hb hown (hts _ (List.mem_of_getElem? (i := 2) rfl)) dX5_finds_4 ?_
  refine lv_iload_n hx hb dX5_finds_6 rfl (lv_at hl 1 rfl) ?_
  refine lv_isub hx hb dX5_finds_7 ?_
  refine W.top (v' := .int (nI w)) (congrArg Value.int hf) ?_
  refine lv_dup2_11 hx hb dX5_finds_8 rfl rfl ?_
  refine sg_ild (v := nI (F w)) hx hb hK hW 1 0 0 rfl rfl rfl (by omega) (by decide) rfl dX5_finds_9 ?_
  refine lv_iconst (v := nI 1) hx hb dX5_finds_10 (by decide +kernel) ?_
  refine nn_add hx hb dX5_finds_11 ?_
  refine sg_ist hx hb hK hW 1 0 0 rfl rfl rfl (by omega) (by decide) (aI_set cI (mo 4) 7 F w ((F w) + 1)) (ss' := [mH mo R, aI cI (mo 4) 7 (up F w ((F w) + 1))]) rfl dX5_finds_12 (fun H locs hW => ?_)
  refine lv_iload_n hx hb dX5_finds_13 rfl (lv_at hl 1 rfl) ?_
  exact rt_i hQ hx hb hr hlocks hW dX5_finds_14 () rfl trivial rfl
abbrev rmX5_in : Room := { frames := 0, cells := 0, slots := 0, locals := 0 }
set_option maxRecDepth 100000 in
set_option maxHeartbeats 4000000 in
theorem M_X5_in (l : Launch) (D : va_G) (cI cJ : ClassId) (v : Int64) (a b : Int32) : CE E0 l D vwCl [(cI, .int), (cJ, .long)] yX5_in wsX5_in rmX5_in [.long v, .int a, .int b] [] (S := Unit) (some (.int (nI (inZ v.toInt a.toInt b.toInt)))) (fun _ => True) (fun _ : Unit => []) 0 0 := by
  refine CE.ofW (cc := cX5_in) (maxL := 4) (ret := (some .boolean)) (lv := [(0, .long v), (2, .int a), (3, .int b)]) (by decide) rfl (Nat.le_of_ble_eq_true rfl) rfl ?_
  intro p e s m args below meth c ls A Q hQ hx hb hml hr hlocks hnm hown hts hK hA hE hW hl
  have hown : s.vm.findClass RX5 = some m.cls := hown
  have ea : a.toInt64.toInt = a.toInt := Int32.toInt_toInt64 a
  have eb : b.toInt64.toInt = b.toInt := Int32.toInt_toInt64 b
  refine lv_lload_n hx hb dX5_in_0 rfl (lv_at hl 0 rfl) ?_
  refine lv_iload_n hx hb dX5_in_1 rfl (lv_at hl 1 rfl) ?_
  refine lv_i2l (v := (a).toInt64) hx hb dX5_in_2 rfl ?_
  refine W.lcmp hx hb dX5_in_3 ?_
  refine lc_zlt (tgt := 18) hx hb dX5_in_4 (by decide) (fun c4 => ?_) (fun c4 => ?_)
  · refine lv_iconst (v := nI 0) hx hb dX5_in_18 (by decide +kernel) ?_
    exact rt_z hQ hx hb hr hlocks hW dX5_in_19 (by decide +kernel) () (by unfold inZ; (repeat' split) <;> first | rfl | (exfalso; omega) | (congr 3; omega)) trivial rfl
  · refine lv_lload_n hx hb dX5_in_7 rfl (lv_at hl 0 rfl) ?_
    refine lv_iload_n hx hb dX5_in_8 rfl (lv_at hl 2 rfl) ?_
    refine lv_i2l (v := (b).toInt64) hx hb dX5_in_9 rfl ?_
    refine W.lcmp hx hb dX5_in_10 ?_
    refine lc_zgt (tgt := 18) hx hb dX5_in_11 (by decide) (fun c11 => ?_) (fun c11 => ?_)
    · refine lv_iconst (v := nI 0) hx hb dX5_in_18 (by decide +kernel) ?_
      exact rt_z hQ hx hb hr hlocks hW dX5_in_19 (by decide +kernel) () (by unfold inZ; (repeat' split) <;> first | rfl | (exfalso; omega) | (congr 3; omega)) trivial rfl
    · refine lv_iconst (v := nI 1) hx hb dX5_in_14 (by decide +kernel) ?_
      refine lv_goto (tgt := 19) hx hb dX5_in_15 (by decide) ?_
      exact rt_z hQ hx hb hr hlocks hW dX5_in_19 (by decide +kernel) () (by unfold inZ; (repeat' split) <;> first | rfl | (exfalso; omega) | (congr 3; omega)) trivial rfl
theorem M_X5_in2 (l : Launch) (D : va_G) (cI cJ : ClassId) (v : Int64) (a b : Int32) (z za zb : Int) (hz : v.toInt = z) (ha : a.toInt = za) (hb : b.toInt = zb) : CE E0 l D vwCl [(cI, .int), (cJ, .long)] yX5_in wsX5_in rmX5_in [.long v, .int a, .int b] [] (S := Unit) (some (.int (nI (inZ z za zb)))) (fun _ => True) (fun _ : Unit => []) 0 0 := by
  subst hz; subst ha; subst hb
  exact M_X5_in l D cI cJ v a b
abbrev rmX5_held : Room := { frames := 0, cells := 0, slots := 0, locals := 0 }
set_option maxRecDepth 100000 in
set_option maxHeartbeats 4000000 in
theorem M_X5_held (l : Launch) (D : va_G) (cI cJ : ClassId) (v : Int32) (z : Int) (lo hi : Nat) (hz : v.toInt = z) (hlo : lo < 2 ^ 31) (hhi : hi < 2 ^ 31) : CE E0 l D vwCl [(cI, .int), (cJ, .long)] yX5_held wsX5_held rmX5_held [.int v, .int (nI lo), .int (nI hi)] [] (S := Unit) (some (.int (nI (heldV z lo hi)))) (fun _ => True) (fun _ : Unit => []) 0 0 := by
  refine CE.ofW (cc := cX5_held) (maxL := 3) (ret := (some .int)) (lv := [(0, .int v), (1, .int (nI lo)), (2, .int (nI hi))]) (by decide) rfl (Nat.le_of_ble_eq_true rfl) rfl ?_
  intro p e s m args below meth c ls A Q hQ hx hb hml hr hlocks hnm hown hts hK hA hE hW hl
  have hown : s.vm.findClass RX5 = some m.cls := hown
  refine lv_iload_n hx hb dX5_held_0 rfl (lv_at hl 0 rfl) ?_
  refine lv_iload_n hx hb dX5_held_1 rfl (lv_at hl 1 rfl) ?_
  refine zz_cge (tgt := 9) hx hb dX5_held_2 (by decide) hz (nI_toInt (n := lo) (by omega)) (fun c2 => ?_) (fun c2 => ?_)
  · refine lv_iload_n hx hb dX5_held_9 rfl (lv_at hl 0 rfl) ?_
    refine lv_iload_n hx hb dX5_held_10 rfl (lv_at hl 2 rfl) ?_
    refine zz_cle (tgt := 18) hx hb dX5_held_11 (by decide) hz (nI_toInt (n := hi) (by omega)) (fun c11 => ?_) (fun c11 => ?_)
    · refine lv_iload_n hx hb dX5_held_18 rfl (lv_at hl 0 rfl) ?_
      exact rt_i hQ hx hb hr hlocks hW dX5_held_19 () (by unfold heldV; rw [if_neg (by omega), if_neg (by omega), ← nI_ofZ hz (by omega)]) trivial rfl
    · refine lv_iload_n hx hb dX5_held_14 rfl (lv_at hl 2 rfl) ?_
      refine lv_goto (tgt := 19) hx hb dX5_held_15 (by decide) ?_
      exact rt_i hQ hx hb hr hlocks hW dX5_held_19 () (by unfold heldV; (repeat' split) <;> first | rfl | (exfalso; omega)) trivial rfl
  · refine lv_iload_n hx hb dX5_held_5 rfl (lv_at hl 1 rfl) ?_
    refine lv_goto (tgt := 19) hx hb dX5_held_6 (by decide) ?_
    exact rt_i hQ hx hb hr hlocks hW dX5_held_19 () (by unfold heldV; (repeat' split) <;> first | rfl | (exfalso; omega)) trivial rfl
def mixN (f g : Nat → Nat) (i : Nat) : Nat → Nat := fun k => if k < i then f k else g k
theorem mixN_up (f g : Nat → Nat) (i : Nat) : up (mixN f g i) i (f i) = mixN f g (i + 1) := by
  funext k
  unfold up mixN
  by_cases h : k = i
  · subst h; rw [if_pos rfl, if_pos (by omega)]
  · rw [if_neg h]
    by_cases h2 : k < i
    · rw [if_pos h2, if_pos (by omega)]
    · rw [if_neg h2, if_neg (by omega)]
abbrev rmX5_copyAll : Room := { frames := 0, cells := 0, slots := 0, locals := 0 }
set_option maxRecDepth 100000 in
set_option maxHeartbeats 4000000 in
theorem M_X5_copyAll (l : Launch) (D : va_G) (cI cJ : ClassId) (x y : Nat) (f g : Nat → Nat) : CE E0 l D vwCl [(cI, .int), (cJ, .long)] yX5_copyAll wsX5_copyAll rmX5_copyAll [.ref x, .ref y] [aI cI x 57 f, aI cI y 57 g] (S := Unit) none (fun _ => True) (fun _ : Unit => [aI cI x 57 f, aI cI y 57 f]) 0 0 := by
  refine CE.ofW (cc := cX5_copyAll) (maxL := 3) (ret := none) (lv := [(0, .ref x), (1, .ref y)]) (by decide) rfl (Nat.le_of_ble_eq_true rfl) rfl ?_
  intro p e s m args below meth c ls A Q hQ hx hb hml hr hlocks hnm hown hts hK hA hE hW hl
  have hown : s.vm.findClass RX5 = some m.cls := hown
  refine lv_iconst (v := nI 0) hx hb dX5_copyAll_0 (by decide +kernel) ?_
  refine lv_istore_n (lv' := [(2, .int (nI 0)), (0, .ref x), (1, .ref y)]) hx hb dX5_copyAll_1 rfl hl (by decide) rfl (fun ls hl => ?_)
  have lp2 : ∀ (n : Nat) (i : Nat), 57 - i < n → i ≤ 57 → ∀ (H : Heap) (locs : List Loc), Wo D vwCl A s.heap H locs [aI cI x 57 f, aI cI y 57 (mixN f g i)] → ∀ ls : Array Slot, lv_has ls 3 [(2, .int (nI i)), (0, .ref x), (1, .ref y)] → W p l e rmX5_copyAll s m args below meth c H locs 0 0 Q (F0 m 2 ls []) := by
    intro n
    induction n with
    | zero => intro i hm; exact absurd hm (Nat.not_lt_zero _)
    | succ n ih =>
      intro i hm hi H locs hW ls hl
      refine lv_iload_n hx hb dX5_copyAll_2 rfl (lv_at hl 0 rfl) ?_
      refine lv_bipush (v := nI 57) hx hb dX5_copyAll_3 (by decide +kernel) ?_
      refine nn_cge (tgt := 20) hx hb dX5_copyAll_5 (by decide) (by omega) (by decide) (fun c5 => ?_) (fun c5 => ?_)
      · have hi57 : i = 57 := by omega
        subst hi57
        have hW := sg_fn (g := fun k => nI (f k)) hW 1 0 rfl rfl (fun k hk => congrArg nI (if_pos hk)) rfl (ss' := [aI cI x 57 f, aI cI y 57 f]) rfl
        exact rt_v hQ hx hb hr hlocks hW dX5_copyAll_20 () rfl trivial rfl
      · refine lv_aload_n hx hb dX5_copyAll_8 rfl (lv_at hl 2 rfl) ?_
        refine lv_iload_n hx hb dX5_copyAll_9 rfl (lv_at hl 0 rfl) ?_
        refine lv_aload_n hx hb dX5_copyAll_10 rfl (lv_at hl 1 rfl) ?_
        refine lv_iload_n hx hb dX5_copyAll_11 rfl (lv_at hl 0 rfl) ?_
        refine sg_ild (v := nI (f i)) hx hb hK hW 0 0 0 rfl rfl rfl (by omega) (by decide) rfl dX5_copyAll_12 ?_
        refine sg_ist hx hb hK hW 1 0 0 rfl rfl rfl (by omega) (by decide) (aI_set cI y 57 (mixN f g i) i (f i)) (ss' := [aI cI x 57 f, aI cI y 57 (up (mixN f g i) i (f i))]) rfl dX5_copyAll_13 (fun H locs hW => ?_)
        refine lv_iinc (v := nI (i + 1)) (lv' := [(2, .int (nI (i + 1))), (0, .ref x), (1, .ref y)]) hx hb dX5_copyAll_14 hl (k := 0) rfl (nI_add _ 1) (by decide) rfl (fun ls hl => ?_)
        refine lv_goto (tgt := 2) hx hb dX5_copyAll_17 (by decide) ?_
        have hW := hW.to (ss' := [aI cI x 57 f, aI cI y 57 (mixN f g (i + 1))]) (by rw [mixN_up])
        exact ih (i + 1) (by omega) (by omega) _ _ hW _ (lv_sub hl [0, 1, 2] rfl)
  have hW := hW.to (ss' := [aI cI x 57 f, aI cI y 57 (mixN f g 0)]) rfl
  exact lp2 (57 - 0 + 1) 0 (Nat.lt_succ_self _) (by omega) _ _ hW _ (lv_sub hl [0, 1, 2] rfl)
set_option maxRecDepth 100000 in
set_option maxHeartbeats 4000000 in
theorem M_X5_copyAll2 (l : Launch) (D : va_G) (cI cJ : ClassId) (x y : Nat) (f g : Nat → Nat) : CE E0 l D vwCl [(cI, .int), (cJ, .long)] yX5_copyAll wsX5_copyAll rmX5_copyAll [.ref x, .ref y] [aI cI y 57 g, aI cI x 57 f] (S := Unit) none (fun _ => True) (fun _ : Unit => [aI cI y 57 f, aI cI x 57 f]) 0 0 := by
  refine CE.ofW (cc := cX5_copyAll) (maxL := 3) (ret := none) (lv := [(0, .ref x), (1, .ref y)]) (by decide) rfl (Nat.le_of_ble_eq_true rfl) rfl ?_
  intro p e s m args below meth c ls A Q hQ hx hb hml hr hlocks hnm hown hts hK hA hE hW hl
  have hown : s.vm.findClass RX5 = some m.cls := hown
  refine lv_iconst (v := nI 0) hx hb dX5_copyAll_0 (by decide +kernel) ?_
  refine lv_istore_n (lv' := [(2, .int (nI 0)), (0, .ref x), (1, .ref y)]) hx hb dX5_copyAll_1 rfl hl (by decide) rfl (fun ls hl => ?_)
  have lp2 : ∀ (n : Nat) (i : Nat), 57 - i < n → i ≤ 57 → ∀ (H : Heap) (locs : List Loc), Wo D vwCl A s.heap H locs [aI cI y 57 (mixN f g i), aI cI x 57 f] → ∀ ls : Array Slot, lv_has ls 3 [(2, .int (nI i)), (0, .ref x), (1, .ref y)] → W p l e rmX5_copyAll s m args below meth c H locs 0 0 Q (F0 m 2 ls []) := by
    intro n
    induction n with
    | zero => intro i hm; exact absurd hm (Nat.not_lt_zero _)
    | succ n ih =>
      intro i hm hi H locs hW ls hl
      refine lv_iload_n hx hb dX5_copyAll_2 rfl (lv_at hl 0 rfl) ?_
      refine lv_bipush (v := nI 57) hx hb dX5_copyAll_3 (by decide +kernel) ?_
      refine nn_cge (tgt := 20) hx hb dX5_copyAll_5 (by decide) (by omega) (by decide) (fun c5 => ?_) (fun c5 => ?_)
      · have hi57 : i = 57 := by omega
        subst hi57
        have hW := sg_fn (g := fun k => nI (f k)) hW 0 0 rfl rfl (fun k hk => congrArg nI (if_pos hk)) rfl (ss' := [aI cI y 57 f, aI cI x 57 f]) rfl
        exact rt_v hQ hx hb hr hlocks hW dX5_copyAll_20 () rfl trivial rfl
      · refine lv_aload_n hx hb dX5_copyAll_8 rfl (lv_at hl 2 rfl) ?_
        refine lv_iload_n hx hb dX5_copyAll_9 rfl (lv_at hl 0 rfl) ?_
        refine lv_aload_n hx hb dX5_copyAll_10 rfl (lv_at hl 1 rfl) ?_
        refine lv_iload_n hx hb dX5_copyAll_11 rfl (lv_at hl 0 rfl) ?_
        refine sg_ild (v := nI (f i)) hx hb hK hW 1 0 0 rfl rfl rfl (by omega) (by decide) rfl dX5_copyAll_12 ?_
        refine sg_ist hx hb hK hW 0 0 0 rfl rfl rfl (by omega) (by decide) (aI_set cI y 57 (mixN f g i) i (f i)) (ss' := [aI cI y 57 (up (mixN f g i) i (f i)), aI cI x 57 f]) rfl dX5_copyAll_13 (fun H locs hW => ?_)
        refine lv_iinc (v := nI (i + 1)) (lv' := [(2, .int (nI (i + 1))), (0, .ref x), (1, .ref y)]) hx hb dX5_copyAll_14 hl (k := 0) rfl (nI_add _ 1) (by decide) rfl (fun ls hl => ?_)
        refine lv_goto (tgt := 2) hx hb dX5_copyAll_17 (by decide) ?_
        have hW := hW.to (ss' := [aI cI y 57 (mixN f g (i + 1)), aI cI x 57 f]) (by rw [mixN_up])
        exact ih (i + 1) (by omega) (by omega) _ _ hW _ (lv_sub hl [0, 1, 2] rfl)
  have hW := hW.to (ss' := [aI cI y 57 (mixN f g 0), aI cI x 57 f]) rfl
  exact lp2 (57 - 0 + 1) 0 (Nat.lt_succ_self _) (by omega) _ _ hW _ (lv_sub hl [0, 1, 2] rfl)
abbrev rmX5_bits : Room := { frames := 0, cells := 0, slots := 0, locals := 0 }
set_option maxRecDepth 100000 in
set_option maxHeartbeats 4000000 in
theorem M_X5_bits (l : Launch) (D : va_G) (cI cJ : ClassId) (v : Nat) (hv : v < 256) : CE E0 l D vwCl [(cI, .int), (cJ, .long)] yX5_bits wsX5_bits rmX5_bits [.int (nI v)] [] (S := Unit) (some (.int (nI (bitsN v)))) (fun _ => True) (fun _ : Unit => []) 0 0 := by
  refine CE.ofW (cc := cX5_bits) (maxL := 3) (ret := (some .int)) (lv := [(0, .int (nI v))]) (by decide) rfl (Nat.le_of_ble_eq_true rfl) rfl ?_
  intro p e s m args below meth c ls A Q hQ hx hb hml hr hlocks hnm hown hts hK hA hE hW hl
  have hown : s.vm.findClass RX5 = some m.cls := hown
  refine lv_iconst (v := nI 0) hx hb dX5_bits_0 (by decide +kernel) ?_
  refine lv_istore_n (lv' := [(1, .int (nI 0)), (0, .int (nI v))]) hx hb dX5_bits_1 rfl hl (by decide) rfl (fun ls hl => ?_)
  refine lv_iload_n hx hb dX5_bits_2 rfl (lv_at hl 1 rfl) ?_
  refine lv_istore_n (lv' := [(2, .int (nI v)), (1, .int (nI 0)), (0, .int (nI v))]) hx hb dX5_bits_3 rfl hl (by decide) rfl (fun ls hl => ?_)
  have lp4 : ∀ (n : Nat) (r : Nat) (q : Nat), r < n → q + bitsN r = bitsN v → r < 256 → ∀ (H : Heap) (locs : List Loc), Wo D vwCl A s.heap H locs [] → ∀ ls : Array Slot, lv_has ls 3 [(2, .int (nI r)), (1, .int (nI q)), (0, .int (nI v))] → W p l e rmX5_bits s m args below meth c H locs 0 0 Q (F0 m 4 ls []) := by
    intro n
    induction n with
    | zero => intro r q hm; exact absurd hm (Nat.not_lt_zero _)
    | succ n ih =>
      intro r q hm hq hr8 H locs hW ls hl
      refine lv_iload_n hx hb dX5_bits_4 rfl (lv_at hl 0 rfl) ?_
      refine nn_zeq (tgt := 20) hx hb dX5_bits_5 (by decide) (by omega) (fun c5 => ?_) (fun c5 => ?_)
      · refine lv_iload_n hx hb dX5_bits_20 rfl (lv_at hl 1 rfl) ?_
        exact rt_i hQ hx hb hr hlocks hW dX5_bits_21 () (by rw [← hq, c5, bits_0]; rfl) trivial rfl
      · have hst := bits_step r hr8 (by omega)
        refine lv_iinc (v := nI (q + 1)) (lv' := [(1, .int (nI (q + 1))), (2, .int (nI r)), (0, .int (nI v))]) hx hb dX5_bits_8 hl (k := 1) rfl (nI_add _ 1) (by decide) rfl (fun ls hl => ?_)
        refine lv_iload_n hx hb dX5_bits_11 rfl (lv_at hl 1 rfl) ?_
        refine lv_iload_n hx hb dX5_bits_12 rfl (lv_at hl 1 rfl) ?_
        refine lv_iconst (v := nI 1) hx hb dX5_bits_13 (by decide +kernel) ?_
        refine nn_sub hx hb dX5_bits_14 (by omega) ?_
        refine nn_and hx hb dX5_bits_15 ?_
        refine lv_istore_n (lv' := [(2, .int (nI (r &&& (r - 1)))), (1, .int (nI (q + 1))), (0, .int (nI v))]) hx hb dX5_bits_16 rfl hl (by decide) rfl (fun ls hl => ?_)
        refine lv_goto (tgt := 4) hx hb dX5_bits_17 (by decide) ?_
        exact ih (r &&& (r - 1)) (q + 1) (by omega) (by omega) (by omega) _ _ hW _ (lv_sub hl [0, 1, 2] rfl)
  exact lp4 (v + 1) v 0 (Nat.lt_succ_self _) (Nat.zero_add _) hv _ _ hW _ (lv_sub hl [0, 1, 2] rfl)
abbrev rmX5_becomes : Room := { frames := 0, cells := 0, slots := 0, locals := 0 }
set_option maxRecDepth 100000 in
set_option maxHeartbeats 4000000 in
theorem M_X5_becomes (l : Launch) (D : va_G) (cI cJ : ClassId) (mo R G : Nat → Nat) (i key v : Nat) (hi : i < 57) (hk : mk i = key) : CE E0 l D vwCl [(cI, .int), (cJ, .long)] yX5_becomes wsX5_becomes rmX5_becomes [.ref (mo 0), .int (nI i), .int (nI v)] [mH mo R, mR cI (mo 1) G] (S := Unit) (some (.int (nI (G key)))) (fun _ => True) (fun _ : Unit => [mH mo R, mR cI (mo 1) (up G key v)]) 0 0 := by
  refine CE.ofW (cc := cX5_becomes) (maxL := 4) (ret := (some .int)) (lv := [(0, .ref (mo 0)), (1, .int (nI i)), (2, .int (nI v))]) (by decide) rfl (Nat.le_of_ble_eq_true rfl) rfl ?_
  intro p e s m args below meth c ls A Q hQ hx hb hml hr hlocks hnm hown hts hK hA hE hW hl
  have hown : s.vm.findClass RX5 = some m.cls := hown
  refine lv_aload_n hx hb dX5_becomes_0 rfl (lv_at hl 0 rfl) ?_
  refine sg_get (ci := 4) (C := RX5) (T := TX5) (N := 15) (v := .ref (mo 1)) hx hb hts (fun _ h => List.mem_cons_of_mem _ (List.mem_append_right _ h)) hown hK hW 0 0 rfl rfl rfl 0 (by decide) (hts _ (List.mem_of_getElem? (i := 1) rfl)) rfl dX5_becomes_1 ?_
  refine lv_iload_n hx hb dX5_becomes_4 rfl (lv_at hl 1 rfl) ?_
  refine sg_ild (v := nI (G (mk i))) hx hb hK hW 1 0 0 rfl rfl rfl (by omega) (by decide) rfl dX5_becomes_5 ?_
  refine lv_istore_n (lv' := [(3, .int (nI (G (mk i)))), (0, .ref (mo 0)), (1, .int (nI i)), (2, .int (nI v))]) hx hb dX5_becomes_6 rfl hl (by decide) rfl (fun ls hl => ?_)
  refine lv_aload_n hx hb dX5_becomes_7 rfl (lv_at hl 1 rfl) ?_
  refine sg_get (ci := 4) (C := RX5) (T := TX5) (N := 15) (v := .ref (mo 1)) hx hb hts (fun _ h => List.mem_cons_of_mem _ (List.mem_append_right _ h)) hown hK hW 0 0 rfl rfl rfl 0 (by decide) (hts _ (List.mem_of_getElem? (i := 1) rfl)) rfl dX5_becomes_8 ?_
  refine lv_iload_n hx hb dX5_becomes_11 rfl (lv_at hl 2 rfl) ?_
  refine lv_iload_n hx hb dX5_becomes_12 rfl (lv_at hl 3 rfl) ?_
  refine sg_ist hx hb hK hW 1 0 0 rfl rfl rfl (by omega) (by decide) (mR_set cI (mo 1) G i v) (ss' := [mH mo R, mR cI (mo 1) (up G (mk i) v)]) rfl dX5_becomes_13 (fun H locs hW => ?_)
  refine lv_iload_n hx hb dX5_becomes_14 rfl (lv_at hl 0 rfl) ?_
  exact rt_i hQ hx hb hr hlocks hW dX5_becomes_15 () (by rw [← hk]) trivial (by rw [← hk])
abbrev rmX5_isMother : Room := { frames := 1, cells := 0, slots := 0, locals := 23 }
set_option maxRecDepth 100000 in
set_option maxHeartbeats 4000000 in
theorem M_X5_isMother (l : Launch) (D : va_G) (cI cJ : ClassId) (mo R G : Nat → Nat) (b : Nat) (hb30 : b < 2 ^ 30) (hG : OkG b G) (v : Int32) : CE E0 l D vwCl [(cI, .int), (cJ, .long)] yX5_isMother wsX5_isMother rmX5_isMother [.ref (mo 0), .int v] [mH mo R, mR cI (mo 1) G] (S := Unit) (some (.int (nI (inN v (G 40))))) (fun _ => True) (fun _ : Unit => [mH mo R, mR cI (mo 1) G]) 0 0 := by
  refine CE.ofW (cc := cX5_isMother) (maxL := 2) (ret := (some .boolean)) (lv := [(0, .ref (mo 0)), (1, .int v)]) (by decide) rfl (Nat.le_of_ble_eq_true rfl) rfl ?_
  intro p e s m args below meth c ls A Q hQ hx hb hml hr hlocks hnm hown hts hK hA hE hW hl
  have hown : s.vm.findClass RX5 = some m.cls := hown
  obtain ⟨hg0, hg8, hg16, hg16b, hg24, hg32, hg40, hg48⟩ := hG.s
  refine lv_iload_n hx hb dX5_isMother_0 rfl (lv_at hl 1 rfl) ?_
  refine lv_i2l (v := (v).toInt64) hx hb dX5_isMother_1 rfl ?_
  refine lv_iconst (v := nI 0) hx hb dX5_isMother_2 (by decide +kernel) ?_
  refine lv_aload_n hx hb dX5_isMother_3 rfl (lv_at hl 0 rfl) ?_
  refine sg_get (ci := 4) (C := RX5) (T := TX5) (N := 15) (v := .ref (mo 1)) hx hb hts (fun _ h => List.mem_cons_of_mem _ (List.mem_append_right _ h)) hown hK hW 0 0 rfl rfl rfl 0 (by decide) (hts _ (List.mem_of_getElem? (i := 1) rfl)) rfl dX5_isMother_4 ?_
  refine lv_iconst (v := nI 5) hx hb dX5_isMother_7 (by decide +kernel) ?_
  refine sg_ild (v := nI (G 40)) hx hb hK hW 1 0 0 rfl rfl rfl (by decide) (by decide) rfl dX5_isMother_8 ?_
  refine lv_iconst (v := nI 1) hx hb dX5_isMother_9 (by decide +kernel) ?_
  refine lv_isub hx hb dX5_isMother_10 ?_
  refine cl_Si (As := [.long ((v).toInt64), .int (nI 0), .int ((nI (G 40)) - (nI 1))]) (rest := []) ⟨hx, hb, hml, hown, hts⟩ (M_X5_in2 l D cI cJ ((v).toInt64) (nI 0) ((nI (G 40)) - (nI 1)) v.toInt ((0 : Nat) : Int) (((G 40 : Nat) : Int) - ((1 : Nat) : Int)) ((Int32.toInt_toInt64 _).trans rfl) (nI_toInt (n := 0) (by decide)) (pk_sub_toInt (by omega) (by omega))) (va_cwS 3 hts gX5_isMother_X5_in rfl rfl rfl qX5_in ⟨Nat.le_of_ble_eq_true rfl, Nat.le_of_ble_eq_true rfl⟩) E0_good hK hA hW trivial [] (fun _ => [mH mo R, mR cI (mo 1) G]) rfl (fun _ => rfl) (fun _ => rfl) rfl hl.1 rfl (lv_room (Nat.le_of_ble_eq_true rfl)) dX5_isMother_11 ⟨Nat.zero_le _, Nat.zero_le _⟩ (fun _ H locs _ hW => ?_)
  have hin_ : inZ v.toInt ((0 : Nat) : Int) (((G 40 : Nat) : Int) - ((1 : Nat) : Int)) ≤ 1 := inZ_le _ _ _
  exact rt_z hQ hx hb hr hlocks hW dX5_isMother_14 (bit_narrow (inZ_le _ _ _)) () (by unfold inN inZ; (repeat' split) <;> first | rfl | (exfalso; omega) | (congr 3; omega)) trivial rfl
abbrev rmX5_isChild : Room := { frames := 1, cells := 0, slots := 0, locals := 23 }
set_option maxRecDepth 100000 in
set_option maxHeartbeats 4000000 in
theorem M_X5_isChild (l : Launch) (D : va_G) (cI cJ : ClassId) (mo R G : Nat → Nat) (b : Nat) (hb30 : b < 2 ^ 30) (hG : OkG b G) (v : Int32) : CE E0 l D vwCl [(cI, .int), (cJ, .long)] yX5_isChild wsX5_isChild rmX5_isChild [.ref (mo 0), .int v] [mH mo R, mR cI (mo 1) G] (S := Unit) (some (.int (nI (inN v (G 48))))) (fun _ => True) (fun _ : Unit => [mH mo R, mR cI (mo 1) G]) 0 0 := by
  refine CE.ofW (cc := cX5_isChild) (maxL := 2) (ret := (some .boolean)) (lv := [(0, .ref (mo 0)), (1, .int v)]) (by decide) rfl (Nat.le_of_ble_eq_true rfl) rfl ?_
  intro p e s m args below meth c ls A Q hQ hx hb hml hr hlocks hnm hown hts hK hA hE hW hl
  have hown : s.vm.findClass RX5 = some m.cls := hown
  obtain ⟨hg0, hg8, hg16, hg16b, hg24, hg32, hg40, hg48⟩ := hG.s
  refine lv_iload_n hx hb dX5_isChild_0 rfl (lv_at hl 1 rfl) ?_
  refine lv_i2l (v := (v).toInt64) hx hb dX5_isChild_1 rfl ?_
  refine lv_iconst (v := nI 0) hx hb dX5_isChild_2 (by decide +kernel) ?_
  refine lv_aload_n hx hb dX5_isChild_3 rfl (lv_at hl 0 rfl) ?_
  refine sg_get (ci := 4) (C := RX5) (T := TX5) (N := 15) (v := .ref (mo 1)) hx hb hts (fun _ h => List.mem_cons_of_mem _ (List.mem_append_right _ h)) hown hK hW 0 0 rfl rfl rfl 0 (by decide) (hts _ (List.mem_of_getElem? (i := 1) rfl)) rfl dX5_isChild_4 ?_
  refine lv_bipush (v := nI 6) hx hb dX5_isChild_7 (by decide +kernel) ?_
  refine sg_ild (v := nI (G 48)) hx hb hK hW 1 0 0 rfl rfl rfl (by decide) (by decide) rfl dX5_isChild_9 ?_
  refine lv_iconst (v := nI 1) hx hb dX5_isChild_10 (by decide +kernel) ?_
  refine lv_isub hx hb dX5_isChild_11 ?_
  refine cl_Si (As := [.long ((v).toInt64), .int (nI 0), .int ((nI (G 48)) - (nI 1))]) (rest := []) ⟨hx, hb, hml, hown, hts⟩ (M_X5_in2 l D cI cJ ((v).toInt64) (nI 0) ((nI (G 48)) - (nI 1)) v.toInt ((0 : Nat) : Int) (((G 48 : Nat) : Int) - ((1 : Nat) : Int)) ((Int32.toInt_toInt64 _).trans rfl) (nI_toInt (n := 0) (by decide)) (pk_sub_toInt (by omega) (by omega))) (va_cwS 3 hts gX5_isChild_X5_in rfl rfl rfl qX5_in ⟨Nat.le_of_ble_eq_true rfl, Nat.le_of_ble_eq_true rfl⟩) E0_good hK hA hW trivial [] (fun _ => [mH mo R, mR cI (mo 1) G]) rfl (fun _ => rfl) (fun _ => rfl) rfl hl.1 rfl (lv_room (Nat.le_of_ble_eq_true rfl)) dX5_isChild_12 ⟨Nat.zero_le _, Nat.zero_le _⟩ (fun _ H locs _ hW => ?_)
  have hin_ : inZ v.toInt ((0 : Nat) : Int) (((G 48 : Nat) : Int) - ((1 : Nat) : Int)) ≤ 1 := inZ_le _ _ _
  exact rt_z hQ hx hb hr hlocks hW dX5_isChild_15 (bit_narrow (inZ_le _ _ _)) () (by unfold inN inZ; (repeat' split) <;> first | rfl | (exfalso; omega) | (congr 3; omega)) trivial rfl
abbrev rmX5_it : Room := { frames := 0, cells := 0, slots := 0, locals := 0 }
set_option maxRecDepth 100000 in
set_option maxHeartbeats 4000000 in
theorem M_X5_it (l : Launch) (D : va_G) (cI cJ : ClassId) (mo R G : Nat → Nat) (a w r : Nat) (ha : a < 8) (hw : w < 4) (hr2 : 1 + w = r) : CE E0 l D vwCl [(cI, .int), (cJ, .long)] yX5_it wsX5_it rmX5_it [.ref (mo 0), .int (nI a), .int (nI w)] [mH mo R, mR cI (mo 1) G] (S := Unit) (some (.int (nI (G (8 * a + r))))) (fun _ => True) (fun _ : Unit => [mH mo R, mR cI (mo 1) G]) 0 0 := by
  refine CE.ofW (cc := cX5_it) (maxL := 3) (ret := (some .int)) (lv := [(0, .ref (mo 0)), (1, .int (nI a)), (2, .int (nI w))]) (by decide) rfl (Nat.le_of_ble_eq_true rfl) rfl ?_
  intro p e s m args below meth c ls A Q hQ hx hb hml hr hlocks hnm hown hts hK hA hE hW hl
  have hown : s.vm.findClass RX5 = some m.cls := hown
  refine lv_aload_n hx hb dX5_it_0 rfl (lv_at hl 0 rfl) ?_
  refine sg_get (ci := 4) (C := RX5) (T := TX5) (N := 15) (v := .ref (mo 1)) hx hb hts (fun _ h => List.mem_cons_of_mem _ (List.mem_append_right _ h)) hown hK hW 0 0 rfl rfl rfl 0 (by decide) (hts _ (List.mem_of_getElem? (i := 1) rfl)) rfl dX5_it_1 ?_
  refine lv_bipush (v := nI 7) hx hb dX5_it_4 (by decide +kernel) ?_
  refine lv_iconst (v := nI 4) hx hb dX5_it_6 (by decide +kernel) ?_
  refine lv_iload_n hx hb dX5_it_7 rfl (lv_at hl 1 rfl) ?_
  refine nn_mul hx hb dX5_it_8 ?_
  refine nn_add hx hb dX5_it_9 ?_
  refine lv_iload_n hx hb dX5_it_10 rfl (lv_at hl 2 rfl) ?_
  refine nn_add hx hb dX5_it_11 ?_
  refine sg_ild (v := nI (G (mk ((7 + (4 * a)) + w)))) hx hb hK hW 1 0 0 rfl rfl rfl (by omega) (by decide) rfl dX5_it_12 ?_
  refine W.top (v' := .int (nI (G (8 * a + r)))) (by rw [mk_m ha hw, ← hr2, Nat.add_assoc]) ?_
  exact rt_i hQ hx hb hr hlocks hW dX5_it_13 () rfl trivial rfl
abbrev rmX5_put : Room := { frames := 0, cells := 0, slots := 0, locals := 0 }
set_option maxRecDepth 100000 in
set_option maxHeartbeats 4000000 in
theorem M_X5_put (l : Launch) (D : va_G) (cI cJ : ClassId) (mo R G : Nat → Nat) (a w r v : Nat) (ha : a < 8) (hw : w < 4) (hr2 : 1 + w = r) : CE E0 l D vwCl [(cI, .int), (cJ, .long)] yX5_put wsX5_put rmX5_put [.ref (mo 0), .int (nI a), .int (nI w), .int (nI v)] [mH mo R, mR cI (mo 1) G] (S := Unit) none (fun _ => True) (fun _ : Unit => [mH mo R, mR cI (mo 1) (up G (8 * a + r) v)]) 0 0 := by
  refine CE.ofW (cc := cX5_put) (maxL := 4) (ret := none) (lv := [(0, .ref (mo 0)), (1, .int (nI a)), (2, .int (nI w)), (3, .int (nI v))]) (by decide) rfl (Nat.le_of_ble_eq_true rfl) rfl ?_
  intro p e s m args below meth c ls A Q hQ hx hb hml hr hlocks hnm hown hts hK hA hE hW hl
  have hown : s.vm.findClass RX5 = some m.cls := hown
  refine lv_aload_n hx hb dX5_put_0 rfl (lv_at hl 0 rfl) ?_
  refine sg_get (ci := 4) (C := RX5) (T := TX5) (N := 15) (v := .ref (mo 1)) hx hb hts (fun _ h => List.mem_cons_of_mem _ (List.mem_append_right _ h)) hown hK hW 0 0 rfl rfl rfl 0 (by decide) (hts _ (List.mem_of_getElem? (i := 1) rfl)) rfl dX5_put_1 ?_
  refine lv_bipush (v := nI 7) hx hb dX5_put_4 (by decide +kernel) ?_
  refine lv_iconst (v := nI 4) hx hb dX5_put_6 (by decide +kernel) ?_
  refine lv_iload_n hx hb dX5_put_7 rfl (lv_at hl 1 rfl) ?_
  refine nn_mul hx hb dX5_put_8 ?_
  refine nn_add hx hb dX5_put_9 ?_
  refine lv_iload_n hx hb dX5_put_10 rfl (lv_at hl 2 rfl) ?_
  refine nn_add hx hb dX5_put_11 ?_
  refine lv_iload_n hx hb dX5_put_12 rfl (lv_at hl 3 rfl) ?_
  refine sg_ist hx hb hK hW 1 0 0 rfl rfl rfl (by omega) (by decide) (mR_set cI (mo 1) G ((7 + (4 * a)) + w) v) (ss' := [mH mo R, mR cI (mo 1) (up G (mk ((7 + (4 * a)) + w)) v)]) rfl dX5_put_13 (fun H locs hW => ?_)
  exact rt_v hQ hx hb hr hlocks hW dX5_put_14 () rfl trivial (by rw [mk_m ha hw, ← hr2, Nat.add_assoc])
abbrev rmX5_about : Room := { frames := 0, cells := 0, slots := 0, locals := 0 }
set_option maxRecDepth 100000 in
set_option maxHeartbeats 4000000 in
theorem M_X5_about (l : Launch) (D : va_G) (cI cJ : ClassId) (mo R G : Nat → Nat) (a w r : Nat) (ha : a < 6) (hw : w < 3) (hr2 : 5 + w = r) : CE E0 l D vwCl [(cI, .int), (cJ, .long)] yX5_about wsX5_about rmX5_about [.ref (mo 0), .int (nI a), .int (nI w)] [mH mo R, mR cI (mo 1) G] (S := Unit) (some (.int (nI (G (8 * a + r))))) (fun _ => True) (fun _ : Unit => [mH mo R, mR cI (mo 1) G]) 0 0 := by
  refine CE.ofW (cc := cX5_about) (maxL := 3) (ret := (some .int)) (lv := [(0, .ref (mo 0)), (1, .int (nI a)), (2, .int (nI w))]) (by decide) rfl (Nat.le_of_ble_eq_true rfl) rfl ?_
  intro p e s m args below meth c ls A Q hQ hx hb hml hr hlocks hnm hown hts hK hA hE hW hl
  have hown : s.vm.findClass RX5 = some m.cls := hown
  refine lv_aload_n hx hb dX5_about_0 rfl (lv_at hl 0 rfl) ?_
  refine sg_get (ci := 4) (C := RX5) (T := TX5) (N := 15) (v := .ref (mo 1)) hx hb hts (fun _ h => List.mem_cons_of_mem _ (List.mem_append_right _ h)) hown hK hW 0 0 rfl rfl rfl 0 (by decide) (hts _ (List.mem_of_getElem? (i := 1) rfl)) rfl dX5_about_1 ?_
  refine lv_bipush (v := nI 39) hx hb dX5_about_4 (by decide +kernel) ?_
  refine lv_iconst (v := nI 3) hx hb dX5_about_6 (by decide +kernel) ?_
  refine lv_iload_n hx hb dX5_about_7 rfl (lv_at hl 1 rfl) ?_
  refine nn_mul hx hb dX5_about_8 ?_
  refine nn_add hx hb dX5_about_9 ?_
  refine lv_iload_n hx hb dX5_about_10 rfl (lv_at hl 2 rfl) ?_
  refine nn_add hx hb dX5_about_11 ?_
  refine sg_ild (v := nI (G (mk ((39 + (3 * a)) + w)))) hx hb hK hW 1 0 0 rfl rfl rfl (by omega) (by decide) rfl dX5_about_12 ?_
  refine W.top (v' := .int (nI (G (8 * a + r)))) (by rw [mk_c hw, ← hr2, Nat.add_assoc]) ?_
  exact rt_i hQ hx hb hr hlocks hW dX5_about_13 () rfl trivial rfl
abbrev rmX5_lets : Room := { frames := 0, cells := 0, slots := 0, locals := 0 }
set_option maxRecDepth 100000 in
set_option maxHeartbeats 4000000 in
theorem M_X5_lets (l : Launch) (D : va_G) (cI cJ : ClassId) (mo R G : Nat → Nat) (a w r v : Nat) (ha : a < 6) (hw : w < 3) (hr2 : 5 + w = r) : CE E0 l D vwCl [(cI, .int), (cJ, .long)] yX5_lets wsX5_lets rmX5_lets [.ref (mo 0), .int (nI a), .int (nI w), .int (nI v)] [mH mo R, mR cI (mo 1) G] (S := Unit) none (fun _ => True) (fun _ : Unit => [mH mo R, mR cI (mo 1) (up G (8 * a + r) v)]) 0 0 := by
  refine CE.ofW (cc := cX5_lets) (maxL := 4) (ret := none) (lv := [(0, .ref (mo 0)), (1, .int (nI a)), (2, .int (nI w)), (3, .int (nI v))]) (by decide) rfl (Nat.le_of_ble_eq_true rfl) rfl ?_
  intro p e s m args below meth c ls A Q hQ hx hb hml hr hlocks hnm hown hts hK hA hE hW hl
  have hown : s.vm.findClass RX5 = some m.cls := hown
  refine lv_aload_n hx hb dX5_lets_0 rfl (lv_at hl 0 rfl) ?_
  refine sg_get (ci := 4) (C := RX5) (T := TX5) (N := 15) (v := .ref (mo 1)) hx hb hts (fun _ h => List.mem_cons_of_mem _ (List.mem_append_right _ h)) hown hK hW 0 0 rfl rfl rfl 0 (by decide) (hts _ (List.mem_of_getElem? (i := 1) rfl)) rfl dX5_lets_1 ?_
  refine lv_bipush (v := nI 39) hx hb dX5_lets_4 (by decide +kernel) ?_
  refine lv_iconst (v := nI 3) hx hb dX5_lets_6 (by decide +kernel) ?_
  refine lv_iload_n hx hb dX5_lets_7 rfl (lv_at hl 1 rfl) ?_
  refine nn_mul hx hb dX5_lets_8 ?_
  refine nn_add hx hb dX5_lets_9 ?_
  refine lv_iload_n hx hb dX5_lets_10 rfl (lv_at hl 2 rfl) ?_
  refine nn_add hx hb dX5_lets_11 ?_
  refine lv_iload_n hx hb dX5_lets_12 rfl (lv_at hl 3 rfl) ?_
  refine sg_ist hx hb hK hW 1 0 0 rfl rfl rfl (by omega) (by decide) (mR_set cI (mo 1) G ((39 + (3 * a)) + w) v) (ss' := [mH mo R, mR cI (mo 1) (up G (mk ((39 + (3 * a)) + w)) v)]) rfl dX5_lets_13 (fun H locs hW => ?_)
  exact rt_v hQ hx hb hr hlocks hW dX5_lets_14 () rfl trivial (by rw [mk_c hw, ← hr2, Nat.add_assoc])
abbrev rmX5_clock : Room := { frames := 0, cells := 0, slots := 0, locals := 0 }
set_option maxRecDepth 100000 in
set_option maxHeartbeats 4000000 in
theorem M_X5_clock (l : Launch) (D : va_G) (cI cJ : ClassId) (mo R G : Nat → Nat) (b : Nat) (hb30 : b < 2 ^ 30) (hG : OkG b G) : CE E0 l D vwCl [(cI, .int), (cJ, .long)] yX5_clock wsX5_clock rmX5_clock [.ref (mo 0)] [mH mo R, mR cI (mo 1) G] (S := Unit) (some (.int (nI (G 0 % 50)))) (fun _ => True) (fun _ : Unit => [mH mo R, mR cI (mo 1) G]) 0 0 := by
  refine CE.ofW (cc := cX5_clock) (maxL := 1) (ret := (some .int)) (lv := [(0, .ref (mo 0))]) (by decide) rfl (Nat.le_of_ble_eq_true rfl) rfl ?_
  intro p e s m args below meth c ls A Q hQ hx hb hml hr hlocks hnm hown hts hK hA hE hW hl
  have hown : s.vm.findClass RX5 = some m.cls := hown
  obtain ⟨hg0, hg8, hg16, hg16b, hg24, hg32, hg40, hg48⟩ := hG.s
  refine lv_aload_n hx hb dX5_clock_0 rfl (lv_at hl 0 rfl) ?_
  refine sg_get (ci := 4) (C := RX5) (T := TX5) (N := 15) (v := .ref (mo 1)) hx hb hts (fun _ h => List.mem_cons_of_mem _ (List.mem_append_right _ h)) hown hK hW 0 0 rfl rfl rfl 0 (by decide) (hts _ (List.mem_of_getElem? (i := 1) rfl)) rfl dX5_clock_1 ?_
  refine lv_iconst (v := nI 0) hx hb dX5_clock_4 (by decide +kernel) ?_
  refine sg_ild (v := nI (G 0)) hx hb hK hW 1 0 0 rfl rfl rfl (by decide) (by decide) rfl dX5_clock_5 ?_
  refine lv_bipush (v := nI 50) hx hb dX5_clock_6 (by decide +kernel) ?_
  refine nn_rem hx hb dX5_clock_8 (by omega) (by decide) (by decide) ?_
  exact rt_i hQ hx hb hr hlocks hW dX5_clock_9 () rfl trivial rfl
abbrev rmX5_isNight : Room := { frames := 1, cells := 0, slots := 0, locals := 20 }
set_option maxRecDepth 100000 in
set_option maxHeartbeats 4000000 in
theorem M_X5_isNight (l : Launch) (D : va_G) (cI cJ : ClassId) (mo R G : Nat → Nat) (b : Nat) (hb30 : b < 2 ^ 30) (hG : OkG b G) : CE E0 l D vwCl [(cI, .int), (cJ, .long)] yX5_isNight wsX5_isNight rmX5_isNight [.ref (mo 0)] [mH mo R, mR cI (mo 1) G] (S := Unit) (some (.int (nI (nightN G)))) (fun _ => True) (fun _ : Unit => [mH mo R, mR cI (mo 1) G]) 0 0 := by
  refine CE.ofW (cc := cX5_isNight) (maxL := 1) (ret := (some .boolean)) (lv := [(0, .ref (mo 0))]) (by decide) rfl (Nat.le_of_ble_eq_true rfl) rfl ?_
  intro p e s m args below meth c ls A Q hQ hx hb hml hr hlocks hnm hown hts hK hA hE hW hl
  have hown : s.vm.findClass RX5 = some m.cls := hown
  obtain ⟨hg0, hg8, hg16, hg16b, hg24, hg32, hg40, hg48⟩ := hG.s
  refine lv_aload_n hx hb dX5_isNight_0 rfl (lv_at hl 0 rfl) ?_
  refine cl_Vi (As := []) (rest := []) (C := RX5) ⟨hx, hb, hml, hown, hts⟩ (M_X5_clock l D cI cJ mo R G b hb30 hG ) (cwV 0 hts gX5_isNight_X5_clock rfl rfl rfl qX5_clock ⟨Nat.le_of_ble_eq_true rfl, Nat.le_of_ble_eq_true rfl⟩) E0_good hK hA hW trivial [true, true] (fun _ => [mH mo R, mR cI (mo 1) G]) rfl (fun _ => rfl) (fun _ => rfl) 0 0 rfl rfl rfl rfl hl.1 rfl (lv_room (Nat.le_of_ble_eq_true rfl)) dX5_isNight_1 ⟨Nat.zero_le _, Nat.zero_le _⟩ (fun _ H locs _ hW => ?_)
  refine lv_bipush (v := nI 40) hx hb dX5_isNight_4 (by decide +kernel) ?_
  refine nn_clt (tgt := 13) hx hb dX5_isNight_6 (by decide) (by omega) (by decide) (fun c6 => ?_) (fun c6 => ?_)
  · refine lv_iconst (v := nI 0) hx hb dX5_isNight_13 (by decide +kernel) ?_
    exact rt_z hQ hx hb hr hlocks hW dX5_isNight_14 (by decide +kernel) () (by unfold nightN; split <;> first | rfl | (exfalso; omega)) trivial rfl
  · refine lv_iconst (v := nI 1) hx hb dX5_isNight_9 (by decide +kernel) ?_
    refine lv_goto (tgt := 14) hx hb dX5_isNight_10 (by decide) ?_
    exact rt_z hQ hx hb hr hlocks hW dX5_isNight_14 (by decide +kernel) () (by unfold nightN; split <;> first | rfl | (exfalso; omega)) trivial rfl
abbrev rmX5_isWet : Room := { frames := 1, cells := 0, slots := 0, locals := 20 }
set_option maxRecDepth 100000 in
set_option maxHeartbeats 4000000 in
theorem M_X5_isWet (l : Launch) (D : va_G) (cI cJ : ClassId) (mo R G : Nat → Nat) (b : Nat) (hb30 : b < 2 ^ 30) (hG : OkG b G) : CE E0 l D vwCl [(cI, .int), (cJ, .long)] yX5_isWet wsX5_isWet rmX5_isWet [.ref (mo 0)] [mH mo R, mR cI (mo 1) G] (S := Unit) (some (.int (nI (wetN G)))) (fun _ => True) (fun _ : Unit => [mH mo R, mR cI (mo 1) G]) 0 0 := by
  refine CE.ofW (cc := cX5_isWet) (maxL := 1) (ret := (some .boolean)) (lv := [(0, .ref (mo 0))]) (by decide) rfl (Nat.le_of_ble_eq_true rfl) rfl ?_
  intro p e s m args below meth c ls A Q hQ hx hb hml hr hlocks hnm hown hts hK hA hE hW hl
  have hown : s.vm.findClass RX5 = some m.cls := hown
  obtain ⟨hg0, hg8, hg16, hg16b, hg24, hg32, hg40, hg48⟩ := hG.s
  refine lv_aload_n hx hb dX5_isWet_0 rfl (lv_at hl 0 rfl) ?_
  refine sg_get (ci := 4) (C := RX5) (T := TX5) (N := 15) (v := .ref (mo 1)) hx hb hts (fun _ h => List.mem_cons_of_mem _ (List.mem_append_right _ h)) hown hK hW 0 0 rfl rfl rfl 0 (by decide) (hts _ (List.mem_of_getElem? (i := 1) rfl)) rfl dX5_isWet_1 ?_
  refine lv_iconst (v := nI 1) hx hb dX5_isWet_4 (by decide +kernel) ?_
  refine sg_ild (v := nI (G 8)) hx hb hK hW 1 0 0 rfl rfl rfl (by decide) (by decide) rfl dX5_isWet_5 ?_
  refine lv_aload_n hx hb dX5_isWet_6 rfl (lv_at hl 0 rfl) ?_
  refine cl_Vi (As := []) (rest := [.int (nI (G 8))]) (C := RX5) ⟨hx, hb, hml, hown, hts⟩ (M_X5_clock l D cI cJ mo R G b hb30 hG ) (cwV 0 hts gX5_isWet_X5_clock rfl rfl rfl qX5_clock ⟨Nat.le_of_ble_eq_true rfl, Nat.le_of_ble_eq_true rfl⟩) E0_good hK hA hW trivial [true, true] (fun _ => [mH mo R, mR cI (mo 1) G]) rfl (fun _ => rfl) (fun _ => rfl) 0 0 rfl rfl rfl rfl hl.1 rfl (lv_room (Nat.le_of_ble_eq_true rfl)) dX5_isWet_7 ⟨Nat.zero_le _, Nat.zero_le _⟩ (fun _ H locs _ hW => ?_)
  refine lv_bipush (v := nI 10) hx hb dX5_isWet_10 (by decide +kernel) ?_
  refine nn_div hx hb dX5_isWet_12 (by omega) (by decide) (by decide) ?_
  refine nn_shr hx hb dX5_isWet_13 (by omega) (by omega) ?_
  refine lv_iconst (v := nI 1) hx hb dX5_isWet_14 (by decide +kernel) ?_
  refine nn_and hx hb dX5_isWet_15 ?_
  refine W.top (v' := .int (nI (G 8 / 2 ^ (G 0 % 50 / 10) % 2))) (by rw [Nat.and_one_is_mod]) ?_
  refine lv_iconst (v := nI 1) hx hb dX5_isWet_16 (by decide +kernel) ?_
  refine nn_cne (tgt := 24) hx hb dX5_isWet_17 (by decide) (by omega) (by decide) (fun c17 => ?_) (fun c17 => ?_)
  · refine lv_iconst (v := nI 0) hx hb dX5_isWet_24 (by decide +kernel) ?_
    exact rt_z hQ hx hb hr hlocks hW dX5_isWet_25 (by decide +kernel) () (by unfold wetN; congr 3 <;> omega) trivial rfl
  · refine lv_iconst (v := nI 1) hx hb dX5_isWet_20 (by decide +kernel) ?_
    refine lv_goto (tgt := 25) hx hb dX5_isWet_21 (by decide) ?_
    exact rt_z hQ hx hb hr hlocks hW dX5_isWet_25 (by decide +kernel) () (by unfold wetN; congr 3 <;> omega) trivial rfl
abbrev rmX5_outOnes : Room := { frames := 1, cells := 0, slots := 0, locals := 22 }
set_option maxRecDepth 100000 in
set_option maxHeartbeats 4000000 in
theorem M_X5_outOnes (l : Launch) (D : va_G) (cI cJ : ClassId) (mo R G : Nat → Nat) (b : Nat) (hb30 : b < 2 ^ 30) (hG : OkG b G) : CE E0 l D vwCl [(cI, .int), (cJ, .long)] yX5_outOnes wsX5_outOnes rmX5_outOnes [.ref (mo 0)] [mH mo R, mR cI (mo 1) G] (S := Unit) (some (.int (nI (outS G)))) (fun _ => True) (fun _ : Unit => [mH mo R, mR cI (mo 1) G]) 0 0 := by
  refine CE.ofW (cc := cX5_outOnes) (maxL := 3) (ret := (some .int)) (lv := [(0, .ref (mo 0))]) (by decide) rfl (Nat.le_of_ble_eq_true rfl) rfl ?_
  intro p e s m args below meth c ls A Q hQ hx hb hml hr hlocks hnm hown hts hK hA hE hW hl
  have hown : s.vm.findClass RX5 = some m.cls := hown
  obtain ⟨hg0, hg8, hg16, hg16b, hg24, hg32, hg40, hg48⟩ := hG.s
  refine lv_iconst (v := nI 0) hx hb dX5_outOnes_0 (by decide +kernel) ?_
  refine lv_istore_n (lv' := [(1, .int (nI 0)), (0, .ref (mo 0))]) hx hb dX5_outOnes_1 rfl hl (by decide) rfl (fun ls hl => ?_)
  refine lv_iconst (v := nI 0) hx hb dX5_outOnes_2 (by decide +kernel) ?_
  refine lv_istore_n (lv' := [(2, .int (nI 0)), (1, .int (nI 0)), (0, .ref (mo 0))]) hx hb dX5_outOnes_3 rfl hl (by decide) rfl (fun ls hl => ?_)
  have lp4 : ∀ (n : Nat) (i : Nat), G 40 - i < n → i ≤ G 40 → ∀ (H : Heap) (locs : List Loc), Wo D vwCl A s.heap H locs [mH mo R, mR cI (mo 1) G] → ∀ ls : Array Slot, lv_has ls 3 [(2, .int (nI i)), (1, .int (nI (setN (fun i => G (8 * i + 2)) i))), (0, .ref (mo 0))] → W p l e rmX5_outOnes s m args below meth c H locs 0 0 Q (F0 m 4 ls []) := by
    intro n
    induction n with
    | zero => intro i hm; exact absurd hm (Nat.not_lt_zero _)
    | succ n ih =>
      intro i hm hi H locs hW ls hl
      have hmi : ∀ j, j < i → G (8 * j + 2) ≤ 1 := fun j hj => (hG.m j (by omega)).2.1
      refine lv_iload_n hx hb dX5_outOnes_4 rfl (lv_at hl 0 rfl) ?_
      refine lv_aload_n hx hb dX5_outOnes_5 rfl (lv_at hl 2 rfl) ?_
      refine sg_get (ci := 4) (C := RX5) (T := TX5) (N := 15) (v := .ref (mo 1)) hx hb hts (fun _ h => List.mem_cons_of_mem _ (List.mem_append_right _ h)) hown hK hW 0 0 rfl rfl rfl 0 (by decide) (hts _ (List.mem_of_getElem? (i := 1) rfl)) rfl dX5_outOnes_6 ?_
      refine lv_iconst (v := nI 5) hx hb dX5_outOnes_9 (by decide +kernel) ?_
      refine sg_ild (v := nI (G 40)) hx hb hK hW 1 0 0 rfl rfl rfl (by decide) (by decide) rfl dX5_outOnes_10 ?_
      refine nn_cge (tgt := 31) hx hb dX5_outOnes_11 (by decide) (by omega) (by omega) (fun c11 => ?_) (fun c11 => ?_)
      · refine lv_iload_n hx hb dX5_outOnes_31 rfl (lv_at hl 1 rfl) ?_
        exact rt_i hQ hx hb hr hlocks hW dX5_outOnes_32 () (by rw [show i = G 40 by omega]; rfl) trivial rfl
      · refine lv_iload_n hx hb dX5_outOnes_14 rfl (lv_at hl 1 rfl) ?_
        refine lv_aload_n hx hb dX5_outOnes_15 rfl (lv_at hl 2 rfl) ?_
        refine lv_iload_n hx hb dX5_outOnes_16 rfl (lv_at hl 0 rfl) ?_
        refine lv_iconst (v := nI 1) hx hb dX5_outOnes_17 (by decide +kernel) ?_
        refine cl_Vi (As := [.int (nI i), .int (nI 1)]) (rest := [.int (nI (setN (fun i => G (8 * i + 2)) i))]) (C := RX5) ⟨hx, hb, hml, hown, hts⟩ (M_X5_it l D cI cJ mo R G i 1 2 (by omega) (by decide) rfl) (cwV 2 hts gX5_outOnes_X5_it rfl rfl rfl qX5_it ⟨Nat.le_of_ble_eq_true rfl, Nat.le_of_ble_eq_true rfl⟩) E0_good hK hA hW trivial [true, true] (fun _ => [mH mo R, mR cI (mo 1) G]) rfl (fun _ => rfl) (fun _ => rfl) 0 0 rfl rfl rfl rfl hl.1 rfl (lv_room (Nat.le_of_ble_eq_true rfl)) dX5_outOnes_18 ⟨Nat.zero_le _, Nat.zero_le _⟩ (fun _ H locs _ hW => ?_)
        refine lv_iload_n hx hb dX5_outOnes_21 rfl (lv_at hl 0 rfl) ?_
        refine nn_shl hx hb dX5_outOnes_22 (by omega) ?_
        refine nn_or hx hb dX5_outOnes_23 ?_
        refine W.top (v' := .int (nI (setN (fun i => G (8 * i + 2)) (i + 1)))) (congrArg (fun z => Value.int (nI z)) (setN_or (f := (fun i => G (8 * i + 2))) (n := i) hmi)) ?_
        refine lv_istore_n (lv' := [(1, .int (nI (setN (fun i => G (8 * i + 2)) (i + 1)))), (2, .int (nI i)), (0, .ref (mo 0))]) hx hb dX5_outOnes_24 rfl hl (by decide) rfl (fun ls hl => ?_)
        refine lv_iinc (v := nI (i + 1)) (lv' := [(2, .int (nI (i + 1))), (1, .int (nI (setN (fun i => G (8 * i + 2)) (i + 1)))), (0, .ref (mo 0))]) hx hb dX5_outOnes_25 hl (k := 1) rfl (nI_add _ 1) (by decide) rfl (fun ls hl => ?_)
        refine lv_goto (tgt := 4) hx hb dX5_outOnes_28 (by decide) ?_
        exact ih (i + 1) (by omega) (by omega) _ _ hW _ (lv_sub hl [0, 1, 2] rfl)
  exact lp4 (G 40 - 0 + 1) 0 (Nat.lt_succ_self _) (by omega) _ _ hW _ (lv_sub hl [0, 1, 2] rfl)
abbrev rmX5_riders : Room := { frames := 1, cells := 0, slots := 0, locals := 22 }
set_option maxRecDepth 100000 in
set_option maxHeartbeats 4000000 in
theorem M_X5_riders (l : Launch) (D : va_G) (cI cJ : ClassId) (mo R G : Nat → Nat) (b : Nat) (hb30 : b < 2 ^ 30) (hG : OkG b G) : CE E0 l D vwCl [(cI, .int), (cJ, .long)] yX5_riders wsX5_riders rmX5_riders [.ref (mo 0)] [mH mo R, mR cI (mo 1) G] (S := Unit) (some (.int (nI (onS G)))) (fun _ => True) (fun _ : Unit => [mH mo R, mR cI (mo 1) G]) 0 0 := by
  refine CE.ofW (cc := cX5_riders) (maxL := 3) (ret := (some .int)) (lv := [(0, .ref (mo 0))]) (by decide) rfl (Nat.le_of_ble_eq_true rfl) rfl ?_
  intro p e s m args below meth c ls A Q hQ hx hb hml hr hlocks hnm hown hts hK hA hE hW hl
  have hown : s.vm.findClass RX5 = some m.cls := hown
  obtain ⟨hg0, hg8, hg16, hg16b, hg24, hg32, hg40, hg48⟩ := hG.s
  refine lv_iconst (v := nI 0) hx hb dX5_riders_0 (by decide +kernel) ?_
  refine lv_istore_n (lv' := [(1, .int (nI 0)), (0, .ref (mo 0))]) hx hb dX5_riders_1 rfl hl (by decide) rfl (fun ls hl => ?_)
  refine lv_iconst (v := nI 0) hx hb dX5_riders_2 (by decide +kernel) ?_
  refine lv_istore_n (lv' := [(2, .int (nI 0)), (1, .int (nI 0)), (0, .ref (mo 0))]) hx hb dX5_riders_3 rfl hl (by decide) rfl (fun ls hl => ?_)
  have lp4 : ∀ (n : Nat) (i : Nat), G 48 - i < n → i ≤ G 48 → ∀ (H : Heap) (locs : List Loc), Wo D vwCl A s.heap H locs [mH mo R, mR cI (mo 1) G] → ∀ ls : Array Slot, lv_has ls 3 [(2, .int (nI i)), (1, .int (nI (setN (fun i => G (8 * i + 6)) i))), (0, .ref (mo 0))] → W p l e rmX5_riders s m args below meth c H locs 0 0 Q (F0 m 4 ls []) := by
    intro n
    induction n with
    | zero => intro i hm; exact absurd hm (Nat.not_lt_zero _)
    | succ n ih =>
      intro i hm hi H locs hW ls hl
      have hmi : ∀ j, j < i → G (8 * j + 6) ≤ 1 := fun j hj => (hG.c j (by omega)).2.1
      refine lv_iload_n hx hb dX5_riders_4 rfl (lv_at hl 0 rfl) ?_
      refine lv_aload_n hx hb dX5_riders_5 rfl (lv_at hl 2 rfl) ?_
      refine sg_get (ci := 4) (C := RX5) (T := TX5) (N := 15) (v := .ref (mo 1)) hx hb hts (fun _ h => List.mem_cons_of_mem _ (List.mem_append_right _ h)) hown hK hW 0 0 rfl rfl rfl 0 (by decide) (hts _ (List.mem_of_getElem? (i := 1) rfl)) rfl dX5_riders_6 ?_
      refine lv_bipush (v := nI 6) hx hb dX5_riders_9 (by decide +kernel) ?_
      refine sg_ild (v := nI (G 48)) hx hb hK hW 1 0 0 rfl rfl rfl (by decide) (by decide) rfl dX5_riders_11 ?_
      refine nn_cge (tgt := 32) hx hb dX5_riders_12 (by decide) (by omega) (by omega) (fun c12 => ?_) (fun c12 => ?_)
      · refine lv_iload_n hx hb dX5_riders_32 rfl (lv_at hl 1 rfl) ?_
        exact rt_i hQ hx hb hr hlocks hW dX5_riders_33 () (by rw [show i = G 48 by omega]; rfl) trivial rfl
      · refine lv_iload_n hx hb dX5_riders_15 rfl (lv_at hl 1 rfl) ?_
        refine lv_aload_n hx hb dX5_riders_16 rfl (lv_at hl 2 rfl) ?_
        refine lv_iload_n hx hb dX5_riders_17 rfl (lv_at hl 0 rfl) ?_
        refine lv_iconst (v := nI 1) hx hb dX5_riders_18 (by decide +kernel) ?_
        refine cl_Vi (As := [.int (nI i), .int (nI 1)]) (rest := [.int (nI (setN (fun i => G (8 * i + 6)) i))]) (C := RX5) ⟨hx, hb, hml, hown, hts⟩ (M_X5_about l D cI cJ mo R G i 1 6 (by omega) (by decide) rfl) (cwV 2 hts gX5_riders_X5_about rfl rfl rfl qX5_about ⟨Nat.le_of_ble_eq_true rfl, Nat.le_of_ble_eq_true rfl⟩) E0_good hK hA hW trivial [true, true] (fun _ => [mH mo R, mR cI (mo 1) G]) rfl (fun _ => rfl) (fun _ => rfl) 0 0 rfl rfl rfl rfl hl.1 rfl (lv_room (Nat.le_of_ble_eq_true rfl)) dX5_riders_19 ⟨Nat.zero_le _, Nat.zero_le _⟩ (fun _ H locs _ hW => ?_)
        refine lv_iload_n hx hb dX5_riders_22 rfl (lv_at hl 0 rfl) ?_
        refine nn_shl hx hb dX5_riders_23 (by omega) ?_
        refine nn_or hx hb dX5_riders_24 ?_
        refine W.top (v' := .int (nI (setN (fun i => G (8 * i + 6)) (i + 1)))) (congrArg (fun z => Value.int (nI z)) (setN_or (f := (fun i => G (8 * i + 6))) (n := i) hmi)) ?_
        refine lv_istore_n (lv' := [(1, .int (nI (setN (fun i => G (8 * i + 6)) (i + 1)))), (2, .int (nI i)), (0, .ref (mo 0))]) hx hb dX5_riders_25 rfl hl (by decide) rfl (fun ls hl => ?_)
        refine lv_iinc (v := nI (i + 1)) (lv' := [(2, .int (nI (i + 1))), (1, .int (nI (setN (fun i => G (8 * i + 6)) (i + 1)))), (0, .ref (mo 0))]) hx hb dX5_riders_26 hl (k := 1) rfl (nI_add _ 1) (by decide) rfl (fun ls hl => ?_)
        refine lv_goto (tgt := 4) hx hb dX5_riders_29 (by decide) ?_
        exact ih (i + 1) (by omega) (by omega) _ _ hW _ (lv_sub hl [0, 1, 2] rfl)
  exact lp4 (G 48 - 0 + 1) 0 (Nat.lt_succ_self _) (by omega) _ _ hW _ (lv_sub hl [0, 1, 2] rfl)
abbrev rmX5_others : Room := { frames := 2, cells := 0, slots := 0, locals := 44 }
set_option maxRecDepth 100000 in
set_option maxHeartbeats 4000000 in
theorem M_X5_others (l : Launch) (D : va_G) (cI cJ : ClassId) (mo R G : Nat → Nat) (b : Nat) (hb30 : b < 2 ^ 30) (hG : OkG b G) (a : Nat) (ha : a < G 40) : CE E0 l D vwCl [(cI, .int), (cJ, .long)] yX5_others wsX5_others rmX5_others [.ref (mo 0), .int (nI a)] [mH mo R, mR cI (mo 1) G] (S := Unit) (some (.int (nI (outC G - G (8 * a + 2))))) (fun _ => True) (fun _ : Unit => [mH mo R, mR cI (mo 1) G]) 0 0 := by
  refine CE.ofW (cc := cX5_others) (maxL := 2) (ret := (some .int)) (lv := [(0, .ref (mo 0)), (1, .int (nI a))]) (by decide) rfl (Nat.le_of_ble_eq_true rfl) rfl ?_
  intro p e s m args below meth c ls A Q hQ hx hb hml hr hlocks hnm hown hts hK hA hE hW hl
  have hown : s.vm.findClass RX5 = some m.cls := hown
  obtain ⟨hg0, hg8, hg16, hg16b, hg24, hg32, hg40, hg48⟩ := hG.s
  have hcl := clr_eq _ (outS_lt hG) a (by omega)
  refine lv_aload_n hx hb dX5_others_0 rfl (lv_at hl 0 rfl) ?_
  refine cl_Vi (As := []) (rest := []) (C := RX5) ⟨hx, hb, hml, hown, hts⟩ (M_X5_outOnes l D cI cJ mo R G b hb30 hG ) (cwV 0 hts gX5_others_X5_outOnes rfl rfl rfl qX5_outOnes ⟨Nat.le_of_ble_eq_true rfl, Nat.le_of_ble_eq_true rfl⟩) E0_good hK hA hW trivial [true, true] (fun _ => [mH mo R, mR cI (mo 1) G]) rfl (fun _ => rfl) (fun _ => rfl) 0 0 rfl rfl rfl rfl hl.1 rfl (lv_room (Nat.le_of_ble_eq_true rfl)) dX5_others_1 ⟨Nat.zero_le _, Nat.zero_le _⟩ (fun _ H locs _ hW => ?_)
  have hos_ := outS_lt (hG)
  refine lv_iconst (v := nI 1) hx hb dX5_others_4 (by decide +kernel) ?_
  refine lv_iload_n hx hb dX5_others_5 rfl (lv_at hl 1 rfl) ?_
  refine nn_shl hx hb dX5_others_6 (by omega) ?_
  refine lv_iconst (v := -1) hx hb dX5_others_7 (by decide +kernel) ?_
  refine lv_ixor hx hb dX5_others_8 ?_
  refine lv_iand hx hb dX5_others_9 ?_
  refine W.top (v' := .int (nI (clrN (outS G) a))) (congrArg Value.int hcl.1) ?_
  refine cl_Si (As := [.int (nI (clrN (outS G) a))]) (rest := []) ⟨hx, hb, hml, hown, hts⟩ (M_X5_bits l D cI cJ (clrN (outS G) a) (by omega)) (va_cwS 1 hts gX5_others_X5_bits rfl rfl rfl qX5_bits ⟨Nat.le_of_ble_eq_true rfl, Nat.le_of_ble_eq_true rfl⟩) E0_good hK hA hW trivial [] (fun _ => [mH mo R, mR cI (mo 1) G]) rfl (fun _ => rfl) (fun _ => rfl) rfl hl.1 rfl (lv_room (Nat.le_of_ble_eq_true rfl)) dX5_others_10 ⟨Nat.zero_le _, Nat.zero_le _⟩ (fun _ H locs _ hW => ?_)
  exact rt_i hQ hx hb hr hlocks hW dX5_others_13 () (by rw [bits_others hG ha]) trivial rfl
abbrev rmX5_keepsBack : Room := { frames := 3, cells := 0, slots := 0, locals := 65 }
set_option maxRecDepth 100000 in
set_option maxHeartbeats 4000000 in
theorem M_X5_keepsBack (l : Launch) (D : va_G) (cI cJ : ClassId) (mo R G : Nat → Nat) (b : Nat) (hb30 : b < 2 ^ 30) (hG : OkG b G) (a : Nat) (ha : a < G 40) : CE E0 l D vwCl [(cI, .int), (cJ, .long)] yX5_keepsBack wsX5_keepsBack rmX5_keepsBack [.ref (mo 0), .int (nI a)] [mH mo R, mR cI (mo 1) G] (S := Unit) (some (.int (nI (keepsN G a)))) (fun _ => True) (fun _ : Unit => [mH mo R, mR cI (mo 1) G]) 0 0 := by
  refine CE.ofW (cc := cX5_keepsBack) (maxL := 6) (ret := (some .int)) (lv := [(0, .ref (mo 0)), (1, .int (nI a))]) (by decide) rfl (Nat.le_of_ble_eq_true rfl) rfl ?_
  intro p e s m args below meth c ls A Q hQ hx hb hml hr hlocks hnm hown hts hK hA hE hW hl
  have hown : s.vm.findClass RX5 = some m.cls := hown
  obtain ⟨hg0, hg8, hg16, hg16b, hg24, hg32, hg40, hg48⟩ := hG.s
  have hma := hG.m a (by omega)
  have hoc8 := outC_le hG
  refine lv_aload_n hx hb dX5_keepsBack_0 rfl (lv_at hl 0 rfl) ?_
  refine lv_iload_n hx hb dX5_keepsBack_1 rfl (lv_at hl 1 rfl) ?_
  refine lv_iconst (v := nI 3) hx hb dX5_keepsBack_2 (by decide +kernel) ?_
  refine cl_Vi (As := [.int (nI a), .int (nI 3)]) (rest := []) (C := RX5) ⟨hx, hb, hml, hown, hts⟩ (M_X5_it l D cI cJ mo R G a 3 4 (by omega) (by decide) rfl) (cwV 2 hts gX5_keepsBack_X5_it rfl rfl rfl qX5_it ⟨Nat.le_of_ble_eq_true rfl, Nat.le_of_ble_eq_true rfl⟩) E0_good hK hA hW trivial [true, true] (fun _ => [mH mo R, mR cI (mo 1) G]) rfl (fun _ => rfl) (fun _ => rfl) 0 0 rfl rfl rfl rfl hl.1 rfl (lv_room (Nat.le_of_ble_eq_true rfl)) dX5_keepsBack_3 ⟨Nat.zero_le _, Nat.zero_le _⟩ (fun _ H locs _ hW => ?_)
  refine lv_istore_n (lv' := [(2, .int (nI (G (8 * a + 4)))), (0, .ref (mo 0)), (1, .int (nI a))]) hx hb dX5_keepsBack_6 rfl hl (by decide) rfl (fun ls hl => ?_)
  refine lv_aload_n hx hb dX5_keepsBack_7 rfl (lv_at hl 1 rfl) ?_
  refine lv_iload_n hx hb dX5_keepsBack_8 rfl (lv_at hl 2 rfl) ?_
  refine lv_iconst (v := nI 2) hx hb dX5_keepsBack_9 (by decide +kernel) ?_
  refine cl_Vi (As := [.int (nI a), .int (nI 2)]) (rest := []) (C := RX5) ⟨hx, hb, hml, hown, hts⟩ (M_X5_it l D cI cJ mo R G a 2 3 (by omega) (by decide) rfl) (cwV 2 hts gX5_keepsBack_X5_it rfl rfl rfl qX5_it ⟨Nat.le_of_ble_eq_true rfl, Nat.le_of_ble_eq_true rfl⟩) E0_good hK hA hW trivial [true, true] (fun _ => [mH mo R, mR cI (mo 1) G]) rfl (fun _ => rfl) (fun _ => rfl) 0 0 rfl rfl rfl rfl hl.1 rfl (lv_room (Nat.le_of_ble_eq_true rfl)) dX5_keepsBack_10 ⟨Nat.zero_le _, Nat.zero_le _⟩ (fun _ H locs _ hW => ?_)
  refine lv_istore_n (lv' := [(3, .int (nI (G (8 * a + 3)))), (2, .int (nI (G (8 * a + 4)))), (0, .ref (mo 0)), (1, .int (nI a))]) hx hb dX5_keepsBack_13 rfl hl (by decide) rfl (fun ls hl => ?_)
  refine lv_aload_n hx hb dX5_keepsBack_14 rfl (lv_at hl 2 rfl) ?_
  refine lv_iload_n hx hb dX5_keepsBack_15 rfl (lv_at hl 3 rfl) ?_
  refine cl_Vi (As := [.int (nI a)]) (rest := []) (C := RX5) ⟨hx, hb, hml, hown, hts⟩ (M_X5_others l D cI cJ mo R G b hb30 hG a (by omega)) (cwV 1 hts gX5_keepsBack_X5_others rfl rfl rfl qX5_others ⟨Nat.le_of_ble_eq_true rfl, Nat.le_of_ble_eq_true rfl⟩) E0_good hK hA hW trivial [true, true] (fun _ => [mH mo R, mR cI (mo 1) G]) rfl (fun _ => rfl) (fun _ => rfl) 0 0 rfl rfl rfl rfl hl.1 rfl (lv_room (Nat.le_of_ble_eq_true rfl)) dX5_keepsBack_16 ⟨Nat.zero_le _, Nat.zero_le _⟩ (fun _ H locs _ hW => ?_)
  refine lv_istore (lv' := [(4, .int (nI (outC G - G (8 * a + 2)))), (3, .int (nI (G (8 * a + 3)))), (2, .int (nI (G (8 * a + 4)))), (0, .ref (mo 0)), (1, .int (nI a))]) hx hb dX5_keepsBack_19 hl (by decide) rfl (fun ls hl => ?_)
  refine lv_iload hx hb dX5_keepsBack_21 (lv_at hl 0 rfl) ?_
  refine nn_zne (tgt := 30) hx hb dX5_keepsBack_23 (by decide) (by omega) (fun c23 => ?_) (fun c23 => ?_)
  · refine lv_iload_n hx hb dX5_keepsBack_30 rfl (lv_at hl 1 rfl) ?_
    refine lv_iconst (v := nI 5) hx hb dX5_keepsBack_31 (by decide +kernel) ?_
    refine nn_div hx hb dX5_keepsBack_32 (by omega) (by decide) (by decide) ?_
    refine lv_iload_n hx hb dX5_keepsBack_33 rfl (lv_at hl 2 rfl) ?_
    refine nn_add hx hb dX5_keepsBack_34 ?_
    refine lv_istore (lv' := [(5, .int (nI (((G (8 * a + 3)) / 5) + (G (8 * a + 4))))), (4, .int (nI (outC G - G (8 * a + 2)))), (3, .int (nI (G (8 * a + 3)))), (2, .int (nI (G (8 * a + 4)))), (0, .ref (mo 0)), (1, .int (nI a))]) hx hb dX5_keepsBack_35 hl (by decide) rfl (fun ls hl => ?_)
    refine lv_aload_n hx hb dX5_keepsBack_37 rfl (lv_at hl 4 rfl) ?_
    refine lv_iload_n hx hb dX5_keepsBack_38 rfl (lv_at hl 5 rfl) ?_
    refine lv_iconst (v := nI 0) hx hb dX5_keepsBack_39 (by decide +kernel) ?_
    refine cl_Vi (As := [.int (nI a), .int (nI 0)]) (rest := []) (C := RX5) ⟨hx, hb, hml, hown, hts⟩ (M_X5_it l D cI cJ mo R G a 0 1 (by omega) (by decide) rfl) (cwV 2 hts gX5_keepsBack_X5_it rfl rfl rfl qX5_it ⟨Nat.le_of_ble_eq_true rfl, Nat.le_of_ble_eq_true rfl⟩) E0_good hK hA hW trivial [true, true] (fun _ => [mH mo R, mR cI (mo 1) G]) rfl (fun _ => rfl) (fun _ => rfl) 0 0 rfl rfl rfl rfl hl.1 rfl (lv_room (Nat.le_of_ble_eq_true rfl)) dX5_keepsBack_40 ⟨Nat.zero_le _, Nat.zero_le _⟩ (fun _ H locs _ hW => ?_)
    rcases (show G (8 * a + 1) = 1 ∨ G (8 * a + 1) = 2 ∨ G (8 * a + 1) = 3 ∨ G (8 * a + 1) = 4 ∨ G (8 * a + 1) = 5 ∨ (G (8 * a + 1) < 1 ∨ 5 < G (8 * a + 1)) by omega) with c43 | c43 | c43 | c43 | c43 | c43
    · refine nn_tsI (off := 33) (tgt := 76) hx hb dX5_keepsBack_43 (by omega) 0 (by omega) (by omega) rfl (by decide) ?_
      refine lv_iload_n hx hb dX5_keepsBack_76 rfl (lv_at hl 2 rfl) ?_
      refine lv_iconst (v := nI 2) hx hb dX5_keepsBack_77 (by decide +kernel) ?_
      refine nn_div hx hb dX5_keepsBack_78 (by omega) (by decide) (by decide) ?_
      refine lv_iload_n hx hb dX5_keepsBack_79 rfl (lv_at hl 3 rfl) ?_
      refine nn_add hx hb dX5_keepsBack_80 ?_
      exact rt_i hQ hx hb hr hlocks hW dX5_keepsBack_81 () (by unfold keepsN keepK; (repeat' split) <;> first | rfl | (exfalso; omega) | (congr 3; omega)) trivial rfl
    · refine nn_tsI (off := 39) (tgt := 82) hx hb dX5_keepsBack_43 (by omega) 1 (by omega) (by omega) rfl (by decide) ?_
      refine lv_iload hx hb dX5_keepsBack_82 (lv_at hl 0 rfl) ?_
      exact rt_i hQ hx hb hr hlocks hW dX5_keepsBack_84 () (by unfold keepsN keepK; (repeat' split) <;> first | rfl | (exfalso; omega) | (congr 3; omega)) trivial rfl
    · refine nn_tsI (off := 42) (tgt := 85) hx hb dX5_keepsBack_43 (by omega) 2 (by omega) (by omega) rfl (by decide) ?_
      refine lv_iconst (v := nI 2) hx hb dX5_keepsBack_85 (by decide +kernel) ?_
      refine lv_iload_n hx hb dX5_keepsBack_86 rfl (lv_at hl 2 rfl) ?_
      refine nn_mul hx hb dX5_keepsBack_87 ?_
      exact rt_i hQ hx hb hr hlocks hW dX5_keepsBack_88 () (by unfold keepsN keepK; (repeat' split) <;> first | rfl | (exfalso; omega) | (congr 3; omega)) trivial rfl
    · refine nn_tsI (off := 46) (tgt := 89) hx hb dX5_keepsBack_43 (by omega) 3 (by omega) (by omega) rfl (by decide) ?_
      refine lv_iload_n hx hb dX5_keepsBack_89 rfl (lv_at hl 2 rfl) ?_
      refine lv_iconst (v := nI 2) hx hb dX5_keepsBack_90 (by decide +kernel) ?_
      refine nn_div hx hb dX5_keepsBack_91 (by omega) (by decide) (by decide) ?_
      refine lv_iload_n hx hb dX5_keepsBack_92 rfl (lv_at hl 3 rfl) ?_
      refine nn_add hx hb dX5_keepsBack_93 ?_
      refine lv_aload_n hx hb dX5_keepsBack_94 rfl (lv_at hl 4 rfl) ?_
      refine cl_Vi (As := []) (rest := [.int (nI (((G (8 * a + 3)) / 2) + (G (8 * a + 4))))]) (C := RX5) ⟨hx, hb, hml, hown, hts⟩ (M_X5_isNight l D cI cJ mo R G b hb30 hG ) (cwV 0 hts gX5_keepsBack_X5_isNight rfl rfl rfl qX5_isNight ⟨Nat.le_of_ble_eq_true rfl, Nat.le_of_ble_eq_true rfl⟩) E0_good hK hA hW trivial [true, true] (fun _ => [mH mo R, mR cI (mo 1) G]) rfl (fun _ => rfl) (fun _ => rfl) 0 0 rfl rfl rfl rfl hl.1 rfl (lv_room (Nat.le_of_ble_eq_true rfl)) dX5_keepsBack_95 ⟨Nat.zero_le _, Nat.zero_le _⟩ (fun _ H locs _ hW => ?_)
      have hni_ := nightN_le G
      refine nn_zeq (tgt := 106) hx hb dX5_keepsBack_98 (by decide) (by omega) (fun c98 => ?_) (fun c98 => ?_)
      · refine lv_iconst (v := nI 0) hx hb dX5_keepsBack_106 (by decide +kernel) ?_
        refine nn_add hx hb dX5_keepsBack_107 ?_
        exact rt_i hQ hx hb hr hlocks hW dX5_keepsBack_108 () (by unfold keepsN keepK; (repeat' split) <;> first | rfl | (exfalso; omega) | (congr 3; omega)) trivial rfl
      · refine lv_bipush (v := nI 10) hx hb dX5_keepsBack_101 (by decide +kernel) ?_
        refine lv_goto (tgt := 107) hx hb dX5_keepsBack_103 (by decide) ?_
        refine nn_add hx hb dX5_keepsBack_107 ?_
        exact rt_i hQ hx hb hr hlocks hW dX5_keepsBack_108 () (by unfold keepsN keepK; (repeat' split) <;> first | rfl | (exfalso; omega) | (congr 3; omega)) trivial rfl
    · refine nn_tsI (off := 66) (tgt := 109) hx hb dX5_keepsBack_43 (by omega) 4 (by omega) (by omega) rfl (by decide) ?_
      refine lv_iload hx hb dX5_keepsBack_109 (lv_at hl 0 rfl) ?_
      refine lv_iconst (v := nI 3) hx hb dX5_keepsBack_111 (by decide +kernel) ?_
      refine lv_iload hx hb dX5_keepsBack_112 (lv_at hl 1 rfl) ?_
      refine nn_mul hx hb dX5_keepsBack_114 ?_
      refine nn_add hx hb dX5_keepsBack_115 ?_
      exact rt_i hQ hx hb hr hlocks hW dX5_keepsBack_116 () (by unfold keepsN keepK; (repeat' split) <;> first | rfl | (exfalso; omega) | (congr 3; omega)) trivial rfl
    · refine nn_tsO (tgt := 117) hx hb dX5_keepsBack_43 (by omega) (by omega) (by decide) ?_
      refine lv_iload_n hx hb dX5_keepsBack_117 rfl (lv_at hl 2 rfl) ?_
      refine lv_iconst (v := nI 5) hx hb dX5_keepsBack_118 (by decide +kernel) ?_
      refine nn_div hx hb dX5_keepsBack_119 (by omega) (by decide) (by decide) ?_
      refine lv_iload_n hx hb dX5_keepsBack_120 rfl (lv_at hl 3 rfl) ?_
      refine nn_add hx hb dX5_keepsBack_121 ?_
      exact rt_i hQ hx hb hr hlocks hW dX5_keepsBack_122 () (by unfold keepsN keepK; (repeat' split) <;> first | rfl | (exfalso; omega) | (congr 3; omega)) trivial rfl
  · refine lv_iconst (v := nI 0) hx hb dX5_keepsBack_26 (by decide +kernel) ?_
    refine lv_goto (tgt := 35) hx hb dX5_keepsBack_27 (by decide) ?_
    refine lv_istore (lv' := [(5, .int (nI 0)), (4, .int (nI (outC G - G (8 * a + 2)))), (3, .int (nI (G (8 * a + 3)))), (2, .int (nI (G (8 * a + 4)))), (0, .ref (mo 0)), (1, .int (nI a))]) hx hb dX5_keepsBack_35 hl (by decide) rfl (fun ls hl => ?_)
    refine lv_aload_n hx hb dX5_keepsBack_37 rfl (lv_at hl 4 rfl) ?_
    refine lv_iload_n hx hb dX5_keepsBack_38 rfl (lv_at hl 5 rfl) ?_
    refine lv_iconst (v := nI 0) hx hb dX5_keepsBack_39 (by decide +kernel) ?_
    refine cl_Vi (As := [.int (nI a), .int (nI 0)]) (rest := []) (C := RX5) ⟨hx, hb, hml, hown, hts⟩ (M_X5_it l D cI cJ mo R G a 0 1 (by omega) (by decide) rfl) (cwV 2 hts gX5_keepsBack_X5_it rfl rfl rfl qX5_it ⟨Nat.le_of_ble_eq_true rfl, Nat.le_of_ble_eq_true rfl⟩) E0_good hK hA hW trivial [true, true] (fun _ => [mH mo R, mR cI (mo 1) G]) rfl (fun _ => rfl) (fun _ => rfl) 0 0 rfl rfl rfl rfl hl.1 rfl (lv_room (Nat.le_of_ble_eq_true rfl)) dX5_keepsBack_40 ⟨Nat.zero_le _, Nat.zero_le _⟩ (fun _ H locs _ hW => ?_)
    rcases (show G (8 * a + 1) = 1 ∨ G (8 * a + 1) = 2 ∨ G (8 * a + 1) = 3 ∨ G (8 * a + 1) = 4 ∨ G (8 * a + 1) = 5 ∨ (G (8 * a + 1) < 1 ∨ 5 < G (8 * a + 1)) by omega) with c43_1 | c43_1 | c43_1 | c43_1 | c43_1 | c43_1
    · refine nn_tsI (off := 33) (tgt := 76) hx hb dX5_keepsBack_43 (by omega) 0 (by omega) (by omega) rfl (by decide) ?_
      refine lv_iload_n hx hb dX5_keepsBack_76 rfl (lv_at hl 2 rfl) ?_
      refine lv_iconst (v := nI 2) hx hb dX5_keepsBack_77 (by decide +kernel) ?_
      refine nn_div hx hb dX5_keepsBack_78 (by omega) (by decide) (by decide) ?_
      refine lv_iload_n hx hb dX5_keepsBack_79 rfl (lv_at hl 3 rfl) ?_
      refine nn_add hx hb dX5_keepsBack_80 ?_
      exact rt_i hQ hx hb hr hlocks hW dX5_keepsBack_81 () (by unfold keepsN keepK; (repeat' split) <;> first | rfl | (exfalso; omega) | (congr 3; omega)) trivial rfl
    · refine nn_tsI (off := 39) (tgt := 82) hx hb dX5_keepsBack_43 (by omega) 1 (by omega) (by omega) rfl (by decide) ?_
      refine lv_iload hx hb dX5_keepsBack_82 (lv_at hl 0 rfl) ?_
      exact rt_i hQ hx hb hr hlocks hW dX5_keepsBack_84 () (by unfold keepsN keepK; (repeat' split) <;> first | rfl | (exfalso; omega) | (congr 3; omega)) trivial rfl
    · refine nn_tsI (off := 42) (tgt := 85) hx hb dX5_keepsBack_43 (by omega) 2 (by omega) (by omega) rfl (by decide) ?_
      refine lv_iconst (v := nI 2) hx hb dX5_keepsBack_85 (by decide +kernel) ?_
      refine lv_iload_n hx hb dX5_keepsBack_86 rfl (lv_at hl 2 rfl) ?_
      refine nn_mul hx hb dX5_keepsBack_87 ?_
      exact rt_i hQ hx hb hr hlocks hW dX5_keepsBack_88 () (by unfold keepsN keepK; (repeat' split) <;> first | rfl | (exfalso; omega) | (congr 3; omega)) trivial rfl
    · refine nn_tsI (off := 46) (tgt := 89) hx hb dX5_keepsBack_43 (by omega) 3 (by omega) (by omega) rfl (by decide) ?_
      refine lv_iload_n hx hb dX5_keepsBack_89 rfl (lv_at hl 2 rfl) ?_
      refine lv_iconst (v := nI 2) hx hb dX5_keepsBack_90 (by decide +kernel) ?_
      refine nn_div hx hb dX5_keepsBack_91 (by omega) (by decide) (by decide) ?_
      refine lv_iload_n hx hb dX5_keepsBack_92 rfl (lv_at hl 3 rfl) ?_
      refine nn_add hx hb dX5_keepsBack_93 ?_
      refine lv_aload_n hx hb dX5_keepsBack_94 rfl (lv_at hl 4 rfl) ?_
      refine cl_Vi (As := []) (rest := [.int (nI (((G (8 * a + 3)) / 2) + (G (8 * a + 4))))]) (C := RX5) ⟨hx, hb, hml, hown, hts⟩ (M_X5_isNight l D cI cJ mo R G b hb30 hG ) (cwV 0 hts gX5_keepsBack_X5_isNight rfl rfl rfl qX5_isNight ⟨Nat.le_of_ble_eq_true rfl, Nat.le_of_ble_eq_true rfl⟩) E0_good hK hA hW trivial [true, true] (fun _ => [mH mo R, mR cI (mo 1) G]) rfl (fun _ => rfl) (fun _ => rfl) 0 0 rfl rfl rfl rfl hl.1 rfl (lv_room (Nat.le_of_ble_eq_true rfl)) dX5_keepsBack_95 ⟨Nat.zero_le _, Nat.zero_le _⟩ (fun _ H locs _ hW => ?_)
      have hni_ := nightN_le G
      refine nn_zeq (tgt := 106) hx hb dX5_keepsBack_98 (by decide) (by omega) (fun c98_1 => ?_) (fun c98_1 => ?_)
      · refine lv_iconst (v := nI 0) hx hb dX5_keepsBack_106 (by decide +kernel) ?_
        refine nn_add hx hb dX5_keepsBack_107 ?_
        exact rt_i hQ hx hb hr hlocks hW dX5_keepsBack_108 () (by unfold keepsN keepK; (repeat' split) <;> first | rfl | (exfalso; omega) | (congr 3; omega)) trivial rfl
      · refine lv_bipush (v := nI 10) hx hb dX5_keepsBack_101 (by decide +kernel) ?_
        refine lv_goto (tgt := 107) hx hb dX5_keepsBack_103 (by decide) ?_
        refine nn_add hx hb dX5_keepsBack_107 ?_
        exact rt_i hQ hx hb hr hlocks hW dX5_keepsBack_108 () (by unfold keepsN keepK; (repeat' split) <;> first | rfl | (exfalso; omega) | (congr 3; omega)) trivial rfl
    · refine nn_tsI (off := 66) (tgt := 109) hx hb dX5_keepsBack_43 (by omega) 4 (by omega) (by omega) rfl (by decide) ?_
      refine lv_iload hx hb dX5_keepsBack_109 (lv_at hl 0 rfl) ?_
      refine lv_iconst (v := nI 3) hx hb dX5_keepsBack_111 (by decide +kernel) ?_
      refine lv_iload hx hb dX5_keepsBack_112 (lv_at hl 1 rfl) ?_
      refine nn_mul hx hb dX5_keepsBack_114 ?_
      refine nn_add hx hb dX5_keepsBack_115 ?_
      exact rt_i hQ hx hb hr hlocks hW dX5_keepsBack_116 () (by unfold keepsN keepK; (repeat' split) <;> first | rfl | (exfalso; omega) | (congr 3; omega)) trivial rfl
    · refine nn_tsO (tgt := 117) hx hb dX5_keepsBack_43 (by omega) (by omega) (by decide) ?_
      refine lv_iload_n hx hb dX5_keepsBack_117 rfl (lv_at hl 2 rfl) ?_
      refine lv_iconst (v := nI 5) hx hb dX5_keepsBack_118 (by decide +kernel) ?_
      refine nn_div hx hb dX5_keepsBack_119 (by omega) (by decide) (by decide) ?_
      refine lv_iload_n hx hb dX5_keepsBack_120 rfl (lv_at hl 3 rfl) ?_
      refine nn_add hx hb dX5_keepsBack_121 ?_
      exact rt_i hQ hx hb hr hlocks hW dX5_keepsBack_122 () (by unfold keepsN keepK; (repeat' split) <;> first | rfl | (exfalso; omega) | (congr 3; omega)) trivial rfl
abbrev rmX5_doesSpeak : Room := { frames := 3, cells := 0, slots := 0, locals := 65 }
set_option maxRecDepth 100000 in
set_option maxHeartbeats 4000000 in
theorem M_X5_doesSpeak (l : Launch) (D : va_G) (cI cJ : ClassId) (mo R G : Nat → Nat) (b : Nat) (hb30 : b < 2 ^ 30) (hG : OkG b G) (a : Nat) (ha : a < G 40) : CE E0 l D vwCl [(cI, .int), (cJ, .long)] yX5_doesSpeak wsX5_doesSpeak rmX5_doesSpeak [.ref (mo 0), .int (nI a)] [mH mo R, mR cI (mo 1) G] (S := Unit) (some (.int (nI (speaksN G a)))) (fun _ => True) (fun _ : Unit => [mH mo R, mR cI (mo 1) G]) 0 0 := by
  refine CE.ofW (cc := cX5_doesSpeak) (maxL := 4) (ret := (some .boolean)) (lv := [(0, .ref (mo 0)), (1, .int (nI a))]) (by decide) rfl (Nat.le_of_ble_eq_true rfl) rfl ?_
  intro p e s m args below meth c ls A Q hQ hx hb hml hr hlocks hnm hown hts hK hA hE hW hl
  have hown : s.vm.findClass RX5 = some m.cls := hown
  obtain ⟨hg0, hg8, hg16, hg16b, hg24, hg32, hg40, hg48⟩ := hG.s
  have hma := hG.m a (by omega)
  have hoc8 := outC_le hG
  refine lv_aload_n hx hb dX5_doesSpeak_0 rfl (lv_at hl 0 rfl) ?_
  refine lv_iload_n hx hb dX5_doesSpeak_1 rfl (lv_at hl 1 rfl) ?_
  refine lv_iconst (v := nI 3) hx hb dX5_doesSpeak_2 (by decide +kernel) ?_
  refine cl_Vi (As := [.int (nI a), .int (nI 3)]) (rest := []) (C := RX5) ⟨hx, hb, hml, hown, hts⟩ (M_X5_it l D cI cJ mo R G a 3 4 (by omega) (by decide) rfl) (cwV 2 hts gX5_doesSpeak_X5_it rfl rfl rfl qX5_it ⟨Nat.le_of_ble_eq_true rfl, Nat.le_of_ble_eq_true rfl⟩) E0_good hK hA hW trivial [true, true] (fun _ => [mH mo R, mR cI (mo 1) G]) rfl (fun _ => rfl) (fun _ => rfl) 0 0 rfl rfl rfl rfl hl.1 rfl (lv_room (Nat.le_of_ble_eq_true rfl)) dX5_doesSpeak_3 ⟨Nat.zero_le _, Nat.zero_le _⟩ (fun _ H locs _ hW => ?_)
  refine lv_istore_n (lv' := [(2, .int (nI (G (8 * a + 4)))), (0, .ref (mo 0)), (1, .int (nI a))]) hx hb dX5_doesSpeak_6 rfl hl (by decide) rfl (fun ls hl => ?_)
  refine lv_iload_n hx hb dX5_doesSpeak_7 rfl (lv_at hl 0 rfl) ?_
  refine lv_iconst (v := nI 3) hx hb dX5_doesSpeak_8 (by decide +kernel) ?_
  refine nn_clt (tgt := 24) hx hb dX5_doesSpeak_9 (by decide) (by omega) (by decide) (fun c9 => ?_) (fun c9 => ?_)
  · refine lv_iconst (v := nI 0) hx hb dX5_doesSpeak_24 (by decide +kernel) ?_
    refine lv_istore_n (lv' := [(3, .int (nI 0)), (2, .int (nI (G (8 * a + 4)))), (0, .ref (mo 0)), (1, .int (nI a))]) hx hb dX5_doesSpeak_25 rfl hl (by decide) rfl (fun ls hl => ?_)
    refine lv_aload_n hx hb dX5_doesSpeak_26 rfl (lv_at hl 2 rfl) ?_
    refine lv_iload_n hx hb dX5_doesSpeak_27 rfl (lv_at hl 3 rfl) ?_
    refine lv_iconst (v := nI 0) hx hb dX5_doesSpeak_28 (by decide +kernel) ?_
    refine cl_Vi (As := [.int (nI a), .int (nI 0)]) (rest := []) (C := RX5) ⟨hx, hb, hml, hown, hts⟩ (M_X5_it l D cI cJ mo R G a 0 1 (by omega) (by decide) rfl) (cwV 2 hts gX5_doesSpeak_X5_it rfl rfl rfl qX5_it ⟨Nat.le_of_ble_eq_true rfl, Nat.le_of_ble_eq_true rfl⟩) E0_good hK hA hW trivial [true, true] (fun _ => [mH mo R, mR cI (mo 1) G]) rfl (fun _ => rfl) (fun _ => rfl) 0 0 rfl rfl rfl rfl hl.1 rfl (lv_room (Nat.le_of_ble_eq_true rfl)) dX5_doesSpeak_29 ⟨Nat.zero_le _, Nat.zero_le _⟩ (fun _ H locs _ hW => ?_)
    rcases (show G (8 * a + 1) = 1 ∨ G (8 * a + 1) = 2 ∨ G (8 * a + 1) = 3 ∨ G (8 * a + 1) = 4 ∨ G (8 * a + 1) = 5 ∨ (G (8 * a + 1) < 1 ∨ 5 < G (8 * a + 1)) by omega) with c32 | c32 | c32 | c32 | c32 | c32
    · refine nn_tsI (off := 36) (tgt := 68) hx hb dX5_doesSpeak_32 (by omega) 0 (by omega) (by omega) rfl (by decide) ?_
      refine lv_iload_n hx hb dX5_doesSpeak_68 rfl (lv_at hl 1 rfl) ?_
      refine lv_bipush (v := nI 15) hx hb dX5_doesSpeak_69 (by decide +kernel) ?_
      refine nn_clt (tgt := 78) hx hb dX5_doesSpeak_71 (by decide) (by omega) (by decide) (fun c71 => ?_) (fun c71 => ?_)
      · refine lv_iconst (v := nI 0) hx hb dX5_doesSpeak_78 (by decide +kernel) ?_
        exact rt_z hQ hx hb hr hlocks hW dX5_doesSpeak_79 (by decide +kernel) () (by unfold speaksN speakK; (repeat' split) <;> first | rfl | (exfalso; omega) | (congr 3; omega)) trivial rfl
      · refine lv_iconst (v := nI 1) hx hb dX5_doesSpeak_74 (by decide +kernel) ?_
        refine lv_goto (tgt := 79) hx hb dX5_doesSpeak_75 (by decide) ?_
        exact rt_z hQ hx hb hr hlocks hW dX5_doesSpeak_79 (by decide +kernel) () (by unfold speaksN speakK; (repeat' split) <;> first | rfl | (exfalso; omega) | (congr 3; omega)) trivial rfl
    · refine nn_tsI (off := 48) (tgt := 80) hx hb dX5_doesSpeak_32 (by omega) 1 (by omega) (by omega) rfl (by decide) ?_
      refine lv_iload_n hx hb dX5_doesSpeak_80 rfl (lv_at hl 0 rfl) ?_
      exact rt_z hQ hx hb hr hlocks hW dX5_doesSpeak_81 (by decide +kernel) () (by unfold speaksN speakK; (repeat' split) <;> first | rfl | (exfalso; omega) | (congr 3; omega)) trivial rfl
    · refine nn_tsI (off := 50) (tgt := 82) hx hb dX5_doesSpeak_32 (by omega) 2 (by omega) (by omega) rfl (by decide) ?_
      refine lv_iconst (v := nI 0) hx hb dX5_doesSpeak_82 (by decide +kernel) ?_
      exact rt_z hQ hx hb hr hlocks hW dX5_doesSpeak_83 (by decide +kernel) () (by unfold speaksN speakK; (repeat' split) <;> first | rfl | (exfalso; omega) | (congr 3; omega)) trivial rfl
    · refine nn_tsI (off := 52) (tgt := 84) hx hb dX5_doesSpeak_32 (by omega) 3 (by omega) (by omega) rfl (by decide) ?_
      refine lv_iload_n hx hb dX5_doesSpeak_84 rfl (lv_at hl 1 rfl) ?_
      refine lv_bipush (v := nI 15) hx hb dX5_doesSpeak_85 (by decide +kernel) ?_
      refine nn_clt (tgt := 101) hx hb dX5_doesSpeak_87 (by decide) (by omega) (by decide) (fun c87 => ?_) (fun c87 => ?_)
      · refine lv_iconst (v := nI 0) hx hb dX5_doesSpeak_101 (by decide +kernel) ?_
        exact rt_z hQ hx hb hr hlocks hW dX5_doesSpeak_102 (by decide +kernel) () (by unfold speaksN speakK; (repeat' split) <;> first | rfl | (exfalso; omega) | (congr 3; omega)) trivial rfl
      · refine lv_aload_n hx hb dX5_doesSpeak_90 rfl (lv_at hl 2 rfl) ?_
        refine cl_Vi (As := []) (rest := []) (C := RX5) ⟨hx, hb, hml, hown, hts⟩ (M_X5_isNight l D cI cJ mo R G b hb30 hG ) (cwV 0 hts gX5_doesSpeak_X5_isNight rfl rfl rfl qX5_isNight ⟨Nat.le_of_ble_eq_true rfl, Nat.le_of_ble_eq_true rfl⟩) E0_good hK hA hW trivial [true, true] (fun _ => [mH mo R, mR cI (mo 1) G]) rfl (fun _ => rfl) (fun _ => rfl) 0 0 rfl rfl rfl rfl hl.1 rfl (lv_room (Nat.le_of_ble_eq_true rfl)) dX5_doesSpeak_91 ⟨Nat.zero_le _, Nat.zero_le _⟩ (fun _ H locs _ hW => ?_)
        have hni_ := nightN_le G
        refine nn_zne (tgt := 101) hx hb dX5_doesSpeak_94 (by decide) (by omega) (fun c94 => ?_) (fun c94 => ?_)
        · refine lv_iconst (v := nI 0) hx hb dX5_doesSpeak_101 (by decide +kernel) ?_
          exact rt_z hQ hx hb hr hlocks hW dX5_doesSpeak_102 (by decide +kernel) () (by unfold speaksN speakK; (repeat' split) <;> first | rfl | (exfalso; omega) | (congr 3; omega)) trivial rfl
        · refine lv_iconst (v := nI 1) hx hb dX5_doesSpeak_97 (by decide +kernel) ?_
          refine lv_goto (tgt := 102) hx hb dX5_doesSpeak_98 (by decide) ?_
          exact rt_z hQ hx hb hr hlocks hW dX5_doesSpeak_102 (by decide +kernel) () (by unfold speaksN speakK; (repeat' split) <;> first | rfl | (exfalso; omega) | (congr 3; omega)) trivial rfl
    · refine nn_tsI (off := 71) (tgt := 103) hx hb dX5_doesSpeak_32 (by omega) 4 (by omega) (by omega) rfl (by decide) ?_
      refine lv_iload_n hx hb dX5_doesSpeak_103 rfl (lv_at hl 0 rfl) ?_
      refine nn_zne (tgt := 118) hx hb dX5_doesSpeak_104 (by decide) (by decide) (fun c104 => ?_) (fun c104 => ?_)
      · exfalso; omega
      · refine lv_aload_n hx hb dX5_doesSpeak_107 rfl (lv_at hl 2 rfl) ?_
        refine sg_get (ci := 4) (C := RX5) (T := TX5) (N := 15) (v := .ref (mo 1)) hx hb hts (fun _ h => List.mem_cons_of_mem _ (List.mem_append_right _ h)) hown hK hW 0 0 rfl rfl rfl 0 (by decide) (hts _ (List.mem_of_getElem? (i := 1) rfl)) rfl dX5_doesSpeak_108 ?_
        refine lv_iconst (v := nI 3) hx hb dX5_doesSpeak_111 (by decide +kernel) ?_
        refine sg_ild (v := nI (G 24)) hx hb hK hW 1 0 0 rfl rfl rfl (by decide) (by decide) rfl dX5_doesSpeak_112 ?_
        refine lv_bipush (v := nI 100) hx hb dX5_doesSpeak_113 (by decide +kernel) ?_
        refine nn_cle (tgt := 122) hx hb dX5_doesSpeak_115 (by decide) (by omega) (by decide) (fun c115 => ?_) (fun c115 => ?_)
        · refine lv_iconst (v := nI 0) hx hb dX5_doesSpeak_122 (by decide +kernel) ?_
          exact rt_z hQ hx hb hr hlocks hW dX5_doesSpeak_123 (by decide +kernel) () (by unfold speaksN speakK; (repeat' split) <;> first | rfl | (exfalso; omega) | (congr 3; omega)) trivial rfl
        · refine lv_iconst (v := nI 1) hx hb dX5_doesSpeak_118 (by decide +kernel) ?_
          refine lv_goto (tgt := 123) hx hb dX5_doesSpeak_119 (by decide) ?_
          exact rt_z hQ hx hb hr hlocks hW dX5_doesSpeak_123 (by decide +kernel) () (by unfold speaksN speakK; (repeat' split) <;> first | rfl | (exfalso; omega) | (congr 3; omega)) trivial rfl
    · refine nn_tsO (tgt := 124) hx hb dX5_doesSpeak_32 (by omega) (by omega) (by decide) ?_
      refine lv_iload_n hx hb dX5_doesSpeak_124 rfl (lv_at hl 1 rfl) ?_
      refine lv_bipush (v := nI 9) hx hb dX5_doesSpeak_125 (by decide +kernel) ?_
      refine nn_clt (tgt := 134) hx hb dX5_doesSpeak_127 (by decide) (by omega) (by decide) (fun c127 => ?_) (fun c127 => ?_)
      · refine lv_iconst (v := nI 0) hx hb dX5_doesSpeak_134 (by decide +kernel) ?_
        exact rt_z hQ hx hb hr hlocks hW dX5_doesSpeak_135 (by decide +kernel) () (by unfold speaksN speakK; (repeat' split) <;> first | rfl | (exfalso; omega) | (congr 3; omega)) trivial rfl
      · refine lv_iconst (v := nI 1) hx hb dX5_doesSpeak_130 (by decide +kernel) ?_
        refine lv_goto (tgt := 135) hx hb dX5_doesSpeak_131 (by decide) ?_
        exact rt_z hQ hx hb hr hlocks hW dX5_doesSpeak_135 (by decide +kernel) () (by unfold speaksN speakK; (repeat' split) <;> first | rfl | (exfalso; omega) | (congr 3; omega)) trivial rfl
  · refine lv_aload_n hx hb dX5_doesSpeak_12 rfl (lv_at hl 1 rfl) ?_
    refine lv_iload_n hx hb dX5_doesSpeak_13 rfl (lv_at hl 2 rfl) ?_
    refine cl_Vi (As := [.int (nI a)]) (rest := []) (C := RX5) ⟨hx, hb, hml, hown, hts⟩ (M_X5_others l D cI cJ mo R G b hb30 hG a (by omega)) (cwV 1 hts gX5_doesSpeak_X5_others rfl rfl rfl qX5_others ⟨Nat.le_of_ble_eq_true rfl, Nat.le_of_ble_eq_true rfl⟩) E0_good hK hA hW trivial [true, true] (fun _ => [mH mo R, mR cI (mo 1) G]) rfl (fun _ => rfl) (fun _ => rfl) 0 0 rfl rfl rfl rfl hl.1 rfl (lv_room (Nat.le_of_ble_eq_true rfl)) dX5_doesSpeak_14 ⟨Nat.zero_le _, Nat.zero_le _⟩ (fun _ H locs _ hW => ?_)
    refine nn_zle (tgt := 24) hx hb dX5_doesSpeak_17 (by decide) (by omega) (fun c17 => ?_) (fun c17 => ?_)
    · refine lv_iconst (v := nI 0) hx hb dX5_doesSpeak_24 (by decide +kernel) ?_
      refine lv_istore_n (lv' := [(3, .int (nI 0)), (2, .int (nI (G (8 * a + 4)))), (0, .ref (mo 0)), (1, .int (nI a))]) hx hb dX5_doesSpeak_25 rfl hl (by decide) rfl (fun ls hl => ?_)
      refine lv_aload_n hx hb dX5_doesSpeak_26 rfl (lv_at hl 2 rfl) ?_
      refine lv_iload_n hx hb dX5_doesSpeak_27 rfl (lv_at hl 3 rfl) ?_
      refine lv_iconst (v := nI 0) hx hb dX5_doesSpeak_28 (by decide +kernel) ?_
      refine cl_Vi (As := [.int (nI a), .int (nI 0)]) (rest := []) (C := RX5) ⟨hx, hb, hml, hown, hts⟩ (M_X5_it l D cI cJ mo R G a 0 1 (by omega) (by decide) rfl) (cwV 2 hts gX5_doesSpeak_X5_it rfl rfl rfl qX5_it ⟨Nat.le_of_ble_eq_true rfl, Nat.le_of_ble_eq_true rfl⟩) E0_good hK hA hW trivial [true, true] (fun _ => [mH mo R, mR cI (mo 1) G]) rfl (fun _ => rfl) (fun _ => rfl) 0 0 rfl rfl rfl rfl hl.1 rfl (lv_room (Nat.le_of_ble_eq_true rfl)) dX5_doesSpeak_29 ⟨Nat.zero_le _, Nat.zero_le _⟩ (fun _ H locs _ hW => ?_)
      rcases (show G (8 * a + 1) = 1 ∨ G (8 * a + 1) = 2 ∨ G (8 * a + 1) = 3 ∨ G (8 * a + 1) = 4 ∨ G (8 * a + 1) = 5 ∨ (G (8 * a + 1) < 1 ∨ 5 < G (8 * a + 1)) by omega) with c32_1 | c32_1 | c32_1 | c32_1 | c32_1 | c32_1
      · refine nn_tsI (off := 36) (tgt := 68) hx hb dX5_doesSpeak_32 (by omega) 0 (by omega) (by omega) rfl (by decide) ?_
        refine lv_iload_n hx hb dX5_doesSpeak_68 rfl (lv_at hl 1 rfl) ?_
        refine lv_bipush (v := nI 15) hx hb dX5_doesSpeak_69 (by decide +kernel) ?_
        refine nn_clt (tgt := 78) hx hb dX5_doesSpeak_71 (by decide) (by omega) (by decide) (fun c71_1 => ?_) (fun c71_1 => ?_)
        · refine lv_iconst (v := nI 0) hx hb dX5_doesSpeak_78 (by decide +kernel) ?_
          exact rt_z hQ hx hb hr hlocks hW dX5_doesSpeak_79 (by decide +kernel) () (by unfold speaksN speakK; (repeat' split) <;> first | rfl | (exfalso; omega) | (congr 3; omega)) trivial rfl
        · refine lv_iconst (v := nI 1) hx hb dX5_doesSpeak_74 (by decide +kernel) ?_
          refine lv_goto (tgt := 79) hx hb dX5_doesSpeak_75 (by decide) ?_
          exact rt_z hQ hx hb hr hlocks hW dX5_doesSpeak_79 (by decide +kernel) () (by unfold speaksN speakK; (repeat' split) <;> first | rfl | (exfalso; omega) | (congr 3; omega)) trivial rfl
      · refine nn_tsI (off := 48) (tgt := 80) hx hb dX5_doesSpeak_32 (by omega) 1 (by omega) (by omega) rfl (by decide) ?_
        refine lv_iload_n hx hb dX5_doesSpeak_80 rfl (lv_at hl 0 rfl) ?_
        exact rt_z hQ hx hb hr hlocks hW dX5_doesSpeak_81 (by decide +kernel) () (by unfold speaksN speakK; (repeat' split) <;> first | rfl | (exfalso; omega) | (congr 3; omega)) trivial rfl
      · refine nn_tsI (off := 50) (tgt := 82) hx hb dX5_doesSpeak_32 (by omega) 2 (by omega) (by omega) rfl (by decide) ?_
        refine lv_iconst (v := nI 0) hx hb dX5_doesSpeak_82 (by decide +kernel) ?_
        exact rt_z hQ hx hb hr hlocks hW dX5_doesSpeak_83 (by decide +kernel) () (by unfold speaksN speakK; (repeat' split) <;> first | rfl | (exfalso; omega) | (congr 3; omega)) trivial rfl
      · refine nn_tsI (off := 52) (tgt := 84) hx hb dX5_doesSpeak_32 (by omega) 3 (by omega) (by omega) rfl (by decide) ?_
        refine lv_iload_n hx hb dX5_doesSpeak_84 rfl (lv_at hl 1 rfl) ?_
        refine lv_bipush (v := nI 15) hx hb dX5_doesSpeak_85 (by decide +kernel) ?_
        refine nn_clt (tgt := 101) hx hb dX5_doesSpeak_87 (by decide) (by omega) (by decide) (fun c87_1 => ?_) (fun c87_1 => ?_)
        · refine lv_iconst (v := nI 0) hx hb dX5_doesSpeak_101 (by decide +kernel) ?_
          exact rt_z hQ hx hb hr hlocks hW dX5_doesSpeak_102 (by decide +kernel) () (by unfold speaksN speakK; (repeat' split) <;> first | rfl | (exfalso; omega) | (congr 3; omega)) trivial rfl
        · refine lv_aload_n hx hb dX5_doesSpeak_90 rfl (lv_at hl 2 rfl) ?_
          refine cl_Vi (As := []) (rest := []) (C := RX5) ⟨hx, hb, hml, hown, hts⟩ (M_X5_isNight l D cI cJ mo R G b hb30 hG ) (cwV 0 hts gX5_doesSpeak_X5_isNight rfl rfl rfl qX5_isNight ⟨Nat.le_of_ble_eq_true rfl, Nat.le_of_ble_eq_true rfl⟩) E0_good hK hA hW trivial [true, true] (fun _ => [mH mo R, mR cI (mo 1) G]) rfl (fun _ => rfl) (fun _ => rfl) 0 0 rfl rfl rfl rfl hl.1 rfl (lv_room (Nat.le_of_ble_eq_true rfl)) dX5_doesSpeak_91 ⟨Nat.zero_le _, Nat.zero_le _⟩ (fun _ H locs _ hW => ?_)
          have hni_ := nightN_le G
          refine nn_zne (tgt := 101) hx hb dX5_doesSpeak_94 (by decide) (by omega) (fun c94_1 => ?_) (fun c94_1 => ?_)
          · refine lv_iconst (v := nI 0) hx hb dX5_doesSpeak_101 (by decide +kernel) ?_
            exact rt_z hQ hx hb hr hlocks hW dX5_doesSpeak_102 (by decide +kernel) () (by unfold speaksN speakK; (repeat' split) <;> first | rfl | (exfalso; omega) | (congr 3; omega)) trivial rfl
          · refine lv_iconst (v := nI 1) hx hb dX5_doesSpeak_97 (by decide +kernel) ?_
            refine lv_goto (tgt := 102) hx hb dX5_doesSpeak_98 (by decide) ?_
            exact rt_z hQ hx hb hr hlocks hW dX5_doesSpeak_102 (by decide +kernel) () (by unfold speaksN speakK; (repeat' split) <;> first | rfl | (exfalso; omega) | (congr 3; omega)) trivial rfl
      · refine nn_tsI (off := 71) (tgt := 103) hx hb dX5_doesSpeak_32 (by omega) 4 (by omega) (by omega) rfl (by decide) ?_
        refine lv_iload_n hx hb dX5_doesSpeak_103 rfl (lv_at hl 0 rfl) ?_
        refine nn_zne (tgt := 118) hx hb dX5_doesSpeak_104 (by decide) (by decide) (fun c104_1 => ?_) (fun c104_1 => ?_)
        · exfalso; omega
        · refine lv_aload_n hx hb dX5_doesSpeak_107 rfl (lv_at hl 2 rfl) ?_
          refine sg_get (ci := 4) (C := RX5) (T := TX5) (N := 15) (v := .ref (mo 1)) hx hb hts (fun _ h => List.mem_cons_of_mem _ (List.mem_append_right _ h)) hown hK hW 0 0 rfl rfl rfl 0 (by decide) (hts _ (List.mem_of_getElem? (i := 1) rfl)) rfl dX5_doesSpeak_108 ?_
          refine lv_iconst (v := nI 3) hx hb dX5_doesSpeak_111 (by decide +kernel) ?_
          refine sg_ild (v := nI (G 24)) hx hb hK hW 1 0 0 rfl rfl rfl (by decide) (by decide) rfl dX5_doesSpeak_112 ?_
          refine lv_bipush (v := nI 100) hx hb dX5_doesSpeak_113 (by decide +kernel) ?_
          refine nn_cle (tgt := 122) hx hb dX5_doesSpeak_115 (by decide) (by omega) (by decide) (fun c115_1 => ?_) (fun c115_1 => ?_)
          · refine lv_iconst (v := nI 0) hx hb dX5_doesSpeak_122 (by decide +kernel) ?_
            exact rt_z hQ hx hb hr hlocks hW dX5_doesSpeak_123 (by decide +kernel) () (by unfold speaksN speakK; (repeat' split) <;> first | rfl | (exfalso; omega) | (congr 3; omega)) trivial rfl
          · refine lv_iconst (v := nI 1) hx hb dX5_doesSpeak_118 (by decide +kernel) ?_
            refine lv_goto (tgt := 123) hx hb dX5_doesSpeak_119 (by decide) ?_
            exact rt_z hQ hx hb hr hlocks hW dX5_doesSpeak_123 (by decide +kernel) () (by unfold speaksN speakK; (repeat' split) <;> first | rfl | (exfalso; omega) | (congr 3; omega)) trivial rfl
      · refine nn_tsO (tgt := 124) hx hb dX5_doesSpeak_32 (by omega) (by omega) (by decide) ?_
        refine lv_iload_n hx hb dX5_doesSpeak_124 rfl (lv_at hl 1 rfl) ?_
        refine lv_bipush (v := nI 9) hx hb dX5_doesSpeak_125 (by decide +kernel) ?_
        refine nn_clt (tgt := 134) hx hb dX5_doesSpeak_127 (by decide) (by omega) (by decide) (fun c127_1 => ?_) (fun c127_1 => ?_)
        · refine lv_iconst (v := nI 0) hx hb dX5_doesSpeak_134 (by decide +kernel) ?_
          exact rt_z hQ hx hb hr hlocks hW dX5_doesSpeak_135 (by decide +kernel) () (by unfold speaksN speakK; (repeat' split) <;> first | rfl | (exfalso; omega) | (congr 3; omega)) trivial rfl
        · refine lv_iconst (v := nI 1) hx hb dX5_doesSpeak_130 (by decide +kernel) ?_
          refine lv_goto (tgt := 135) hx hb dX5_doesSpeak_131 (by decide) ?_
          exact rt_z hQ hx hb hr hlocks hW dX5_doesSpeak_135 (by decide +kernel) () (by unfold speaksN speakK; (repeat' split) <;> first | rfl | (exfalso; omega) | (congr 3; omega)) trivial rfl
    · refine lv_iconst (v := nI 1) hx hb dX5_doesSpeak_20 (by decide +kernel) ?_
      refine lv_goto (tgt := 25) hx hb dX5_doesSpeak_21 (by decide) ?_
      refine lv_istore_n (lv' := [(3, .int (nI 1)), (2, .int (nI (G (8 * a + 4)))), (0, .ref (mo 0)), (1, .int (nI a))]) hx hb dX5_doesSpeak_25 rfl hl (by decide) rfl (fun ls hl => ?_)
      refine lv_aload_n hx hb dX5_doesSpeak_26 rfl (lv_at hl 2 rfl) ?_
      refine lv_iload_n hx hb dX5_doesSpeak_27 rfl (lv_at hl 3 rfl) ?_
      refine lv_iconst (v := nI 0) hx hb dX5_doesSpeak_28 (by decide +kernel) ?_
      refine cl_Vi (As := [.int (nI a), .int (nI 0)]) (rest := []) (C := RX5) ⟨hx, hb, hml, hown, hts⟩ (M_X5_it l D cI cJ mo R G a 0 1 (by omega) (by decide) rfl) (cwV 2 hts gX5_doesSpeak_X5_it rfl rfl rfl qX5_it ⟨Nat.le_of_ble_eq_true rfl, Nat.le_of_ble_eq_true rfl⟩) E0_good hK hA hW trivial [true, true] (fun _ => [mH mo R, mR cI (mo 1) G]) rfl (fun _ => rfl) (fun _ => rfl) 0 0 rfl rfl rfl rfl hl.1 rfl (lv_room (Nat.le_of_ble_eq_true rfl)) dX5_doesSpeak_29 ⟨Nat.zero_le _, Nat.zero_le _⟩ (fun _ H locs _ hW => ?_)
      rcases (show G (8 * a + 1) = 1 ∨ G (8 * a + 1) = 2 ∨ G (8 * a + 1) = 3 ∨ G (8 * a + 1) = 4 ∨ G (8 * a + 1) = 5 ∨ (G (8 * a + 1) < 1 ∨ 5 < G (8 * a + 1)) by omega) with c32_2 | c32_2 | c32_2 | c32_2 | c32_2 | c32_2
      · refine nn_tsI (off := 36) (tgt := 68) hx hb dX5_doesSpeak_32 (by omega) 0 (by omega) (by omega) rfl (by decide) ?_
        refine lv_iload_n hx hb dX5_doesSpeak_68 rfl (lv_at hl 1 rfl) ?_
        refine lv_bipush (v := nI 15) hx hb dX5_doesSpeak_69 (by decide +kernel) ?_
        refine nn_clt (tgt := 78) hx hb dX5_doesSpeak_71 (by decide) (by omega) (by decide) (fun c71_2 => ?_) (fun c71_2 => ?_)
        · refine lv_iconst (v := nI 0) hx hb dX5_doesSpeak_78 (by decide +kernel) ?_
          exact rt_z hQ hx hb hr hlocks hW dX5_doesSpeak_79 (by decide +kernel) () (by unfold speaksN speakK; (repeat' split) <;> first | rfl | (exfalso; omega) | (congr 3; omega)) trivial rfl
        · refine lv_iconst (v := nI 1) hx hb dX5_doesSpeak_74 (by decide +kernel) ?_
          refine lv_goto (tgt := 79) hx hb dX5_doesSpeak_75 (by decide) ?_
          exact rt_z hQ hx hb hr hlocks hW dX5_doesSpeak_79 (by decide +kernel) () (by unfold speaksN speakK; (repeat' split) <;> first | rfl | (exfalso; omega) | (congr 3; omega)) trivial rfl
      · refine nn_tsI (off := 48) (tgt := 80) hx hb dX5_doesSpeak_32 (by omega) 1 (by omega) (by omega) rfl (by decide) ?_
        refine lv_iload_n hx hb dX5_doesSpeak_80 rfl (lv_at hl 0 rfl) ?_
        exact rt_z hQ hx hb hr hlocks hW dX5_doesSpeak_81 (by decide +kernel) () (by unfold speaksN speakK; (repeat' split) <;> first | rfl | (exfalso; omega) | (congr 3; omega)) trivial rfl
      · refine nn_tsI (off := 50) (tgt := 82) hx hb dX5_doesSpeak_32 (by omega) 2 (by omega) (by omega) rfl (by decide) ?_
        refine lv_iconst (v := nI 0) hx hb dX5_doesSpeak_82 (by decide +kernel) ?_
        exact rt_z hQ hx hb hr hlocks hW dX5_doesSpeak_83 (by decide +kernel) () (by unfold speaksN speakK; (repeat' split) <;> first | rfl | (exfalso; omega) | (congr 3; omega)) trivial rfl
      · refine nn_tsI (off := 52) (tgt := 84) hx hb dX5_doesSpeak_32 (by omega) 3 (by omega) (by omega) rfl (by decide) ?_
        refine lv_iload_n hx hb dX5_doesSpeak_84 rfl (lv_at hl 1 rfl) ?_
        refine lv_bipush (v := nI 15) hx hb dX5_doesSpeak_85 (by decide +kernel) ?_
        refine nn_clt (tgt := 101) hx hb dX5_doesSpeak_87 (by decide) (by omega) (by decide) (fun c87_2 => ?_) (fun c87_2 => ?_)
        · refine lv_iconst (v := nI 0) hx hb dX5_doesSpeak_101 (by decide +kernel) ?_
          exact rt_z hQ hx hb hr hlocks hW dX5_doesSpeak_102 (by decide +kernel) () (by unfold speaksN speakK; (repeat' split) <;> first | rfl | (exfalso; omega) | (congr 3; omega)) trivial rfl
        · refine lv_aload_n hx hb dX5_doesSpeak_90 rfl (lv_at hl 2 rfl) ?_
          refine cl_Vi (As := []) (rest := []) (C := RX5) ⟨hx, hb, hml, hown, hts⟩ (M_X5_isNight l D cI cJ mo R G b hb30 hG ) (cwV 0 hts gX5_doesSpeak_X5_isNight rfl rfl rfl qX5_isNight ⟨Nat.le_of_ble_eq_true rfl, Nat.le_of_ble_eq_true rfl⟩) E0_good hK hA hW trivial [true, true] (fun _ => [mH mo R, mR cI (mo 1) G]) rfl (fun _ => rfl) (fun _ => rfl) 0 0 rfl rfl rfl rfl hl.1 rfl (lv_room (Nat.le_of_ble_eq_true rfl)) dX5_doesSpeak_91 ⟨Nat.zero_le _, Nat.zero_le _⟩ (fun _ H locs _ hW => ?_)
          have hni_ := nightN_le G
          refine nn_zne (tgt := 101) hx hb dX5_doesSpeak_94 (by decide) (by omega) (fun c94_2 => ?_) (fun c94_2 => ?_)
          · refine lv_iconst (v := nI 0) hx hb dX5_doesSpeak_101 (by decide +kernel) ?_
            exact rt_z hQ hx hb hr hlocks hW dX5_doesSpeak_102 (by decide +kernel) () (by unfold speaksN speakK; (repeat' split) <;> first | rfl | (exfalso; omega) | (congr 3; omega)) trivial rfl
          · refine lv_iconst (v := nI 1) hx hb dX5_doesSpeak_97 (by decide +kernel) ?_
            refine lv_goto (tgt := 102) hx hb dX5_doesSpeak_98 (by decide) ?_
            exact rt_z hQ hx hb hr hlocks hW dX5_doesSpeak_102 (by decide +kernel) () (by unfold speaksN speakK; (repeat' split) <;> first | rfl | (exfalso; omega) | (congr 3; omega)) trivial rfl
      · refine nn_tsI (off := 71) (tgt := 103) hx hb dX5_doesSpeak_32 (by omega) 4 (by omega) (by omega) rfl (by decide) ?_
        refine lv_iload_n hx hb dX5_doesSpeak_103 rfl (lv_at hl 0 rfl) ?_
        refine nn_zne (tgt := 118) hx hb dX5_doesSpeak_104 (by decide) (by decide) (fun c104_2 => ?_) (fun c104_2 => ?_)
        · refine lv_iconst (v := nI 1) hx hb dX5_doesSpeak_118 (by decide +kernel) ?_
          refine lv_goto (tgt := 123) hx hb dX5_doesSpeak_119 (by decide) ?_
          exact rt_z hQ hx hb hr hlocks hW dX5_doesSpeak_123 (by decide +kernel) () (by unfold speaksN speakK; (repeat' split) <;> first | rfl | (exfalso; omega) | (congr 3; omega)) trivial rfl
        · exfalso; omega
      · refine nn_tsO (tgt := 124) hx hb dX5_doesSpeak_32 (by omega) (by omega) (by decide) ?_
        refine lv_iload_n hx hb dX5_doesSpeak_124 rfl (lv_at hl 1 rfl) ?_
        refine lv_bipush (v := nI 9) hx hb dX5_doesSpeak_125 (by decide +kernel) ?_
        refine nn_clt (tgt := 134) hx hb dX5_doesSpeak_127 (by decide) (by omega) (by decide) (fun c127_2 => ?_) (fun c127_2 => ?_)
        · refine lv_iconst (v := nI 0) hx hb dX5_doesSpeak_134 (by decide +kernel) ?_
          exact rt_z hQ hx hb hr hlocks hW dX5_doesSpeak_135 (by decide +kernel) () (by unfold speaksN speakK; (repeat' split) <;> first | rfl | (exfalso; omega) | (congr 3; omega)) trivial rfl
        · refine lv_iconst (v := nI 1) hx hb dX5_doesSpeak_130 (by decide +kernel) ?_
          refine lv_goto (tgt := 135) hx hb dX5_doesSpeak_131 (by decide) ?_
          exact rt_z hQ hx hb hr hlocks hW dX5_doesSpeak_135 (by decide +kernel) () (by unfold speaksN speakK; (repeat' split) <;> first | rfl | (exfalso; omega) | (congr 3; omega)) trivial rfl
abbrev rmX5_lessBy : Room := { frames := 1, cells := 0, slots := 0, locals := 22 }
set_option maxRecDepth 100000 in
set_option maxHeartbeats 4000000 in
theorem M_X5_lessBy (l : Launch) (D : va_G) (cI cJ : ClassId) (mo R G : Nat → Nat) (b : Nat) (hb30 : b < 2 ^ 30) (hG : OkG b G) (a : Nat) (ha : a < G 40) : CE E0 l D vwCl [(cI, .int), (cJ, .long)] yX5_lessBy wsX5_lessBy rmX5_lessBy [.ref (mo 0), .int (nI a)] [mH mo R, mR cI (mo 1) G] (S := Unit) (some (.int (nI (tellK (G (8 * a + 1)))))) (fun _ => True) (fun _ : Unit => [mH mo R, mR cI (mo 1) G]) 0 0 := by
  refine CE.ofW (cc := cX5_lessBy) (maxL := 2) (ret := (some .int)) (lv := [(0, .ref (mo 0)), (1, .int (nI a))]) (by decide) rfl (Nat.le_of_ble_eq_true rfl) rfl ?_
  intro p e s m args below meth c ls A Q hQ hx hb hml hr hlocks hnm hown hts hK hA hE hW hl
  have hown : s.vm.findClass RX5 = some m.cls := hown
  obtain ⟨hg0, hg8, hg16, hg16b, hg24, hg32, hg40, hg48⟩ := hG.s
  have hma := hG.m a (by omega)
  have hoc8 := outC_le hG
  refine lv_aload_n hx hb dX5_lessBy_0 rfl (lv_at hl 0 rfl) ?_
  refine lv_iload_n hx hb dX5_lessBy_1 rfl (lv_at hl 1 rfl) ?_
  refine lv_iconst (v := nI 0) hx hb dX5_lessBy_2 (by decide +kernel) ?_
  refine cl_Vi (As := [.int (nI a), .int (nI 0)]) (rest := []) (C := RX5) ⟨hx, hb, hml, hown, hts⟩ (M_X5_it l D cI cJ mo R G a 0 1 (by omega) (by decide) rfl) (cwV 2 hts gX5_lessBy_X5_it rfl rfl rfl qX5_it ⟨Nat.le_of_ble_eq_true rfl, Nat.le_of_ble_eq_true rfl⟩) E0_good hK hA hW trivial [true, true] (fun _ => [mH mo R, mR cI (mo 1) G]) rfl (fun _ => rfl) (fun _ => rfl) 0 0 rfl rfl rfl rfl hl.1 rfl (lv_room (Nat.le_of_ble_eq_true rfl)) dX5_lessBy_3 ⟨Nat.zero_le _, Nat.zero_le _⟩ (fun _ H locs _ hW => ?_)
  rcases (show G (8 * a + 1) = 1 ∨ G (8 * a + 1) = 2 ∨ G (8 * a + 1) = 3 ∨ G (8 * a + 1) = 4 ∨ G (8 * a + 1) = 5 ∨ (G (8 * a + 1) < 1 ∨ 5 < G (8 * a + 1)) by omega) with c6 | c6 | c6 | c6 | c6 | c6
  · refine nn_tsI (off := 34) (tgt := 40) hx hb dX5_lessBy_6 (by omega) 0 (by omega) (by omega) rfl (by decide) ?_
    refine lv_iconst (v := nI 2) hx hb dX5_lessBy_40 (by decide +kernel) ?_
    exact rt_i hQ hx hb hr hlocks hW dX5_lessBy_41 () (by unfold tellK; (repeat' split) <;> first | rfl | (exfalso; omega) | (congr 3; omega)) trivial rfl
  · refine nn_tsI (off := 36) (tgt := 42) hx hb dX5_lessBy_6 (by omega) 1 (by omega) (by omega) rfl (by decide) ?_
    refine lv_bipush (v := nI 6) hx hb dX5_lessBy_42 (by decide +kernel) ?_
    exact rt_i hQ hx hb hr hlocks hW dX5_lessBy_44 () (by unfold tellK; (repeat' split) <;> first | rfl | (exfalso; omega) | (congr 3; omega)) trivial rfl
  · refine nn_tsI (off := 39) (tgt := 45) hx hb dX5_lessBy_6 (by omega) 2 (by omega) (by omega) rfl (by decide) ?_
    refine lv_iconst (v := nI 0) hx hb dX5_lessBy_45 (by decide +kernel) ?_
    exact rt_i hQ hx hb hr hlocks hW dX5_lessBy_46 () (by unfold tellK; (repeat' split) <;> first | rfl | (exfalso; omega) | (congr 3; omega)) trivial rfl
  · refine nn_tsI (off := 34) (tgt := 40) hx hb dX5_lessBy_6 (by omega) 3 (by omega) (by omega) rfl (by decide) ?_
    refine lv_iconst (v := nI 2) hx hb dX5_lessBy_40 (by decide +kernel) ?_
    exact rt_i hQ hx hb hr hlocks hW dX5_lessBy_41 () (by unfold tellK; (repeat' split) <;> first | rfl | (exfalso; omega) | (congr 3; omega)) trivial rfl
  · refine nn_tsI (off := 41) (tgt := 47) hx hb dX5_lessBy_6 (by omega) 4 (by omega) (by omega) rfl (by decide) ?_
    refine lv_bipush (v := nI 7) hx hb dX5_lessBy_47 (by decide +kernel) ?_
    exact rt_i hQ hx hb hr hlocks hW dX5_lessBy_49 () (by unfold tellK; (repeat' split) <;> first | rfl | (exfalso; omega) | (congr 3; omega)) trivial rfl
  · refine nn_tsO (tgt := 50) hx hb dX5_lessBy_6 (by omega) (by omega) (by decide) ?_
    refine lv_iconst (v := nI 3) hx hb dX5_lessBy_50 (by decide +kernel) ?_
    exact rt_i hQ hx hb hr hlocks hW dX5_lessBy_51 () (by unfold tellK; (repeat' split) <;> first | rfl | (exfalso; omega) | (congr 3; omega)) trivial rfl
abbrev rmX5_weight : Room := { frames := 2, cells := 0, slots := 0, locals := 44 }
set_option maxRecDepth 100000 in
set_option maxHeartbeats 4000000 in
theorem M_X5_weight (l : Launch) (D : va_G) (cI cJ : ClassId) (mo R G : Nat → Nat) (b : Nat) (hb30 : b < 2 ^ 30) (hG : OkG b G) : CE E0 l D vwCl [(cI, .int), (cJ, .long)] yX5_weight wsX5_weight rmX5_weight [.ref (mo 0)] [mH mo R, mR cI (mo 1) G] (S := Unit) (some (.int (nI (weightN G)))) (fun _ => True) (fun _ : Unit => [mH mo R, mR cI (mo 1) G]) 0 0 := by
  refine CE.ofW (cc := cX5_weight) (maxL := 1) (ret := (some .int)) (lv := [(0, .ref (mo 0))]) (by decide) rfl (Nat.le_of_ble_eq_true rfl) rfl ?_
  intro p e s m args below meth c ls A Q hQ hx hb hml hr hlocks hnm hown hts hK hA hE hW hl
  have hown : s.vm.findClass RX5 = some m.cls := hown
  obtain ⟨hg0, hg8, hg16, hg16b, hg24, hg32, hg40, hg48⟩ := hG.s
  refine lv_aload_n hx hb dX5_weight_0 rfl (lv_at hl 0 rfl) ?_
  refine sg_get (ci := 4) (C := RX5) (T := TX5) (N := 15) (v := .ref (mo 1)) hx hb hts (fun _ h => List.mem_cons_of_mem _ (List.mem_append_right _ h)) hown hK hW 0 0 rfl rfl rfl 0 (by decide) (hts _ (List.mem_of_getElem? (i := 1) rfl)) rfl dX5_weight_1 ?_
  refine lv_iconst (v := nI 2) hx hb dX5_weight_4 (by decide +kernel) ?_
  refine sg_ild (v := nI (G 16)) hx hb hK hW 1 0 0 rfl rfl rfl (by decide) (by decide) rfl dX5_weight_5 ?_
  refine lv_iconst (v := nI 2) hx hb dX5_weight_6 (by decide +kernel) ?_
  refine lv_aload_n hx hb dX5_weight_7 rfl (lv_at hl 0 rfl) ?_
  refine cl_Vi (As := []) (rest := [.int (nI 2), .int (nI (G 16))]) (C := RX5) ⟨hx, hb, hml, hown, hts⟩ (M_X5_riders l D cI cJ mo R G b hb30 hG ) (cwV 0 hts gX5_weight_X5_riders rfl rfl rfl qX5_riders ⟨Nat.le_of_ble_eq_true rfl, Nat.le_of_ble_eq_true rfl⟩) E0_good hK hA hW trivial [true, true] (fun _ => [mH mo R, mR cI (mo 1) G]) rfl (fun _ => rfl) (fun _ => rfl) 0 0 rfl rfl rfl rfl hl.1 rfl (lv_room (Nat.le_of_ble_eq_true rfl)) dX5_weight_8 ⟨Nat.zero_le _, Nat.zero_le _⟩ (fun _ H locs _ hW => ?_)
  have hrs_ := onS_lt (hG)
  refine cl_Si (As := [.int (nI (onS G))]) (rest := [.int (nI 2), .int (nI (G 16))]) ⟨hx, hb, hml, hown, hts⟩ (M_X5_bits l D cI cJ (onS G) (by omega)) (va_cwS 1 hts gX5_weight_X5_bits rfl rfl rfl qX5_bits ⟨Nat.le_of_ble_eq_true rfl, Nat.le_of_ble_eq_true rfl⟩) E0_good hK hA hW trivial [] (fun _ => [mH mo R, mR cI (mo 1) G]) rfl (fun _ => rfl) (fun _ => rfl) rfl hl.1 rfl (lv_room (Nat.le_of_ble_eq_true rfl)) dX5_weight_11 ⟨Nat.zero_le _, Nat.zero_le _⟩ (fun _ H locs _ hW => ?_)
  refine nn_mul hx hb dX5_weight_14 ?_
  refine nn_add hx hb dX5_weight_15 ?_
  exact rt_i hQ hx hb hr hlocks hW dX5_weight_16 () (by unfold weightN; rw [bits_on hG]) trivial rfl
abbrev rmX5_push : Room := { frames := 4, cells := 0, slots := 0, locals := 90 }
set_option maxRecDepth 100000 in
set_option maxHeartbeats 4000000 in
theorem M_X5_push (l : Launch) (D : va_G) (cI cJ : ClassId) (mo R G : Nat → Nat) (b : Nat) (hb30 : b < 2 ^ 30) (hG : OkG b G) : CE E0 l D vwCl [(cI, .int), (cJ, .long)] yX5_push wsX5_push rmX5_push [.ref (mo 0)] [mH mo R, mR cI (mo 1) G] (S := Unit) (some (.int (nI (pushN G)))) (fun _ => True) (fun _ : Unit => [mH mo R, mR cI (mo 1) G]) 0 0 := by
  refine CE.ofW (cc := cX5_push) (maxL := 3) (ret := (some .int)) (lv := [(0, .ref (mo 0))]) (by decide) rfl (Nat.le_of_ble_eq_true rfl) rfl ?_
  intro p e s m args below meth c ls A Q hQ hx hb hml hr hlocks hnm hown hts hK hA hE hW hl
  have hown : s.vm.findClass RX5 = some m.cls := hown
  obtain ⟨hg0, hg8, hg16, hg16b, hg24, hg32, hg40, hg48⟩ := hG.s
  refine lv_iconst (v := nI 0) hx hb dX5_push_0 (by decide +kernel) ?_
  refine lv_istore_n (lv' := [(1, .int (nI 0)), (0, .ref (mo 0))]) hx hb dX5_push_1 rfl hl (by decide) rfl (fun ls hl => ?_)
  refine lv_iconst (v := nI 0) hx hb dX5_push_2 (by decide +kernel) ?_
  refine lv_istore_n (lv' := [(2, .int (nI 0)), (1, .int (nI 0)), (0, .ref (mo 0))]) hx hb dX5_push_3 rfl hl (by decide) rfl (fun ls hl => ?_)
  have lp4 : ∀ (n : Nat) (i : Nat), G 40 - i < n → i ≤ G 40 → ∀ (H : Heap) (locs : List Loc), Wo D vwCl A s.heap H locs [mH mo R, mR cI (mo 1) G] → ∀ ls : Array Slot, lv_has ls 3 [(2, .int (nI i)), (1, .int (nI (pushTo G i))), (0, .ref (mo 0))] → W p l e rmX5_push s m args below meth c H locs 0 0 Q (F0 m 4 ls []) := by
    intro n
    induction n with
    | zero => intro i hm; exact absurd hm (Nat.not_lt_zero _)
    | succ n ih =>
      intro i hm hi H locs hW ls hl
      refine lv_iload_n hx hb dX5_push_4 rfl (lv_at hl 0 rfl) ?_
      refine lv_aload_n hx hb dX5_push_5 rfl (lv_at hl 2 rfl) ?_
      refine sg_get (ci := 4) (C := RX5) (T := TX5) (N := 15) (v := .ref (mo 1)) hx hb hts (fun _ h => List.mem_cons_of_mem _ (List.mem_append_right _ h)) hown hK hW 0 0 rfl rfl rfl 0 (by decide) (hts _ (List.mem_of_getElem? (i := 1) rfl)) rfl dX5_push_6 ?_
      refine lv_iconst (v := nI 5) hx hb dX5_push_9 (by decide +kernel) ?_
      refine sg_ild (v := nI (G 40)) hx hb hK hW 1 0 0 rfl rfl rfl (by decide) (by decide) rfl dX5_push_10 ?_
      refine nn_cge (tgt := 42) hx hb dX5_push_11 (by decide) (by omega) (by omega) (fun c11 => ?_) (fun c11 => ?_)
      · refine lv_aload_n hx hb dX5_push_42 rfl (lv_at hl 2 rfl) ?_
        refine cl_Vi (As := []) (rest := []) (C := RX5) ⟨hx, hb, hml, hown, hts⟩ (M_X5_isWet l D cI cJ mo R G b hb30 hG ) (cwV 0 hts gX5_push_X5_isWet rfl rfl rfl qX5_isWet ⟨Nat.le_of_ble_eq_true rfl, Nat.le_of_ble_eq_true rfl⟩) E0_good hK hA hW trivial [true, true] (fun _ => [mH mo R, mR cI (mo 1) G]) rfl (fun _ => rfl) (fun _ => rfl) 0 0 rfl rfl rfl rfl hl.1 rfl (lv_room (Nat.le_of_ble_eq_true rfl)) dX5_push_43 ⟨Nat.zero_le _, Nat.zero_le _⟩ (fun _ H locs _ hW => ?_)
        have hwe_ := wetN_le G
        refine nn_zeq (tgt := 53) hx hb dX5_push_46 (by decide) (by omega) (fun c46 => ?_) (fun c46 => ?_)
        · refine lv_iload_n hx hb dX5_push_53 rfl (lv_at hl 1 rfl) ?_
          exact rt_i hQ hx hb hr hlocks hW dX5_push_54 () (by unfold pushN; first | rw [if_pos (by omega)] | rw [if_neg (by omega), show i = G 40 by omega]) trivial rfl
        · refine lv_iconst (v := nI 0) hx hb dX5_push_49 (by decide +kernel) ?_
          refine lv_goto (tgt := 54) hx hb dX5_push_50 (by decide) ?_
          exact rt_i hQ hx hb hr hlocks hW dX5_push_54 () (by unfold pushN; first | rw [if_pos (by omega)] | rw [if_neg (by omega), show i = G 40 by omega]) trivial rfl
      · have hmi := hG.m i (by omega)
        refine lv_iload_n hx hb dX5_push_14 rfl (lv_at hl 1 rfl) ?_
        refine lv_aload_n hx hb dX5_push_15 rfl (lv_at hl 2 rfl) ?_
        refine lv_iload_n hx hb dX5_push_16 rfl (lv_at hl 0 rfl) ?_
        refine lv_iconst (v := nI 1) hx hb dX5_push_17 (by decide +kernel) ?_
        refine cl_Vi (As := [.int (nI i), .int (nI 1)]) (rest := [.int (nI (pushTo G i))]) (C := RX5) ⟨hx, hb, hml, hown, hts⟩ (M_X5_it l D cI cJ mo R G i 1 2 (by omega) (by decide) rfl) (cwV 2 hts gX5_push_X5_it rfl rfl rfl qX5_it ⟨Nat.le_of_ble_eq_true rfl, Nat.le_of_ble_eq_true rfl⟩) E0_good hK hA hW trivial [true, true] (fun _ => [mH mo R, mR cI (mo 1) G]) rfl (fun _ => rfl) (fun _ => rfl) 0 0 rfl rfl rfl rfl hl.1 rfl (lv_room (Nat.le_of_ble_eq_true rfl)) dX5_push_18 ⟨Nat.zero_le _, Nat.zero_le _⟩ (fun _ H locs _ hW => ?_)
        refine lv_iconst (v := nI 1) hx hb dX5_push_21 (by decide +kernel) ?_
        refine nn_cne (tgt := 33) hx hb dX5_push_22 (by decide) (by omega) (by decide) (fun c22 => ?_) (fun c22 => ?_)
        · refine lv_iconst (v := nI 0) hx hb dX5_push_33 (by decide +kernel) ?_
          refine nn_add hx hb dX5_push_34 ?_
          refine lv_istore_n (lv' := [(1, .int (nI ((pushTo G i) + 0))), (2, .int (nI i)), (0, .ref (mo 0))]) hx hb dX5_push_35 rfl hl (by decide) rfl (fun ls hl => ?_)
          refine lv_iinc (v := nI (i + 1)) (lv' := [(2, .int (nI (i + 1))), (1, .int (nI ((pushTo G i) + 0))), (0, .ref (mo 0))]) hx hb dX5_push_36 hl (k := 1) rfl (nI_add _ 1) (by decide) rfl (fun ls hl => ?_)
          refine lv_goto (tgt := 4) hx hb dX5_push_39 (by decide) ?_
          have e1 : nI ((pushTo G i) + 0) = nI (pushTo G (i + 1)) := (by show nI (pushTo G i + 0) = nI (pushTo G i + (if G (8 * i + 2) = 1 then keepsN G i else 0)); rw [if_neg (by omega)])
          rw [e1] at hl
          exact ih (i + 1) (by omega) (by omega) _ _ hW _ (lv_sub hl [0, 1, 2] rfl)
        · refine lv_aload_n hx hb dX5_push_25 rfl (lv_at hl 2 rfl) ?_
          refine lv_iload_n hx hb dX5_push_26 rfl (lv_at hl 0 rfl) ?_
          refine cl_Vi (As := [.int (nI i)]) (rest := [.int (nI (pushTo G i))]) (C := RX5) ⟨hx, hb, hml, hown, hts⟩ (M_X5_keepsBack l D cI cJ mo R G b hb30 hG i (by omega)) (cwV 1 hts gX5_push_X5_keepsBack rfl rfl rfl qX5_keepsBack ⟨Nat.le_of_ble_eq_true rfl, Nat.le_of_ble_eq_true rfl⟩) E0_good hK hA hW trivial [true, true] (fun _ => [mH mo R, mR cI (mo 1) G]) rfl (fun _ => rfl) (fun _ => rfl) 0 0 rfl rfl rfl rfl hl.1 rfl (lv_room (Nat.le_of_ble_eq_true rfl)) dX5_push_27 ⟨Nat.zero_le _, Nat.zero_le _⟩ (fun _ H locs _ hW => ?_)
          refine lv_goto (tgt := 34) hx hb dX5_push_30 (by decide) ?_
          refine nn_add hx hb dX5_push_34 ?_
          refine lv_istore_n (lv' := [(1, .int (nI ((pushTo G i) + (keepsN G i)))), (2, .int (nI i)), (0, .ref (mo 0))]) hx hb dX5_push_35 rfl hl (by decide) rfl (fun ls hl => ?_)
          refine lv_iinc (v := nI (i + 1)) (lv' := [(2, .int (nI (i + 1))), (1, .int (nI ((pushTo G i) + (keepsN G i)))), (0, .ref (mo 0))]) hx hb dX5_push_36 hl (k := 1) rfl (nI_add _ 1) (by decide) rfl (fun ls hl => ?_)
          refine lv_goto (tgt := 4) hx hb dX5_push_39 (by decide) ?_
          have e2 : nI ((pushTo G i) + (keepsN G i)) = nI (pushTo G (i + 1)) := (by show nI (pushTo G i + keepsN G i) = nI (pushTo G i + (if G (8 * i + 2) = 1 then keepsN G i else 0)); rw [if_pos (by omega)])
          rw [e2] at hl
          exact ih (i + 1) (by omega) (by omega) _ _ hW _ (lv_sub hl [0, 1, 2] rfl)
  exact lp4 (G 40 - 0 + 1) 0 (Nat.lt_succ_self _) (by omega) _ _ hW _ (lv_sub hl [0, 1, 2] rfl)
