theorem qJ0_coder_7d493 : yJ0_coder_7d493.cls = RJ0 ∧ yJ0_coder_7d493.cls ≠ "java/lang/invoke/MethodHandle" ∧ yJ0_coder_7d493.cls ≠ "java/lang/invoke/VarHandle" ∧ (parseMethodDescriptor yJ0_coder_7d493.desc).map (fun d => d.parameters.length) = some 0 := by decide +kernel
theorem qJ3_checkIndex_8e157 : yJ3_checkIndex_8e157.cls ≠ "java/lang/invoke/MethodHandle" ∧ yJ3_checkIndex_8e157.cls ≠ "java/lang/invoke/VarHandle" ∧ (parseMethodDescriptor yJ3_checkIndex_8e157.desc).map (fun d => d.parameters.length) = some 3 := by decide +kernel
theorem qJ0_checkIndex_df160 : yJ0_checkIndex_df160.cls ≠ "java/lang/invoke/MethodHandle" ∧ yJ0_checkIndex_df160.cls ≠ "java/lang/invoke/VarHandle" ∧ (parseMethodDescriptor yJ0_checkIndex_df160.desc).map (fun d => d.parameters.length) = some 2 := by decide +kernel
theorem qJ0_isLatin1_aae02 : yJ0_isLatin1_aae02.cls = RJ0 ∧ yJ0_isLatin1_aae02.cls ≠ "java/lang/invoke/MethodHandle" ∧ yJ0_isLatin1_aae02.cls ≠ "java/lang/invoke/VarHandle" ∧ (parseMethodDescriptor yJ0_isLatin1_aae02.desc).map (fun d => d.parameters.length) = some 0 := by decide +kernel
theorem qJ1_charAt_3b067 : yJ1_charAt_3b067.cls ≠ "java/lang/invoke/MethodHandle" ∧ yJ1_charAt_3b067.cls ≠ "java/lang/invoke/VarHandle" ∧ (parseMethodDescriptor yJ1_charAt_3b067.desc).map (fun d => d.parameters.length) = some 2 := by decide +kernel
/-! ===== facts of cells that nobody writes, with the tables' warmth ===== -/
def EGW (E : (Nat → Prop) → State → Heap → Prop) : Prop :=
  (∀ (A : Nat → Prop) (u U : State) (H : Heap), U.vm = u.vm → E A u H → E A U H) ∧ (∀ (A : Nat → Prop) (u U : State) (H : Heap), u.WarmedH U.vm → E A u H → E A U H) ∧ (∀ (A : Nat → Prop) (U : State) (H H1 : Heap), (∀ q : Nat, q < H.size → ¬ A q → H1[q]? = H[q]?) → E A U H → E A U H1) ∧ ∀ (A B : Nat → Prop) (U : State) (H : Heap), (∀ q, B q → A q) → E A U H → E B U H
theorem E0_goodW : EGW E0 := ⟨fun _ _ _ _ _ _ => trivial, fun _ _ _ _ _ _ => trivial, fun _ _ _ _ _ _ => trivial, fun _ _ _ _ _ _ => trivial⟩
theorem EGW.now {E : (Nat → Prop) → State → Heap → Prop} (hg : EGW E) {D : va_G} {cl : List vw_C} {A : Nat → Prop} {s : State} {H : Heap} {locs : List Loc} {ss wcs : List va_W} (hE : E A s s.heap) (hA : ∀ q, s.heap.size ≤ q → A q) (hW : Wo D cl A s.heap H locs ss) (bs : List Bool) (h1 : sgT bs ss = wcs) : E (va_A wcs.flatten H.size) s H :=
  hg.2.2.2 A _ s H (hW.free hA bs h1) (hg.2.2.1 A s s.heap H hW.2.2.2.1 hE)
section FW
variable {p : Program} {l : Launch} {e : Env} {R : Room} {s : State} {m : MethodId} {args : Array Value} {below : List Frame} {meth : Method} {c : Code} {H : Heap} {locs : List Loc} {cells slots : Nat} {Q : State → Prop}
variable {cc : ByteArray} {pc : Nat} {ls : Array Slot} {rest : List Value} {D : va_G} {cl : List vw_C} {tys : List (ClassId × FieldType)} {A : Nat → Prop} {ss : List va_W}
theorem sg_preW {E' : (Nat → Prop) → State → Heap → Prop} {av : List Value} {wcs : List va_W} (hg : EGW E') (hK : va_K D cl tys s) (hA : ∀ q, s.heap.size ≤ q → A q) (hW : Wo D cl A s.heap H locs ss) (bs : List Bool) (h1 : sgT bs ss = wcs) (hE0 : E' A s s.heap) :
    FrameBlind (va_Pc av (fun U => U.heap.size = H.size ∧ va_P D cl wcs.flatten U.heap ∧ va_K D cl tys U ∧ va_D (fun _ => True) wcs.flatten ∧ E' (va_A wcs.flatten H.size) U U.heap)) ∧ ∀ U : State, U.heap = H → s.WarmedH U.vm → va_Pc av (fun U => U.heap.size = H.size ∧ va_P D cl wcs.flatten U.heap ∧ va_K D cl tys U ∧ va_D (fun _ => True) wcs.flatten ∧ E' (va_A wcs.flatten H.size) U U.heap) av.toArray U := by
  obtain ⟨hP, hD⟩ := hW.part bs h1
  have hE := hg.now hE0 hA hW bs h1
  refine ⟨fun a U g mk q => ?_, fun U hU hWm => ⟨rfl, by rw [hU], by rw [hU]; exact hP, va_K.moved hWm.alike hK, hD.weaken (fun _ _ _ _ => trivial), by rw [hU]; exact hg.2.1 _ _ _ _ hWm hE⟩⟩
  obtain ⟨q0, q1, qP, qK, qD, qE⟩ := q
  exact ⟨q0, q1, qP, va_K.moved (u := U) (U := U.calling g mk a) (Vm.Alike.refl U.vm) qK, qD, hg.1 _ U _ _ rfl qE⟩
theorem cw_Vi {E' : (Nat → Prop) → State → Heap → Prop} {y : MethodName} {wsy Ts : List Cond} {rm : Room} {own : String} {b : Nat} {C : String} {index maxL nL n : Nat} {bytes : ByteArray} {ret : Option FieldType} {As rest st0 : List Value} {wcs : List va_W} {S : Type} {r : Int32} {post : S → Prop} {w1 : S → List va_W}
    (B : CallFix p m c cc nL s args Ts own) (hM : CE E' l D cl tys y wsy rm (.ref b :: As) wcs (some (.int r)) post w1 0 0) (cw : CallW R s args own C index y bytes maxL ret wsy rm 0 0 n) (hg : EGW E') (hK : va_K D cl tys s) (hA : ∀ q, s.heap.size ≤ q → A q) (hW : Wo D cl A s.heap H locs ss) (hE : E' A s s.heap) (bs : List Bool) (ss' : S → List va_W) (h1 : sgT bs ss = wcs) (h2 : ∀ u, sgT bs (ss' u) = w1 u) (h3 : ∀ u, sgF bs (ss' u) = sgF bs ss) (i j : Nat) {seg : va_W} {fs : List Value} {ci N : Nat} {T : u_T} (hi : ss[i]? = some seg) (he : seg[j]? = some (b, .inr (ci, fs))) (hc : cl[ci]? = some (C, T, N)) (hn : As.length = n) (hsz : ls.size = nL) (hst : st0 = As.reverse ++ .ref b :: rest) (hrm : 2 * (F0 m pc ls st0).monitorRoom + (rest.map fun v => v.category).sum ≤ 8) (hdg : decode cc pc = .ok (.invokevirtual index, 3)) (hf : cells + 0 ≤ R.cells ∧ slots + 0 ≤ R.slots)
    (kk : ∀ (u : S) (H1 : Heap) (locs1 : List Loc), post u → Wo D cl A s.heap H1 locs1 (ss' u) → W p l e R s m args below meth c H1 locs1 cells slots Q (F0 m (pc + 3) ls (.int r :: rest))) : W p l e R s m args below meth c H locs cells slots Q (F0 m pc ls st0) := by
  obtain ⟨q0, g1, -⟩ := sg_at ss i j seg _ hi he
  have hpre := sg_preW (av := .ref b :: As) hg hK hA hW bs h1 hE
  refine sg_call (E' := E') (y := y) (wsy := wsy) (rm := rm) (av := .ref b :: As) ss' (va_runV (As := As) (rest := rest) B (hM H.size) cw ⟨hpre.1, va_recv hK hW.1 hc g1, hpre.2⟩ rfl hn hsz hst hrm hdg hf) hW hA bs h1 h2 h3 (fun u H1 locs1 hp hW1 => ?_)
  exact kk u H1 locs1 hp hW1
theorem cx_Vi {E' : (Nat → Prop) → State → Heap → Prop} {y : MethodName} {wsy Ts : List Cond} {rm : Room} {own : String} {b : Nat} {C : String} {index maxL nL n : Nat} {bytes : ByteArray} {ret : Option FieldType} {As rest st0 : List Value} {wcs : List va_W} {S : Type} {r : Int32} {post : S → Prop} {w1 : S → List va_W}
    (B : CallFix p m c cc nL s args Ts own) (hM : CE E' l D cl tys y wsy rm (.ref b :: As) wcs (some (.int r)) post w1 0 0) (cw : CallW R s args own C index y bytes maxL ret wsy rm 0 0 n) (hg : EGW E') (hK : va_K D cl tys s) (hA : ∀ q, s.heap.size ≤ q → A q) (hW : Wo D cl A s.heap H locs ss) (hE : E' A s s.heap) (bs : List Bool) (ss' : S → List va_W) (h1 : sgT bs ss = wcs) (h2 : ∀ u, sgT bs (ss' u) = w1 u) (h3 : ∀ u, sgF bs (ss' u) = sgF bs ss) (hre : ∃ cell : Cell, H[b]? = some cell ∧ cell.vm.isStatics = false ∧ s.vm.findClass C = some cell.cls) (hn : As.length = n) (hsz : ls.size = nL) (hst : st0 = As.reverse ++ .ref b :: rest) (hrm : 2 * (F0 m pc ls st0).monitorRoom + (rest.map fun v => v.category).sum ≤ 8) (hdg : decode cc pc = .ok (.invokevirtual index, 3)) (hf : cells + 0 ≤ R.cells ∧ slots + 0 ≤ R.slots)
    (kk : ∀ (u : S) (H1 : Heap) (locs1 : List Loc), post u → Wo D cl A s.heap H1 locs1 (ss' u) → W p l e R s m args below meth c H1 locs1 cells slots Q (F0 m (pc + 3) ls (.int r :: rest))) : W p l e R s m args below meth c H locs cells slots Q (F0 m pc ls st0) := by
  have hpre := sg_preW (av := .ref b :: As) hg hK hA hW bs h1 hE
  refine sg_call (E' := E') (y := y) (wsy := wsy) (rm := rm) (av := .ref b :: As) ss' (va_runV (As := As) (rest := rest) B (hM H.size) cw ⟨hpre.1, hre, hpre.2⟩ rfl hn hsz hst hrm hdg hf) hW hA bs h1 h2 h3 (fun u H1 locs1 hp hW1 => ?_)
  exact kk u H1 locs1 hp hW1
theorem cw_Vv {E' : (Nat → Prop) → State → Heap → Prop} {y : MethodName} {wsy Ts : List Cond} {rm : Room} {own : String} {b : Nat} {C : String} {index maxL nL n : Nat} {bytes : ByteArray} {ret : Option FieldType} {As rest st0 : List Value} {wcs : List va_W} {S : Type} {post : S → Prop} {w1 : S → List va_W}
    (B : CallFix p m c cc nL s args Ts own) (hM : CE E' l D cl tys y wsy rm (.ref b :: As) wcs none post w1 0 0) (cw : CallW R s args own C index y bytes maxL ret wsy rm 0 0 n) (hg : EGW E') (hK : va_K D cl tys s) (hA : ∀ q, s.heap.size ≤ q → A q) (hW : Wo D cl A s.heap H locs ss) (hE : E' A s s.heap) (bs : List Bool) (ss' : S → List va_W) (h1 : sgT bs ss = wcs) (h2 : ∀ u, sgT bs (ss' u) = w1 u) (h3 : ∀ u, sgF bs (ss' u) = sgF bs ss) (i j : Nat) {seg : va_W} {fs : List Value} {ci N : Nat} {T : u_T} (hi : ss[i]? = some seg) (he : seg[j]? = some (b, .inr (ci, fs))) (hc : cl[ci]? = some (C, T, N)) (hn : As.length = n) (hsz : ls.size = nL) (hst : st0 = As.reverse ++ .ref b :: rest) (hrm : 2 * (F0 m pc ls st0).monitorRoom + (rest.map fun v => v.category).sum ≤ 8) (hdg : decode cc pc = .ok (.invokevirtual index, 3)) (hf : cells + 0 ≤ R.cells ∧ slots + 0 ≤ R.slots)
    (kk : ∀ (u : S) (H1 : Heap) (locs1 : List Loc), post u → Wo D cl A s.heap H1 locs1 (ss' u) → W p l e R s m args below meth c H1 locs1 cells slots Q (F0 m (pc + 3) ls (rest))) : W p l e R s m args below meth c H locs cells slots Q (F0 m pc ls st0) := by
  obtain ⟨q0, g1, -⟩ := sg_at ss i j seg _ hi he
  have hpre := sg_preW (av := .ref b :: As) hg hK hA hW bs h1 hE
  refine sg_call (E' := E') (y := y) (wsy := wsy) (rm := rm) (av := .ref b :: As) ss' (va_runV (As := As) (rest := rest) B (hM H.size) cw ⟨hpre.1, va_recv hK hW.1 hc g1, hpre.2⟩ rfl hn hsz hst hrm hdg hf) hW hA bs h1 h2 h3 (fun u H1 locs1 hp hW1 => ?_)
  exact kk u H1 locs1 hp hW1
theorem cx_Vv {E' : (Nat → Prop) → State → Heap → Prop} {y : MethodName} {wsy Ts : List Cond} {rm : Room} {own : String} {b : Nat} {C : String} {index maxL nL n : Nat} {bytes : ByteArray} {ret : Option FieldType} {As rest st0 : List Value} {wcs : List va_W} {S : Type} {post : S → Prop} {w1 : S → List va_W}
    (B : CallFix p m c cc nL s args Ts own) (hM : CE E' l D cl tys y wsy rm (.ref b :: As) wcs none post w1 0 0) (cw : CallW R s args own C index y bytes maxL ret wsy rm 0 0 n) (hg : EGW E') (hK : va_K D cl tys s) (hA : ∀ q, s.heap.size ≤ q → A q) (hW : Wo D cl A s.heap H locs ss) (hE : E' A s s.heap) (bs : List Bool) (ss' : S → List va_W) (h1 : sgT bs ss = wcs) (h2 : ∀ u, sgT bs (ss' u) = w1 u) (h3 : ∀ u, sgF bs (ss' u) = sgF bs ss) (hre : ∃ cell : Cell, H[b]? = some cell ∧ cell.vm.isStatics = false ∧ s.vm.findClass C = some cell.cls) (hn : As.length = n) (hsz : ls.size = nL) (hst : st0 = As.reverse ++ .ref b :: rest) (hrm : 2 * (F0 m pc ls st0).monitorRoom + (rest.map fun v => v.category).sum ≤ 8) (hdg : decode cc pc = .ok (.invokevirtual index, 3)) (hf : cells + 0 ≤ R.cells ∧ slots + 0 ≤ R.slots)
    (kk : ∀ (u : S) (H1 : Heap) (locs1 : List Loc), post u → Wo D cl A s.heap H1 locs1 (ss' u) → W p l e R s m args below meth c H1 locs1 cells slots Q (F0 m (pc + 3) ls (rest))) : W p l e R s m args below meth c H locs cells slots Q (F0 m pc ls st0) := by
  have hpre := sg_preW (av := .ref b :: As) hg hK hA hW bs h1 hE
  refine sg_call (E' := E') (y := y) (wsy := wsy) (rm := rm) (av := .ref b :: As) ss' (va_runV (As := As) (rest := rest) B (hM H.size) cw ⟨hpre.1, hre, hpre.2⟩ rfl hn hsz hst hrm hdg hf) hW hA bs h1 h2 h3 (fun u H1 locs1 hp hW1 => ?_)
  exact kk u H1 locs1 hp hW1
theorem cw_Si {E' : (Nat → Prop) → State → Heap → Prop} {y : MethodName} {wsy Ts : List Cond} {rm : Room} {own : String} {index maxL nL n : Nat} {bytes : ByteArray} {ret : Option FieldType} {As rest st0 : List Value} {wcs : List va_W} {S : Type} {r : Int32} {post : S → Prop} {w1 : S → List va_W}
    (B : CallFix p m c cc nL s args Ts own) (hM : CE E' l D cl tys y wsy rm As wcs (some (.int r)) post w1 0 0) (cw : CallB R s args own index y bytes maxL ret wsy rm 0 0 n ∧ (Cond.static y).before args s = true) (hg : EGW E') (hK : va_K D cl tys s) (hA : ∀ q, s.heap.size ≤ q → A q) (hW : Wo D cl A s.heap H locs ss) (hE : E' A s s.heap) (bs : List Bool) (ss' : S → List va_W) (h1 : sgT bs ss = wcs) (h2 : ∀ u, sgT bs (ss' u) = w1 u) (h3 : ∀ u, sgF bs (ss' u) = sgF bs ss) (hn : As.length = n) (hsz : ls.size = nL) (hst : st0 = As.reverse ++ rest) (hrm : 2 * (F0 m pc ls st0).monitorRoom + (rest.map fun v => v.category).sum ≤ 8) (hdg : decode cc pc = .ok (.invokestatic index, 3)) (hf : cells + 0 ≤ R.cells ∧ slots + 0 ≤ R.slots)
    (kk : ∀ (u : S) (H1 : Heap) (locs1 : List Loc), post u → Wo D cl A s.heap H1 locs1 (ss' u) → W p l e R s m args below meth c H1 locs1 cells slots Q (F0 m (pc + 3) ls (.int r :: rest))) : W p l e R s m args below meth c H locs cells slots Q (F0 m pc ls st0) := by
  have hpre := sg_preW (av := As) hg hK hA hW bs h1 hE
  refine sg_call (E' := E') (y := y) (wsy := wsy) (rm := rm) (av := As) ss' (va_runS (As := As) (rest := rest) B (hM H.size) cw hpre rfl hn hsz hst hrm hdg hf) hW hA bs h1 h2 h3 (fun u H1 locs1 hp hW1 => ?_)
  exact kk u H1 locs1 hp hW1
theorem cw_Sv {E' : (Nat → Prop) → State → Heap → Prop} {y : MethodName} {wsy Ts : List Cond} {rm : Room} {own : String} {index maxL nL n : Nat} {bytes : ByteArray} {ret : Option FieldType} {As rest st0 : List Value} {wcs : List va_W} {S : Type} {post : S → Prop} {w1 : S → List va_W}
    (B : CallFix p m c cc nL s args Ts own) (hM : CE E' l D cl tys y wsy rm As wcs none post w1 0 0) (cw : CallB R s args own index y bytes maxL ret wsy rm 0 0 n ∧ (Cond.static y).before args s = true) (hg : EGW E') (hK : va_K D cl tys s) (hA : ∀ q, s.heap.size ≤ q → A q) (hW : Wo D cl A s.heap H locs ss) (hE : E' A s s.heap) (bs : List Bool) (ss' : S → List va_W) (h1 : sgT bs ss = wcs) (h2 : ∀ u, sgT bs (ss' u) = w1 u) (h3 : ∀ u, sgF bs (ss' u) = sgF bs ss) (hn : As.length = n) (hsz : ls.size = nL) (hst : st0 = As.reverse ++ rest) (hrm : 2 * (F0 m pc ls st0).monitorRoom + (rest.map fun v => v.category).sum ≤ 8) (hdg : decode cc pc = .ok (.invokestatic index, 3)) (hf : cells + 0 ≤ R.cells ∧ slots + 0 ≤ R.slots)
    (kk : ∀ (u : S) (H1 : Heap) (locs1 : List Loc), post u → Wo D cl A s.heap H1 locs1 (ss' u) → W p l e R s m args below meth c H1 locs1 cells slots Q (F0 m (pc + 3) ls (rest))) : W p l e R s m args below meth c H locs cells slots Q (F0 m pc ls st0) := by
  have hpre := sg_preW (av := As) hg hK hA hW bs h1 hE
  refine sg_call (E' := E') (y := y) (wsy := wsy) (rm := rm) (av := As) ss' (va_runS (As := As) (rest := rest) B (hM H.size) cw hpre rfl hn hsz hst hrm hdg hf) hW hA bs h1 h2 h3 (fun u H1 locs1 hp hW1 => ?_)
  exact kk u H1 locs1 hp hW1
end FW
/-! ===== the tape's words as String constants; the reference's table of names ===== -/
def jsI : List Nat := [64, 68, 70, 72, 74, 76, 83, 92, 40, 101, 49, 54, 59]
def jsT : List String := ["mother", "aunt", "gossip", "mrs", "gran", "bride", "secret", "out", "child", "on", "rain", "dry", "heavy"]
def jsN : List Nat := [6, 4, 6, 3, 4, 5, 6, 3, 5, 2, 4, 3, 5]
def jsB : List (List Int32) := [[109, 111, 116, 104, 101, 114], [97, 117, 110, 116], [103, 111, 115, 115, 105, 112], [109, 114, 115], [103, 114, 97, 110], [98, 114, 105, 100, 101], [115, 101, 99, 114, 101, 116], [111, 117, 116], [99, 104, 105, 108, 100], [111, 110], [114, 97, 105, 110], [100, 114, 121], [104, 101, 97, 118, 121]]
def CSTR : String := "java/lang/String"
def ES (aK aV : Nat → Nat) (A : Nat → Prop) (U : State) (H : Heap) : Prop :=
  (∀ i, i < 13 → vk_R RX3 (jsI.getD i 0) (jsT.getD i "") (aK i) U) ∧ vk_S 13 jsN jsB aK aV A U H ∧ va_Z "java/lang/String" "COMPACT_STRINGS" "Z" (.int 1) A U H ∧ va_Zq "jdk/internal/util/Preconditions" "SIOOBE_FORMATTER" "Ljava/util/function/BiFunction;" A U H
theorem vm_alike {u U : State} (h : U.vm = u.vm) : u.vm.Alike U.vm := by rw [h]; exact Vm.Alike.refl _
theorem ES_good (aK aV : Nat → Nat) : EGW (ES aK aV) :=
  ⟨fun _ _ _ _ hv h => ⟨fun i hi => (h.1 i hi).same hv, h.2.1.moved (vm_alike hv), h.2.2.1.moved (vm_alike hv), h.2.2.2.moved (vm_alike hv)⟩,
   fun _ _ _ _ hw h => ⟨fun i hi => (h.1 i hi).warm hw, h.2.1.moved hw.alike, h.2.2.1.moved hw.alike, h.2.2.2.moved hw.alike⟩,
   fun _ _ _ _ hq h => ⟨h.1, h.2.1.kept hq, h.2.2.1.kept hq, h.2.2.2.kept hq⟩,
   fun _ _ _ _ hn h => ⟨h.1, h.2.1.narrow hn, h.2.2.1.narrow hn, h.2.2.2.narrow hn⟩⟩
def EM (nt : Nat) (A : Nat → Prop) (U : State) (H : Heap) : Prop :=
  va_Z "UnsaidRoundModel" "NAMES" "[I" (.ref nt) A U H ∧ va_T .int nt 91 (fun j => .int (nI (nmC (j / 7) (j % 7)))) A U H
theorem EM_good (nt : Nat) : EGW (EM nt) :=
  ⟨fun _ _ _ _ hv h => ⟨h.1.moved (vm_alike hv), h.2.moved (vm_alike hv)⟩, fun _ _ _ _ hw h => ⟨h.1.moved hw.alike, h.2.moved hw.alike⟩, fun _ _ _ _ hq h => ⟨h.1.kept hq, h.2.kept hq⟩, fun _ _ _ _ hn h => ⟨h.1.narrow hn, h.2.narrow hn⟩⟩
theorem js_n : ∀ i, i < 13 → jsN.getD i 0 = lnC i := by decide +kernel
theorem js_le : ∀ i, i < 13 → lnC i ≤ 6 := fun i hi => (nm_tab i hi).1
theorem js_b : ∀ i, i < 13 → ∀ j, j < 6 → (jsB.getD i []).getD j 0 = nI (nmC i j) := by decide +kernel
theorem js_c : ∀ i, i < 13 → ∀ j, j < 6 → ((nI (nmC i j &&& 255)).toUInt32 % 65536).toInt32 = nI (nmC i j) ∧ narrow .char (.int (nI (nmC i j))) = .int (nI (nmC i j)) := by decide +kernel
theorem js_T {aK aV : Nat → Nat} {A : Nat → Prop} {U : State} {H : Heap} (h : ES aK aV A U H) {i : Nat} (hi : i < 13) : va_T .byte (aV i) (lnC i) (fun j => .int ((jsB.getD i []).getD j 0)) A U H := by
  have q := (h.2.1.1 i hi).2.2.2
  rw [js_n i hi] at q
  exact q
abbrev rmJ0_coder_7d493 : Room := { frames := 0, cells := 0, slots := 0, locals := 0 }
set_option maxRecDepth 100000 in
set_option maxHeartbeats 4000000 in
theorem M_J0_coder_7d493 (l : Launch) (D : va_G) (cI cJ : ClassId) (aK aV : Nat → Nat) (i : Nat) (hi : i < 13) : CE (ES aK aV) l D vwCl [(cI, .int), (cJ, .long)] yJ0_coder_7d493 wsJ0_coder_7d493 rmJ0_coder_7d493 [.ref (aK i)] [] (S := Unit) (some (.int (nI (0)))) (fun _ => True) (fun _ : Unit => []) 0 0 := by
  refine CE.ofW (cc := cJ0_coder_7d493) (maxL := 1) (ret := (some .byte)) (lv := [(0, .ref (aK i))]) (by decide) rfl (Nat.le_of_ble_eq_true rfl) rfl ?_
  intro p e s m args below meth c ls A Q hQ hx hb hml hr hlocks hnm hown hts hK hA hE hW hl
  have hown : s.vm.findClass RJ0 = some m.cls := hown
  refine va_gets hx hb hE.2.2.1 hW.2.2 hown (hts _ (List.mem_of_getElem? (i := 1) rfl)) (fun _ h => h) dJ0_coder_7d493_0 ?_
  refine W.top (v' := .int (nI 1)) rfl ?_
  refine nn_zeq (tgt := 13) hx hb dJ0_coder_7d493_3 (by decide) (by decide) (fun c3 => ?_) (fun c3 => ?_)
  · exfalso; omega
  · refine lv_aload_n hx hb dJ0_coder_7d493_6 rfl (lv_at hl 0 rfl) ?_
    refine vk_getf hx hb (hE.2.1.1 i hi).2.1 hW.2.2 hown (hts _ (List.mem_of_getElem? (i := 2) rfl)) (fun _ h => h) dJ0_coder_7d493_7 ?_
    refine W.top (v' := .int (nI 0)) rfl ?_
    refine lv_goto (tgt := 14) hx hb dJ0_coder_7d493_10 (by decide) ?_
    exact rt_z hQ hx hb hr hlocks hW dJ0_coder_7d493_14 (by decide +kernel) () rfl trivial rfl
abbrev rmJ0_isLatin1_aae02 : Room := { frames := 0, cells := 0, slots := 0, locals := 0 }
set_option maxRecDepth 100000 in
set_option maxHeartbeats 4000000 in
theorem M_J0_isLatin1_aae02 (l : Launch) (D : va_G) (cI cJ : ClassId) (aK aV : Nat → Nat) (i : Nat) (hi : i < 13) : CE (ES aK aV) l D vwCl [(cI, .int), (cJ, .long)] yJ0_isLatin1_aae02 wsJ0_isLatin1_aae02 rmJ0_isLatin1_aae02 [.ref (aK i)] [] (S := Unit) (some (.int (nI (1)))) (fun _ => True) (fun _ : Unit => []) 0 0 := by
  refine CE.ofW (cc := cJ0_isLatin1_aae02) (maxL := 1) (ret := (some .boolean)) (lv := [(0, .ref (aK i))]) (by decide) rfl (Nat.le_of_ble_eq_true rfl) rfl ?_
  intro p e s m args below meth c ls A Q hQ hx hb hml hr hlocks hnm hown hts hK hA hE hW hl
  have hown : s.vm.findClass RJ0 = some m.cls := hown
  refine va_gets hx hb hE.2.2.1 hW.2.2 hown (hts _ (List.mem_of_getElem? (i := 1) rfl)) (fun _ h => h) dJ0_isLatin1_aae02_0 ?_
  refine W.top (v' := .int (nI 1)) rfl ?_
  refine nn_zeq (tgt := 17) hx hb dJ0_isLatin1_aae02_3 (by decide) (by decide) (fun c3 => ?_) (fun c3 => ?_)
  · exfalso; omega
  · refine lv_aload_n hx hb dJ0_isLatin1_aae02_6 rfl (lv_at hl 0 rfl) ?_
    refine vk_getf hx hb (hE.2.1.1 i hi).2.1 hW.2.2 hown (hts _ (List.mem_of_getElem? (i := 2) rfl)) (fun _ h => h) dJ0_isLatin1_aae02_7 ?_
    refine W.top (v' := .int (nI 0)) rfl ?_
    refine nn_zne (tgt := 17) hx hb dJ0_isLatin1_aae02_10 (by decide) (by decide) (fun c10 => ?_) (fun c10 => ?_)
    · exfalso; omega
    · refine lv_iconst (v := nI 1) hx hb dJ0_isLatin1_aae02_13 (by decide +kernel) ?_
      refine lv_goto (tgt := 18) hx hb dJ0_isLatin1_aae02_14 (by decide) ?_
      exact rt_z hQ hx hb hr hlocks hW dJ0_isLatin1_aae02_18 (by decide +kernel) () rfl trivial rfl
abbrev rmJ0_length_8abf5 : Room := { frames := 1, cells := 0, slots := 0, locals := 20 }
set_option maxRecDepth 100000 in
set_option maxHeartbeats 4000000 in
theorem M_J0_length_8abf5 (l : Launch) (D : va_G) (cI cJ : ClassId) (aK aV : Nat → Nat) (i : Nat) (hi : i < 13) : CE (ES aK aV) l D vwCl [(cI, .int), (cJ, .long)] yJ0_length_8abf5 wsJ0_length_8abf5 rmJ0_length_8abf5 [.ref (aK i)] [] (S := Unit) (some (.int (nI (lnC i)))) (fun _ => True) (fun _ : Unit => []) 0 0 := by
  refine CE.ofW (cc := cJ0_length_8abf5) (maxL := 1) (ret := (some .int)) (lv := [(0, .ref (aK i))]) (by decide) rfl (Nat.le_of_ble_eq_true rfl) rfl ?_
  intro p e s m args below meth c ls A Q hQ hx hb hml hr hlocks hnm hown hts hK hA hE hW hl
  have hown : s.vm.findClass RJ0 = some m.cls := hown
  have hln := js_le i hi
  refine lv_aload_n hx hb dJ0_length_8abf5_0 rfl (lv_at hl 0 rfl) ?_
  refine vk_getf hx hb (hE.2.1.1 i hi).2.2.1 hW.2.2 hown (hts _ (List.mem_of_getElem? (i := 1) rfl)) (fun _ h => h) dJ0_length_8abf5_1 ?_
  refine va_tlen hx hb (js_T hE hi) hW.2.2 (v := nI (lnC i)) rfl dJ0_length_8abf5_4 ?_
  refine lv_aload_n hx hb dJ0_length_8abf5_5 rfl (lv_at hl 0 rfl) ?_
  refine cx_Vi (As := []) (rest := [.int (nI (lnC i))]) (C := RJ0) ⟨hx, hb, hml, hown, hts⟩ (M_J0_coder_7d493 l D cI cJ aK aV i hi) (cwV 0 hts gJ0_length_8abf5_J0_coder_7d493 rfl rfl rfl qJ0_coder_7d493 ⟨Nat.le_of_ble_eq_true rfl, Nat.le_of_ble_eq_true rfl⟩) (ES_good aK aV) hK hA hW hE [] (fun _ => []) rfl (fun _ => rfl) (fun _ => rfl) (vk_recv hE.2.1 hi hW.2.2) rfl hl.1 rfl (lv_room (Nat.le_of_ble_eq_true rfl)) dJ0_length_8abf5_6 ⟨Nat.zero_le _, Nat.zero_le _⟩ (fun _ H locs _ hW => ?_)
  refine nn_shr hx hb dJ0_length_8abf5_9 (by omega) (by omega) ?_
  exact rt_i hQ hx hb hr hlocks hW dJ0_length_8abf5_10 () (by rw [Nat.pow_zero, Nat.div_one]) trivial rfl
abbrev rmJ3_checkIndex_8e157 : Room := { frames := 0, cells := 0, slots := 0, locals := 0 }
set_option maxRecDepth 100000 in
set_option maxHeartbeats 4000000 in
theorem M_J3_checkR (l : Launch) (D : va_G) (cI cJ : ClassId) (t k n : Nat) (hk : k < n) (hn : n < 2 ^ 31) : CE E0 l D vwCl [(cI, .int), (cJ, .long)] yJ3_checkIndex_8e157 wsJ3_checkIndex_8e157 rmJ3_checkIndex_8e157 [.int (nI k), .int (nI n), .ref t] [] (S := Unit) (some (.int (nI (k)))) (fun _ => True) (fun _ : Unit => []) 0 0 := by
  refine CE.ofW (cc := cJ3_checkIndex_8e157) (maxL := 3) (ret := (some .int)) (lv := [(0, .int (nI k)), (1, .int (nI n)), (2, .ref t)]) (by decide) rfl (Nat.le_of_ble_eq_true rfl) rfl ?_
  intro p e s m args below meth c ls A Q hQ hx hb hml hr hlocks hnm hown hts hK hA hE hW hl
  have hown : s.vm.findClass RJ3 = some m.cls := hown
  refine lv_iload_n hx hb dJ3_checkIndex_8e157_0 rfl (lv_at hl 0 rfl) ?_
  refine nn_zlt (tgt := 9) hx hb dJ3_checkIndex_8e157_1 (by decide) (by omega) (fun c1 => ?_) (fun c1 => ?_)
  · exfalso; omega
  · refine lv_iload_n hx hb dJ3_checkIndex_8e157_4 rfl (lv_at hl 0 rfl) ?_
    refine lv_iload_n hx hb dJ3_checkIndex_8e157_5 rfl (lv_at hl 1 rfl) ?_
    refine nn_clt (tgt := 16) hx hb dJ3_checkIndex_8e157_6 (by decide) (by omega) (by omega) (fun c6 => ?_) (fun c6 => ?_)
    · refine lv_iload_n hx hb dJ3_checkIndex_8e157_16 rfl (lv_at hl 0 rfl) ?_
      exact rt_i hQ hx hb hr hlocks hW dJ3_checkIndex_8e157_17 () rfl trivial rfl
    · exfalso; omega
set_option maxRecDepth 100000 in
set_option maxHeartbeats 4000000 in
theorem M_J3_checkN (l : Launch) (D : va_G) (cI cJ : ClassId) (k n : Nat) (hk : k < n) (hn : n < 2 ^ 31) : CE E0 l D vwCl [(cI, .int), (cJ, .long)] yJ3_checkIndex_8e157 wsJ3_checkIndex_8e157 rmJ3_checkIndex_8e157 [.int (nI k), .int (nI n), .null] [] (S := Unit) (some (.int (nI (k)))) (fun _ => True) (fun _ : Unit => []) 0 0 := by
  refine CE.ofW (cc := cJ3_checkIndex_8e157) (maxL := 3) (ret := (some .int)) (lv := [(0, .int (nI k)), (1, .int (nI n)), (2, .null)]) (by decide) rfl (Nat.le_of_ble_eq_true rfl) rfl ?_
  intro p e s m args below meth c ls A Q hQ hx hb hml hr hlocks hnm hown hts hK hA hE hW hl
  have hown : s.vm.findClass RJ3 = some m.cls := hown
  refine lv_iload_n hx hb dJ3_checkIndex_8e157_0 rfl (lv_at hl 0 rfl) ?_
  refine nn_zlt (tgt := 9) hx hb dJ3_checkIndex_8e157_1 (by decide) (by omega) (fun c1 => ?_) (fun c1 => ?_)
  · exfalso; omega
  · refine lv_iload_n hx hb dJ3_checkIndex_8e157_4 rfl (lv_at hl 0 rfl) ?_
    refine lv_iload_n hx hb dJ3_checkIndex_8e157_5 rfl (lv_at hl 1 rfl) ?_
    refine nn_clt (tgt := 16) hx hb dJ3_checkIndex_8e157_6 (by decide) (by omega) (by omega) (fun c6 => ?_) (fun c6 => ?_)
    · refine lv_iload_n hx hb dJ3_checkIndex_8e157_16 rfl (lv_at hl 0 rfl) ?_
      exact rt_i hQ hx hb hr hlocks hW dJ3_checkIndex_8e157_17 () rfl trivial rfl
    · exfalso; omega
abbrev rmJ0_checkIndex_df160 : Room := { frames := 1, cells := 0, slots := 0, locals := 22 }
set_option maxRecDepth 100000 in
set_option maxHeartbeats 4000000 in
theorem M_J0_checkIndex_df160 (l : Launch) (D : va_G) (cI cJ : ClassId) (aK aV : Nat → Nat) (k n : Nat) (hk : k < n) (hn : n < 2 ^ 31) : CE (ES aK aV) l D vwCl [(cI, .int), (cJ, .long)] yJ0_checkIndex_df160 wsJ0_checkIndex_df160 rmJ0_checkIndex_df160 [.int (nI k), .int (nI n)] [] (S := Unit) none (fun _ => True) (fun _ : Unit => []) 0 0 := by
  refine CE.ofW (cc := cJ0_checkIndex_df160) (maxL := 2) (ret := none) (lv := [(0, .int (nI k)), (1, .int (nI n))]) (by decide) rfl (Nat.le_of_ble_eq_true rfl) rfl ?_
  intro p e s m args below meth c ls A Q hQ hx hb hml hr hlocks hnm hown hts hK hA hE hW hl
  have hown : s.vm.findClass RJ0 = some m.cls := hown
  refine lv_iload_n hx hb dJ0_checkIndex_df160_0 rfl (lv_at hl 0 rfl) ?_
  refine lv_iload_n hx hb dJ0_checkIndex_df160_1 rfl (lv_at hl 1 rfl) ?_
  rcases hE.2.2.2 with hz | ⟨t, hz⟩
  · refine va_gets hx hb hz hW.2.2 hown (hts _ (List.mem_of_getElem? (i := 1) rfl)) (fun _ h => h) dJ0_checkIndex_df160_2 ?_
    refine cl_Si (As := [.int (nI k), .int (nI n), .null]) (rest := []) ⟨hx, hb, hml, hown, hts⟩ (M_J3_checkN l D cI cJ k n hk hn) (va_cwS 3 hts gJ0_checkIndex_df160_J3_checkIndex_8e157 rfl rfl rfl qJ3_checkIndex_8e157 ⟨Nat.le_of_ble_eq_true rfl, Nat.le_of_ble_eq_true rfl⟩) E0_good hK hA hW trivial [] (fun _ => []) rfl (fun _ => rfl) (fun _ => rfl) rfl hl.1 rfl (lv_room (Nat.le_of_ble_eq_true rfl)) dJ0_checkIndex_df160_5 ⟨Nat.zero_le _, Nat.zero_le _⟩ (fun _ H locs _ hW => ?_)
    refine lv_pop hx hb dJ0_checkIndex_df160_8 rfl ?_
    exact rt_v hQ hx hb hr hlocks hW dJ0_checkIndex_df160_9 () rfl trivial rfl
  · refine va_gets hx hb hz hW.2.2 hown (hts _ (List.mem_of_getElem? (i := 1) rfl)) (fun _ h => h) dJ0_checkIndex_df160_2 ?_
    refine cl_Si (As := [.int (nI k), .int (nI n), .ref t]) (rest := []) ⟨hx, hb, hml, hown, hts⟩ (M_J3_checkR l D cI cJ t k n hk hn) (va_cwS 3 hts gJ0_checkIndex_df160_J3_checkIndex_8e157 rfl rfl rfl qJ3_checkIndex_8e157 ⟨Nat.le_of_ble_eq_true rfl, Nat.le_of_ble_eq_true rfl⟩) E0_good hK hA hW trivial [] (fun _ => []) rfl (fun _ => rfl) (fun _ => rfl) rfl hl.1 rfl (lv_room (Nat.le_of_ble_eq_true rfl)) dJ0_checkIndex_df160_5 ⟨Nat.zero_le _, Nat.zero_le _⟩ (fun _ H locs _ hW => ?_)
    refine lv_pop hx hb dJ0_checkIndex_df160_8 rfl ?_
    exact rt_v hQ hx hb hr hlocks hW dJ0_checkIndex_df160_9 () rfl trivial rfl
abbrev rmJ1_charAt_3b067 : Room := { frames := 2, cells := 0, slots := 0, locals := 43 }
set_option maxRecDepth 100000 in
set_option maxHeartbeats 4000000 in
theorem M_J1_charAt_3b067 (l : Launch) (D : va_G) (cI cJ : ClassId) (aK aV : Nat → Nat) (i : Nat) (hi : i < 13) (k : Nat) (hk : k < lnC i) : CE (ES aK aV) l D vwCl [(cI, .int), (cJ, .long)] yJ1_charAt_3b067 wsJ1_charAt_3b067 rmJ1_charAt_3b067 [.ref (aV i), .int (nI k)] [] (S := Unit) (some (.int (nI (nmC i k)))) (fun _ => True) (fun _ : Unit => []) 0 0 := by
  refine CE.ofW (cc := cJ1_charAt_3b067) (maxL := 2) (ret := (some .char)) (lv := [(0, .ref (aV i)), (1, .int (nI k))]) (by decide) rfl (Nat.le_of_ble_eq_true rfl) rfl ?_
  intro p e s m args below meth c ls A Q hQ hx hb hml hr hlocks hnm hown hts hK hA hE hW hl
  have hown : s.vm.findClass RJ1 = some m.cls := hown
  have hln := js_le i hi
  refine lv_iload_n hx hb dJ1_charAt_3b067_0 rfl (lv_at hl 1 rfl) ?_
  refine lv_aload_n hx hb dJ1_charAt_3b067_1 rfl (lv_at hl 0 rfl) ?_
  refine va_tlen hx hb (js_T hE hi) hW.2.2 (v := nI (lnC i)) rfl dJ1_charAt_3b067_2 ?_
  refine cw_Sv (As := [.int (nI k), .int (nI (lnC i))]) (rest := []) ⟨hx, hb, hml, hown, hts⟩ (M_J0_checkIndex_df160 l D cI cJ aK aV k (lnC i) hk (by omega)) (va_cwS 2 hts gJ1_charAt_3b067_J0_checkIndex_df160 rfl rfl rfl qJ0_checkIndex_df160 ⟨Nat.le_of_ble_eq_true rfl, Nat.le_of_ble_eq_true rfl⟩) (ES_good aK aV) hK hA hW hE [] (fun _ => []) rfl (fun _ => rfl) (fun _ => rfl) rfl hl.1 rfl (lv_room (Nat.le_of_ble_eq_true rfl)) dJ1_charAt_3b067_3 ⟨Nat.zero_le _, Nat.zero_le _⟩ (fun _ H locs _ hW => ?_)
  refine lv_aload_n hx hb dJ1_charAt_3b067_6 rfl (lv_at hl 0 rfl) ?_
  refine lv_iload_n hx hb dJ1_charAt_3b067_7 rfl (lv_at hl 1 rfl) ?_
  refine va_tb hx hb (js_T hE hi) hW.2.2 (vp_in_nI hk (by omega)) (v := .int (nI (nmC i k))) (by rw [nI_clamp (by omega), js_b i hi k (by omega)]) dJ1_charAt_3b067_8 ?_
  refine lv_sipush (v := nI 255) hx hb dJ1_charAt_3b067_9 (by decide +kernel) ?_
  refine nn_and hx hb dJ1_charAt_3b067_12 ?_
  refine lv_i2c (v := nI (nmC i k)) hx hb dJ1_charAt_3b067_13 (js_c i hi k (by omega)).1 ?_
  exact rt_z hQ hx hb hr hlocks hW dJ1_charAt_3b067_14 (js_c i hi k (by omega)).2 () rfl trivial rfl
abbrev rmJ0_charAt_5068e : Room := { frames := 4, cells := 0, slots := 0, locals := 85 }
set_option maxRecDepth 100000 in
set_option maxHeartbeats 4000000 in
theorem M_J0_charAt_5068e (l : Launch) (D : va_G) (cI cJ : ClassId) (aK aV : Nat → Nat) (i : Nat) (hi : i < 13) (k : Nat) (hk : k < lnC i) : CE (ES aK aV) l D vwCl [(cI, .int), (cJ, .long)] yJ0_charAt_5068e wsJ0_charAt_5068e rmJ0_charAt_5068e [.ref (aK i), .int (nI k)] [] (S := Unit) (some (.int (nI (nmC i k)))) (fun _ => True) (fun _ : Unit => []) 0 0 := by
  refine CE.ofW (cc := cJ0_charAt_5068e) (maxL := 2) (ret := (some .char)) (lv := [(0, .ref (aK i)), (1, .int (nI k))]) (by decide) rfl (Nat.le_of_ble_eq_true rfl) rfl ?_
  intro p e s m args below meth c ls A Q hQ hx hb hml hr hlocks hnm hown hts hK hA hE hW hl
  have hown : s.vm.findClass RJ0 = some m.cls := hown
  have hln := js_le i hi
  refine lv_aload_n hx hb dJ0_charAt_5068e_0 rfl (lv_at hl 0 rfl) ?_
  refine cx_Vi (As := []) (rest := []) (C := RJ0) ⟨hx, hb, hml, hown, hts⟩ (M_J0_isLatin1_aae02 l D cI cJ aK aV i hi) (cwV 0 hts gJ0_charAt_5068e_J0_isLatin1_aae02 rfl rfl rfl qJ0_isLatin1_aae02 ⟨Nat.le_of_ble_eq_true rfl, Nat.le_of_ble_eq_true rfl⟩) (ES_good aK aV) hK hA hW hE [] (fun _ => []) rfl (fun _ => rfl) (fun _ => rfl) (vk_recv hE.2.1 hi hW.2.2) rfl hl.1 rfl (lv_room (Nat.le_of_ble_eq_true rfl)) dJ0_charAt_5068e_1 ⟨Nat.zero_le _, Nat.zero_le _⟩ (fun _ H locs _ hW => ?_)
  refine nn_zeq (tgt := 16) hx hb dJ0_charAt_5068e_4 (by decide) (by decide) (fun c4 => ?_) (fun c4 => ?_)
  · exfalso; omega
  · refine lv_aload_n hx hb dJ0_charAt_5068e_7 rfl (lv_at hl 0 rfl) ?_
    refine vk_getf hx hb (hE.2.1.1 i hi).2.2.1 hW.2.2 hown (hts _ (List.mem_of_getElem? (i := 1) rfl)) (fun _ h => h) dJ0_charAt_5068e_8 ?_
    refine lv_iload_n hx hb dJ0_charAt_5068e_11 rfl (lv_at hl 1 rfl) ?_
    refine cw_Si (As := [.ref (aV i), .int (nI k)]) (rest := []) ⟨hx, hb, hml, hown, hts⟩ (M_J1_charAt_3b067 l D cI cJ aK aV i hi k hk) (va_cwS 2 hts gJ0_charAt_5068e_J1_charAt_3b067 rfl rfl rfl qJ1_charAt_3b067 ⟨Nat.le_of_ble_eq_true rfl, Nat.le_of_ble_eq_true rfl⟩) (ES_good aK aV) hK hA hW hE [] (fun _ => []) rfl (fun _ => rfl) (fun _ => rfl) rfl hl.1 rfl (lv_room (Nat.le_of_ble_eq_true rfl)) dJ0_charAt_5068e_12 ⟨Nat.zero_le _, Nat.zero_le _⟩ (fun _ H locs _ hW => ?_)
    exact rt_z hQ hx hb hr hlocks hW dJ0_charAt_5068e_15 (js_c i hi k (by omega)).2 () rfl trivial rfl
