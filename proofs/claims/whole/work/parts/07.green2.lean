section CP
variable {p : Program} {l : Launch} {e : Env} {R : Room} {s : State} {m : MethodId} {args : Array Value} {below : List Frame} {meth : Method} {c : Code} {H H0 : Heap} {locs : List Loc} {cells slots : Nat} {Q : State → Prop}
variable {cc : ByteArray} {pc : Nat} {ls : Array Slot} {rest : List Value} {D : va_G} {cl : List vw_C} {tys : List (ClassId × FieldType)} {A : Nat → Prop} {ss : List va_W}
theorem sg_cpyi (hx : p.tables.exec = Jvm.exec) (hb : c.code = cc) (hml : c.maxLocals = ls.size) {own : String} {index : Nat} (hown : s.vm.findClass own = some m.cls) (hlink : (Cond.methodLink own index arraycopyName).before args s = true) (hnat : (Cond.native arraycopyName).before args s = true) (hstat : (Cond.static arraycopyName).before args s = true) (hini : (Cond.initialized "java/lang/System").before args s = true)
    (hK : va_K D cl tys s) (hW : Wo D cl A H0 H locs ss) (i0 j0 i1 j1 t0 : Nat) {seg0 seg1 : va_W} {a0 a1 n0 n1 : Nat} {cA : ClassId} {f g : Nat → Int32} (hi0 : ss[i0]? = some seg0) (he0 : seg0[j0]? = some (a0, .inl (cA, n0, .inl f))) (hi1 : ss[i1]? = some seg1) (he1 : seg1[j1]? = some (a1, .inl (cA, n1, .inl g))) (ht : tys[t0]? = some (cA, .int)) {sp dp k : Nat} (h4 : sp + k ≤ n0) (h5 : dp + k ≤ n1) (hn0 : n0 < 2 ^ 31) (hn1 : n1 < 2 ^ 31)
    (hframes : 1 ≤ R.frames) (hlocals : (rest.map fun v => v.category).sum + (nativeFrameWords "java/lang/System" "arraycopy" 5 + 11) ≤ R.locals) {g' : Nat → Int32} (hg : ∀ q, q < n1 → va_cpy f g sp dp k q = g' q) {seg' : va_W} (hs : seg1.set j1 (a1, .inl (cA, n1, .inl g')) = seg') {ss' : List va_W} (hss : ss.set i1 seg' = ss') (hdg : decode cc pc = .ok (.invokestatic index, 3))
    (kk : ∀ (H1 : Heap) (locs1 : List Loc), Wo D cl A H0 H1 locs1 ss' → W p l e R s m args below meth c H1 locs1 cells slots Q (F0 m (pc + 3) ls rest)) : W p l e R s m args below meth c H locs cells slots Q (F0 m pc ls (.int (nI k) :: .int (nI dp) :: .ref a1 :: .int (nI sp) :: .ref a0 :: rest)) := by
  obtain ⟨q0, g1, -⟩ := sg_at ss i0 j0 seg0 _ hi0 he0
  obtain ⟨q1, g2, g3⟩ := sg_at ss i1 j1 seg1 _ hi1 he1
  subst hss; subst hs
  have e1 := nI_clamp (n := sp) (by omega)
  have e2 := nI_clamp (n := dp) (by omega)
  have e3 := nI_clamp (n := k) (by omega)
  refine va_copyi hx hb hml hown hlink hnat hstat hini hK hW.1 hW.2.1 hW.2.2 q0 q1 t0 t0 g1 g2 ht ht rfl (nI_pos (by omega)) (nI_pos (by omega)) (nI_pos (by omega)) (by rw [e1, e3]; exact h4) (by rw [e2, e3]; exact h5) (fun _ _ => rfl) hframes hlocals hdg (fun H1 locs1 hP hD hS => ?_)
  rw [e1, e2, e3, g3] at hP hD
  have hl : j1 < seg1.length := (List.getElem?_eq_some_iff.mp he1).1
  have hl2 : i1 < ss.length := (List.getElem?_eq_some_iff.mp hi1).1
  refine kk H1 locs1 (sg_fn (g := g') (⟨hP, hD, hS⟩ : Wo D cl A H0 H1 locs1 _) i1 j1 (List.getElem?_set_self hl2) (List.getElem?_set_self hl) hg rfl ?_)
  rw [List.set_set, List.set_set]
theorem sg_cpyl (hx : p.tables.exec = Jvm.exec) (hb : c.code = cc) (hml : c.maxLocals = ls.size) {own : String} {index : Nat} (hown : s.vm.findClass own = some m.cls) (hlink : (Cond.methodLink own index arraycopyName).before args s = true) (hnat : (Cond.native arraycopyName).before args s = true) (hstat : (Cond.static arraycopyName).before args s = true) (hini : (Cond.initialized "java/lang/System").before args s = true)
    (hK : va_K D cl tys s) (hW : Wo D cl A H0 H locs ss) (i0 j0 t0 : Nat) {seg0 : va_W} {a0 n0 : Nat} {cA : ClassId} {f : Nat → Int64} (hi0 : ss[i0]? = some seg0) (he0 : seg0[j0]? = some (a0, .inl (cA, n0, .inr (.inl f)))) (ht : tys[t0]? = some (cA, .long)) {sp dp k : Nat} (h4 : sp + k ≤ n0) (h5 : dp + k ≤ n0) (hn0 : n0 < 2 ^ 31)
    (hframes : 1 ≤ R.frames) (hlocals : (rest.map fun v => v.category).sum + (nativeFrameWords "java/lang/System" "arraycopy" 5 + 11) ≤ R.locals) {seg' : va_W} (hs : seg0.set j0 (a0, .inl (cA, n0, .inr (.inl (va_cpy f f sp dp k)))) = seg') {ss' : List va_W} (hss : ss.set i0 seg' = ss') (hdg : decode cc pc = .ok (.invokestatic index, 3))
    (kk : ∀ (H1 : Heap) (locs1 : List Loc), Wo D cl A H0 H1 locs1 ss' → W p l e R s m args below meth c H1 locs1 cells slots Q (F0 m (pc + 3) ls rest)) : W p l e R s m args below meth c H locs cells slots Q (F0 m pc ls (.int (nI k) :: .int (nI dp) :: .ref a0 :: .int (nI sp) :: .ref a0 :: rest)) := by
  obtain ⟨q0, g1, g3⟩ := sg_at ss i0 j0 seg0 _ hi0 he0
  subst hss; subst hs
  have e1 := nI_clamp (n := sp) (by omega)
  have e2 := nI_clamp (n := dp) (by omega)
  have e3 := nI_clamp (n := k) (by omega)
  refine va_copyl hx hb hml hown hlink hnat hstat hini hK hW.1 hW.2.1 hW.2.2 q0 q0 t0 t0 g1 g1 ht ht rfl (nI_pos (by omega)) (nI_pos (by omega)) (nI_pos (by omega)) (by rw [e1, e3]; exact h4) (by rw [e2, e3]; exact h5) (fun _ _ => rfl) hframes hlocals hdg (fun H1 locs1 hP hD hS => ?_)
  rw [e1, e2, e3, g3] at hP hD
  exact kk H1 locs1 ⟨hP, hD, hS⟩
end CP
def selR (r : Nat) (K G : Nat → Nat) : Nat → Nat := fun j => if j % 8 = r then K j else G j
theorem selR_in {r : Nat} {K G : Nat → Nat} {j : Nat} (h : j % 8 = r) : selR r K G j = K j := if_pos h
theorem selR_out {r : Nat} {K G : Nat → Nat} {j : Nat} (h : ¬ j % 8 = r) : selR r K G j = G j := if_neg h
theorem gW_sel1 (cI : ClassId) (g : Nat → Nat) (K G : Nat → Nat) : (gW cI g G).set 1 (g 1, .inl (cI, 8, .inl (fun i => nI (K (8 * i + 1))))) = gW cI g (selR 1 K G) := by
  have e0 : selR 1 K G 0 = G 0 := selR_out (by decide)
  have e1 : selR 1 K G 8 = G 8 := selR_out (by decide)
  have e2 : selR 1 K G 16 = G 16 := selR_out (by decide)
  have e3 : selR 1 K G 24 = G 24 := selR_out (by decide)
  have e4 : selR 1 K G 32 = G 32 := selR_out (by decide)
  have e5 : selR 1 K G 40 = G 40 := selR_out (by decide)
  have e6 : selR 1 K G 48 = G 48 := selR_out (by decide)
  have e7 : ∀ i : Nat, selR 1 K G (8 * i + 1) = K (8 * i + 1) := fun i => selR_in (by omega)
  have e8 : ∀ i : Nat, selR 1 K G (8 * i + 2) = G (8 * i + 2) := fun i => selR_out (by omega)
  have e9 : ∀ i : Nat, selR 1 K G (8 * i + 3) = G (8 * i + 3) := fun i => selR_out (by omega)
  have e10 : ∀ i : Nat, selR 1 K G (8 * i + 4) = G (8 * i + 4) := fun i => selR_out (by omega)
  have e11 : ∀ i : Nat, selR 1 K G (8 * i + 5) = G (8 * i + 5) := fun i => selR_out (by omega)
  have e12 : ∀ i : Nat, selR 1 K G (8 * i + 6) = G (8 * i + 6) := fun i => selR_out (by omega)
  have e13 : ∀ i : Nat, selR 1 K G (8 * i + 7) = G (8 * i + 7) := fun i => selR_out (by omega)
  simp only [gW, e0, e1, e2, e3, e4, e5, e6, e7, e8, e9, e10, e11, e12, e13, List.set]
theorem gW_sel2 (cI : ClassId) (g : Nat → Nat) (K G : Nat → Nat) : (gW cI g G).set 2 (g 2, .inl (cI, 8, .inl (fun i => nI (K (8 * i + 2))))) = gW cI g (selR 2 K G) := by
  have e0 : selR 2 K G 0 = G 0 := selR_out (by decide)
  have e1 : selR 2 K G 8 = G 8 := selR_out (by decide)
  have e2 : selR 2 K G 16 = G 16 := selR_out (by decide)
  have e3 : selR 2 K G 24 = G 24 := selR_out (by decide)
  have e4 : selR 2 K G 32 = G 32 := selR_out (by decide)
  have e5 : selR 2 K G 40 = G 40 := selR_out (by decide)
  have e6 : selR 2 K G 48 = G 48 := selR_out (by decide)
  have e7 : ∀ i : Nat, selR 2 K G (8 * i + 1) = G (8 * i + 1) := fun i => selR_out (by omega)
  have e8 : ∀ i : Nat, selR 2 K G (8 * i + 2) = K (8 * i + 2) := fun i => selR_in (by omega)
  have e9 : ∀ i : Nat, selR 2 K G (8 * i + 3) = G (8 * i + 3) := fun i => selR_out (by omega)
  have e10 : ∀ i : Nat, selR 2 K G (8 * i + 4) = G (8 * i + 4) := fun i => selR_out (by omega)
  have e11 : ∀ i : Nat, selR 2 K G (8 * i + 5) = G (8 * i + 5) := fun i => selR_out (by omega)
  have e12 : ∀ i : Nat, selR 2 K G (8 * i + 6) = G (8 * i + 6) := fun i => selR_out (by omega)
  have e13 : ∀ i : Nat, selR 2 K G (8 * i + 7) = G (8 * i + 7) := fun i => selR_out (by omega)
  simp only [gW, e0, e1, e2, e3, e4, e5, e6, e7, e8, e9, e10, e11, e12, e13, List.set]
theorem gW_sel3 (cI : ClassId) (g : Nat → Nat) (K G : Nat → Nat) : (gW cI g G).set 3 (g 3, .inl (cI, 8, .inl (fun i => nI (K (8 * i + 3))))) = gW cI g (selR 3 K G) := by
  have e0 : selR 3 K G 0 = G 0 := selR_out (by decide)
  have e1 : selR 3 K G 8 = G 8 := selR_out (by decide)
  have e2 : selR 3 K G 16 = G 16 := selR_out (by decide)
  have e3 : selR 3 K G 24 = G 24 := selR_out (by decide)
  have e4 : selR 3 K G 32 = G 32 := selR_out (by decide)
  have e5 : selR 3 K G 40 = G 40 := selR_out (by decide)
  have e6 : selR 3 K G 48 = G 48 := selR_out (by decide)
  have e7 : ∀ i : Nat, selR 3 K G (8 * i + 1) = G (8 * i + 1) := fun i => selR_out (by omega)
  have e8 : ∀ i : Nat, selR 3 K G (8 * i + 2) = G (8 * i + 2) := fun i => selR_out (by omega)
  have e9 : ∀ i : Nat, selR 3 K G (8 * i + 3) = K (8 * i + 3) := fun i => selR_in (by omega)
  have e10 : ∀ i : Nat, selR 3 K G (8 * i + 4) = G (8 * i + 4) := fun i => selR_out (by omega)
  have e11 : ∀ i : Nat, selR 3 K G (8 * i + 5) = G (8 * i + 5) := fun i => selR_out (by omega)
  have e12 : ∀ i : Nat, selR 3 K G (8 * i + 6) = G (8 * i + 6) := fun i => selR_out (by omega)
  have e13 : ∀ i : Nat, selR 3 K G (8 * i + 7) = G (8 * i + 7) := fun i => selR_out (by omega)
  simp only [gW, e0, e1, e2, e3, e4, e5, e6, e7, e8, e9, e10, e11, e12, e13, List.set]
theorem gW_sel4 (cI : ClassId) (g : Nat → Nat) (K G : Nat → Nat) : (gW cI g G).set 4 (g 4, .inl (cI, 8, .inl (fun i => nI (K (8 * i + 4))))) = gW cI g (selR 4 K G) := by
  have e0 : selR 4 K G 0 = G 0 := selR_out (by decide)
  have e1 : selR 4 K G 8 = G 8 := selR_out (by decide)
  have e2 : selR 4 K G 16 = G 16 := selR_out (by decide)
  have e3 : selR 4 K G 24 = G 24 := selR_out (by decide)
  have e4 : selR 4 K G 32 = G 32 := selR_out (by decide)
  have e5 : selR 4 K G 40 = G 40 := selR_out (by decide)
  have e6 : selR 4 K G 48 = G 48 := selR_out (by decide)
  have e7 : ∀ i : Nat, selR 4 K G (8 * i + 1) = G (8 * i + 1) := fun i => selR_out (by omega)
  have e8 : ∀ i : Nat, selR 4 K G (8 * i + 2) = G (8 * i + 2) := fun i => selR_out (by omega)
  have e9 : ∀ i : Nat, selR 4 K G (8 * i + 3) = G (8 * i + 3) := fun i => selR_out (by omega)
  have e10 : ∀ i : Nat, selR 4 K G (8 * i + 4) = K (8 * i + 4) := fun i => selR_in (by omega)
  have e11 : ∀ i : Nat, selR 4 K G (8 * i + 5) = G (8 * i + 5) := fun i => selR_out (by omega)
  have e12 : ∀ i : Nat, selR 4 K G (8 * i + 6) = G (8 * i + 6) := fun i => selR_out (by omega)
  have e13 : ∀ i : Nat, selR 4 K G (8 * i + 7) = G (8 * i + 7) := fun i => selR_out (by omega)
  simp only [gW, e0, e1, e2, e3, e4, e5, e6, e7, e8, e9, e10, e11, e12, e13, List.set]
theorem gW_sel5 (cI : ClassId) (g : Nat → Nat) (K G : Nat → Nat) : (gW cI g G).set 5 (g 5, .inl (cI, 6, .inl (fun i => nI (K (8 * i + 5))))) = gW cI g (selR 5 K G) := by
  have e0 : selR 5 K G 0 = G 0 := selR_out (by decide)
  have e1 : selR 5 K G 8 = G 8 := selR_out (by decide)
  have e2 : selR 5 K G 16 = G 16 := selR_out (by decide)
  have e3 : selR 5 K G 24 = G 24 := selR_out (by decide)
  have e4 : selR 5 K G 32 = G 32 := selR_out (by decide)
  have e5 : selR 5 K G 40 = G 40 := selR_out (by decide)
  have e6 : selR 5 K G 48 = G 48 := selR_out (by decide)
  have e7 : ∀ i : Nat, selR 5 K G (8 * i + 1) = G (8 * i + 1) := fun i => selR_out (by omega)
  have e8 : ∀ i : Nat, selR 5 K G (8 * i + 2) = G (8 * i + 2) := fun i => selR_out (by omega)
  have e9 : ∀ i : Nat, selR 5 K G (8 * i + 3) = G (8 * i + 3) := fun i => selR_out (by omega)
  have e10 : ∀ i : Nat, selR 5 K G (8 * i + 4) = G (8 * i + 4) := fun i => selR_out (by omega)
  have e11 : ∀ i : Nat, selR 5 K G (8 * i + 5) = K (8 * i + 5) := fun i => selR_in (by omega)
  have e12 : ∀ i : Nat, selR 5 K G (8 * i + 6) = G (8 * i + 6) := fun i => selR_out (by omega)
  have e13 : ∀ i : Nat, selR 5 K G (8 * i + 7) = G (8 * i + 7) := fun i => selR_out (by omega)
  simp only [gW, e0, e1, e2, e3, e4, e5, e6, e7, e8, e9, e10, e11, e12, e13, List.set]
theorem gW_sel6 (cI : ClassId) (g : Nat → Nat) (K G : Nat → Nat) : (gW cI g G).set 6 (g 6, .inl (cI, 6, .inl (fun i => nI (K (8 * i + 6))))) = gW cI g (selR 6 K G) := by
  have e0 : selR 6 K G 0 = G 0 := selR_out (by decide)
  have e1 : selR 6 K G 8 = G 8 := selR_out (by decide)
  have e2 : selR 6 K G 16 = G 16 := selR_out (by decide)
  have e3 : selR 6 K G 24 = G 24 := selR_out (by decide)
  have e4 : selR 6 K G 32 = G 32 := selR_out (by decide)
  have e5 : selR 6 K G 40 = G 40 := selR_out (by decide)
  have e6 : selR 6 K G 48 = G 48 := selR_out (by decide)
  have e7 : ∀ i : Nat, selR 6 K G (8 * i + 1) = G (8 * i + 1) := fun i => selR_out (by omega)
  have e8 : ∀ i : Nat, selR 6 K G (8 * i + 2) = G (8 * i + 2) := fun i => selR_out (by omega)
  have e9 : ∀ i : Nat, selR 6 K G (8 * i + 3) = G (8 * i + 3) := fun i => selR_out (by omega)
  have e10 : ∀ i : Nat, selR 6 K G (8 * i + 4) = G (8 * i + 4) := fun i => selR_out (by omega)
  have e11 : ∀ i : Nat, selR 6 K G (8 * i + 5) = G (8 * i + 5) := fun i => selR_out (by omega)
  have e12 : ∀ i : Nat, selR 6 K G (8 * i + 6) = K (8 * i + 6) := fun i => selR_in (by omega)
  have e13 : ∀ i : Nat, selR 6 K G (8 * i + 7) = G (8 * i + 7) := fun i => selR_out (by omega)
  simp only [gW, e0, e1, e2, e3, e4, e5, e6, e7, e8, e9, e10, e11, e12, e13, List.set]
theorem gW_sel7 (cI : ClassId) (g : Nat → Nat) (K G : Nat → Nat) : (gW cI g G).set 7 (g 7, .inl (cI, 6, .inl (fun i => nI (K (8 * i + 7))))) = gW cI g (selR 7 K G) := by
  have e0 : selR 7 K G 0 = G 0 := selR_out (by decide)
  have e1 : selR 7 K G 8 = G 8 := selR_out (by decide)
  have e2 : selR 7 K G 16 = G 16 := selR_out (by decide)
  have e3 : selR 7 K G 24 = G 24 := selR_out (by decide)
  have e4 : selR 7 K G 32 = G 32 := selR_out (by decide)
  have e5 : selR 7 K G 40 = G 40 := selR_out (by decide)
  have e6 : selR 7 K G 48 = G 48 := selR_out (by decide)
  have e7 : ∀ i : Nat, selR 7 K G (8 * i + 1) = G (8 * i + 1) := fun i => selR_out (by omega)
  have e8 : ∀ i : Nat, selR 7 K G (8 * i + 2) = G (8 * i + 2) := fun i => selR_out (by omega)
  have e9 : ∀ i : Nat, selR 7 K G (8 * i + 3) = G (8 * i + 3) := fun i => selR_out (by omega)
  have e10 : ∀ i : Nat, selR 7 K G (8 * i + 4) = G (8 * i + 4) := fun i => selR_out (by omega)
  have e11 : ∀ i : Nat, selR 7 K G (8 * i + 5) = G (8 * i + 5) := fun i => selR_out (by omega)
  have e12 : ∀ i : Nat, selR 7 K G (8 * i + 6) = G (8 * i + 6) := fun i => selR_out (by omega)
  have e13 : ∀ i : Nat, selR 7 K G (8 * i + 7) = K (8 * i + 7) := fun i => selR_in (by omega)
  simp only [gW, e0, e1, e2, e3, e4, e5, e6, e7, e8, e9, e10, e11, e12, e13, List.set]
theorem gW_ext (cI : ClassId) (g : Nat → Nat) (R K : Nat → Nat) (s0 : R 0 = K 0) (s8 : R 8 = K 8) (s16 : R 16 = K 16) (s24 : R 24 = K 24) (s32 : R 32 = K 32) (s40 : R 40 = K 40) (s48 : R 48 = K 48) (r1 : ∀ i : Nat, R (8 * i + 1) = K (8 * i + 1)) (r2 : ∀ i : Nat, R (8 * i + 2) = K (8 * i + 2)) (r3 : ∀ i : Nat, R (8 * i + 3) = K (8 * i + 3)) (r4 : ∀ i : Nat, R (8 * i + 4) = K (8 * i + 4)) (r5 : ∀ i : Nat, R (8 * i + 5) = K (8 * i + 5)) (r6 : ∀ i : Nat, R (8 * i + 6) = K (8 * i + 6)) (r7 : ∀ i : Nat, R (8 * i + 7) = K (8 * i + 7)) : gW cI g R = gW cI g K := by
  simp only [gW, s0, s8, s16, s24, s32, s40, s48, r1, r2, r3, r4, r5, r6, r7]
abbrev rmX0_become : Room := { frames := 1, cells := 0, slots := 0, locals := 48 }
set_option maxRecDepth 100000 in
set_option maxHeartbeats 4000000 in
/-- become: all numbers of the other -/
theorem M_X0_become (l : Launch) (D : va_G) (cI cJ : ClassId) (g o G K : Nat → Nat) : CE E0 l D vwCl [(cI, .int), (cJ, .long)] yX0_become wsX0_become rmX0_become [.ref (g 0), .ref (o 0)] [gW cI g G, gW cI o K] (S := Unit) none (fun _ => True) (fun _ : Unit => [gW cI g K, gW cI o K]) 0 0 := by
  refine CE.ofW (cc := cX0_become) (maxL := 2) (ret := none) (lv := [(0, .ref (g 0)), (1, .ref (o 0))]) (by decide) rfl (Nat.le_of_ble_eq_true rfl) rfl ?_
  intro p e s m args below meth c ls A Q hQ hx hb hml hr hlocks hnm hown hts hK hA hE hW hl
  have hown : s.vm.findClass RX0 = some m.cls := hown
  refine lv_aload_n hx hb dX0_become_0 rfl (lv_at hl 0 rfl) ?_
  refine lv_aload_n hx hb dX0_become_1 rfl (lv_at hl 1 rfl) ?_
  refine sg_get (ci := 0) (C := RX0) (T := TX0) (N := 14) (v := .int (nI (K 0))) hx hb hts (fun _ h => List.mem_cons_of_mem _ (List.mem_append_right _ h)) hown hK hW 1 0 rfl rfl rfl 0 (by decide) (hts _ (List.mem_of_getElem? (i := 1) rfl)) rfl dX0_become_2 ?_
  refine sg_put (ci := 0) (C := RX0) (T := TX0) (N := 14) hx hb hts (fun _ h => List.mem_cons_of_mem _ (List.mem_append_right _ h)) tyX0 tyX0_ok nmX0 hown hK hW 0 0 rfl rfl rfl 0 (by decide) (hts _ (List.mem_of_getElem? (i := 1) rfl)) rfl rfl rfl (Nat.le_of_ble_eq_true rfl) (gW_s0 cI g G (K 0)) (ss' := [gW cI g (up G 0 (K 0)), gW cI o K]) rfl dX0_become_5 (fun H locs hW => ?_)
  refine lv_aload_n hx hb dX0_become_8 rfl (lv_at hl 0 rfl) ?_
  refine lv_aload_n hx hb dX0_become_9 rfl (lv_at hl 1 rfl) ?_
  refine sg_get (ci := 0) (C := RX0) (T := TX0) (N := 14) (v := .int (nI (K 8))) hx hb hts (fun _ h => List.mem_cons_of_mem _ (List.mem_append_right _ h)) hown hK hW 1 0 rfl rfl rfl 1 (by decide) (hts _ (List.mem_of_getElem? (i := 2) rfl)) rfl dX0_become_10 ?_
  refine sg_put (ci := 0) (C := RX0) (T := TX0) (N := 14) hx hb hts (fun _ h => List.mem_cons_of_mem _ (List.mem_append_right _ h)) tyX0 tyX0_ok nmX0 hown hK hW 0 0 rfl rfl rfl 1 (by decide) (hts _ (List.mem_of_getElem? (i := 2) rfl)) rfl rfl rfl (Nat.le_of_ble_eq_true rfl) (gW_s8 cI g (up G 0 (K 0)) (K 8)) (ss' := [gW cI g (up (up G 0 (K 0)) 8 (K 8)), gW cI o K]) rfl dX0_become_13 (fun H locs hW => ?_)
  refine lv_aload_n hx hb dX0_become_16 rfl (lv_at hl 0 rfl) ?_
  refine lv_aload_n hx hb dX0_become_17 rfl (lv_at hl 1 rfl) ?_
  refine sg_get (ci := 0) (C := RX0) (T := TX0) (N := 14) (v := .int (nI (K 16))) hx hb hts (fun _ h => List.mem_cons_of_mem _ (List.mem_append_right _ h)) hown hK hW 1 0 rfl rfl rfl 2 (by decide) (hts _ (List.mem_of_getElem? (i := 3) rfl)) rfl dX0_become_18 ?_
  refine sg_put (ci := 0) (C := RX0) (T := TX0) (N := 14) hx hb hts (fun _ h => List.mem_cons_of_mem _ (List.mem_append_right _ h)) tyX0 tyX0_ok nmX0 hown hK hW 0 0 rfl rfl rfl 2 (by decide) (hts _ (List.mem_of_getElem? (i := 3) rfl)) rfl rfl rfl (Nat.le_of_ble_eq_true rfl) (gW_s16 cI g (up (up G 0 (K 0)) 8 (K 8)) (K 16)) (ss' := [gW cI g (up (up (up G 0 (K 0)) 8 (K 8)) 16 (K 16)), gW cI o K]) rfl dX0_become_21 (fun H locs hW => ?_)
  refine lv_aload_n hx hb dX0_become_24 rfl (lv_at hl 0 rfl) ?_
  refine lv_aload_n hx hb dX0_become_25 rfl (lv_at hl 1 rfl) ?_
  refine sg_get (ci := 0) (C := RX0) (T := TX0) (N := 14) (v := .int (nI (K 24))) hx hb hts (fun _ h => List.mem_cons_of_mem _ (List.mem_append_right _ h)) hown hK hW 1 0 rfl rfl rfl 3 (by decide) (hts _ (List.mem_of_getElem? (i := 4) rfl)) rfl dX0_become_26 ?_
  refine sg_put (ci := 0) (C := RX0) (T := TX0) (N := 14) hx hb hts (fun _ h => List.mem_cons_of_mem _ (List.mem_append_right _ h)) tyX0 tyX0_ok nmX0 hown hK hW 0 0 rfl rfl rfl 3 (by decide) (hts _ (List.mem_of_getElem? (i := 4) rfl)) rfl rfl rfl (Nat.le_of_ble_eq_true rfl) (gW_s24 cI g (up (up (up G 0 (K 0)) 8 (K 8)) 16 (K 16)) (K 24)) (ss' := [gW cI g (up (up (up (up G 0 (K 0)) 8 (K 8)) 16 (K 16)) 24 (K 24)), gW cI o K]) rfl dX0_become_29 (fun H locs hW => ?_)
  refine lv_aload_n hx hb dX0_become_32 rfl (lv_at hl 0 rfl) ?_
  refine lv_aload_n hx hb dX0_become_33 rfl (lv_at hl 1 rfl) ?_
  refine sg_get (ci := 0) (C := RX0) (T := TX0) (N := 14) (v := .int (nI (K 32))) hx hb hts (fun _ h => List.mem_cons_of_mem _ (List.mem_append_right _ h)) hown hK hW 1 0 rfl rfl rfl 4 (by decide) (hts _ (List.mem_of_getElem? (i := 5) rfl)) rfl dX0_become_34 ?_
  refine sg_put (ci := 0) (C := RX0) (T := TX0) (N := 14) hx hb hts (fun _ h => List.mem_cons_of_mem _ (List.mem_append_right _ h)) tyX0 tyX0_ok nmX0 hown hK hW 0 0 rfl rfl rfl 4 (by decide) (hts _ (List.mem_of_getElem? (i := 5) rfl)) rfl rfl rfl (Nat.le_of_ble_eq_true rfl) (gW_s32 cI g (up (up (up (up G 0 (K 0)) 8 (K 8)) 16 (K 16)) 24 (K 24)) (K 32)) (ss' := [gW cI g (up (up (up (up (up G 0 (K 0)) 8 (K 8)) 16 (K 16)) 24 (K 24)) 32 (K 32)), gW cI o K]) rfl dX0_become_37 (fun H locs hW => ?_)
  refine lv_aload_n hx hb dX0_become_40 rfl (lv_at hl 0 rfl) ?_
  refine lv_aload_n hx hb dX0_become_41 rfl (lv_at hl 1 rfl) ?_
  refine sg_get (ci := 0) (C := RX0) (T := TX0) (N := 14) (v := .int (nI (K 40))) hx hb hts (fun _ h => List.mem_cons_of_mem _ (List.mem_append_right _ h)) hown hK hW 1 0 rfl rfl rfl 5 (by decide) (hts _ (List.mem_of_getElem? (i := 6) rfl)) rfl dX0_become_42 ?_
  refine sg_put (ci := 0) (C := RX0) (T := TX0) (N := 14) hx hb hts (fun _ h => List.mem_cons_of_mem _ (List.mem_append_right _ h)) tyX0 tyX0_ok nmX0 hown hK hW 0 0 rfl rfl rfl 5 (by decide) (hts _ (List.mem_of_getElem? (i := 6) rfl)) rfl rfl rfl (Nat.le_of_ble_eq_true rfl) (gW_s40 cI g (up (up (up (up (up G 0 (K 0)) 8 (K 8)) 16 (K 16)) 24 (K 24)) 32 (K 32)) (K 40)) (ss' := [gW cI g (up (up (up (up (up (up G 0 (K 0)) 8 (K 8)) 16 (K 16)) 24 (K 24)) 32 (K 32)) 40 (K 40)), gW cI o K]) rfl dX0_become_45 (fun H locs hW => ?_)
  refine lv_aload_n hx hb dX0_become_48 rfl (lv_at hl 1 rfl) ?_
  refine sg_get (ci := 0) (C := RX0) (T := TX0) (N := 14) (v := .ref (o 1)) hx hb hts (fun _ h => List.mem_cons_of_mem _ (List.mem_append_right _ h)) hown hK hW 1 0 rfl rfl rfl 6 (by decide) (hts _ (List.mem_of_getElem? (i := 7) rfl)) rfl dX0_become_49 ?_
  refine lv_iconst (v := nI 0) hx hb dX0_become_52 (by decide +kernel) ?_
  refine lv_aload_n hx hb dX0_become_53 rfl (lv_at hl 0 rfl) ?_
  refine sg_get (ci := 0) (C := RX0) (T := TX0) (N := 14) (v := .ref (g 1)) hx hb hts (fun _ h => List.mem_cons_of_mem _ (List.mem_append_right _ h)) hown hK hW 0 0 rfl rfl rfl 6 (by decide) (hts _ (List.mem_of_getElem? (i := 7) rfl)) rfl dX0_become_54 ?_
  refine lv_iconst (v := nI 0) hx hb dX0_become_57 (by decide +kernel) ?_
  refine lv_bipush (v := nI 8) hx hb dX0_become_58 (by decide +kernel) ?_
  refine sg_cpyi (g' := fun i => nI (K (8 * i + 1))) hx hb (hml.trans hl.1.symm) hown (hts _ (List.mem_of_getElem? (i := 8) rfl)) (hts _ (List.mem_of_getElem? (i := 9) rfl)) (hts _ (List.mem_of_getElem? (i := 10) rfl)) (hts _ (List.mem_of_getElem? (i := 11) rfl)) hK hW 1 1 0 1 0 rfl rfl rfl rfl rfl (by decide) (by decide) (by decide) (by decide) (Nat.le_of_ble_eq_true rfl) (Nat.le_of_ble_eq_true rfl) (fun q hq => (pk_cpy_in (Nat.zero_le _) (by omega)).trans (by rw [Nat.zero_add, Nat.sub_zero])) (gW_sel1 cI g K (up (up (up (up (up (up G 0 (K 0)) 8 (K 8)) 16 (K 16)) 24 (K 24)) 32 (K 32)) 40 (K 40))) (ss' := [gW cI g (selR 1 K (up (up (up (up (up (up G 0 (K 0)) 8 (K 8)) 16 (K 16)) 24 (K 24)) 32 (K 32)) 40 (K 40))), gW cI o K]) rfl dX0_become_60 (fun H locs hW => ?_)
  refine lv_aload_n hx hb dX0_become_63 rfl (lv_at hl 1 rfl) ?_
  refine sg_get (ci := 0) (C := RX0) (T := TX0) (N := 14) (v := .ref (o 2)) hx hb hts (fun _ h => List.mem_cons_of_mem _ (List.mem_append_right _ h)) hown hK hW 1 0 rfl rfl rfl 7 (by decide) (hts _ (List.mem_of_getElem? (i := 12) rfl)) rfl dX0_become_64 ?_
  refine lv_iconst (v := nI 0) hx hb dX0_become_67 (by decide +kernel) ?_
  refine lv_aload_n hx hb dX0_become_68 rfl (lv_at hl 0 rfl) ?_
  refine sg_get (ci := 0) (C := RX0) (T := TX0) (N := 14) (v := .ref (g 2)) hx hb hts (fun _ h => List.mem_cons_of_mem _ (List.mem_append_right _ h)) hown hK hW 0 0 rfl rfl rfl 7 (by decide) (hts _ (List.mem_of_getElem? (i := 12) rfl)) rfl dX0_become_69 ?_
  refine lv_iconst (v := nI 0) hx hb dX0_become_72 (by decide +kernel) ?_
  refine lv_bipush (v := nI 8) hx hb dX0_become_73 (by decide +kernel) ?_
  refine sg_cpyi (g' := fun i => nI (K (8 * i + 2))) hx hb (hml.trans hl.1.symm) hown (hts _ (List.mem_of_getElem? (i := 8) rfl)) (hts _ (List.mem_of_getElem? (i := 9) rfl)) (hts _ (List.mem_of_getElem? (i := 10) rfl)) (hts _ (List.mem_of_getElem? (i := 11) rfl)) hK hW 1 2 0 2 0 rfl rfl rfl rfl rfl (by decide) (by decide) (by decide) (by decide) (Nat.le_of_ble_eq_true rfl) (Nat.le_of_ble_eq_true rfl) (fun q hq => (pk_cpy_in (Nat.zero_le _) (by omega)).trans (by rw [Nat.zero_add, Nat.sub_zero])) (gW_sel2 cI g K (selR 1 K (up (up (up (up (up (up G 0 (K 0)) 8 (K 8)) 16 (K 16)) 24 (K 24)) 32 (K 32)) 40 (K 40)))) (ss' := [gW cI g (selR 2 K (selR 1 K (up (up (up (up (up (up G 0 (K 0)) 8 (K 8)) 16 (K 16)) 24 (K 24)) 32 (K 32)) 40 (K 40)))), gW cI o K]) rfl dX0_become_75 (fun H locs hW => ?_)
  refine lv_aload_n hx hb dX0_become_78 rfl (lv_at hl 1 rfl) ?_
  refine sg_get (ci := 0) (C := RX0) (T := TX0) (N := 14) (v := .ref (o 3)) hx hb hts (fun _ h => List.mem_cons_of_mem _ (List.mem_append_right _ h)) hown hK hW 1 0 rfl rfl rfl 8 (by decide) (hts _ (List.mem_of_getElem? (i := 13) rfl)) rfl dX0_become_79 ?_
  refine lv_iconst (v := nI 0) hx hb dX0_become_82 (by decide +kernel) ?_
  refine lv_aload_n hx hb dX0_become_83 rfl (lv_at hl 0 rfl) ?_
  refine sg_get (ci := 0) (C := RX0) (T := TX0) (N := 14) (v := .ref (g 3)) hx hb hts (fun _ h => List.mem_cons_of_mem _ (List.mem_append_right _ h)) hown hK hW 0 0 rfl rfl rfl 8 (by decide) (hts _ (List.mem_of_getElem? (i := 13) rfl)) rfl dX0_become_84 ?_
  refine lv_iconst (v := nI 0) hx hb dX0_become_87 (by decide +kernel) ?_
  refine lv_bipush (v := nI 8) hx hb dX0_become_88 (by decide +kernel) ?_
  refine sg_cpyi (g' := fun i => nI (K (8 * i + 3))) hx hb (hml.trans hl.1.symm) hown (hts _ (List.mem_of_getElem? (i := 8) rfl)) (hts _ (List.mem_of_getElem? (i := 9) rfl)) (hts _ (List.mem_of_getElem? (i := 10) rfl)) (hts _ (List.mem_of_getElem? (i := 11) rfl)) hK hW 1 3 0 3 0 rfl rfl rfl rfl rfl (by decide) (by decide) (by decide) (by decide) (Nat.le_of_ble_eq_true rfl) (Nat.le_of_ble_eq_true rfl) (fun q hq => (pk_cpy_in (Nat.zero_le _) (by omega)).trans (by rw [Nat.zero_add, Nat.sub_zero])) (gW_sel3 cI g K (selR 2 K (selR 1 K (up (up (up (up (up (up G 0 (K 0)) 8 (K 8)) 16 (K 16)) 24 (K 24)) 32 (K 32)) 40 (K 40))))) (ss' := [gW cI g (selR 3 K (selR 2 K (selR 1 K (up (up (up (up (up (up G 0 (K 0)) 8 (K 8)) 16 (K 16)) 24 (K 24)) 32 (K 32)) 40 (K 40))))), gW cI o K]) rfl dX0_become_90 (fun H locs hW => ?_)
  refine lv_aload_n hx hb dX0_become_93 rfl (lv_at hl 1 rfl) ?_
  refine sg_get (ci := 0) (C := RX0) (T := TX0) (N := 14) (v := .ref (o 4)) hx hb hts (fun _ h => List.mem_cons_of_mem _ (List.mem_append_right _ h)) hown hK hW 1 0 rfl rfl rfl 9 (by decide) (hts _ (List.mem_of_getElem? (i := 14) rfl)) rfl dX0_become_94 ?_
  refine lv_iconst (v := nI 0) hx hb dX0_become_97 (by decide +kernel) ?_
  refine lv_aload_n hx hb dX0_become_98 rfl (lv_at hl 0 rfl) ?_
  refine sg_get (ci := 0) (C := RX0) (T := TX0) (N := 14) (v := .ref (g 4)) hx hb hts (fun _ h => List.mem_cons_of_mem _ (List.mem_append_right _ h)) hown hK hW 0 0 rfl rfl rfl 9 (by decide) (hts _ (List.mem_of_getElem? (i := 14) rfl)) rfl dX0_become_99 ?_
  refine lv_iconst (v := nI 0) hx hb dX0_become_102 (by decide +kernel) ?_
  refine lv_bipush (v := nI 8) hx hb dX0_become_103 (by decide +kernel) ?_
  refine sg_cpyi (g' := fun i => nI (K (8 * i + 4))) hx hb (hml.trans hl.1.symm) hown (hts _ (List.mem_of_getElem? (i := 8) rfl)) (hts _ (List.mem_of_getElem? (i := 9) rfl)) (hts _ (List.mem_of_getElem? (i := 10) rfl)) (hts _ (List.mem_of_getElem? (i := 11) rfl)) hK hW 1 4 0 4 0 rfl rfl rfl rfl rfl (by decide) (by decide) (by decide) (by decide) (Nat.le_of_ble_eq_true rfl) (Nat.le_of_ble_eq_true rfl) (fun q hq => (pk_cpy_in (Nat.zero_le _) (by omega)).trans (by rw [Nat.zero_add, Nat.sub_zero])) (gW_sel4 cI g K (selR 3 K (selR 2 K (selR 1 K (up (up (up (up (up (up G 0 (K 0)) 8 (K 8)) 16 (K 16)) 24 (K 24)) 32 (K 32)) 40 (K 40)))))) (ss' := [gW cI g (selR 4 K (selR 3 K (selR 2 K (selR 1 K (up (up (up (up (up (up G 0 (K 0)) 8 (K 8)) 16 (K 16)) 24 (K 24)) 32 (K 32)) 40 (K 40)))))), gW cI o K]) rfl dX0_become_105 (fun H locs hW => ?_)
  refine lv_aload_n hx hb dX0_become_108 rfl (lv_at hl 0 rfl) ?_
  refine lv_aload_n hx hb dX0_become_109 rfl (lv_at hl 1 rfl) ?_
  refine sg_get (ci := 0) (C := RX0) (T := TX0) (N := 14) (v := .int (nI (K 48))) hx hb hts (fun _ h => List.mem_cons_of_mem _ (List.mem_append_right _ h)) hown hK hW 1 0 rfl rfl rfl 10 (by decide) (hts _ (List.mem_of_getElem? (i := 15) rfl)) rfl dX0_become_110 ?_
  refine sg_put (ci := 0) (C := RX0) (T := TX0) (N := 14) hx hb hts (fun _ h => List.mem_cons_of_mem _ (List.mem_append_right _ h)) tyX0 tyX0_ok nmX0 hown hK hW 0 0 rfl rfl rfl 10 (by decide) (hts _ (List.mem_of_getElem? (i := 15) rfl)) rfl rfl rfl (Nat.le_of_ble_eq_true rfl) (gW_s48 cI g (selR 4 K (selR 3 K (selR 2 K (selR 1 K (up (up (up (up (up (up G 0 (K 0)) 8 (K 8)) 16 (K 16)) 24 (K 24)) 32 (K 32)) 40 (K 40)))))) (K 48)) (ss' := [gW cI g (up (selR 4 K (selR 3 K (selR 2 K (selR 1 K (up (up (up (up (up (up G 0 (K 0)) 8 (K 8)) 16 (K 16)) 24 (K 24)) 32 (K 32)) 40 (K 40)))))) 48 (K 48)), gW cI o K]) rfl dX0_become_113 (fun H locs hW => ?_)
  refine lv_aload_n hx hb dX0_become_116 rfl (lv_at hl 1 rfl) ?_
  refine sg_get (ci := 0) (C := RX0) (T := TX0) (N := 14) (v := .ref (o 5)) hx hb hts (fun _ h => List.mem_cons_of_mem _ (List.mem_append_right _ h)) hown hK hW 1 0 rfl rfl rfl 11 (by decide) (hts _ (List.mem_of_getElem? (i := 16) rfl)) rfl dX0_become_117 ?_
  refine lv_iconst (v := nI 0) hx hb dX0_become_120 (by decide +kernel) ?_
  refine lv_aload_n hx hb dX0_become_121 rfl (lv_at hl 0 rfl) ?_
  refine sg_get (ci := 0) (C := RX0) (T := TX0) (N := 14) (v := .ref (g 5)) hx hb hts (fun _ h => List.mem_cons_of_mem _ (List.mem_append_right _ h)) hown hK hW 0 0 rfl rfl rfl 11 (by decide) (hts _ (List.mem_of_getElem? (i := 16) rfl)) rfl dX0_become_122 ?_
  refine lv_iconst (v := nI 0) hx hb dX0_become_125 (by decide +kernel) ?_
  refine lv_bipush (v := nI 6) hx hb dX0_become_126 (by decide +kernel) ?_
  refine sg_cpyi (g' := fun i => nI (K (8 * i + 5))) hx hb (hml.trans hl.1.symm) hown (hts _ (List.mem_of_getElem? (i := 8) rfl)) (hts _ (List.mem_of_getElem? (i := 9) rfl)) (hts _ (List.mem_of_getElem? (i := 10) rfl)) (hts _ (List.mem_of_getElem? (i := 11) rfl)) hK hW 1 5 0 5 0 rfl rfl rfl rfl rfl (by decide) (by decide) (by decide) (by decide) (Nat.le_of_ble_eq_true rfl) (Nat.le_of_ble_eq_true rfl) (fun q hq => (pk_cpy_in (Nat.zero_le _) (by omega)).trans (by rw [Nat.zero_add, Nat.sub_zero])) (gW_sel5 cI g K (up (selR 4 K (selR 3 K (selR 2 K (selR 1 K (up (up (up (up (up (up G 0 (K 0)) 8 (K 8)) 16 (K 16)) 24 (K 24)) 32 (K 32)) 40 (K 40)))))) 48 (K 48))) (ss' := [gW cI g (selR 5 K (up (selR 4 K (selR 3 K (selR 2 K (selR 1 K (up (up (up (up (up (up G 0 (K 0)) 8 (K 8)) 16 (K 16)) 24 (K 24)) 32 (K 32)) 40 (K 40)))))) 48 (K 48))), gW cI o K]) rfl dX0_become_128 (fun H locs hW => ?_)
  refine lv_aload_n hx hb dX0_become_131 rfl (lv_at hl 1 rfl) ?_
  refine sg_get (ci := 0) (C := RX0) (T := TX0) (N := 14) (v := .ref (o 6)) hx hb hts (fun _ h => List.mem_cons_of_mem _ (List.mem_append_right _ h)) hown hK hW 1 0 rfl rfl rfl 12 (by decide) (hts _ (List.mem_of_getElem? (i := 17) rfl)) rfl dX0_become_132 ?_
  refine lv_iconst (v := nI 0) hx hb dX0_become_135 (by decide +kernel) ?_
  refine lv_aload_n hx hb dX0_become_136 rfl (lv_at hl 0 rfl) ?_
  refine sg_get (ci := 0) (C := RX0) (T := TX0) (N := 14) (v := .ref (g 6)) hx hb hts (fun _ h => List.mem_cons_of_mem _ (List.mem_append_right _ h)) hown hK hW 0 0 rfl rfl rfl 12 (by decide) (hts _ (List.mem_of_getElem? (i := 17) rfl)) rfl dX0_become_137 ?_
  refine lv_iconst (v := nI 0) hx hb dX0_become_140 (by decide +kernel) ?_
  refine lv_bipush (v := nI 6) hx hb dX0_become_141 (by decide +kernel) ?_
  refine sg_cpyi (g' := fun i => nI (K (8 * i + 6))) hx hb (hml.trans hl.1.symm) hown (hts _ (List.mem_of_getElem? (i := 8) rfl)) (hts _ (List.mem_of_getElem? (i := 9) rfl)) (hts _ (List.mem_of_getElem? (i := 10) rfl)) (hts _ (List.mem_of_getElem? (i := 11) rfl)) hK hW 1 6 0 6 0 rfl rfl rfl rfl rfl (by decide) (by decide) (by decide) (by decide) (Nat.le_of_ble_eq_true rfl) (Nat.le_of_ble_eq_true rfl) (fun q hq => (pk_cpy_in (Nat.zero_le _) (by omega)).trans (by rw [Nat.zero_add, Nat.sub_zero])) (gW_sel6 cI g K (selR 5 K (up (selR 4 K (selR 3 K (selR 2 K (selR 1 K (up (up (up (up (up (up G 0 (K 0)) 8 (K 8)) 16 (K 16)) 24 (K 24)) 32 (K 32)) 40 (K 40)))))) 48 (K 48)))) (ss' := [gW cI g (selR 6 K (selR 5 K (up (selR 4 K (selR 3 K (selR 2 K (selR 1 K (up (up (up (up (up (up G 0 (K 0)) 8 (K 8)) 16 (K 16)) 24 (K 24)) 32 (K 32)) 40 (K 40)))))) 48 (K 48)))), gW cI o K]) rfl dX0_become_143 (fun H locs hW => ?_)
  refine lv_aload_n hx hb dX0_become_146 rfl (lv_at hl 1 rfl) ?_
  refine sg_get (ci := 0) (C := RX0) (T := TX0) (N := 14) (v := .ref (o 7)) hx hb hts (fun _ h => List.mem_cons_of_mem _ (List.mem_append_right _ h)) hown hK hW 1 0 rfl rfl rfl 13 (by decide) (hts _ (List.mem_of_getElem? (i := 18) rfl)) rfl dX0_become_147 ?_
  refine lv_iconst (v := nI 0) hx hb dX0_become_150 (by decide +kernel) ?_
  refine lv_aload_n hx hb dX0_become_151 rfl (lv_at hl 0 rfl) ?_
  refine sg_get (ci := 0) (C := RX0) (T := TX0) (N := 14) (v := .ref (g 7)) hx hb hts (fun _ h => List.mem_cons_of_mem _ (List.mem_append_right _ h)) hown hK hW 0 0 rfl rfl rfl 13 (by decide) (hts _ (List.mem_of_getElem? (i := 18) rfl)) rfl dX0_become_152 ?_
  refine lv_iconst (v := nI 0) hx hb dX0_become_155 (by decide +kernel) ?_
  refine lv_bipush (v := nI 6) hx hb dX0_become_156 (by decide +kernel) ?_
  refine sg_cpyi (g' := fun i => nI (K (8 * i + 7))) hx hb (hml.trans hl.1.symm) hown (hts _ (List.mem_of_getElem? (i := 8) rfl)) (hts _ (List.mem_of_getElem? (i := 9) rfl)) (hts _ (List.mem_of_getElem? (i := 10) rfl)) (hts _ (List.mem_of_getElem? (i := 11) rfl)) hK hW 1 7 0 7 0 rfl rfl rfl rfl rfl (by decide) (by decide) (by decide) (by decide) (Nat.le_of_ble_eq_true rfl) (Nat.le_of_ble_eq_true rfl) (fun q hq => (pk_cpy_in (Nat.zero_le _) (by omega)).trans (by rw [Nat.zero_add, Nat.sub_zero])) (gW_sel7 cI g K (selR 6 K (selR 5 K (up (selR 4 K (selR 3 K (selR 2 K (selR 1 K (up (up (up (up (up (up G 0 (K 0)) 8 (K 8)) 16 (K 16)) 24 (K 24)) 32 (K 32)) 40 (K 40)))))) 48 (K 48))))) (ss' := [gW cI g (selR 7 K (selR 6 K (selR 5 K (up (selR 4 K (selR 3 K (selR 2 K (selR 1 K (up (up (up (up (up (up G 0 (K 0)) 8 (K 8)) 16 (K 16)) 24 (K 24)) 32 (K 32)) 40 (K 40)))))) 48 (K 48))))), gW cI o K]) rfl dX0_become_158 (fun H locs hW => ?_)
  exact rt_v hQ hx hb hr hlocks hW dX0_become_161 () rfl trivial (congrArg (fun z => [z, gW cI o K]) (gW_ext cI g _ K (by simp [selR, up]) (by simp [selR, up]) (by simp [selR, up]) (by simp [selR, up]) (by simp [selR, up]) (by simp [selR, up]) (by simp [selR, up]) (fun i => by rw [selR_out (by omega), selR_out (by omega), selR_out (by omega), up_ne (by omega), selR_out (by omega), selR_out (by omega), selR_out (by omega), selR_in (by omega)]) (fun i => by rw [selR_out (by omega), selR_out (by omega), selR_out (by omega), up_ne (by omega), selR_out (by omega), selR_out (by omega), selR_in (by omega)]) (fun i => by rw [selR_out (by omega), selR_out (by omega), selR_out (by omega), up_ne (by omega), selR_out (by omega), selR_in (by omega)]) (fun i => by rw [selR_out (by omega), selR_out (by omega), selR_out (by omega), up_ne (by omega), selR_in (by omega)]) (fun i => by rw [selR_out (by omega), selR_out (by omega), selR_in (by omega)]) (fun i => by rw [selR_out (by omega), selR_in (by omega)]) (fun i => by rw [selR_in (by omega)])))
set_option maxRecDepth 100000 in
set_option maxHeartbeats 4000000 in
/-- become: all numbers of the other -/
theorem M_X0_become2 (l : Launch) (D : va_G) (cI cJ : ClassId) (g o G K : Nat → Nat) : CE E0 l D vwCl [(cI, .int), (cJ, .long)] yX0_become wsX0_become rmX0_become [.ref (g 0), .ref (o 0)] [gW cI o K, gW cI g G] (S := Unit) none (fun _ => True) (fun _ : Unit => [gW cI o K, gW cI g K]) 0 0 := by
  refine CE.ofW (cc := cX0_become) (maxL := 2) (ret := none) (lv := [(0, .ref (g 0)), (1, .ref (o 0))]) (by decide) rfl (Nat.le_of_ble_eq_true rfl) rfl ?_
  intro p e s m args below meth c ls A Q hQ hx hb hml hr hlocks hnm hown hts hK hA hE hW hl
  have hown : s.vm.findClass RX0 = some m.cls := hown
  refine lv_aload_n hx hb dX0_become_0 rfl (lv_at hl 0 rfl) ?_
  refine lv_aload_n hx hb dX0_become_1 rfl (lv_at hl 1 rfl) ?_
  refine sg_get (ci := 0) (C := RX0) (T := TX0) (N := 14) (v := .int (nI (K 0))) hx hb hts (fun _ h => List.mem_cons_of_mem _ (List.mem_append_right _ h)) hown hK hW 0 0 rfl rfl rfl 0 (by decide) (hts _ (List.mem_of_getElem? (i := 1) rfl)) rfl dX0_become_2 ?_
  refine sg_put (ci := 0) (C := RX0) (T := TX0) (N := 14) hx hb hts (fun _ h => List.mem_cons_of_mem _ (List.mem_append_right _ h)) tyX0 tyX0_ok nmX0 hown hK hW 1 0 rfl rfl rfl 0 (by decide) (hts _ (List.mem_of_getElem? (i := 1) rfl)) rfl rfl rfl (Nat.le_of_ble_eq_true rfl) (gW_s0 cI g G (K 0)) (ss' := [gW cI o K, gW cI g (up G 0 (K 0))]) rfl dX0_become_5 (fun H locs hW => ?_)
  refine lv_aload_n hx hb dX0_become_8 rfl (lv_at hl 0 rfl) ?_
  refine lv_aload_n hx hb dX0_become_9 rfl (lv_at hl 1 rfl) ?_
  refine sg_get (ci := 0) (C := RX0) (T := TX0) (N := 14) (v := .int (nI (K 8))) hx hb hts (fun _ h => List.mem_cons_of_mem _ (List.mem_append_right _ h)) hown hK hW 0 0 rfl rfl rfl 1 (by decide) (hts _ (List.mem_of_getElem? (i := 2) rfl)) rfl dX0_become_10 ?_
  refine sg_put (ci := 0) (C := RX0) (T := TX0) (N := 14) hx hb hts (fun _ h => List.mem_cons_of_mem _ (List.mem_append_right _ h)) tyX0 tyX0_ok nmX0 hown hK hW 1 0 rfl rfl rfl 1 (by decide) (hts _ (List.mem_of_getElem? (i := 2) rfl)) rfl rfl rfl (Nat.le_of_ble_eq_true rfl) (gW_s8 cI g (up G 0 (K 0)) (K 8)) (ss' := [gW cI o K, gW cI g (up (up G 0 (K 0)) 8 (K 8))]) rfl dX0_become_13 (fun H locs hW => ?_)
  refine lv_aload_n hx hb dX0_become_16 rfl (lv_at hl 0 rfl) ?_
  refine lv_aload_n hx hb dX0_become_17 rfl (lv_at hl 1 rfl) ?_
  refine sg_get (ci := 0) (C := RX0) (T := TX0) (N := 14) (v := .int (nI (K 16))) hx hb hts (fun _ h => List.mem_cons_of_mem _ (List.mem_append_right _ h)) hown hK hW 0 0 rfl rfl rfl 2 (by decide) (hts _ (List.mem_of_getElem? (i := 3) rfl)) rfl dX0_become_18 ?_
  refine sg_put (ci := 0) (C := RX0) (T := TX0) (N := 14) hx hb hts (fun _ h => List.mem_cons_of_mem _ (List.mem_append_right _ h)) tyX0 tyX0_ok nmX0 hown hK hW 1 0 rfl rfl rfl 2 (by decide) (hts _ (List.mem_of_getElem? (i := 3) rfl)) rfl rfl rfl (Nat.le_of_ble_eq_true rfl) (gW_s16 cI g (up (up G 0 (K 0)) 8 (K 8)) (K 16)) (ss' := [gW cI o K, gW cI g (up (up (up G 0 (K 0)) 8 (K 8)) 16 (K 16))]) rfl dX0_become_21 (fun H locs hW => ?_)
  refine lv_aload_n hx hb dX0_become_24 rfl (lv_at hl 0 rfl) ?_
  refine lv_aload_n hx hb dX0_become_25 rfl (lv_at hl 1 rfl) ?_
  refine sg_get (ci := 0) (C := RX0) (T := TX0) (N := 14) (v := .int (nI (K 24))) hx hb hts (fun _ h => List.mem_cons_of_mem _ (List.mem_append_right _ h)) hown hK hW 0 0 rfl rfl rfl 3 (by decide) (hts _ (List.mem_of_getElem? (i := 4) rfl)) rfl dX0_become_26 ?_
  refine sg_put (ci := 0) (C := RX0) (T := TX0) (N := 14) hx hb hts (fun _ h => List.mem_cons_of_mem _ (List.mem_append_right _ h)) tyX0 tyX0_ok nmX0 hown hK hW 1 0 rfl rfl rfl 3 (by decide) (hts _ (List.mem_of_getElem? (i := 4) rfl)) rfl rfl rfl (Nat.le_of_ble_eq_true rfl) (gW_s24 cI g (up (up (up G 0 (K 0)) 8 (K 8)) 16 (K 16)) (K 24)) (ss' := [gW cI o K, gW cI g (up (up (up (up G 0 (K 0)) 8 (K 8)) 16 (K 16)) 24 (K 24))]) rfl dX0_become_29 (fun H locs hW => ?_)
  refine lv_aload_n hx hb dX0_become_32 rfl (lv_at hl 0 rfl) ?_
  refine lv_aload_n hx hb dX0_become_33 rfl (lv_at hl 1 rfl) ?_
  refine sg_get (ci := 0) (C := RX0) (T := TX0) (N := 14) (v := .int (nI (K 32))) hx hb hts (fun _ h => List.mem_cons_of_mem _ (List.mem_append_right _ h)) hown hK hW 0 0 rfl rfl rfl 4 (by decide) (hts _ (List.mem_of_getElem? (i := 5) rfl)) rfl dX0_become_34 ?_
  refine sg_put (ci := 0) (C := RX0) (T := TX0) (N := 14) hx hb hts (fun _ h => List.mem_cons_of_mem _ (List.mem_append_right _ h)) tyX0 tyX0_ok nmX0 hown hK hW 1 0 rfl rfl rfl 4 (by decide) (hts _ (List.mem_of_getElem? (i := 5) rfl)) rfl rfl rfl (Nat.le_of_ble_eq_true rfl) (gW_s32 cI g (up (up (up (up G 0 (K 0)) 8 (K 8)) 16 (K 16)) 24 (K 24)) (K 32)) (ss' := [gW cI o K, gW cI g (up (up (up (up (up G 0 (K 0)) 8 (K 8)) 16 (K 16)) 24 (K 24)) 32 (K 32))]) rfl dX0_become_37 (fun H locs hW => ?_)
  refine lv_aload_n hx hb dX0_become_40 rfl (lv_at hl 0 rfl) ?_
  refine lv_aload_n hx hb dX0_become_41 rfl (lv_at hl 1 rfl) ?_
  refine sg_get (ci := 0) (C := RX0) (T := TX0) (N := 14) (v := .int (nI (K 40))) hx hb hts (fun _ h => List.mem_cons_of_mem _ (List.mem_append_right _ h)) hown hK hW 0 0 rfl rfl rfl 5 (by decide) (hts _ (List.mem_of_getElem? (i := 6) rfl)) rfl dX0_become_42 ?_
  refine sg_put (ci := 0) (C := RX0) (T := TX0) (N := 14) hx hb hts (fun _ h => List.mem_cons_of_mem _ (List.mem_append_right _ h)) tyX0 tyX0_ok nmX0 hown hK hW 1 0 rfl rfl rfl 5 (by decide) (hts _ (List.mem_of_getElem? (i := 6) rfl)) rfl rfl rfl (Nat.le_of_ble_eq_true rfl) (gW_s40 cI g (up (up (up (up (up G 0 (K 0)) 8 (K 8)) 16 (K 16)) 24 (K 24)) 32 (K 32)) (K 40)) (ss' := [gW cI o K, gW cI g (up (up (up (up (up (up G 0 (K 0)) 8 (K 8)) 16 (K 16)) 24 (K 24)) 32 (K 32)) 40 (K 40))]) rfl dX0_become_45 (fun H locs hW => ?_)
  refine lv_aload_n hx hb dX0_become_48 rfl (lv_at hl 1 rfl) ?_
  refine sg_get (ci := 0) (C := RX0) (T := TX0) (N := 14) (v := .ref (o 1)) hx hb hts (fun _ h => List.mem_cons_of_mem _ (List.mem_append_right _ h)) hown hK hW 0 0 rfl rfl rfl 6 (by decide) (hts _ (List.mem_of_getElem? (i := 7) rfl)) rfl dX0_become_49 ?_
  refine lv_iconst (v := nI 0) hx hb dX0_become_52 (by decide +kernel) ?_
  refine lv_aload_n hx hb dX0_become_53 rfl (lv_at hl 0 rfl) ?_
  refine sg_get (ci := 0) (C := RX0) (T := TX0) (N := 14) (v := .ref (g 1)) hx hb hts (fun _ h => List.mem_cons_of_mem _ (List.mem_append_right _ h)) hown hK hW 1 0 rfl rfl rfl 6 (by decide) (hts _ (List.mem_of_getElem? (i := 7) rfl)) rfl dX0_become_54 ?_
  refine lv_iconst (v := nI 0) hx hb dX0_become_57 (by decide +kernel) ?_
  refine lv_bipush (v := nI 8) hx hb dX0_become_58 (by decide +kernel) ?_
  refine sg_cpyi (g' := fun i => nI (K (8 * i + 1))) hx hb (hml.trans hl.1.symm) hown (hts _ (List.mem_of_getElem? (i := 8) rfl)) (hts _ (List.mem_of_getElem? (i := 9) rfl)) (hts _ (List.mem_of_getElem? (i := 10) rfl)) (hts _ (List.mem_of_getElem? (i := 11) rfl)) hK hW 0 1 1 1 0 rfl rfl rfl rfl rfl (by decide) (by decide) (by decide) (by decide) (Nat.le_of_ble_eq_true rfl) (Nat.le_of_ble_eq_true rfl) (fun q hq => (pk_cpy_in (Nat.zero_le _) (by omega)).trans (by rw [Nat.zero_add, Nat.sub_zero])) (gW_sel1 cI g K (up (up (up (up (up (up G 0 (K 0)) 8 (K 8)) 16 (K 16)) 24 (K 24)) 32 (K 32)) 40 (K 40))) (ss' := [gW cI o K, gW cI g (selR 1 K (up (up (up (up (up (up G 0 (K 0)) 8 (K 8)) 16 (K 16)) 24 (K 24)) 32 (K 32)) 40 (K 40)))]) rfl dX0_become_60 (fun H locs hW => ?_)
  refine lv_aload_n hx hb dX0_become_63 rfl (lv_at hl 1 rfl) ?_
  refine sg_get (ci := 0) (C := RX0) (T := TX0) (N := 14) (v := .ref (o 2)) hx hb hts (fun _ h => List.mem_cons_of_mem _ (List.mem_append_right _ h)) hown hK hW 0 0 rfl rfl rfl 7 (by decide) (hts _ (List.mem_of_getElem? (i := 12) rfl)) rfl dX0_become_64 ?_
  refine lv_iconst (v := nI 0) hx hb dX0_become_67 (by decide +kernel) ?_
  refine lv_aload_n hx hb dX0_become_68 rfl (lv_at hl 0 rfl) ?_
  refine sg_get (ci := 0) (C := RX0) (T := TX0) (N := 14) (v := .ref (g 2)) hx hb hts (fun _ h => List.mem_cons_of_mem _ (List.mem_append_right _ h)) hown hK hW 1 0 rfl rfl rfl 7 (by decide) (hts _ (List.mem_of_getElem? (i := 12) rfl)) rfl dX0_become_69 ?_
  refine lv_iconst (v := nI 0) hx hb dX0_become_72 (by decide +kernel) ?_
  refine lv_bipush (v := nI 8) hx hb dX0_become_73 (by decide +kernel) ?_
  refine sg_cpyi (g' := fun i => nI (K (8 * i + 2))) hx hb (hml.trans hl.1.symm) hown (hts _ (List.mem_of_getElem? (i := 8) rfl)) (hts _ (List.mem_of_getElem? (i := 9) rfl)) (hts _ (List.mem_of_getElem? (i := 10) rfl)) (hts _ (List.mem_of_getElem? (i := 11) rfl)) hK hW 0 2 1 2 0 rfl rfl rfl rfl rfl (by decide) (by decide) (by decide) (by decide) (Nat.le_of_ble_eq_true rfl) (Nat.le_of_ble_eq_true rfl) (fun q hq => (pk_cpy_in (Nat.zero_le _) (by omega)).trans (by rw [Nat.zero_add, Nat.sub_zero])) (gW_sel2 cI g K (selR 1 K (up (up (up (up (up (up G 0 (K 0)) 8 (K 8)) 16 (K 16)) 24 (K 24)) 32 (K 32)) 40 (K 40)))) (ss' := [gW cI o K, gW cI g (selR 2 K (selR 1 K (up (up (up (up (up (up G 0 (K 0)) 8 (K 8)) 16 (K 16)) 24 (K 24)) 32 (K 32)) 40 (K 40))))]) rfl dX0_become_75 (fun H locs hW => ?_)
  refine lv_aload_n hx hb dX0_become_78 rfl (lv_at hl 1 rfl) ?_
  refine sg_get (ci := 0) (C := RX0) (T := TX0) (N := 14) (v := .ref (o 3)) hx hb hts (fun _ h => List.mem_cons_of_mem _ (List.mem_append_right _ h)) hown hK hW 0 0 rfl rfl rfl 8 (by decide) (hts _ (List.mem_of_getElem? (i := 13) rfl)) rfl dX0_become_79 ?_
  refine lv_iconst (v := nI 0) hx hb dX0_become_82 (by decide +kernel) ?_
  refine lv_aload_n hx hb dX0_become_83 rfl (lv_at hl 0 rfl) ?_
  refine sg_get (ci := 0) (C := RX0) (T := TX0) (N := 14) (v := .ref (g 3)) hx hb hts (fun _ h => List.mem_cons_of_mem _ (List.mem_append_right _ h)) hown hK hW 1 0 rfl rfl rfl 8 (by decide) (hts _ (List.mem_of_getElem? (i := 13) rfl)) rfl dX0_become_84 ?_
  refine lv_iconst (v := nI 0) hx hb dX0_become_87 (by decide +kernel) ?_
  refine lv_bipush (v := nI 8) hx hb dX0_become_88 (by decide +kernel) ?_
  refine sg_cpyi (g' := fun i => nI (K (8 * i + 3))) hx hb (hml.trans hl.1.symm) hown (hts _ (List.mem_of_getElem? (i := 8) rfl)) (hts _ (List.mem_of_getElem? (i := 9) rfl)) (hts _ (List.mem_of_getElem? (i := 10) rfl)) (hts _ (List.mem_of_getElem? (i := 11) rfl)) hK hW 0 3 1 3 0 rfl rfl rfl rfl rfl (by decide) (by decide) (by decide) (by decide) (Nat.le_of_ble_eq_true rfl) (Nat.le_of_ble_eq_true rfl) (fun q hq => (pk_cpy_in (Nat.zero_le _) (by omega)).trans (by rw [Nat.zero_add, Nat.sub_zero])) (gW_sel3 cI g K (selR 2 K (selR 1 K (up (up (up (up (up (up G 0 (K 0)) 8 (K 8)) 16 (K 16)) 24 (K 24)) 32 (K 32)) 40 (K 40))))) (ss' := [gW cI o K, gW cI g (selR 3 K (selR 2 K (selR 1 K (up (up (up (up (up (up G 0 (K 0)) 8 (K 8)) 16 (K 16)) 24 (K 24)) 32 (K 32)) 40 (K 40)))))]) rfl dX0_become_90 (fun H locs hW => ?_)
  refine lv_aload_n hx hb dX0_become_93 rfl (lv_at hl 1 rfl) ?_
  refine sg_get (ci := 0) (C := RX0) (T := TX0) (N := 14) (v := .ref (o 4)) hx hb hts (fun _ h => List.mem_cons_of_mem _ (List.mem_append_right _ h)) hown hK hW 0 0 rfl rfl rfl 9 (by decide) (hts _ (List.mem_of_getElem? (i := 14) rfl)) rfl dX0_become_94 ?_
  refine lv_iconst (v := nI 0) hx hb dX0_become_97 (by decide +kernel) ?_
  refine lv_aload_n hx hb dX0_become_98 rfl (lv_at hl 0 rfl) ?_
  refine sg_get (ci := 0) (C := RX0) (T := TX0) (N := 14) (v := .ref (g 4)) hx hb hts (fun _ h => List.mem_cons_of_mem _ (List.mem_append_right _ h)) hown hK hW 1 0 rfl rfl rfl 9 (by decide) (hts _ (List.mem_of_getElem? (i := 14) rfl)) rfl dX0_become_99 ?_
  refine lv_iconst (v := nI 0) hx hb dX0_become_102 (by decide +kernel) ?_
  refine lv_bipush (v := nI 8) hx hb dX0_become_103 (by decide +kernel) ?_
  refine sg_cpyi (g' := fun i => nI (K (8 * i + 4))) hx hb (hml.trans hl.1.symm) hown (hts _ (List.mem_of_getElem? (i := 8) rfl)) (hts _ (List.mem_of_getElem? (i := 9) rfl)) (hts _ (List.mem_of_getElem? (i := 10) rfl)) (hts _ (List.mem_of_getElem? (i := 11) rfl)) hK hW 0 4 1 4 0 rfl rfl rfl rfl rfl (by decide) (by decide) (by decide) (by decide) (Nat.le_of_ble_eq_true rfl) (Nat.le_of_ble_eq_true rfl) (fun q hq => (pk_cpy_in (Nat.zero_le _) (by omega)).trans (by rw [Nat.zero_add, Nat.sub_zero])) (gW_sel4 cI g K (selR 3 K (selR 2 K (selR 1 K (up (up (up (up (up (up G 0 (K 0)) 8 (K 8)) 16 (K 16)) 24 (K 24)) 32 (K 32)) 40 (K 40)))))) (ss' := [gW cI o K, gW cI g (selR 4 K (selR 3 K (selR 2 K (selR 1 K (up (up (up (up (up (up G 0 (K 0)) 8 (K 8)) 16 (K 16)) 24 (K 24)) 32 (K 32)) 40 (K 40))))))]) rfl dX0_become_105 (fun H locs hW => ?_)
  refine lv_aload_n hx hb dX0_become_108 rfl (lv_at hl 0 rfl) ?_
  refine lv_aload_n hx hb dX0_become_109 rfl (lv_at hl 1 rfl) ?_
  refine sg_get (ci := 0) (C := RX0) (T := TX0) (N := 14) (v := .int (nI (K 48))) hx hb hts (fun _ h => List.mem_cons_of_mem _ (List.mem_append_right _ h)) hown hK hW 0 0 rfl rfl rfl 10 (by decide) (hts _ (List.mem_of_getElem? (i := 15) rfl)) rfl dX0_become_110 ?_
  refine sg_put (ci := 0) (C := RX0) (T := TX0) (N := 14) hx hb hts (fun _ h => List.mem_cons_of_mem _ (List.mem_append_right _ h)) tyX0 tyX0_ok nmX0 hown hK hW 1 0 rfl rfl rfl 10 (by decide) (hts _ (List.mem_of_getElem? (i := 15) rfl)) rfl rfl rfl (Nat.le_of_ble_eq_true rfl) (gW_s48 cI g (selR 4 K (selR 3 K (selR 2 K (selR 1 K (up (up (up (up (up (up G 0 (K 0)) 8 (K 8)) 16 (K 16)) 24 (K 24)) 32 (K 32)) 40 (K 40)))))) (K 48)) (ss' := [gW cI o K, gW cI g (up (selR 4 K (selR 3 K (selR 2 K (selR 1 K (up (up (up (up (up (up G 0 (K 0)) 8 (K 8)) 16 (K 16)) 24 (K 24)) 32 (K 32)) 40 (K 40)))))) 48 (K 48))]) rfl dX0_become_113 (fun H locs hW => ?_)
  refine lv_aload_n hx hb dX0_become_116 rfl (lv_at hl 1 rfl) ?_
  refine sg_get (ci := 0) (C := RX0) (T := TX0) (N := 14) (v := .ref (o 5)) hx hb hts (fun _ h => List.mem_cons_of_mem _ (List.mem_append_right _ h)) hown hK hW 0 0 rfl rfl rfl 11 (by decide) (hts _ (List.mem_of_getElem? (i := 16) rfl)) rfl dX0_become_117 ?_
  refine lv_iconst (v := nI 0) hx hb dX0_become_120 (by decide +kernel) ?_
  refine lv_aload_n hx hb dX0_become_121 rfl (lv_at hl 0 rfl) ?_
  refine sg_get (ci := 0) (C := RX0) (T := TX0) (N := 14) (v := .ref (g 5)) hx hb hts (fun _ h => List.mem_cons_of_mem _ (List.mem_append_right _ h)) hown hK hW 1 0 rfl rfl rfl 11 (by decide) (hts _ (List.mem_of_getElem? (i := 16) rfl)) rfl dX0_become_122 ?_
  refine lv_iconst (v := nI 0) hx hb dX0_become_125 (by decide +kernel) ?_
  refine lv_bipush (v := nI 6) hx hb dX0_become_126 (by decide +kernel) ?_
  refine sg_cpyi (g' := fun i => nI (K (8 * i + 5))) hx hb (hml.trans hl.1.symm) hown (hts _ (List.mem_of_getElem? (i := 8) rfl)) (hts _ (List.mem_of_getElem? (i := 9) rfl)) (hts _ (List.mem_of_getElem? (i := 10) rfl)) (hts _ (List.mem_of_getElem? (i := 11) rfl)) hK hW 0 5 1 5 0 rfl rfl rfl rfl rfl (by decide) (by decide) (by decide) (by decide) (Nat.le_of_ble_eq_true rfl) (Nat.le_of_ble_eq_true rfl) (fun q hq => (pk_cpy_in (Nat.zero_le _) (by omega)).trans (by rw [Nat.zero_add, Nat.sub_zero])) (gW_sel5 cI g K (up (selR 4 K (selR 3 K (selR 2 K (selR 1 K (up (up (up (up (up (up G 0 (K 0)) 8 (K 8)) 16 (K 16)) 24 (K 24)) 32 (K 32)) 40 (K 40)))))) 48 (K 48))) (ss' := [gW cI o K, gW cI g (selR 5 K (up (selR 4 K (selR 3 K (selR 2 K (selR 1 K (up (up (up (up (up (up G 0 (K 0)) 8 (K 8)) 16 (K 16)) 24 (K 24)) 32 (K 32)) 40 (K 40)))))) 48 (K 48)))]) rfl dX0_become_128 (fun H locs hW => ?_)
  refine lv_aload_n hx hb dX0_become_131 rfl (lv_at hl 1 rfl) ?_
  refine sg_get (ci := 0) (C := RX0) (T := TX0) (N := 14) (v := .ref (o 6)) hx hb hts (fun _ h => List.mem_cons_of_mem _ (List.mem_append_right _ h)) hown hK hW 0 0 rfl rfl rfl 12 (by decide) (hts _ (List.mem_of_getElem? (i := 17) rfl)) rfl dX0_become_132 ?_
  refine lv_iconst (v := nI 0) hx hb dX0_become_135 (by decide +kernel) ?_
  refine lv_aload_n hx hb dX0_become_136 rfl (lv_at hl 0 rfl) ?_
  refine sg_get (ci := 0) (C := RX0) (T := TX0) (N := 14) (v := .ref (g 6)) hx hb hts (fun _ h => List.mem_cons_of_mem _ (List.mem_append_right _ h)) hown hK hW 1 0 rfl rfl rfl 12 (by decide) (hts _ (List.mem_of_getElem? (i := 17) rfl)) rfl dX0_become_137 ?_
  refine lv_iconst (v := nI 0) hx hb dX0_become_140 (by decide +kernel) ?_
  refine lv_bipush (v := nI 6) hx hb dX0_become_141 (by decide +kernel) ?_
  refine sg_cpyi (g' := fun i => nI (K (8 * i + 6))) hx hb (hml.trans hl.1.symm) hown (hts _ (List.mem_of_getElem? (i := 8) rfl)) (hts _ (List.mem_of_getElem? (i := 9) rfl)) (hts _ (List.mem_of_getElem? (i := 10) rfl)) (hts _ (List.mem_of_getElem? (i := 11) rfl)) hK hW 0 6 1 6 0 rfl rfl rfl rfl rfl (by decide) (by decide) (by decide) (by decide) (Nat.le_of_ble_eq_true rfl) (Nat.le_of_ble_eq_true rfl) (fun q hq => (pk_cpy_in (Nat.zero_le _) (by omega)).trans (by rw [Nat.zero_add, Nat.sub_zero])) (gW_sel6 cI g K (selR 5 K (up (selR 4 K (selR 3 K (selR 2 K (selR 1 K (up (up (up (up (up (up G 0 (K 0)) 8 (K 8)) 16 (K 16)) 24 (K 24)) 32 (K 32)) 40 (K 40)))))) 48 (K 48)))) (ss' := [gW cI o K, gW cI g (selR 6 K (selR 5 K (up (selR 4 K (selR 3 K (selR 2 K (selR 1 K (up (up (up (up (up (up G 0 (K 0)) 8 (K 8)) 16 (K 16)) 24 (K 24)) 32 (K 32)) 40 (K 40)))))) 48 (K 48))))]) rfl dX0_become_143 (fun H locs hW => ?_)
  refine lv_aload_n hx hb dX0_become_146 rfl (lv_at hl 1 rfl) ?_
  refine sg_get (ci := 0) (C := RX0) (T := TX0) (N := 14) (v := .ref (o 7)) hx hb hts (fun _ h => List.mem_cons_of_mem _ (List.mem_append_right _ h)) hown hK hW 0 0 rfl rfl rfl 13 (by decide) (hts _ (List.mem_of_getElem? (i := 18) rfl)) rfl dX0_become_147 ?_
  refine lv_iconst (v := nI 0) hx hb dX0_become_150 (by decide +kernel) ?_
  refine lv_aload_n hx hb dX0_become_151 rfl (lv_at hl 0 rfl) ?_
  refine sg_get (ci := 0) (C := RX0) (T := TX0) (N := 14) (v := .ref (g 7)) hx hb hts (fun _ h => List.mem_cons_of_mem _ (List.mem_append_right _ h)) hown hK hW 1 0 rfl rfl rfl 13 (by decide) (hts _ (List.mem_of_getElem? (i := 18) rfl)) rfl dX0_become_152 ?_
  refine lv_iconst (v := nI 0) hx hb dX0_become_155 (by decide +kernel) ?_
  refine lv_bipush (v := nI 6) hx hb dX0_become_156 (by decide +kernel) ?_
  refine sg_cpyi (g' := fun i => nI (K (8 * i + 7))) hx hb (hml.trans hl.1.symm) hown (hts _ (List.mem_of_getElem? (i := 8) rfl)) (hts _ (List.mem_of_getElem? (i := 9) rfl)) (hts _ (List.mem_of_getElem? (i := 10) rfl)) (hts _ (List.mem_of_getElem? (i := 11) rfl)) hK hW 0 7 1 7 0 rfl rfl rfl rfl rfl (by decide) (by decide) (by decide) (by decide) (Nat.le_of_ble_eq_true rfl) (Nat.le_of_ble_eq_true rfl) (fun q hq => (pk_cpy_in (Nat.zero_le _) (by omega)).trans (by rw [Nat.zero_add, Nat.sub_zero])) (gW_sel7 cI g K (selR 6 K (selR 5 K (up (selR 4 K (selR 3 K (selR 2 K (selR 1 K (up (up (up (up (up (up G 0 (K 0)) 8 (K 8)) 16 (K 16)) 24 (K 24)) 32 (K 32)) 40 (K 40)))))) 48 (K 48))))) (ss' := [gW cI o K, gW cI g (selR 7 K (selR 6 K (selR 5 K (up (selR 4 K (selR 3 K (selR 2 K (selR 1 K (up (up (up (up (up (up G 0 (K 0)) 8 (K 8)) 16 (K 16)) 24 (K 24)) 32 (K 32)) 40 (K 40)))))) 48 (K 48)))))]) rfl dX0_become_158 (fun H locs hW => ?_)
  exact rt_v hQ hx hb hr hlocks hW dX0_become_161 () rfl trivial (congrArg (fun z => [gW cI o K, z]) (gW_ext cI g _ K (by simp [selR, up]) (by simp [selR, up]) (by simp [selR, up]) (by simp [selR, up]) (by simp [selR, up]) (by simp [selR, up]) (by simp [selR, up]) (fun i => by rw [selR_out (by omega), selR_out (by omega), selR_out (by omega), up_ne (by omega), selR_out (by omega), selR_out (by omega), selR_out (by omega), selR_in (by omega)]) (fun i => by rw [selR_out (by omega), selR_out (by omega), selR_out (by omega), up_ne (by omega), selR_out (by omega), selR_out (by omega), selR_in (by omega)]) (fun i => by rw [selR_out (by omega), selR_out (by omega), selR_out (by omega), up_ne (by omega), selR_out (by omega), selR_in (by omega)]) (fun i => by rw [selR_out (by omega), selR_out (by omega), selR_out (by omega), up_ne (by omega), selR_in (by omega)]) (fun i => by rw [selR_out (by omega), selR_out (by omega), selR_in (by omega)]) (fun i => by rw [selR_out (by omega), selR_in (by omega)]) (fun i => by rw [selR_in (by omega)])))
def addM (G : Nat → Nat) (k sc o : Nat) : Nat → Nat := up (up (up (up (up G (8 * G 40 + 1) k) (8 * G 40 + 2) o) (8 * G 40 + 3) sc) (8 * G 40 + 4) 0) 40 (G 40 + 1)
def addC (G : Nat → Nat) (gr o : Nat) : Nat → Nat := up (up (up (up G (8 * G 48 + 5) gr) (8 * G 48 + 6) o) (8 * G 48 + 7) 0) 48 (G 48 + 1)
def moveM (G : Nat → Nat) (a o : Nat) : Nat → Nat := up (up G (8 * a + 2) o) (8 * a + 4) 0
theorem addM_ok {b : Nat} {G : Nat → Nat} (h : OkG b G) {k sc o : Nat} (h8 : G 40 < 8) (hk : k ≤ 5) (hs : sc ≤ 99) (ho : o ≤ 1) : OkG b (addM G k sc o) := ((((h.r1 hk).r2 ho).r3 hs).r4 (Nat.zero_le _)).s40 h8
theorem addC_ok {b : Nat} {G : Nat → Nat} (h : OkG b G) {gr o : Nat} (h6 : G 48 < 6) (hg : gr ≤ 200) (ho : o ≤ 1) : OkG b (addC G gr o) := (((h.r5 hg).r6 ho).r7 (Nat.zero_le _)).s48 h6
theorem moveM_ok {b : Nat} {G : Nat → Nat} (h : OkG b G) {a o : Nat} (ho : o ≤ 1) : OkG b (moveM G a o) := (h.r2 ho).r4 (Nat.zero_le _)
abbrev rmX0_addMother : Room := { frames := 0, cells := 0, slots := 0, locals := 0 }
set_option maxRecDepth 100000 in
set_option maxHeartbeats 4000000 in
theorem M_X0_addMother (l : Launch) (D : va_G) (cI cJ : ClassId) (g G : Nat → Nat) (b : Nat) (hb30 : b < 2 ^ 30) (hG : OkG b G) (k sc o : Nat) (h8 : G 40 < 8) : CE E0 l D vwCl [(cI, .int), (cJ, .long)] yX0_addMother wsX0_addMother rmX0_addMother [.ref (g 0), .int (nI k), .int (nI sc), .int (nI o)] [gW cI g G] (S := Unit) (some (.int (nI (G 40)))) (fun _ => True) (fun _ : Unit => [gW cI g (addM G k sc o)]) 0 0 := by
  refine CE.ofW (cc := cX0_addMother) (maxL := 5) (ret := (some .int)) (lv := [(0, .ref (g 0)), (1, .int (nI k)), (2, .int (nI sc)), (3, .int (nI o))]) (by decide) rfl (Nat.le_of_ble_eq_true rfl) rfl ?_
  intro p e s m args below meth c ls A Q hQ hx hb hml hr hlocks hnm hown hts hK hA hE hW hl
  have hown : s.vm.findClass RX0 = some m.cls := hown
  obtain ⟨hg0, hg8, hg16, hg16b, hg24, hg32, hg40, hg48⟩ := hG.s
  refine lv_aload_n hx hb dX0_addMother_0 rfl (lv_at hl 0 rfl) ?_
  refine sg_get (ci := 0) (C := RX0) (T := TX0) (N := 14) (v := .int (nI (G 40))) hx hb hts (fun _ h => List.mem_cons_of_mem _ (List.mem_append_right _ h)) hown hK hW 0 0 rfl rfl rfl 5 (by decide) (hts _ (List.mem_of_getElem? (i := 1) rfl)) rfl dX0_addMother_1 ?_
  refine lv_istore (lv' := [(4, .int (nI (G 40))), (0, .ref (g 0)), (1, .int (nI k)), (2, .int (nI sc)), (3, .int (nI o))]) hx hb dX0_addMother_4 hl (by decide) rfl (fun ls hl => ?_)
  refine lv_iload hx hb dX0_addMother_6 (lv_at hl 0 rfl) ?_
  refine nn_zlt (tgt := 18) hx hb dX0_addMother_8 (by decide) (by omega) (fun c8 => ?_) (fun c8 => ?_)
  · exfalso; omega
  · refine lv_iload hx hb dX0_addMother_11 (lv_at hl 0 rfl) ?_
    refine lv_bipush (v := nI 8) hx hb dX0_addMother_13 (by decide +kernel) ?_
    refine nn_clt (tgt := 20) hx hb dX0_addMother_15 (by decide) (by omega) (by decide) (fun c15 => ?_) (fun c15 => ?_)
    · refine lv_aload_n hx hb dX0_addMother_20 rfl (lv_at hl 1 rfl) ?_
      refine sg_get (ci := 0) (C := RX0) (T := TX0) (N := 14) (v := .ref (g 1)) hx hb hts (fun _ h => List.mem_cons_of_mem _ (List.mem_append_right _ h)) hown hK hW 0 0 rfl rfl rfl 6 (by decide) (hts _ (List.mem_of_getElem? (i := 2) rfl)) rfl dX0_addMother_21 ?_
      refine lv_iload hx hb dX0_addMother_24 (lv_at hl 0 rfl) ?_
      refine lv_iload_n hx hb dX0_addMother_26 rfl (lv_at hl 2 rfl) ?_
      refine sg_ist hx hb hK hW 0 1 0 rfl rfl rfl (by omega) (by decide) (gW_r1 cI g G (G 40) k) (ss' := [gW cI g (up G (8 * (G 40) + 1) k)]) rfl dX0_addMother_27 (fun H locs hW => ?_)
      refine lv_aload_n hx hb dX0_addMother_28 rfl (lv_at hl 1 rfl) ?_
      refine sg_get (ci := 0) (C := RX0) (T := TX0) (N := 14) (v := .ref (g 2)) hx hb hts (fun _ h => List.mem_cons_of_mem _ (List.mem_append_right _ h)) hown hK hW 0 0 rfl rfl rfl 7 (by decide) (hts _ (List.mem_of_getElem? (i := 3) rfl)) rfl dX0_addMother_29 ?_
      refine lv_iload hx hb dX0_addMother_32 (lv_at hl 0 rfl) ?_
      refine lv_iload_n hx hb dX0_addMother_34 rfl (lv_at hl 4 rfl) ?_
      refine sg_ist hx hb hK hW 0 2 0 rfl rfl rfl (by omega) (by decide) (gW_r2 cI g (up G (8 * (G 40) + 1) k) (G 40) o) (ss' := [gW cI g (up (up G (8 * (G 40) + 1) k) (8 * (G 40) + 2) o)]) rfl dX0_addMother_35 (fun H locs hW => ?_)
      refine lv_aload_n hx hb dX0_addMother_36 rfl (lv_at hl 1 rfl) ?_
      refine sg_get (ci := 0) (C := RX0) (T := TX0) (N := 14) (v := .ref (g 3)) hx hb hts (fun _ h => List.mem_cons_of_mem _ (List.mem_append_right _ h)) hown hK hW 0 0 rfl rfl rfl 8 (by decide) (hts _ (List.mem_of_getElem? (i := 4) rfl)) rfl dX0_addMother_37 ?_
      refine lv_iload hx hb dX0_addMother_40 (lv_at hl 0 rfl) ?_
      refine lv_iload_n hx hb dX0_addMother_42 rfl (lv_at hl 3 rfl) ?_
      refine sg_ist hx hb hK hW 0 3 0 rfl rfl rfl (by omega) (by decide) (gW_r3 cI g (up (up G (8 * (G 40) + 1) k) (8 * (G 40) + 2) o) (G 40) sc) (ss' := [gW cI g (up (up (up G (8 * (G 40) + 1) k) (8 * (G 40) + 2) o) (8 * (G 40) + 3) sc)]) rfl dX0_addMother_43 (fun H locs hW => ?_)
      refine lv_aload_n hx hb dX0_addMother_44 rfl (lv_at hl 1 rfl) ?_
      refine sg_get (ci := 0) (C := RX0) (T := TX0) (N := 14) (v := .ref (g 4)) hx hb hts (fun _ h => List.mem_cons_of_mem _ (List.mem_append_right _ h)) hown hK hW 0 0 rfl rfl rfl 9 (by decide) (hts _ (List.mem_of_getElem? (i := 5) rfl)) rfl dX0_addMother_45 ?_
      refine lv_iload hx hb dX0_addMother_48 (lv_at hl 0 rfl) ?_
      refine lv_iconst (v := nI 0) hx hb dX0_addMother_50 (by decide +kernel) ?_
      refine sg_ist hx hb hK hW 0 4 0 rfl rfl rfl (by omega) (by decide) (gW_r4 cI g (up (up (up G (8 * (G 40) + 1) k) (8 * (G 40) + 2) o) (8 * (G 40) + 3) sc) (G 40) 0) (ss' := [gW cI g (up (up (up (up G (8 * (G 40) + 1) k) (8 * (G 40) + 2) o) (8 * (G 40) + 3) sc) (8 * (G 40) + 4) 0)]) rfl dX0_addMother_51 (fun H locs hW => ?_)
      refine lv_aload_n hx hb dX0_addMother_52 rfl (lv_at hl 1 rfl) ?_
      refine lv_iload hx hb dX0_addMother_53 (lv_at hl 0 rfl) ?_
      refine lv_iconst (v := nI 1) hx hb dX0_addMother_55 (by decide +kernel) ?_
      refine nn_add hx hb dX0_addMother_56 ?_
      refine sg_put (ci := 0) (C := RX0) (T := TX0) (N := 14) hx hb hts (fun _ h => List.mem_cons_of_mem _ (List.mem_append_right _ h)) tyX0 tyX0_ok nmX0 hown hK hW 0 0 rfl rfl rfl 5 (by decide) (hts _ (List.mem_of_getElem? (i := 1) rfl)) rfl rfl rfl (Nat.le_of_ble_eq_true rfl) (gW_s40 cI g (up (up (up (up G (8 * (G 40) + 1) k) (8 * (G 40) + 2) o) (8 * (G 40) + 3) sc) (8 * (G 40) + 4) 0) ((G 40) + 1)) (ss' := [gW cI g (up (up (up (up (up G (8 * (G 40) + 1) k) (8 * (G 40) + 2) o) (8 * (G 40) + 3) sc) (8 * (G 40) + 4) 0) 40 ((G 40) + 1))]) rfl dX0_addMother_57 (fun H locs hW => ?_)
      refine lv_iload hx hb dX0_addMother_60 (lv_at hl 0 rfl) ?_
      exact rt_i hQ hx hb hr hlocks hW dX0_addMother_62 () rfl trivial rfl
    · exfalso; omega
abbrev rmX0_addChild : Room := { frames := 0, cells := 0, slots := 0, locals := 0 }
set_option maxRecDepth 100000 in
set_option maxHeartbeats 4000000 in
theorem M_X0_addChild (l : Launch) (D : va_G) (cI cJ : ClassId) (g G : Nat → Nat) (b : Nat) (hb30 : b < 2 ^ 30) (hG : OkG b G) (gr o : Nat) (h6 : G 48 < 6) : CE E0 l D vwCl [(cI, .int), (cJ, .long)] yX0_addChild wsX0_addChild rmX0_addChild [.ref (g 0), .int (nI gr), .int (nI o)] [gW cI g G] (S := Unit) (some (.int (nI (G 48)))) (fun _ => True) (fun _ : Unit => [gW cI g (addC G gr o)]) 0 0 := by
  refine CE.ofW (cc := cX0_addChild) (maxL := 4) (ret := (some .int)) (lv := [(0, .ref (g 0)), (1, .int (nI gr)), (2, .int (nI o))]) (by decide) rfl (Nat.le_of_ble_eq_true rfl) rfl ?_
  intro p e s m args below meth c ls A Q hQ hx hb hml hr hlocks hnm hown hts hK hA hE hW hl
  have hown : s.vm.findClass RX0 = some m.cls := hown
  obtain ⟨hg0, hg8, hg16, hg16b, hg24, hg32, hg40, hg48⟩ := hG.s
  refine lv_aload_n hx hb dX0_addChild_0 rfl (lv_at hl 0 rfl) ?_
  refine sg_get (ci := 0) (C := RX0) (T := TX0) (N := 14) (v := .int (nI (G 48))) hx hb hts (fun _ h => List.mem_cons_of_mem _ (List.mem_append_right _ h)) hown hK hW 0 0 rfl rfl rfl 10 (by decide) (hts _ (List.mem_of_getElem? (i := 1) rfl)) rfl dX0_addChild_1 ?_
  refine lv_istore_n (lv' := [(3, .int (nI (G 48))), (0, .ref (g 0)), (1, .int (nI gr)), (2, .int (nI o))]) hx hb dX0_addChild_4 rfl hl (by decide) rfl (fun ls hl => ?_)
  refine lv_iload_n hx hb dX0_addChild_5 rfl (lv_at hl 0 rfl) ?_
  refine nn_zlt (tgt := 15) hx hb dX0_addChild_6 (by decide) (by omega) (fun c6 => ?_) (fun c6 => ?_)
  · exfalso; omega
  · refine lv_iload_n hx hb dX0_addChild_9 rfl (lv_at hl 0 rfl) ?_
    refine lv_bipush (v := nI 6) hx hb dX0_addChild_10 (by decide +kernel) ?_
    refine nn_clt (tgt := 17) hx hb dX0_addChild_12 (by decide) (by omega) (by decide) (fun c12 => ?_) (fun c12 => ?_)
    · refine lv_aload_n hx hb dX0_addChild_17 rfl (lv_at hl 1 rfl) ?_
      refine sg_get (ci := 0) (C := RX0) (T := TX0) (N := 14) (v := .ref (g 5)) hx hb hts (fun _ h => List.mem_cons_of_mem _ (List.mem_append_right _ h)) hown hK hW 0 0 rfl rfl rfl 11 (by decide) (hts _ (List.mem_of_getElem? (i := 2) rfl)) rfl dX0_addChild_18 ?_
      refine lv_iload_n hx hb dX0_addChild_21 rfl (lv_at hl 0 rfl) ?_
      refine lv_iload_n hx hb dX0_addChild_22 rfl (lv_at hl 2 rfl) ?_
      refine sg_ist hx hb hK hW 0 5 0 rfl rfl rfl (by omega) (by decide) (gW_r5 cI g G (G 48) gr) (ss' := [gW cI g (up G (8 * (G 48) + 5) gr)]) rfl dX0_addChild_23 (fun H locs hW => ?_)
      refine lv_aload_n hx hb dX0_addChild_24 rfl (lv_at hl 1 rfl) ?_
      refine sg_get (ci := 0) (C := RX0) (T := TX0) (N := 14) (v := .ref (g 6)) hx hb hts (fun _ h => List.mem_cons_of_mem _ (List.mem_append_right _ h)) hown hK hW 0 0 rfl rfl rfl 12 (by decide) (hts _ (List.mem_of_getElem? (i := 3) rfl)) rfl dX0_addChild_25 ?_
      refine lv_iload_n hx hb dX0_addChild_28 rfl (lv_at hl 0 rfl) ?_
      refine lv_iload_n hx hb dX0_addChild_29 rfl (lv_at hl 3 rfl) ?_
      refine sg_ist hx hb hK hW 0 6 0 rfl rfl rfl (by omega) (by decide) (gW_r6 cI g (up G (8 * (G 48) + 5) gr) (G 48) o) (ss' := [gW cI g (up (up G (8 * (G 48) + 5) gr) (8 * (G 48) + 6) o)]) rfl dX0_addChild_30 (fun H locs hW => ?_)
      refine lv_aload_n hx hb dX0_addChild_31 rfl (lv_at hl 1 rfl) ?_
      refine sg_get (ci := 0) (C := RX0) (T := TX0) (N := 14) (v := .ref (g 7)) hx hb hts (fun _ h => List.mem_cons_of_mem _ (List.mem_append_right _ h)) hown hK hW 0 0 rfl rfl rfl 13 (by decide) (hts _ (List.mem_of_getElem? (i := 4) rfl)) rfl dX0_addChild_32 ?_
      refine lv_iload_n hx hb dX0_addChild_35 rfl (lv_at hl 0 rfl) ?_
      refine lv_iconst (v := nI 0) hx hb dX0_addChild_36 (by decide +kernel) ?_
      refine sg_ist hx hb hK hW 0 7 0 rfl rfl rfl (by omega) (by decide) (gW_r7 cI g (up (up G (8 * (G 48) + 5) gr) (8 * (G 48) + 6) o) (G 48) 0) (ss' := [gW cI g (up (up (up G (8 * (G 48) + 5) gr) (8 * (G 48) + 6) o) (8 * (G 48) + 7) 0)]) rfl dX0_addChild_37 (fun H locs hW => ?_)
      refine lv_aload_n hx hb dX0_addChild_38 rfl (lv_at hl 1 rfl) ?_
      refine lv_iload_n hx hb dX0_addChild_39 rfl (lv_at hl 0 rfl) ?_
      refine lv_iconst (v := nI 1) hx hb dX0_addChild_40 (by decide +kernel) ?_
      refine nn_add hx hb dX0_addChild_41 ?_
      refine sg_put (ci := 0) (C := RX0) (T := TX0) (N := 14) hx hb hts (fun _ h => List.mem_cons_of_mem _ (List.mem_append_right _ h)) tyX0 tyX0_ok nmX0 hown hK hW 0 0 rfl rfl rfl 10 (by decide) (hts _ (List.mem_of_getElem? (i := 1) rfl)) rfl rfl rfl (Nat.le_of_ble_eq_true rfl) (gW_s48 cI g (up (up (up G (8 * (G 48) + 5) gr) (8 * (G 48) + 6) o) (8 * (G 48) + 7) 0) ((G 48) + 1)) (ss' := [gW cI g (up (up (up (up G (8 * (G 48) + 5) gr) (8 * (G 48) + 6) o) (8 * (G 48) + 7) 0) 48 ((G 48) + 1))]) rfl dX0_addChild_42 (fun H locs hW => ?_)
      refine lv_iload_n hx hb dX0_addChild_45 rfl (lv_at hl 0 rfl) ?_
      exact rt_i hQ hx hb hr hlocks hW dX0_addChild_46 () rfl trivial rfl
    · exfalso; omega
abbrev rmX0_moveMother : Room := { frames := 0, cells := 0, slots := 0, locals := 0 }
set_option maxRecDepth 100000 in
set_option maxHeartbeats 4000000 in
theorem M_X0_moveMother (l : Launch) (D : va_G) (cI cJ : ClassId) (g G : Nat → Nat) (b : Nat) (hb30 : b < 2 ^ 30) (hG : OkG b G) (a o : Nat) (ha : a < G 40) : CE E0 l D vwCl [(cI, .int), (cJ, .long)] yX0_moveMother wsX0_moveMother rmX0_moveMother [.ref (g 0), .int (nI a), .int (nI o)] [gW cI g G] (S := Unit) none (fun _ => True) (fun _ : Unit => [gW cI g (moveM G a o)]) 0 0 := by
  refine CE.ofW (cc := cX0_moveMother) (maxL := 3) (ret := none) (lv := [(0, .ref (g 0)), (1, .int (nI a)), (2, .int (nI o))]) (by decide) rfl (Nat.le_of_ble_eq_true rfl) rfl ?_
  intro p e s m args below meth c ls A Q hQ hx hb hml hr hlocks hnm hown hts hK hA hE hW hl
  have hown : s.vm.findClass RX0 = some m.cls := hown
  obtain ⟨hg0, hg8, hg16, hg16b, hg24, hg32, hg40, hg48⟩ := hG.s
  refine lv_aload_n hx hb dX0_moveMother_0 rfl (lv_at hl 0 rfl) ?_
  refine sg_get (ci := 0) (C := RX0) (T := TX0) (N := 14) (v := .ref (g 2)) hx hb hts (fun _ h => List.mem_cons_of_mem _ (List.mem_append_right _ h)) hown hK hW 0 0 rfl rfl rfl 7 (by decide) (hts _ (List.mem_of_getElem? (i := 1) rfl)) rfl dX0_moveMother_1 ?_
  refine lv_iload_n hx hb dX0_moveMother_4 rfl (lv_at hl 1 rfl) ?_
  refine lv_iload_n hx hb dX0_moveMother_5 rfl (lv_at hl 2 rfl) ?_
  refine sg_ist hx hb hK hW 0 2 0 rfl rfl rfl (by omega) (by decide) (gW_r2 cI g G a o) (ss' := [gW cI g (up G (8 * a + 2) o)]) rfl dX0_moveMother_6 (fun H locs hW => ?_)
  refine lv_aload_n hx hb dX0_moveMother_7 rfl (lv_at hl 0 rfl) ?_
  refine sg_get (ci := 0) (C := RX0) (T := TX0) (N := 14) (v := .ref (g 4)) hx hb hts (fun _ h => List.mem_cons_of_mem _ (List.mem_append_right _ h)) hown hK hW 0 0 rfl rfl rfl 9 (by decide) (hts _ (List.mem_of_getElem? (i := 2) rfl)) rfl dX0_moveMother_8 ?_
  refine lv_iload_n hx hb dX0_moveMother_11 rfl (lv_at hl 1 rfl) ?_
  refine lv_iconst (v := nI 0) hx hb dX0_moveMother_12 (by decide +kernel) ?_
  refine sg_ist hx hb hK hW 0 4 0 rfl rfl rfl (by omega) (by decide) (gW_r4 cI g (up G (8 * a + 2) o) a 0) (ss' := [gW cI g (up (up G (8 * a + 2) o) (8 * a + 4) 0)]) rfl dX0_moveMother_13 (fun H locs hW => ?_)
  exact rt_v hQ hx hb hr hlocks hW dX0_moveMother_14 () rfl trivial rfl
