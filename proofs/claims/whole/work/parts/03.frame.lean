/-! ===== segments: the world as a list of lists of cells; a call takes some of them by a mask ===== -/
def sgT {α : Type} : List Bool → List α → List α
  | true :: bs, x :: xs => x :: sgT bs xs
  | false :: bs, _ :: xs => sgT bs xs
  | _, _ => []
def sgF {α : Type} : List Bool → List α → List α
  | true :: bs, _ :: xs => sgF bs xs
  | false :: bs, x :: xs => x :: sgF bs xs
  | [], xs => xs
  | _ :: _, [] => []
theorem sg_perm {α : Type} : ∀ (bs : List Bool) (ss : List (List α)), ss.flatten.Perm ((sgT bs ss).flatten ++ (sgF bs ss).flatten)
  | [], ss => by cases ss <;> exact List.Perm.refl _
  | b :: bs, [] => by cases b <;> exact List.Perm.refl _
  | true :: bs, x :: xs => by
    show (x ++ xs.flatten).Perm ((x ++ (sgT bs xs).flatten) ++ (sgF bs xs).flatten)
    rw [List.append_assoc]
    exact List.Perm.append_left x (sg_perm bs xs)
  | false :: bs, x :: xs => by
    show (x ++ xs.flatten).Perm ((sgT bs xs).flatten ++ (x ++ (sgF bs xs).flatten))
    refine (List.Perm.append_left x (sg_perm bs xs)).trans ?_
    rw [← List.append_assoc, ← List.append_assoc]
    exact List.Perm.append_right _ List.perm_append_comm
theorem sg_at {α : Type} : ∀ (ss : List (List α)) (i j : Nat) (seg : List α) (q : α), ss[i]? = some seg → seg[j]? = some q → ∃ k, ss.flatten[k]? = some q ∧ ∀ e, ss.flatten.set k e = (ss.set i (seg.set j e)).flatten
  | [], i, j, seg, q, h, _ => by simp at h
  | s0 :: ss, 0, j, seg, q, h, hj => by
    simp at h
    subst h
    have hl : j < s0.length := (List.getElem?_eq_some_iff.mp hj).1
    refine ⟨j, ?_, fun e => ?_⟩
    · rw [List.flatten_cons, List.getElem?_append_left hl]; exact hj
    · rw [List.flatten_cons, List.set_append_left _ _ hl, List.set_cons_zero, List.flatten_cons]
  | s0 :: ss, i + 1, j, seg, q, h, hj => by
    have h' : ss[i]? = some seg := by simpa using h
    obtain ⟨k, h1, h2⟩ := sg_at ss i j seg q h' hj
    refine ⟨s0.length + k, ?_, fun e => ?_⟩
    · rw [List.flatten_cons, List.getElem?_append_right (by omega), Nat.add_sub_cancel_left]; exact h1
    · rw [List.flatten_cons, List.set_append_right _ _ (by omega), Nat.add_sub_cancel_left, h2 e, List.set_cons_succ, List.flatten_cons]
theorem vp_mem {D : va_G} {cl : List vw_C} {ws : va_W} {H : Heap} : va_P D cl ws H ↔ ∀ q ∈ ws, va_at D cl q H :=
  ⟨fun h q hq => by obtain ⟨k, hk⟩ := List.getElem?_of_mem hq; exact h k q hk, fun h k q hk => h q (List.mem_of_getElem? hk)⟩
theorem vd_mem {A : Nat → Prop} {ws : va_W} : va_D A ws ↔ ws.Pairwise (fun p q => p.1 ≠ q.1) ∧ ∀ q ∈ ws, A q.1 := by
  constructor
  · intro h
    refine ⟨List.pairwise_iff_getElem.mpr fun i j hi hj hij e => ?_, fun q hq => ?_⟩
    · exact absurd (h.1 i j _ _ (List.getElem?_eq_getElem hi) (List.getElem?_eq_getElem hj) e) (Nat.ne_of_lt hij)
    · obtain ⟨k, hk⟩ := List.getElem?_of_mem hq
      exact h.2 k q hk
  · intro h
    refine ⟨fun i j p q hi hj e => ?_, fun k q hk => h.2 q (List.mem_of_getElem? hk)⟩
    obtain ⟨hi1, hi2⟩ := List.getElem?_eq_some_iff.mp hi
    obtain ⟨hj1, hj2⟩ := List.getElem?_eq_some_iff.mp hj
    rcases Nat.lt_trichotomy i j with g | g | g
    · exact absurd (by rw [hi2, hj2]; exact e) (List.pairwise_iff_getElem.mp h.1 i j hi1 hj1 g)
    · exact g
    · exact absurd (by rw [hi2, hj2]; exact e.symm) (List.pairwise_iff_getElem.mp h.1 j i hj1 hi1 g)
theorem va_mem {ws : va_W} {sz q : Nat} : va_A ws sz q ↔ (∃ e, (q, e) ∈ ws) ∨ sz ≤ q := by
  constructor
  · rintro (⟨k, e, h⟩ | h)
    · exact Or.inl ⟨e, List.mem_of_getElem? h⟩
    · exact Or.inr h
  · rintro (⟨e, h⟩ | h)
    · obtain ⟨k, hk⟩ := List.getElem?_of_mem h
      exact Or.inl ⟨k, e, hk⟩
    · exact Or.inr h
theorem vp_perm {D : va_G} {cl : List vw_C} {ws ws' : va_W} {H : Heap} (hp : ws.Perm ws') (h : va_P D cl ws H) : va_P D cl ws' H :=
  vp_mem.mpr fun q hq => vp_mem.mp h q (hp.mem_iff.mpr hq)
theorem vd_perm {A : Nat → Prop} {ws ws' : va_W} (hp : ws.Perm ws') (h : va_D A ws) : va_D A ws' :=
  vd_mem.mpr ⟨(hp.pairwise_iff (fun h e => h e.symm)).mp (vd_mem.mp h).1, fun q hq => (vd_mem.mp h).2 q (hp.mem_iff.mpr hq)⟩
/-- the frame rule, by a mask -/
theorem sg_join {D : va_G} {cl : List vw_C} {A0 : Nat → Prop} {H H1 : Heap} {ss ss' wcs w1s : List va_W} (bs : List Bool) (h1 : sgT bs ss = wcs) (h2 : sgT bs ss' = w1s) (h3 : sgF bs ss' = sgF bs ss)
    (hP : va_P D cl ss.flatten H) (hD : va_D A0 ss.flatten) (hk : ∀ q : Nat, q < H.size → ¬ va_A wcs.flatten H.size q → H1[q]? = H[q]?) (hF : ∀ q, va_A wcs.flatten H.size q → A0 q)
    (hP1 : va_P D cl w1s.flatten H1) (hD1 : va_D (va_A wcs.flatten H.size) w1s.flatten) : va_P D cl ss'.flatten H1 ∧ va_D A0 ss'.flatten := by
  subst h1; subst h2
  have pe := sg_perm bs ss
  have pe' := sg_perm bs ss'
  rw [h3] at pe'
  have hP' := vp_mem.mp (vp_perm pe hP)
  have hD' := vd_mem.mp (vd_perm pe hD)
  obtain ⟨n1, n2, n3⟩ := List.pairwise_append.mp hD'.1
  have apart : ∀ q ∈ (sgF bs ss).flatten, ¬ va_A (sgT bs ss).flatten H.size q.1 ∧ q.1 < H.size := by
    intro q hq
    have hl := (hP' q (List.mem_append_right _ hq)).lt
    refine ⟨fun h => ?_, hl⟩
    rcases va_mem.mp h with ⟨e, h⟩ | h
    · exact n3 _ h q hq rfl
    · omega
  have hD1' := vd_mem.mp hD1
  refine ⟨vp_perm pe'.symm (vp_mem.mpr fun q hq => ?_), vd_perm pe'.symm (vd_mem.mpr ⟨List.pairwise_append.mpr ⟨hD1'.1, n2, fun x hx y hy e => ?_⟩, fun q hq => ?_⟩)⟩
  · rcases List.mem_append.mp hq with h | h
    · exact vp_mem.mp hP1 q h
    · exact (hP' q (List.mem_append_right _ h)).kept (hk q.1 (apart q h).2 (apart q h).1)
  · exact (apart y hy).1 (by rw [← e]; exact hD1'.2 x hx)
  · rcases List.mem_append.mp hq with h | h
    · exact hF _ (hD1'.2 q h)
    · exact hD'.2 q (List.mem_append_right _ h)
/-- the world of a walk: its cells, that they are apart and the walk's own, and the frame -/
def Wo (D : va_G) (cl : List vw_C) (A : Nat → Prop) (H0 H : Heap) (locs : List Loc) (ss : List va_W) : Prop := va_P D cl ss.flatten H ∧ va_D A ss.flatten ∧ va_S A H0 H locs
theorem Wo.to {D : va_G} {cl : List vw_C} {A : Nat → Prop} {H0 H : Heap} {locs : List Loc} {ss ss' : List va_W} (h : Wo D cl A H0 H locs ss) (e : ss = ss') : Wo D cl A H0 H locs ss' := e ▸ h
theorem Wo.free {D : va_G} {cl : List vw_C} {A : Nat → Prop} {H0 H : Heap} {locs : List Loc} {ss wcs : List va_W} (h : Wo D cl A H0 H locs ss) (hA : ∀ q, H0.size ≤ q → A q) (bs : List Bool) (h1 : sgT bs ss = wcs) : ∀ q, va_A wcs.flatten H.size q → A q := by
  subst h1
  intro q hq
  rcases va_mem.mp hq with ⟨e, g⟩ | g
  · exact (vd_mem.mp h.2.1).2 (q, e) ((sg_perm bs ss).mem_iff.mpr (List.mem_append_left _ g))
  · exact hA q (Nat.le_trans h.2.2.1 g)
theorem Wo.part {D : va_G} {cl : List vw_C} {A : Nat → Prop} {H0 H : Heap} {locs : List Loc} {ss wcs : List va_W} (h : Wo D cl A H0 H locs ss) (bs : List Bool) (h1 : sgT bs ss = wcs) : va_P D cl wcs.flatten H ∧ va_D A wcs.flatten := by
  subst h1
  have pe := sg_perm bs ss
  exact ⟨vp_mem.mpr fun q hq => vp_mem.mp h.1 q (pe.mem_iff.mpr (List.mem_append_left _ hq)), vd_mem.mpr ⟨(List.pairwise_append.mp (vd_mem.mp (vd_perm pe h.2.1)).1).1, fun q hq => (vd_mem.mp h.2.1).2 q (pe.mem_iff.mpr (List.mem_append_left _ hq))⟩⟩
/-- facts of cells that nobody writes -/
def EGood (E : (Nat → Prop) → State → Heap → Prop) : Prop :=
  (∀ (A : Nat → Prop) (u U : State) (H : Heap), u.vm.Alike U.vm → E A u H → E A U H) ∧ (∀ (A : Nat → Prop) (U : State) (H H1 : Heap), H.size ≤ H1.size → (∀ q : Nat, q < H.size → ¬ A q → H1[q]? = H[q]?) → E A U H → E A U H1) ∧ ∀ (A A' : Nat → Prop) (U : State) (H : Heap), (∀ q, q < H.size → A' q → A q) → E A U H → E A' U H
def E0 : (Nat → Prop) → State → Heap → Prop := fun _ _ _ => True
theorem E0_good : EGood E0 := ⟨fun _ _ _ _ _ _ => trivial, fun _ _ _ _ _ _ _ => trivial, fun _ _ _ _ _ _ => trivial⟩
/-- a contract over segments: the answer rv, the segments behind it w1 u for some u with 'post u' -/
def CE (E : (Nat → Prop) → State → Heap → Prop) (l : Launch) (D : va_G) (cl : List vw_C) (tys : List (ClassId × FieldType)) (y : MethodName) (ws : List Cond) (rm : Room) (av : List Value) (w : List va_W) {S : Type} (rv : Option Value) (post : S → Prop) (w1 : S → List va_W) (mc ms : Nat) : Prop :=
  ∀ sz : Nat, Met l y ws rm (va_Pc av (fun U => U.heap.size = sz ∧ va_P D cl w.flatten U.heap ∧ va_K D cl tys U ∧ va_D (fun _ => True) w.flatten ∧ E (va_A w.flatten sz) U U.heap))
    (fun _ st oc t => (∃ u : S, oc = .returned rv ∧ post u ∧ va_P D cl (w1 u).flatten t.heap ∧ va_D (va_A w.flatten sz) (w1 u).flatten) ∧ va_F (va_A w.flatten sz) st t) mc ms (va_A w.flatten sz)
/-- where a walk of such a method ends -/
def RQ (below : List Frame) (D : va_G) (cl : List vw_C) (A : Nat → Prop) (args : Array Value) (s : State) {S : Type} (rv : Option Value) (post : S → Prop) (w1 : S → List va_W) (mc ms : Nat) : State → Prop :=
  MQ below (fun _ st oc t => (∃ u : S, oc = .returned rv ∧ post u ∧ va_P D cl (w1 u).flatten t.heap ∧ va_D A (w1 u).flatten) ∧ va_F A st t) args s mc ms A
theorem CE.ofW {E : (Nat → Prop) → State → Heap → Prop} {l : Launch} {D : va_G} {cl : List vw_C} {tys : List (ClassId × FieldType)} {y : MethodName} {ws ws' : List Cond} {rm : Room} {av : List Value} {w : List va_W} {S : Type} {rv : Option Value} {post : S → Prop} {w1 : S → List va_W} {mc ms : Nat} {cc : ByteArray} {maxL : Nat} {ret : Option FieldType} {lv : List (Nat × Value)}
    (hy : plainName y.cls = true) (hw : ws = Cond.code y cc maxL ret :: ws') (hln : (lg_sl av).length ≤ maxL) (hlv : lv_args 0 av = lv)
    (body : ∀ (p : Program) (e : Env) (s : State) (m : MethodId) (args : Array Value) (below : List Frame) (meth : Method) (c : Code) (ls : Array Slot) (A : Nat → Prop) (Q : State → Prop), Q = RQ below D cl A args s rv post w1 mc ms → p.tables.exec = Jvm.exec → c.code = cc → c.maxLocals = maxL → meth.sig.returnType = ret → meth.locks = false → meth.name = y.name → s.vm.findClass y.cls = some m.cls → (∀ w ∈ ws, w.before args s = true) → va_K D cl tys s → (∀ q, s.heap.size ≤ q → A q) → E A s s.heap → Wo D cl A s.heap s.heap [] w → lv_has ls maxL lv →
      W p l e rm s m args below meth c s.heap [] 0 0 Q (F0 m 0 ls [])) : CE E l D cl tys y ws rm av w rv post w1 mc ms := by
  intro sz
  refine Met.ofW (cc := cc) (maxL := maxL) (ret := ret) hy hw ?_
  intro p e s m args below meth c s₁ B hml hv
  obtain ⟨rfl, hsz, hP, hK, hD0, hE⟩ := hv
  subst hsz
  subst hlv
  have hl := lv_entry av (n := maxL) hln
  rw [lg_entry_eq]
  exact body p e s m av.toArray below meth c _ (va_A w.flatten s.heap.size) _ rfl B.exec B.bytes hml B.returns B.notSynchronized (name_of_methodNamed B.named B.method).1 (findClass_of_methodNamed B.named) (atoms_spec (ws := ws) B.pre) hK (fun q h => Or.inr h) hE ⟨hP, hD0.self, va_S.rf⟩ hl
section FR
variable {p : Program} {l : Launch} {e : Env} {R : Room} {s : State} {m : MethodId} {args : Array Value} {below : List Frame} {meth : Method} {c : Code} {H H0 : Heap} {locs : List Loc} {cells slots : Nat} {Q : State → Prop}
variable {cc : ByteArray} {pc : Nat} {ls : Array Slot} {rest : List Value} {D : va_G} {cl : List vw_C} {tys : List (ClassId × FieldType)} {A : Nat → Prop} {ss : List va_W}
theorem rt_i {S : Type} {v : Int32} {rv : Option Value} {post : S → Prop} {w1 : S → List va_W} (hQ : Q = RQ below D cl A args s rv post w1 cells slots) (hx : p.tables.exec = Jvm.exec) (hb : c.code = cc) (hr : meth.sig.returnType = some .int) (hlocks : meth.locks = false) (hW : Wo D cl A s.heap H locs ss) (hdg : decode cc pc = .ok (.ireturn, 1)) (u : S) (hv : rv = some (.int v)) (hp : post u) (hs : ss = w1 u) :
    W p l e R s m args below meth c H locs cells slots Q (F0 m pc ls [.int v]) := by
  subst hQ; subst hs; subst hv
  exact W.iret hx hb hr (fun t ht _ => ⟨⟨u, rfl, hp, by rw [ht]; exact hW.1, hW.2.1⟩, hW.2.2.F ht⟩) hW.2.2.2.2 hdg hlocks
theorem rt_z {S : Type} {v : Int32} {ty : FieldType} {rv : Option Value} {post : S → Prop} {w1 : S → List va_W} (hQ : Q = RQ below D cl A args s rv post w1 cells slots) (hx : p.tables.exec = Jvm.exec) (hb : c.code = cc) (hr : meth.sig.returnType = some ty) (hlocks : meth.locks = false) (hW : Wo D cl A s.heap H locs ss) (hdg : decode cc pc = .ok (.ireturn, 1)) (hn : narrow ty (.int v) = .int v) (u : S) (hv : rv = some (.int v)) (hp : post u) (hs : ss = w1 u) :
    W p l e R s m args below meth c H locs cells slots Q (F0 m pc ls [.int v]) := by
  subst hQ; subst hs; subst hv
  exact W.zret hx hb hr hn (fun t ht _ => ⟨⟨u, rfl, hp, by rw [ht]; exact hW.1, hW.2.1⟩, hW.2.2.F ht⟩) hW.2.2.2.2 hdg hlocks
theorem rt_l {S : Type} {v : Int64} {rv : Option Value} {post : S → Prop} {w1 : S → List va_W} (hQ : Q = RQ below D cl A args s rv post w1 cells slots) (hx : p.tables.exec = Jvm.exec) (hb : c.code = cc) (hr : meth.sig.returnType = some .long) (hlocks : meth.locks = false) (hW : Wo D cl A s.heap H locs ss) (hdg : decode cc pc = .ok (.lreturn, 1)) (u : S) (hv : rv = some (.long v)) (hp : post u) (hs : ss = w1 u) :
    W p l e R s m args below meth c H locs cells slots Q (F0 m pc ls [.long v]) := by
  subst hQ; subst hs; subst hv
  exact W.lret hx hb hr (fun t ht _ => ⟨⟨u, rfl, hp, by rw [ht]; exact hW.1, hW.2.1⟩, hW.2.2.F ht⟩) hW.2.2.2.2 hdg hlocks
theorem rt_v {S : Type} {rv : Option Value} {post : S → Prop} {w1 : S → List va_W} (hQ : Q = RQ below D cl A args s rv post w1 cells slots) (hx : p.tables.exec = Jvm.exec) (hb : c.code = cc) (hr : meth.sig.returnType = none) (hlocks : meth.locks = false) (hW : Wo D cl A s.heap H locs ss) (hdg : decode cc pc = .ok (.return_, 1)) (u : S) (hv : rv = none) (hp : post u) (hs : ss = w1 u) :
    W p l e R s m args below meth c H locs cells slots Q (F0 m pc ls []) := by
  subst hQ; subst hs; subst hv
  exact W.vret hx hb hr (fun t ht _ => ⟨⟨u, rfl, hp, by rw [ht]; exact hW.1, hW.2.1⟩, hW.2.2.F ht⟩) hW.2.2.2.2 hdg hlocks
/-- fields -/
theorem sg_get (hx : p.tables.exec = Jvm.exec) (hb : c.code = cc) {own C : String} {T : u_T} {N ci index a : Nat} {Ts : List Cond} (hts : ∀ w ∈ Ts, w.before args s = true) (hin : ∀ w ∈ u_ws C T N, w ∈ Ts) (hown : s.vm.findClass own = some m.cls) (hK : va_K D cl tys s) (hW : Wo D cl A H0 H locs ss) (i j : Nat) {seg : va_W} {fs : List Value} (hi : ss[i]? = some seg) (he : seg[j]? = some (a, .inr (ci, fs))) (hc : cl[ci]? = some (C, T, N)) (k : Nat) (hk : k < N) (hlink : (Cond.fieldLink own index (T k).1 (T k).2.1 (T k).2.2.1).before args s = true) {v : Value} (hv : fs[k]? = some v) (hdg : decode cc pc = .ok (.getfield index, 3))
    (kk : W p l e R s m args below meth c H locs cells slots Q (F0 m (pc + 3) ls (v :: rest))) : W p l e R s m args below meth c H locs cells slots Q (F0 m pc ls (.ref a :: rest)) := by
  obtain ⟨q0, h1, -⟩ := sg_at ss i j seg _ hi he
  exact va_get hx hb hts hin hown hK hW.1 q0 h1 hc k hk hlink (fun _ h => h) hv hdg kk
theorem sg_put (hx : p.tables.exec = Jvm.exec) (hb : c.code = cc) {own C : String} {T : u_T} {N ci index a : Nat} {Ts : List Cond} (hts : ∀ w ∈ Ts, w.before args s = true) (hin : ∀ w ∈ u_ws C T N, w ∈ Ts) (ty0 : Nat → FieldType) (hty : ∀ k, k < N → parseFieldDescriptor (T k).2.2.1 = some (ty0 k)) (hnm : ∀ a, a < N → ∀ b, b < N → a ≠ b → (T a).2.1 ≠ (T b).2.1) (hown : s.vm.findClass own = some m.cls) (hK : va_K D cl tys s) (hW : Wo D cl A H0 H locs ss) (i j : Nat) {seg : va_W} {fs : List Value} (hi : ss[i]? = some seg) (he : seg[j]? = some (a, .inr (ci, fs))) (hc : cl[ci]? = some (C, T, N)) (k : Nat) (hk : k < N) (hlink : (Cond.fieldLink own index (T k).1 (T k).2.1 (T k).2.2.1).before args s = true) (hfin : (T k).2.2.2 = false) {v : Value} (hn : narrow (ty0 k) v = v) (hfit : fits (ty0 k) v = true) (hl : k < fs.length) {seg' : va_W} (hs : seg.set j (a, .inr (ci, fs.set k v)) = seg') {ss' : List va_W} (hss : ss.set i seg' = ss')
    (hdg : decode cc pc = .ok (.putfield index, 3)) (kk : ∀ (H1 : Heap) (locs1 : List Loc), Wo D cl A H0 H1 locs1 ss' → W p l e R s m args below meth c H1 locs1 cells slots Q (F0 m (pc + 3) ls rest)) : W p l e R s m args below meth c H locs cells slots Q (F0 m pc ls (v :: .ref a :: rest)) := by
  obtain ⟨q0, h1, h2⟩ := sg_at ss i j seg _ hi he
  subst hss; subst hs
  refine va_put hx hb hts hin ty0 hty hnm hown hK hW.1 hW.2.1 hW.2.2 q0 h1 hc k hk hlink (fun _ h => h) hfin (hty k hk) hn hfit hl hdg (fun H1 locs1 hP hD hS => ?_)
  rw [h2] at hP hD
  exact kk H1 locs1 ⟨hP, hD, hS⟩
/-- rows of ints, of longs -/
theorem sg_ild (hx : p.tables.exec = Jvm.exec) (hb : c.code = cc) (hK : va_K D cl tys s) (hW : Wo D cl A H0 H locs ss) (i j t0 : Nat) {seg : va_W} {a n : Nat} {cA : ClassId} {f : Nat → Int32} (hi : ss[i]? = some seg) (he : seg[j]? = some (a, .inl (cA, n, .inl f))) (ht : tys[t0]? = some (cA, .int)) {x : Nat} {v : Int32} (hxn : x < n) (hn : n < 2 ^ 31) (hv : f x = v) (hdg : decode cc pc = .ok (.iaload, 1))
    (kk : W p l e R s m args below meth c H locs cells slots Q (F0 m (pc + 1) ls (.int v :: rest))) : W p l e R s m args below meth c H locs cells slots Q (F0 m pc ls (.int (nI x) :: .ref a :: rest)) := by
  obtain ⟨q0, h1, -⟩ := sg_at ss i j seg _ hi he
  refine va_iald hx hb hK hW.1 q0 t0 h1 ht (vp_in_nI hxn hn) hdg ?_
  rw [nI_clamp (by omega), hv]
  exact kk
theorem sg_lld (hx : p.tables.exec = Jvm.exec) (hb : c.code = cc) (hK : va_K D cl tys s) (hW : Wo D cl A H0 H locs ss) (i j t0 : Nat) {seg : va_W} {a n : Nat} {cA : ClassId} {f : Nat → Int64} (hi : ss[i]? = some seg) (he : seg[j]? = some (a, .inl (cA, n, .inr (.inl f)))) (ht : tys[t0]? = some (cA, .long)) {x : Nat} {v : Int64} (hxn : x < n) (hn : n < 2 ^ 31) (hv : f x = v) (hdg : decode cc pc = .ok (.laload, 1))
    (kk : W p l e R s m args below meth c H locs cells slots Q (F0 m (pc + 1) ls (.long v :: rest))) : W p l e R s m args below meth c H locs cells slots Q (F0 m pc ls (.int (nI x) :: .ref a :: rest)) := by
  obtain ⟨q0, h1, -⟩ := sg_at ss i j seg _ hi he
  refine va_lald hx hb hK hW.1 q0 t0 h1 ht (vp_in_nI hxn hn) hdg ?_
  rw [nI_clamp (by omega), hv]
  exact kk
theorem sg_ist (hx : p.tables.exec = Jvm.exec) (hb : c.code = cc) (hK : va_K D cl tys s) (hW : Wo D cl A H0 H locs ss) (i j t0 : Nat) {seg : va_W} {a n : Nat} {cA : ClassId} {f : Nat → Int32} (hi : ss[i]? = some seg) (he : seg[j]? = some (a, .inl (cA, n, .inl f))) (ht : tys[t0]? = some (cA, .int)) {x : Nat} {v : Int32} (hxn : x < n) (hn : n < 2 ^ 31) {seg' : va_W} (hs : seg.set j (a, .inl (cA, n, .inl (upd f x v))) = seg') {ss' : List va_W} (hss : ss.set i seg' = ss') (hdg : decode cc pc = .ok (.iastore, 1))
    (kk : ∀ (H1 : Heap) (locs1 : List Loc), Wo D cl A H0 H1 locs1 ss' → W p l e R s m args below meth c H1 locs1 cells slots Q (F0 m (pc + 1) ls rest)) : W p l e R s m args below meth c H locs cells slots Q (F0 m pc ls (.int v :: .int (nI x) :: .ref a :: rest)) := by
  obtain ⟨q0, h1, h2⟩ := sg_at ss i j seg _ hi he
  subst hss; subst hs
  refine va_iast hx hb hK hW.1 hW.2.1 hW.2.2 q0 t0 h1 ht (vp_in_nI hxn hn) hdg (fun H1 locs1 hP hD hS => ?_)
  rw [nI_clamp (by omega), h2] at hP hD
  exact kk H1 locs1 ⟨hP, hD, hS⟩
theorem sg_lst (hx : p.tables.exec = Jvm.exec) (hb : c.code = cc) (hK : va_K D cl tys s) (hW : Wo D cl A H0 H locs ss) (i j t0 : Nat) {seg : va_W} {a n : Nat} {cA : ClassId} {f : Nat → Int64} (hi : ss[i]? = some seg) (he : seg[j]? = some (a, .inl (cA, n, .inr (.inl f)))) (ht : tys[t0]? = some (cA, .long)) {x : Nat} {v : Int64} (hxn : x < n) (hn : n < 2 ^ 31) {seg' : va_W} (hs : seg.set j (a, .inl (cA, n, .inr (.inl (vp_updL f x v)))) = seg') {ss' : List va_W} (hss : ss.set i seg' = ss') (hdg : decode cc pc = .ok (.lastore, 1))
    (kk : ∀ (H1 : Heap) (locs1 : List Loc), Wo D cl A H0 H1 locs1 ss' → W p l e R s m args below meth c H1 locs1 cells slots Q (F0 m (pc + 1) ls rest)) : W p l e R s m args below meth c H locs cells slots Q (F0 m pc ls (.long v :: .int (nI x) :: .ref a :: rest)) := by
  obtain ⟨q0, h1, h2⟩ := sg_at ss i j seg _ hi he
  subst hss; subst hs
  refine va_last hx hb hK hW.1 hW.2.1 hW.2.2 q0 t0 h1 ht (vp_in_nI hxn hn) hdg (fun H1 locs1 hP hD hS => ?_)
  rw [nI_clamp (by omega), h2] at hP hD
  exact kk H1 locs1 ⟨hP, hD, hS⟩
/-- calls -/
theorem sg_call {E' : (Nat → Prop) → State → Heap → Prop} {y : MethodName} {wsy : List Cond} {rm : Room} {av rest st0 : List Value} {wcs : List va_W} {S : Type} {rv : Option Value} {post : S → Prop} {w1 : S → List va_W} {mc ms : Nat} (ss' : S → List va_W)
    (hr : va_Run p l e R s m args below meth c H locs cells slots mc ms (F0 m pc ls st0) rest (fun st oc t => (∃ u : S, oc = .returned rv ∧ post u ∧ va_P D cl (w1 u).flatten t.heap ∧ va_D (va_A wcs.flatten H.size) (w1 u).flatten) ∧ va_F (va_A wcs.flatten H.size) st t) (va_A wcs.flatten H.size))
    (hW : Wo D cl A H0 H locs ss) (hA : ∀ q, H0.size ≤ q → A q) (bs : List Bool) (h1 : sgT bs ss = wcs) (h2 : ∀ u, sgT bs (ss' u) = w1 u) (h3 : ∀ u, sgF bs (ss' u) = sgF bs ss)
    (kk : ∀ (u : S) (H1 : Heap) (locs1 : List Loc), post u → Wo D cl A H0 H1 locs1 (ss' u) → W p l e R s m args below meth c H1 locs1 (cells + mc) (slots + ms) Q (F0 m (pc + 3) ls (rv.toList ++ rest))) : W p l e R s m args below meth c H locs cells slots Q (F0 m pc ls st0) := by
  intro T hT X
  obtain ⟨v, st₀, t, T', L, h0, X', hL, e1, e2, ⟨⟨u, hv, hp, hP1, hD1⟩, hz, hk⟩, st⟩ := hr T hT X
  cases hv
  rw [h0] at hz hk
  have hF := hW.free hA bs h1
  have hk' : ∀ q : Nat, q < H.size → ¬ va_A wcs.flatten H.size q → T'.heap[q]? = H[q]? := fun q g1 g2 => by rw [e1]; exact hk q g1 g2
  have hj := sg_join bs h1 (h2 u) (h3 u) hW.1 hW.2.1 hk' hF (by rw [e1]; exact hP1) hD1
  obtain ⟨t2, a1, b1⟩ := kk u T'.heap (locs ++ L) hp ⟨hj.1, hj.2, ⟨Nat.le_trans hW.2.2.1 (by rw [e1]; exact hz), fun q g1 g2 => by
    rw [hk' q (Nat.lt_of_lt_of_le g1 hW.2.2.1) (fun z => g2 (hF q z))]; exact hW.2.2.2.1 q g1 g2, fun q hq => by
      rcases List.mem_append.mp hq with h | h
      · exact hW.2.2.2.2 q h
      · exact hF _ (hL q h)⟩⟩ T' rfl X'
  exact ⟨t2, st t2 a1, b1⟩
/-- a contract's start, from the caller's world -/
theorem sg_pre {E' : (Nat → Prop) → State → Heap → Prop} {av : List Value} {wcs : List va_W} (hEg : EGood E') (hK : va_K D cl tys s) (hW : Wo D cl A H0 H locs ss) (bs : List Bool) (h1 : sgT bs ss = wcs) (hE : E' (va_A wcs.flatten H.size) s H) :
    FrameBlind (va_Pc av (fun U => U.heap.size = H.size ∧ va_P D cl wcs.flatten U.heap ∧ va_K D cl tys U ∧ va_D (fun _ => True) wcs.flatten ∧ E' (va_A wcs.flatten H.size) U U.heap)) ∧ ∀ U : State, U.heap = H → s.WarmedH U.vm → va_Pc av (fun U => U.heap.size = H.size ∧ va_P D cl wcs.flatten U.heap ∧ va_K D cl tys U ∧ va_D (fun _ => True) wcs.flatten ∧ E' (va_A wcs.flatten H.size) U U.heap) av.toArray U := by
  obtain ⟨hP, hD⟩ := hW.part bs h1
  refine ⟨fun a U g mk q => ?_, fun U hU hWm => ⟨rfl, by rw [hU], by rw [hU]; exact hP, va_K.moved hWm.alike hK, hD.weaken (fun _ _ _ _ => trivial), by rw [hU]; exact hEg.1 _ _ _ _ hWm.alike hE⟩⟩
  obtain ⟨q0, q1, qP, qK, qD, qE⟩ := q
  exact ⟨q0, q1, qP, va_K.moved (u := U) (U := U.calling g mk a) (Vm.Alike.refl U.vm) qK, qD, hEg.1 _ _ _ _ (Vm.Alike.refl U.vm) qE⟩
theorem cl_Vi {E' : (Nat → Prop) → State → Heap → Prop} {y : MethodName} {wsy Ts : List Cond} {rm : Room} {own : String} {b : Nat} {C : String} {index maxL nL n : Nat} {bytes : ByteArray} {ret : Option FieldType} {As rest st0 : List Value} {wcs : List va_W} {S : Type} {r : Int32} {post : S → Prop} {w1 : S → List va_W}
    (B : CallFix p m c cc nL s args Ts own) (hM : CE E' l D cl tys y wsy rm (.ref b :: As) wcs (some (.int r)) post w1 0 0) (cw : CallW R s args own C index y bytes maxL ret wsy rm 0 0 n) (hEg : EGood E') (hK : va_K D cl tys s) (hA : ∀ q, H0.size ≤ q → A q) (hW : Wo D cl A H0 H locs ss) (hE : E' (va_A wcs.flatten H.size) s H) (bs : List Bool) (ss' : S → List va_W) (h1 : sgT bs ss = wcs) (h2 : ∀ u, sgT bs (ss' u) = w1 u) (h3 : ∀ u, sgF bs (ss' u) = sgF bs ss) (i j : Nat) {seg : va_W} {fs : List Value} {ci N : Nat} {T : u_T} (hi : ss[i]? = some seg) (he : seg[j]? = some (b, .inr (ci, fs))) (hc : cl[ci]? = some (C, T, N)) (hn : As.length = n) (hsz : ls.size = nL) (hst : st0 = As.reverse ++ .ref b :: rest) (hrm : 2 * (F0 m pc ls st0).monitorRoom + (rest.map fun v => v.category).sum ≤ 8) (hdg : decode cc pc = .ok (.invokevirtual index, 3)) (hf : cells + 0 ≤ R.cells ∧ slots + 0 ≤ R.slots)
    (kk : ∀ (u : S) (H1 : Heap) (locs1 : List Loc), post u → Wo D cl A H0 H1 locs1 (ss' u) → W p l e R s m args below meth c H1 locs1 cells slots Q (F0 m (pc + 3) ls (.int r :: rest))) : W p l e R s m args below meth c H locs cells slots Q (F0 m pc ls st0) := by
  obtain ⟨q0, g1, -⟩ := sg_at ss i j seg _ hi he
  have hpre := sg_pre (av := .ref b :: As) hEg hK hW bs h1 hE
  refine sg_call (E' := E') (y := y) (wsy := wsy) (rm := rm) (av := .ref b :: As) ss' (va_runV (As := As) (rest := rest) B (hM H.size) cw ⟨hpre.1, va_recv hK hW.1 hc g1, hpre.2⟩ rfl hn hsz hst hrm hdg hf) hW hA bs h1 h2 h3 (fun u H1 locs1 hp hW1 => ?_)
  exact kk u H1 locs1 hp hW1
theorem cl_Vl {E' : (Nat → Prop) → State → Heap → Prop} {y : MethodName} {wsy Ts : List Cond} {rm : Room} {own : String} {b : Nat} {C : String} {index maxL nL n : Nat} {bytes : ByteArray} {ret : Option FieldType} {As rest st0 : List Value} {wcs : List va_W} {S : Type} {r : Int64} {post : S → Prop} {w1 : S → List va_W}
    (B : CallFix p m c cc nL s args Ts own) (hM : CE E' l D cl tys y wsy rm (.ref b :: As) wcs (some (.long r)) post w1 0 0) (cw : CallW R s args own C index y bytes maxL ret wsy rm 0 0 n) (hEg : EGood E') (hK : va_K D cl tys s) (hA : ∀ q, H0.size ≤ q → A q) (hW : Wo D cl A H0 H locs ss) (hE : E' (va_A wcs.flatten H.size) s H) (bs : List Bool) (ss' : S → List va_W) (h1 : sgT bs ss = wcs) (h2 : ∀ u, sgT bs (ss' u) = w1 u) (h3 : ∀ u, sgF bs (ss' u) = sgF bs ss) (i j : Nat) {seg : va_W} {fs : List Value} {ci N : Nat} {T : u_T} (hi : ss[i]? = some seg) (he : seg[j]? = some (b, .inr (ci, fs))) (hc : cl[ci]? = some (C, T, N)) (hn : As.length = n) (hsz : ls.size = nL) (hst : st0 = As.reverse ++ .ref b :: rest) (hrm : 2 * (F0 m pc ls st0).monitorRoom + (rest.map fun v => v.category).sum ≤ 8) (hdg : decode cc pc = .ok (.invokevirtual index, 3)) (hf : cells + 0 ≤ R.cells ∧ slots + 0 ≤ R.slots)
    (kk : ∀ (u : S) (H1 : Heap) (locs1 : List Loc), post u → Wo D cl A H0 H1 locs1 (ss' u) → W p l e R s m args below meth c H1 locs1 cells slots Q (F0 m (pc + 3) ls (.long r :: rest))) : W p l e R s m args below meth c H locs cells slots Q (F0 m pc ls st0) := by
  obtain ⟨q0, g1, -⟩ := sg_at ss i j seg _ hi he
  have hpre := sg_pre (av := .ref b :: As) hEg hK hW bs h1 hE
  refine sg_call (E' := E') (y := y) (wsy := wsy) (rm := rm) (av := .ref b :: As) ss' (va_runV (As := As) (rest := rest) B (hM H.size) cw ⟨hpre.1, va_recv hK hW.1 hc g1, hpre.2⟩ rfl hn hsz hst hrm hdg hf) hW hA bs h1 h2 h3 (fun u H1 locs1 hp hW1 => ?_)
  exact kk u H1 locs1 hp hW1
theorem cl_Vv {E' : (Nat → Prop) → State → Heap → Prop} {y : MethodName} {wsy Ts : List Cond} {rm : Room} {own : String} {b : Nat} {C : String} {index maxL nL n : Nat} {bytes : ByteArray} {ret : Option FieldType} {As rest st0 : List Value} {wcs : List va_W} {S : Type} {post : S → Prop} {w1 : S → List va_W}
    (B : CallFix p m c cc nL s args Ts own) (hM : CE E' l D cl tys y wsy rm (.ref b :: As) wcs none post w1 0 0) (cw : CallW R s args own C index y bytes maxL ret wsy rm 0 0 n) (hEg : EGood E') (hK : va_K D cl tys s) (hA : ∀ q, H0.size ≤ q → A q) (hW : Wo D cl A H0 H locs ss) (hE : E' (va_A wcs.flatten H.size) s H) (bs : List Bool) (ss' : S → List va_W) (h1 : sgT bs ss = wcs) (h2 : ∀ u, sgT bs (ss' u) = w1 u) (h3 : ∀ u, sgF bs (ss' u) = sgF bs ss) (i j : Nat) {seg : va_W} {fs : List Value} {ci N : Nat} {T : u_T} (hi : ss[i]? = some seg) (he : seg[j]? = some (b, .inr (ci, fs))) (hc : cl[ci]? = some (C, T, N)) (hn : As.length = n) (hsz : ls.size = nL) (hst : st0 = As.reverse ++ .ref b :: rest) (hrm : 2 * (F0 m pc ls st0).monitorRoom + (rest.map fun v => v.category).sum ≤ 8) (hdg : decode cc pc = .ok (.invokevirtual index, 3)) (hf : cells + 0 ≤ R.cells ∧ slots + 0 ≤ R.slots)
    (kk : ∀ (u : S) (H1 : Heap) (locs1 : List Loc), post u → Wo D cl A H0 H1 locs1 (ss' u) → W p l e R s m args below meth c H1 locs1 cells slots Q (F0 m (pc + 3) ls (rest))) : W p l e R s m args below meth c H locs cells slots Q (F0 m pc ls st0) := by
  obtain ⟨q0, g1, -⟩ := sg_at ss i j seg _ hi he
  have hpre := sg_pre (av := .ref b :: As) hEg hK hW bs h1 hE
  refine sg_call (E' := E') (y := y) (wsy := wsy) (rm := rm) (av := .ref b :: As) ss' (va_runV (As := As) (rest := rest) B (hM H.size) cw ⟨hpre.1, va_recv hK hW.1 hc g1, hpre.2⟩ rfl hn hsz hst hrm hdg hf) hW hA bs h1 h2 h3 (fun u H1 locs1 hp hW1 => ?_)
  exact kk u H1 locs1 hp hW1
theorem cl_Si {E' : (Nat → Prop) → State → Heap → Prop} {y : MethodName} {wsy Ts : List Cond} {rm : Room} {own : String} {index maxL nL n : Nat} {bytes : ByteArray} {ret : Option FieldType} {As rest st0 : List Value} {wcs : List va_W} {S : Type} {r : Int32} {post : S → Prop} {w1 : S → List va_W}
    (B : CallFix p m c cc nL s args Ts own) (hM : CE E' l D cl tys y wsy rm As wcs (some (.int r)) post w1 0 0) (cw : CallB R s args own index y bytes maxL ret wsy rm 0 0 n ∧ (Cond.static y).before args s = true) (hEg : EGood E') (hK : va_K D cl tys s) (hA : ∀ q, H0.size ≤ q → A q) (hW : Wo D cl A H0 H locs ss) (hE : E' (va_A wcs.flatten H.size) s H) (bs : List Bool) (ss' : S → List va_W) (h1 : sgT bs ss = wcs) (h2 : ∀ u, sgT bs (ss' u) = w1 u) (h3 : ∀ u, sgF bs (ss' u) = sgF bs ss) (hn : As.length = n) (hsz : ls.size = nL) (hst : st0 = As.reverse ++ rest) (hrm : 2 * (F0 m pc ls st0).monitorRoom + (rest.map fun v => v.category).sum ≤ 8) (hdg : decode cc pc = .ok (.invokestatic index, 3)) (hf : cells + 0 ≤ R.cells ∧ slots + 0 ≤ R.slots)
    (kk : ∀ (u : S) (H1 : Heap) (locs1 : List Loc), post u → Wo D cl A H0 H1 locs1 (ss' u) → W p l e R s m args below meth c H1 locs1 cells slots Q (F0 m (pc + 3) ls (.int r :: rest))) : W p l e R s m args below meth c H locs cells slots Q (F0 m pc ls st0) := by
  have hpre := sg_pre (av := As) hEg hK hW bs h1 hE
  refine sg_call (E' := E') (y := y) (wsy := wsy) (rm := rm) (av := As) ss' (va_runS (As := As) (rest := rest) B (hM H.size) cw hpre rfl hn hsz hst hrm hdg hf) hW hA bs h1 h2 h3 (fun u H1 locs1 hp hW1 => ?_)
  exact kk u H1 locs1 hp hW1
theorem cl_Sl {E' : (Nat → Prop) → State → Heap → Prop} {y : MethodName} {wsy Ts : List Cond} {rm : Room} {own : String} {index maxL nL n : Nat} {bytes : ByteArray} {ret : Option FieldType} {As rest st0 : List Value} {wcs : List va_W} {S : Type} {r : Int64} {post : S → Prop} {w1 : S → List va_W}
    (B : CallFix p m c cc nL s args Ts own) (hM : CE E' l D cl tys y wsy rm As wcs (some (.long r)) post w1 0 0) (cw : CallB R s args own index y bytes maxL ret wsy rm 0 0 n ∧ (Cond.static y).before args s = true) (hEg : EGood E') (hK : va_K D cl tys s) (hA : ∀ q, H0.size ≤ q → A q) (hW : Wo D cl A H0 H locs ss) (hE : E' (va_A wcs.flatten H.size) s H) (bs : List Bool) (ss' : S → List va_W) (h1 : sgT bs ss = wcs) (h2 : ∀ u, sgT bs (ss' u) = w1 u) (h3 : ∀ u, sgF bs (ss' u) = sgF bs ss) (hn : As.length = n) (hsz : ls.size = nL) (hst : st0 = As.reverse ++ rest) (hrm : 2 * (F0 m pc ls st0).monitorRoom + (rest.map fun v => v.category).sum ≤ 8) (hdg : decode cc pc = .ok (.invokestatic index, 3)) (hf : cells + 0 ≤ R.cells ∧ slots + 0 ≤ R.slots)
    (kk : ∀ (u : S) (H1 : Heap) (locs1 : List Loc), post u → Wo D cl A H0 H1 locs1 (ss' u) → W p l e R s m args below meth c H1 locs1 cells slots Q (F0 m (pc + 3) ls (.long r :: rest))) : W p l e R s m args below meth c H locs cells slots Q (F0 m pc ls st0) := by
  have hpre := sg_pre (av := As) hEg hK hW bs h1 hE
  refine sg_call (E' := E') (y := y) (wsy := wsy) (rm := rm) (av := As) ss' (va_runS (As := As) (rest := rest) B (hM H.size) cw hpre rfl hn hsz hst hrm hdg hf) hW hA bs h1 h2 h3 (fun u H1 locs1 hp hW1 => ?_)
  exact kk u H1 locs1 hp hW1
theorem cl_Sv {E' : (Nat → Prop) → State → Heap → Prop} {y : MethodName} {wsy Ts : List Cond} {rm : Room} {own : String} {index maxL nL n : Nat} {bytes : ByteArray} {ret : Option FieldType} {As rest st0 : List Value} {wcs : List va_W} {S : Type} {post : S → Prop} {w1 : S → List va_W}
    (B : CallFix p m c cc nL s args Ts own) (hM : CE E' l D cl tys y wsy rm As wcs none post w1 0 0) (cw : CallB R s args own index y bytes maxL ret wsy rm 0 0 n ∧ (Cond.static y).before args s = true) (hEg : EGood E') (hK : va_K D cl tys s) (hA : ∀ q, H0.size ≤ q → A q) (hW : Wo D cl A H0 H locs ss) (hE : E' (va_A wcs.flatten H.size) s H) (bs : List Bool) (ss' : S → List va_W) (h1 : sgT bs ss = wcs) (h2 : ∀ u, sgT bs (ss' u) = w1 u) (h3 : ∀ u, sgF bs (ss' u) = sgF bs ss) (hn : As.length = n) (hsz : ls.size = nL) (hst : st0 = As.reverse ++ rest) (hrm : 2 * (F0 m pc ls st0).monitorRoom + (rest.map fun v => v.category).sum ≤ 8) (hdg : decode cc pc = .ok (.invokestatic index, 3)) (hf : cells + 0 ≤ R.cells ∧ slots + 0 ≤ R.slots)
    (kk : ∀ (u : S) (H1 : Heap) (locs1 : List Loc), post u → Wo D cl A H0 H1 locs1 (ss' u) → W p l e R s m args below meth c H1 locs1 cells slots Q (F0 m (pc + 3) ls (rest))) : W p l e R s m args below meth c H locs cells slots Q (F0 m pc ls st0) := by
  have hpre := sg_pre (av := As) hEg hK hW bs h1 hE
  refine sg_call (E' := E') (y := y) (wsy := wsy) (rm := rm) (av := As) ss' (va_runS (As := As) (rest := rest) B (hM H.size) cw hpre rfl hn hsz hst hrm hdg hf) hW hA bs h1 h2 h3 (fun u H1 locs1 hp hW1 => ?_)
  exact kk u H1 locs1 hp hW1
end FR
/-! ===== numbers that are natural: the machine's rows for them ===== -/
section NN
variable {p : Program} {l : Launch} {e : Env} {R : Room} {s : State} {m : MethodId} {args : Array Value} {below : List Frame} {meth : Method} {c : Code} {H : Heap} {locs : List Loc} {cells slots : Nat} {Q : State → Prop}
variable {cc : ByteArray} {pc : Nat} {ls : Array Slot} {rest : List Value}
theorem W.top {v v' : Value} (h : v = v') (k : W p l e R s m args below meth c H locs cells slots Q (F0 m pc ls (v' :: rest))) : W p l e R s m args below meth c H locs cells slots Q (F0 m pc ls (v :: rest)) := by rw [h]; exact k
theorem nn_add (hx : p.tables.exec = Jvm.exec) (hb : c.code = cc) {a b : Nat} (hdg : decode cc pc = .ok (.iadd, 1)) (k : W p l e R s m args below meth c H locs cells slots Q (F0 m (pc + 1) ls (.int (nI (a + b)) :: rest))) : W p l e R s m args below meth c H locs cells slots Q (F0 m pc ls (.int (nI b) :: .int (nI a) :: rest)) :=
  lv_iadd hx hb hdg (by rw [nI_add]; exact k)
theorem nn_sub (hx : p.tables.exec = Jvm.exec) (hb : c.code = cc) {a b : Nat} (hdg : decode cc pc = .ok (.isub, 1)) (h : b ≤ a) (k : W p l e R s m args below meth c H locs cells slots Q (F0 m (pc + 1) ls (.int (nI (a - b)) :: rest))) : W p l e R s m args below meth c H locs cells slots Q (F0 m pc ls (.int (nI b) :: .int (nI a) :: rest)) :=
  lv_isub hx hb hdg (by rw [pk_sub h]; exact k)
theorem nn_mul (hx : p.tables.exec = Jvm.exec) (hb : c.code = cc) {a b : Nat} (hdg : decode cc pc = .ok (.imul, 1)) (k : W p l e R s m args below meth c H locs cells slots Q (F0 m (pc + 1) ls (.int (nI (a * b)) :: rest))) : W p l e R s m args below meth c H locs cells slots Q (F0 m pc ls (.int (nI b) :: .int (nI a) :: rest)) :=
  lv_imul hx hb hdg (by rw [pk_mul]; exact k)
theorem nn_div (hx : p.tables.exec = Jvm.exec) (hb : c.code = cc) {a b : Nat} (hdg : decode cc pc = .ok (.idiv, 1)) (ha : a < 2 ^ 31) (h0 : 0 < b) (hB : b < 2 ^ 31) (k : W p l e R s m args below meth c H locs cells slots Q (F0 m (pc + 1) ls (.int (nI (a / b)) :: rest))) : W p l e R s m args below meth c H locs cells slots Q (F0 m pc ls (.int (nI b) :: .int (nI a) :: rest)) :=
  lv_idiv hx hb hdg (nI_ne0 h0 hB) (by rw [pk_div ha h0 hB]; exact k)
theorem nn_rem (hx : p.tables.exec = Jvm.exec) (hb : c.code = cc) {a b : Nat} (hdg : decode cc pc = .ok (.irem, 1)) (ha : a < 2 ^ 31) (h0 : 0 < b) (hB : b < 2 ^ 31) (k : W p l e R s m args below meth c H locs cells slots Q (F0 m (pc + 1) ls (.int (nI (a % b)) :: rest))) : W p l e R s m args below meth c H locs cells slots Q (F0 m pc ls (.int (nI b) :: .int (nI a) :: rest)) :=
  lv_irem hx hb hdg (nI_ne0 h0 hB) (by rw [pk_rem ha h0 hB]; exact k)
theorem nn_ceq (hx : p.tables.exec = Jvm.exec) (hb : c.code = cc) {a b : Nat} {off : Int} {tgt : Nat} (hdg : decode cc pc = .ok (.if_icmp .eq off, 3)) (ht : (pc : Int) + off = (tgt : Int)) (ha : a < 2 ^ 31) (hB : b < 2 ^ 31)
    (kt : a = b → W p l e R s m args below meth c H locs cells slots Q (F0 m tgt ls rest)) (kf : ¬ (a = b) → W p l e R s m args below meth c H locs cells slots Q (F0 m (pc + 3) ls rest)) : W p l e R s m args below meth c H locs cells slots Q (F0 m pc ls (.int (nI b) :: .int (nI a) :: rest)) :=
  lv_icmp_eq hx hb hdg ht (fun h => kt ((nI_eq ha hB).mp h)) (fun h => kf (fun q => h ((nI_eq ha hB).mpr q)))
theorem nn_cne (hx : p.tables.exec = Jvm.exec) (hb : c.code = cc) {a b : Nat} {off : Int} {tgt : Nat} (hdg : decode cc pc = .ok (.if_icmp .ne off, 3)) (ht : (pc : Int) + off = (tgt : Int)) (ha : a < 2 ^ 31) (hB : b < 2 ^ 31)
    (kt : ¬ a = b → W p l e R s m args below meth c H locs cells slots Q (F0 m tgt ls rest)) (kf : a = b → W p l e R s m args below meth c H locs cells slots Q (F0 m (pc + 3) ls rest)) : W p l e R s m args below meth c H locs cells slots Q (F0 m pc ls (.int (nI b) :: .int (nI a) :: rest)) :=
  lv_icmp_ne hx hb hdg ht (fun h => kt (fun q => h (congrArg nI q))) (fun h => kf ((nI_eq ha hB).mp h))
theorem nn_clt (hx : p.tables.exec = Jvm.exec) (hb : c.code = cc) {a b : Nat} {off : Int} {tgt : Nat} (hdg : decode cc pc = .ok (.if_icmp .lt off, 3)) (ht : (pc : Int) + off = (tgt : Int)) (ha : a < 2 ^ 31) (hB : b < 2 ^ 31)
    (kt : a < b → W p l e R s m args below meth c H locs cells slots Q (F0 m tgt ls rest)) (kf : ¬ (a < b) → W p l e R s m args below meth c H locs cells slots Q (F0 m (pc + 3) ls rest)) : W p l e R s m args below meth c H locs cells slots Q (F0 m pc ls (.int (nI b) :: .int (nI a) :: rest)) :=
  lv_icmp_lt hx hb hdg ht (fun h => kt ((nI_ltI ha hB).mp h)) (fun h => kf (fun q => h ((nI_ltI ha hB).mpr q)))
theorem nn_cge (hx : p.tables.exec = Jvm.exec) (hb : c.code = cc) {a b : Nat} {off : Int} {tgt : Nat} (hdg : decode cc pc = .ok (.if_icmp .ge off, 3)) (ht : (pc : Int) + off = (tgt : Int)) (ha : a < 2 ^ 31) (hB : b < 2 ^ 31)
    (kt : b ≤ a → W p l e R s m args below meth c H locs cells slots Q (F0 m tgt ls rest)) (kf : ¬ (b ≤ a) → W p l e R s m args below meth c H locs cells slots Q (F0 m (pc + 3) ls rest)) : W p l e R s m args below meth c H locs cells slots Q (F0 m pc ls (.int (nI b) :: .int (nI a) :: rest)) :=
  lv_icmp_ge hx hb hdg ht (fun h => kt ((nI_leI hB ha).mp h)) (fun h => kf (fun q => h ((nI_leI hB ha).mpr q)))
theorem nn_cgt (hx : p.tables.exec = Jvm.exec) (hb : c.code = cc) {a b : Nat} {off : Int} {tgt : Nat} (hdg : decode cc pc = .ok (.if_icmp .gt off, 3)) (ht : (pc : Int) + off = (tgt : Int)) (ha : a < 2 ^ 31) (hB : b < 2 ^ 31)
    (kt : b < a → W p l e R s m args below meth c H locs cells slots Q (F0 m tgt ls rest)) (kf : ¬ (b < a) → W p l e R s m args below meth c H locs cells slots Q (F0 m (pc + 3) ls rest)) : W p l e R s m args below meth c H locs cells slots Q (F0 m pc ls (.int (nI b) :: .int (nI a) :: rest)) :=
  lv_icmp_gt hx hb hdg ht (fun h => kt ((nI_ltI hB ha).mp h)) (fun h => kf (fun q => h ((nI_ltI hB ha).mpr q)))
theorem nn_cle (hx : p.tables.exec = Jvm.exec) (hb : c.code = cc) {a b : Nat} {off : Int} {tgt : Nat} (hdg : decode cc pc = .ok (.if_icmp .le off, 3)) (ht : (pc : Int) + off = (tgt : Int)) (ha : a < 2 ^ 31) (hB : b < 2 ^ 31)
    (kt : a ≤ b → W p l e R s m args below meth c H locs cells slots Q (F0 m tgt ls rest)) (kf : ¬ (a ≤ b) → W p l e R s m args below meth c H locs cells slots Q (F0 m (pc + 3) ls rest)) : W p l e R s m args below meth c H locs cells slots Q (F0 m pc ls (.int (nI b) :: .int (nI a) :: rest)) :=
  lv_icmp_le hx hb hdg ht (fun h => kt ((nI_leI ha hB).mp h)) (fun h => kf (fun q => h ((nI_leI ha hB).mpr q)))
theorem nn_zeq (hx : p.tables.exec = Jvm.exec) (hb : c.code = cc) {a : Nat} {off : Int} {tgt : Nat} (hdg : decode cc pc = .ok (.ifCond .eq off, 3)) (ht : (pc : Int) + off = (tgt : Int)) (ha : a < 2 ^ 31)
    (kt : a = 0 → W p l e R s m args below meth c H locs cells slots Q (F0 m tgt ls rest)) (kf : ¬ (a = 0) → W p l e R s m args below meth c H locs cells slots Q (F0 m (pc + 3) ls rest)) : W p l e R s m args below meth c H locs cells slots Q (F0 m pc ls (.int (nI a) :: rest)) :=
  lv_if_eq hx hb hdg ht (fun h => kt ((nI_eq (b := 0) ha (by decide)).mp h)) (fun h => kf (fun q => h ((nI_eq (b := 0) ha (by decide)).mpr q)))
theorem nn_zne (hx : p.tables.exec = Jvm.exec) (hb : c.code = cc) {a : Nat} {off : Int} {tgt : Nat} (hdg : decode cc pc = .ok (.ifCond .ne off, 3)) (ht : (pc : Int) + off = (tgt : Int)) (ha : a < 2 ^ 31)
    (kt : ¬ a = 0 → W p l e R s m args below meth c H locs cells slots Q (F0 m tgt ls rest)) (kf : a = 0 → W p l e R s m args below meth c H locs cells slots Q (F0 m (pc + 3) ls rest)) : W p l e R s m args below meth c H locs cells slots Q (F0 m pc ls (.int (nI a) :: rest)) :=
  lv_if_ne hx hb hdg ht (fun h => kt (fun q => h (by rw [q]; exact nI_0))) (fun h => kf ((nI_eq (b := 0) ha (by decide)).mp h))
theorem nn_zlt (hx : p.tables.exec = Jvm.exec) (hb : c.code = cc) {a : Nat} {off : Int} {tgt : Nat} (hdg : decode cc pc = .ok (.ifCond .lt off, 3)) (ht : (pc : Int) + off = (tgt : Int)) (ha : a < 2 ^ 31)
    (kt : a < 0 → W p l e R s m args below meth c H locs cells slots Q (F0 m tgt ls rest)) (kf : ¬ (a < 0) → W p l e R s m args below meth c H locs cells slots Q (F0 m (pc + 3) ls rest)) : W p l e R s m args below meth c H locs cells slots Q (F0 m pc ls (.int (nI a) :: rest)) :=
  lv_if_lt hx hb hdg ht (fun h => kt ((nI_ltI (b := 0) ha (by decide)).mp h)) (fun h => kf (fun q => h ((nI_ltI (b := 0) ha (by decide)).mpr q)))
theorem nn_zge (hx : p.tables.exec = Jvm.exec) (hb : c.code = cc) {a : Nat} {off : Int} {tgt : Nat} (hdg : decode cc pc = .ok (.ifCond .ge off, 3)) (ht : (pc : Int) + off = (tgt : Int)) (ha : a < 2 ^ 31)
    (kt : 0 ≤ a → W p l e R s m args below meth c H locs cells slots Q (F0 m tgt ls rest)) (kf : ¬ (0 ≤ a) → W p l e R s m args below meth c H locs cells slots Q (F0 m (pc + 3) ls rest)) : W p l e R s m args below meth c H locs cells slots Q (F0 m pc ls (.int (nI a) :: rest)) :=
  lv_if_ge hx hb hdg ht (fun h => kt ((nI_leI (a := 0) (by decide) ha).mp h)) (fun h => kf (fun q => h ((nI_leI (a := 0) (by decide) ha).mpr q)))
theorem nn_zgt (hx : p.tables.exec = Jvm.exec) (hb : c.code = cc) {a : Nat} {off : Int} {tgt : Nat} (hdg : decode cc pc = .ok (.ifCond .gt off, 3)) (ht : (pc : Int) + off = (tgt : Int)) (ha : a < 2 ^ 31)
    (kt : 0 < a → W p l e R s m args below meth c H locs cells slots Q (F0 m tgt ls rest)) (kf : ¬ (0 < a) → W p l e R s m args below meth c H locs cells slots Q (F0 m (pc + 3) ls rest)) : W p l e R s m args below meth c H locs cells slots Q (F0 m pc ls (.int (nI a) :: rest)) :=
  lv_if_gt hx hb hdg ht (fun h => kt ((nI_ltI (a := 0) (by decide) ha).mp h)) (fun h => kf (fun q => h ((nI_ltI (a := 0) (by decide) ha).mpr q)))
theorem nn_zle (hx : p.tables.exec = Jvm.exec) (hb : c.code = cc) {a : Nat} {off : Int} {tgt : Nat} (hdg : decode cc pc = .ok (.ifCond .le off, 3)) (ht : (pc : Int) + off = (tgt : Int)) (ha : a < 2 ^ 31)
    (kt : a ≤ 0 → W p l e R s m args below meth c H locs cells slots Q (F0 m tgt ls rest)) (kf : ¬ (a ≤ 0) → W p l e R s m args below meth c H locs cells slots Q (F0 m (pc + 3) ls rest)) : W p l e R s m args below meth c H locs cells slots Q (F0 m pc ls (.int (nI a) :: rest)) :=
  lv_if_le hx hb hdg ht (fun h => kt ((nI_leI (b := 0) ha (by decide)).mp h)) (fun h => kf (fun q => h ((nI_leI (b := 0) ha (by decide)).mpr q)))
theorem nx_sh : ∀ n, n < 32 → ((nI n &&& 31).toBitVec.smod 32).toNat = n := by decide +kernel
theorem nx_and2 (a b : Nat) : nI a &&& nI b = nI (a &&& b) := by
  apply Int32.toBitVec.inj
  show BitVec.ofNat 32 a &&& BitVec.ofNat 32 b = BitVec.ofNat 32 (a &&& b)
  exact BitVec.ofNat_and.symm
theorem nx_or2 (a b : Nat) : nI a ||| nI b = nI (a ||| b) := by
  apply Int32.toBitVec.inj
  show BitVec.ofNat 32 a ||| BitVec.ofNat 32 b = BitVec.ofNat 32 (a ||| b)
  exact BitVec.ofNat_or.symm
theorem nx_xor2 (a b : Nat) : nI a ^^^ nI b = nI (a ^^^ b) := by
  apply Int32.toBitVec.inj
  show BitVec.ofNat 32 a ^^^ BitVec.ofNat 32 b = BitVec.ofNat 32 (a ^^^ b)
  exact BitVec.ofNat_xor.symm
theorem nn_and (hx : p.tables.exec = Jvm.exec) (hb : c.code = cc) {a b : Nat} (hdg : decode cc pc = .ok (.iand, 1)) (k : W p l e R s m args below meth c H locs cells slots Q (F0 m (pc + 1) ls (.int (nI (a &&& b)) :: rest))) : W p l e R s m args below meth c H locs cells slots Q (F0 m pc ls (.int (nI b) :: .int (nI a) :: rest)) :=
  lv_iand hx hb hdg (by rw [nx_and2]; exact k)
theorem nn_or (hx : p.tables.exec = Jvm.exec) (hb : c.code = cc) {a b : Nat} (hdg : decode cc pc = .ok (.ior, 1)) (k : W p l e R s m args below meth c H locs cells slots Q (F0 m (pc + 1) ls (.int (nI (a ||| b)) :: rest))) : W p l e R s m args below meth c H locs cells slots Q (F0 m pc ls (.int (nI b) :: .int (nI a) :: rest)) :=
  lv_ior hx hb hdg (by rw [nx_or2]; exact k)
theorem nn_xor (hx : p.tables.exec = Jvm.exec) (hb : c.code = cc) {a b : Nat} (hdg : decode cc pc = .ok (.ixor, 1)) (k : W p l e R s m args below meth c H locs cells slots Q (F0 m (pc + 1) ls (.int (nI (a ^^^ b)) :: rest))) : W p l e R s m args below meth c H locs cells slots Q (F0 m pc ls (.int (nI b) :: .int (nI a) :: rest)) :=
  lv_ixor hx hb hdg (by rw [nx_xor2]; exact k)
theorem nn_shl (hx : p.tables.exec = Jvm.exec) (hb : c.code = cc) {a b : Nat} (hdg : decode cc pc = .ok (.ishl, 1)) (hB : b < 32) (k : W p l e R s m args below meth c H locs cells slots Q (F0 m (pc + 1) ls (.int (nI (a * 2 ^ b)) :: rest))) : W p l e R s m args below meth c H locs cells slots Q (F0 m pc ls (.int (nI b) :: .int (nI a) :: rest)) := by
  refine lv_ishl hx hb hdg ?_
  have e : nI a <<< (nI b &&& 31) = nI (a * 2 ^ b) := by
    apply Int32.toBitVec.inj
    apply BitVec.eq_of_toNat_eq
    rw [pk_shl (nI a) _ b (nx_sh b hB)]
    show (BitVec.ofNat 32 a).toNat * 2 ^ b % 2 ^ 32 = (BitVec.ofNat 32 (a * 2 ^ b)).toNat
    rw [BitVec.toNat_ofNat, BitVec.toNat_ofNat, Nat.mod_mul_mod]
  rw [e]; exact k
theorem nn_shr (hx : p.tables.exec = Jvm.exec) (hb : c.code = cc) {a b : Nat} (hdg : decode cc pc = .ok (.ishr, 1)) (ha : a < 2 ^ 31) (hB : b < 32) (k : W p l e R s m args below meth c H locs cells slots Q (F0 m (pc + 1) ls (.int (nI (a / 2 ^ b)) :: rest))) : W p l e R s m args below meth c H locs cells slots Q (F0 m pc ls (.int (nI b) :: .int (nI a) :: rest)) :=
  lv_ishr hx hb hdg (by rw [pk_shrN ha _ b (nx_sh b hB)]; exact k)
theorem nn_max {a b : Nat} (ha : a < 2 ^ 31) (hB : b < 2 ^ 31) : Value.int (if nI a < nI b then nI b else nI a) = Value.int (nI (max a b)) := by
  congr 1
  by_cases h : a < b
  · rw [if_pos ((nI_ltI ha hB).mpr h), Nat.max_eq_right (Nat.le_of_lt h)]
  · rw [if_neg (fun q => h ((nI_ltI ha hB).mp q)), Nat.max_eq_left (Nat.le_of_not_lt h)]
theorem nn_min {a b : Nat} (ha : a < 2 ^ 31) (hB : b < 2 ^ 31) : Value.int (if nI b < nI a then nI b else nI a) = Value.int (nI (min a b)) := by
  congr 1
  by_cases h : b < a
  · rw [if_pos ((nI_ltI hB ha).mpr h), Nat.min_eq_right (Nat.le_of_lt h)]
  · rw [if_neg (fun q => h ((nI_ltI hB ha).mp q)), Nat.min_eq_left (Nat.le_of_not_lt h)]
theorem zz_lt {x y : Int32} : x < y ↔ x.toInt < y.toInt := Int32.lt_iff_toInt_lt
theorem zz_le {x y : Int32} : x ≤ y ↔ x.toInt ≤ y.toInt := Int32.le_iff_toInt_le
theorem zz_eq {x y : Int32} : x = y ↔ x.toInt = y.toInt := ⟨fun h => by rw [h], fun h => Int32.toInt_inj.mp h⟩
theorem zz_0 : (0 : Int32).toInt = 0 := by decide +kernel
theorem zz_ceq (hx : p.tables.exec = Jvm.exec) (hb : c.code = cc) {x y : Int32} {a b : Int} {off : Int} {tgt : Nat} (hdg : decode cc pc = .ok (.if_icmp .eq off, 3)) (ht : (pc : Int) + off = (tgt : Int)) (ha : x.toInt = a) (hB : y.toInt = b)
    (kt : a = b → W p l e R s m args below meth c H locs cells slots Q (F0 m tgt ls rest)) (kf : ¬ (a = b) → W p l e R s m args below meth c H locs cells slots Q (F0 m (pc + 3) ls rest)) : W p l e R s m args below meth c H locs cells slots Q (F0 m pc ls (.int y :: .int x :: rest)) := by
  subst ha; subst hB
  exact lv_icmp_eq hx hb hdg ht (fun h => kt (zz_eq.mp h)) (fun h => kf (fun q => h (zz_eq.mpr q)))
theorem zz_zeq (hx : p.tables.exec = Jvm.exec) (hb : c.code = cc) {x : Int32} {a : Int} {off : Int} {tgt : Nat} (hdg : decode cc pc = .ok (.ifCond .eq off, 3)) (ht : (pc : Int) + off = (tgt : Int)) (ha : x.toInt = a)
    (kt : a = 0 → W p l e R s m args below meth c H locs cells slots Q (F0 m tgt ls rest)) (kf : ¬ (a = 0) → W p l e R s m args below meth c H locs cells slots Q (F0 m (pc + 3) ls rest)) : W p l e R s m args below meth c H locs cells slots Q (F0 m pc ls (.int x :: rest)) := by
  subst ha
  exact lv_if_eq hx hb hdg ht (fun h => kt (by have := zz_eq.mp h; rw [zz_0] at this; exact this)) (fun h => kf (fun q => h (zz_eq.mpr (by rw [zz_0]; exact q))))
theorem zz_cne (hx : p.tables.exec = Jvm.exec) (hb : c.code = cc) {x y : Int32} {a b : Int} {off : Int} {tgt : Nat} (hdg : decode cc pc = .ok (.if_icmp .ne off, 3)) (ht : (pc : Int) + off = (tgt : Int)) (ha : x.toInt = a) (hB : y.toInt = b)
    (kt : ¬ a = b → W p l e R s m args below meth c H locs cells slots Q (F0 m tgt ls rest)) (kf : a = b → W p l e R s m args below meth c H locs cells slots Q (F0 m (pc + 3) ls rest)) : W p l e R s m args below meth c H locs cells slots Q (F0 m pc ls (.int y :: .int x :: rest)) := by
  subst ha; subst hB
  exact lv_icmp_ne hx hb hdg ht (fun h => kt (fun q => h (zz_eq.mpr q))) (fun h => kf (zz_eq.mp h))
theorem zz_zne (hx : p.tables.exec = Jvm.exec) (hb : c.code = cc) {x : Int32} {a : Int} {off : Int} {tgt : Nat} (hdg : decode cc pc = .ok (.ifCond .ne off, 3)) (ht : (pc : Int) + off = (tgt : Int)) (ha : x.toInt = a)
    (kt : ¬ a = 0 → W p l e R s m args below meth c H locs cells slots Q (F0 m tgt ls rest)) (kf : a = 0 → W p l e R s m args below meth c H locs cells slots Q (F0 m (pc + 3) ls rest)) : W p l e R s m args below meth c H locs cells slots Q (F0 m pc ls (.int x :: rest)) := by
  subst ha
  exact lv_if_ne hx hb hdg ht (fun h => kt (fun q => h (zz_eq.mpr (q.trans zz_0.symm)))) (fun h => kf ((zz_eq.mp h).trans zz_0))
theorem zz_clt (hx : p.tables.exec = Jvm.exec) (hb : c.code = cc) {x y : Int32} {a b : Int} {off : Int} {tgt : Nat} (hdg : decode cc pc = .ok (.if_icmp .lt off, 3)) (ht : (pc : Int) + off = (tgt : Int)) (ha : x.toInt = a) (hB : y.toInt = b)
    (kt : a < b → W p l e R s m args below meth c H locs cells slots Q (F0 m tgt ls rest)) (kf : ¬ (a < b) → W p l e R s m args below meth c H locs cells slots Q (F0 m (pc + 3) ls rest)) : W p l e R s m args below meth c H locs cells slots Q (F0 m pc ls (.int y :: .int x :: rest)) := by
  subst ha; subst hB
  exact lv_icmp_lt hx hb hdg ht (fun h => kt (zz_lt.mp h)) (fun h => kf (fun q => h (zz_lt.mpr q)))
theorem zz_zlt (hx : p.tables.exec = Jvm.exec) (hb : c.code = cc) {x : Int32} {a : Int} {off : Int} {tgt : Nat} (hdg : decode cc pc = .ok (.ifCond .lt off, 3)) (ht : (pc : Int) + off = (tgt : Int)) (ha : x.toInt = a)
    (kt : a < 0 → W p l e R s m args below meth c H locs cells slots Q (F0 m tgt ls rest)) (kf : ¬ (a < 0) → W p l e R s m args below meth c H locs cells slots Q (F0 m (pc + 3) ls rest)) : W p l e R s m args below meth c H locs cells slots Q (F0 m pc ls (.int x :: rest)) := by
  subst ha
  exact lv_if_lt hx hb hdg ht (fun h => kt (by have := zz_lt.mp h; rw [zz_0] at this; exact this)) (fun h => kf (fun q => h (zz_lt.mpr (by rw [zz_0]; exact q))))
theorem zz_cge (hx : p.tables.exec = Jvm.exec) (hb : c.code = cc) {x y : Int32} {a b : Int} {off : Int} {tgt : Nat} (hdg : decode cc pc = .ok (.if_icmp .ge off, 3)) (ht : (pc : Int) + off = (tgt : Int)) (ha : x.toInt = a) (hB : y.toInt = b)
    (kt : b ≤ a → W p l e R s m args below meth c H locs cells slots Q (F0 m tgt ls rest)) (kf : ¬ (b ≤ a) → W p l e R s m args below meth c H locs cells slots Q (F0 m (pc + 3) ls rest)) : W p l e R s m args below meth c H locs cells slots Q (F0 m pc ls (.int y :: .int x :: rest)) := by
  subst ha; subst hB
  exact lv_icmp_ge hx hb hdg ht (fun h => kt (zz_le.mp h)) (fun h => kf (fun q => h (zz_le.mpr q)))
theorem zz_zge (hx : p.tables.exec = Jvm.exec) (hb : c.code = cc) {x : Int32} {a : Int} {off : Int} {tgt : Nat} (hdg : decode cc pc = .ok (.ifCond .ge off, 3)) (ht : (pc : Int) + off = (tgt : Int)) (ha : x.toInt = a)
    (kt : 0 ≤ a → W p l e R s m args below meth c H locs cells slots Q (F0 m tgt ls rest)) (kf : ¬ (0 ≤ a) → W p l e R s m args below meth c H locs cells slots Q (F0 m (pc + 3) ls rest)) : W p l e R s m args below meth c H locs cells slots Q (F0 m pc ls (.int x :: rest)) := by
  subst ha
  exact lv_if_ge hx hb hdg ht (fun h => kt (by have := zz_le.mp h; rw [zz_0] at this; exact this)) (fun h => kf (fun q => h (zz_le.mpr (by rw [zz_0]; exact q))))
theorem zz_cgt (hx : p.tables.exec = Jvm.exec) (hb : c.code = cc) {x y : Int32} {a b : Int} {off : Int} {tgt : Nat} (hdg : decode cc pc = .ok (.if_icmp .gt off, 3)) (ht : (pc : Int) + off = (tgt : Int)) (ha : x.toInt = a) (hB : y.toInt = b)
    (kt : b < a → W p l e R s m args below meth c H locs cells slots Q (F0 m tgt ls rest)) (kf : ¬ (b < a) → W p l e R s m args below meth c H locs cells slots Q (F0 m (pc + 3) ls rest)) : W p l e R s m args below meth c H locs cells slots Q (F0 m pc ls (.int y :: .int x :: rest)) := by
  subst ha; subst hB
  exact lv_icmp_gt hx hb hdg ht (fun h => kt (zz_lt.mp h)) (fun h => kf (fun q => h (zz_lt.mpr q)))
theorem zz_zgt (hx : p.tables.exec = Jvm.exec) (hb : c.code = cc) {x : Int32} {a : Int} {off : Int} {tgt : Nat} (hdg : decode cc pc = .ok (.ifCond .gt off, 3)) (ht : (pc : Int) + off = (tgt : Int)) (ha : x.toInt = a)
    (kt : 0 < a → W p l e R s m args below meth c H locs cells slots Q (F0 m tgt ls rest)) (kf : ¬ (0 < a) → W p l e R s m args below meth c H locs cells slots Q (F0 m (pc + 3) ls rest)) : W p l e R s m args below meth c H locs cells slots Q (F0 m pc ls (.int x :: rest)) := by
  subst ha
  exact lv_if_gt hx hb hdg ht (fun h => kt (by have := zz_lt.mp h; rw [zz_0] at this; exact this)) (fun h => kf (fun q => h (zz_lt.mpr (by rw [zz_0]; exact q))))
theorem zz_cle (hx : p.tables.exec = Jvm.exec) (hb : c.code = cc) {x y : Int32} {a b : Int} {off : Int} {tgt : Nat} (hdg : decode cc pc = .ok (.if_icmp .le off, 3)) (ht : (pc : Int) + off = (tgt : Int)) (ha : x.toInt = a) (hB : y.toInt = b)
    (kt : a ≤ b → W p l e R s m args below meth c H locs cells slots Q (F0 m tgt ls rest)) (kf : ¬ (a ≤ b) → W p l e R s m args below meth c H locs cells slots Q (F0 m (pc + 3) ls rest)) : W p l e R s m args below meth c H locs cells slots Q (F0 m pc ls (.int y :: .int x :: rest)) := by
  subst ha; subst hB
  exact lv_icmp_le hx hb hdg ht (fun h => kt (zz_le.mp h)) (fun h => kf (fun q => h (zz_le.mpr q)))
theorem zz_zle (hx : p.tables.exec = Jvm.exec) (hb : c.code = cc) {x : Int32} {a : Int} {off : Int} {tgt : Nat} (hdg : decode cc pc = .ok (.ifCond .le off, 3)) (ht : (pc : Int) + off = (tgt : Int)) (ha : x.toInt = a)
    (kt : a ≤ 0 → W p l e R s m args below meth c H locs cells slots Q (F0 m tgt ls rest)) (kf : ¬ (a ≤ 0) → W p l e R s m args below meth c H locs cells slots Q (F0 m (pc + 3) ls rest)) : W p l e R s m args below meth c H locs cells slots Q (F0 m pc ls (.int x :: rest)) := by
  subst ha
  exact lv_if_le hx hb hdg ht (fun h => kt (by have := zz_le.mp h; rw [zz_0] at this; exact this)) (fun h => kf (fun q => h (zz_le.mpr (by rw [zz_0]; exact q))))
theorem lc_lt {x y : Int64} : lg_cmp x y < 0 ↔ x.toInt < y.toInt := by
  unfold lg_cmp
  have h1 : y < x ↔ y.toInt < x.toInt := Int64.lt_iff_toInt_lt
  have h2 : x = y ↔ x.toInt = y.toInt := ⟨fun h => by rw [h], fun h => Int64.toInt_inj.mp h⟩
  by_cases a : y < x
  · rw [if_pos a]; exact ⟨fun h => absurd h (by decide), fun h => by have := h1.mp a; omega⟩
  · rw [if_neg a]
    by_cases b : x = y
    · rw [if_pos b]; exact ⟨fun h => absurd h (by decide), fun h => by have := h2.mp b; omega⟩
    · rw [if_neg b]; exact ⟨fun _ => by have := mt h1.mpr a; have := mt h2.mpr b; omega, fun _ => by decide⟩
theorem lc_gt {x y : Int64} : 0 < lg_cmp x y ↔ y.toInt < x.toInt := by
  unfold lg_cmp
  have h1 : y < x ↔ y.toInt < x.toInt := Int64.lt_iff_toInt_lt
  by_cases a : y < x
  · rw [if_pos a]; exact ⟨fun _ => h1.mp a, fun _ => by decide⟩
  · rw [if_neg a]
    by_cases b : x = y
    · rw [if_pos b]; exact ⟨fun h => absurd h (by decide), fun h => absurd (h1.mpr h) a⟩
    · rw [if_neg b]; exact ⟨fun h => absurd h (by decide), fun h => absurd (h1.mpr h) a⟩
theorem lc_eq {x y : Int64} : lg_cmp x y = 0 ↔ x = y := by
  unfold lg_cmp
  by_cases a : y < x
  · rw [if_pos a]; exact ⟨fun h => absurd h (by decide), fun h => by subst h; have := Int64.lt_iff_toInt_lt.mp a; omega⟩
  · rw [if_neg a]
    by_cases b : x = y
    · rw [if_pos b]; exact ⟨fun _ => b, fun _ => rfl⟩
    · rw [if_neg b]; exact ⟨fun h => absurd h (by decide), fun h => absurd h b⟩
theorem lc_zlt (hx : p.tables.exec = Jvm.exec) (hb : c.code = cc) {x y : Int64} {off : Int} {tgt : Nat} (hdg : decode cc pc = .ok (.ifCond .lt off, 3)) (ht : (pc : Int) + off = (tgt : Int))
    (kt : x.toInt < y.toInt → W p l e R s m args below meth c H locs cells slots Q (F0 m tgt ls rest)) (kf : ¬ (x.toInt < y.toInt) → W p l e R s m args below meth c H locs cells slots Q (F0 m (pc + 3) ls rest)) : W p l e R s m args below meth c H locs cells slots Q (F0 m pc ls (.int (lg_cmp x y) :: rest)) :=
  lv_if_lt hx hb hdg ht (fun h => kt (lc_lt.mp h)) (fun h => kf (fun q => h (lc_lt.mpr q)))
theorem lc_zgt (hx : p.tables.exec = Jvm.exec) (hb : c.code = cc) {x y : Int64} {off : Int} {tgt : Nat} (hdg : decode cc pc = .ok (.ifCond .gt off, 3)) (ht : (pc : Int) + off = (tgt : Int))
    (kt : y.toInt < x.toInt → W p l e R s m args below meth c H locs cells slots Q (F0 m tgt ls rest)) (kf : ¬ (y.toInt < x.toInt) → W p l e R s m args below meth c H locs cells slots Q (F0 m (pc + 3) ls rest)) : W p l e R s m args below meth c H locs cells slots Q (F0 m pc ls (.int (lg_cmp x y) :: rest)) :=
  lv_if_gt hx hb hdg ht (fun h => kt (lc_gt.mp h)) (fun h => kf (fun q => h (lc_gt.mpr q)))
theorem lc_zeq (hx : p.tables.exec = Jvm.exec) (hb : c.code = cc) {x y : Int64} {off : Int} {tgt : Nat} (hdg : decode cc pc = .ok (.ifCond .eq off, 3)) (ht : (pc : Int) + off = (tgt : Int))
    (kt : x = y → W p l e R s m args below meth c H locs cells slots Q (F0 m tgt ls rest)) (kf : ¬ (x = y) → W p l e R s m args below meth c H locs cells slots Q (F0 m (pc + 3) ls rest)) : W p l e R s m args below meth c H locs cells slots Q (F0 m pc ls (.int (lg_cmp x y) :: rest)) :=
  lv_if_eq hx hb hdg ht (fun h => kt (lc_eq.mp h)) (fun h => kf (fun q => h (lc_eq.mpr q)))
theorem lc_zne (hx : p.tables.exec = Jvm.exec) (hb : c.code = cc) {x y : Int64} {off : Int} {tgt : Nat} (hdg : decode cc pc = .ok (.ifCond .ne off, 3)) (ht : (pc : Int) + off = (tgt : Int))
    (kt : ¬ x = y → W p l e R s m args below meth c H locs cells slots Q (F0 m tgt ls rest)) (kf : x = y → W p l e R s m args below meth c H locs cells slots Q (F0 m (pc + 3) ls rest)) : W p l e R s m args below meth c H locs cells slots Q (F0 m pc ls (.int (lg_cmp x y) :: rest)) :=
  lv_if_ne hx hb hdg ht (fun h => kt (fun q => h (lc_eq.mpr q))) (fun h => kf (lc_eq.mp h))
theorem nn_tsI (hx : p.tables.exec = Jvm.exec) (hb : c.code = cc) {dflt lo hi : Int} {offs : Array Int} {len k : Nat} {off : Int} {tgt : Nat} (hdg : decode cc pc = .ok (.tableswitch dflt lo hi offs, len)) (hk : k < 2 ^ 31) (j : Nat) (hj : (k : Int) = lo + j) (hh : (k : Int) ≤ hi) (ho : offs[j]? = some off) (ht : (pc : Int) + off = (tgt : Int)) (kk : W p l e R s m args below meth c H locs cells slots Q (F0 m tgt ls rest)) : W p l e R s m args below meth c H locs cells slots Q (F0 m pc ls (.int (nI k) :: rest)) := by
  have e := nI_toInt hk
  refine lv_tableIn hx hb hdg (by rw [e]; omega) (by rw [e]; omega) (off := off) ?_ ht kk
  rw [e, hj, show (lo + (j : Int) - lo).toNat = j by omega]; exact ho
theorem nn_tsO (hx : p.tables.exec = Jvm.exec) (hb : c.code = cc) {dflt lo hi : Int} {offs : Array Int} {len k : Nat} {tgt : Nat} (hdg : decode cc pc = .ok (.tableswitch dflt lo hi offs, len)) (hk : k < 2 ^ 31) (h : (k : Int) < lo ∨ hi < (k : Int)) (ht : (pc : Int) + dflt = (tgt : Int)) (kk : W p l e R s m args below meth c H locs cells slots Q (F0 m tgt ls rest)) : W p l e R s m args below meth c H locs cells slots Q (F0 m pc ls (.int (nI k) :: rest)) :=
  lv_tableOut hx hb hdg (by rw [nI_toInt hk]; exact h) ht kk
theorem zz_tsI (hx : p.tables.exec = Jvm.exec) (hb : c.code = cc) {dflt lo hi : Int} {offs : Array Int} {len : Nat} {x : Int32} {a : Int} {off : Int} {tgt : Nat} (hdg : decode cc pc = .ok (.tableswitch dflt lo hi offs, len)) (ha : x.toInt = a) (j : Nat) (hj : a = lo + j) (hh : a ≤ hi) (ho : offs[j]? = some off) (ht : (pc : Int) + off = (tgt : Int)) (kk : W p l e R s m args below meth c H locs cells slots Q (F0 m tgt ls rest)) : W p l e R s m args below meth c H locs cells slots Q (F0 m pc ls (.int x :: rest)) := by
  refine lv_tableIn hx hb hdg (by rw [ha]; omega) (by rw [ha]; omega) (off := off) ?_ ht kk
  rw [ha, hj, show (lo + (j : Int) - lo).toNat = j by omega]; exact ho
theorem zz_tsO (hx : p.tables.exec = Jvm.exec) (hb : c.code = cc) {dflt lo hi : Int} {offs : Array Int} {len : Nat} {x : Int32} {a : Int} {tgt : Nat} (hdg : decode cc pc = .ok (.tableswitch dflt lo hi offs, len)) (ha : x.toInt = a) (h : a < lo ∨ hi < a) (ht : (pc : Int) + dflt = (tgt : Int)) (kk : W p l e R s m args below meth c H locs cells slots Q (F0 m tgt ls rest)) : W p l e R s m args below meth c H locs cells slots Q (F0 m pc ls (.int x :: rest)) :=
  lv_tableOut hx hb hdg (by rw [ha]; exact h) ht kk
theorem zz_lk (hx : p.tables.exec = Jvm.exec) (hb : c.code = cc) {dflt : Int} {ps : Array (Int × Int)} {len : Nat} {x : Int32} {a : Int} {off : Int} {tgt : Nat} (hdg : decode cc pc = .ok (.lookupswitch dflt ps, len)) (hp : (ps.toList.zip (ps.toList.drop 1)).all (fun (a, next) => a.1 < next.1) = true) (ha : x.toInt = a) (ho : Op.lookupswitch.offset ps.toList dflt a = off) (ht : (pc : Int) + off = (tgt : Int)) (kk : W p l e R s m args below meth c H locs cells slots Q (F0 m tgt ls rest)) : W p l e R s m args below meth c H locs cells slots Q (F0 m pc ls (.int x :: rest)) :=
  lv_lookup hx hb hdg hp (by rw [ha]; exact ho) ht kk
theorem mx_sub {a b : Nat} (ha : a < 2 ^ 30) (hB : b < 2 ^ 30) : (if nI 0 < nI a - nI b then nI a - nI b else nI 0) = nI (a - b) := by
  have e := pk_sub_toInt ha hB
  have e0 : (nI 0).toInt = 0 := by decide +kernel
  by_cases h : b < a
  · rw [if_pos (zz_lt.mpr (by rw [e, e0]; omega)), pk_sub (Nat.le_of_lt h)]
  · rw [if_neg (fun q => by have := zz_lt.mp q; rw [e, e0] at this; omega), show a - b = 0 by omega]
theorem mx_clip {a b k : Nat} (ha : a < 2 ^ 30) (hB : b < 2 ^ 30) (hk : k < 2 ^ 30) (hk0 : 0 < k) : (if nI 0 < (if nI a - nI b < nI k then nI a - nI b else nI k) then (if nI a - nI b < nI k then nI a - nI b else nI k) else nI 0) = nI (min k (a - b)) := by
  have e := pk_sub_toInt ha hB
  have ek : (nI k).toInt = k := nI_toInt (by omega)
  by_cases h : a - b < k
  · have h1 : nI a - nI b < nI k := zz_lt.mpr (by rw [e, ek]; omega)
    rw [if_pos h1, mx_sub ha hB, Nat.min_eq_right (Nat.le_of_lt h)]
  · have h1 : ¬ nI a - nI b < nI k := fun q => by have := zz_lt.mp q; rw [e, ek] at this; omega
    rw [if_neg h1, Nat.min_eq_left (Nat.le_of_not_lt h)]
    have e0 : (nI 0).toInt = 0 := by decide +kernel
    rw [if_pos (zz_lt.mpr (by rw [ek, e0]; omega))]
end NN
