/-! THE CLAIM OUT OF ONE WALK OF THE LAW'S BODY. Your part is whole_start (and what it stands on); all else here is the same for every law, but numbers. -/
def R_law : String := "UnsaidRoundLaw"
def lw_P (b : Addr) (xs : List Int32) (args : Array Value) (s : State) : Prop := args = #[.ref b] ∧ s.IntsAt b xs ∧ xs.length ≤ 3072 ∧ (Jvm.Cond.and given_1 narrow_1).before args s = true
def lw_Q (_ : Array Value) (s : State) (o : Outcome) (t : State) : Prop := o = .returned (some (.int 1)) ∧ Framed s o t [] 41 984
def lw_Z (below : List Frame) (a : Array Value) (s : State) : State → Prop := fun t => ∃ o, t.status = .running ∧ Ended t below o ∧ lw_Q a s o t
/-- the law's own end, with 1 on the stack, nothing written that was there before, its room as the claim has it -/
theorem lw_ret {p : Program} {l : Launch} {e : Env} {s : State} {m : MethodId} {below : List Frame} {meth : Method} {c : Code} {b : Nat} (hx : p.tables.exec = Jvm.exec) (hb : c.code = code) (hr : meth.sig.returnType = ret) (hlocks : meth.locks = false) {pc : Nat} {H : Heap} {ls : Array Slot} (hdg : decode code pc = .ok (.ireturn, 1)) : W p l e room_1 s m #[Value.ref b] below meth c H [] 41 984 (lw_Z below #[Value.ref b] s) (F0 m pc ls [.int 1]) := by
  intro T hT X
  obtain ⟨fs, hret, hrun, hended, hW, hframe⟩ := X.leave (v := some (.int 1)) (hlocks := hlocks) (fun h => by rw [hr] at h; cases h)
  have hmeth' : T.vm.method? m = some meth := X.method'
  refine ⟨T.setFrames fs, ?_, .returned (some (.int 1)), hrun, hended, rfl, ⟨_, rfl⟩, hW, hframe⟩
  jvm_step X.here [X.here.top, hx, hb, hdg, hmeth', hr, ret, narrow_b1]
  (try refine ⟨rfl, ?_⟩); (try refine ⟨rfl, ?_⟩)
  first | (intro acts; rw [hret _ acts rfl rfl rfl]) | rw [hret _ _ rfl rfl rfl]
  exact Steps.refl _
/-- what holds at the law's entry: the machine, the code, the tables' words (any of lw_tbl by 'hts w (by decide +kernel)'), the script of L ints xs at the cell b, what the Statement gives of the start (any of its parts by flat_of_before) -/
def lw_At (p : Program) (s : State) (m : MethodId) (meth : Method) (c : Code) (b L : Nat) (xs : Nat → Int32) : Prop :=
  p.tables.exec = Jvm.exec ∧ c.code = code ∧ meth.sig.returnType = ret ∧ c.maxLocals = 4 ∧ s.vm.findClass R_law = some m.cls ∧ (∀ w ∈ lw_tbl, w.before #[Value.ref b] s = true) ∧ va_X b L xs s s.heap ∧ b < s.heap.size ∧ meth.locks = false ∧ (Jvm.Cond.and given_1 narrow_1).before #[Value.ref b] s = true
theorem N_X4_count (l : Launch) (D : va_G) (cI cJ : ClassId) (x fi ik : Nat) (la ta ka tp sh : Nat → Nat) (G Tp Rt F : Nat → Nat) (hG : OkG 99999 G) (v : Int32) (L : Nat) (hLL : Rt 0 = L) : CE E0 l D vwCl [(cI, .int), (cJ, .long)] yX4_count wsX4_count rmX4_count [.ref x, .int v] [xH x la ta ka tp sh fi ik, gW cI la G, tW cI tp Tp Rt, aI cI fi 7 F] (S := Unit) (some (.int (countV G L v.toInt))) (fun _ => True) (fun _ : Unit => [xH x la ta ka tp sh fi ik, gW cI la G, tW cI tp Tp Rt, aI cI fi 7 (countF F v.toInt)]) 0 0 := by
  subst hLL
  exact M_X4_count l D cI cJ x fi ik la ta ka tp sh G Tp Rt F hG v
theorem N_X5_count (l : Launch) (D : va_G) (cI cJ : ClassId) (mo R G F : Nat → Nat) (hG : OkG 99999 G) (v : Int32) (L : Nat) (hLL : R 1 = L) : CE E0 l D vwCl [(cI, .int), (cJ, .long)] yX5_count wsX5_count rmX5_count [.ref (mo 0), .int v] [mH mo R, mR cI (mo 1) G, aI cI (mo 4) 7 F] (S := Unit) (some (.int (countV G L v.toInt))) (fun _ => True) (fun _ : Unit => [mH mo R, mR cI (mo 1) G, aI cI (mo 4) 7 (countF F v.toInt)]) 0 0 := by
  subst hLL
  exact M_X5_count l D cI cJ mo R G F hG v
theorem N_X4_wipe (l : Launch) (D : va_G) (cI cJ : ClassId) (x fi ik : Nat) (la ta ka tp sh : Nat → Nat) (Tp Rt : Nat → Nat) (L : Nat) (hLL : Rt 0 = L) : CE E0 l D vwCl [(cI, .int), (cJ, .long)] yX4_wipe wsX4_wipe rmX4_wipe [.ref x] [xH x la ta ka tp sh fi ik, tW cI tp Tp Rt] (S := Unit) (some (.int (nI L))) (fun _ => True) (fun _ : Unit => [xH x la ta ka tp sh fi ik, tW cI tp Tp (up Rt 0 0)]) 0 0 := by
  subst hLL
  exact M_X4_wipe l D cI cJ x fi ik la ta ka tp sh Tp Rt
theorem N_X5_wipe (l : Launch) (D : va_G) (cI cJ : ClassId) (mo R : Nat → Nat) (L : Nat) (hLL : R 1 = L) : CE E0 l D vwCl [(cI, .int), (cJ, .long)] yX5_wipe wsX5_wipe rmX5_wipe [.ref (mo 0)] [mH mo R] (S := Unit) (some (.int (nI L))) (fun _ => True) (fun _ : Unit => [mH mo (up R 1 0)]) 0 0 := by
  subst hLL
  exact M_X5_wipe l D cI cJ mo R
theorem N_X4_feed (l : Launch) (D : va_G) (cI cJ : ClassId) (x fi ik : Nat) (la ta ka tp sh : Nat → Nat) (Tp Rt F : Nat → Nat) (hr1 : Rt 0 ≤ 120) (v z : Int32) (L : Nat) (hLL : Rt 0 = L) : CE E0 l D vwCl [(cI, .int), (cJ, .long)] yX4_feed wsX4_feed rmX4_feed [.ref x, .int v, .int z] [xH x la ta ka tp sh fi ik, tW cI tp Tp Rt, aI cI fi 7 F] (S := Unit) (some (.int (feedV L z.toInt))) (fun _ => True) (fun _ : Unit => [xH x la ta ka tp sh fi ik, tW cI tp (feedT Tp L v z.toInt) (up Rt 0 (feedN L z.toInt)), aI cI fi 7 (feedF F L z.toInt)]) 0 0 := by
  subst hLL
  exact M_X4_feed l D cI cJ x fi ik la ta ka tp sh Tp Rt F hr1 v z
theorem N_X5_feed (l : Launch) (D : va_G) (cI cJ : ClassId) (mo R F Tp : Nat → Nat) (hr1 : R 1 ≤ 120) (v z : Int32) (L : Nat) (hLL : R 1 = L) : CE E0 l D vwCl [(cI, .int), (cJ, .long)] yX5_feed wsX5_feed rmX5_feed [.ref (mo 0), .int v, .int z] [mH mo R, aI cI (mo 4) 7 F, aI cI (mo 5) 120 Tp] (S := Unit) (some (.int (feedV L z.toInt))) (fun _ => True) (fun _ : Unit => [mH mo (up R 1 (feedN L z.toInt)), aI cI (mo 4) 7 (feedF F L z.toInt), aI cI (mo 5) 120 (feedT Tp L v z.toInt)]) 0 0 := by
  subst hLL
  exact M_X5_feed l D cI cJ mo R F Tp hr1 v z
theorem N_X5_undo (l : Launch) (D : va_G) (cI cJ : ClassId) (mo R G K F : Nat → Nat) (hr0 : R 0 ≤ 1) (ik : Nat) (hII : R 0 = ik) : CE E0 l D vwCl [(cI, .int), (cJ, .long)] yX5_undo wsX5_undo rmX5_undo [.ref (mo 0)] [mH mo R, mR cI (mo 1) G, mR cI (mo 2) K, aI cI (mo 4) 7 F] (S := Unit) (some (.int (undoV K ik))) (fun _ => True) (fun _ : Unit => [mH mo R, mR cI (mo 1) (undoG G K ik), mR cI (mo 2) K, aI cI (mo 4) 7 (undoF F ik)]) 0 0 := by
  subst hII
  exact M_X5_undo l D cI cJ mo R G K F hr0
theorem N_X5_tear (l : Launch) (D : va_G) (cI cJ : ClassId) (mo R : Nat → Nat) (hr0 : R 0 ≤ 1) (ik : Nat) (hII : R 0 = ik) : CE E0 l D vwCl [(cI, .int), (cJ, .long)] yX5_tear wsX5_tear rmX5_tear [.ref (mo 0)] [mH mo R] (S := Unit) (some (.int (nI ik))) (fun _ => True) (fun _ : Unit => [mH mo (up R 0 0)]) 0 0 := by
  subst hII
  exact M_X5_tear l D cI cJ mo R hr0
abbrev LW (cI cJ : ClassId) (x fi : Nat) (la ta ka tp sh mo : Nat → Nat) (ik : Nat) (G T Rt Tx K F R M Wa B Z : Nat → Nat) (C : Nat → Int64) : List va_W := [xH x la ta ka tp sh fi ik, gW cI la G, tW cI tp T Rt, gW cI ta Tx, gW cI ka K, sW cI cJ sh B Z C, aI cI fi 7 F, mH mo R, mR cI (mo 1) G, mR cI (mo 2) M, mR cI (mo 3) Wa, aI cI (mo 4) 7 F, aI cI (mo 5) 120 T, aI cI (mo 6) 4 B, aI cI (mo 7) 4 Z, aJ cJ (mo 8) 160 C]
/-- the loop goes on behind a call -/
def LGo (p : Program) (l : Launch) (e : Env) (s : State) (m : MethodId) (below : List Frame) (meth : Method) (c : Code) (b : Nat) (D : va_G) (cI cJ : ClassId) (x fi : Nat) (la ta ka tp sh mo : Nat → Nat) (n : Nat) : Prop :=
  ∀ (ik L : Nat) (G T Rt Tx K F R M Wa B Z : Nat → Nat) (C : Nat → Int64) (H : Heap) (locs : List Loc) (ls : Array Slot), LI (n + 1) ik L G K M T Rt R B Z → Wo D vwCl (fun q : Nat => s.heap.size ≤ q) s.heap H locs [xH x la ta ka tp sh fi ik, gW cI la G, tW cI tp T Rt, gW cI ta Tx, gW cI ka K, sW cI cJ sh B Z C, aI cI fi 7 F, mH mo R, mR cI (mo 1) G, mR cI (mo 2) M, mR cI (mo 3) Wa, aI cI (mo 4) 7 F, aI cI (mo 5) 120 T, aI cI (mo 6) 4 B, aI cI (mo 7) 4 Z, aJ cJ (mo 8) 160 C] → lv_has ls 4 [(3, .int (nI (6 * n))), (2, .ref (mo 0)), (1, .ref x), (0, .ref b)] → W p l e room_1 s m #[Value.ref b] below meth c H locs 41 984 (lw_Z below #[Value.ref b] s) (F0 m 1349 ls [])
