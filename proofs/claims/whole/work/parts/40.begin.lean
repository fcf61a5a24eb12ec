set_option maxRecDepth 100000 in
set_option maxHeartbeats 8000000 in
/-- the law, from its entry -/
theorem whole_start {p : Program} {e : Env} {s : State} {m : MethodId} {below : List Frame} {meth : Method} {c : Code} (l : Launch) (hflags : l.flags = flags0) {b L : Nat} {xs : Nat → Int32} (hL : L ≤ 3072) (C0 : lw_At p s m meth c b L xs) : W p l e room_1 s m #[Value.ref b] below meth c s.heap [] 0 0 (lw_Z below #[Value.ref b] s) (entryFrame m ([Value.ref b] : List Value).toArray 4) := by
  obtain ⟨hx, hb, hr, hml, hown, hts0, hX, hbl, hlocks, hgv⟩ := id C0
  have hown : s.vm.findClass RL = some m.cls := hown
  have hts : ∀ w ∈ wsL_law, w.before #[Value.ref b] s = true := fun w hw => hts0 w (wsL_law_in w hw)
  have hA : ∀ q : Nat, s.heap.size ≤ q → (fun q : Nat => s.heap.size ≤ q) q := fun _ h => h
  have hbA : ¬ (fun q : Nat => s.heap.size ≤ q) b := Nat.not_le.mpr hbl
  obtain ⟨cc0, iS0, hKn0⟩ := u_known (C := RX0) (T := TX0) (N := 14) (n := 14) hts0 inX0 (hts (.instantiable RX0 14) (List.mem_of_getElem? (i := 14) rfl))
  obtain ⟨cc1, iS1, hKn1⟩ := u_known (C := RX2) (T := TX2) (N := 3) (n := 3) hts0 inX2 (hts (.instantiable RX2 3) (List.mem_of_getElem? (i := 24) rfl))
  obtain ⟨cc2, iS2, hKn2⟩ := u_known (C := RX3) (T := TX3) (N := 6) (n := 6) hts0 inX3 (hts (.instantiable RX3 6) (List.mem_of_getElem? (i := 20) rfl))
  obtain ⟨cc3, iS3, hKn3⟩ := u_known (C := RX4) (T := TX4) (N := 7) (n := 7) hts0 inX4 (hts (.instantiable RX4 7) (List.mem_of_getElem? (i := 1) rfl))
  obtain ⟨cc4, iS4, hKn4⟩ := u_known (C := RX5) (T := TX5) (N := 15) (n := 15) hts0 inX5 (hts (.instantiable RX5 15) (List.mem_of_getElem? (i := 4) rfl))
  obtain ⟨dC, dI, hKc⟩ : ∃ (dC : Nat → ClassId) (dI : Nat → Nat → Nat), ∀ (k : Nat) (q : vw_C), vwCl[k]? = some q → u_Kn s q.1 q.2.1 q.2.2 (dC k) (dI k) := by
    refine ⟨fun k => if k = 0 then cc0 else if k = 1 then cc1 else if k = 2 then cc2 else if k = 3 then cc3 else cc4, fun k => if k = 0 then iS0 else if k = 1 then iS1 else if k = 2 then iS2 else if k = 3 then iS3 else iS4, ?_⟩
    intro k q hq
    match k, hq with
    | 0, hq => cases hq; exact hKn0
    | 1, hq => cases hq; exact hKn1
    | 2, hq => cases hq; exact hKn2
    | 3, hq => cases hq; exact hKn3
    | 4, hq => cases hq; exact hKn4
    | k + 5, hq => simp [vwCl] at hq
  obtain ⟨cI, kI, mI, i1, i2, i3⟩ := Cond.arrayClass_spec (args := #[Value.ref b]) (first := s) (o := none) (s := s) (idx := []) (type := .int) (hts (.arrayClass .int) (List.mem_of_getElem? (i := 27) rfl))
  obtain ⟨cJ, kJ, mJ, j1, j2, j3⟩ := Cond.arrayClass_spec (args := #[Value.ref b]) (first := s) (o := none) (s := s) (idx := []) (type := .long) (hts (.arrayClass .long) (List.mem_of_getElem? (i := 49) rfl))
  have hK : va_K (dC, dI) vwCl [(cI, .int), (cJ, .long)] s := ⟨hKc, fun k q h => by
    match k, h with
    | 0, h => cases h; exact ⟨fun n z => ⟨fun k h => (by cases h), kI, i2, mI, i3⟩, i1⟩
    | 1, h => cases h; exact ⟨fun n z => ⟨fun k h => (by cases h), kJ, j2, mJ, j3⟩, j1⟩
    | k + 2, h => simp at h⟩
  obtain ⟨aK, aV, hES⟩ := given_ES hgv hts0
  obtain ⟨nt, hEM⟩ := given_EM hgv hts0
  have hEN : EN (fun q : Nat => s.heap.size ≤ q) s s.heap := given_EN hts0
  have hW : Wo (dC, dI) vwCl (fun q : Nat => s.heap.size ≤ q) s.heap s.heap [] [] := ⟨fun k q h => by simp at h, ⟨fun i j p q h => by simp at h, fun k q h => by simp at h⟩, va_S.rf⟩
  have hl := lv_entry ([.ref b]) (n := 4) (Nat.le_of_ble_eq_true rfl)
  rw [lg_entry_eq]
  generalize (lg_sl ([.ref b]) ++ List.replicate (4 - (lg_sl ([.ref b])).length) Slot.unset).toArray = ls at hl ⊢
  have hl : lv_has ls 4 [(0, .ref b)] := hl
  refine sg_new (ci := 3) (fs := [.null, .null, .null, .int (nI 0), .null, .null, .null]) (C := RX4) (T := TX4) (N := 7) hx hb hts inlX4 tyX4 tyX4_ok hown (hts (.classLink RL 7 RX4) (List.mem_of_getElem? (i := 0) rfl)) (hts (.instantiable RX4 7) (List.mem_of_getElem? (i := 1) rfl)) (hts (.initialized RX4) (List.mem_of_getElem? (i := 2) rfl)) hK hA hW rfl (fun j hj => by rcases (show j = 0 ∨ j = 1 ∨ j = 2 ∨ j = 3 ∨ j = 4 ∨ j = 5 ∨ j = 6 by omega) with rfl | rfl | rfl | rfl | rfl | rfl | rfl <;> rfl) (Nat.le_of_ble_eq_true rfl) (Nat.le_of_ble_eq_true rfl) dL_law_0 (fun x H hW => ?_)
  have hW := hW.to (ss' := [[(x, .inr (3, [.null, .null, .null, .int (nI 0), .null, .null, .null]))]]) rfl
  refine lv_dup hx hb dL_law_3 rfl ?_
  refine cl_Iv (As := []) (rest := [.ref x]) ⟨hx, hb, hml, hown, hts⟩ (M_X4_init l (dC, dI) cI cJ x) (cwI 0 hts gL_law_X4_init rfl rfl rfl (hts (.initialized RX4) (List.mem_of_getElem? (i := 2) rfl)) (hts (.methodLink RL 9 yX4_init) (List.mem_of_getElem? (i := 7) rfl)) (hts (.instanceMethod yX4_init) (List.mem_of_getElem? (i := 8) rfl)) rfl (by decide +kernel) ⟨Nat.le_of_ble_eq_true rfl, Nat.le_of_ble_eq_true rfl⟩) EN_good hK hA hW hEN [true, true, true, true, true, true, true] (fun u => [xH x (u 0) (u 1) (u 2) (u 3) (u 4) (u 5 0) 0, gW cI (u 0) GZ, gW cI (u 1) GZ, gW cI (u 2) GZ, tW cI (u 3) ZR ZR, sW cI cJ (u 4) ZR ZR ZC, aI cI (u 5 0) 7 ZR]) rfl (fun _ => rfl) (fun _ => rfl) rfl hl.1 rfl (lv_room (Nat.le_of_ble_eq_true rfl)) dL_law_4 ⟨Nat.le_of_ble_eq_true rfl, Nat.le_of_ble_eq_true rfl⟩ (fun u H locs _ hW => ?_)
  refine lv_astore_n (lv' := [(1, .ref x), (0, .ref b)]) hx hb dL_law_7 rfl hl (by decide) rfl (fun ls hl => ?_)
  refine sg_new (ci := 4) (fs := [.null, .null, .null, .int (nI 0), .null, .null, .int (nI 0), .int (nI 0), .int (nI 0), .int (nI 0), .int (nI 0), .int (nI 0), .null, .null, .null]) (C := RX5) (T := TX5) (N := 15) hx hb hts inlX5 tyX5 tyX5_ok hown (hts (.classLink RL 10 RX5) (List.mem_of_getElem? (i := 3) rfl)) (hts (.instantiable RX5 15) (List.mem_of_getElem? (i := 4) rfl)) (hts (.initialized RX5) (List.mem_of_getElem? (i := 5) rfl)) hK hA hW rfl (fun j hj => by rcases (show j = 0 ∨ j = 1 ∨ j = 2 ∨ j = 3 ∨ j = 4 ∨ j = 5 ∨ j = 6 ∨ j = 7 ∨ j = 8 ∨ j = 9 ∨ j = 10 ∨ j = 11 ∨ j = 12 ∨ j = 13 ∨ j = 14 by omega) with rfl | rfl | rfl | rfl | rfl | rfl | rfl | rfl | rfl | rfl | rfl | rfl | rfl | rfl | rfl <;> rfl) (Nat.le_of_ble_eq_true rfl) (Nat.le_of_ble_eq_true rfl) dL_law_8 (fun y H hW => ?_)
  have hW := hW.to (ss' := [xH x (u 0) (u 1) (u 2) (u 3) (u 4) (u 5 0) 0, gW cI (u 0) GZ, gW cI (u 1) GZ, gW cI (u 2) GZ, tW cI (u 3) ZR ZR, sW cI cJ (u 4) ZR ZR ZC, aI cI (u 5 0) 7 ZR, [(y, .inr (4, [.null, .null, .null, .int (nI 0), .null, .null, .int (nI 0), .int (nI 0), .int (nI 0), .int (nI 0), .int (nI 0), .int (nI 0), .null, .null, .null]))]]) rfl
  refine lv_dup hx hb dL_law_11 rfl ?_
  refine cl_Iv (As := []) (rest := [.ref y]) ⟨hx, hb, hml, hown, hts⟩ (M_X5_init l (dC, dI) cI cJ y) (cwI 0 hts gL_law_X5_init rfl rfl rfl (hts (.initialized RX5) (List.mem_of_getElem? (i := 5) rfl)) (hts (.methodLink RL 12 yX5_init) (List.mem_of_getElem? (i := 51) rfl)) (hts (.instanceMethod yX5_init) (List.mem_of_getElem? (i := 52) rfl)) rfl (by decide +kernel) ⟨Nat.le_of_ble_eq_true rfl, Nat.le_of_ble_eq_true rfl⟩) E0_goodW hK hA hW trivial [false, false, false, false, false, false, false, true, true, true, true, true, true, true, true, true] (fun mo => [xH x (u 0) (u 1) (u 2) (u 3) (u 4) (u 5 0) 0, gW cI (u 0) GZ, gW cI (u 1) GZ, gW cI (u 2) GZ, tW cI (u 3) ZR ZR, sW cI cJ (u 4) ZR ZR ZC, aI cI (u 5 0) 7 ZR, mH mo ZR, mR cI (mo 1) GZ, aI cI (mo 2) 57 ZR, aI cI (mo 3) 57 ZR, aI cI (mo 4) 7 ZR, aI cI (mo 5) 120 ZR, aI cI (mo 6) 4 ZR, aI cI (mo 7) 4 ZR, aJ cJ (mo 8) 160 ZC]) rfl (fun _ => rfl) (fun _ => rfl) rfl hl.1 rfl (lv_room (Nat.le_of_ble_eq_true rfl)) dL_law_12 ⟨Nat.le_of_ble_eq_true rfl, Nat.le_of_ble_eq_true rfl⟩ (fun mo H locs hmo hW => ?_)
  rw [← hmo]
  refine lv_astore_n (lv' := [(2, .ref (mo 0)), (1, .ref x), (0, .ref b)]) hx hb dL_law_15 rfl hl (by decide) rfl (fun ls hl => ?_)
  refine lv_iconst (v := nI 0) hx hb dL_law_16 (by decide +kernel) ?_
  refine lv_istore_n (lv' := [(3, .int (nI 0)), (2, .ref (mo 0)), (1, .ref x), (0, .ref b)]) hx hb dL_law_17 rfl hl (by decide) rfl (fun ls hl => ?_)
  refine W.widen (k := 41) (n := 984) (Nat.le_of_ble_eq_true rfl) (Nat.le_of_ble_eq_true rfl) ?_
  have hW := hW.pm [true, true, false, false, true]
  have hW := hW.to (ss' := [xH x (u 0) (u 1) (u 2) (u 3) (u 4) (u 5 0) 0, gW cI (u 0) GZ, tW cI (u 3) ZR ZR, gW cI (u 1) GZ, gW cI (u 2) GZ, sW cI cJ (u 4) ZR ZR ZC, aI cI (u 5 0) 7 ZR, mH mo ZR, mR cI (mo 1) GZ, mR cI (mo 2) ZR, mR cI (mo 3) ZR, aI cI (mo 4) 7 ZR, aI cI (mo 5) 120 ZR, aI cI (mo 6) 4 ZR, aI cI (mo 7) 4 ZR, aJ cJ (mo 8) 160 ZC]) rfl
  exact law_loop l C0 (dC, dI) cI cJ hK x (u 5 0) (u 0) (u 1) (u 2) (u 3) (u 4) mo aK aV nt hES hEM hL (L + 1) 0 (by omega) (by omega) 0 0 GZ ZR ZR GZ GZ ZR ZR ZR ZR ZR ZR ZC LI_0 _ _ _ hW hl
