set_option maxRecDepth 100000 in
set_option maxHeartbeats 4000000 in
theorem law_on {p : Program} {e : Env} {s : State} {m : MethodId} {below : List Frame} {meth : Method} {c : Code} (l : Launch) {b Ls : Nat} {xs : Nat → Int32} (C0 : lw_At p s m meth c b Ls xs) (D : va_G) (cI cJ : ClassId) (hK : va_K D vwCl [(cI, .int), (cJ, .long)] s) (x fi : Nat) (la ta ka tp sh mo aK aV : Nat → Nat) (nt : Nat) (hES : ES aK aV (fun q : Nat => s.heap.size ≤ q) s s.heap) (hEM : EM nt (fun q : Nat => s.heap.size ≤ q) s s.heap) (n : Nat) (hn : 6 * n + 6 ≤ Ls) (hLs : Ls ≤ 3072) (kk : LGo p l e s m below meth c b D cI cJ x fi la ta ka tp sh mo n) (ik L : Nat) (G T Rt Tx K F R M Wa B Z : Nat → Nat) (C : Nat → Int64) (hI : LI n ik L G K M T Rt R B Z) (H : Heap) (locs : List Loc) (ls : Array Slot) (hW : Wo D vwCl (fun q : Nat => s.heap.size ≤ q) s.heap H locs [xH x la ta ka tp sh fi ik, gW cI la G, tW cI tp T Rt, gW cI ta Tx, gW cI ka K, sW cI cJ sh B Z C, aI cI fi 7 F, mH mo R, mR cI (mo 1) G, mR cI (mo 2) M, mR cI (mo 3) Wa, aI cI (mo 4) 7 F, aI cI (mo 5) 120 T, aI cI (mo 6) 4 B, aI cI (mo 7) 4 Z, aJ cJ (mo 8) 160 C]) (hl : lv_has ls 4 [(3, .int (nI (6 * n))), (2, .ref (mo 0)), (1, .ref x), (0, .ref b)]) : W p l e room_1 s m #[Value.ref b] below meth c H locs 41 984 (lw_Z below #[Value.ref b] s) (F0 m 630 ls []) := by
  obtain ⟨hx, hb, hr, hml, hown, hts0, hX, hbl, hlocks, hgv⟩ := id C0
  have hown : s.vm.findClass RL = some m.cls := hown
  have hts : ∀ w ∈ wsL_law, w.before #[Value.ref b] s = true := fun w hw => hts0 w (wsL_law_in w hw)
  have hA : ∀ q : Nat, s.heap.size ≤ q → (fun q : Nat => s.heap.size ≤ q) q := fun _ h => h
  have hbA : ¬ (fun q : Nat => s.heap.size ≤ q) b := Nat.not_le.mpr hbl
  refine lv_aload_n hx hb dL_law_630 rfl (lv_at hl 2 rfl) ?_
  refine lv_aload_n hx hb dL_law_631 rfl (lv_at hl 3 rfl) ?_
  refine lv_iload_n hx hb dL_law_632 rfl (lv_at hl 0 rfl) ?_
  refine lv_iconst (v := nI 1) hx hb dL_law_633 (by decide +kernel) ?_
  refine nn_add hx hb dL_law_634 ?_
  refine va_sld hx hb hX hbl hbA hW.2.2 (vp_in_nI (by omega) (by omega)) dL_law_635 ?_
  refine W.top (v' := .int (xs ((6 * n) + 1))) (by rw [nI_clamp (by omega)]) ?_
  refine lv_aload_n hx hb dL_law_636 rfl (lv_at hl 3 rfl) ?_
  refine lv_iload_n hx hb dL_law_637 rfl (lv_at hl 0 rfl) ?_
  refine lv_iconst (v := nI 2) hx hb dL_law_638 (by decide +kernel) ?_
  refine nn_add hx hb dL_law_639 ?_
  refine va_sld hx hb hX hbl hbA hW.2.2 (vp_in_nI (by omega) (by omega)) dL_law_640 ?_
  refine W.top (v' := .int (xs ((6 * n) + 2))) (by rw [nI_clamp (by omega)]) ?_
  refine cl_Vi (As := [.int (xs ((6 * n) + 1)), .int (xs ((6 * n) + 2))]) (rest := []) (C := RX4) ⟨hx, hb, hml, hown, hts⟩ (M_X4_on l D cI cJ x fi ik la ta ka tp sh G Tx F hI.1.1 (xs ((6 * n) + 1)) (xs ((6 * n) + 2))) (cwV 2 hts gL_law_X4_on rfl rfl rfl qX4_on ⟨Nat.le_of_ble_eq_true rfl, Nat.le_of_ble_eq_true rfl⟩) E0_good hK hA hW trivial [true, true, false, true, false, false, true] (fun u1 => [xH x la ta ka tp sh fi ik, gW cI la G, tW cI tp T Rt, gW cI ta u1, gW cI ka K, sW cI cJ sh B Z C, aI cI fi 7 (onF F (xs ((6 * n) + 1)).toInt (xs ((6 * n) + 2)).toInt), mH mo R, mR cI (mo 1) G, mR cI (mo 2) M, mR cI (mo 3) Wa, aI cI (mo 4) 7 F, aI cI (mo 5) 120 T, aI cI (mo 6) 4 B, aI cI (mo 7) 4 Z, aJ cJ (mo 8) 160 C]) rfl (fun _ => rfl) (fun _ => rfl) 0 0 rfl rfl rfl rfl hl.1 rfl (lv_room (Nat.le_of_ble_eq_true rfl)) dL_law_641 ⟨Nat.le_of_ble_eq_true rfl, Nat.le_of_ble_eq_true rfl⟩ (fun u1 H locs hp2 hW => ?_)
  refine lv_aload_n hx hb dL_law_644 rfl (lv_at hl 1 rfl) ?_
  refine lv_aload_n hx hb dL_law_645 rfl (lv_at hl 3 rfl) ?_
  refine lv_iload_n hx hb dL_law_646 rfl (lv_at hl 0 rfl) ?_
  refine lv_iconst (v := nI 1) hx hb dL_law_647 (by decide +kernel) ?_
  refine nn_add hx hb dL_law_648 ?_
  refine va_sld hx hb hX hbl hbA hW.2.2 (vp_in_nI (by omega) (by omega)) dL_law_649 ?_
  refine W.top (v' := .int (xs ((6 * n) + 1))) (by rw [nI_clamp (by omega)]) ?_
  refine lv_aload_n hx hb dL_law_650 rfl (lv_at hl 3 rfl) ?_
  refine lv_iload_n hx hb dL_law_651 rfl (lv_at hl 0 rfl) ?_
  refine lv_iconst (v := nI 2) hx hb dL_law_652 (by decide +kernel) ?_
  refine nn_add hx hb dL_law_653 ?_
  refine va_sld hx hb hX hbl hbA hW.2.2 (vp_in_nI (by omega) (by omega)) dL_law_654 ?_
  refine W.top (v' := .int (xs ((6 * n) + 2))) (by rw [nI_clamp (by omega)]) ?_
  refine cl_Vi (As := [.int (xs ((6 * n) + 1)), .int (xs ((6 * n) + 2))]) (rest := [.int (onV G (xs ((6 * n) + 1)).toInt (xs ((6 * n) + 2)).toInt)]) (C := RX5) ⟨hx, hb, hml, hown, hts⟩ (M_X5_on l D cI cJ mo R G Wa F hI.1.1 (xs ((6 * n) + 1)) (xs ((6 * n) + 2))) (cwV 2 hts gL_law_X5_on rfl rfl rfl qX5_on ⟨Nat.le_of_ble_eq_true rfl, Nat.le_of_ble_eq_true rfl⟩) E0_good hK hA hW trivial [false, false, false, false, false, false, false, true, true, false, true, true] (fun u3 => [xH x la ta ka tp sh fi ik, gW cI la G, tW cI tp T Rt, gW cI ta u1, gW cI ka K, sW cI cJ sh B Z C, aI cI fi 7 (onF F (xs ((6 * n) + 1)).toInt (xs ((6 * n) + 2)).toInt), mH mo R, mR cI (mo 1) G, mR cI (mo 2) M, mR cI (mo 3) u3, aI cI (mo 4) 7 (onF F (xs ((6 * n) + 1)).toInt (xs ((6 * n) + 2)).toInt), aI cI (mo 5) 120 T, aI cI (mo 6) 4 B, aI cI (mo 7) 4 Z, aJ cJ (mo 8) 160 C]) rfl (fun _ => rfl) (fun _ => rfl) 7 0 rfl rfl rfl rfl hl.1 rfl (lv_room (Nat.le_of_ble_eq_true rfl)) dL_law_655 ⟨Nat.le_of_ble_eq_true rfl, Nat.le_of_ble_eq_true rfl⟩ (fun u3 H locs hp4 hW => ?_)
  refine lv_icmp_eq (tgt := 1349) hx hb dL_law_658 (by decide) (fun _ => ?_) (fun hne => absurd rfl hne)
  exact kk ik L G T Rt u1 K (onF F (xs ((6 * n) + 1)).toInt (xs ((6 * n) + 2)).toInt) R M u3 B Z C _ _ _ hI.nx hW hl
set_option maxRecDepth 100000 in
set_option maxHeartbeats 4000000 in
theorem law_then {p : Program} {e : Env} {s : State} {m : MethodId} {below : List Frame} {meth : Method} {c : Code} (l : Launch) {b Ls : Nat} {xs : Nat → Int32} (C0 : lw_At p s m meth c b Ls xs) (D : va_G) (cI cJ : ClassId) (hK : va_K D vwCl [(cI, .int), (cJ, .long)] s) (x fi : Nat) (la ta ka tp sh mo aK aV : Nat → Nat) (nt : Nat) (hES : ES aK aV (fun q : Nat => s.heap.size ≤ q) s s.heap) (hEM : EM nt (fun q : Nat => s.heap.size ≤ q) s s.heap) (n : Nat) (hn : 6 * n + 6 ≤ Ls) (hLs : Ls ≤ 3072) (kk : LGo p l e s m below meth c b D cI cJ x fi la ta ka tp sh mo n) (ik L : Nat) (G T Rt Tx K F R M Wa B Z : Nat → Nat) (C : Nat → Int64) (hI : LI n ik L G K M T Rt R B Z) (H : Heap) (locs : List Loc) (ls : Array Slot) (hW : Wo D vwCl (fun q : Nat => s.heap.size ≤ q) s.heap H locs [xH x la ta ka tp sh fi ik, gW cI la G, tW cI tp T Rt, gW cI ta Tx, gW cI ka K, sW cI cJ sh B Z C, aI cI fi 7 F, mH mo R, mR cI (mo 1) G, mR cI (mo 2) M, mR cI (mo 3) Wa, aI cI (mo 4) 7 F, aI cI (mo 5) 120 T, aI cI (mo 6) 4 B, aI cI (mo 7) 4 Z, aJ cJ (mo 8) 160 C]) (hl : lv_has ls 4 [(3, .int (nI (6 * n))), (2, .ref (mo 0)), (1, .ref x), (0, .ref b)]) : W p l e room_1 s m #[Value.ref b] below meth c H locs 41 984 (lw_Z below #[Value.ref b] s) (F0 m 663 ls []) := by
  obtain ⟨hx, hb, hr, hml, hown, hts0, hX, hbl, hlocks, hgv⟩ := id C0
  have hown : s.vm.findClass RL = some m.cls := hown
  have hts : ∀ w ∈ wsL_law, w.before #[Value.ref b] s = true := fun w hw => hts0 w (wsL_law_in w hw)
  have hA : ∀ q : Nat, s.heap.size ≤ q → (fun q : Nat => s.heap.size ≤ q) q := fun _ h => h
  have hbA : ¬ (fun q : Nat => s.heap.size ≤ q) b := Nat.not_le.mpr hbl
  refine lv_aload_n hx hb dL_law_663 rfl (lv_at hl 2 rfl) ?_
  refine lv_aload_n hx hb dL_law_664 rfl (lv_at hl 3 rfl) ?_
  refine lv_iload_n hx hb dL_law_665 rfl (lv_at hl 0 rfl) ?_
  refine lv_iconst (v := nI 1) hx hb dL_law_666 (by decide +kernel) ?_
  refine nn_add hx hb dL_law_667 ?_
  refine va_sld hx hb hX hbl hbA hW.2.2 (vp_in_nI (by omega) (by omega)) dL_law_668 ?_
  refine W.top (v' := .int (xs ((6 * n) + 1))) (by rw [nI_clamp (by omega)]) ?_
  refine lv_aload_n hx hb dL_law_669 rfl (lv_at hl 3 rfl) ?_
  refine lv_iload_n hx hb dL_law_670 rfl (lv_at hl 0 rfl) ?_
  refine lv_iconst (v := nI 2) hx hb dL_law_671 (by decide +kernel) ?_
  refine nn_add hx hb dL_law_672 ?_
  refine va_sld hx hb hX hbl hbA hW.2.2 (vp_in_nI (by omega) (by omega)) dL_law_673 ?_
  refine W.top (v' := .int (xs ((6 * n) + 2))) (by rw [nI_clamp (by omega)]) ?_
  refine lv_aload_n hx hb dL_law_674 rfl (lv_at hl 3 rfl) ?_
  refine lv_iload_n hx hb dL_law_675 rfl (lv_at hl 0 rfl) ?_
  refine lv_iconst (v := nI 3) hx hb dL_law_676 (by decide +kernel) ?_
  refine nn_add hx hb dL_law_677 ?_
  refine va_sld hx hb hX hbl hbA hW.2.2 (vp_in_nI (by omega) (by omega)) dL_law_678 ?_
  refine W.top (v' := .int (xs ((6 * n) + 3))) (by rw [nI_clamp (by omega)]) ?_
  refine cl_Vi (As := [.int (xs ((6 * n) + 1)), .int (xs ((6 * n) + 2)), .int (xs ((6 * n) + 3))]) (rest := []) (C := RX4) ⟨hx, hb, hml, hown, hts⟩ (M_X4_then l D cI cJ x fi ik la ta ka tp sh G Tx F hI.1.1 (xs ((6 * n) + 1)) (xs ((6 * n) + 2)) (xs ((6 * n) + 3))) (cwV 3 hts gL_law_X4_then rfl rfl rfl qX4_then ⟨Nat.le_of_ble_eq_true rfl, Nat.le_of_ble_eq_true rfl⟩) E0_good hK hA hW trivial [true, true, false, true, false, false, true] (fun u1 => [xH x la ta ka tp sh fi ik, gW cI la G, tW cI tp T Rt, gW cI ta u1, gW cI ka K, sW cI cJ sh B Z C, aI cI fi 7 (thenF G F (xs ((6 * n) + 1)).toInt (xs ((6 * n) + 2)).toInt (xs ((6 * n) + 3)).toInt), mH mo R, mR cI (mo 1) G, mR cI (mo 2) M, mR cI (mo 3) Wa, aI cI (mo 4) 7 F, aI cI (mo 5) 120 T, aI cI (mo 6) 4 B, aI cI (mo 7) 4 Z, aJ cJ (mo 8) 160 C]) rfl (fun _ => rfl) (fun _ => rfl) 0 0 rfl rfl rfl rfl hl.1 rfl (lv_room (Nat.le_of_ble_eq_true rfl)) dL_law_679 ⟨Nat.le_of_ble_eq_true rfl, Nat.le_of_ble_eq_true rfl⟩ (fun u1 H locs hp2 hW => ?_)
  refine lv_aload_n hx hb dL_law_682 rfl (lv_at hl 1 rfl) ?_
  refine lv_aload_n hx hb dL_law_683 rfl (lv_at hl 3 rfl) ?_
  refine lv_iload_n hx hb dL_law_684 rfl (lv_at hl 0 rfl) ?_
  refine lv_iconst (v := nI 1) hx hb dL_law_685 (by decide +kernel) ?_
  refine nn_add hx hb dL_law_686 ?_
  refine va_sld hx hb hX hbl hbA hW.2.2 (vp_in_nI (by omega) (by omega)) dL_law_687 ?_
  refine W.top (v' := .int (xs ((6 * n) + 1))) (by rw [nI_clamp (by omega)]) ?_
  refine lv_aload_n hx hb dL_law_688 rfl (lv_at hl 3 rfl) ?_
  refine lv_iload_n hx hb dL_law_689 rfl (lv_at hl 0 rfl) ?_
  refine lv_iconst (v := nI 2) hx hb dL_law_690 (by decide +kernel) ?_
  refine nn_add hx hb dL_law_691 ?_
  refine va_sld hx hb hX hbl hbA hW.2.2 (vp_in_nI (by omega) (by omega)) dL_law_692 ?_
  refine W.top (v' := .int (xs ((6 * n) + 2))) (by rw [nI_clamp (by omega)]) ?_
  refine lv_aload_n hx hb dL_law_693 rfl (lv_at hl 3 rfl) ?_
  refine lv_iload_n hx hb dL_law_694 rfl (lv_at hl 0 rfl) ?_
  refine lv_iconst (v := nI 3) hx hb dL_law_695 (by decide +kernel) ?_
  refine nn_add hx hb dL_law_696 ?_
  refine va_sld hx hb hX hbl hbA hW.2.2 (vp_in_nI (by omega) (by omega)) dL_law_697 ?_
  refine W.top (v' := .int (xs ((6 * n) + 3))) (by rw [nI_clamp (by omega)]) ?_
  refine cl_Vi (As := [.int (xs ((6 * n) + 1)), .int (xs ((6 * n) + 2)), .int (xs ((6 * n) + 3))]) (rest := [.int (thenV G (xs ((6 * n) + 1)).toInt (xs ((6 * n) + 2)).toInt (xs ((6 * n) + 3)).toInt)]) (C := RX5) ⟨hx, hb, hml, hown, hts⟩ (M_X5_then l D cI cJ mo R G Wa F hI.1.1 (xs ((6 * n) + 1)) (xs ((6 * n) + 2)) (xs ((6 * n) + 3))) (cwV 3 hts gL_law_X5_then rfl rfl rfl qX5_then ⟨Nat.le_of_ble_eq_true rfl, Nat.le_of_ble_eq_true rfl⟩) E0_good hK hA hW trivial [false, false, false, false, false, false, false, true, true, false, true, true] (fun u3 => [xH x la ta ka tp sh fi ik, gW cI la G, tW cI tp T Rt, gW cI ta u1, gW cI ka K, sW cI cJ sh B Z C, aI cI fi 7 (thenF G F (xs ((6 * n) + 1)).toInt (xs ((6 * n) + 2)).toInt (xs ((6 * n) + 3)).toInt), mH mo R, mR cI (mo 1) G, mR cI (mo 2) M, mR cI (mo 3) u3, aI cI (mo 4) 7 (thenF G F (xs ((6 * n) + 1)).toInt (xs ((6 * n) + 2)).toInt (xs ((6 * n) + 3)).toInt), aI cI (mo 5) 120 T, aI cI (mo 6) 4 B, aI cI (mo 7) 4 Z, aJ cJ (mo 8) 160 C]) rfl (fun _ => rfl) (fun _ => rfl) 7 0 rfl rfl rfl rfl hl.1 rfl (lv_room (Nat.le_of_ble_eq_true rfl)) dL_law_698 ⟨Nat.le_of_ble_eq_true rfl, Nat.le_of_ble_eq_true rfl⟩ (fun u3 H locs hp4 hW => ?_)
  refine lv_icmp_eq (tgt := 1349) hx hb dL_law_701 (by decide) (fun _ => ?_) (fun hne => absurd rfl hne)
  exact kk ik L G T Rt u1 K (thenF G F (xs ((6 * n) + 1)).toInt (xs ((6 * n) + 2)).toInt (xs ((6 * n) + 3)).toInt) R M u3 B Z C _ _ _ hI.nx hW hl
set_option maxRecDepth 100000 in
set_option maxHeartbeats 4000000 in
theorem law_quick {p : Program} {e : Env} {s : State} {m : MethodId} {below : List Frame} {meth : Method} {c : Code} (l : Launch) {b Ls : Nat} {xs : Nat → Int32} (C0 : lw_At p s m meth c b Ls xs) (D : va_G) (cI cJ : ClassId) (hK : va_K D vwCl [(cI, .int), (cJ, .long)] s) (x fi : Nat) (la ta ka tp sh mo aK aV : Nat → Nat) (nt : Nat) (hES : ES aK aV (fun q : Nat => s.heap.size ≤ q) s s.heap) (hEM : EM nt (fun q : Nat => s.heap.size ≤ q) s s.heap) (n : Nat) (hn : 6 * n + 6 ≤ Ls) (hLs : Ls ≤ 3072) (kk : LGo p l e s m below meth c b D cI cJ x fi la ta ka tp sh mo n) (ik L : Nat) (G T Rt Tx K F R M Wa B Z : Nat → Nat) (C : Nat → Int64) (hI : LI n ik L G K M T Rt R B Z) (H : Heap) (locs : List Loc) (ls : Array Slot) (hW : Wo D vwCl (fun q : Nat => s.heap.size ≤ q) s.heap H locs [xH x la ta ka tp sh fi ik, gW cI la G, tW cI tp T Rt, gW cI ta Tx, gW cI ka K, sW cI cJ sh B Z C, aI cI fi 7 F, mH mo R, mR cI (mo 1) G, mR cI (mo 2) M, mR cI (mo 3) Wa, aI cI (mo 4) 7 F, aI cI (mo 5) 120 T, aI cI (mo 6) 4 B, aI cI (mo 7) 4 Z, aJ cJ (mo 8) 160 C]) (hl : lv_has ls 4 [(3, .int (nI (6 * n))), (2, .ref (mo 0)), (1, .ref x), (0, .ref b)]) : W p l e room_1 s m #[Value.ref b] below meth c H locs 41 984 (lw_Z below #[Value.ref b] s) (F0 m 706 ls []) := by
  obtain ⟨hx, hb, hr, hml, hown, hts0, hX, hbl, hlocks, hgv⟩ := id C0
  have hown : s.vm.findClass RL = some m.cls := hown
  have hts : ∀ w ∈ wsL_law, w.before #[Value.ref b] s = true := fun w hw => hts0 w (wsL_law_in w hw)
  have hA : ∀ q : Nat, s.heap.size ≤ q → (fun q : Nat => s.heap.size ≤ q) q := fun _ h => h
  have hbA : ¬ (fun q : Nat => s.heap.size ≤ q) b := Nat.not_le.mpr hbl
  refine lv_aload_n hx hb dL_law_706 rfl (lv_at hl 2 rfl) ?_
  refine lv_aload_n hx hb dL_law_707 rfl (lv_at hl 3 rfl) ?_
  refine lv_iload_n hx hb dL_law_708 rfl (lv_at hl 0 rfl) ?_
  refine lv_iconst (v := nI 1) hx hb dL_law_709 (by decide +kernel) ?_
  refine nn_add hx hb dL_law_710 ?_
  refine va_sld hx hb hX hbl hbA hW.2.2 (vp_in_nI (by omega) (by omega)) dL_law_711 ?_
  refine W.top (v' := .int (xs ((6 * n) + 1))) (by rw [nI_clamp (by omega)]) ?_
  refine cl_Vi (As := [.int (xs ((6 * n) + 1))]) (rest := []) (C := RX4) ⟨hx, hb, hml, hown, hts⟩ (M_X4_quick l D cI cJ x fi ik la ta ka tp sh G Tx F hI.1.1 (xs ((6 * n) + 1))) (cwV 1 hts gL_law_X4_quick rfl rfl rfl qX4_quick ⟨Nat.le_of_ble_eq_true rfl, Nat.le_of_ble_eq_true rfl⟩) E0_good hK hA hW trivial [true, true, false, true, false, false, true] (fun u1 => [xH x la ta ka tp sh fi ik, gW cI la G, tW cI tp T Rt, gW cI ta u1, gW cI ka K, sW cI cJ sh B Z C, aI cI fi 7 (quickF G F (xs ((6 * n) + 1)).toInt), mH mo R, mR cI (mo 1) G, mR cI (mo 2) M, mR cI (mo 3) Wa, aI cI (mo 4) 7 F, aI cI (mo 5) 120 T, aI cI (mo 6) 4 B, aI cI (mo 7) 4 Z, aJ cJ (mo 8) 160 C]) rfl (fun _ => rfl) (fun _ => rfl) 0 0 rfl rfl rfl rfl hl.1 rfl (lv_room (Nat.le_of_ble_eq_true rfl)) dL_law_712 ⟨Nat.le_of_ble_eq_true rfl, Nat.le_of_ble_eq_true rfl⟩ (fun u1 H locs hp2 hW => ?_)
  refine lv_aload_n hx hb dL_law_715 rfl (lv_at hl 1 rfl) ?_
  refine lv_aload_n hx hb dL_law_716 rfl (lv_at hl 3 rfl) ?_
  refine lv_iload_n hx hb dL_law_717 rfl (lv_at hl 0 rfl) ?_
  refine lv_iconst (v := nI 1) hx hb dL_law_718 (by decide +kernel) ?_
  refine nn_add hx hb dL_law_719 ?_
  refine va_sld hx hb hX hbl hbA hW.2.2 (vp_in_nI (by omega) (by omega)) dL_law_720 ?_
  refine W.top (v' := .int (xs ((6 * n) + 1))) (by rw [nI_clamp (by omega)]) ?_
  refine cl_Vi (As := [.int (xs ((6 * n) + 1))]) (rest := [.int (quickV G (xs ((6 * n) + 1)).toInt)]) (C := RX5) ⟨hx, hb, hml, hown, hts⟩ (M_X5_quick l D cI cJ mo R G Wa F hI.1.1 (xs ((6 * n) + 1))) (cwV 1 hts gL_law_X5_quick rfl rfl rfl qX5_quick ⟨Nat.le_of_ble_eq_true rfl, Nat.le_of_ble_eq_true rfl⟩) E0_good hK hA hW trivial [false, false, false, false, false, false, false, true, true, false, true, true] (fun u3 => [xH x la ta ka tp sh fi ik, gW cI la G, tW cI tp T Rt, gW cI ta u1, gW cI ka K, sW cI cJ sh B Z C, aI cI fi 7 (quickF G F (xs ((6 * n) + 1)).toInt), mH mo R, mR cI (mo 1) G, mR cI (mo 2) M, mR cI (mo 3) u3, aI cI (mo 4) 7 (quickF G F (xs ((6 * n) + 1)).toInt), aI cI (mo 5) 120 T, aI cI (mo 6) 4 B, aI cI (mo 7) 4 Z, aJ cJ (mo 8) 160 C]) rfl (fun _ => rfl) (fun _ => rfl) 7 0 rfl rfl rfl rfl hl.1 rfl (lv_room (Nat.le_of_ble_eq_true rfl)) dL_law_721 ⟨Nat.le_of_ble_eq_true rfl, Nat.le_of_ble_eq_true rfl⟩ (fun u3 H locs hp4 hW => ?_)
  refine lv_icmp_eq (tgt := 1349) hx hb dL_law_724 (by decide) (fun _ => ?_) (fun hne => absurd rfl hne)
  exact kk ik L G T Rt u1 K (quickF G F (xs ((6 * n) + 1)).toInt) R M u3 B Z C _ _ _ hI.nx hW hl
set_option maxRecDepth 100000 in
set_option maxHeartbeats 4000000 in
theorem law_stands {p : Program} {e : Env} {s : State} {m : MethodId} {below : List Frame} {meth : Method} {c : Code} (l : Launch) {b Ls : Nat} {xs : Nat → Int32} (C0 : lw_At p s m meth c b Ls xs) (D : va_G) (cI cJ : ClassId) (hK : va_K D vwCl [(cI, .int), (cJ, .long)] s) (x fi : Nat) (la ta ka tp sh mo aK aV : Nat → Nat) (nt : Nat) (hES : ES aK aV (fun q : Nat => s.heap.size ≤ q) s s.heap) (hEM : EM nt (fun q : Nat => s.heap.size ≤ q) s s.heap) (n : Nat) (hn : 6 * n + 6 ≤ Ls) (hLs : Ls ≤ 3072) (kk : LGo p l e s m below meth c b D cI cJ x fi la ta ka tp sh mo n) (ik L : Nat) (G T Rt Tx K F R M Wa B Z : Nat → Nat) (C : Nat → Int64) (hI : LI n ik L G K M T Rt R B Z) (H : Heap) (locs : List Loc) (ls : Array Slot) (hW : Wo D vwCl (fun q : Nat => s.heap.size ≤ q) s.heap H locs [xH x la ta ka tp sh fi ik, gW cI la G, tW cI tp T Rt, gW cI ta Tx, gW cI ka K, sW cI cJ sh B Z C, aI cI fi 7 F, mH mo R, mR cI (mo 1) G, mR cI (mo 2) M, mR cI (mo 3) Wa, aI cI (mo 4) 7 F, aI cI (mo 5) 120 T, aI cI (mo 6) 4 B, aI cI (mo 7) 4 Z, aJ cJ (mo 8) 160 C]) (hl : lv_has ls 4 [(3, .int (nI (6 * n))), (2, .ref (mo 0)), (1, .ref x), (0, .ref b)]) : W p l e room_1 s m #[Value.ref b] below meth c H locs 41 984 (lw_Z below #[Value.ref b] s) (F0 m 729 ls []) := by
  obtain ⟨hx, hb, hr, hml, hown, hts0, hX, hbl, hlocks, hgv⟩ := id C0
  have hown : s.vm.findClass RL = some m.cls := hown
  have hts : ∀ w ∈ wsL_law, w.before #[Value.ref b] s = true := fun w hw => hts0 w (wsL_law_in w hw)
  have hA : ∀ q : Nat, s.heap.size ≤ q → (fun q : Nat => s.heap.size ≤ q) q := fun _ h => h
  have hbA : ¬ (fun q : Nat => s.heap.size ≤ q) b := Nat.not_le.mpr hbl
  refine lv_aload_n hx hb dL_law_729 rfl (lv_at hl 2 rfl) ?_
  refine cl_Vi (As := []) (rest := []) (C := RX4) ⟨hx, hb, hml, hown, hts⟩ (M_X4_stands l D cI cJ x fi ik la ta ka tp sh G Tx F hI.1.1) (cwV 0 hts gL_law_X4_stands rfl rfl rfl qX4_stands ⟨Nat.le_of_ble_eq_true rfl, Nat.le_of_ble_eq_true rfl⟩) E0_good hK hA hW trivial [true, true, false, true, false, false, true] (fun u1 => [xH x la ta ka tp sh fi ik, gW cI la G, tW cI tp T Rt, gW cI ta u1, gW cI ka K, sW cI cJ sh B Z C, aI cI fi 7 (standsF G F), mH mo R, mR cI (mo 1) G, mR cI (mo 2) M, mR cI (mo 3) Wa, aI cI (mo 4) 7 F, aI cI (mo 5) 120 T, aI cI (mo 6) 4 B, aI cI (mo 7) 4 Z, aJ cJ (mo 8) 160 C]) rfl (fun _ => rfl) (fun _ => rfl) 0 0 rfl rfl rfl rfl hl.1 rfl (lv_room (Nat.le_of_ble_eq_true rfl)) dL_law_730 ⟨Nat.le_of_ble_eq_true rfl, Nat.le_of_ble_eq_true rfl⟩ (fun u1 H locs hp2 hW => ?_)
  refine lv_aload_n hx hb dL_law_733 rfl (lv_at hl 1 rfl) ?_
  refine cl_Vi (As := []) (rest := [.int (standsV G)]) (C := RX5) ⟨hx, hb, hml, hown, hts⟩ (M_X5_stands l D cI cJ mo R G Wa F hI.1.1) (cwV 0 hts gL_law_X5_stands rfl rfl rfl qX5_stands ⟨Nat.le_of_ble_eq_true rfl, Nat.le_of_ble_eq_true rfl⟩) E0_good hK hA hW trivial [false, false, false, false, false, false, false, true, true, false, true, true] (fun u3 => [xH x la ta ka tp sh fi ik, gW cI la G, tW cI tp T Rt, gW cI ta u1, gW cI ka K, sW cI cJ sh B Z C, aI cI fi 7 (standsF G F), mH mo R, mR cI (mo 1) G, mR cI (mo 2) M, mR cI (mo 3) u3, aI cI (mo 4) 7 (standsF G F), aI cI (mo 5) 120 T, aI cI (mo 6) 4 B, aI cI (mo 7) 4 Z, aJ cJ (mo 8) 160 C]) rfl (fun _ => rfl) (fun _ => rfl) 7 0 rfl rfl rfl rfl hl.1 rfl (lv_room (Nat.le_of_ble_eq_true rfl)) dL_law_734 ⟨Nat.le_of_ble_eq_true rfl, Nat.le_of_ble_eq_true rfl⟩ (fun u3 H locs hp4 hW => ?_)
  refine lv_icmp_eq (tgt := 1349) hx hb dL_law_737 (by decide) (fun _ => ?_) (fun hne => absurd rfl hne)
  exact kk ik L G T Rt u1 K (standsF G F) R M u3 B Z C _ _ _ hI.nx hW hl
set_option maxRecDepth 100000 in
set_option maxHeartbeats 4000000 in
theorem law_flung {p : Program} {e : Env} {s : State} {m : MethodId} {below : List Frame} {meth : Method} {c : Code} (l : Launch) {b Ls : Nat} {xs : Nat → Int32} (C0 : lw_At p s m meth c b Ls xs) (D : va_G) (cI cJ : ClassId) (hK : va_K D vwCl [(cI, .int), (cJ, .long)] s) (x fi : Nat) (la ta ka tp sh mo aK aV : Nat → Nat) (nt : Nat) (hES : ES aK aV (fun q : Nat => s.heap.size ≤ q) s s.heap) (hEM : EM nt (fun q : Nat => s.heap.size ≤ q) s s.heap) (n : Nat) (hn : 6 * n + 6 ≤ Ls) (hLs : Ls ≤ 3072) (kk : LGo p l e s m below meth c b D cI cJ x fi la ta ka tp sh mo n) (ik L : Nat) (G T Rt Tx K F R M Wa B Z : Nat → Nat) (C : Nat → Int64) (hI : LI n ik L G K M T Rt R B Z) (H : Heap) (locs : List Loc) (ls : Array Slot) (hW : Wo D vwCl (fun q : Nat => s.heap.size ≤ q) s.heap H locs [xH x la ta ka tp sh fi ik, gW cI la G, tW cI tp T Rt, gW cI ta Tx, gW cI ka K, sW cI cJ sh B Z C, aI cI fi 7 F, mH mo R, mR cI (mo 1) G, mR cI (mo 2) M, mR cI (mo 3) Wa, aI cI (mo 4) 7 F, aI cI (mo 5) 120 T, aI cI (mo 6) 4 B, aI cI (mo 7) 4 Z, aJ cJ (mo 8) 160 C]) (hl : lv_has ls 4 [(3, .int (nI (6 * n))), (2, .ref (mo 0)), (1, .ref x), (0, .ref b)]) : W p l e room_1 s m #[Value.ref b] below meth c H locs 41 984 (lw_Z below #[Value.ref b] s) (F0 m 742 ls []) := by
  obtain ⟨hx, hb, hr, hml, hown, hts0, hX, hbl, hlocks, hgv⟩ := id C0
  have hown : s.vm.findClass RL = some m.cls := hown
  have hts : ∀ w ∈ wsL_law, w.before #[Value.ref b] s = true := fun w hw => hts0 w (wsL_law_in w hw)
  have hA : ∀ q : Nat, s.heap.size ≤ q → (fun q : Nat => s.heap.size ≤ q) q := fun _ h => h
  have hbA : ¬ (fun q : Nat => s.heap.size ≤ q) b := Nat.not_le.mpr hbl
  refine lv_aload_n hx hb dL_law_742 rfl (lv_at hl 2 rfl) ?_
  refine lv_aload_n hx hb dL_law_743 rfl (lv_at hl 3 rfl) ?_
  refine lv_iload_n hx hb dL_law_744 rfl (lv_at hl 0 rfl) ?_
  refine lv_iconst (v := nI 1) hx hb dL_law_745 (by decide +kernel) ?_
  refine nn_add hx hb dL_law_746 ?_
  refine va_sld hx hb hX hbl hbA hW.2.2 (vp_in_nI (by omega) (by omega)) dL_law_747 ?_
  refine W.top (v' := .int (xs ((6 * n) + 1))) (by rw [nI_clamp (by omega)]) ?_
  refine cl_Vi (As := [.int (xs ((6 * n) + 1))]) (rest := []) (C := RX4) ⟨hx, hb, hml, hown, hts⟩ (M_X4_flung l D cI cJ x fi ik la ta ka tp sh G Tx F hI.1.1 (hI.fl9 (by omega)) (xs ((6 * n) + 1))) (cwV 1 hts gL_law_X4_flung rfl rfl rfl qX4_flung ⟨Nat.le_of_ble_eq_true rfl, Nat.le_of_ble_eq_true rfl⟩) E0_good hK hA hW trivial [true, true, false, true, false, false, true] (fun u1 => [xH x la ta ka tp sh fi ik, gW cI la G, tW cI tp T Rt, gW cI ta u1, gW cI ka K, sW cI cJ sh B Z C, aI cI fi 7 (flungF G F (xs ((6 * n) + 1)).toInt), mH mo R, mR cI (mo 1) G, mR cI (mo 2) M, mR cI (mo 3) Wa, aI cI (mo 4) 7 F, aI cI (mo 5) 120 T, aI cI (mo 6) 4 B, aI cI (mo 7) 4 Z, aJ cJ (mo 8) 160 C]) rfl (fun _ => rfl) (fun _ => rfl) 0 0 rfl rfl rfl rfl hl.1 rfl (lv_room (Nat.le_of_ble_eq_true rfl)) dL_law_748 ⟨Nat.le_of_ble_eq_true rfl, Nat.le_of_ble_eq_true rfl⟩ (fun u1 H locs hp2 hW => ?_)
  refine lv_aload_n hx hb dL_law_751 rfl (lv_at hl 1 rfl) ?_
  refine lv_aload_n hx hb dL_law_752 rfl (lv_at hl 3 rfl) ?_
  refine lv_iload_n hx hb dL_law_753 rfl (lv_at hl 0 rfl) ?_
  refine lv_iconst (v := nI 1) hx hb dL_law_754 (by decide +kernel) ?_
  refine nn_add hx hb dL_law_755 ?_
  refine va_sld hx hb hX hbl hbA hW.2.2 (vp_in_nI (by omega) (by omega)) dL_law_756 ?_
  refine W.top (v' := .int (xs ((6 * n) + 1))) (by rw [nI_clamp (by omega)]) ?_
  refine cl_Vi (As := [.int (xs ((6 * n) + 1))]) (rest := [.int (flungV G (xs ((6 * n) + 1)).toInt)]) (C := RX5) ⟨hx, hb, hml, hown, hts⟩ (M_X5_flung l D cI cJ mo R G Wa F hI.1.1 (xs ((6 * n) + 1))) (cwV 1 hts gL_law_X5_flung rfl rfl rfl qX5_flung ⟨Nat.le_of_ble_eq_true rfl, Nat.le_of_ble_eq_true rfl⟩) E0_good hK hA hW trivial [false, false, false, false, false, false, false, true, true, false, true, true] (fun u3 => [xH x la ta ka tp sh fi ik, gW cI la G, tW cI tp T Rt, gW cI ta u1, gW cI ka K, sW cI cJ sh B Z C, aI cI fi 7 (flungF G F (xs ((6 * n) + 1)).toInt), mH mo R, mR cI (mo 1) G, mR cI (mo 2) M, mR cI (mo 3) u3, aI cI (mo 4) 7 (flungF G F (xs ((6 * n) + 1)).toInt), aI cI (mo 5) 120 T, aI cI (mo 6) 4 B, aI cI (mo 7) 4 Z, aJ cJ (mo 8) 160 C]) rfl (fun _ => rfl) (fun _ => rfl) 7 0 rfl rfl rfl rfl hl.1 rfl (lv_room (Nat.le_of_ble_eq_true rfl)) dL_law_757 ⟨Nat.le_of_ble_eq_true rfl, Nat.le_of_ble_eq_true rfl⟩ (fun u3 H locs hp4 hW => ?_)
  refine lv_icmp_eq (tgt := 1349) hx hb dL_law_760 (by decide) (fun _ => ?_) (fun hne => absurd rfl hne)
  exact kk ik L G T Rt u1 K (flungF G F (xs ((6 * n) + 1)).toInt) R M u3 B Z C _ _ _ hI.nx hW hl
set_option maxRecDepth 100000 in
set_option maxHeartbeats 4000000 in
theorem law_send {p : Program} {e : Env} {s : State} {m : MethodId} {below : List Frame} {meth : Method} {c : Code} (l : Launch) {b Ls : Nat} {xs : Nat → Int32} (C0 : lw_At p s m meth c b Ls xs) (D : va_G) (cI cJ : ClassId) (hK : va_K D vwCl [(cI, .int), (cJ, .long)] s) (x fi : Nat) (la ta ka tp sh mo aK aV : Nat → Nat) (nt : Nat) (hES : ES aK aV (fun q : Nat => s.heap.size ≤ q) s s.heap) (hEM : EM nt (fun q : Nat => s.heap.size ≤ q) s s.heap) (n : Nat) (hn : 6 * n + 6 ≤ Ls) (hLs : Ls ≤ 3072) (kk : LGo p l e s m below meth c b D cI cJ x fi la ta ka tp sh mo n) (ik L : Nat) (G T Rt Tx K F R M Wa B Z : Nat → Nat) (C : Nat → Int64) (hI : LI n ik L G K M T Rt R B Z) (H : Heap) (locs : List Loc) (ls : Array Slot) (hW : Wo D vwCl (fun q : Nat => s.heap.size ≤ q) s.heap H locs [xH x la ta ka tp sh fi ik, gW cI la G, tW cI tp T Rt, gW cI ta Tx, gW cI ka K, sW cI cJ sh B Z C, aI cI fi 7 F, mH mo R, mR cI (mo 1) G, mR cI (mo 2) M, mR cI (mo 3) Wa, aI cI (mo 4) 7 F, aI cI (mo 5) 120 T, aI cI (mo 6) 4 B, aI cI (mo 7) 4 Z, aJ cJ (mo 8) 160 C]) (hl : lv_has ls 4 [(3, .int (nI (6 * n))), (2, .ref (mo 0)), (1, .ref x), (0, .ref b)]) : W p l e room_1 s m #[Value.ref b] below meth c H locs 41 984 (lw_Z below #[Value.ref b] s) (F0 m 765 ls []) := by
  obtain ⟨hx, hb, hr, hml, hown, hts0, hX, hbl, hlocks, hgv⟩ := id C0
  have hown : s.vm.findClass RL = some m.cls := hown
  have hts : ∀ w ∈ wsL_law, w.before #[Value.ref b] s = true := fun w hw => hts0 w (wsL_law_in w hw)
  have hA : ∀ q : Nat, s.heap.size ≤ q → (fun q : Nat => s.heap.size ≤ q) q := fun _ h => h
  have hbA : ¬ (fun q : Nat => s.heap.size ≤ q) b := Nat.not_le.mpr hbl
  refine lv_aload_n hx hb dL_law_765 rfl (lv_at hl 2 rfl) ?_
  refine lv_aload_n hx hb dL_law_766 rfl (lv_at hl 3 rfl) ?_
  refine lv_iload_n hx hb dL_law_767 rfl (lv_at hl 0 rfl) ?_
  refine lv_iconst (v := nI 1) hx hb dL_law_768 (by decide +kernel) ?_
  refine nn_add hx hb dL_law_769 ?_
  refine va_sld hx hb hX hbl hbA hW.2.2 (vp_in_nI (by omega) (by omega)) dL_law_770 ?_
  refine W.top (v' := .int (xs ((6 * n) + 1))) (by rw [nI_clamp (by omega)]) ?_
  refine cl_Vi (As := [.int (xs ((6 * n) + 1))]) (rest := []) (C := RX4) ⟨hx, hb, hml, hown, hts⟩ (M_X4_send l D cI cJ x fi ik la ta ka tp sh G Tx F hI.1.1 (xs ((6 * n) + 1))) (cwV 1 hts gL_law_X4_send rfl rfl rfl qX4_send ⟨Nat.le_of_ble_eq_true rfl, Nat.le_of_ble_eq_true rfl⟩) E0_good hK hA hW trivial [true, true, false, true, false, false, true] (fun u1 => [xH x la ta ka tp sh fi ik, gW cI la G, tW cI tp T Rt, gW cI ta u1, gW cI ka K, sW cI cJ sh B Z C, aI cI fi 7 (sendF G F (xs ((6 * n) + 1)).toInt), mH mo R, mR cI (mo 1) G, mR cI (mo 2) M, mR cI (mo 3) Wa, aI cI (mo 4) 7 F, aI cI (mo 5) 120 T, aI cI (mo 6) 4 B, aI cI (mo 7) 4 Z, aJ cJ (mo 8) 160 C]) rfl (fun _ => rfl) (fun _ => rfl) 0 0 rfl rfl rfl rfl hl.1 rfl (lv_room (Nat.le_of_ble_eq_true rfl)) dL_law_771 ⟨Nat.le_of_ble_eq_true rfl, Nat.le_of_ble_eq_true rfl⟩ (fun u1 H locs hp2 hW => ?_)
  refine lv_aload_n hx hb dL_law_774 rfl (lv_at hl 1 rfl) ?_
  refine lv_aload_n hx hb dL_law_775 rfl (lv_at hl 3 rfl) ?_
  refine lv_iload_n hx hb dL_law_776 rfl (lv_at hl 0 rfl) ?_
  refine lv_iconst (v := nI 1) hx hb dL_law_777 (by decide +kernel) ?_
  refine nn_add hx hb dL_law_778 ?_
  refine va_sld hx hb hX hbl hbA hW.2.2 (vp_in_nI (by omega) (by omega)) dL_law_779 ?_
  refine W.top (v' := .int (xs ((6 * n) + 1))) (by rw [nI_clamp (by omega)]) ?_
  refine cl_Vi (As := [.int (xs ((6 * n) + 1))]) (rest := [.int (sendV G (xs ((6 * n) + 1)).toInt)]) (C := RX5) ⟨hx, hb, hml, hown, hts⟩ (M_X5_send l D cI cJ mo R G Wa F hI.1.1 (xs ((6 * n) + 1))) (cwV 1 hts gL_law_X5_send rfl rfl rfl qX5_send ⟨Nat.le_of_ble_eq_true rfl, Nat.le_of_ble_eq_true rfl⟩) E0_good hK hA hW trivial [false, false, false, false, false, false, false, true, true, false, true, true] (fun u3 => [xH x la ta ka tp sh fi ik, gW cI la G, tW cI tp T Rt, gW cI ta u1, gW cI ka K, sW cI cJ sh B Z C, aI cI fi 7 (sendF G F (xs ((6 * n) + 1)).toInt), mH mo R, mR cI (mo 1) G, mR cI (mo 2) M, mR cI (mo 3) u3, aI cI (mo 4) 7 (sendF G F (xs ((6 * n) + 1)).toInt), aI cI (mo 5) 120 T, aI cI (mo 6) 4 B, aI cI (mo 7) 4 Z, aJ cJ (mo 8) 160 C]) rfl (fun _ => rfl) (fun _ => rfl) 7 0 rfl rfl rfl rfl hl.1 rfl (lv_room (Nat.le_of_ble_eq_true rfl)) dL_law_780 ⟨Nat.le_of_ble_eq_true rfl, Nat.le_of_ble_eq_true rfl⟩ (fun u3 H locs hp4 hW => ?_)
  refine lv_icmp_eq (tgt := 1349) hx hb dL_law_783 (by decide) (fun _ => ?_) (fun hne => absurd rfl hne)
  exact kk ik L G T Rt u1 K (sendF G F (xs ((6 * n) + 1)).toInt) R M u3 B Z C _ _ _ hI.nx hW hl
set_option maxRecDepth 100000 in
set_option maxHeartbeats 4000000 in
theorem law_kind {p : Program} {e : Env} {s : State} {m : MethodId} {below : List Frame} {meth : Method} {c : Code} (l : Launch) {b Ls : Nat} {xs : Nat → Int32} (C0 : lw_At p s m meth c b Ls xs) (D : va_G) (cI cJ : ClassId) (hK : va_K D vwCl [(cI, .int), (cJ, .long)] s) (x fi : Nat) (la ta ka tp sh mo aK aV : Nat → Nat) (nt : Nat) (hES : ES aK aV (fun q : Nat => s.heap.size ≤ q) s s.heap) (hEM : EM nt (fun q : Nat => s.heap.size ≤ q) s s.heap) (n : Nat) (hn : 6 * n + 6 ≤ Ls) (hLs : Ls ≤ 3072) (kk : LGo p l e s m below meth c b D cI cJ x fi la ta ka tp sh mo n) (ik L : Nat) (G T Rt Tx K F R M Wa B Z : Nat → Nat) (C : Nat → Int64) (hI : LI n ik L G K M T Rt R B Z) (H : Heap) (locs : List Loc) (ls : Array Slot) (hW : Wo D vwCl (fun q : Nat => s.heap.size ≤ q) s.heap H locs [xH x la ta ka tp sh fi ik, gW cI la G, tW cI tp T Rt, gW cI ta Tx, gW cI ka K, sW cI cJ sh B Z C, aI cI fi 7 F, mH mo R, mR cI (mo 1) G, mR cI (mo 2) M, mR cI (mo 3) Wa, aI cI (mo 4) 7 F, aI cI (mo 5) 120 T, aI cI (mo 6) 4 B, aI cI (mo 7) 4 Z, aJ cJ (mo 8) 160 C]) (hl : lv_has ls 4 [(3, .int (nI (6 * n))), (2, .ref (mo 0)), (1, .ref x), (0, .ref b)]) : W p l e room_1 s m #[Value.ref b] below meth c H locs 41 984 (lw_Z below #[Value.ref b] s) (F0 m 788 ls []) := by
  obtain ⟨hx, hb, hr, hml, hown, hts0, hX, hbl, hlocks, hgv⟩ := id C0
  have hown : s.vm.findClass RL = some m.cls := hown
  have hts : ∀ w ∈ wsL_law, w.before #[Value.ref b] s = true := fun w hw => hts0 w (wsL_law_in w hw)
  have hA : ∀ q : Nat, s.heap.size ≤ q → (fun q : Nat => s.heap.size ≤ q) q := fun _ h => h
  have hbA : ¬ (fun q : Nat => s.heap.size ≤ q) b := Nat.not_le.mpr hbl
  refine lv_aload_n hx hb dL_law_788 rfl (lv_at hl 2 rfl) ?_
  refine lv_aload_n hx hb dL_law_789 rfl (lv_at hl 3 rfl) ?_
  refine lv_iload_n hx hb dL_law_790 rfl (lv_at hl 0 rfl) ?_
  refine lv_iconst (v := nI 1) hx hb dL_law_791 (by decide +kernel) ?_
  refine nn_add hx hb dL_law_792 ?_
  refine va_sld hx hb hX hbl hbA hW.2.2 (vp_in_nI (by omega) (by omega)) dL_law_793 ?_
  refine W.top (v' := .int (xs ((6 * n) + 1))) (by rw [nI_clamp (by omega)]) ?_
  refine lv_aload_n hx hb dL_law_794 rfl (lv_at hl 3 rfl) ?_
  refine lv_iload_n hx hb dL_law_795 rfl (lv_at hl 0 rfl) ?_
  refine lv_iconst (v := nI 2) hx hb dL_law_796 (by decide +kernel) ?_
  refine nn_add hx hb dL_law_797 ?_
  refine va_sld hx hb hX hbl hbA hW.2.2 (vp_in_nI (by omega) (by omega)) dL_law_798 ?_
  refine W.top (v' := .int (xs ((6 * n) + 2))) (by rw [nI_clamp (by omega)]) ?_
  refine cl_Vi (As := [.int (xs ((6 * n) + 1)), .int (xs ((6 * n) + 2))]) (rest := []) (C := RX4) ⟨hx, hb, hml, hown, hts⟩ (M_X4_kind l D cI cJ x fi ik la ta ka tp sh G Tx F hI.1.1 (xs ((6 * n) + 1)) (xs ((6 * n) + 2))) (cwV 2 hts gL_law_X4_kind rfl rfl rfl qX4_kind ⟨Nat.le_of_ble_eq_true rfl, Nat.le_of_ble_eq_true rfl⟩) E0_good hK hA hW trivial [true, true, false, true, false, false, true] (fun u1 => [xH x la ta ka tp sh fi ik, gW cI la G, tW cI tp T Rt, gW cI ta u1, gW cI ka K, sW cI cJ sh B Z C, aI cI fi 7 (kindF G F (xs ((6 * n) + 1)).toInt (xs ((6 * n) + 2)).toInt), mH mo R, mR cI (mo 1) G, mR cI (mo 2) M, mR cI (mo 3) Wa, aI cI (mo 4) 7 F, aI cI (mo 5) 120 T, aI cI (mo 6) 4 B, aI cI (mo 7) 4 Z, aJ cJ (mo 8) 160 C]) rfl (fun _ => rfl) (fun _ => rfl) 0 0 rfl rfl rfl rfl hl.1 rfl (lv_room (Nat.le_of_ble_eq_true rfl)) dL_law_799 ⟨Nat.le_of_ble_eq_true rfl, Nat.le_of_ble_eq_true rfl⟩ (fun u1 H locs hp2 hW => ?_)
  refine lv_aload_n hx hb dL_law_802 rfl (lv_at hl 1 rfl) ?_
  refine lv_aload_n hx hb dL_law_803 rfl (lv_at hl 3 rfl) ?_
  refine lv_iload_n hx hb dL_law_804 rfl (lv_at hl 0 rfl) ?_
  refine lv_iconst (v := nI 1) hx hb dL_law_805 (by decide +kernel) ?_
  refine nn_add hx hb dL_law_806 ?_
  refine va_sld hx hb hX hbl hbA hW.2.2 (vp_in_nI (by omega) (by omega)) dL_law_807 ?_
  refine W.top (v' := .int (xs ((6 * n) + 1))) (by rw [nI_clamp (by omega)]) ?_
  refine lv_aload_n hx hb dL_law_808 rfl (lv_at hl 3 rfl) ?_
  refine lv_iload_n hx hb dL_law_809 rfl (lv_at hl 0 rfl) ?_
  refine lv_iconst (v := nI 2) hx hb dL_law_810 (by decide +kernel) ?_
  refine nn_add hx hb dL_law_811 ?_
  refine va_sld hx hb hX hbl hbA hW.2.2 (vp_in_nI (by omega) (by omega)) dL_law_812 ?_
  refine W.top (v' := .int (xs ((6 * n) + 2))) (by rw [nI_clamp (by omega)]) ?_
  refine cl_Vi (As := [.int (xs ((6 * n) + 1)), .int (xs ((6 * n) + 2))]) (rest := [.int (kindV G (xs ((6 * n) + 1)).toInt (xs ((6 * n) + 2)).toInt)]) (C := RX5) ⟨hx, hb, hml, hown, hts⟩ (M_X5_kind l D cI cJ mo R G Wa F hI.1.1 (xs ((6 * n) + 1)) (xs ((6 * n) + 2))) (cwV 2 hts gL_law_X5_kind rfl rfl rfl qX5_kind ⟨Nat.le_of_ble_eq_true rfl, Nat.le_of_ble_eq_true rfl⟩) E0_good hK hA hW trivial [false, false, false, false, false, false, false, true, true, false, true, true] (fun u3 => [xH x la ta ka tp sh fi ik, gW cI la G, tW cI tp T Rt, gW cI ta u1, gW cI ka K, sW cI cJ sh B Z C, aI cI fi 7 (kindF G F (xs ((6 * n) + 1)).toInt (xs ((6 * n) + 2)).toInt), mH mo R, mR cI (mo 1) G, mR cI (mo 2) M, mR cI (mo 3) u3, aI cI (mo 4) 7 (kindF G F (xs ((6 * n) + 1)).toInt (xs ((6 * n) + 2)).toInt), aI cI (mo 5) 120 T, aI cI (mo 6) 4 B, aI cI (mo 7) 4 Z, aJ cJ (mo 8) 160 C]) rfl (fun _ => rfl) (fun _ => rfl) 7 0 rfl rfl rfl rfl hl.1 rfl (lv_room (Nat.le_of_ble_eq_true rfl)) dL_law_813 ⟨Nat.le_of_ble_eq_true rfl, Nat.le_of_ble_eq_true rfl⟩ (fun u3 H locs hp4 hW => ?_)
  refine lv_icmp_eq (tgt := 1349) hx hb dL_law_816 (by decide) (fun _ => ?_) (fun hne => absurd rfl hne)
  exact kk ik L G T Rt u1 K (kindF G F (xs ((6 * n) + 1)).toInt (xs ((6 * n) + 2)).toInt) R M u3 B Z C _ _ _ hI.nx hW hl
set_option maxRecDepth 100000 in
set_option maxHeartbeats 4000000 in
theorem law_firm {p : Program} {e : Env} {s : State} {m : MethodId} {below : List Frame} {meth : Method} {c : Code} (l : Launch) {b Ls : Nat} {xs : Nat → Int32} (C0 : lw_At p s m meth c b Ls xs) (D : va_G) (cI cJ : ClassId) (hK : va_K D vwCl [(cI, .int), (cJ, .long)] s) (x fi : Nat) (la ta ka tp sh mo aK aV : Nat → Nat) (nt : Nat) (hES : ES aK aV (fun q : Nat => s.heap.size ≤ q) s s.heap) (hEM : EM nt (fun q : Nat => s.heap.size ≤ q) s s.heap) (n : Nat) (hn : 6 * n + 6 ≤ Ls) (hLs : Ls ≤ 3072) (kk : LGo p l e s m below meth c b D cI cJ x fi la ta ka tp sh mo n) (ik L : Nat) (G T Rt Tx K F R M Wa B Z : Nat → Nat) (C : Nat → Int64) (hI : LI n ik L G K M T Rt R B Z) (H : Heap) (locs : List Loc) (ls : Array Slot) (hW : Wo D vwCl (fun q : Nat => s.heap.size ≤ q) s.heap H locs [xH x la ta ka tp sh fi ik, gW cI la G, tW cI tp T Rt, gW cI ta Tx, gW cI ka K, sW cI cJ sh B Z C, aI cI fi 7 F, mH mo R, mR cI (mo 1) G, mR cI (mo 2) M, mR cI (mo 3) Wa, aI cI (mo 4) 7 F, aI cI (mo 5) 120 T, aI cI (mo 6) 4 B, aI cI (mo 7) 4 Z, aJ cJ (mo 8) 160 C]) (hl : lv_has ls 4 [(3, .int (nI (6 * n))), (2, .ref (mo 0)), (1, .ref x), (0, .ref b)]) : W p l e room_1 s m #[Value.ref b] below meth c H locs 41 984 (lw_Z below #[Value.ref b] s) (F0 m 821 ls []) := by
  obtain ⟨hx, hb, hr, hml, hown, hts0, hX, hbl, hlocks, hgv⟩ := id C0
  have hown : s.vm.findClass RL = some m.cls := hown
  have hts : ∀ w ∈ wsL_law, w.before #[Value.ref b] s = true := fun w hw => hts0 w (wsL_law_in w hw)
  have hA : ∀ q : Nat, s.heap.size ≤ q → (fun q : Nat => s.heap.size ≤ q) q := fun _ h => h
  have hbA : ¬ (fun q : Nat => s.heap.size ≤ q) b := Nat.not_le.mpr hbl
  refine lv_aload_n hx hb dL_law_821 rfl (lv_at hl 2 rfl) ?_
  refine lv_aload_n hx hb dL_law_822 rfl (lv_at hl 3 rfl) ?_
  refine lv_iload_n hx hb dL_law_823 rfl (lv_at hl 0 rfl) ?_
  refine lv_iconst (v := nI 1) hx hb dL_law_824 (by decide +kernel) ?_
  refine nn_add hx hb dL_law_825 ?_
  refine va_sld hx hb hX hbl hbA hW.2.2 (vp_in_nI (by omega) (by omega)) dL_law_826 ?_
  refine W.top (v' := .int (xs ((6 * n) + 1))) (by rw [nI_clamp (by omega)]) ?_
  refine lv_aload_n hx hb dL_law_827 rfl (lv_at hl 3 rfl) ?_
  refine lv_iload_n hx hb dL_law_828 rfl (lv_at hl 0 rfl) ?_
  refine lv_iconst (v := nI 2) hx hb dL_law_829 (by decide +kernel) ?_
  refine nn_add hx hb dL_law_830 ?_
  refine va_sld hx hb hX hbl hbA hW.2.2 (vp_in_nI (by omega) (by omega)) dL_law_831 ?_
  refine W.top (v' := .int (xs ((6 * n) + 2))) (by rw [nI_clamp (by omega)]) ?_
  refine cl_Vi (As := [.int (xs ((6 * n) + 1)), .int (xs ((6 * n) + 2))]) (rest := []) (C := RX4) ⟨hx, hb, hml, hown, hts⟩ (M_X4_firm l D cI cJ x fi ik la ta ka tp sh G Tx F hI.1.1 (hI.fl9 (by omega)) (xs ((6 * n) + 1)) (xs ((6 * n) + 2))) (cwV 2 hts gL_law_X4_firm rfl rfl rfl qX4_firm ⟨Nat.le_of_ble_eq_true rfl, Nat.le_of_ble_eq_true rfl⟩) E0_good hK hA hW trivial [true, true, false, true, false, false, true] (fun u1 => [xH x la ta ka tp sh fi ik, gW cI la G, tW cI tp T Rt, gW cI ta u1, gW cI ka K, sW cI cJ sh B Z C, aI cI fi 7 (firmF G F (xs ((6 * n) + 1)).toInt (xs ((6 * n) + 2)).toInt), mH mo R, mR cI (mo 1) G, mR cI (mo 2) M, mR cI (mo 3) Wa, aI cI (mo 4) 7 F, aI cI (mo 5) 120 T, aI cI (mo 6) 4 B, aI cI (mo 7) 4 Z, aJ cJ (mo 8) 160 C]) rfl (fun _ => rfl) (fun _ => rfl) 0 0 rfl rfl rfl rfl hl.1 rfl (lv_room (Nat.le_of_ble_eq_true rfl)) dL_law_832 ⟨Nat.le_of_ble_eq_true rfl, Nat.le_of_ble_eq_true rfl⟩ (fun u1 H locs hp2 hW => ?_)
  refine lv_aload_n hx hb dL_law_835 rfl (lv_at hl 1 rfl) ?_
  refine lv_aload_n hx hb dL_law_836 rfl (lv_at hl 3 rfl) ?_
  refine lv_iload_n hx hb dL_law_837 rfl (lv_at hl 0 rfl) ?_
  refine lv_iconst (v := nI 1) hx hb dL_law_838 (by decide +kernel) ?_
  refine nn_add hx hb dL_law_839 ?_
  refine va_sld hx hb hX hbl hbA hW.2.2 (vp_in_nI (by omega) (by omega)) dL_law_840 ?_
  refine W.top (v' := .int (xs ((6 * n) + 1))) (by rw [nI_clamp (by omega)]) ?_
  refine lv_aload_n hx hb dL_law_841 rfl (lv_at hl 3 rfl) ?_
  refine lv_iload_n hx hb dL_law_842 rfl (lv_at hl 0 rfl) ?_
  refine lv_iconst (v := nI 2) hx hb dL_law_843 (by decide +kernel) ?_
  refine nn_add hx hb dL_law_844 ?_
  refine va_sld hx hb hX hbl hbA hW.2.2 (vp_in_nI (by omega) (by omega)) dL_law_845 ?_
  refine W.top (v' := .int (xs ((6 * n) + 2))) (by rw [nI_clamp (by omega)]) ?_
  refine cl_Vi (As := [.int (xs ((6 * n) + 1)), .int (xs ((6 * n) + 2))]) (rest := [.int (firmV G (xs ((6 * n) + 1)).toInt (xs ((6 * n) + 2)).toInt)]) (C := RX5) ⟨hx, hb, hml, hown, hts⟩ (M_X5_firm l D cI cJ mo R G Wa F hI.1.1 (xs ((6 * n) + 1)) (xs ((6 * n) + 2))) (cwV 2 hts gL_law_X5_firm rfl rfl rfl qX5_firm ⟨Nat.le_of_ble_eq_true rfl, Nat.le_of_ble_eq_true rfl⟩) E0_good hK hA hW trivial [false, false, false, false, false, false, false, true, true, false, true, true] (fun u3 => [xH x la ta ka tp sh fi ik, gW cI la G, tW cI tp T Rt, gW cI ta u1, gW cI ka K, sW cI cJ sh B Z C, aI cI fi 7 (firmF G F (xs ((6 * n) + 1)).toInt (xs ((6 * n) + 2)).toInt), mH mo R, mR cI (mo 1) G, mR cI (mo 2) M, mR cI (mo 3) u3, aI cI (mo 4) 7 (firmF G F (xs ((6 * n) + 1)).toInt (xs ((6 * n) + 2)).toInt), aI cI (mo 5) 120 T, aI cI (mo 6) 4 B, aI cI (mo 7) 4 Z, aJ cJ (mo 8) 160 C]) rfl (fun _ => rfl) (fun _ => rfl) 7 0 rfl rfl rfl rfl hl.1 rfl (lv_room (Nat.le_of_ble_eq_true rfl)) dL_law_846 ⟨Nat.le_of_ble_eq_true rfl, Nat.le_of_ble_eq_true rfl⟩ (fun u3 H locs hp4 hW => ?_)
  refine lv_icmp_eq (tgt := 1349) hx hb dL_law_849 (by decide) (fun _ => ?_) (fun hne => absurd rfl hne)
  exact kk ik L G T Rt u1 K (firmF G F (xs ((6 * n) + 1)).toInt (xs ((6 * n) + 2)).toInt) R M u3 B Z C _ _ _ hI.nx hW hl
set_option maxRecDepth 100000 in
set_option maxHeartbeats 4000000 in
theorem law_heavy {p : Program} {e : Env} {s : State} {m : MethodId} {below : List Frame} {meth : Method} {c : Code} (l : Launch) {b Ls : Nat} {xs : Nat → Int32} (C0 : lw_At p s m meth c b Ls xs) (D : va_G) (cI cJ : ClassId) (hK : va_K D vwCl [(cI, .int), (cJ, .long)] s) (x fi : Nat) (la ta ka tp sh mo aK aV : Nat → Nat) (nt : Nat) (hES : ES aK aV (fun q : Nat => s.heap.size ≤ q) s s.heap) (hEM : EM nt (fun q : Nat => s.heap.size ≤ q) s s.heap) (n : Nat) (hn : 6 * n + 6 ≤ Ls) (hLs : Ls ≤ 3072) (kk : LGo p l e s m below meth c b D cI cJ x fi la ta ka tp sh mo n) (ik L : Nat) (G T Rt Tx K F R M Wa B Z : Nat → Nat) (C : Nat → Int64) (hI : LI n ik L G K M T Rt R B Z) (H : Heap) (locs : List Loc) (ls : Array Slot) (hW : Wo D vwCl (fun q : Nat => s.heap.size ≤ q) s.heap H locs [xH x la ta ka tp sh fi ik, gW cI la G, tW cI tp T Rt, gW cI ta Tx, gW cI ka K, sW cI cJ sh B Z C, aI cI fi 7 F, mH mo R, mR cI (mo 1) G, mR cI (mo 2) M, mR cI (mo 3) Wa, aI cI (mo 4) 7 F, aI cI (mo 5) 120 T, aI cI (mo 6) 4 B, aI cI (mo 7) 4 Z, aJ cJ (mo 8) 160 C]) (hl : lv_has ls 4 [(3, .int (nI (6 * n))), (2, .ref (mo 0)), (1, .ref x), (0, .ref b)]) : W p l e room_1 s m #[Value.ref b] below meth c H locs 41 984 (lw_Z below #[Value.ref b] s) (F0 m 854 ls []) := by
  obtain ⟨hx, hb, hr, hml, hown, hts0, hX, hbl, hlocks, hgv⟩ := id C0
  have hown : s.vm.findClass RL = some m.cls := hown
  have hts : ∀ w ∈ wsL_law, w.before #[Value.ref b] s = true := fun w hw => hts0 w (wsL_law_in w hw)
  have hA : ∀ q : Nat, s.heap.size ≤ q → (fun q : Nat => s.heap.size ≤ q) q := fun _ h => h
  have hbA : ¬ (fun q : Nat => s.heap.size ≤ q) b := Nat.not_le.mpr hbl
  refine lv_aload_n hx hb dL_law_854 rfl (lv_at hl 2 rfl) ?_
  refine lv_aload_n hx hb dL_law_855 rfl (lv_at hl 3 rfl) ?_
  refine lv_iload_n hx hb dL_law_856 rfl (lv_at hl 0 rfl) ?_
  refine lv_iconst (v := nI 1) hx hb dL_law_857 (by decide +kernel) ?_
  refine nn_add hx hb dL_law_858 ?_
  refine va_sld hx hb hX hbl hbA hW.2.2 (vp_in_nI (by omega) (by omega)) dL_law_859 ?_
  refine W.top (v' := .int (xs ((6 * n) + 1))) (by rw [nI_clamp (by omega)]) ?_
  refine cl_Vi (As := [.int (xs ((6 * n) + 1))]) (rest := []) (C := RX4) ⟨hx, hb, hml, hown, hts⟩ (M_X4_heavy l D cI cJ x fi ik la ta ka tp sh G Tx F hI.1.1 (xs ((6 * n) + 1))) (cwV 1 hts gL_law_X4_heavy rfl rfl rfl qX4_heavy ⟨Nat.le_of_ble_eq_true rfl, Nat.le_of_ble_eq_true rfl⟩) E0_good hK hA hW trivial [true, true, false, true, false, false, true] (fun u1 => [xH x la ta ka tp sh fi ik, gW cI la G, tW cI tp T Rt, gW cI ta u1, gW cI ka K, sW cI cJ sh B Z C, aI cI fi 7 (heavyF G F (xs ((6 * n) + 1)).toInt), mH mo R, mR cI (mo 1) G, mR cI (mo 2) M, mR cI (mo 3) Wa, aI cI (mo 4) 7 F, aI cI (mo 5) 120 T, aI cI (mo 6) 4 B, aI cI (mo 7) 4 Z, aJ cJ (mo 8) 160 C]) rfl (fun _ => rfl) (fun _ => rfl) 0 0 rfl rfl rfl rfl hl.1 rfl (lv_room (Nat.le_of_ble_eq_true rfl)) dL_law_860 ⟨Nat.le_of_ble_eq_true rfl, Nat.le_of_ble_eq_true rfl⟩ (fun u1 H locs hp2 hW => ?_)
  refine lv_aload_n hx hb dL_law_863 rfl (lv_at hl 1 rfl) ?_
  refine lv_aload_n hx hb dL_law_864 rfl (lv_at hl 3 rfl) ?_
  refine lv_iload_n hx hb dL_law_865 rfl (lv_at hl 0 rfl) ?_
  refine lv_iconst (v := nI 1) hx hb dL_law_866 (by decide +kernel) ?_
  refine nn_add hx hb dL_law_867 ?_
  refine va_sld hx hb hX hbl hbA hW.2.2 (vp_in_nI (by omega) (by omega)) dL_law_868 ?_
  refine W.top (v' := .int (xs ((6 * n) + 1))) (by rw [nI_clamp (by omega)]) ?_
  refine cl_Vi (As := [.int (xs ((6 * n) + 1))]) (rest := [.int (heavyV G (xs ((6 * n) + 1)).toInt)]) (C := RX5) ⟨hx, hb, hml, hown, hts⟩ (M_X5_heavy l D cI cJ mo R G Wa F hI.1.1 (xs ((6 * n) + 1))) (cwV 1 hts gL_law_X5_heavy rfl rfl rfl qX5_heavy ⟨Nat.le_of_ble_eq_true rfl, Nat.le_of_ble_eq_true rfl⟩) E0_good hK hA hW trivial [false, false, false, false, false, false, false, true, true, false, true, true] (fun u3 => [xH x la ta ka tp sh fi ik, gW cI la G, tW cI tp T Rt, gW cI ta u1, gW cI ka K, sW cI cJ sh B Z C, aI cI fi 7 (heavyF G F (xs ((6 * n) + 1)).toInt), mH mo R, mR cI (mo 1) G, mR cI (mo 2) M, mR cI (mo 3) u3, aI cI (mo 4) 7 (heavyF G F (xs ((6 * n) + 1)).toInt), aI cI (mo 5) 120 T, aI cI (mo 6) 4 B, aI cI (mo 7) 4 Z, aJ cJ (mo 8) 160 C]) rfl (fun _ => rfl) (fun _ => rfl) 7 0 rfl rfl rfl rfl hl.1 rfl (lv_room (Nat.le_of_ble_eq_true rfl)) dL_law_869 ⟨Nat.le_of_ble_eq_true rfl, Nat.le_of_ble_eq_true rfl⟩ (fun u3 H locs hp4 hW => ?_)
  refine lv_icmp_eq (tgt := 1349) hx hb dL_law_872 (by decide) (fun _ => ?_) (fun hne => absurd rfl hne)
  exact kk ik L G T Rt u1 K (heavyF G F (xs ((6 * n) + 1)).toInt) R M u3 B Z C _ _ _ hI.nx hW hl
set_option maxRecDepth 100000 in
set_option maxHeartbeats 4000000 in
theorem law_fewest {p : Program} {e : Env} {s : State} {m : MethodId} {below : List Frame} {meth : Method} {c : Code} (l : Launch) {b Ls : Nat} {xs : Nat → Int32} (C0 : lw_At p s m meth c b Ls xs) (D : va_G) (cI cJ : ClassId) (hK : va_K D vwCl [(cI, .int), (cJ, .long)] s) (x fi : Nat) (la ta ka tp sh mo aK aV : Nat → Nat) (nt : Nat) (hES : ES aK aV (fun q : Nat => s.heap.size ≤ q) s s.heap) (hEM : EM nt (fun q : Nat => s.heap.size ≤ q) s s.heap) (n : Nat) (hn : 6 * n + 6 ≤ Ls) (hLs : Ls ≤ 3072) (kk : LGo p l e s m below meth c b D cI cJ x fi la ta ka tp sh mo n) (ik L : Nat) (G T Rt Tx K F R M Wa B Z : Nat → Nat) (C : Nat → Int64) (hI : LI n ik L G K M T Rt R B Z) (H : Heap) (locs : List Loc) (ls : Array Slot) (hW : Wo D vwCl (fun q : Nat => s.heap.size ≤ q) s.heap H locs [xH x la ta ka tp sh fi ik, gW cI la G, tW cI tp T Rt, gW cI ta Tx, gW cI ka K, sW cI cJ sh B Z C, aI cI fi 7 F, mH mo R, mR cI (mo 1) G, mR cI (mo 2) M, mR cI (mo 3) Wa, aI cI (mo 4) 7 F, aI cI (mo 5) 120 T, aI cI (mo 6) 4 B, aI cI (mo 7) 4 Z, aJ cJ (mo 8) 160 C]) (hl : lv_has ls 4 [(3, .int (nI (6 * n))), (2, .ref (mo 0)), (1, .ref x), (0, .ref b)]) : W p l e room_1 s m #[Value.ref b] below meth c H locs 41 984 (lw_Z below #[Value.ref b] s) (F0 m 877 ls []) := by
  obtain ⟨hx, hb, hr, hml, hown, hts0, hX, hbl, hlocks, hgv⟩ := id C0
  have hown : s.vm.findClass RL = some m.cls := hown
  have hts : ∀ w ∈ wsL_law, w.before #[Value.ref b] s = true := fun w hw => hts0 w (wsL_law_in w hw)
  have hA : ∀ q : Nat, s.heap.size ≤ q → (fun q : Nat => s.heap.size ≤ q) q := fun _ h => h
  have hbA : ¬ (fun q : Nat => s.heap.size ≤ q) b := Nat.not_le.mpr hbl
  refine lv_aload_n hx hb dL_law_877 rfl (lv_at hl 2 rfl) ?_
  refine lv_aload_n hx hb dL_law_878 rfl (lv_at hl 3 rfl) ?_
  refine lv_iload_n hx hb dL_law_879 rfl (lv_at hl 0 rfl) ?_
  refine lv_iconst (v := nI 1) hx hb dL_law_880 (by decide +kernel) ?_
  refine nn_add hx hb dL_law_881 ?_
  refine va_sld hx hb hX hbl hbA hW.2.2 (vp_in_nI (by omega) (by omega)) dL_law_882 ?_
  refine W.top (v' := .int (xs ((6 * n) + 1))) (by rw [nI_clamp (by omega)]) ?_
  refine cl_Vi (As := [.int (xs ((6 * n) + 1))]) (rest := []) (C := RX4) ⟨hx, hb, hml, hown, hts⟩ (M_X4_fewest l D cI cJ x fi ik la ta ka tp sh G Tx F hI.1.1 (xs ((6 * n) + 1))) (cwV 1 hts gL_law_X4_fewest rfl rfl rfl qX4_fewest ⟨Nat.le_of_ble_eq_true rfl, Nat.le_of_ble_eq_true rfl⟩) E0_good hK hA hW trivial [true, true, false, true, false, false, true] (fun u1 => [xH x la ta ka tp sh fi ik, gW cI la G, tW cI tp T Rt, gW cI ta u1, gW cI ka K, sW cI cJ sh B Z C, aI cI fi 7 (fewestF G F (xs ((6 * n) + 1)).toInt), mH mo R, mR cI (mo 1) G, mR cI (mo 2) M, mR cI (mo 3) Wa, aI cI (mo 4) 7 F, aI cI (mo 5) 120 T, aI cI (mo 6) 4 B, aI cI (mo 7) 4 Z, aJ cJ (mo 8) 160 C]) rfl (fun _ => rfl) (fun _ => rfl) 0 0 rfl rfl rfl rfl hl.1 rfl (lv_room (Nat.le_of_ble_eq_true rfl)) dL_law_883 ⟨Nat.le_of_ble_eq_true rfl, Nat.le_of_ble_eq_true rfl⟩ (fun u1 H locs hp2 hW => ?_)
  refine lv_aload_n hx hb dL_law_886 rfl (lv_at hl 1 rfl) ?_
  refine lv_aload_n hx hb dL_law_887 rfl (lv_at hl 3 rfl) ?_
  refine lv_iload_n hx hb dL_law_888 rfl (lv_at hl 0 rfl) ?_
  refine lv_iconst (v := nI 1) hx hb dL_law_889 (by decide +kernel) ?_
  refine nn_add hx hb dL_law_890 ?_
  refine va_sld hx hb hX hbl hbA hW.2.2 (vp_in_nI (by omega) (by omega)) dL_law_891 ?_
  refine W.top (v' := .int (xs ((6 * n) + 1))) (by rw [nI_clamp (by omega)]) ?_
  refine cl_Vi (As := [.int (xs ((6 * n) + 1))]) (rest := [.int (fewestV G (xs ((6 * n) + 1)).toInt)]) (C := RX5) ⟨hx, hb, hml, hown, hts⟩ (M_X5_fewest l D cI cJ mo R G Wa F hI.1.1 (xs ((6 * n) + 1))) (cwV 1 hts gL_law_X5_fewest rfl rfl rfl qX5_fewest ⟨Nat.le_of_ble_eq_true rfl, Nat.le_of_ble_eq_true rfl⟩) E0_good hK hA hW trivial [false, false, false, false, false, false, false, true, true, false, true, true] (fun u3 => [xH x la ta ka tp sh fi ik, gW cI la G, tW cI tp T Rt, gW cI ta u1, gW cI ka K, sW cI cJ sh B Z C, aI cI fi 7 (fewestF G F (xs ((6 * n) + 1)).toInt), mH mo R, mR cI (mo 1) G, mR cI (mo 2) M, mR cI (mo 3) u3, aI cI (mo 4) 7 (fewestF G F (xs ((6 * n) + 1)).toInt), aI cI (mo 5) 120 T, aI cI (mo 6) 4 B, aI cI (mo 7) 4 Z, aJ cJ (mo 8) 160 C]) rfl (fun _ => rfl) (fun _ => rfl) 7 0 rfl rfl rfl rfl hl.1 rfl (lv_room (Nat.le_of_ble_eq_true rfl)) dL_law_892 ⟨Nat.le_of_ble_eq_true rfl, Nat.le_of_ble_eq_true rfl⟩ (fun u3 H locs hp4 hW => ?_)
  refine lv_icmp_eq (tgt := 1349) hx hb dL_law_895 (by decide) (fun _ => ?_) (fun hne => absurd rfl hne)
  exact kk ik L G T Rt u1 K (fewestF G F (xs ((6 * n) + 1)).toInt) R M u3 B Z C _ _ _ hI.nx hW hl
set_option maxRecDepth 100000 in
set_option maxHeartbeats 4000000 in
theorem law_weather {p : Program} {e : Env} {s : State} {m : MethodId} {below : List Frame} {meth : Method} {c : Code} (l : Launch) {b Ls : Nat} {xs : Nat → Int32} (C0 : lw_At p s m meth c b Ls xs) (D : va_G) (cI cJ : ClassId) (hK : va_K D vwCl [(cI, .int), (cJ, .long)] s) (x fi : Nat) (la ta ka tp sh mo aK aV : Nat → Nat) (nt : Nat) (hES : ES aK aV (fun q : Nat => s.heap.size ≤ q) s s.heap) (hEM : EM nt (fun q : Nat => s.heap.size ≤ q) s s.heap) (n : Nat) (hn : 6 * n + 6 ≤ Ls) (hLs : Ls ≤ 3072) (kk : LGo p l e s m below meth c b D cI cJ x fi la ta ka tp sh mo n) (ik L : Nat) (G T Rt Tx K F R M Wa B Z : Nat → Nat) (C : Nat → Int64) (hI : LI n ik L G K M T Rt R B Z) (H : Heap) (locs : List Loc) (ls : Array Slot) (hW : Wo D vwCl (fun q : Nat => s.heap.size ≤ q) s.heap H locs [xH x la ta ka tp sh fi ik, gW cI la G, tW cI tp T Rt, gW cI ta Tx, gW cI ka K, sW cI cJ sh B Z C, aI cI fi 7 F, mH mo R, mR cI (mo 1) G, mR cI (mo 2) M, mR cI (mo 3) Wa, aI cI (mo 4) 7 F, aI cI (mo 5) 120 T, aI cI (mo 6) 4 B, aI cI (mo 7) 4 Z, aJ cJ (mo 8) 160 C]) (hl : lv_has ls 4 [(3, .int (nI (6 * n))), (2, .ref (mo 0)), (1, .ref x), (0, .ref b)]) : W p l e room_1 s m #[Value.ref b] below meth c H locs 41 984 (lw_Z below #[Value.ref b] s) (F0 m 900 ls []) := by
  obtain ⟨hx, hb, hr, hml, hown, hts0, hX, hbl, hlocks, hgv⟩ := id C0
  have hown : s.vm.findClass RL = some m.cls := hown
  have hts : ∀ w ∈ wsL_law, w.before #[Value.ref b] s = true := fun w hw => hts0 w (wsL_law_in w hw)
  have hA : ∀ q : Nat, s.heap.size ≤ q → (fun q : Nat => s.heap.size ≤ q) q := fun _ h => h
  have hbA : ¬ (fun q : Nat => s.heap.size ≤ q) b := Nat.not_le.mpr hbl
  refine lv_aload_n hx hb dL_law_900 rfl (lv_at hl 2 rfl) ?_
  refine lv_aload_n hx hb dL_law_901 rfl (lv_at hl 3 rfl) ?_
  refine lv_iload_n hx hb dL_law_902 rfl (lv_at hl 0 rfl) ?_
  refine lv_iconst (v := nI 1) hx hb dL_law_903 (by decide +kernel) ?_
  refine nn_add hx hb dL_law_904 ?_
  refine va_sld hx hb hX hbl hbA hW.2.2 (vp_in_nI (by omega) (by omega)) dL_law_905 ?_
  refine W.top (v' := .int (xs ((6 * n) + 1))) (by rw [nI_clamp (by omega)]) ?_
  refine cl_Vi (As := [.int (xs ((6 * n) + 1))]) (rest := []) (C := RX4) ⟨hx, hb, hml, hown, hts⟩ (M_X4_weather l D cI cJ x fi ik la ta ka tp sh G Tx F hI.1.1 (xs ((6 * n) + 1))) (cwV 1 hts gL_law_X4_weather rfl rfl rfl qX4_weather ⟨Nat.le_of_ble_eq_true rfl, Nat.le_of_ble_eq_true rfl⟩) E0_good hK hA hW trivial [true, true, false, true, false, false, true] (fun u1 => [xH x la ta ka tp sh fi ik, gW cI la G, tW cI tp T Rt, gW cI ta u1, gW cI ka K, sW cI cJ sh B Z C, aI cI fi 7 (weatherF F (xs ((6 * n) + 1)).toInt), mH mo R, mR cI (mo 1) G, mR cI (mo 2) M, mR cI (mo 3) Wa, aI cI (mo 4) 7 F, aI cI (mo 5) 120 T, aI cI (mo 6) 4 B, aI cI (mo 7) 4 Z, aJ cJ (mo 8) 160 C]) rfl (fun _ => rfl) (fun _ => rfl) 0 0 rfl rfl rfl rfl hl.1 rfl (lv_room (Nat.le_of_ble_eq_true rfl)) dL_law_906 ⟨Nat.le_of_ble_eq_true rfl, Nat.le_of_ble_eq_true rfl⟩ (fun u1 H locs hp2 hW => ?_)
  refine lv_aload_n hx hb dL_law_909 rfl (lv_at hl 1 rfl) ?_
  refine lv_aload_n hx hb dL_law_910 rfl (lv_at hl 3 rfl) ?_
  refine lv_iload_n hx hb dL_law_911 rfl (lv_at hl 0 rfl) ?_
  refine lv_iconst (v := nI 1) hx hb dL_law_912 (by decide +kernel) ?_
  refine nn_add hx hb dL_law_913 ?_
  refine va_sld hx hb hX hbl hbA hW.2.2 (vp_in_nI (by omega) (by omega)) dL_law_914 ?_
  refine W.top (v' := .int (xs ((6 * n) + 1))) (by rw [nI_clamp (by omega)]) ?_
  refine cl_Vi (As := [.int (xs ((6 * n) + 1))]) (rest := [.int (weatherV G (xs ((6 * n) + 1)).toInt)]) (C := RX5) ⟨hx, hb, hml, hown, hts⟩ (M_X5_weather l D cI cJ mo R G Wa F hI.1.1 (xs ((6 * n) + 1))) (cwV 1 hts gL_law_X5_weather rfl rfl rfl qX5_weather ⟨Nat.le_of_ble_eq_true rfl, Nat.le_of_ble_eq_true rfl⟩) E0_good hK hA hW trivial [false, false, false, false, false, false, false, true, true, false, true, true] (fun u3 => [xH x la ta ka tp sh fi ik, gW cI la G, tW cI tp T Rt, gW cI ta u1, gW cI ka K, sW cI cJ sh B Z C, aI cI fi 7 (weatherF F (xs ((6 * n) + 1)).toInt), mH mo R, mR cI (mo 1) G, mR cI (mo 2) M, mR cI (mo 3) u3, aI cI (mo 4) 7 (weatherF F (xs ((6 * n) + 1)).toInt), aI cI (mo 5) 120 T, aI cI (mo 6) 4 B, aI cI (mo 7) 4 Z, aJ cJ (mo 8) 160 C]) rfl (fun _ => rfl) (fun _ => rfl) 7 0 rfl rfl rfl rfl hl.1 rfl (lv_room (Nat.le_of_ble_eq_true rfl)) dL_law_915 ⟨Nat.le_of_ble_eq_true rfl, Nat.le_of_ble_eq_true rfl⟩ (fun u3 H locs hp4 hW => ?_)
  refine lv_icmp_eq (tgt := 1349) hx hb dL_law_918 (by decide) (fun _ => ?_) (fun hne => absurd rfl hne)
  exact kk ik L G T Rt u1 K (weatherF F (xs ((6 * n) + 1)).toInt) R M u3 B Z C _ _ _ hI.nx hW hl
set_option maxRecDepth 100000 in
set_option maxHeartbeats 4000000 in
theorem law_deepest {p : Program} {e : Env} {s : State} {m : MethodId} {below : List Frame} {meth : Method} {c : Code} (l : Launch) {b Ls : Nat} {xs : Nat → Int32} (C0 : lw_At p s m meth c b Ls xs) (D : va_G) (cI cJ : ClassId) (hK : va_K D vwCl [(cI, .int), (cJ, .long)] s) (x fi : Nat) (la ta ka tp sh mo aK aV : Nat → Nat) (nt : Nat) (hES : ES aK aV (fun q : Nat => s.heap.size ≤ q) s s.heap) (hEM : EM nt (fun q : Nat => s.heap.size ≤ q) s s.heap) (n : Nat) (hn : 6 * n + 6 ≤ Ls) (hLs : Ls ≤ 3072) (kk : LGo p l e s m below meth c b D cI cJ x fi la ta ka tp sh mo n) (ik L : Nat) (G T Rt Tx K F R M Wa B Z : Nat → Nat) (C : Nat → Int64) (hI : LI n ik L G K M T Rt R B Z) (H : Heap) (locs : List Loc) (ls : Array Slot) (hW : Wo D vwCl (fun q : Nat => s.heap.size ≤ q) s.heap H locs [xH x la ta ka tp sh fi ik, gW cI la G, tW cI tp T Rt, gW cI ta Tx, gW cI ka K, sW cI cJ sh B Z C, aI cI fi 7 F, mH mo R, mR cI (mo 1) G, mR cI (mo 2) M, mR cI (mo 3) Wa, aI cI (mo 4) 7 F, aI cI (mo 5) 120 T, aI cI (mo 6) 4 B, aI cI (mo 7) 4 Z, aJ cJ (mo 8) 160 C]) (hl : lv_has ls 4 [(3, .int (nI (6 * n))), (2, .ref (mo 0)), (1, .ref x), (0, .ref b)]) : W p l e room_1 s m #[Value.ref b] below meth c H locs 41 984 (lw_Z below #[Value.ref b] s) (F0 m 923 ls []) := by
  obtain ⟨hx, hb, hr, hml, hown, hts0, hX, hbl, hlocks, hgv⟩ := id C0
  have hown : s.vm.findClass RL = some m.cls := hown
  have hts : ∀ w ∈ wsL_law, w.before #[Value.ref b] s = true := fun w hw => hts0 w (wsL_law_in w hw)
  have hA : ∀ q : Nat, s.heap.size ≤ q → (fun q : Nat => s.heap.size ≤ q) q := fun _ h => h
  have hbA : ¬ (fun q : Nat => s.heap.size ≤ q) b := Nat.not_le.mpr hbl
  refine lv_aload_n hx hb dL_law_923 rfl (lv_at hl 2 rfl) ?_
  refine lv_aload_n hx hb dL_law_924 rfl (lv_at hl 3 rfl) ?_
  refine lv_iload_n hx hb dL_law_925 rfl (lv_at hl 0 rfl) ?_
  refine lv_iconst (v := nI 1) hx hb dL_law_926 (by decide +kernel) ?_
  refine nn_add hx hb dL_law_927 ?_
  refine va_sld hx hb hX hbl hbA hW.2.2 (vp_in_nI (by omega) (by omega)) dL_law_928 ?_
  refine W.top (v' := .int (xs ((6 * n) + 1))) (by rw [nI_clamp (by omega)]) ?_
  refine cl_Vi (As := [.int (xs ((6 * n) + 1))]) (rest := []) (C := RX4) ⟨hx, hb, hml, hown, hts⟩ (M_X4_deepest l D cI cJ x fi ik la ta ka tp sh G Tx F hI.1.1 (xs ((6 * n) + 1))) (cwV 1 hts gL_law_X4_deepest rfl rfl rfl qX4_deepest ⟨Nat.le_of_ble_eq_true rfl, Nat.le_of_ble_eq_true rfl⟩) E0_good hK hA hW trivial [true, true, false, true, false, false, true] (fun u1 => [xH x la ta ka tp sh fi ik, gW cI la G, tW cI tp T Rt, gW cI ta u1, gW cI ka K, sW cI cJ sh B Z C, aI cI fi 7 (deepestF G F (xs ((6 * n) + 1)).toInt), mH mo R, mR cI (mo 1) G, mR cI (mo 2) M, mR cI (mo 3) Wa, aI cI (mo 4) 7 F, aI cI (mo 5) 120 T, aI cI (mo 6) 4 B, aI cI (mo 7) 4 Z, aJ cJ (mo 8) 160 C]) rfl (fun _ => rfl) (fun _ => rfl) 0 0 rfl rfl rfl rfl hl.1 rfl (lv_room (Nat.le_of_ble_eq_true rfl)) dL_law_929 ⟨Nat.le_of_ble_eq_true rfl, Nat.le_of_ble_eq_true rfl⟩ (fun u1 H locs hp2 hW => ?_)
  refine lv_aload_n hx hb dL_law_932 rfl (lv_at hl 1 rfl) ?_
  refine lv_aload_n hx hb dL_law_933 rfl (lv_at hl 3 rfl) ?_
  refine lv_iload_n hx hb dL_law_934 rfl (lv_at hl 0 rfl) ?_
  refine lv_iconst (v := nI 1) hx hb dL_law_935 (by decide +kernel) ?_
  refine nn_add hx hb dL_law_936 ?_
  refine va_sld hx hb hX hbl hbA hW.2.2 (vp_in_nI (by omega) (by omega)) dL_law_937 ?_
  refine W.top (v' := .int (xs ((6 * n) + 1))) (by rw [nI_clamp (by omega)]) ?_
  refine cl_Vi (As := [.int (xs ((6 * n) + 1))]) (rest := [.int (deepestV G (xs ((6 * n) + 1)).toInt)]) (C := RX5) ⟨hx, hb, hml, hown, hts⟩ (M_X5_deepest l D cI cJ mo R G Wa F hI.1.1 (xs ((6 * n) + 1))) (cwV 1 hts gL_law_X5_deepest rfl rfl rfl qX5_deepest ⟨Nat.le_of_ble_eq_true rfl, Nat.le_of_ble_eq_true rfl⟩) E0_good hK hA hW trivial [false, false, false, false, false, false, false, true, true, false, true, true] (fun u3 => [xH x la ta ka tp sh fi ik, gW cI la G, tW cI tp T Rt, gW cI ta u1, gW cI ka K, sW cI cJ sh B Z C, aI cI fi 7 (deepestF G F (xs ((6 * n) + 1)).toInt), mH mo R, mR cI (mo 1) G, mR cI (mo 2) M, mR cI (mo 3) u3, aI cI (mo 4) 7 (deepestF G F (xs ((6 * n) + 1)).toInt), aI cI (mo 5) 120 T, aI cI (mo 6) 4 B, aI cI (mo 7) 4 Z, aJ cJ (mo 8) 160 C]) rfl (fun _ => rfl) (fun _ => rfl) 7 0 rfl rfl rfl rfl hl.1 rfl (lv_room (Nat.le_of_ble_eq_true rfl)) dL_law_938 ⟨Nat.le_of_ble_eq_true rfl, Nat.le_of_ble_eq_true rfl⟩ (fun u3 H locs hp4 hW => ?_)
  refine lv_icmp_eq (tgt := 1349) hx hb dL_law_941 (by decide) (fun _ => ?_) (fun hne => absurd rfl hne)
  exact kk ik L G T Rt u1 K (deepestF G F (xs ((6 * n) + 1)).toInt) R M u3 B Z C _ _ _ hI.nx hW hl
set_option maxRecDepth 100000 in
set_option maxHeartbeats 4000000 in
theorem law_feed {p : Program} {e : Env} {s : State} {m : MethodId} {below : List Frame} {meth : Method} {c : Code} (l : Launch) {b Ls : Nat} {xs : Nat → Int32} (C0 : lw_At p s m meth c b Ls xs) (D : va_G) (cI cJ : ClassId) (hK : va_K D vwCl [(cI, .int), (cJ, .long)] s) (x fi : Nat) (la ta ka tp sh mo aK aV : Nat → Nat) (nt : Nat) (hES : ES aK aV (fun q : Nat => s.heap.size ≤ q) s s.heap) (hEM : EM nt (fun q : Nat => s.heap.size ≤ q) s s.heap) (n : Nat) (hn : 6 * n + 6 ≤ Ls) (hLs : Ls ≤ 3072) (kk : LGo p l e s m below meth c b D cI cJ x fi la ta ka tp sh mo n) (ik L : Nat) (G T Rt Tx K F R M Wa B Z : Nat → Nat) (C : Nat → Int64) (hI : LI n ik L G K M T Rt R B Z) (H : Heap) (locs : List Loc) (ls : Array Slot) (hW : Wo D vwCl (fun q : Nat => s.heap.size ≤ q) s.heap H locs [xH x la ta ka tp sh fi ik, gW cI la G, tW cI tp T Rt, gW cI ta Tx, gW cI ka K, sW cI cJ sh B Z C, aI cI fi 7 F, mH mo R, mR cI (mo 1) G, mR cI (mo 2) M, mR cI (mo 3) Wa, aI cI (mo 4) 7 F, aI cI (mo 5) 120 T, aI cI (mo 6) 4 B, aI cI (mo 7) 4 Z, aJ cJ (mo 8) 160 C]) (hl : lv_has ls 4 [(3, .int (nI (6 * n))), (2, .ref (mo 0)), (1, .ref x), (0, .ref b)]) : W p l e room_1 s m #[Value.ref b] below meth c H locs 41 984 (lw_Z below #[Value.ref b] s) (F0 m 946 ls []) := by
  obtain ⟨hx, hb, hr, hml, hown, hts0, hX, hbl, hlocks, hgv⟩ := id C0
  have hown : s.vm.findClass RL = some m.cls := hown
  have hts : ∀ w ∈ wsL_law, w.before #[Value.ref b] s = true := fun w hw => hts0 w (wsL_law_in w hw)
  have hA : ∀ q : Nat, s.heap.size ≤ q → (fun q : Nat => s.heap.size ≤ q) q := fun _ h => h
  have hbA : ¬ (fun q : Nat => s.heap.size ≤ q) b := Nat.not_le.mpr hbl
  refine lv_aload_n hx hb dL_law_946 rfl (lv_at hl 2 rfl) ?_
  refine lv_aload_n hx hb dL_law_947 rfl (lv_at hl 3 rfl) ?_
  refine lv_iload_n hx hb dL_law_948 rfl (lv_at hl 0 rfl) ?_
  refine lv_iconst (v := nI 1) hx hb dL_law_949 (by decide +kernel) ?_
  refine nn_add hx hb dL_law_950 ?_
  refine va_sld hx hb hX hbl hbA hW.2.2 (vp_in_nI (by omega) (by omega)) dL_law_951 ?_
  refine W.top (v' := .int (xs ((6 * n) + 1))) (by rw [nI_clamp (by omega)]) ?_
  refine lv_aload_n hx hb dL_law_952 rfl (lv_at hl 3 rfl) ?_
  refine lv_iload_n hx hb dL_law_953 rfl (lv_at hl 0 rfl) ?_
  refine lv_iconst (v := nI 2) hx hb dL_law_954 (by decide +kernel) ?_
  refine nn_add hx hb dL_law_955 ?_
  refine va_sld hx hb hX hbl hbA hW.2.2 (vp_in_nI (by omega) (by omega)) dL_law_956 ?_
  refine W.top (v' := .int (xs ((6 * n) + 2))) (by rw [nI_clamp (by omega)]) ?_
  refine cl_Vi (As := [.int (xs ((6 * n) + 1)), .int (xs ((6 * n) + 2))]) (rest := []) (C := RX4) ⟨hx, hb, hml, hown, hts⟩ (N_X4_feed l D cI cJ x fi ik la ta ka tp sh T Rt F (by have h3 := hI.2.2.1; omega) (xs ((6 * n) + 1)) (xs ((6 * n) + 2)) L hI.2.2.1.1) (cwV 2 hts gL_law_X4_feed rfl rfl rfl qX4_feed ⟨Nat.le_of_ble_eq_true rfl, Nat.le_of_ble_eq_true rfl⟩) E0_good hK hA hW trivial [true, false, true, false, false, false, true] (fun _ => [xH x la ta ka tp sh fi ik, gW cI la G, tW cI tp (feedT T L (xs ((6 * n) + 1)) (xs ((6 * n) + 2)).toInt) (up Rt 0 (feedN L (xs ((6 * n) + 2)).toInt)), gW cI ta Tx, gW cI ka K, sW cI cJ sh B Z C, aI cI fi 7 (feedF F L (xs ((6 * n) + 2)).toInt), mH mo R, mR cI (mo 1) G, mR cI (mo 2) M, mR cI (mo 3) Wa, aI cI (mo 4) 7 F, aI cI (mo 5) 120 T, aI cI (mo 6) 4 B, aI cI (mo 7) 4 Z, aJ cJ (mo 8) 160 C]) rfl (fun _ => rfl) (fun _ => rfl) 0 0 rfl rfl rfl rfl hl.1 rfl (lv_room (Nat.le_of_ble_eq_true rfl)) dL_law_957 ⟨Nat.le_of_ble_eq_true rfl, Nat.le_of_ble_eq_true rfl⟩ (fun _ H locs _ hW => ?_)
  refine lv_aload_n hx hb dL_law_960 rfl (lv_at hl 1 rfl) ?_
  refine lv_aload_n hx hb dL_law_961 rfl (lv_at hl 3 rfl) ?_
  refine lv_iload_n hx hb dL_law_962 rfl (lv_at hl 0 rfl) ?_
  refine lv_iconst (v := nI 1) hx hb dL_law_963 (by decide +kernel) ?_
  refine nn_add hx hb dL_law_964 ?_
  refine va_sld hx hb hX hbl hbA hW.2.2 (vp_in_nI (by omega) (by omega)) dL_law_965 ?_
  refine W.top (v' := .int (xs ((6 * n) + 1))) (by rw [nI_clamp (by omega)]) ?_
  refine lv_aload_n hx hb dL_law_966 rfl (lv_at hl 3 rfl) ?_
  refine lv_iload_n hx hb dL_law_967 rfl (lv_at hl 0 rfl) ?_
  refine lv_iconst (v := nI 2) hx hb dL_law_968 (by decide +kernel) ?_
  refine nn_add hx hb dL_law_969 ?_
  refine va_sld hx hb hX hbl hbA hW.2.2 (vp_in_nI (by omega) (by omega)) dL_law_970 ?_
  refine W.top (v' := .int (xs ((6 * n) + 2))) (by rw [nI_clamp (by omega)]) ?_
  refine cl_Vi (As := [.int (xs ((6 * n) + 1)), .int (xs ((6 * n) + 2))]) (rest := [.int (feedV L (xs ((6 * n) + 2)).toInt)]) (C := RX5) ⟨hx, hb, hml, hown, hts⟩ (N_X5_feed l D cI cJ mo R F T (by have h3 := hI.2.2.1; omega) (xs ((6 * n) + 1)) (xs ((6 * n) + 2)) L hI.2.2.1.2.1) (cwV 2 hts gL_law_X5_feed rfl rfl rfl qX5_feed ⟨Nat.le_of_ble_eq_true rfl, Nat.le_of_ble_eq_true rfl⟩) E0_good hK hA hW trivial [false, false, false, false, false, false, false, true, false, false, false, true, true] (fun _ => [xH x la ta ka tp sh fi ik, gW cI la G, tW cI tp (feedT T L (xs ((6 * n) + 1)) (xs ((6 * n) + 2)).toInt) (up Rt 0 (feedN L (xs ((6 * n) + 2)).toInt)), gW cI ta Tx, gW cI ka K, sW cI cJ sh B Z C, aI cI fi 7 (feedF F L (xs ((6 * n) + 2)).toInt), mH mo (up R 1 (feedN L (xs ((6 * n) + 2)).toInt)), mR cI (mo 1) G, mR cI (mo 2) M, mR cI (mo 3) Wa, aI cI (mo 4) 7 (feedF F L (xs ((6 * n) + 2)).toInt), aI cI (mo 5) 120 (feedT T L (xs ((6 * n) + 1)) (xs ((6 * n) + 2)).toInt), aI cI (mo 6) 4 B, aI cI (mo 7) 4 Z, aJ cJ (mo 8) 160 C]) rfl (fun _ => rfl) (fun _ => rfl) 7 0 rfl rfl rfl rfl hl.1 rfl (lv_room (Nat.le_of_ble_eq_true rfl)) dL_law_971 ⟨Nat.le_of_ble_eq_true rfl, Nat.le_of_ble_eq_true rfl⟩ (fun _ H locs _ hW => ?_)
  refine lv_icmp_eq (tgt := 1349) hx hb dL_law_974 (by decide) (fun _ => ?_) (fun hne => absurd rfl hne)
  exact kk ik (feedN L (xs (6 * n + 2)).toInt) G (feedT T L (xs ((6 * n) + 1)) (xs ((6 * n) + 2)).toInt) (up Rt 0 (feedN L (xs ((6 * n) + 2)).toInt)) Tx K (feedF F L (xs ((6 * n) + 2)).toInt) (up R 1 (feedN L (xs ((6 * n) + 2)).toInt)) M Wa B Z C _ _ _ (hI.tp hI.1.nx (up_eq _ _ _) (up_eq _ _ _) (up_ne (by decide)) (feedN_le hI.2.2.1.2.2.2 _) (feed_lt hI.2.2.2.1 _ _ _)) hW hl
