set_option maxRecDepth 100000 in
set_option maxHeartbeats 4000000 in
theorem law_wipe {p : Program} {e : Env} {s : State} {m : MethodId} {below : List Frame} {meth : Method} {c : Code} (l : Launch) {b Ls : Nat} {xs : Nat → Int32} (C0 : lw_At p s m meth c b Ls xs) (D : va_G) (cI cJ : ClassId) (hK : va_K D vwCl [(cI, .int), (cJ, .long)] s) (x fi : Nat) (la ta ka tp sh mo aK aV : Nat → Nat) (nt : Nat) (hES : ES aK aV (fun q : Nat => s.heap.size ≤ q) s s.heap) (hEM : EM nt (fun q : Nat => s.heap.size ≤ q) s s.heap) (n : Nat) (hn : 6 * n + 6 ≤ Ls) (hLs : Ls ≤ 3072) (kk : LGo p l e s m below meth c b D cI cJ x fi la ta ka tp sh mo n) (ik L : Nat) (G T Rt Tx K F R M Wa B Z : Nat → Nat) (C : Nat → Int64) (hI : LI n ik L G K M T Rt R B Z) (H : Heap) (locs : List Loc) (ls : Array Slot) (hW : Wo D vwCl (fun q : Nat => s.heap.size ≤ q) s.heap H locs [xH x la ta ka tp sh fi ik, gW cI la G, tW cI tp T Rt, gW cI ta Tx, gW cI ka K, sW cI cJ sh B Z C, aI cI fi 7 F, mH mo R, mR cI (mo 1) G, mR cI (mo 2) M, mR cI (mo 3) Wa, aI cI (mo 4) 7 F, aI cI (mo 5) 120 T, aI cI (mo 6) 4 B, aI cI (mo 7) 4 Z, aJ cJ (mo 8) 160 C]) (hl : lv_has ls 4 [(3, .int (nI (6 * n))), (2, .ref (mo 0)), (1, .ref x), (0, .ref b)]) : W p l e room_1 s m #[Value.ref b] below meth c H locs 41 984 (lw_Z below #[Value.ref b] s) (F0 m 979 ls []) := by
  obtain ⟨hx, hb, hr, hml, hown, hts0, hX, hbl, hlocks, hgv⟩ := id C0
  have hown : s.vm.findClass RL = some m.cls := hown
  have hts : ∀ w ∈ wsL_law, w.before #[Value.ref b] s = true := fun w hw => hts0 w (wsL_law_in w hw)
  have hA : ∀ q : Nat, s.heap.size ≤ q → (fun q : Nat => s.heap.size ≤ q) q := fun _ h => h
  have hbA : ¬ (fun q : Nat => s.heap.size ≤ q) b := Nat.not_le.mpr hbl
  refine lv_aload_n hx hb dL_law_979 rfl (lv_at hl 2 rfl) ?_
  refine cl_Vi (As := []) (rest := []) (C := RX4) ⟨hx, hb, hml, hown, hts⟩ (N_X4_wipe l D cI cJ x fi ik la ta ka tp sh T Rt L hI.2.2.1.1) (cwV 0 hts gL_law_X4_wipe rfl rfl rfl qX4_wipe ⟨Nat.le_of_ble_eq_true rfl, Nat.le_of_ble_eq_true rfl⟩) E0_good hK hA hW trivial [true, false, true] (fun _ => [xH x la ta ka tp sh fi ik, gW cI la G, tW cI tp T (up Rt 0 0), gW cI ta Tx, gW cI ka K, sW cI cJ sh B Z C, aI cI fi 7 F, mH mo R, mR cI (mo 1) G, mR cI (mo 2) M, mR cI (mo 3) Wa, aI cI (mo 4) 7 F, aI cI (mo 5) 120 T, aI cI (mo 6) 4 B, aI cI (mo 7) 4 Z, aJ cJ (mo 8) 160 C]) rfl (fun _ => rfl) (fun _ => rfl) 0 0 rfl rfl rfl rfl hl.1 rfl (lv_room (Nat.le_of_ble_eq_true rfl)) dL_law_980 ⟨Nat.le_of_ble_eq_true rfl, Nat.le_of_ble_eq_true rfl⟩ (fun _ H locs _ hW => ?_)
  refine lv_aload_n hx hb dL_law_983 rfl (lv_at hl 1 rfl) ?_
  refine cl_Vi (As := []) (rest := [.int (nI L)]) (C := RX5) ⟨hx, hb, hml, hown, hts⟩ (N_X5_wipe l D cI cJ mo R L hI.2.2.1.2.1) (cwV 0 hts gL_law_X5_wipe rfl rfl rfl qX5_wipe ⟨Nat.le_of_ble_eq_true rfl, Nat.le_of_ble_eq_true rfl⟩) E0_good hK hA hW trivial [false, false, false, false, false, false, false, true] (fun _ => [xH x la ta ka tp sh fi ik, gW cI la G, tW cI tp T (up Rt 0 0), gW cI ta Tx, gW cI ka K, sW cI cJ sh B Z C, aI cI fi 7 F, mH mo (up R 1 0), mR cI (mo 1) G, mR cI (mo 2) M, mR cI (mo 3) Wa, aI cI (mo 4) 7 F, aI cI (mo 5) 120 T, aI cI (mo 6) 4 B, aI cI (mo 7) 4 Z, aJ cJ (mo 8) 160 C]) rfl (fun _ => rfl) (fun _ => rfl) 7 0 rfl rfl rfl rfl hl.1 rfl (lv_room (Nat.le_of_ble_eq_true rfl)) dL_law_984 ⟨Nat.le_of_ble_eq_true rfl, Nat.le_of_ble_eq_true rfl⟩ (fun _ H locs _ hW => ?_)
  refine lv_icmp_eq (tgt := 1349) hx hb dL_law_987 (by decide) (fun _ => ?_) (fun hne => absurd rfl hne)
  exact kk ik 0 G T (up Rt 0 0) Tx K F (up R 1 0) M Wa B Z C _ _ _ (hI.tp hI.1.nx (up_eq _ _ _) (up_eq _ _ _) (up_ne (by decide)) (Nat.zero_le _) hI.2.2.2.1) hW hl
set_option maxRecDepth 100000 in
set_option maxHeartbeats 4000000 in
theorem law_green {p : Program} {e : Env} {s : State} {m : MethodId} {below : List Frame} {meth : Method} {c : Code} (l : Launch) {b Ls : Nat} {xs : Nat → Int32} (C0 : lw_At p s m meth c b Ls xs) (D : va_G) (cI cJ : ClassId) (hK : va_K D vwCl [(cI, .int), (cJ, .long)] s) (x fi : Nat) (la ta ka tp sh mo aK aV : Nat → Nat) (nt : Nat) (hES : ES aK aV (fun q : Nat => s.heap.size ≤ q) s s.heap) (hEM : EM nt (fun q : Nat => s.heap.size ≤ q) s s.heap) (n : Nat) (hn : 6 * n + 6 ≤ Ls) (hLs : Ls ≤ 3072) (kk : LGo p l e s m below meth c b D cI cJ x fi la ta ka tp sh mo n) (ik L : Nat) (G T Rt Tx K F R M Wa B Z : Nat → Nat) (C : Nat → Int64) (hI : LI n ik L G K M T Rt R B Z) (H : Heap) (locs : List Loc) (ls : Array Slot) (hW : Wo D vwCl (fun q : Nat => s.heap.size ≤ q) s.heap H locs [xH x la ta ka tp sh fi ik, gW cI la G, tW cI tp T Rt, gW cI ta Tx, gW cI ka K, sW cI cJ sh B Z C, aI cI fi 7 F, mH mo R, mR cI (mo 1) G, mR cI (mo 2) M, mR cI (mo 3) Wa, aI cI (mo 4) 7 F, aI cI (mo 5) 120 T, aI cI (mo 6) 4 B, aI cI (mo 7) 4 Z, aJ cJ (mo 8) 160 C]) (hl : lv_has ls 4 [(3, .int (nI (6 * n))), (2, .ref (mo 0)), (1, .ref x), (0, .ref b)]) : W p l e room_1 s m #[Value.ref b] below meth c H locs 41 984 (lw_Z below #[Value.ref b] s) (F0 m 992 ls []) := by
  obtain ⟨hx, hb, hr, hml, hown, hts0, hX, hbl, hlocks, hgv⟩ := id C0
  have hown : s.vm.findClass RL = some m.cls := hown
  have hts : ∀ w ∈ wsL_law, w.before #[Value.ref b] s = true := fun w hw => hts0 w (wsL_law_in w hw)
  have hA : ∀ q : Nat, s.heap.size ≤ q → (fun q : Nat => s.heap.size ≤ q) q := fun _ h => h
  have hbA : ¬ (fun q : Nat => s.heap.size ≤ q) b := Nat.not_le.mpr hbl
  refine lv_aload_n hx hb dL_law_992 rfl (lv_at hl 2 rfl) ?_
  refine cw_Vi (As := []) (rest := []) (C := RX4) ⟨hx, hb, hml, hown, hts⟩ (M_X4_green l D cI cJ aK aV x fi ik la ta ka tp sh G Tx T Rt L hI.2.2.1.1 hI.2.2.1.2.2.2 hI.2.2.2.1 hI.1.1) (cwV 0 hts gL_law_X4_green rfl rfl rfl qX4_green ⟨Nat.le_of_ble_eq_true rfl, Nat.le_of_ble_eq_true rfl⟩) (ES_good aK aV) hK hA hW hES [true, true, true, true] (fun u1 => [xH x la ta ka tp sh fi ik, gW cI la (greenG T L G), tW cI tp T u1.1, gW cI ta u1.2, gW cI ka K, sW cI cJ sh B Z C, aI cI fi 7 F, mH mo R, mR cI (mo 1) G, mR cI (mo 2) M, mR cI (mo 3) Wa, aI cI (mo 4) 7 F, aI cI (mo 5) 120 T, aI cI (mo 6) 4 B, aI cI (mo 7) 4 Z, aJ cJ (mo 8) 160 C]) rfl (fun _ => rfl) (fun _ => rfl) 0 0 rfl rfl rfl rfl hl.1 rfl (lv_room (Nat.le_of_ble_eq_true rfl)) dL_law_993 ⟨Nat.le_of_ble_eq_true rfl, Nat.le_of_ble_eq_true rfl⟩ (fun u1 H locs hp2 hW => ?_)
  refine lv_aload_n hx hb dL_law_996 rfl (lv_at hl 1 rfl) ?_
  refine cw_Vi (As := []) (rest := [.int (greenV T L G)]) (C := RX5) ⟨hx, hb, hml, hown, hts⟩ (M_X5_green l D cI cJ mo R G Wa T nt L hI.2.2.1.2.1 hI.2.2.1.2.2.2 hI.2.2.2.1 99999 (by decide) hI.1.1) (cwV 0 hts gL_law_X5_green rfl rfl rfl qX5_green ⟨Nat.le_of_ble_eq_true rfl, Nat.le_of_ble_eq_true rfl⟩) (EM_good nt) hK hA hW hEM [false, false, false, false, false, false, false, true, true, false, true, false, true] (fun u3 => [xH x la ta ka tp sh fi ik, gW cI la (greenG T L G), tW cI tp T u1.1, gW cI ta u1.2, gW cI ka K, sW cI cJ sh B Z C, aI cI fi 7 F, mH mo u3.1, mR cI (mo 1) (greenG T L G), mR cI (mo 2) M, mR cI (mo 3) u3.2, aI cI (mo 4) 7 F, aI cI (mo 5) 120 T, aI cI (mo 6) 4 B, aI cI (mo 7) 4 Z, aJ cJ (mo 8) 160 C]) rfl (fun _ => rfl) (fun _ => rfl) 7 0 rfl rfl rfl rfl hl.1 rfl (lv_room (Nat.le_of_ble_eq_true rfl)) dL_law_997 ⟨Nat.le_of_ble_eq_true rfl, Nat.le_of_ble_eq_true rfl⟩ (fun u3 H locs hp4 hW => ?_)
  refine lv_icmp_eq (tgt := 1349) hx hb dL_law_1000 (by decide) (fun _ => ?_) (fun hne => absurd rfl hne)
  exact kk ik 0 (greenG T L G) T u1.1 u1.2 K F u3.1 M u3.2 B Z C _ _ _ (hI.tp (gi_green hI.1 hI.2.2.1.2.2.2) hp2 hp4.2 hp4.1 (Nat.zero_le _) hI.2.2.2.1) hW hl
set_option maxRecDepth 100000 in
set_option maxHeartbeats 4000000 in
theorem law_sheet {p : Program} {e : Env} {s : State} {m : MethodId} {below : List Frame} {meth : Method} {c : Code} (l : Launch) {b Ls : Nat} {xs : Nat → Int32} (C0 : lw_At p s m meth c b Ls xs) (D : va_G) (cI cJ : ClassId) (hK : va_K D vwCl [(cI, .int), (cJ, .long)] s) (x fi : Nat) (la ta ka tp sh mo aK aV : Nat → Nat) (nt : Nat) (hES : ES aK aV (fun q : Nat => s.heap.size ≤ q) s s.heap) (hEM : EM nt (fun q : Nat => s.heap.size ≤ q) s s.heap) (n : Nat) (hn : 6 * n + 6 ≤ Ls) (hLs : Ls ≤ 3072) (kk : LGo p l e s m below meth c b D cI cJ x fi la ta ka tp sh mo n) (ik L : Nat) (G T Rt Tx K F R M Wa B Z : Nat → Nat) (C : Nat → Int64) (hI : LI n ik L G K M T Rt R B Z) (H : Heap) (locs : List Loc) (ls : Array Slot) (hW : Wo D vwCl (fun q : Nat => s.heap.size ≤ q) s.heap H locs [xH x la ta ka tp sh fi ik, gW cI la G, tW cI tp T Rt, gW cI ta Tx, gW cI ka K, sW cI cJ sh B Z C, aI cI fi 7 F, mH mo R, mR cI (mo 1) G, mR cI (mo 2) M, mR cI (mo 3) Wa, aI cI (mo 4) 7 F, aI cI (mo 5) 120 T, aI cI (mo 6) 4 B, aI cI (mo 7) 4 Z, aJ cJ (mo 8) 160 C]) (hl : lv_has ls 4 [(3, .int (nI (6 * n))), (2, .ref (mo 0)), (1, .ref x), (0, .ref b)]) : W p l e room_1 s m #[Value.ref b] below meth c H locs 41 984 (lw_Z below #[Value.ref b] s) (F0 m 1005 ls []) := by
  obtain ⟨hx, hb, hr, hml, hown, hts0, hX, hbl, hlocks, hgv⟩ := id C0
  have hown : s.vm.findClass RL = some m.cls := hown
  have hts : ∀ w ∈ wsL_law, w.before #[Value.ref b] s = true := fun w hw => hts0 w (wsL_law_in w hw)
  have hA : ∀ q : Nat, s.heap.size ≤ q → (fun q : Nat => s.heap.size ≤ q) q := fun _ h => h
  have hbA : ¬ (fun q : Nat => s.heap.size ≤ q) b := Nat.not_le.mpr hbl
  refine lv_aload_n hx hb dL_law_1005 rfl (lv_at hl 2 rfl) ?_
  refine lv_aload_n hx hb dL_law_1006 rfl (lv_at hl 3 rfl) ?_
  refine lv_iload_n hx hb dL_law_1007 rfl (lv_at hl 0 rfl) ?_
  refine lv_iconst (v := nI 1) hx hb dL_law_1008 (by decide +kernel) ?_
  refine nn_add hx hb dL_law_1009 ?_
  refine va_sld hx hb hX hbl hbA hW.2.2 (vp_in_nI (by omega) (by omega)) dL_law_1010 ?_
  refine W.top (v' := .int (xs ((6 * n) + 1))) (by rw [nI_clamp (by omega)]) ?_
  refine lv_aload_n hx hb dL_law_1011 rfl (lv_at hl 3 rfl) ?_
  refine lv_iload_n hx hb dL_law_1012 rfl (lv_at hl 0 rfl) ?_
  refine lv_iconst (v := nI 2) hx hb dL_law_1013 (by decide +kernel) ?_
  refine nn_add hx hb dL_law_1014 ?_
  refine va_sld hx hb hX hbl hbA hW.2.2 (vp_in_nI (by omega) (by omega)) dL_law_1015 ?_
  refine W.top (v' := .int (xs ((6 * n) + 2))) (by rw [nI_clamp (by omega)]) ?_
  refine lv_aload_n hx hb dL_law_1016 rfl (lv_at hl 3 rfl) ?_
  refine lv_iload_n hx hb dL_law_1017 rfl (lv_at hl 0 rfl) ?_
  refine lv_iconst (v := nI 3) hx hb dL_law_1018 (by decide +kernel) ?_
  refine nn_add hx hb dL_law_1019 ?_
  refine va_sld hx hb hX hbl hbA hW.2.2 (vp_in_nI (by omega) (by omega)) dL_law_1020 ?_
  refine W.top (v' := .int (xs ((6 * n) + 3))) (by rw [nI_clamp (by omega)]) ?_
  refine cl_Vi (As := [.int (xs ((6 * n) + 1)), .int (xs ((6 * n) + 2)), .int (xs ((6 * n) + 3))]) (rest := []) (C := RX4) ⟨hx, hb, hml, hown, hts⟩ (M_X4_sheet l D cI cJ x fi ik la ta ka tp sh B Z F C hI.2.2.2.2 (xs ((6 * n) + 1)) (xs ((6 * n) + 2)) (xs ((6 * n) + 3))) (cwV 3 hts gL_law_X4_sheet rfl rfl rfl qX4_sheet ⟨Nat.le_of_ble_eq_true rfl, Nat.le_of_ble_eq_true rfl⟩) E0_good hK hA hW trivial [true, false, false, false, false, true, true] (fun _ => [xH x la ta ka tp sh fi ik, gW cI la G, tW cI tp T Rt, gW cI ta Tx, gW cI ka K, sW cI cJ sh (sheetB B (xs ((6 * n) + 1)).toInt (xs ((6 * n) + 2)).toInt (xs ((6 * n) + 3)).toInt) (sheetZ Z (xs ((6 * n) + 1)).toInt (xs ((6 * n) + 2)).toInt (xs ((6 * n) + 3)).toInt) (sheetC C (xs ((6 * n) + 1)).toInt (xs ((6 * n) + 2)).toInt (xs ((6 * n) + 3)).toInt), aI cI fi 7 (sheetF F (xs ((6 * n) + 1)).toInt (xs ((6 * n) + 2)).toInt (xs ((6 * n) + 3)).toInt), mH mo R, mR cI (mo 1) G, mR cI (mo 2) M, mR cI (mo 3) Wa, aI cI (mo 4) 7 F, aI cI (mo 5) 120 T, aI cI (mo 6) 4 B, aI cI (mo 7) 4 Z, aJ cJ (mo 8) 160 C]) rfl (fun _ => rfl) (fun _ => rfl) 0 0 rfl rfl rfl rfl hl.1 rfl (lv_room (Nat.le_of_ble_eq_true rfl)) dL_law_1021 ⟨Nat.le_of_ble_eq_true rfl, Nat.le_of_ble_eq_true rfl⟩ (fun _ H locs _ hW => ?_)
  refine lv_aload_n hx hb dL_law_1024 rfl (lv_at hl 1 rfl) ?_
  refine lv_aload_n hx hb dL_law_1025 rfl (lv_at hl 3 rfl) ?_
  refine lv_iload_n hx hb dL_law_1026 rfl (lv_at hl 0 rfl) ?_
  refine lv_iconst (v := nI 1) hx hb dL_law_1027 (by decide +kernel) ?_
  refine nn_add hx hb dL_law_1028 ?_
  refine va_sld hx hb hX hbl hbA hW.2.2 (vp_in_nI (by omega) (by omega)) dL_law_1029 ?_
  refine W.top (v' := .int (xs ((6 * n) + 1))) (by rw [nI_clamp (by omega)]) ?_
  refine lv_aload_n hx hb dL_law_1030 rfl (lv_at hl 3 rfl) ?_
  refine lv_iload_n hx hb dL_law_1031 rfl (lv_at hl 0 rfl) ?_
  refine lv_iconst (v := nI 2) hx hb dL_law_1032 (by decide +kernel) ?_
  refine nn_add hx hb dL_law_1033 ?_
  refine va_sld hx hb hX hbl hbA hW.2.2 (vp_in_nI (by omega) (by omega)) dL_law_1034 ?_
  refine W.top (v' := .int (xs ((6 * n) + 2))) (by rw [nI_clamp (by omega)]) ?_
  refine lv_aload_n hx hb dL_law_1035 rfl (lv_at hl 3 rfl) ?_
  refine lv_iload_n hx hb dL_law_1036 rfl (lv_at hl 0 rfl) ?_
  refine lv_iconst (v := nI 3) hx hb dL_law_1037 (by decide +kernel) ?_
  refine nn_add hx hb dL_law_1038 ?_
  refine va_sld hx hb hX hbl hbA hW.2.2 (vp_in_nI (by omega) (by omega)) dL_law_1039 ?_
  refine W.top (v' := .int (xs ((6 * n) + 3))) (by rw [nI_clamp (by omega)]) ?_
  refine cl_Vi (As := [.int (xs ((6 * n) + 1)), .int (xs ((6 * n) + 2)), .int (xs ((6 * n) + 3))]) (rest := [.int (sheetV (xs ((6 * n) + 1)).toInt (xs ((6 * n) + 2)).toInt (xs ((6 * n) + 3)).toInt)]) (C := RX5) ⟨hx, hb, hml, hown, hts⟩ (M_X5_sheet l D cI cJ mo R F B Z C hI.2.2.2.2 (xs ((6 * n) + 1)) (xs ((6 * n) + 2)) (xs ((6 * n) + 3))) (cwV 3 hts gL_law_X5_sheet rfl rfl rfl qX5_sheet ⟨Nat.le_of_ble_eq_true rfl, Nat.le_of_ble_eq_true rfl⟩) E0_good hK hA hW trivial [false, false, false, false, false, false, false, true, false, false, false, true, false, true, true, true] (fun _ => [xH x la ta ka tp sh fi ik, gW cI la G, tW cI tp T Rt, gW cI ta Tx, gW cI ka K, sW cI cJ sh (sheetB B (xs ((6 * n) + 1)).toInt (xs ((6 * n) + 2)).toInt (xs ((6 * n) + 3)).toInt) (sheetZ Z (xs ((6 * n) + 1)).toInt (xs ((6 * n) + 2)).toInt (xs ((6 * n) + 3)).toInt) (sheetC C (xs ((6 * n) + 1)).toInt (xs ((6 * n) + 2)).toInt (xs ((6 * n) + 3)).toInt), aI cI fi 7 (sheetF F (xs ((6 * n) + 1)).toInt (xs ((6 * n) + 2)).toInt (xs ((6 * n) + 3)).toInt), mH mo R, mR cI (mo 1) G, mR cI (mo 2) M, mR cI (mo 3) Wa, aI cI (mo 4) 7 (sheetF F (xs ((6 * n) + 1)).toInt (xs ((6 * n) + 2)).toInt (xs ((6 * n) + 3)).toInt), aI cI (mo 5) 120 T, aI cI (mo 6) 4 (sheetB B (xs ((6 * n) + 1)).toInt (xs ((6 * n) + 2)).toInt (xs ((6 * n) + 3)).toInt), aI cI (mo 7) 4 (sheetZ Z (xs ((6 * n) + 1)).toInt (xs ((6 * n) + 2)).toInt (xs ((6 * n) + 3)).toInt), aJ cJ (mo 8) 160 (sheetC C (xs ((6 * n) + 1)).toInt (xs ((6 * n) + 2)).toInt (xs ((6 * n) + 3)).toInt)]) rfl (fun _ => rfl) (fun _ => rfl) 7 0 rfl rfl rfl rfl hl.1 rfl (lv_room (Nat.le_of_ble_eq_true rfl)) dL_law_1040 ⟨Nat.le_of_ble_eq_true rfl, Nat.le_of_ble_eq_true rfl⟩ (fun _ H locs _ hW => ?_)
  refine lv_icmp_eq (tgt := 1349) hx hb dL_law_1043 (by decide) (fun _ => ?_) (fun hne => absurd rfl hne)
  exact kk ik L G T Rt Tx K (sheetF F (xs ((6 * n) + 1)).toInt (xs ((6 * n) + 2)).toInt (xs ((6 * n) + 3)).toInt) R M Wa (sheetB B (xs ((6 * n) + 1)).toInt (xs ((6 * n) + 2)).toInt (xs ((6 * n) + 3)).toInt) (sheetZ Z (xs ((6 * n) + 1)).toInt (xs ((6 * n) + 2)).toInt (xs ((6 * n) + 3)).toInt) (sheetC C (xs ((6 * n) + 1)).toInt (xs ((6 * n) + 2)).toInt (xs ((6 * n) + 3)).toInt) _ _ _ (hI.sh (hI.2.2.2.2.sheet _ _ _)) hW hl
set_option maxRecDepth 100000 in
set_option maxHeartbeats 4000000 in
theorem law_write {p : Program} {e : Env} {s : State} {m : MethodId} {below : List Frame} {meth : Method} {c : Code} (l : Launch) {b Ls : Nat} {xs : Nat → Int32} (C0 : lw_At p s m meth c b Ls xs) (D : va_G) (cI cJ : ClassId) (hK : va_K D vwCl [(cI, .int), (cJ, .long)] s) (x fi : Nat) (la ta ka tp sh mo aK aV : Nat → Nat) (nt : Nat) (hES : ES aK aV (fun q : Nat => s.heap.size ≤ q) s s.heap) (hEM : EM nt (fun q : Nat => s.heap.size ≤ q) s s.heap) (n : Nat) (hn : 6 * n + 6 ≤ Ls) (hLs : Ls ≤ 3072) (kk : LGo p l e s m below meth c b D cI cJ x fi la ta ka tp sh mo n) (ik L : Nat) (G T Rt Tx K F R M Wa B Z : Nat → Nat) (C : Nat → Int64) (hI : LI n ik L G K M T Rt R B Z) (H : Heap) (locs : List Loc) (ls : Array Slot) (hW : Wo D vwCl (fun q : Nat => s.heap.size ≤ q) s.heap H locs [xH x la ta ka tp sh fi ik, gW cI la G, tW cI tp T Rt, gW cI ta Tx, gW cI ka K, sW cI cJ sh B Z C, aI cI fi 7 F, mH mo R, mR cI (mo 1) G, mR cI (mo 2) M, mR cI (mo 3) Wa, aI cI (mo 4) 7 F, aI cI (mo 5) 120 T, aI cI (mo 6) 4 B, aI cI (mo 7) 4 Z, aJ cJ (mo 8) 160 C]) (hl : lv_has ls 4 [(3, .int (nI (6 * n))), (2, .ref (mo 0)), (1, .ref x), (0, .ref b)]) : W p l e room_1 s m #[Value.ref b] below meth c H locs 41 984 (lw_Z below #[Value.ref b] s) (F0 m 1048 ls []) := by
  obtain ⟨hx, hb, hr, hml, hown, hts0, hX, hbl, hlocks, hgv⟩ := id C0
  have hown : s.vm.findClass RL = some m.cls := hown
  have hts : ∀ w ∈ wsL_law, w.before #[Value.ref b] s = true := fun w hw => hts0 w (wsL_law_in w hw)
  have hA : ∀ q : Nat, s.heap.size ≤ q → (fun q : Nat => s.heap.size ≤ q) q := fun _ h => h
  have hbA : ¬ (fun q : Nat => s.heap.size ≤ q) b := Nat.not_le.mpr hbl
  refine lv_aload_n hx hb dL_law_1048 rfl (lv_at hl 2 rfl) ?_
  refine lv_aload_n hx hb dL_law_1049 rfl (lv_at hl 3 rfl) ?_
  refine lv_iload_n hx hb dL_law_1050 rfl (lv_at hl 0 rfl) ?_
  refine lv_iconst (v := nI 1) hx hb dL_law_1051 (by decide +kernel) ?_
  refine nn_add hx hb dL_law_1052 ?_
  refine va_sld hx hb hX hbl hbA hW.2.2 (vp_in_nI (by omega) (by omega)) dL_law_1053 ?_
  refine W.top (v' := .int (xs ((6 * n) + 1))) (by rw [nI_clamp (by omega)]) ?_
  refine lv_aload_n hx hb dL_law_1054 rfl (lv_at hl 3 rfl) ?_
  refine lv_iload_n hx hb dL_law_1055 rfl (lv_at hl 0 rfl) ?_
  refine lv_iconst (v := nI 2) hx hb dL_law_1056 (by decide +kernel) ?_
  refine nn_add hx hb dL_law_1057 ?_
  refine va_sld hx hb hX hbl hbA hW.2.2 (vp_in_nI (by omega) (by omega)) dL_law_1058 ?_
  refine W.top (v' := .int (xs ((6 * n) + 2))) (by rw [nI_clamp (by omega)]) ?_
  refine lv_aload_n hx hb dL_law_1059 rfl (lv_at hl 3 rfl) ?_
  refine lv_iload_n hx hb dL_law_1060 rfl (lv_at hl 0 rfl) ?_
  refine lv_iconst (v := nI 3) hx hb dL_law_1061 (by decide +kernel) ?_
  refine nn_add hx hb dL_law_1062 ?_
  refine va_sld hx hb hX hbl hbA hW.2.2 (vp_in_nI (by omega) (by omega)) dL_law_1063 ?_
  refine W.top (v' := .int (xs ((6 * n) + 3))) (by rw [nI_clamp (by omega)]) ?_
  refine lv_i2l (v := (xs ((6 * n) + 3)).toInt64) hx hb dL_law_1064 rfl ?_
  refine lv_bipush (v := nI 32) hx hb dL_law_1065 (by decide +kernel) ?_
  refine lv_lshl (v := ((xs ((6 * n) + 3)).toInt64) <<< ((nI 32).toInt64 &&& 63)) hx hb dL_law_1067 rfl ?_
  refine lv_aload_n hx hb dL_law_1068 rfl (lv_at hl 3 rfl) ?_
  refine lv_iload_n hx hb dL_law_1069 rfl (lv_at hl 0 rfl) ?_
  refine lv_iconst (v := nI 4) hx hb dL_law_1070 (by decide +kernel) ?_
  refine nn_add hx hb dL_law_1071 ?_
  refine va_sld hx hb hX hbl hbA hW.2.2 (vp_in_nI (by omega) (by omega)) dL_law_1072 ?_
  refine W.top (v' := .int (xs ((6 * n) + 4))) (by rw [nI_clamp (by omega)]) ?_
  refine lv_i2l (v := (xs ((6 * n) + 4)).toInt64) hx hb dL_law_1073 rfl ?_
  refine lv_ldc2 (v := 4294967295) hx hb hown (hts _ (List.mem_of_getElem? (i := 6) rfl)) dL_law_1074 ?_
  refine lv_land hx hb dL_law_1077 ?_
  refine lv_lor hx hb dL_law_1078 ?_
  refine cl_Vl (As := [.int (xs ((6 * n) + 1)), .int (xs ((6 * n) + 2)), .long ((((xs ((6 * n) + 3)).toInt64) <<< ((nI 32).toInt64 &&& 63)) ||| (((xs ((6 * n) + 4)).toInt64) &&& 4294967295))]) (rest := []) (C := RX4) ⟨hx, hb, hml, hown, hts⟩ (M_X4_write l D cI cJ x fi ik la ta ka tp sh B Z F C hI.2.2.2.2 (xs ((6 * n) + 1)) (xs ((6 * n) + 2)) ((((xs ((6 * n) + 3)).toInt64) <<< ((nI 32).toInt64 &&& 63)) ||| (((xs ((6 * n) + 4)).toInt64) &&& 4294967295))) (cwV 3 hts gL_law_X4_write rfl rfl rfl qX4_write ⟨Nat.le_of_ble_eq_true rfl, Nat.le_of_ble_eq_true rfl⟩) E0_good hK hA hW trivial [true, false, false, false, false, true, true] (fun _ => [xH x la ta ka tp sh fi ik, gW cI la G, tW cI tp T Rt, gW cI ta Tx, gW cI ka K, sW cI cJ sh B Z (writeC B Z C (xs ((6 * n) + 1)).toInt (xs ((6 * n) + 2)).toInt ((((xs ((6 * n) + 3)).toInt64) <<< ((nI 32).toInt64 &&& 63)) ||| (((xs ((6 * n) + 4)).toInt64) &&& 4294967295))), aI cI fi 7 (writeF B Z F (xs ((6 * n) + 1)).toInt (xs ((6 * n) + 2)).toInt), mH mo R, mR cI (mo 1) G, mR cI (mo 2) M, mR cI (mo 3) Wa, aI cI (mo 4) 7 F, aI cI (mo 5) 120 T, aI cI (mo 6) 4 B, aI cI (mo 7) 4 Z, aJ cJ (mo 8) 160 C]) rfl (fun _ => rfl) (fun _ => rfl) 0 0 rfl rfl rfl rfl hl.1 rfl (lv_room (Nat.le_of_ble_eq_true rfl)) dL_law_1079 ⟨Nat.le_of_ble_eq_true rfl, Nat.le_of_ble_eq_true rfl⟩ (fun _ H locs _ hW => ?_)
  refine lv_aload_n hx hb dL_law_1082 rfl (lv_at hl 1 rfl) ?_
  refine lv_aload_n hx hb dL_law_1083 rfl (lv_at hl 3 rfl) ?_
  refine lv_iload_n hx hb dL_law_1084 rfl (lv_at hl 0 rfl) ?_
  refine lv_iconst (v := nI 1) hx hb dL_law_1085 (by decide +kernel) ?_
  refine nn_add hx hb dL_law_1086 ?_
  refine va_sld hx hb hX hbl hbA hW.2.2 (vp_in_nI (by omega) (by omega)) dL_law_1087 ?_
  refine W.top (v' := .int (xs ((6 * n) + 1))) (by rw [nI_clamp (by omega)]) ?_
  refine lv_aload_n hx hb dL_law_1088 rfl (lv_at hl 3 rfl) ?_
  refine lv_iload_n hx hb dL_law_1089 rfl (lv_at hl 0 rfl) ?_
  refine lv_iconst (v := nI 2) hx hb dL_law_1090 (by decide +kernel) ?_
  refine nn_add hx hb dL_law_1091 ?_
  refine va_sld hx hb hX hbl hbA hW.2.2 (vp_in_nI (by omega) (by omega)) dL_law_1092 ?_
  refine W.top (v' := .int (xs ((6 * n) + 2))) (by rw [nI_clamp (by omega)]) ?_
  refine lv_aload_n hx hb dL_law_1093 rfl (lv_at hl 3 rfl) ?_
  refine lv_iload_n hx hb dL_law_1094 rfl (lv_at hl 0 rfl) ?_
  refine lv_iconst (v := nI 3) hx hb dL_law_1095 (by decide +kernel) ?_
  refine nn_add hx hb dL_law_1096 ?_
  refine va_sld hx hb hX hbl hbA hW.2.2 (vp_in_nI (by omega) (by omega)) dL_law_1097 ?_
  refine W.top (v' := .int (xs ((6 * n) + 3))) (by rw [nI_clamp (by omega)]) ?_
  refine lv_i2l (v := (xs ((6 * n) + 3)).toInt64) hx hb dL_law_1098 rfl ?_
  refine lv_bipush (v := nI 32) hx hb dL_law_1099 (by decide +kernel) ?_
  refine lv_lshl (v := ((xs ((6 * n) + 3)).toInt64) <<< ((nI 32).toInt64 &&& 63)) hx hb dL_law_1101 rfl ?_
  refine lv_aload_n hx hb dL_law_1102 rfl (lv_at hl 3 rfl) ?_
  refine lv_iload_n hx hb dL_law_1103 rfl (lv_at hl 0 rfl) ?_
  refine lv_iconst (v := nI 4) hx hb dL_law_1104 (by decide +kernel) ?_
  refine nn_add hx hb dL_law_1105 ?_
  refine va_sld hx hb hX hbl hbA hW.2.2 (vp_in_nI (by omega) (by omega)) dL_law_1106 ?_
  refine W.top (v' := .int (xs ((6 * n) + 4))) (by rw [nI_clamp (by omega)]) ?_
  refine lv_i2l (v := (xs ((6 * n) + 4)).toInt64) hx hb dL_law_1107 rfl ?_
  refine lv_ldc2 (v := 4294967295) hx hb hown (hts _ (List.mem_of_getElem? (i := 6) rfl)) dL_law_1108 ?_
  refine lv_land hx hb dL_law_1111 ?_
  refine lv_lor hx hb dL_law_1112 ?_
  refine cl_Vl (As := [.int (xs ((6 * n) + 1)), .int (xs ((6 * n) + 2)), .long ((((xs ((6 * n) + 3)).toInt64) <<< ((nI 32).toInt64 &&& 63)) ||| (((xs ((6 * n) + 4)).toInt64) &&& 4294967295))]) (rest := [.long (writeV B Z C (xs ((6 * n) + 1)).toInt (xs ((6 * n) + 2)).toInt)]) (C := RX5) ⟨hx, hb, hml, hown, hts⟩ (M_X5_write l D cI cJ mo R F B Z C hI.2.2.2.2 (xs ((6 * n) + 1)) (xs ((6 * n) + 2)) ((((xs ((6 * n) + 3)).toInt64) <<< ((nI 32).toInt64 &&& 63)) ||| (((xs ((6 * n) + 4)).toInt64) &&& 4294967295))) (cwV 3 hts gL_law_X5_write rfl rfl rfl qX5_write ⟨Nat.le_of_ble_eq_true rfl, Nat.le_of_ble_eq_true rfl⟩) E0_good hK hA hW trivial [false, false, false, false, false, false, false, true, false, false, false, true, false, true, true, true] (fun _ => [xH x la ta ka tp sh fi ik, gW cI la G, tW cI tp T Rt, gW cI ta Tx, gW cI ka K, sW cI cJ sh B Z (writeC B Z C (xs ((6 * n) + 1)).toInt (xs ((6 * n) + 2)).toInt ((((xs ((6 * n) + 3)).toInt64) <<< ((nI 32).toInt64 &&& 63)) ||| (((xs ((6 * n) + 4)).toInt64) &&& 4294967295))), aI cI fi 7 (writeF B Z F (xs ((6 * n) + 1)).toInt (xs ((6 * n) + 2)).toInt), mH mo R, mR cI (mo 1) G, mR cI (mo 2) M, mR cI (mo 3) Wa, aI cI (mo 4) 7 (writeF B Z F (xs ((6 * n) + 1)).toInt (xs ((6 * n) + 2)).toInt), aI cI (mo 5) 120 T, aI cI (mo 6) 4 B, aI cI (mo 7) 4 Z, aJ cJ (mo 8) 160 (writeC B Z C (xs ((6 * n) + 1)).toInt (xs ((6 * n) + 2)).toInt ((((xs ((6 * n) + 3)).toInt64) <<< ((nI 32).toInt64 &&& 63)) ||| (((xs ((6 * n) + 4)).toInt64) &&& 4294967295)))]) rfl (fun _ => rfl) (fun _ => rfl) 7 0 rfl rfl rfl rfl hl.1 rfl (lv_room (Nat.le_of_ble_eq_true rfl)) dL_law_1113 ⟨Nat.le_of_ble_eq_true rfl, Nat.le_of_ble_eq_true rfl⟩ (fun _ H locs _ hW => ?_)
  refine W.lcmp hx hb dL_law_1116 ?_
  refine lc_zeq (tgt := 1349) hx hb dL_law_1117 (by decide) (fun _ => ?_) (fun hne => absurd rfl hne)
  exact kk ik L G T Rt Tx K (writeF B Z F (xs ((6 * n) + 1)).toInt (xs ((6 * n) + 2)).toInt) R M Wa B Z (writeC B Z C (xs ((6 * n) + 1)).toInt (xs ((6 * n) + 2)).toInt ((((xs ((6 * n) + 3)).toInt64) <<< ((nI 32).toInt64 &&& 63)) ||| (((xs ((6 * n) + 4)).toInt64) &&& 4294967295))) _ _ _ hI.nx hW hl
set_option maxRecDepth 100000 in
set_option maxHeartbeats 4000000 in
theorem law_copy {p : Program} {e : Env} {s : State} {m : MethodId} {below : List Frame} {meth : Method} {c : Code} (l : Launch) {b Ls : Nat} {xs : Nat → Int32} (C0 : lw_At p s m meth c b Ls xs) (D : va_G) (cI cJ : ClassId) (hK : va_K D vwCl [(cI, .int), (cJ, .long)] s) (x fi : Nat) (la ta ka tp sh mo aK aV : Nat → Nat) (nt : Nat) (hES : ES aK aV (fun q : Nat => s.heap.size ≤ q) s s.heap) (hEM : EM nt (fun q : Nat => s.heap.size ≤ q) s s.heap) (n : Nat) (hn : 6 * n + 6 ≤ Ls) (hLs : Ls ≤ 3072) (kk : LGo p l e s m below meth c b D cI cJ x fi la ta ka tp sh mo n) (ik L : Nat) (G T Rt Tx K F R M Wa B Z : Nat → Nat) (C : Nat → Int64) (hI : LI n ik L G K M T Rt R B Z) (H : Heap) (locs : List Loc) (ls : Array Slot) (hW : Wo D vwCl (fun q : Nat => s.heap.size ≤ q) s.heap H locs [xH x la ta ka tp sh fi ik, gW cI la G, tW cI tp T Rt, gW cI ta Tx, gW cI ka K, sW cI cJ sh B Z C, aI cI fi 7 F, mH mo R, mR cI (mo 1) G, mR cI (mo 2) M, mR cI (mo 3) Wa, aI cI (mo 4) 7 F, aI cI (mo 5) 120 T, aI cI (mo 6) 4 B, aI cI (mo 7) 4 Z, aJ cJ (mo 8) 160 C]) (hl : lv_has ls 4 [(3, .int (nI (6 * n))), (2, .ref (mo 0)), (1, .ref x), (0, .ref b)]) : W p l e room_1 s m #[Value.ref b] below meth c H locs 41 984 (lw_Z below #[Value.ref b] s) (F0 m 1122 ls []) := by
  obtain ⟨hx, hb, hr, hml, hown, hts0, hX, hbl, hlocks, hgv⟩ := id C0
  have hown : s.vm.findClass RL = some m.cls := hown
  have hts : ∀ w ∈ wsL_law, w.before #[Value.ref b] s = true := fun w hw => hts0 w (wsL_law_in w hw)
  have hA : ∀ q : Nat, s.heap.size ≤ q → (fun q : Nat => s.heap.size ≤ q) q := fun _ h => h
  have hbA : ¬ (fun q : Nat => s.heap.size ≤ q) b := Nat.not_le.mpr hbl
  refine lv_aload_n hx hb dL_law_1122 rfl (lv_at hl 2 rfl) ?_
  refine lv_aload_n hx hb dL_law_1123 rfl (lv_at hl 3 rfl) ?_
  refine lv_iload_n hx hb dL_law_1124 rfl (lv_at hl 0 rfl) ?_
  refine lv_iconst (v := nI 1) hx hb dL_law_1125 (by decide +kernel) ?_
  refine nn_add hx hb dL_law_1126 ?_
  refine va_sld hx hb hX hbl hbA hW.2.2 (vp_in_nI (by omega) (by omega)) dL_law_1127 ?_
  refine W.top (v' := .int (xs ((6 * n) + 1))) (by rw [nI_clamp (by omega)]) ?_
  refine lv_aload_n hx hb dL_law_1128 rfl (lv_at hl 3 rfl) ?_
  refine lv_iload_n hx hb dL_law_1129 rfl (lv_at hl 0 rfl) ?_
  refine lv_iconst (v := nI 2) hx hb dL_law_1130 (by decide +kernel) ?_
  refine nn_add hx hb dL_law_1131 ?_
  refine va_sld hx hb hX hbl hbA hW.2.2 (vp_in_nI (by omega) (by omega)) dL_law_1132 ?_
  refine W.top (v' := .int (xs ((6 * n) + 2))) (by rw [nI_clamp (by omega)]) ?_
  refine lv_aload_n hx hb dL_law_1133 rfl (lv_at hl 3 rfl) ?_
  refine lv_iload_n hx hb dL_law_1134 rfl (lv_at hl 0 rfl) ?_
  refine lv_iconst (v := nI 3) hx hb dL_law_1135 (by decide +kernel) ?_
  refine nn_add hx hb dL_law_1136 ?_
  refine va_sld hx hb hX hbl hbA hW.2.2 (vp_in_nI (by omega) (by omega)) dL_law_1137 ?_
  refine W.top (v' := .int (xs ((6 * n) + 3))) (by rw [nI_clamp (by omega)]) ?_
  refine lv_aload_n hx hb dL_law_1138 rfl (lv_at hl 3 rfl) ?_
  refine lv_iload_n hx hb dL_law_1139 rfl (lv_at hl 0 rfl) ?_
  refine lv_iconst (v := nI 4) hx hb dL_law_1140 (by decide +kernel) ?_
  refine nn_add hx hb dL_law_1141 ?_
  refine va_sld hx hb hX hbl hbA hW.2.2 (vp_in_nI (by omega) (by omega)) dL_law_1142 ?_
  refine W.top (v' := .int (xs ((6 * n) + 4))) (by rw [nI_clamp (by omega)]) ?_
  refine lv_aload_n hx hb dL_law_1143 rfl (lv_at hl 3 rfl) ?_
  refine lv_iload_n hx hb dL_law_1144 rfl (lv_at hl 0 rfl) ?_
  refine lv_iconst (v := nI 5) hx hb dL_law_1145 (by decide +kernel) ?_
  refine nn_add hx hb dL_law_1146 ?_
  refine va_sld hx hb hX hbl hbA hW.2.2 (vp_in_nI (by omega) (by omega)) dL_law_1147 ?_
  refine W.top (v' := .int (xs ((6 * n) + 5))) (by rw [nI_clamp (by omega)]) ?_
  refine cl_Vi (As := [.int (xs ((6 * n) + 1)), .int (xs ((6 * n) + 2)), .int (xs ((6 * n) + 3)), .int (xs ((6 * n) + 4)), .int (xs ((6 * n) + 5))]) (rest := []) (C := RX4) ⟨hx, hb, hml, hown, hts⟩ (M_X4_copy l D cI cJ x fi ik la ta ka tp sh B Z F C hI.2.2.2.2 (xs ((6 * n) + 1)) (xs ((6 * n) + 2)) (xs ((6 * n) + 3)) (xs ((6 * n) + 4)) (xs ((6 * n) + 5))) (cwV 5 hts gL_law_X4_copy rfl rfl rfl qX4_copy ⟨Nat.le_of_ble_eq_true rfl, Nat.le_of_ble_eq_true rfl⟩) E0_good hK hA hW trivial [true, false, false, false, false, true, true] (fun _ => [xH x la ta ka tp sh fi ik, gW cI la G, tW cI tp T Rt, gW cI ta Tx, gW cI ka K, sW cI cJ sh B Z (copyC B Z C (xs ((6 * n) + 1)).toInt (xs ((6 * n) + 2)).toInt (xs ((6 * n) + 3)).toInt (xs ((6 * n) + 4)).toInt (xs ((6 * n) + 5)).toInt), aI cI fi 7 (copyF B Z F (xs ((6 * n) + 1)).toInt (xs ((6 * n) + 2)).toInt (xs ((6 * n) + 3)).toInt (xs ((6 * n) + 4)).toInt (xs ((6 * n) + 5)).toInt), mH mo R, mR cI (mo 1) G, mR cI (mo 2) M, mR cI (mo 3) Wa, aI cI (mo 4) 7 F, aI cI (mo 5) 120 T, aI cI (mo 6) 4 B, aI cI (mo 7) 4 Z, aJ cJ (mo 8) 160 C]) rfl (fun _ => rfl) (fun _ => rfl) 0 0 rfl rfl rfl rfl hl.1 rfl (lv_room (Nat.le_of_ble_eq_true rfl)) dL_law_1148 ⟨Nat.le_of_ble_eq_true rfl, Nat.le_of_ble_eq_true rfl⟩ (fun _ H locs _ hW => ?_)
  refine lv_aload_n hx hb dL_law_1151 rfl (lv_at hl 1 rfl) ?_
  refine lv_aload_n hx hb dL_law_1152 rfl (lv_at hl 3 rfl) ?_
  refine lv_iload_n hx hb dL_law_1153 rfl (lv_at hl 0 rfl) ?_
  refine lv_iconst (v := nI 1) hx hb dL_law_1154 (by decide +kernel) ?_
  refine nn_add hx hb dL_law_1155 ?_
  refine va_sld hx hb hX hbl hbA hW.2.2 (vp_in_nI (by omega) (by omega)) dL_law_1156 ?_
  refine W.top (v' := .int (xs ((6 * n) + 1))) (by rw [nI_clamp (by omega)]) ?_
  refine lv_aload_n hx hb dL_law_1157 rfl (lv_at hl 3 rfl) ?_
  refine lv_iload_n hx hb dL_law_1158 rfl (lv_at hl 0 rfl) ?_
  refine lv_iconst (v := nI 2) hx hb dL_law_1159 (by decide +kernel) ?_
  refine nn_add hx hb dL_law_1160 ?_
  refine va_sld hx hb hX hbl hbA hW.2.2 (vp_in_nI (by omega) (by omega)) dL_law_1161 ?_
  refine W.top (v' := .int (xs ((6 * n) + 2))) (by rw [nI_clamp (by omega)]) ?_
  refine lv_aload_n hx hb dL_law_1162 rfl (lv_at hl 3 rfl) ?_
  refine lv_iload_n hx hb dL_law_1163 rfl (lv_at hl 0 rfl) ?_
  refine lv_iconst (v := nI 3) hx hb dL_law_1164 (by decide +kernel) ?_
  refine nn_add hx hb dL_law_1165 ?_
  refine va_sld hx hb hX hbl hbA hW.2.2 (vp_in_nI (by omega) (by omega)) dL_law_1166 ?_
  refine W.top (v' := .int (xs ((6 * n) + 3))) (by rw [nI_clamp (by omega)]) ?_
  refine lv_aload_n hx hb dL_law_1167 rfl (lv_at hl 3 rfl) ?_
  refine lv_iload_n hx hb dL_law_1168 rfl (lv_at hl 0 rfl) ?_
  refine lv_iconst (v := nI 4) hx hb dL_law_1169 (by decide +kernel) ?_
  refine nn_add hx hb dL_law_1170 ?_
  refine va_sld hx hb hX hbl hbA hW.2.2 (vp_in_nI (by omega) (by omega)) dL_law_1171 ?_
  refine W.top (v' := .int (xs ((6 * n) + 4))) (by rw [nI_clamp (by omega)]) ?_
  refine lv_aload_n hx hb dL_law_1172 rfl (lv_at hl 3 rfl) ?_
  refine lv_iload_n hx hb dL_law_1173 rfl (lv_at hl 0 rfl) ?_
  refine lv_iconst (v := nI 5) hx hb dL_law_1174 (by decide +kernel) ?_
  refine nn_add hx hb dL_law_1175 ?_
  refine va_sld hx hb hX hbl hbA hW.2.2 (vp_in_nI (by omega) (by omega)) dL_law_1176 ?_
  refine W.top (v' := .int (xs ((6 * n) + 5))) (by rw [nI_clamp (by omega)]) ?_
  refine cl_Vi (As := [.int (xs ((6 * n) + 1)), .int (xs ((6 * n) + 2)), .int (xs ((6 * n) + 3)), .int (xs ((6 * n) + 4)), .int (xs ((6 * n) + 5))]) (rest := [.int (copyV B Z (xs ((6 * n) + 1)).toInt (xs ((6 * n) + 2)).toInt (xs ((6 * n) + 3)).toInt (xs ((6 * n) + 4)).toInt (xs ((6 * n) + 5)).toInt)]) (C := RX5) ⟨hx, hb, hml, hown, hts⟩ (M_X5_copy l D cI cJ mo R F B Z C hI.2.2.2.2 (xs ((6 * n) + 1)) (xs ((6 * n) + 2)) (xs ((6 * n) + 3)) (xs ((6 * n) + 4)) (xs ((6 * n) + 5))) (cwV 5 hts gL_law_X5_copy rfl rfl rfl qX5_copy ⟨Nat.le_of_ble_eq_true rfl, Nat.le_of_ble_eq_true rfl⟩) E0_good hK hA hW trivial [false, false, false, false, false, false, false, true, false, false, false, true, false, true, true, true] (fun _ => [xH x la ta ka tp sh fi ik, gW cI la G, tW cI tp T Rt, gW cI ta Tx, gW cI ka K, sW cI cJ sh B Z (copyC B Z C (xs ((6 * n) + 1)).toInt (xs ((6 * n) + 2)).toInt (xs ((6 * n) + 3)).toInt (xs ((6 * n) + 4)).toInt (xs ((6 * n) + 5)).toInt), aI cI fi 7 (copyF B Z F (xs ((6 * n) + 1)).toInt (xs ((6 * n) + 2)).toInt (xs ((6 * n) + 3)).toInt (xs ((6 * n) + 4)).toInt (xs ((6 * n) + 5)).toInt), mH mo R, mR cI (mo 1) G, mR cI (mo 2) M, mR cI (mo 3) Wa, aI cI (mo 4) 7 (copyF B Z F (xs ((6 * n) + 1)).toInt (xs ((6 * n) + 2)).toInt (xs ((6 * n) + 3)).toInt (xs ((6 * n) + 4)).toInt (xs ((6 * n) + 5)).toInt), aI cI (mo 5) 120 T, aI cI (mo 6) 4 B, aI cI (mo 7) 4 Z, aJ cJ (mo 8) 160 (copyC B Z C (xs ((6 * n) + 1)).toInt (xs ((6 * n) + 2)).toInt (xs ((6 * n) + 3)).toInt (xs ((6 * n) + 4)).toInt (xs ((6 * n) + 5)).toInt)]) rfl (fun _ => rfl) (fun _ => rfl) 7 0 rfl rfl rfl rfl hl.1 rfl (lv_room (Nat.le_of_ble_eq_true rfl)) dL_law_1177 ⟨Nat.le_of_ble_eq_true rfl, Nat.le_of_ble_eq_true rfl⟩ (fun _ H locs _ hW => ?_)
  refine lv_icmp_eq (tgt := 1349) hx hb dL_law_1180 (by decide) (fun _ => ?_) (fun hne => absurd rfl hne)
  exact kk ik L G T Rt Tx K (copyF B Z F (xs ((6 * n) + 1)).toInt (xs ((6 * n) + 2)).toInt (xs ((6 * n) + 3)).toInt (xs ((6 * n) + 4)).toInt (xs ((6 * n) + 5)).toInt) R M Wa B Z (copyC B Z C (xs ((6 * n) + 1)).toInt (xs ((6 * n) + 2)).toInt (xs ((6 * n) + 3)).toInt (xs ((6 * n) + 4)).toInt (xs ((6 * n) + 5)).toInt) _ _ _ hI.nx hW hl
set_option maxRecDepth 100000 in
set_option maxHeartbeats 4000000 in
theorem law_lays {p : Program} {e : Env} {s : State} {m : MethodId} {below : List Frame} {meth : Method} {c : Code} (l : Launch) {b Ls : Nat} {xs : Nat → Int32} (C0 : lw_At p s m meth c b Ls xs) (D : va_G) (cI cJ : ClassId) (hK : va_K D vwCl [(cI, .int), (cJ, .long)] s) (x fi : Nat) (la ta ka tp sh mo aK aV : Nat → Nat) (nt : Nat) (hES : ES aK aV (fun q : Nat => s.heap.size ≤ q) s s.heap) (hEM : EM nt (fun q : Nat => s.heap.size ≤ q) s s.heap) (n : Nat) (hn : 6 * n + 6 ≤ Ls) (hLs : Ls ≤ 3072) (kk : LGo p l e s m below meth c b D cI cJ x fi la ta ka tp sh mo n) (ik L : Nat) (G T Rt Tx K F R M Wa B Z : Nat → Nat) (C : Nat → Int64) (hI : LI n ik L G K M T Rt R B Z) (H : Heap) (locs : List Loc) (ls : Array Slot) (hW : Wo D vwCl (fun q : Nat => s.heap.size ≤ q) s.heap H locs [xH x la ta ka tp sh fi ik, gW cI la G, tW cI tp T Rt, gW cI ta Tx, gW cI ka K, sW cI cJ sh B Z C, aI cI fi 7 F, mH mo R, mR cI (mo 1) G, mR cI (mo 2) M, mR cI (mo 3) Wa, aI cI (mo 4) 7 F, aI cI (mo 5) 120 T, aI cI (mo 6) 4 B, aI cI (mo 7) 4 Z, aJ cJ (mo 8) 160 C]) (hl : lv_has ls 4 [(3, .int (nI (6 * n))), (2, .ref (mo 0)), (1, .ref x), (0, .ref b)]) : W p l e room_1 s m #[Value.ref b] below meth c H locs 41 984 (lw_Z below #[Value.ref b] s) (F0 m 1185 ls []) := by
  obtain ⟨hx, hb, hr, hml, hown, hts0, hX, hbl, hlocks, hgv⟩ := id C0
  have hown : s.vm.findClass RL = some m.cls := hown
  have hts : ∀ w ∈ wsL_law, w.before #[Value.ref b] s = true := fun w hw => hts0 w (wsL_law_in w hw)
  have hA : ∀ q : Nat, s.heap.size ≤ q → (fun q : Nat => s.heap.size ≤ q) q := fun _ h => h
  have hbA : ¬ (fun q : Nat => s.heap.size ≤ q) b := Nat.not_le.mpr hbl
  refine lv_aload_n hx hb dL_law_1185 rfl (lv_at hl 2 rfl) ?_
  refine lv_aload_n hx hb dL_law_1186 rfl (lv_at hl 3 rfl) ?_
  refine lv_iload_n hx hb dL_law_1187 rfl (lv_at hl 0 rfl) ?_
  refine lv_iconst (v := nI 1) hx hb dL_law_1188 (by decide +kernel) ?_
  refine nn_add hx hb dL_law_1189 ?_
  refine va_sld hx hb hX hbl hbA hW.2.2 (vp_in_nI (by omega) (by omega)) dL_law_1190 ?_
  refine W.top (v' := .int (xs ((6 * n) + 1))) (by rw [nI_clamp (by omega)]) ?_
  refine cl_Vi (As := [.int (xs ((6 * n) + 1))]) (rest := []) (C := RX4) ⟨hx, hb, hml, hown, hts⟩ (M_X4_lays l D cI cJ x fi ik la ta ka tp sh G B Z F C hI.1.1 hI.2.2.2.2 (xs ((6 * n) + 1))) (cwV 1 hts gL_law_X4_lays rfl rfl rfl qX4_lays ⟨Nat.le_of_ble_eq_true rfl, Nat.le_of_ble_eq_true rfl⟩) E0_good hK hA hW trivial [true, true, false, false, false, true, true] (fun _ => [xH x la ta ka tp sh fi ik, gW cI la (laysG G B Z C (xs ((6 * n) + 1)).toInt), tW cI tp T Rt, gW cI ta Tx, gW cI ka K, sW cI cJ sh B Z C, aI cI fi 7 (shF B F (xs ((6 * n) + 1)).toInt), mH mo R, mR cI (mo 1) G, mR cI (mo 2) M, mR cI (mo 3) Wa, aI cI (mo 4) 7 F, aI cI (mo 5) 120 T, aI cI (mo 6) 4 B, aI cI (mo 7) 4 Z, aJ cJ (mo 8) 160 C]) rfl (fun _ => rfl) (fun _ => rfl) 0 0 rfl rfl rfl rfl hl.1 rfl (lv_room (Nat.le_of_ble_eq_true rfl)) dL_law_1191 ⟨Nat.le_of_ble_eq_true rfl, Nat.le_of_ble_eq_true rfl⟩ (fun _ H locs _ hW => ?_)
  refine lv_aload_n hx hb dL_law_1194 rfl (lv_at hl 1 rfl) ?_
  refine lv_aload_n hx hb dL_law_1195 rfl (lv_at hl 3 rfl) ?_
  refine lv_iload_n hx hb dL_law_1196 rfl (lv_at hl 0 rfl) ?_
  refine lv_iconst (v := nI 1) hx hb dL_law_1197 (by decide +kernel) ?_
  refine nn_add hx hb dL_law_1198 ?_
  refine va_sld hx hb hX hbl hbA hW.2.2 (vp_in_nI (by omega) (by omega)) dL_law_1199 ?_
  refine W.top (v' := .int (xs ((6 * n) + 1))) (by rw [nI_clamp (by omega)]) ?_
  refine cl_Vi (As := [.int (xs ((6 * n) + 1))]) (rest := [.int (laysV G B Z C (xs ((6 * n) + 1)).toInt)]) (C := RX5) ⟨hx, hb, hml, hown, hts⟩ (M_X5_lays l D cI cJ mo R G F B Z C hI.1.1 hI.2.2.2.2 (xs ((6 * n) + 1))) (cwV 1 hts gL_law_X5_lays rfl rfl rfl qX5_lays ⟨Nat.le_of_ble_eq_true rfl, Nat.le_of_ble_eq_true rfl⟩) E0_good hK hA hW trivial [false, false, false, false, false, false, false, true, true, false, false, true, false, true, true, true] (fun _ => [xH x la ta ka tp sh fi ik, gW cI la (laysG G B Z C (xs ((6 * n) + 1)).toInt), tW cI tp T Rt, gW cI ta Tx, gW cI ka K, sW cI cJ sh B Z C, aI cI fi 7 (shF B F (xs ((6 * n) + 1)).toInt), mH mo R, mR cI (mo 1) (laysG G B Z C (xs ((6 * n) + 1)).toInt), mR cI (mo 2) M, mR cI (mo 3) Wa, aI cI (mo 4) 7 (shF B F (xs ((6 * n) + 1)).toInt), aI cI (mo 5) 120 T, aI cI (mo 6) 4 B, aI cI (mo 7) 4 Z, aJ cJ (mo 8) 160 C]) rfl (fun _ => rfl) (fun _ => rfl) 7 0 rfl rfl rfl rfl hl.1 rfl (lv_room (Nat.le_of_ble_eq_true rfl)) dL_law_1200 ⟨Nat.le_of_ble_eq_true rfl, Nat.le_of_ble_eq_true rfl⟩ (fun _ H locs _ hW => ?_)
  refine lv_icmp_eq (tgt := 1349) hx hb dL_law_1203 (by decide) (fun _ => ?_) (fun hne => absurd rfl hne)
  exact kk ik L (laysG G B Z C (xs ((6 * n) + 1)).toInt) T Rt Tx K (shF B F (xs ((6 * n) + 1)).toInt) R M Wa B Z C _ _ _ (hI.g (gi_lays hI.1 _)) hW hl
set_option maxRecDepth 100000 in
set_option maxHeartbeats 4000000 in
theorem law_book {p : Program} {e : Env} {s : State} {m : MethodId} {below : List Frame} {meth : Method} {c : Code} (l : Launch) {b Ls : Nat} {xs : Nat → Int32} (C0 : lw_At p s m meth c b Ls xs) (D : va_G) (cI cJ : ClassId) (hK : va_K D vwCl [(cI, .int), (cJ, .long)] s) (x fi : Nat) (la ta ka tp sh mo aK aV : Nat → Nat) (nt : Nat) (hES : ES aK aV (fun q : Nat => s.heap.size ≤ q) s s.heap) (hEM : EM nt (fun q : Nat => s.heap.size ≤ q) s s.heap) (n : Nat) (hn : 6 * n + 6 ≤ Ls) (hLs : Ls ≤ 3072) (kk : LGo p l e s m below meth c b D cI cJ x fi la ta ka tp sh mo n) (ik L : Nat) (G T Rt Tx K F R M Wa B Z : Nat → Nat) (C : Nat → Int64) (hI : LI n ik L G K M T Rt R B Z) (H : Heap) (locs : List Loc) (ls : Array Slot) (hW : Wo D vwCl (fun q : Nat => s.heap.size ≤ q) s.heap H locs [xH x la ta ka tp sh fi ik, gW cI la G, tW cI tp T Rt, gW cI ta Tx, gW cI ka K, sW cI cJ sh B Z C, aI cI fi 7 F, mH mo R, mR cI (mo 1) G, mR cI (mo 2) M, mR cI (mo 3) Wa, aI cI (mo 4) 7 F, aI cI (mo 5) 120 T, aI cI (mo 6) 4 B, aI cI (mo 7) 4 Z, aJ cJ (mo 8) 160 C]) (hl : lv_has ls 4 [(3, .int (nI (6 * n))), (2, .ref (mo 0)), (1, .ref x), (0, .ref b)]) : W p l e room_1 s m #[Value.ref b] below meth c H locs 41 984 (lw_Z below #[Value.ref b] s) (F0 m 1208 ls []) := by
  obtain ⟨hx, hb, hr, hml, hown, hts0, hX, hbl, hlocks, hgv⟩ := id C0
  have hown : s.vm.findClass RL = some m.cls := hown
  have hts : ∀ w ∈ wsL_law, w.before #[Value.ref b] s = true := fun w hw => hts0 w (wsL_law_in w hw)
  have hA : ∀ q : Nat, s.heap.size ≤ q → (fun q : Nat => s.heap.size ≤ q) q := fun _ h => h
  have hbA : ¬ (fun q : Nat => s.heap.size ≤ q) b := Nat.not_le.mpr hbl
  refine lv_aload_n hx hb dL_law_1208 rfl (lv_at hl 2 rfl) ?_
  refine lv_aload_n hx hb dL_law_1209 rfl (lv_at hl 3 rfl) ?_
  refine lv_iload_n hx hb dL_law_1210 rfl (lv_at hl 0 rfl) ?_
  refine lv_iconst (v := nI 1) hx hb dL_law_1211 (by decide +kernel) ?_
  refine nn_add hx hb dL_law_1212 ?_
  refine va_sld hx hb hX hbl hbA hW.2.2 (vp_in_nI (by omega) (by omega)) dL_law_1213 ?_
  refine W.top (v' := .int (xs ((6 * n) + 1))) (by rw [nI_clamp (by omega)]) ?_
  refine cl_Vi (As := [.int (xs ((6 * n) + 1))]) (rest := []) (C := RX4) ⟨hx, hb, hml, hown, hts⟩ (M_X4_book l D cI cJ x fi ik la ta ka tp sh G Tx B Z F C hI.1.1 hI.2.2.2.2 (xs ((6 * n) + 1))) (cwV 1 hts gL_law_X4_book rfl rfl rfl qX4_book ⟨Nat.le_of_ble_eq_true rfl, Nat.le_of_ble_eq_true rfl⟩) E0_good hK hA hW trivial [true, true, false, true, false, true, true] (fun u1 => [xH x la ta ka tp sh fi ik, gW cI la G, tW cI tp T Rt, gW cI ta u1, gW cI ka K, sW cI cJ sh B Z (bookC G B Z C (xs ((6 * n) + 1)).toInt), aI cI fi 7 (shF B F (xs ((6 * n) + 1)).toInt), mH mo R, mR cI (mo 1) G, mR cI (mo 2) M, mR cI (mo 3) Wa, aI cI (mo 4) 7 F, aI cI (mo 5) 120 T, aI cI (mo 6) 4 B, aI cI (mo 7) 4 Z, aJ cJ (mo 8) 160 C]) rfl (fun _ => rfl) (fun _ => rfl) 0 0 rfl rfl rfl rfl hl.1 rfl (lv_room (Nat.le_of_ble_eq_true rfl)) dL_law_1214 ⟨Nat.le_of_ble_eq_true rfl, Nat.le_of_ble_eq_true rfl⟩ (fun u1 H locs hp2 hW => ?_)
  refine lv_aload_n hx hb dL_law_1217 rfl (lv_at hl 1 rfl) ?_
  refine lv_aload_n hx hb dL_law_1218 rfl (lv_at hl 3 rfl) ?_
  refine lv_iload_n hx hb dL_law_1219 rfl (lv_at hl 0 rfl) ?_
  refine lv_iconst (v := nI 1) hx hb dL_law_1220 (by decide +kernel) ?_
  refine nn_add hx hb dL_law_1221 ?_
  refine va_sld hx hb hX hbl hbA hW.2.2 (vp_in_nI (by omega) (by omega)) dL_law_1222 ?_
  refine W.top (v' := .int (xs ((6 * n) + 1))) (by rw [nI_clamp (by omega)]) ?_
  refine cl_Vi (As := [.int (xs ((6 * n) + 1))]) (rest := [.int (bookV B Z (xs ((6 * n) + 1)).toInt)]) (C := RX5) ⟨hx, hb, hml, hown, hts⟩ (M_X5_book l D cI cJ mo R G Wa F B Z C hI.1.1 hI.2.2.2.2 (xs ((6 * n) + 1))) (cwV 1 hts gL_law_X5_book rfl rfl rfl qX5_book ⟨Nat.le_of_ble_eq_true rfl, Nat.le_of_ble_eq_true rfl⟩) E0_good hK hA hW trivial [false, false, false, false, false, false, false, true, true, false, true, true, false, true, true, true] (fun u3 => [xH x la ta ka tp sh fi ik, gW cI la G, tW cI tp T Rt, gW cI ta u1, gW cI ka K, sW cI cJ sh B Z (bookC G B Z C (xs ((6 * n) + 1)).toInt), aI cI fi 7 (shF B F (xs ((6 * n) + 1)).toInt), mH mo R, mR cI (mo 1) G, mR cI (mo 2) M, mR cI (mo 3) u3, aI cI (mo 4) 7 (shF B F (xs ((6 * n) + 1)).toInt), aI cI (mo 5) 120 T, aI cI (mo 6) 4 B, aI cI (mo 7) 4 Z, aJ cJ (mo 8) 160 (bookC G B Z C (xs ((6 * n) + 1)).toInt)]) rfl (fun _ => rfl) (fun _ => rfl) 7 0 rfl rfl rfl rfl hl.1 rfl (lv_room (Nat.le_of_ble_eq_true rfl)) dL_law_1223 ⟨Nat.le_of_ble_eq_true rfl, Nat.le_of_ble_eq_true rfl⟩ (fun u3 H locs hp4 hW => ?_)
  refine lv_icmp_eq (tgt := 1349) hx hb dL_law_1226 (by decide) (fun _ => ?_) (fun hne => absurd rfl hne)
  exact kk ik L G T Rt u1 K (shF B F (xs ((6 * n) + 1)).toInt) R M u3 B Z (bookC G B Z C (xs ((6 * n) + 1)).toInt) _ _ _ hI.nx hW hl
set_option maxRecDepth 100000 in
set_option maxHeartbeats 4000000 in
theorem law_read {p : Program} {e : Env} {s : State} {m : MethodId} {below : List Frame} {meth : Method} {c : Code} (l : Launch) {b Ls : Nat} {xs : Nat → Int32} (C0 : lw_At p s m meth c b Ls xs) (D : va_G) (cI cJ : ClassId) (hK : va_K D vwCl [(cI, .int), (cJ, .long)] s) (x fi : Nat) (la ta ka tp sh mo aK aV : Nat → Nat) (nt : Nat) (hES : ES aK aV (fun q : Nat => s.heap.size ≤ q) s s.heap) (hEM : EM nt (fun q : Nat => s.heap.size ≤ q) s s.heap) (n : Nat) (hn : 6 * n + 6 ≤ Ls) (hLs : Ls ≤ 3072) (kk : LGo p l e s m below meth c b D cI cJ x fi la ta ka tp sh mo n) (ik L : Nat) (G T Rt Tx K F R M Wa B Z : Nat → Nat) (C : Nat → Int64) (hI : LI n ik L G K M T Rt R B Z) (H : Heap) (locs : List Loc) (ls : Array Slot) (hW : Wo D vwCl (fun q : Nat => s.heap.size ≤ q) s.heap H locs [xH x la ta ka tp sh fi ik, gW cI la G, tW cI tp T Rt, gW cI ta Tx, gW cI ka K, sW cI cJ sh B Z C, aI cI fi 7 F, mH mo R, mR cI (mo 1) G, mR cI (mo 2) M, mR cI (mo 3) Wa, aI cI (mo 4) 7 F, aI cI (mo 5) 120 T, aI cI (mo 6) 4 B, aI cI (mo 7) 4 Z, aJ cJ (mo 8) 160 C]) (hl : lv_has ls 4 [(3, .int (nI (6 * n))), (2, .ref (mo 0)), (1, .ref x), (0, .ref b)]) : W p l e room_1 s m #[Value.ref b] below meth c H locs 41 984 (lw_Z below #[Value.ref b] s) (F0 m 1231 ls []) := by
  obtain ⟨hx, hb, hr, hml, hown, hts0, hX, hbl, hlocks, hgv⟩ := id C0
  have hown : s.vm.findClass RL = some m.cls := hown
  have hts : ∀ w ∈ wsL_law, w.before #[Value.ref b] s = true := fun w hw => hts0 w (wsL_law_in w hw)
  have hA : ∀ q : Nat, s.heap.size ≤ q → (fun q : Nat => s.heap.size ≤ q) q := fun _ h => h
  have hbA : ¬ (fun q : Nat => s.heap.size ≤ q) b := Nat.not_le.mpr hbl
  refine lv_aload_n hx hb dL_law_1231 rfl (lv_at hl 2 rfl) ?_
  refine lv_aload_n hx hb dL_law_1232 rfl (lv_at hl 3 rfl) ?_
  refine lv_iload_n hx hb dL_law_1233 rfl (lv_at hl 0 rfl) ?_
  refine lv_iconst (v := nI 1) hx hb dL_law_1234 (by decide +kernel) ?_
  refine nn_add hx hb dL_law_1235 ?_
  refine va_sld hx hb hX hbl hbA hW.2.2 (vp_in_nI (by omega) (by omega)) dL_law_1236 ?_
  refine W.top (v' := .int (xs ((6 * n) + 1))) (by rw [nI_clamp (by omega)]) ?_
  refine lv_aload_n hx hb dL_law_1237 rfl (lv_at hl 3 rfl) ?_
  refine lv_iload_n hx hb dL_law_1238 rfl (lv_at hl 0 rfl) ?_
  refine lv_iconst (v := nI 2) hx hb dL_law_1239 (by decide +kernel) ?_
  refine nn_add hx hb dL_law_1240 ?_
  refine va_sld hx hb hX hbl hbA hW.2.2 (vp_in_nI (by omega) (by omega)) dL_law_1241 ?_
  refine W.top (v' := .int (xs ((6 * n) + 2))) (by rw [nI_clamp (by omega)]) ?_
  refine cl_Vi (As := [.int (xs ((6 * n) + 1)), .int (xs ((6 * n) + 2))]) (rest := []) (C := RX4) ⟨hx, hb, hml, hown, hts⟩ (M_X4_read l D cI cJ x fi ik la ta ka tp sh G Tx B Z F C hI.1.1 hI.2.2.2.2 (xs ((6 * n) + 1)) (xs ((6 * n) + 2))) (cwV 2 hts gL_law_X4_read rfl rfl rfl qX4_read ⟨Nat.le_of_ble_eq_true rfl, Nat.le_of_ble_eq_true rfl⟩) E0_good hK hA hW trivial [true, true, false, true, false, true, true] (fun u1 => [xH x la ta ka tp sh fi ik, gW cI la G, tW cI tp T Rt, gW cI ta u1, gW cI ka K, sW cI cJ sh B Z C, aI cI fi 7 (readF G B F (xs ((6 * n) + 1)).toInt (xs ((6 * n) + 2)).toInt), mH mo R, mR cI (mo 1) G, mR cI (mo 2) M, mR cI (mo 3) Wa, aI cI (mo 4) 7 F, aI cI (mo 5) 120 T, aI cI (mo 6) 4 B, aI cI (mo 7) 4 Z, aJ cJ (mo 8) 160 C]) rfl (fun _ => rfl) (fun _ => rfl) 0 0 rfl rfl rfl rfl hl.1 rfl (lv_room (Nat.le_of_ble_eq_true rfl)) dL_law_1242 ⟨Nat.le_of_ble_eq_true rfl, Nat.le_of_ble_eq_true rfl⟩ (fun u1 H locs hp2 hW => ?_)
  refine lv_aload_n hx hb dL_law_1245 rfl (lv_at hl 1 rfl) ?_
  refine lv_aload_n hx hb dL_law_1246 rfl (lv_at hl 3 rfl) ?_
  refine lv_iload_n hx hb dL_law_1247 rfl (lv_at hl 0 rfl) ?_
  refine lv_iconst (v := nI 1) hx hb dL_law_1248 (by decide +kernel) ?_
  refine nn_add hx hb dL_law_1249 ?_
  refine va_sld hx hb hX hbl hbA hW.2.2 (vp_in_nI (by omega) (by omega)) dL_law_1250 ?_
  refine W.top (v' := .int (xs ((6 * n) + 1))) (by rw [nI_clamp (by omega)]) ?_
  refine lv_aload_n hx hb dL_law_1251 rfl (lv_at hl 3 rfl) ?_
  refine lv_iload_n hx hb dL_law_1252 rfl (lv_at hl 0 rfl) ?_
  refine lv_iconst (v := nI 2) hx hb dL_law_1253 (by decide +kernel) ?_
  refine nn_add hx hb dL_law_1254 ?_
  refine va_sld hx hb hX hbl hbA hW.2.2 (vp_in_nI (by omega) (by omega)) dL_law_1255 ?_
  refine W.top (v' := .int (xs ((6 * n) + 2))) (by rw [nI_clamp (by omega)]) ?_
  refine cl_Vi (As := [.int (xs ((6 * n) + 1)), .int (xs ((6 * n) + 2))]) (rest := [.int (readV G B Z C (xs ((6 * n) + 1)).toInt (xs ((6 * n) + 2)).toInt)]) (C := RX5) ⟨hx, hb, hml, hown, hts⟩ (M_X5_read l D cI cJ mo R G Wa F B Z C hI.1.1 hI.2.2.2.2 (xs ((6 * n) + 1)) (xs ((6 * n) + 2))) (cwV 2 hts gL_law_X5_read rfl rfl rfl qX5_read ⟨Nat.le_of_ble_eq_true rfl, Nat.le_of_ble_eq_true rfl⟩) E0_good hK hA hW trivial [false, false, false, false, false, false, false, true, true, false, true, true, false, true, true, true] (fun u3 => [xH x la ta ka tp sh fi ik, gW cI la G, tW cI tp T Rt, gW cI ta u1, gW cI ka K, sW cI cJ sh B Z C, aI cI fi 7 (readF G B F (xs ((6 * n) + 1)).toInt (xs ((6 * n) + 2)).toInt), mH mo R, mR cI (mo 1) G, mR cI (mo 2) M, mR cI (mo 3) u3, aI cI (mo 4) 7 (readF G B F (xs ((6 * n) + 1)).toInt (xs ((6 * n) + 2)).toInt), aI cI (mo 5) 120 T, aI cI (mo 6) 4 B, aI cI (mo 7) 4 Z, aJ cJ (mo 8) 160 C]) rfl (fun _ => rfl) (fun _ => rfl) 7 0 rfl rfl rfl rfl hl.1 rfl (lv_room (Nat.le_of_ble_eq_true rfl)) dL_law_1256 ⟨Nat.le_of_ble_eq_true rfl, Nat.le_of_ble_eq_true rfl⟩ (fun u3 H locs hp4 hW => ?_)
  refine lv_icmp_eq (tgt := 1349) hx hb dL_law_1259 (by decide) (fun _ => ?_) (fun hne => absurd rfl hne)
  exact kk ik L G T Rt u1 K (readF G B F (xs ((6 * n) + 1)).toInt (xs ((6 * n) + 2)).toInt) R M u3 B Z C _ _ _ hI.nx hW hl
set_option maxRecDepth 100000 in
set_option maxHeartbeats 4000000 in
theorem law_image {p : Program} {e : Env} {s : State} {m : MethodId} {below : List Frame} {meth : Method} {c : Code} (l : Launch) {b Ls : Nat} {xs : Nat → Int32} (C0 : lw_At p s m meth c b Ls xs) (D : va_G) (cI cJ : ClassId) (hK : va_K D vwCl [(cI, .int), (cJ, .long)] s) (x fi : Nat) (la ta ka tp sh mo aK aV : Nat → Nat) (nt : Nat) (hES : ES aK aV (fun q : Nat => s.heap.size ≤ q) s s.heap) (hEM : EM nt (fun q : Nat => s.heap.size ≤ q) s s.heap) (n : Nat) (hn : 6 * n + 6 ≤ Ls) (hLs : Ls ≤ 3072) (kk : LGo p l e s m below meth c b D cI cJ x fi la ta ka tp sh mo n) (ik L : Nat) (G T Rt Tx K F R M Wa B Z : Nat → Nat) (C : Nat → Int64) (hI : LI n ik L G K M T Rt R B Z) (H : Heap) (locs : List Loc) (ls : Array Slot) (hW : Wo D vwCl (fun q : Nat => s.heap.size ≤ q) s.heap H locs [xH x la ta ka tp sh fi ik, gW cI la G, tW cI tp T Rt, gW cI ta Tx, gW cI ka K, sW cI cJ sh B Z C, aI cI fi 7 F, mH mo R, mR cI (mo 1) G, mR cI (mo 2) M, mR cI (mo 3) Wa, aI cI (mo 4) 7 F, aI cI (mo 5) 120 T, aI cI (mo 6) 4 B, aI cI (mo 7) 4 Z, aJ cJ (mo 8) 160 C]) (hl : lv_has ls 4 [(3, .int (nI (6 * n))), (2, .ref (mo 0)), (1, .ref x), (0, .ref b)]) : W p l e room_1 s m #[Value.ref b] below meth c H locs 41 984 (lw_Z below #[Value.ref b] s) (F0 m 1264 ls []) := by
  obtain ⟨hx, hb, hr, hml, hown, hts0, hX, hbl, hlocks, hgv⟩ := id C0
  have hown : s.vm.findClass RL = some m.cls := hown
  have hts : ∀ w ∈ wsL_law, w.before #[Value.ref b] s = true := fun w hw => hts0 w (wsL_law_in w hw)
  have hA : ∀ q : Nat, s.heap.size ≤ q → (fun q : Nat => s.heap.size ≤ q) q := fun _ h => h
  have hbA : ¬ (fun q : Nat => s.heap.size ≤ q) b := Nat.not_le.mpr hbl
  refine lv_aload_n hx hb dL_law_1264 rfl (lv_at hl 2 rfl) ?_
  refine cl_Vi (As := []) (rest := []) (C := RX4) ⟨hx, hb, hml, hown, hts⟩ (M_X4_image l D cI cJ x fi ik la ta ka tp sh G K) (cwV 0 hts gL_law_X4_image rfl rfl rfl qX4_image ⟨Nat.le_of_ble_eq_true rfl, Nat.le_of_ble_eq_true rfl⟩) E0_good hK hA hW trivial [true, true, false, false, true] (fun _ => [xH x la ta ka tp sh fi 1, gW cI la G, tW cI tp T Rt, gW cI ta Tx, gW cI ka G, sW cI cJ sh B Z C, aI cI fi 7 F, mH mo R, mR cI (mo 1) G, mR cI (mo 2) M, mR cI (mo 3) Wa, aI cI (mo 4) 7 F, aI cI (mo 5) 120 T, aI cI (mo 6) 4 B, aI cI (mo 7) 4 Z, aJ cJ (mo 8) 160 C]) rfl (fun _ => rfl) (fun _ => rfl) 0 0 rfl rfl rfl rfl hl.1 rfl (lv_room (Nat.le_of_ble_eq_true rfl)) dL_law_1265 ⟨Nat.le_of_ble_eq_true rfl, Nat.le_of_ble_eq_true rfl⟩ (fun _ H locs _ hW => ?_)
  refine lv_aload_n hx hb dL_law_1268 rfl (lv_at hl 1 rfl) ?_
  refine cl_Vi (As := []) (rest := [.int (nI 1)]) (C := RX5) ⟨hx, hb, hml, hown, hts⟩ (M_X5_image l D cI cJ mo R G M) (cwV 0 hts gL_law_X5_image rfl rfl rfl qX5_image ⟨Nat.le_of_ble_eq_true rfl, Nat.le_of_ble_eq_true rfl⟩) E0_good hK hA hW trivial [false, false, false, false, false, false, false, true, true, true] (fun _ => [xH x la ta ka tp sh fi 1, gW cI la G, tW cI tp T Rt, gW cI ta Tx, gW cI ka G, sW cI cJ sh B Z C, aI cI fi 7 F, mH mo (up R 0 1), mR cI (mo 1) G, mR cI (mo 2) G, mR cI (mo 3) Wa, aI cI (mo 4) 7 F, aI cI (mo 5) 120 T, aI cI (mo 6) 4 B, aI cI (mo 7) 4 Z, aJ cJ (mo 8) 160 C]) rfl (fun _ => rfl) (fun _ => rfl) 7 0 rfl rfl rfl rfl hl.1 rfl (lv_room (Nat.le_of_ble_eq_true rfl)) dL_law_1269 ⟨Nat.le_of_ble_eq_true rfl, Nat.le_of_ble_eq_true rfl⟩ (fun _ H locs _ hW => ?_)
  refine lv_icmp_eq (tgt := 1349) hx hb dL_law_1272 (by decide) (fun _ => ?_) (fun hne => absurd rfl hne)
  exact kk 1 L G T Rt Tx G F (up R 0 1) G Wa B Z C _ _ _ hI.im hW hl
set_option maxRecDepth 100000 in
set_option maxHeartbeats 4000000 in
theorem law_undo {p : Program} {e : Env} {s : State} {m : MethodId} {below : List Frame} {meth : Method} {c : Code} (l : Launch) {b Ls : Nat} {xs : Nat → Int32} (C0 : lw_At p s m meth c b Ls xs) (D : va_G) (cI cJ : ClassId) (hK : va_K D vwCl [(cI, .int), (cJ, .long)] s) (x fi : Nat) (la ta ka tp sh mo aK aV : Nat → Nat) (nt : Nat) (hES : ES aK aV (fun q : Nat => s.heap.size ≤ q) s s.heap) (hEM : EM nt (fun q : Nat => s.heap.size ≤ q) s s.heap) (n : Nat) (hn : 6 * n + 6 ≤ Ls) (hLs : Ls ≤ 3072) (kk : LGo p l e s m below meth c b D cI cJ x fi la ta ka tp sh mo n) (ik L : Nat) (G T Rt Tx K F R M Wa B Z : Nat → Nat) (C : Nat → Int64) (hI : LI n ik L G K M T Rt R B Z) (H : Heap) (locs : List Loc) (ls : Array Slot) (hW : Wo D vwCl (fun q : Nat => s.heap.size ≤ q) s.heap H locs [xH x la ta ka tp sh fi ik, gW cI la G, tW cI tp T Rt, gW cI ta Tx, gW cI ka K, sW cI cJ sh B Z C, aI cI fi 7 F, mH mo R, mR cI (mo 1) G, mR cI (mo 2) M, mR cI (mo 3) Wa, aI cI (mo 4) 7 F, aI cI (mo 5) 120 T, aI cI (mo 6) 4 B, aI cI (mo 7) 4 Z, aJ cJ (mo 8) 160 C]) (hl : lv_has ls 4 [(3, .int (nI (6 * n))), (2, .ref (mo 0)), (1, .ref x), (0, .ref b)]) : W p l e room_1 s m #[Value.ref b] below meth c H locs 41 984 (lw_Z below #[Value.ref b] s) (F0 m 1277 ls []) := by
  obtain ⟨hx, hb, hr, hml, hown, hts0, hX, hbl, hlocks, hgv⟩ := id C0
  have hown : s.vm.findClass RL = some m.cls := hown
  have hts : ∀ w ∈ wsL_law, w.before #[Value.ref b] s = true := fun w hw => hts0 w (wsL_law_in w hw)
  have hA : ∀ q : Nat, s.heap.size ≤ q → (fun q : Nat => s.heap.size ≤ q) q := fun _ h => h
  have hbA : ¬ (fun q : Nat => s.heap.size ≤ q) b := Nat.not_le.mpr hbl
  rcases hI.2.1 with hk0 | ⟨hk1, hk2, hk3⟩
  · subst hk0
    refine lv_aload_n hx hb dL_law_1277 rfl (lv_at hl 2 rfl) ?_
    refine cl_Vi (As := []) (rest := []) (C := RX4) ⟨hx, hb, hml, hown, hts⟩ (M_X4_undo l D cI cJ x fi 0 la ta ka tp sh G K F hI.ik1) (cwV 0 hts gL_law_X4_undo rfl rfl rfl qX4_undo ⟨Nat.le_of_ble_eq_true rfl, Nat.le_of_ble_eq_true rfl⟩) E0_good hK hA hW trivial [true, true, false, false, true, false, true] (fun _ => [xH x la ta ka tp sh fi 0, gW cI la (undoG G K 0), tW cI tp T Rt, gW cI ta Tx, gW cI ka K, sW cI cJ sh B Z C, aI cI fi 7 (undoF F 0), mH mo R, mR cI (mo 1) G, mR cI (mo 2) M, mR cI (mo 3) Wa, aI cI (mo 4) 7 F, aI cI (mo 5) 120 T, aI cI (mo 6) 4 B, aI cI (mo 7) 4 Z, aJ cJ (mo 8) 160 C]) rfl (fun _ => rfl) (fun _ => rfl) 0 0 rfl rfl rfl rfl hl.1 rfl (lv_room (Nat.le_of_ble_eq_true rfl)) dL_law_1278 ⟨Nat.le_of_ble_eq_true rfl, Nat.le_of_ble_eq_true rfl⟩ (fun _ H locs _ hW => ?_)
    refine lv_aload_n hx hb dL_law_1281 rfl (lv_at hl 1 rfl) ?_
    refine cl_Vi (As := []) (rest := [.int (undoV K 0)]) (C := RX5) ⟨hx, hb, hml, hown, hts⟩ (N_X5_undo l D cI cJ mo R G M F (by have h3 := hI.2.2.1; have h4 := hI.ik1; omega) 0 hI.2.2.1.2.2.1) (cwV 0 hts gL_law_X5_undo rfl rfl rfl qX5_undo ⟨Nat.le_of_ble_eq_true rfl, Nat.le_of_ble_eq_true rfl⟩) E0_good hK hA hW trivial [false, false, false, false, false, false, false, true, true, true, false, true] (fun _ => [xH x la ta ka tp sh fi 0, gW cI la (undoG G K 0), tW cI tp T Rt, gW cI ta Tx, gW cI ka K, sW cI cJ sh B Z C, aI cI fi 7 (undoF F 0), mH mo R, mR cI (mo 1) (undoG G M 0), mR cI (mo 2) M, mR cI (mo 3) Wa, aI cI (mo 4) 7 (undoF F 0), aI cI (mo 5) 120 T, aI cI (mo 6) 4 B, aI cI (mo 7) 4 Z, aJ cJ (mo 8) 160 C]) rfl (fun _ => rfl) (fun _ => rfl) 7 0 rfl rfl rfl rfl hl.1 rfl (lv_room (Nat.le_of_ble_eq_true rfl)) dL_law_1282 ⟨Nat.le_of_ble_eq_true rfl, Nat.le_of_ble_eq_true rfl⟩ (fun _ H locs _ hW => ?_)
    refine lv_icmp_eq (tgt := 1349) hx hb dL_law_1285 (by decide) (fun _ => ?_) (fun hne => absurd rfl hne)
    exact kk 0 L (undoG G K 0) T Rt Tx K (undoF F 0) R M Wa B Z C _ _ _ hI.nx hW hl
  · subst hk1; subst hk2
    refine lv_aload_n hx hb dL_law_1277 rfl (lv_at hl 2 rfl) ?_
    refine cl_Vi (As := []) (rest := []) (C := RX4) ⟨hx, hb, hml, hown, hts⟩ (M_X4_undo l D cI cJ x fi 1 la ta ka tp sh G M F hI.ik1) (cwV 0 hts gL_law_X4_undo rfl rfl rfl qX4_undo ⟨Nat.le_of_ble_eq_true rfl, Nat.le_of_ble_eq_true rfl⟩) E0_good hK hA hW trivial [true, true, false, false, true, false, true] (fun _ => [xH x la ta ka tp sh fi 1, gW cI la (undoG G M 1), tW cI tp T Rt, gW cI ta Tx, gW cI ka M, sW cI cJ sh B Z C, aI cI fi 7 (undoF F 1), mH mo R, mR cI (mo 1) G, mR cI (mo 2) M, mR cI (mo 3) Wa, aI cI (mo 4) 7 F, aI cI (mo 5) 120 T, aI cI (mo 6) 4 B, aI cI (mo 7) 4 Z, aJ cJ (mo 8) 160 C]) rfl (fun _ => rfl) (fun _ => rfl) 0 0 rfl rfl rfl rfl hl.1 rfl (lv_room (Nat.le_of_ble_eq_true rfl)) dL_law_1278 ⟨Nat.le_of_ble_eq_true rfl, Nat.le_of_ble_eq_true rfl⟩ (fun _ H locs _ hW => ?_)
    refine lv_aload_n hx hb dL_law_1281 rfl (lv_at hl 1 rfl) ?_
    refine cl_Vi (As := []) (rest := [.int (undoV M 1)]) (C := RX5) ⟨hx, hb, hml, hown, hts⟩ (N_X5_undo l D cI cJ mo R G M F (by have h3 := hI.2.2.1; have h4 := hI.ik1; omega) 1 hI.2.2.1.2.2.1) (cwV 0 hts gL_law_X5_undo rfl rfl rfl qX5_undo ⟨Nat.le_of_ble_eq_true rfl, Nat.le_of_ble_eq_true rfl⟩) E0_good hK hA hW trivial [false, false, false, false, false, false, false, true, true, true, false, true] (fun _ => [xH x la ta ka tp sh fi 1, gW cI la (undoG G M 1), tW cI tp T Rt, gW cI ta Tx, gW cI ka M, sW cI cJ sh B Z C, aI cI fi 7 (undoF F 1), mH mo R, mR cI (mo 1) (undoG G M 1), mR cI (mo 2) M, mR cI (mo 3) Wa, aI cI (mo 4) 7 (undoF F 1), aI cI (mo 5) 120 T, aI cI (mo 6) 4 B, aI cI (mo 7) 4 Z, aJ cJ (mo 8) 160 C]) rfl (fun _ => rfl) (fun _ => rfl) 7 0 rfl rfl rfl rfl hl.1 rfl (lv_room (Nat.le_of_ble_eq_true rfl)) dL_law_1282 ⟨Nat.le_of_ble_eq_true rfl, Nat.le_of_ble_eq_true rfl⟩ (fun _ H locs _ hW => ?_)
    refine lv_icmp_eq (tgt := 1349) hx hb dL_law_1285 (by decide) (fun _ => ?_) (fun hne => absurd rfl hne)
    exact kk 1 L (undoG G M 1) T Rt Tx M (undoF F 1) R M Wa B Z C _ _ _ (hI.g hk3.nx) hW hl
set_option maxRecDepth 100000 in
set_option maxHeartbeats 4000000 in
theorem law_tear {p : Program} {e : Env} {s : State} {m : MethodId} {below : List Frame} {meth : Method} {c : Code} (l : Launch) {b Ls : Nat} {xs : Nat → Int32} (C0 : lw_At p s m meth c b Ls xs) (D : va_G) (cI cJ : ClassId) (hK : va_K D vwCl [(cI, .int), (cJ, .long)] s) (x fi : Nat) (la ta ka tp sh mo aK aV : Nat → Nat) (nt : Nat) (hES : ES aK aV (fun q : Nat => s.heap.size ≤ q) s s.heap) (hEM : EM nt (fun q : Nat => s.heap.size ≤ q) s s.heap) (n : Nat) (hn : 6 * n + 6 ≤ Ls) (hLs : Ls ≤ 3072) (kk : LGo p l e s m below meth c b D cI cJ x fi la ta ka tp sh mo n) (ik L : Nat) (G T Rt Tx K F R M Wa B Z : Nat → Nat) (C : Nat → Int64) (hI : LI n ik L G K M T Rt R B Z) (H : Heap) (locs : List Loc) (ls : Array Slot) (hW : Wo D vwCl (fun q : Nat => s.heap.size ≤ q) s.heap H locs [xH x la ta ka tp sh fi ik, gW cI la G, tW cI tp T Rt, gW cI ta Tx, gW cI ka K, sW cI cJ sh B Z C, aI cI fi 7 F, mH mo R, mR cI (mo 1) G, mR cI (mo 2) M, mR cI (mo 3) Wa, aI cI (mo 4) 7 F, aI cI (mo 5) 120 T, aI cI (mo 6) 4 B, aI cI (mo 7) 4 Z, aJ cJ (mo 8) 160 C]) (hl : lv_has ls 4 [(3, .int (nI (6 * n))), (2, .ref (mo 0)), (1, .ref x), (0, .ref b)]) : W p l e room_1 s m #[Value.ref b] below meth c H locs 41 984 (lw_Z below #[Value.ref b] s) (F0 m 1290 ls []) := by
  obtain ⟨hx, hb, hr, hml, hown, hts0, hX, hbl, hlocks, hgv⟩ := id C0
  have hown : s.vm.findClass RL = some m.cls := hown
  have hts : ∀ w ∈ wsL_law, w.before #[Value.ref b] s = true := fun w hw => hts0 w (wsL_law_in w hw)
  have hA : ∀ q : Nat, s.heap.size ≤ q → (fun q : Nat => s.heap.size ≤ q) q := fun _ h => h
  have hbA : ¬ (fun q : Nat => s.heap.size ≤ q) b := Nat.not_le.mpr hbl
  refine lv_aload_n hx hb dL_law_1290 rfl (lv_at hl 2 rfl) ?_
  refine cl_Vi (As := []) (rest := []) (C := RX4) ⟨hx, hb, hml, hown, hts⟩ (M_X4_tear l D cI cJ x fi ik la ta ka tp sh hI.ik1) (cwV 0 hts gL_law_X4_tear rfl rfl rfl qX4_tear ⟨Nat.le_of_ble_eq_true rfl, Nat.le_of_ble_eq_true rfl⟩) E0_good hK hA hW trivial [true] (fun _ => [xH x la ta ka tp sh fi 0, gW cI la G, tW cI tp T Rt, gW cI ta Tx, gW cI ka K, sW cI cJ sh B Z C, aI cI fi 7 F, mH mo R, mR cI (mo 1) G, mR cI (mo 2) M, mR cI (mo 3) Wa, aI cI (mo 4) 7 F, aI cI (mo 5) 120 T, aI cI (mo 6) 4 B, aI cI (mo 7) 4 Z, aJ cJ (mo 8) 160 C]) rfl (fun _ => rfl) (fun _ => rfl) 0 0 rfl rfl rfl rfl hl.1 rfl (lv_room (Nat.le_of_ble_eq_true rfl)) dL_law_1291 ⟨Nat.le_of_ble_eq_true rfl, Nat.le_of_ble_eq_true rfl⟩ (fun _ H locs _ hW => ?_)
  refine lv_aload_n hx hb dL_law_1294 rfl (lv_at hl 1 rfl) ?_
  refine cl_Vi (As := []) (rest := [.int (nI ik)]) (C := RX5) ⟨hx, hb, hml, hown, hts⟩ (N_X5_tear l D cI cJ mo R (by have h3 := hI.2.2.1; have h4 := hI.ik1; omega) ik hI.2.2.1.2.2.1) (cwV 0 hts gL_law_X5_tear rfl rfl rfl qX5_tear ⟨Nat.le_of_ble_eq_true rfl, Nat.le_of_ble_eq_true rfl⟩) E0_good hK hA hW trivial [false, false, false, false, false, false, false, true] (fun _ => [xH x la ta ka tp sh fi 0, gW cI la G, tW cI tp T Rt, gW cI ta Tx, gW cI ka K, sW cI cJ sh B Z C, aI cI fi 7 F, mH mo (up R 0 0), mR cI (mo 1) G, mR cI (mo 2) M, mR cI (mo 3) Wa, aI cI (mo 4) 7 F, aI cI (mo 5) 120 T, aI cI (mo 6) 4 B, aI cI (mo 7) 4 Z, aJ cJ (mo 8) 160 C]) rfl (fun _ => rfl) (fun _ => rfl) 7 0 rfl rfl rfl rfl hl.1 rfl (lv_room (Nat.le_of_ble_eq_true rfl)) dL_law_1295 ⟨Nat.le_of_ble_eq_true rfl, Nat.le_of_ble_eq_true rfl⟩ (fun _ H locs _ hW => ?_)
  refine lv_icmp_eq (tgt := 1349) hx hb dL_law_1298 (by decide) (fun _ => ?_) (fun hne => absurd rfl hne)
  exact kk 0 L G T Rt Tx K F (up R 0 0) M Wa B Z C _ _ _ hI.te hW hl
set_option maxRecDepth 100000 in
set_option maxHeartbeats 4000000 in
theorem law_count {p : Program} {e : Env} {s : State} {m : MethodId} {below : List Frame} {meth : Method} {c : Code} (l : Launch) {b Ls : Nat} {xs : Nat → Int32} (C0 : lw_At p s m meth c b Ls xs) (D : va_G) (cI cJ : ClassId) (hK : va_K D vwCl [(cI, .int), (cJ, .long)] s) (x fi : Nat) (la ta ka tp sh mo aK aV : Nat → Nat) (nt : Nat) (hES : ES aK aV (fun q : Nat => s.heap.size ≤ q) s s.heap) (hEM : EM nt (fun q : Nat => s.heap.size ≤ q) s s.heap) (n : Nat) (hn : 6 * n + 6 ≤ Ls) (hLs : Ls ≤ 3072) (kk : LGo p l e s m below meth c b D cI cJ x fi la ta ka tp sh mo n) (ik L : Nat) (G T Rt Tx K F R M Wa B Z : Nat → Nat) (C : Nat → Int64) (hI : LI n ik L G K M T Rt R B Z) (H : Heap) (locs : List Loc) (ls : Array Slot) (hW : Wo D vwCl (fun q : Nat => s.heap.size ≤ q) s.heap H locs [xH x la ta ka tp sh fi ik, gW cI la G, tW cI tp T Rt, gW cI ta Tx, gW cI ka K, sW cI cJ sh B Z C, aI cI fi 7 F, mH mo R, mR cI (mo 1) G, mR cI (mo 2) M, mR cI (mo 3) Wa, aI cI (mo 4) 7 F, aI cI (mo 5) 120 T, aI cI (mo 6) 4 B, aI cI (mo 7) 4 Z, aJ cJ (mo 8) 160 C]) (hl : lv_has ls 4 [(3, .int (nI (6 * n))), (2, .ref (mo 0)), (1, .ref x), (0, .ref b)]) : W p l e room_1 s m #[Value.ref b] below meth c H locs 41 984 (lw_Z below #[Value.ref b] s) (F0 m 1303 ls []) := by
  obtain ⟨hx, hb, hr, hml, hown, hts0, hX, hbl, hlocks, hgv⟩ := id C0
  have hown : s.vm.findClass RL = some m.cls := hown
  have hts : ∀ w ∈ wsL_law, w.before #[Value.ref b] s = true := fun w hw => hts0 w (wsL_law_in w hw)
  have hA : ∀ q : Nat, s.heap.size ≤ q → (fun q : Nat => s.heap.size ≤ q) q := fun _ h => h
  have hbA : ¬ (fun q : Nat => s.heap.size ≤ q) b := Nat.not_le.mpr hbl
  refine lv_aload_n hx hb dL_law_1303 rfl (lv_at hl 2 rfl) ?_
  refine lv_aload_n hx hb dL_law_1304 rfl (lv_at hl 3 rfl) ?_
  refine lv_iload_n hx hb dL_law_1305 rfl (lv_at hl 0 rfl) ?_
  refine lv_iconst (v := nI 1) hx hb dL_law_1306 (by decide +kernel) ?_
  refine nn_add hx hb dL_law_1307 ?_
  refine va_sld hx hb hX hbl hbA hW.2.2 (vp_in_nI (by omega) (by omega)) dL_law_1308 ?_
  refine W.top (v' := .int (xs ((6 * n) + 1))) (by rw [nI_clamp (by omega)]) ?_
  refine cl_Vi (As := [.int (xs ((6 * n) + 1))]) (rest := []) (C := RX4) ⟨hx, hb, hml, hown, hts⟩ (N_X4_count l D cI cJ x fi ik la ta ka tp sh G T Rt F hI.1.1 (xs ((6 * n) + 1)) L hI.2.2.1.1) (cwV 1 hts gL_law_X4_count rfl rfl rfl qX4_count ⟨Nat.le_of_ble_eq_true rfl, Nat.le_of_ble_eq_true rfl⟩) E0_good hK hA hW trivial [true, true, true, false, false, false, true] (fun _ => [xH x la ta ka tp sh fi ik, gW cI la G, tW cI tp T Rt, gW cI ta Tx, gW cI ka K, sW cI cJ sh B Z C, aI cI fi 7 (countF F (xs ((6 * n) + 1)).toInt), mH mo R, mR cI (mo 1) G, mR cI (mo 2) M, mR cI (mo 3) Wa, aI cI (mo 4) 7 F, aI cI (mo 5) 120 T, aI cI (mo 6) 4 B, aI cI (mo 7) 4 Z, aJ cJ (mo 8) 160 C]) rfl (fun _ => rfl) (fun _ => rfl) 0 0 rfl rfl rfl rfl hl.1 rfl (lv_room (Nat.le_of_ble_eq_true rfl)) dL_law_1309 ⟨Nat.le_of_ble_eq_true rfl, Nat.le_of_ble_eq_true rfl⟩ (fun _ H locs _ hW => ?_)
  refine lv_aload_n hx hb dL_law_1312 rfl (lv_at hl 1 rfl) ?_
  refine lv_aload_n hx hb dL_law_1313 rfl (lv_at hl 3 rfl) ?_
  refine lv_iload_n hx hb dL_law_1314 rfl (lv_at hl 0 rfl) ?_
  refine lv_iconst (v := nI 1) hx hb dL_law_1315 (by decide +kernel) ?_
  refine nn_add hx hb dL_law_1316 ?_
  refine va_sld hx hb hX hbl hbA hW.2.2 (vp_in_nI (by omega) (by omega)) dL_law_1317 ?_
  refine W.top (v' := .int (xs ((6 * n) + 1))) (by rw [nI_clamp (by omega)]) ?_
  refine cl_Vi (As := [.int (xs ((6 * n) + 1))]) (rest := [.int (countV G L (xs ((6 * n) + 1)).toInt)]) (C := RX5) ⟨hx, hb, hml, hown, hts⟩ (N_X5_count l D cI cJ mo R G F hI.1.1 (xs ((6 * n) + 1)) L hI.2.2.1.2.1) (cwV 1 hts gL_law_X5_count rfl rfl rfl qX5_count ⟨Nat.le_of_ble_eq_true rfl, Nat.le_of_ble_eq_true rfl⟩) E0_good hK hA hW trivial [false, false, false, false, false, false, false, true, true, false, false, true] (fun _ => [xH x la ta ka tp sh fi ik, gW cI la G, tW cI tp T Rt, gW cI ta Tx, gW cI ka K, sW cI cJ sh B Z C, aI cI fi 7 (countF F (xs ((6 * n) + 1)).toInt), mH mo R, mR cI (mo 1) G, mR cI (mo 2) M, mR cI (mo 3) Wa, aI cI (mo 4) 7 (countF F (xs ((6 * n) + 1)).toInt), aI cI (mo 5) 120 T, aI cI (mo 6) 4 B, aI cI (mo 7) 4 Z, aJ cJ (mo 8) 160 C]) rfl (fun _ => rfl) (fun _ => rfl) 7 0 rfl rfl rfl rfl hl.1 rfl (lv_room (Nat.le_of_ble_eq_true rfl)) dL_law_1318 ⟨Nat.le_of_ble_eq_true rfl, Nat.le_of_ble_eq_true rfl⟩ (fun _ H locs _ hW => ?_)
  refine lv_icmp_eq (tgt := 1349) hx hb dL_law_1321 (by decide) (fun _ => ?_) (fun hne => absurd rfl hne)
  exact kk ik L G T Rt Tx K (countF F (xs ((6 * n) + 1)).toInt) R M Wa B Z C _ _ _ hI.nx hW hl
set_option maxRecDepth 100000 in
set_option maxHeartbeats 4000000 in
theorem law_status {p : Program} {e : Env} {s : State} {m : MethodId} {below : List Frame} {meth : Method} {c : Code} (l : Launch) {b Ls : Nat} {xs : Nat → Int32} (C0 : lw_At p s m meth c b Ls xs) (D : va_G) (cI cJ : ClassId) (hK : va_K D vwCl [(cI, .int), (cJ, .long)] s) (x fi : Nat) (la ta ka tp sh mo aK aV : Nat → Nat) (nt : Nat) (hES : ES aK aV (fun q : Nat => s.heap.size ≤ q) s s.heap) (hEM : EM nt (fun q : Nat => s.heap.size ≤ q) s s.heap) (n : Nat) (hn : 6 * n + 6 ≤ Ls) (hLs : Ls ≤ 3072) (kk : LGo p l e s m below meth c b D cI cJ x fi la ta ka tp sh mo n) (ik L : Nat) (G T Rt Tx K F R M Wa B Z : Nat → Nat) (C : Nat → Int64) (hI : LI n ik L G K M T Rt R B Z) (H : Heap) (locs : List Loc) (ls : Array Slot) (hW : Wo D vwCl (fun q : Nat => s.heap.size ≤ q) s.heap H locs [xH x la ta ka tp sh fi ik, gW cI la G, tW cI tp T Rt, gW cI ta Tx, gW cI ka K, sW cI cJ sh B Z C, aI cI fi 7 F, mH mo R, mR cI (mo 1) G, mR cI (mo 2) M, mR cI (mo 3) Wa, aI cI (mo 4) 7 F, aI cI (mo 5) 120 T, aI cI (mo 6) 4 B, aI cI (mo 7) 4 Z, aJ cJ (mo 8) 160 C]) (hl : lv_has ls 4 [(3, .int (nI (6 * n))), (2, .ref (mo 0)), (1, .ref x), (0, .ref b)]) : W p l e room_1 s m #[Value.ref b] below meth c H locs 41 984 (lw_Z below #[Value.ref b] s) (F0 m 1326 ls []) := by
  obtain ⟨hx, hb, hr, hml, hown, hts0, hX, hbl, hlocks, hgv⟩ := id C0
  have hown : s.vm.findClass RL = some m.cls := hown
  have hts : ∀ w ∈ wsL_law, w.before #[Value.ref b] s = true := fun w hw => hts0 w (wsL_law_in w hw)
  have hA : ∀ q : Nat, s.heap.size ≤ q → (fun q : Nat => s.heap.size ≤ q) q := fun _ h => h
  have hbA : ¬ (fun q : Nat => s.heap.size ≤ q) b := Nat.not_le.mpr hbl
  refine lv_aload_n hx hb dL_law_1326 rfl (lv_at hl 2 rfl) ?_
  refine lv_aload_n hx hb dL_law_1327 rfl (lv_at hl 3 rfl) ?_
  refine lv_iload_n hx hb dL_law_1328 rfl (lv_at hl 0 rfl) ?_
  refine lv_iconst (v := nI 1) hx hb dL_law_1329 (by decide +kernel) ?_
  refine nn_add hx hb dL_law_1330 ?_
  refine va_sld hx hb hX hbl hbA hW.2.2 (vp_in_nI (by omega) (by omega)) dL_law_1331 ?_
  refine W.top (v' := .int (xs ((6 * n) + 1))) (by rw [nI_clamp (by omega)]) ?_
  refine cl_Vi (As := [.int (xs ((6 * n) + 1))]) (rest := []) (C := RX4) ⟨hx, hb, hml, hown, hts⟩ (M_X4_status l D cI cJ x fi ik la ta ka tp sh F (xs ((6 * n) + 1))) (cwV 1 hts gL_law_X4_status rfl rfl rfl qX4_status ⟨Nat.le_of_ble_eq_true rfl, Nat.le_of_ble_eq_true rfl⟩) E0_good hK hA hW trivial [true, false, false, false, false, false, true] (fun _ => [xH x la ta ka tp sh fi ik, gW cI la G, tW cI tp T Rt, gW cI ta Tx, gW cI ka K, sW cI cJ sh B Z C, aI cI fi 7 (statusF F (xs ((6 * n) + 1)).toInt), mH mo R, mR cI (mo 1) G, mR cI (mo 2) M, mR cI (mo 3) Wa, aI cI (mo 4) 7 F, aI cI (mo 5) 120 T, aI cI (mo 6) 4 B, aI cI (mo 7) 4 Z, aJ cJ (mo 8) 160 C]) rfl (fun _ => rfl) (fun _ => rfl) 0 0 rfl rfl rfl rfl hl.1 rfl (lv_room (Nat.le_of_ble_eq_true rfl)) dL_law_1332 ⟨Nat.le_of_ble_eq_true rfl, Nat.le_of_ble_eq_true rfl⟩ (fun _ H locs _ hW => ?_)
  refine lv_aload_n hx hb dL_law_1335 rfl (lv_at hl 1 rfl) ?_
  refine lv_aload_n hx hb dL_law_1336 rfl (lv_at hl 3 rfl) ?_
  refine lv_iload_n hx hb dL_law_1337 rfl (lv_at hl 0 rfl) ?_
  refine lv_iconst (v := nI 1) hx hb dL_law_1338 (by decide +kernel) ?_
  refine nn_add hx hb dL_law_1339 ?_
  refine va_sld hx hb hX hbl hbA hW.2.2 (vp_in_nI (by omega) (by omega)) dL_law_1340 ?_
  refine W.top (v' := .int (xs ((6 * n) + 1))) (by rw [nI_clamp (by omega)]) ?_
  refine cl_Vi (As := [.int (xs ((6 * n) + 1))]) (rest := [.int (statusV F (xs ((6 * n) + 1)).toInt)]) (C := RX5) ⟨hx, hb, hml, hown, hts⟩ (M_X5_status l D cI cJ mo R F (xs ((6 * n) + 1))) (cwV 1 hts gL_law_X5_status rfl rfl rfl qX5_status ⟨Nat.le_of_ble_eq_true rfl, Nat.le_of_ble_eq_true rfl⟩) E0_good hK hA hW trivial [false, false, false, false, false, false, false, true, false, false, false, true] (fun _ => [xH x la ta ka tp sh fi ik, gW cI la G, tW cI tp T Rt, gW cI ta Tx, gW cI ka K, sW cI cJ sh B Z C, aI cI fi 7 (statusF F (xs ((6 * n) + 1)).toInt), mH mo R, mR cI (mo 1) G, mR cI (mo 2) M, mR cI (mo 3) Wa, aI cI (mo 4) 7 (statusF F (xs ((6 * n) + 1)).toInt), aI cI (mo 5) 120 T, aI cI (mo 6) 4 B, aI cI (mo 7) 4 Z, aJ cJ (mo 8) 160 C]) rfl (fun _ => rfl) (fun _ => rfl) 7 0 rfl rfl rfl rfl hl.1 rfl (lv_room (Nat.le_of_ble_eq_true rfl)) dL_law_1341 ⟨Nat.le_of_ble_eq_true rfl, Nat.le_of_ble_eq_true rfl⟩ (fun _ H locs _ hW => ?_)
  refine lv_icmp_eq (tgt := 1349) hx hb dL_law_1344 (by decide) (fun _ => ?_) (fun hne => absurd rfl hne)
  exact kk ik L G T Rt Tx K (statusF F (xs ((6 * n) + 1)).toInt) R M Wa B Z C _ _ _ hI.nx hW hl
