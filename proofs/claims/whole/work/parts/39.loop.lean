set_option maxRecDepth 100000 in
set_option maxHeartbeats 8000000 in
theorem law_loop {p : Program} {e : Env} {s : State} {m : MethodId} {below : List Frame} {meth : Method} {c : Code} (l : Launch) {b Ls : Nat} {xs : Nat → Int32} (C0 : lw_At p s m meth c b Ls xs) (D : va_G) (cI cJ : ClassId) (hK : va_K D vwCl [(cI, .int), (cJ, .long)] s) (x fi : Nat) (la ta ka tp sh mo aK aV : Nat → Nat) (nt : Nat) (hES : ES aK aV (fun q : Nat => s.heap.size ≤ q) s s.heap) (hEM : EM nt (fun q : Nat => s.heap.size ≤ q) s s.heap) (hLs : Ls ≤ 3072) : ∀ (k n : Nat), Ls - 6 * n < k → 6 * n ≤ Ls → ∀ (ik L : Nat) (G T Rt Tx K F R M Wa B Z : Nat → Nat) (C : Nat → Int64), LI n ik L G K M T Rt R B Z → ∀ (H : Heap) (locs : List Loc) (ls : Array Slot), Wo D vwCl (fun q : Nat => s.heap.size ≤ q) s.heap H locs [xH x la ta ka tp sh fi ik, gW cI la G, tW cI tp T Rt, gW cI ta Tx, gW cI ka K, sW cI cJ sh B Z C, aI cI fi 7 F, mH mo R, mR cI (mo 1) G, mR cI (mo 2) M, mR cI (mo 3) Wa, aI cI (mo 4) 7 F, aI cI (mo 5) 120 T, aI cI (mo 6) 4 B, aI cI (mo 7) 4 Z, aJ cJ (mo 8) 160 C] → lv_has ls 4 [(3, .int (nI (6 * n))), (2, .ref (mo 0)), (1, .ref x), (0, .ref b)] → W p l e room_1 s m #[Value.ref b] below meth c H locs 41 984 (lw_Z below #[Value.ref b] s) (F0 m 18 ls []) := by
  obtain ⟨hx, hb, hr, hml, hown, hts0, hX, hbl, hlocks, hgv⟩ := id C0
  have hown : s.vm.findClass RL = some m.cls := hown
  have hts : ∀ w ∈ wsL_law, w.before #[Value.ref b] s = true := fun w hw => hts0 w (wsL_law_in w hw)
  have hA : ∀ q : Nat, s.heap.size ≤ q → (fun q : Nat => s.heap.size ≤ q) q := fun _ h => h
  have hbA : ¬ (fun q : Nat => s.heap.size ≤ q) b := Nat.not_le.mpr hbl
  intro k
  induction k with
  | zero => intro n hm; exact absurd hm (Nat.not_lt_zero _)
  | succ k ih =>
    intro n hm hnL ik L G T Rt Tx K F R M Wa B Z C hI H locs ls hW hl
    have kk : LGo p l e s m below meth c b D cI cJ x fi la ta ka tp sh mo n ∨ ¬ 6 * n + 6 ≤ Ls := by
      rcases Nat.lt_or_ge Ls (6 * n + 6) with q | q
      · exact Or.inr (by omega)
      · refine Or.inl ?_
        intro ik L G T Rt Tx K F R M Wa B Z C H locs ls hI hW hl
        refine lv_iinc (v := nI (6 * n + 6)) (lv' := [(3, .int (nI (6 * n + 6))), (2, .ref (mo 0)), (1, .ref x), (0, .ref b)]) hx hb dL_law_1349 hl (k := 0) rfl (nI_add _ 6) (by decide) rfl (fun ls hl => ?_)
        refine lv_goto (tgt := 18) hx hb dL_law_1352 (by decide) ?_
        exact ih (n + 1) (by omega) (by omega) ik L G T Rt Tx K F R M Wa B Z C hI _ _ _ hW hl
    refine lv_iload_n hx hb dL_law_18 rfl (lv_at hl 0 rfl) ?_
    refine lv_aload_n hx hb dL_law_19 rfl (lv_at hl 3 rfl) ?_
    refine va_slen hx hb hX hbl hbA hW.2.2 dL_law_20 ?_
    refine W.top (v' := .int (nI Ls)) rfl ?_
    refine lv_bipush (v := nI 6) hx hb dL_law_21 (by decide +kernel) ?_
    refine lv_isub hx hb dL_law_23 ?_
    refine zz_cgt (tgt := 1355) hx hb dL_law_24 (by decide) (nI_toInt (n := 6 * n) (by omega)) (pk_sub_toInt (by omega) (by omega)) (fun c24 => ?_) (fun c24 => ?_)
    · refine lv_iconst (v := 1) hx hb dL_law_1355 (by decide +kernel) ?_
      refine va_forget hW.2.2.2.2 ?_
      exact lw_ret hx hb hr hlocks dL_law_1356
    · have hn : 6 * n + 6 ≤ Ls := by omega
      have kk := kk.resolve_right (fun z => z hn)
      refine lv_aload_n hx hb dL_law_27 rfl (lv_at hl 3 rfl) ?_
      refine lv_iload_n hx hb dL_law_28 rfl (lv_at hl 0 rfl) ?_
      refine va_sld hx hb hX hbl hbA hW.2.2 (vp_in_nI (by omega) (by omega)) dL_law_29 ?_
      refine lv_bipush (v := nI 63) hx hb dL_law_30 (by decide +kernel) ?_
      refine lv_iand hx hb dL_law_32 ?_
      obtain ⟨j, hj, ej⟩ := pk_andE (xs (nI (6 * n)).toNatClampNeg) (m := nI 63) 6 (by decide +kernel)
      refine W.top (v' := .int (nI j)) (by rw [ej]) ?_
      have hj : j < 64 := hj
      rcases (show j = 0 ∨ j = 1 ∨ j = 2 ∨ j = 3 ∨ j = 4 ∨ j = 5 ∨ j = 6 ∨ j = 7 ∨ j = 8 ∨ j = 9 ∨ j = 10 ∨ j = 11 ∨ j = 12 ∨ j = 13 ∨ j = 14 ∨ j = 15 ∨ j = 16 ∨ j = 17 ∨ j = 18 ∨ j = 19 ∨ j = 20 ∨ j = 21 ∨ j = 22 ∨ j = 23 ∨ j = 24 ∨ j = 25 ∨ j = 26 ∨ j = 27 ∨ j = 28 ∨ j = 29 ∨ j = 30 ∨ j = 31 ∨ j = 32 ∨ j = 33 ∨ j = 34 ∨ j = 35 ∨ j = 36 ∨ j = 37 ∨ j = 38 ∨ j = 39 ∨ 39 < j by omega) with cj | cj | cj | cj | cj | cj | cj | cj | cj | cj | cj | cj | cj | cj | cj | cj | cj | cj | cj | cj | cj | cj | cj | cj | cj | cj | cj | cj | cj | cj | cj | cj | cj | cj | cj | cj | cj | cj | cj | cj | cj
      · refine nn_tsI (off := 175) (tgt := 208) hx hb dL_law_33 (by omega) 0 (by omega) (by omega) rfl (by decide) ?_
        exact law_iron l C0 D cI cJ hK x fi la ta ka tp sh mo aK aV nt hES hEM n hn hLs kk ik L G T Rt Tx K F R M Wa B Z C hI _ _ _ hW hl
      · refine nn_tsI (off := 208) (tgt := 241) hx hb dL_law_33 (by omega) 1 (by omega) (by omega) rfl (by decide) ?_
        exact law_rain l C0 D cI cJ hK x fi la ta ka tp sh mo aK aV nt hES hEM n hn hLs kk ik L G T Rt Tx K F R M Wa B Z C hI _ _ _ hW hl
      · refine nn_tsI (off := 231) (tgt := 264) hx hb dL_law_33 (by omega) 2 (by omega) (by omega) rfl (by decide) ?_
        exact law_now l C0 D cI cJ hK x fi la ta ka tp sh mo aK aV nt hES hEM n hn hLs kk ik L G T Rt Tx K F R M Wa B Z C hI _ _ _ hW hl
      · refine nn_tsI (off := 254) (tgt := 287) hx hb dL_law_33 (by omega) 3 (by omega) (by omega) rfl (by decide) ?_
        exact law_mother l C0 D cI cJ hK x fi la ta ka tp sh mo aK aV nt hES hEM n hn hLs kk ik L G T Rt Tx K F R M Wa B Z C hI _ _ _ hW hl
      · refine nn_tsI (off := 277) (tgt := 310) hx hb dL_law_33 (by omega) 4 (by omega) (by omega) rfl (by decide) ?_
        exact law_of l C0 D cI cJ hK x fi la ta ka tp sh mo aK aV nt hES hEM n hn hLs kk ik L G T Rt Tx K F R M Wa B Z C hI _ _ _ hW hl
      · refine nn_tsI (off := 310) (tgt := 343) hx hb dL_law_33 (by omega) 5 (by omega) (by omega) rfl (by decide) ?_
        exact law_set l C0 D cI cJ hK x fi la ta ka tp sh mo aK aV nt hES hEM n hn hLs kk ik L G T Rt Tx K F R M Wa B Z C hI _ _ _ hW hl
      · refine nn_tsI (off := 353) (tgt := 386) hx hb dL_law_33 (by omega) 6 (by omega) (by omega) rfl (by decide) ?_
        exact law_out l C0 D cI cJ hK x fi la ta ka tp sh mo aK aV nt hES hEM n hn hLs kk ik L G T Rt Tx K F R M Wa B Z C hI _ _ _ hW hl
      · refine nn_tsI (off := 386) (tgt := 419) hx hb dL_law_33 (by omega) 7 (by omega) (by omega) rfl (by decide) ?_
        exact law_turn l C0 D cI cJ hK x fi la ta ka tp sh mo aK aV nt hES hEM n hn hLs kk ik L G T Rt Tx K F R M Wa B Z C hI _ _ _ hW hl
      · refine nn_tsI (off := 419) (tgt := 452) hx hb dL_law_33 (by omega) 8 (by omega) (by omega) rfl (by decide) ?_
        exact law_as l C0 D cI cJ hK x fi la ta ka tp sh mo aK aV nt hES hEM n hn hLs kk ik L G T Rt Tx K F R M Wa B Z C hI _ _ _ hW hl
      · refine nn_tsI (off := 452) (tgt := 485) hx hb dL_law_33 (by omega) 9 (by omega) (by omega) rfl (by decide) ?_
        exact law_child l C0 D cI cJ hK x fi la ta ka tp sh mo aK aV nt hES hEM n hn hLs kk ik L G T Rt Tx K F R M Wa B Z C hI _ _ _ hW hl
      · refine nn_tsI (off := 475) (tgt := 508) hx hb dL_law_33 (by omega) 10 (by omega) (by omega) rfl (by decide) ?_
        exact law_childOf l C0 D cI cJ hK x fi la ta ka tp sh mo aK aV nt hES hEM n hn hLs kk ik L G T Rt Tx K F R M Wa B Z C hI _ _ _ hW hl
      · refine nn_tsI (off := 508) (tgt := 541) hx hb dL_law_33 (by omega) 11 (by omega) (by omega) rfl (by decide) ?_
        exact law_grip l C0 D cI cJ hK x fi la ta ka tp sh mo aK aV nt hES hEM n hn hLs kk ik L G T Rt Tx K F R M Wa B Z C hI _ _ _ hW hl
      · refine nn_tsI (off := 541) (tgt := 574) hx hb dL_law_33 (by omega) 12 (by omega) (by omega) rfl (by decide) ?_
        exact law_ride l C0 D cI cJ hK x fi la ta ka tp sh mo aK aV nt hES hEM n hn hLs kk ik L G T Rt Tx K F R M Wa B Z C hI _ _ _ hW hl
      · refine nn_tsI (off := 574) (tgt := 607) hx hb dL_law_33 (by omega) 13 (by omega) (by omega) rfl (by decide) ?_
        exact law_minutes l C0 D cI cJ hK x fi la ta ka tp sh mo aK aV nt hES hEM n hn hLs kk ik L G T Rt Tx K F R M Wa B Z C hI _ _ _ hW hl
      · refine nn_tsI (off := 597) (tgt := 630) hx hb dL_law_33 (by omega) 14 (by omega) (by omega) rfl (by decide) ?_
        exact law_on l C0 D cI cJ hK x fi la ta ka tp sh mo aK aV nt hES hEM n hn hLs kk ik L G T Rt Tx K F R M Wa B Z C hI _ _ _ hW hl
      · refine nn_tsI (off := 630) (tgt := 663) hx hb dL_law_33 (by omega) 15 (by omega) (by omega) rfl (by decide) ?_
        exact law_then l C0 D cI cJ hK x fi la ta ka tp sh mo aK aV nt hES hEM n hn hLs kk ik L G T Rt Tx K F R M Wa B Z C hI _ _ _ hW hl
      · refine nn_tsI (off := 673) (tgt := 706) hx hb dL_law_33 (by omega) 16 (by omega) (by omega) rfl (by decide) ?_
        exact law_quick l C0 D cI cJ hK x fi la ta ka tp sh mo aK aV nt hES hEM n hn hLs kk ik L G T Rt Tx K F R M Wa B Z C hI _ _ _ hW hl
      · refine nn_tsI (off := 696) (tgt := 729) hx hb dL_law_33 (by omega) 17 (by omega) (by omega) rfl (by decide) ?_
        exact law_stands l C0 D cI cJ hK x fi la ta ka tp sh mo aK aV nt hES hEM n hn hLs kk ik L G T Rt Tx K F R M Wa B Z C hI _ _ _ hW hl
      · refine nn_tsI (off := 709) (tgt := 742) hx hb dL_law_33 (by omega) 18 (by omega) (by omega) rfl (by decide) ?_
        exact law_flung l C0 D cI cJ hK x fi la ta ka tp sh mo aK aV nt hES hEM n hn hLs kk ik L G T Rt Tx K F R M Wa B Z C hI _ _ _ hW hl
      · refine nn_tsI (off := 732) (tgt := 765) hx hb dL_law_33 (by omega) 19 (by omega) (by omega) rfl (by decide) ?_
        exact law_send l C0 D cI cJ hK x fi la ta ka tp sh mo aK aV nt hES hEM n hn hLs kk ik L G T Rt Tx K F R M Wa B Z C hI _ _ _ hW hl
      · refine nn_tsI (off := 755) (tgt := 788) hx hb dL_law_33 (by omega) 20 (by omega) (by omega) rfl (by decide) ?_
        exact law_kind l C0 D cI cJ hK x fi la ta ka tp sh mo aK aV nt hES hEM n hn hLs kk ik L G T Rt Tx K F R M Wa B Z C hI _ _ _ hW hl
      · refine nn_tsI (off := 788) (tgt := 821) hx hb dL_law_33 (by omega) 21 (by omega) (by omega) rfl (by decide) ?_
        exact law_firm l C0 D cI cJ hK x fi la ta ka tp sh mo aK aV nt hES hEM n hn hLs kk ik L G T Rt Tx K F R M Wa B Z C hI _ _ _ hW hl
      · refine nn_tsI (off := 821) (tgt := 854) hx hb dL_law_33 (by omega) 22 (by omega) (by omega) rfl (by decide) ?_
        exact law_heavy l C0 D cI cJ hK x fi la ta ka tp sh mo aK aV nt hES hEM n hn hLs kk ik L G T Rt Tx K F R M Wa B Z C hI _ _ _ hW hl
      · refine nn_tsI (off := 844) (tgt := 877) hx hb dL_law_33 (by omega) 23 (by omega) (by omega) rfl (by decide) ?_
        exact law_fewest l C0 D cI cJ hK x fi la ta ka tp sh mo aK aV nt hES hEM n hn hLs kk ik L G T Rt Tx K F R M Wa B Z C hI _ _ _ hW hl
      · refine nn_tsI (off := 867) (tgt := 900) hx hb dL_law_33 (by omega) 24 (by omega) (by omega) rfl (by decide) ?_
        exact law_weather l C0 D cI cJ hK x fi la ta ka tp sh mo aK aV nt hES hEM n hn hLs kk ik L G T Rt Tx K F R M Wa B Z C hI _ _ _ hW hl
      · refine nn_tsI (off := 890) (tgt := 923) hx hb dL_law_33 (by omega) 25 (by omega) (by omega) rfl (by decide) ?_
        exact law_deepest l C0 D cI cJ hK x fi la ta ka tp sh mo aK aV nt hES hEM n hn hLs kk ik L G T Rt Tx K F R M Wa B Z C hI _ _ _ hW hl
      · refine nn_tsI (off := 913) (tgt := 946) hx hb dL_law_33 (by omega) 26 (by omega) (by omega) rfl (by decide) ?_
        exact law_feed l C0 D cI cJ hK x fi la ta ka tp sh mo aK aV nt hES hEM n hn hLs kk ik L G T Rt Tx K F R M Wa B Z C hI _ _ _ hW hl
      · refine nn_tsI (off := 946) (tgt := 979) hx hb dL_law_33 (by omega) 27 (by omega) (by omega) rfl (by decide) ?_
        exact law_wipe l C0 D cI cJ hK x fi la ta ka tp sh mo aK aV nt hES hEM n hn hLs kk ik L G T Rt Tx K F R M Wa B Z C hI _ _ _ hW hl
      · refine nn_tsI (off := 959) (tgt := 992) hx hb dL_law_33 (by omega) 28 (by omega) (by omega) rfl (by decide) ?_
        exact law_green l C0 D cI cJ hK x fi la ta ka tp sh mo aK aV nt hES hEM n hn hLs kk ik L G T Rt Tx K F R M Wa B Z C hI _ _ _ hW hl
      · refine nn_tsI (off := 972) (tgt := 1005) hx hb dL_law_33 (by omega) 29 (by omega) (by omega) rfl (by decide) ?_
        exact law_sheet l C0 D cI cJ hK x fi la ta ka tp sh mo aK aV nt hES hEM n hn hLs kk ik L G T Rt Tx K F R M Wa B Z C hI _ _ _ hW hl
      · refine nn_tsI (off := 1015) (tgt := 1048) hx hb dL_law_33 (by omega) 30 (by omega) (by omega) rfl (by decide) ?_
        exact law_write l C0 D cI cJ hK x fi la ta ka tp sh mo aK aV nt hES hEM n hn hLs kk ik L G T Rt Tx K F R M Wa B Z C hI _ _ _ hW hl
      · refine nn_tsI (off := 1089) (tgt := 1122) hx hb dL_law_33 (by omega) 31 (by omega) (by omega) rfl (by decide) ?_
        exact law_copy l C0 D cI cJ hK x fi la ta ka tp sh mo aK aV nt hES hEM n hn hLs kk ik L G T Rt Tx K F R M Wa B Z C hI _ _ _ hW hl
      · refine nn_tsI (off := 1152) (tgt := 1185) hx hb dL_law_33 (by omega) 32 (by omega) (by omega) rfl (by decide) ?_
        exact law_lays l C0 D cI cJ hK x fi la ta ka tp sh mo aK aV nt hES hEM n hn hLs kk ik L G T Rt Tx K F R M Wa B Z C hI _ _ _ hW hl
      · refine nn_tsI (off := 1175) (tgt := 1208) hx hb dL_law_33 (by omega) 33 (by omega) (by omega) rfl (by decide) ?_
        exact law_book l C0 D cI cJ hK x fi la ta ka tp sh mo aK aV nt hES hEM n hn hLs kk ik L G T Rt Tx K F R M Wa B Z C hI _ _ _ hW hl
      · refine nn_tsI (off := 1198) (tgt := 1231) hx hb dL_law_33 (by omega) 34 (by omega) (by omega) rfl (by decide) ?_
        exact law_read l C0 D cI cJ hK x fi la ta ka tp sh mo aK aV nt hES hEM n hn hLs kk ik L G T Rt Tx K F R M Wa B Z C hI _ _ _ hW hl
      · refine nn_tsI (off := 1231) (tgt := 1264) hx hb dL_law_33 (by omega) 35 (by omega) (by omega) rfl (by decide) ?_
        exact law_image l C0 D cI cJ hK x fi la ta ka tp sh mo aK aV nt hES hEM n hn hLs kk ik L G T Rt Tx K F R M Wa B Z C hI _ _ _ hW hl
      · refine nn_tsI (off := 1244) (tgt := 1277) hx hb dL_law_33 (by omega) 36 (by omega) (by omega) rfl (by decide) ?_
        exact law_undo l C0 D cI cJ hK x fi la ta ka tp sh mo aK aV nt hES hEM n hn hLs kk ik L G T Rt Tx K F R M Wa B Z C hI _ _ _ hW hl
      · refine nn_tsI (off := 1257) (tgt := 1290) hx hb dL_law_33 (by omega) 37 (by omega) (by omega) rfl (by decide) ?_
        exact law_tear l C0 D cI cJ hK x fi la ta ka tp sh mo aK aV nt hES hEM n hn hLs kk ik L G T Rt Tx K F R M Wa B Z C hI _ _ _ hW hl
      · refine nn_tsI (off := 1270) (tgt := 1303) hx hb dL_law_33 (by omega) 38 (by omega) (by omega) rfl (by decide) ?_
        exact law_count l C0 D cI cJ hK x fi la ta ka tp sh mo aK aV nt hES hEM n hn hLs kk ik L G T Rt Tx K F R M Wa B Z C hI _ _ _ hW hl
      · refine nn_tsI (off := 1293) (tgt := 1326) hx hb dL_law_33 (by omega) 39 (by omega) (by omega) rfl (by decide) ?_
        exact law_status l C0 D cI cJ hK x fi la ta ka tp sh mo aK aV nt hES hEM n hn hLs kk ik L G T Rt Tx K F R M Wa B Z C hI _ _ _ hW hl
      · refine nn_tsO (tgt := 1349) hx hb dL_law_33 (by omega) (by omega) (by decide) ?_
        exact kk ik L G T Rt Tx K F R M Wa B Z C _ _ _ hI.nx hW hl
