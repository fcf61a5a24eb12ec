set_option maxRecDepth 100000 in
set_option maxHeartbeats 4000000 in
theorem law_iron {p : Program} {e : Env} {s : State} {m : MethodId} {below : List Frame} {meth : Method} {c : Code} (l : Launch) {b Ls : Nat} {xs : Nat → Int32} (C0 : lw_At p s m meth c b Ls xs) (D : va_G) (cI cJ : ClassId) (hK : va_K D vwCl [(cI, .int), (cJ, .long)] s) (x fi : Nat) (la ta ka tp sh mo aK aV : Nat → Nat) (nt : Nat) (hES : ES aK aV (fun q : Nat => s.heap.size ≤ q) s s.heap) (hEM : EM nt (fun q : Nat => s.heap.size ≤ q) s s.heap) (n : Nat) (hn : 6 * n + 6 ≤ Ls) (hLs : Ls ≤ 3072) (kk : LGo p l e s m below meth c b D cI cJ x fi la ta ka tp sh mo n) (ik L : Nat) (G T Rt Tx K F R M Wa B Z : Nat → Nat) (C : Nat → Int64) (hI : LI n ik L G K M T Rt R B Z) (H : Heap) (locs : List Loc) (ls : Array Slot) (hW : Wo D vwCl (fun q : Nat => s.heap.size ≤ q) s.heap H locs [xH x la ta ka tp sh fi ik, gW cI la G, tW cI tp T Rt, gW cI ta Tx, gW cI ka K, sW cI cJ sh B Z C, aI cI fi 7 F, mH mo R, mR cI (mo 1) G, mR cI (mo 2) M, mR cI (mo 3) Wa, aI cI (mo 4) 7 F, aI cI (mo 5) 120 T, aI cI (mo 6) 4 B, aI cI (mo 7) 4 Z, aJ cJ (mo 8) 160 C]) (hl : lv_has ls 4 [(3, .int (nI (6 * n))), (2, .ref (mo 0)), (1, .ref x), (0, .ref b)]) : W p l e room_1 s m #[Value.ref b] below meth c H locs 41 984 (lw_Z below #[Value.ref b] s) (F0 m 208 ls []) := by
  obtain ⟨hx, hb, hr, hml, hown, hts0, hX, hbl, hlocks, hgv⟩ := id C0
  have hown : s.vm.findClass RL = some m.cls := hown
  have hts : ∀ w ∈ wsL_law, w.before #[Value.ref b] s = true := fun w hw => hts0 w (wsL_law_in w hw)
  have hA : ∀ q : Nat, s.heap.size ≤ q → (fun q : Nat => s.heap.size ≤ q) q := fun _ h => h
  have hbA : ¬ (fun q : Nat => s.heap.size ≤ q) b := Nat.not_le.mpr hbl
  refine lv_aload_n hx hb dL_law_208 rfl (lv_at hl 2 rfl) ?_
  refine lv_aload_n hx hb dL_law_209 rfl (lv_at hl 3 rfl) ?_
  refine lv_iload_n hx hb dL_law_210 rfl (lv_at hl 0 rfl) ?_
  refine lv_iconst (v := nI 1) hx hb dL_law_211 (by decide +kernel) ?_
  refine nn_add hx hb dL_law_212 ?_
  refine va_sld hx hb hX hbl hbA hW.2.2 (vp_in_nI (by omega) (by omega)) dL_law_213 ?_
  refine W.top (v' := .int (xs ((6 * n) + 1))) (by rw [nI_clamp (by omega)]) ?_
  refine lv_aload_n hx hb dL_law_214 rfl (lv_at hl 3 rfl) ?_
  refine lv_iload_n hx hb dL_law_215 rfl (lv_at hl 0 rfl) ?_
  refine lv_iconst (v := nI 2) hx hb dL_law_216 (by decide +kernel) ?_
  refine nn_add hx hb dL_law_217 ?_
  refine va_sld hx hb hX hbl hbA hW.2.2 (vp_in_nI (by omega) (by omega)) dL_law_218 ?_
  refine W.top (v' := .int (xs ((6 * n) + 2))) (by rw [nI_clamp (by omega)]) ?_
  refine cl_Vi (As := [.int (xs ((6 * n) + 1)), .int (xs ((6 * n) + 2))]) (rest := []) (C := RX4) ⟨hx, hb, hml, hown, hts⟩ (M_X4_iron l D cI cJ x fi ik la ta ka tp sh G F hI.1.1 (xs ((6 * n) + 1)) (xs ((6 * n) + 2))) (cwV 2 hts gL_law_X4_iron rfl rfl rfl qX4_iron ⟨Nat.le_of_ble_eq_true rfl, Nat.le_of_ble_eq_true rfl⟩) E0_good hK hA hW trivial [true, true, false, false, false, false, true] (fun _ => [xH x la ta ka tp sh fi ik, gW cI la (ironG G (xs ((6 * n) + 1)).toInt (xs ((6 * n) + 2)).toInt), tW cI tp T Rt, gW cI ta Tx, gW cI ka K, sW cI cJ sh B Z C, aI cI fi 7 (ironF F (xs ((6 * n) + 1)).toInt (xs ((6 * n) + 2)).toInt), mH mo R, mR cI (mo 1) G, mR cI (mo 2) M, mR cI (mo 3) Wa, aI cI (mo 4) 7 F, aI cI (mo 5) 120 T, aI cI (mo 6) 4 B, aI cI (mo 7) 4 Z, aJ cJ (mo 8) 160 C]) rfl (fun _ => rfl) (fun _ => rfl) 0 0 rfl rfl rfl rfl hl.1 rfl (lv_room (Nat.le_of_ble_eq_true rfl)) dL_law_219 ⟨Nat.le_of_ble_eq_true rfl, Nat.le_of_ble_eq_true rfl⟩ (fun _ H locs _ hW => ?_)
  refine lv_aload_n hx hb dL_law_222 rfl (lv_at hl 1 rfl) ?_
  refine lv_aload_n hx hb dL_law_223 rfl (lv_at hl 3 rfl) ?_
  refine lv_iload_n hx hb dL_law_224 rfl (lv_at hl 0 rfl) ?_
  refine lv_iconst (v := nI 1) hx hb dL_law_225 (by decide +kernel) ?_
  refine nn_add hx hb dL_law_226 ?_
  refine va_sld hx hb hX hbl hbA hW.2.2 (vp_in_nI (by omega) (by omega)) dL_law_227 ?_
  refine W.top (v' := .int (xs ((6 * n) + 1))) (by rw [nI_clamp (by omega)]) ?_
  refine lv_aload_n hx hb dL_law_228 rfl (lv_at hl 3 rfl) ?_
  refine lv_iload_n hx hb dL_law_229 rfl (lv_at hl 0 rfl) ?_
  refine lv_iconst (v := nI 2) hx hb dL_law_230 (by decide +kernel) ?_
  refine nn_add hx hb dL_law_231 ?_
  refine va_sld hx hb hX hbl hbA hW.2.2 (vp_in_nI (by omega) (by omega)) dL_law_232 ?_
  refine W.top (v' := .int (xs ((6 * n) + 2))) (by rw [nI_clamp (by omega)]) ?_
  refine cl_Vi (As := [.int (xs ((6 * n) + 1)), .int (xs ((6 * n) + 2))]) (rest := [.int (ironV G (xs ((6 * n) + 1)).toInt (xs ((6 * n) + 2)).toInt)]) (C := RX5) ⟨hx, hb, hml, hown, hts⟩ (M_X5_iron l D cI cJ mo R G F hI.1.1 (xs ((6 * n) + 1)) (xs ((6 * n) + 2))) (cwV 2 hts gL_law_X5_iron rfl rfl rfl qX5_iron ⟨Nat.le_of_ble_eq_true rfl, Nat.le_of_ble_eq_true rfl⟩) E0_good hK hA hW trivial [false, false, false, false, false, false, false, true, true, false, false, true] (fun _ => [xH x la ta ka tp sh fi ik, gW cI la (ironG G (xs ((6 * n) + 1)).toInt (xs ((6 * n) + 2)).toInt), tW cI tp T Rt, gW cI ta Tx, gW cI ka K, sW cI cJ sh B Z C, aI cI fi 7 (ironF F (xs ((6 * n) + 1)).toInt (xs ((6 * n) + 2)).toInt), mH mo R, mR cI (mo 1) (ironG G (xs ((6 * n) + 1)).toInt (xs ((6 * n) + 2)).toInt), mR cI (mo 2) M, mR cI (mo 3) Wa, aI cI (mo 4) 7 (ironF F (xs ((6 * n) + 1)).toInt (xs ((6 * n) + 2)).toInt), aI cI (mo 5) 120 T, aI cI (mo 6) 4 B, aI cI (mo 7) 4 Z, aJ cJ (mo 8) 160 C]) rfl (fun _ => rfl) (fun _ => rfl) 7 0 rfl rfl rfl rfl hl.1 rfl (lv_room (Nat.le_of_ble_eq_true rfl)) dL_law_233 ⟨Nat.le_of_ble_eq_true rfl, Nat.le_of_ble_eq_true rfl⟩ (fun _ H locs _ hW => ?_)
  refine lv_icmp_eq (tgt := 1349) hx hb dL_law_236 (by decide) (fun _ => ?_) (fun hne => absurd rfl hne)
  exact kk ik L (ironG G (xs ((6 * n) + 1)).toInt (xs ((6 * n) + 2)).toInt) T Rt Tx K (ironF F (xs ((6 * n) + 1)).toInt (xs ((6 * n) + 2)).toInt) R M Wa B Z C _ _ _ (hI.g (gi_iron hI.1 _ _)) hW hl
set_option maxRecDepth 100000 in
set_option maxHeartbeats 4000000 in
theorem law_rain {p : Program} {e : Env} {s : State} {m : MethodId} {below : List Frame} {meth : Method} {c : Code} (l : Launch) {b Ls : Nat} {xs : Nat → Int32} (C0 : lw_At p s m meth c b Ls xs) (D : va_G) (cI cJ : ClassId) (hK : va_K D vwCl [(cI, .int), (cJ, .long)] s) (x fi : Nat) (la ta ka tp sh mo aK aV : Nat → Nat) (nt : Nat) (hES : ES aK aV (fun q : Nat => s.heap.size ≤ q) s s.heap) (hEM : EM nt (fun q : Nat => s.heap.size ≤ q) s s.heap) (n : Nat) (hn : 6 * n + 6 ≤ Ls) (hLs : Ls ≤ 3072) (kk : LGo p l e s m below meth c b D cI cJ x fi la ta ka tp sh mo n) (ik L : Nat) (G T Rt Tx K F R M Wa B Z : Nat → Nat) (C : Nat → Int64) (hI : LI n ik L G K M T Rt R B Z) (H : Heap) (locs : List Loc) (ls : Array Slot) (hW : Wo D vwCl (fun q : Nat => s.heap.size ≤ q) s.heap H locs [xH x la ta ka tp sh fi ik, gW cI la G, tW cI tp T Rt, gW cI ta Tx, gW cI ka K, sW cI cJ sh B Z C, aI cI fi 7 F, mH mo R, mR cI (mo 1) G, mR cI (mo 2) M, mR cI (mo 3) Wa, aI cI (mo 4) 7 F, aI cI (mo 5) 120 T, aI cI (mo 6) 4 B, aI cI (mo 7) 4 Z, aJ cJ (mo 8) 160 C]) (hl : lv_has ls 4 [(3, .int (nI (6 * n))), (2, .ref (mo 0)), (1, .ref x), (0, .ref b)]) : W p l e room_1 s m #[Value.ref b] below meth c H locs 41 984 (lw_Z below #[Value.ref b] s) (F0 m 241 ls []) := by
  obtain ⟨hx, hb, hr, hml, hown, hts0, hX, hbl, hlocks, hgv⟩ := id C0
  have hown : s.vm.findClass RL = some m.cls := hown
  have hts : ∀ w ∈ wsL_law, w.before #[Value.ref b] s = true := fun w hw => hts0 w (wsL_law_in w hw)
  have hA : ∀ q : Nat, s.heap.size ≤ q → (fun q : Nat => s.heap.size ≤ q) q := fun _ h => h
  have hbA : ¬ (fun q : Nat => s.heap.size ≤ q) b := Nat.not_le.mpr hbl
  refine lv_aload_n hx hb dL_law_241 rfl (lv_at hl 2 rfl) ?_
  refine lv_aload_n hx hb dL_law_242 rfl (lv_at hl 3 rfl) ?_
  refine lv_iload_n hx hb dL_law_243 rfl (lv_at hl 0 rfl) ?_
  refine lv_iconst (v := nI 1) hx hb dL_law_244 (by decide +kernel) ?_
  refine nn_add hx hb dL_law_245 ?_
  refine va_sld hx hb hX hbl hbA hW.2.2 (vp_in_nI (by omega) (by omega)) dL_law_246 ?_
  refine W.top (v' := .int (xs ((6 * n) + 1))) (by rw [nI_clamp (by omega)]) ?_
  refine cl_Vi (As := [.int (xs ((6 * n) + 1))]) (rest := []) (C := RX4) ⟨hx, hb, hml, hown, hts⟩ (M_X4_rain l D cI cJ x fi ik la ta ka tp sh G F hI.1.1 (xs ((6 * n) + 1))) (cwV 1 hts gL_law_X4_rain rfl rfl rfl qX4_rain ⟨Nat.le_of_ble_eq_true rfl, Nat.le_of_ble_eq_true rfl⟩) E0_good hK hA hW trivial [true, true, false, false, false, false, true] (fun _ => [xH x la ta ka tp sh fi ik, gW cI la (rainG G (xs ((6 * n) + 1)).toInt), tW cI tp T Rt, gW cI ta Tx, gW cI ka K, sW cI cJ sh B Z C, aI cI fi 7 (rainF F (xs ((6 * n) + 1)).toInt), mH mo R, mR cI (mo 1) G, mR cI (mo 2) M, mR cI (mo 3) Wa, aI cI (mo 4) 7 F, aI cI (mo 5) 120 T, aI cI (mo 6) 4 B, aI cI (mo 7) 4 Z, aJ cJ (mo 8) 160 C]) rfl (fun _ => rfl) (fun _ => rfl) 0 0 rfl rfl rfl rfl hl.1 rfl (lv_room (Nat.le_of_ble_eq_true rfl)) dL_law_247 ⟨Nat.le_of_ble_eq_true rfl, Nat.le_of_ble_eq_true rfl⟩ (fun _ H locs _ hW => ?_)
  refine lv_aload_n hx hb dL_law_250 rfl (lv_at hl 1 rfl) ?_
  refine lv_aload_n hx hb dL_law_251 rfl (lv_at hl 3 rfl) ?_
  refine lv_iload_n hx hb dL_law_252 rfl (lv_at hl 0 rfl) ?_
  refine lv_iconst (v := nI 1) hx hb dL_law_253 (by decide +kernel) ?_
  refine nn_add hx hb dL_law_254 ?_
  refine va_sld hx hb hX hbl hbA hW.2.2 (vp_in_nI (by omega) (by omega)) dL_law_255 ?_
  refine W.top (v' := .int (xs ((6 * n) + 1))) (by rw [nI_clamp (by omega)]) ?_
  refine cl_Vi (As := [.int (xs ((6 * n) + 1))]) (rest := [.int (rainV G (xs ((6 * n) + 1)).toInt)]) (C := RX5) ⟨hx, hb, hml, hown, hts⟩ (M_X5_rain l D cI cJ mo R G F hI.1.1 (xs ((6 * n) + 1))) (cwV 1 hts gL_law_X5_rain rfl rfl rfl qX5_rain ⟨Nat.le_of_ble_eq_true rfl, Nat.le_of_ble_eq_true rfl⟩) E0_good hK hA hW trivial [false, false, false, false, false, false, false, true, true, false, false, true] (fun _ => [xH x la ta ka tp sh fi ik, gW cI la (rainG G (xs ((6 * n) + 1)).toInt), tW cI tp T Rt, gW cI ta Tx, gW cI ka K, sW cI cJ sh B Z C, aI cI fi 7 (rainF F (xs ((6 * n) + 1)).toInt), mH mo R, mR cI (mo 1) (rainG G (xs ((6 * n) + 1)).toInt), mR cI (mo 2) M, mR cI (mo 3) Wa, aI cI (mo 4) 7 (rainF F (xs ((6 * n) + 1)).toInt), aI cI (mo 5) 120 T, aI cI (mo 6) 4 B, aI cI (mo 7) 4 Z, aJ cJ (mo 8) 160 C]) rfl (fun _ => rfl) (fun _ => rfl) 7 0 rfl rfl rfl rfl hl.1 rfl (lv_room (Nat.le_of_ble_eq_true rfl)) dL_law_256 ⟨Nat.le_of_ble_eq_true rfl, Nat.le_of_ble_eq_true rfl⟩ (fun _ H locs _ hW => ?_)
  refine lv_icmp_eq (tgt := 1349) hx hb dL_law_259 (by decide) (fun _ => ?_) (fun hne => absurd rfl hne)
  exact kk ik L (rainG G (xs ((6 * n) + 1)).toInt) T Rt Tx K (rainF F (xs ((6 * n) + 1)).toInt) R M Wa B Z C _ _ _ (hI.g (gi_rain hI.1 _)) hW hl
set_option maxRecDepth 100000 in
set_option maxHeartbeats 4000000 in
theorem law_now {p : Program} {e : Env} {s : State} {m : MethodId} {below : List Frame} {meth : Method} {c : Code} (l : Launch) {b Ls : Nat} {xs : Nat → Int32} (C0 : lw_At p s m meth c b Ls xs) (D : va_G) (cI cJ : ClassId) (hK : va_K D vwCl [(cI, .int), (cJ, .long)] s) (x fi : Nat) (la ta ka tp sh mo aK aV : Nat → Nat) (nt : Nat) (hES : ES aK aV (fun q : Nat => s.heap.size ≤ q) s s.heap) (hEM : EM nt (fun q : Nat => s.heap.size ≤ q) s s.heap) (n : Nat) (hn : 6 * n + 6 ≤ Ls) (hLs : Ls ≤ 3072) (kk : LGo p l e s m below meth c b D cI cJ x fi la ta ka tp sh mo n) (ik L : Nat) (G T Rt Tx K F R M Wa B Z : Nat → Nat) (C : Nat → Int64) (hI : LI n ik L G K M T Rt R B Z) (H : Heap) (locs : List Loc) (ls : Array Slot) (hW : Wo D vwCl (fun q : Nat => s.heap.size ≤ q) s.heap H locs [xH x la ta ka tp sh fi ik, gW cI la G, tW cI tp T Rt, gW cI ta Tx, gW cI ka K, sW cI cJ sh B Z C, aI cI fi 7 F, mH mo R, mR cI (mo 1) G, mR cI (mo 2) M, mR cI (mo 3) Wa, aI cI (mo 4) 7 F, aI cI (mo 5) 120 T, aI cI (mo 6) 4 B, aI cI (mo 7) 4 Z, aJ cJ (mo 8) 160 C]) (hl : lv_has ls 4 [(3, .int (nI (6 * n))), (2, .ref (mo 0)), (1, .ref x), (0, .ref b)]) : W p l e room_1 s m #[Value.ref b] below meth c H locs 41 984 (lw_Z below #[Value.ref b] s) (F0 m 264 ls []) := by
  obtain ⟨hx, hb, hr, hml, hown, hts0, hX, hbl, hlocks, hgv⟩ := id C0
  have hown : s.vm.findClass RL = some m.cls := hown
  have hts : ∀ w ∈ wsL_law, w.before #[Value.ref b] s = true := fun w hw => hts0 w (wsL_law_in w hw)
  have hA : ∀ q : Nat, s.heap.size ≤ q → (fun q : Nat => s.heap.size ≤ q) q := fun _ h => h
  have hbA : ¬ (fun q : Nat => s.heap.size ≤ q) b := Nat.not_le.mpr hbl
  refine lv_aload_n hx hb dL_law_264 rfl (lv_at hl 2 rfl) ?_
  refine lv_aload_n hx hb dL_law_265 rfl (lv_at hl 3 rfl) ?_
  refine lv_iload_n hx hb dL_law_266 rfl (lv_at hl 0 rfl) ?_
  refine lv_iconst (v := nI 1) hx hb dL_law_267 (by decide +kernel) ?_
  refine nn_add hx hb dL_law_268 ?_
  refine va_sld hx hb hX hbl hbA hW.2.2 (vp_in_nI (by omega) (by omega)) dL_law_269 ?_
  refine W.top (v' := .int (xs ((6 * n) + 1))) (by rw [nI_clamp (by omega)]) ?_
  refine cl_Vi (As := [.int (xs ((6 * n) + 1))]) (rest := []) (C := RX4) ⟨hx, hb, hml, hown, hts⟩ (M_X4_now l D cI cJ x fi ik la ta ka tp sh G F hI.1.1 (xs ((6 * n) + 1))) (cwV 1 hts gL_law_X4_now rfl rfl rfl qX4_now ⟨Nat.le_of_ble_eq_true rfl, Nat.le_of_ble_eq_true rfl⟩) E0_good hK hA hW trivial [true, true, false, false, false, false, true] (fun _ => [xH x la ta ka tp sh fi ik, gW cI la (G), tW cI tp T Rt, gW cI ta Tx, gW cI ka K, sW cI cJ sh B Z C, aI cI fi 7 (nowF F (xs ((6 * n) + 1)).toInt), mH mo R, mR cI (mo 1) G, mR cI (mo 2) M, mR cI (mo 3) Wa, aI cI (mo 4) 7 F, aI cI (mo 5) 120 T, aI cI (mo 6) 4 B, aI cI (mo 7) 4 Z, aJ cJ (mo 8) 160 C]) rfl (fun _ => rfl) (fun _ => rfl) 0 0 rfl rfl rfl rfl hl.1 rfl (lv_room (Nat.le_of_ble_eq_true rfl)) dL_law_270 ⟨Nat.le_of_ble_eq_true rfl, Nat.le_of_ble_eq_true rfl⟩ (fun _ H locs _ hW => ?_)
  refine lv_aload_n hx hb dL_law_273 rfl (lv_at hl 1 rfl) ?_
  refine lv_aload_n hx hb dL_law_274 rfl (lv_at hl 3 rfl) ?_
  refine lv_iload_n hx hb dL_law_275 rfl (lv_at hl 0 rfl) ?_
  refine lv_iconst (v := nI 1) hx hb dL_law_276 (by decide +kernel) ?_
  refine nn_add hx hb dL_law_277 ?_
  refine va_sld hx hb hX hbl hbA hW.2.2 (vp_in_nI (by omega) (by omega)) dL_law_278 ?_
  refine W.top (v' := .int (xs ((6 * n) + 1))) (by rw [nI_clamp (by omega)]) ?_
  refine cl_Vi (As := [.int (xs ((6 * n) + 1))]) (rest := [.int (nowV G (xs ((6 * n) + 1)).toInt)]) (C := RX5) ⟨hx, hb, hml, hown, hts⟩ (M_X5_now l D cI cJ mo R G F hI.1.1 (xs ((6 * n) + 1))) (cwV 1 hts gL_law_X5_now rfl rfl rfl qX5_now ⟨Nat.le_of_ble_eq_true rfl, Nat.le_of_ble_eq_true rfl⟩) E0_good hK hA hW trivial [false, false, false, false, false, false, false, true, true, false, false, true] (fun _ => [xH x la ta ka tp sh fi ik, gW cI la (G), tW cI tp T Rt, gW cI ta Tx, gW cI ka K, sW cI cJ sh B Z C, aI cI fi 7 (nowF F (xs ((6 * n) + 1)).toInt), mH mo R, mR cI (mo 1) (G), mR cI (mo 2) M, mR cI (mo 3) Wa, aI cI (mo 4) 7 (nowF F (xs ((6 * n) + 1)).toInt), aI cI (mo 5) 120 T, aI cI (mo 6) 4 B, aI cI (mo 7) 4 Z, aJ cJ (mo 8) 160 C]) rfl (fun _ => rfl) (fun _ => rfl) 7 0 rfl rfl rfl rfl hl.1 rfl (lv_room (Nat.le_of_ble_eq_true rfl)) dL_law_279 ⟨Nat.le_of_ble_eq_true rfl, Nat.le_of_ble_eq_true rfl⟩ (fun _ H locs _ hW => ?_)
  refine lv_icmp_eq (tgt := 1349) hx hb dL_law_282 (by decide) (fun _ => ?_) (fun hne => absurd rfl hne)
  exact kk ik L (G) T Rt Tx K (nowF F (xs ((6 * n) + 1)).toInt) R M Wa B Z C _ _ _ hI.nx hW hl
set_option maxRecDepth 100000 in
set_option maxHeartbeats 4000000 in
theorem law_mother {p : Program} {e : Env} {s : State} {m : MethodId} {below : List Frame} {meth : Method} {c : Code} (l : Launch) {b Ls : Nat} {xs : Nat → Int32} (C0 : lw_At p s m meth c b Ls xs) (D : va_G) (cI cJ : ClassId) (hK : va_K D vwCl [(cI, .int), (cJ, .long)] s) (x fi : Nat) (la ta ka tp sh mo aK aV : Nat → Nat) (nt : Nat) (hES : ES aK aV (fun q : Nat => s.heap.size ≤ q) s s.heap) (hEM : EM nt (fun q : Nat => s.heap.size ≤ q) s s.heap) (n : Nat) (hn : 6 * n + 6 ≤ Ls) (hLs : Ls ≤ 3072) (kk : LGo p l e s m below meth c b D cI cJ x fi la ta ka tp sh mo n) (ik L : Nat) (G T Rt Tx K F R M Wa B Z : Nat → Nat) (C : Nat → Int64) (hI : LI n ik L G K M T Rt R B Z) (H : Heap) (locs : List Loc) (ls : Array Slot) (hW : Wo D vwCl (fun q : Nat => s.heap.size ≤ q) s.heap H locs [xH x la ta ka tp sh fi ik, gW cI la G, tW cI tp T Rt, gW cI ta Tx, gW cI ka K, sW cI cJ sh B Z C, aI cI fi 7 F, mH mo R, mR cI (mo 1) G, mR cI (mo 2) M, mR cI (mo 3) Wa, aI cI (mo 4) 7 F, aI cI (mo 5) 120 T, aI cI (mo 6) 4 B, aI cI (mo 7) 4 Z, aJ cJ (mo 8) 160 C]) (hl : lv_has ls 4 [(3, .int (nI (6 * n))), (2, .ref (mo 0)), (1, .ref x), (0, .ref b)]) : W p l e room_1 s m #[Value.ref b] below meth c H locs 41 984 (lw_Z below #[Value.ref b] s) (F0 m 287 ls []) := by
  obtain ⟨hx, hb, hr, hml, hown, hts0, hX, hbl, hlocks, hgv⟩ := id C0
  have hown : s.vm.findClass RL = some m.cls := hown
  have hts : ∀ w ∈ wsL_law, w.before #[Value.ref b] s = true := fun w hw => hts0 w (wsL_law_in w hw)
  have hA : ∀ q : Nat, s.heap.size ≤ q → (fun q : Nat => s.heap.size ≤ q) q := fun _ h => h
  have hbA : ¬ (fun q : Nat => s.heap.size ≤ q) b := Nat.not_le.mpr hbl
  refine lv_aload_n hx hb dL_law_287 rfl (lv_at hl 2 rfl) ?_
  refine lv_aload_n hx hb dL_law_288 rfl (lv_at hl 3 rfl) ?_
  refine lv_iload_n hx hb dL_law_289 rfl (lv_at hl 0 rfl) ?_
  refine lv_iconst (v := nI 1) hx hb dL_law_290 (by decide +kernel) ?_
  refine nn_add hx hb dL_law_291 ?_
  refine va_sld hx hb hX hbl hbA hW.2.2 (vp_in_nI (by omega) (by omega)) dL_law_292 ?_
  refine W.top (v' := .int (xs ((6 * n) + 1))) (by rw [nI_clamp (by omega)]) ?_
  refine cl_Vi (As := [.int (xs ((6 * n) + 1))]) (rest := []) (C := RX4) ⟨hx, hb, hml, hown, hts⟩ (M_X4_mother l D cI cJ x fi ik la ta ka tp sh G F hI.1.1 (xs ((6 * n) + 1))) (cwV 1 hts gL_law_X4_mother rfl rfl rfl qX4_mother ⟨Nat.le_of_ble_eq_true rfl, Nat.le_of_ble_eq_true rfl⟩) E0_good hK hA hW trivial [true, true, false, false, false, false, true] (fun _ => [xH x la ta ka tp sh fi ik, gW cI la (motherG G (xs ((6 * n) + 1)).toInt), tW cI tp T Rt, gW cI ta Tx, gW cI ka K, sW cI cJ sh B Z C, aI cI fi 7 (motherF G F (xs ((6 * n) + 1)).toInt), mH mo R, mR cI (mo 1) G, mR cI (mo 2) M, mR cI (mo 3) Wa, aI cI (mo 4) 7 F, aI cI (mo 5) 120 T, aI cI (mo 6) 4 B, aI cI (mo 7) 4 Z, aJ cJ (mo 8) 160 C]) rfl (fun _ => rfl) (fun _ => rfl) 0 0 rfl rfl rfl rfl hl.1 rfl (lv_room (Nat.le_of_ble_eq_true rfl)) dL_law_293 ⟨Nat.le_of_ble_eq_true rfl, Nat.le_of_ble_eq_true rfl⟩ (fun _ H locs _ hW => ?_)
  refine lv_aload_n hx hb dL_law_296 rfl (lv_at hl 1 rfl) ?_
  refine lv_aload_n hx hb dL_law_297 rfl (lv_at hl 3 rfl) ?_
  refine lv_iload_n hx hb dL_law_298 rfl (lv_at hl 0 rfl) ?_
  refine lv_iconst (v := nI 1) hx hb dL_law_299 (by decide +kernel) ?_
  refine nn_add hx hb dL_law_300 ?_
  refine va_sld hx hb hX hbl hbA hW.2.2 (vp_in_nI (by omega) (by omega)) dL_law_301 ?_
  refine W.top (v' := .int (xs ((6 * n) + 1))) (by rw [nI_clamp (by omega)]) ?_
  refine cl_Vi (As := [.int (xs ((6 * n) + 1))]) (rest := [.int (motherV G (xs ((6 * n) + 1)).toInt)]) (C := RX5) ⟨hx, hb, hml, hown, hts⟩ (M_X5_mother l D cI cJ mo R G F hI.1.1 (xs ((6 * n) + 1))) (cwV 1 hts gL_law_X5_mother rfl rfl rfl qX5_mother ⟨Nat.le_of_ble_eq_true rfl, Nat.le_of_ble_eq_true rfl⟩) E0_good hK hA hW trivial [false, false, false, false, false, false, false, true, true, false, false, true] (fun _ => [xH x la ta ka tp sh fi ik, gW cI la (motherG G (xs ((6 * n) + 1)).toInt), tW cI tp T Rt, gW cI ta Tx, gW cI ka K, sW cI cJ sh B Z C, aI cI fi 7 (motherF G F (xs ((6 * n) + 1)).toInt), mH mo R, mR cI (mo 1) (motherG G (xs ((6 * n) + 1)).toInt), mR cI (mo 2) M, mR cI (mo 3) Wa, aI cI (mo 4) 7 (motherF G F (xs ((6 * n) + 1)).toInt), aI cI (mo 5) 120 T, aI cI (mo 6) 4 B, aI cI (mo 7) 4 Z, aJ cJ (mo 8) 160 C]) rfl (fun _ => rfl) (fun _ => rfl) 7 0 rfl rfl rfl rfl hl.1 rfl (lv_room (Nat.le_of_ble_eq_true rfl)) dL_law_302 ⟨Nat.le_of_ble_eq_true rfl, Nat.le_of_ble_eq_true rfl⟩ (fun _ H locs _ hW => ?_)
  refine lv_icmp_eq (tgt := 1349) hx hb dL_law_305 (by decide) (fun _ => ?_) (fun hne => absurd rfl hne)
  exact kk ik L (motherG G (xs ((6 * n) + 1)).toInt) T Rt Tx K (motherF G F (xs ((6 * n) + 1)).toInt) R M Wa B Z C _ _ _ (hI.g (gi_mother hI.1 _)) hW hl
set_option maxRecDepth 100000 in
set_option maxHeartbeats 4000000 in
theorem law_of {p : Program} {e : Env} {s : State} {m : MethodId} {below : List Frame} {meth : Method} {c : Code} (l : Launch) {b Ls : Nat} {xs : Nat → Int32} (C0 : lw_At p s m meth c b Ls xs) (D : va_G) (cI cJ : ClassId) (hK : va_K D vwCl [(cI, .int), (cJ, .long)] s) (x fi : Nat) (la ta ka tp sh mo aK aV : Nat → Nat) (nt : Nat) (hES : ES aK aV (fun q : Nat => s.heap.size ≤ q) s s.heap) (hEM : EM nt (fun q : Nat => s.heap.size ≤ q) s s.heap) (n : Nat) (hn : 6 * n + 6 ≤ Ls) (hLs : Ls ≤ 3072) (kk : LGo p l e s m below meth c b D cI cJ x fi la ta ka tp sh mo n) (ik L : Nat) (G T Rt Tx K F R M Wa B Z : Nat → Nat) (C : Nat → Int64) (hI : LI n ik L G K M T Rt R B Z) (H : Heap) (locs : List Loc) (ls : Array Slot) (hW : Wo D vwCl (fun q : Nat => s.heap.size ≤ q) s.heap H locs [xH x la ta ka tp sh fi ik, gW cI la G, tW cI tp T Rt, gW cI ta Tx, gW cI ka K, sW cI cJ sh B Z C, aI cI fi 7 F, mH mo R, mR cI (mo 1) G, mR cI (mo 2) M, mR cI (mo 3) Wa, aI cI (mo 4) 7 F, aI cI (mo 5) 120 T, aI cI (mo 6) 4 B, aI cI (mo 7) 4 Z, aJ cJ (mo 8) 160 C]) (hl : lv_has ls 4 [(3, .int (nI (6 * n))), (2, .ref (mo 0)), (1, .ref x), (0, .ref b)]) : W p l e room_1 s m #[Value.ref b] below meth c H locs 41 984 (lw_Z below #[Value.ref b] s) (F0 m 310 ls []) := by
  obtain ⟨hx, hb, hr, hml, hown, hts0, hX, hbl, hlocks, hgv⟩ := id C0
  have hown : s.vm.findClass RL = some m.cls := hown
  have hts : ∀ w ∈ wsL_law, w.before #[Value.ref b] s = true := fun w hw => hts0 w (wsL_law_in w hw)
  have hA : ∀ q : Nat, s.heap.size ≤ q → (fun q : Nat => s.heap.size ≤ q) q := fun _ h => h
  have hbA : ¬ (fun q : Nat => s.heap.size ≤ q) b := Nat.not_le.mpr hbl
  refine lv_aload_n hx hb dL_law_310 rfl (lv_at hl 2 rfl) ?_
  refine lv_aload_n hx hb dL_law_311 rfl (lv_at hl 3 rfl) ?_
  refine lv_iload_n hx hb dL_law_312 rfl (lv_at hl 0 rfl) ?_
  refine lv_iconst (v := nI 1) hx hb dL_law_313 (by decide +kernel) ?_
  refine nn_add hx hb dL_law_314 ?_
  refine va_sld hx hb hX hbl hbA hW.2.2 (vp_in_nI (by omega) (by omega)) dL_law_315 ?_
  refine W.top (v' := .int (xs ((6 * n) + 1))) (by rw [nI_clamp (by omega)]) ?_
  refine lv_aload_n hx hb dL_law_316 rfl (lv_at hl 3 rfl) ?_
  refine lv_iload_n hx hb dL_law_317 rfl (lv_at hl 0 rfl) ?_
  refine lv_iconst (v := nI 2) hx hb dL_law_318 (by decide +kernel) ?_
  refine nn_add hx hb dL_law_319 ?_
  refine va_sld hx hb hX hbl hbA hW.2.2 (vp_in_nI (by omega) (by omega)) dL_law_320 ?_
  refine W.top (v' := .int (xs ((6 * n) + 2))) (by rw [nI_clamp (by omega)]) ?_
  refine cl_Vi (As := [.int (xs ((6 * n) + 1)), .int (xs ((6 * n) + 2))]) (rest := []) (C := RX4) ⟨hx, hb, hml, hown, hts⟩ (M_X4_of l D cI cJ x fi ik la ta ka tp sh G F hI.1.1 (xs ((6 * n) + 1)) (xs ((6 * n) + 2))) (cwV 2 hts gL_law_X4_of rfl rfl rfl qX4_of ⟨Nat.le_of_ble_eq_true rfl, Nat.le_of_ble_eq_true rfl⟩) E0_good hK hA hW trivial [true, true, false, false, false, false, true] (fun _ => [xH x la ta ka tp sh fi ik, gW cI la (G), tW cI tp T Rt, gW cI ta Tx, gW cI ka K, sW cI cJ sh B Z C, aI cI fi 7 (ofF G F (xs ((6 * n) + 1)).toInt (xs ((6 * n) + 2)).toInt), mH mo R, mR cI (mo 1) G, mR cI (mo 2) M, mR cI (mo 3) Wa, aI cI (mo 4) 7 F, aI cI (mo 5) 120 T, aI cI (mo 6) 4 B, aI cI (mo 7) 4 Z, aJ cJ (mo 8) 160 C]) rfl (fun _ => rfl) (fun _ => rfl) 0 0 rfl rfl rfl rfl hl.1 rfl (lv_room (Nat.le_of_ble_eq_true rfl)) dL_law_321 ⟨Nat.le_of_ble_eq_true rfl, Nat.le_of_ble_eq_true rfl⟩ (fun _ H locs _ hW => ?_)
  refine lv_aload_n hx hb dL_law_324 rfl (lv_at hl 1 rfl) ?_
  refine lv_aload_n hx hb dL_law_325 rfl (lv_at hl 3 rfl) ?_
  refine lv_iload_n hx hb dL_law_326 rfl (lv_at hl 0 rfl) ?_
  refine lv_iconst (v := nI 1) hx hb dL_law_327 (by decide +kernel) ?_
  refine nn_add hx hb dL_law_328 ?_
  refine va_sld hx hb hX hbl hbA hW.2.2 (vp_in_nI (by omega) (by omega)) dL_law_329 ?_
  refine W.top (v' := .int (xs ((6 * n) + 1))) (by rw [nI_clamp (by omega)]) ?_
  refine lv_aload_n hx hb dL_law_330 rfl (lv_at hl 3 rfl) ?_
  refine lv_iload_n hx hb dL_law_331 rfl (lv_at hl 0 rfl) ?_
  refine lv_iconst (v := nI 2) hx hb dL_law_332 (by decide +kernel) ?_
  refine nn_add hx hb dL_law_333 ?_
  refine va_sld hx hb hX hbl hbA hW.2.2 (vp_in_nI (by omega) (by omega)) dL_law_334 ?_
  refine W.top (v' := .int (xs ((6 * n) + 2))) (by rw [nI_clamp (by omega)]) ?_
  refine cl_Vi (As := [.int (xs ((6 * n) + 1)), .int (xs ((6 * n) + 2))]) (rest := [.int (ofV G (xs ((6 * n) + 1)).toInt (xs ((6 * n) + 2)).toInt)]) (C := RX5) ⟨hx, hb, hml, hown, hts⟩ (M_X5_of l D cI cJ mo R G F hI.1.1 (xs ((6 * n) + 1)) (xs ((6 * n) + 2))) (cwV 2 hts gL_law_X5_of rfl rfl rfl qX5_of ⟨Nat.le_of_ble_eq_true rfl, Nat.le_of_ble_eq_true rfl⟩) E0_good hK hA hW trivial [false, false, false, false, false, false, false, true, true, false, false, true] (fun _ => [xH x la ta ka tp sh fi ik, gW cI la (G), tW cI tp T Rt, gW cI ta Tx, gW cI ka K, sW cI cJ sh B Z C, aI cI fi 7 (ofF G F (xs ((6 * n) + 1)).toInt (xs ((6 * n) + 2)).toInt), mH mo R, mR cI (mo 1) (G), mR cI (mo 2) M, mR cI (mo 3) Wa, aI cI (mo 4) 7 (ofF G F (xs ((6 * n) + 1)).toInt (xs ((6 * n) + 2)).toInt), aI cI (mo 5) 120 T, aI cI (mo 6) 4 B, aI cI (mo 7) 4 Z, aJ cJ (mo 8) 160 C]) rfl (fun _ => rfl) (fun _ => rfl) 7 0 rfl rfl rfl rfl hl.1 rfl (lv_room (Nat.le_of_ble_eq_true rfl)) dL_law_335 ⟨Nat.le_of_ble_eq_true rfl, Nat.le_of_ble_eq_true rfl⟩ (fun _ H locs _ hW => ?_)
  refine lv_icmp_eq (tgt := 1349) hx hb dL_law_338 (by decide) (fun _ => ?_) (fun hne => absurd rfl hne)
  exact kk ik L (G) T Rt Tx K (ofF G F (xs ((6 * n) + 1)).toInt (xs ((6 * n) + 2)).toInt) R M Wa B Z C _ _ _ hI.nx hW hl
set_option maxRecDepth 100000 in
set_option maxHeartbeats 4000000 in
theorem law_set {p : Program} {e : Env} {s : State} {m : MethodId} {below : List Frame} {meth : Method} {c : Code} (l : Launch) {b Ls : Nat} {xs : Nat → Int32} (C0 : lw_At p s m meth c b Ls xs) (D : va_G) (cI cJ : ClassId) (hK : va_K D vwCl [(cI, .int), (cJ, .long)] s) (x fi : Nat) (la ta ka tp sh mo aK aV : Nat → Nat) (nt : Nat) (hES : ES aK aV (fun q : Nat => s.heap.size ≤ q) s s.heap) (hEM : EM nt (fun q : Nat => s.heap.size ≤ q) s s.heap) (n : Nat) (hn : 6 * n + 6 ≤ Ls) (hLs : Ls ≤ 3072) (kk : LGo p l e s m below meth c b D cI cJ x fi la ta ka tp sh mo n) (ik L : Nat) (G T Rt Tx K F R M Wa B Z : Nat → Nat) (C : Nat → Int64) (hI : LI n ik L G K M T Rt R B Z) (H : Heap) (locs : List Loc) (ls : Array Slot) (hW : Wo D vwCl (fun q : Nat => s.heap.size ≤ q) s.heap H locs [xH x la ta ka tp sh fi ik, gW cI la G, tW cI tp T Rt, gW cI ta Tx, gW cI ka K, sW cI cJ sh B Z C, aI cI fi 7 F, mH mo R, mR cI (mo 1) G, mR cI (mo 2) M, mR cI (mo 3) Wa, aI cI (mo 4) 7 F, aI cI (mo 5) 120 T, aI cI (mo 6) 4 B, aI cI (mo 7) 4 Z, aJ cJ (mo 8) 160 C]) (hl : lv_has ls 4 [(3, .int (nI (6 * n))), (2, .ref (mo 0)), (1, .ref x), (0, .ref b)]) : W p l e room_1 s m #[Value.ref b] below meth c H locs 41 984 (lw_Z below #[Value.ref b] s) (F0 m 343 ls []) := by
  obtain ⟨hx, hb, hr, hml, hown, hts0, hX, hbl, hlocks, hgv⟩ := id C0
  have hown : s.vm.findClass RL = some m.cls := hown
  have hts : ∀ w ∈ wsL_law, w.before #[Value.ref b] s = true := fun w hw => hts0 w (wsL_law_in w hw)
  have hA : ∀ q : Nat, s.heap.size ≤ q → (fun q : Nat => s.heap.size ≤ q) q := fun _ h => h
  have hbA : ¬ (fun q : Nat => s.heap.size ≤ q) b := Nat.not_le.mpr hbl
  refine lv_aload_n hx hb dL_law_343 rfl (lv_at hl 2 rfl) ?_
  refine lv_aload_n hx hb dL_law_344 rfl (lv_at hl 3 rfl) ?_
  refine lv_iload_n hx hb dL_law_345 rfl (lv_at hl 0 rfl) ?_
  refine lv_iconst (v := nI 1) hx hb dL_law_346 (by decide +kernel) ?_
  refine nn_add hx hb dL_law_347 ?_
  refine va_sld hx hb hX hbl hbA hW.2.2 (vp_in_nI (by omega) (by omega)) dL_law_348 ?_
  refine W.top (v' := .int (xs ((6 * n) + 1))) (by rw [nI_clamp (by omega)]) ?_
  refine lv_aload_n hx hb dL_law_349 rfl (lv_at hl 3 rfl) ?_
  refine lv_iload_n hx hb dL_law_350 rfl (lv_at hl 0 rfl) ?_
  refine lv_iconst (v := nI 2) hx hb dL_law_351 (by decide +kernel) ?_
  refine nn_add hx hb dL_law_352 ?_
  refine va_sld hx hb hX hbl hbA hW.2.2 (vp_in_nI (by omega) (by omega)) dL_law_353 ?_
  refine W.top (v' := .int (xs ((6 * n) + 2))) (by rw [nI_clamp (by omega)]) ?_
  refine lv_aload_n hx hb dL_law_354 rfl (lv_at hl 3 rfl) ?_
  refine lv_iload_n hx hb dL_law_355 rfl (lv_at hl 0 rfl) ?_
  refine lv_iconst (v := nI 3) hx hb dL_law_356 (by decide +kernel) ?_
  refine nn_add hx hb dL_law_357 ?_
  refine va_sld hx hb hX hbl hbA hW.2.2 (vp_in_nI (by omega) (by omega)) dL_law_358 ?_
  refine W.top (v' := .int (xs ((6 * n) + 3))) (by rw [nI_clamp (by omega)]) ?_
  refine cl_Vi (As := [.int (xs ((6 * n) + 1)), .int (xs ((6 * n) + 2)), .int (xs ((6 * n) + 3))]) (rest := []) (C := RX4) ⟨hx, hb, hml, hown, hts⟩ (M_X4_set l D cI cJ x fi ik la ta ka tp sh G F hI.1.1 (xs ((6 * n) + 1)) (xs ((6 * n) + 2)) (xs ((6 * n) + 3))) (cwV 3 hts gL_law_X4_set rfl rfl rfl qX4_set ⟨Nat.le_of_ble_eq_true rfl, Nat.le_of_ble_eq_true rfl⟩) E0_good hK hA hW trivial [true, true, false, false, false, false, true] (fun _ => [xH x la ta ka tp sh fi ik, gW cI la (setG G (xs ((6 * n) + 1)).toInt (xs ((6 * n) + 2)).toInt (xs ((6 * n) + 3)).toInt), tW cI tp T Rt, gW cI ta Tx, gW cI ka K, sW cI cJ sh B Z C, aI cI fi 7 (setF G F (xs ((6 * n) + 1)).toInt (xs ((6 * n) + 2)).toInt (xs ((6 * n) + 3)).toInt), mH mo R, mR cI (mo 1) G, mR cI (mo 2) M, mR cI (mo 3) Wa, aI cI (mo 4) 7 F, aI cI (mo 5) 120 T, aI cI (mo 6) 4 B, aI cI (mo 7) 4 Z, aJ cJ (mo 8) 160 C]) rfl (fun _ => rfl) (fun _ => rfl) 0 0 rfl rfl rfl rfl hl.1 rfl (lv_room (Nat.le_of_ble_eq_true rfl)) dL_law_359 ⟨Nat.le_of_ble_eq_true rfl, Nat.le_of_ble_eq_true rfl⟩ (fun _ H locs _ hW => ?_)
  refine lv_aload_n hx hb dL_law_362 rfl (lv_at hl 1 rfl) ?_
  refine lv_aload_n hx hb dL_law_363 rfl (lv_at hl 3 rfl) ?_
  refine lv_iload_n hx hb dL_law_364 rfl (lv_at hl 0 rfl) ?_
  refine lv_iconst (v := nI 1) hx hb dL_law_365 (by decide +kernel) ?_
  refine nn_add hx hb dL_law_366 ?_
  refine va_sld hx hb hX hbl hbA hW.2.2 (vp_in_nI (by omega) (by omega)) dL_law_367 ?_
  refine W.top (v' := .int (xs ((6 * n) + 1))) (by rw [nI_clamp (by omega)]) ?_
  refine lv_aload_n hx hb dL_law_368 rfl (lv_at hl 3 rfl) ?_
  refine lv_iload_n hx hb dL_law_369 rfl (lv_at hl 0 rfl) ?_
  refine lv_iconst (v := nI 2) hx hb dL_law_370 (by decide +kernel) ?_
  refine nn_add hx hb dL_law_371 ?_
  refine va_sld hx hb hX hbl hbA hW.2.2 (vp_in_nI (by omega) (by omega)) dL_law_372 ?_
  refine W.top (v' := .int (xs ((6 * n) + 2))) (by rw [nI_clamp (by omega)]) ?_
  refine lv_aload_n hx hb dL_law_373 rfl (lv_at hl 3 rfl) ?_
  refine lv_iload_n hx hb dL_law_374 rfl (lv_at hl 0 rfl) ?_
  refine lv_iconst (v := nI 3) hx hb dL_law_375 (by decide +kernel) ?_
  refine nn_add hx hb dL_law_376 ?_
  refine va_sld hx hb hX hbl hbA hW.2.2 (vp_in_nI (by omega) (by omega)) dL_law_377 ?_
  refine W.top (v' := .int (xs ((6 * n) + 3))) (by rw [nI_clamp (by omega)]) ?_
  refine cl_Vi (As := [.int (xs ((6 * n) + 1)), .int (xs ((6 * n) + 2)), .int (xs ((6 * n) + 3))]) (rest := [.int (setV G (xs ((6 * n) + 1)).toInt (xs ((6 * n) + 2)).toInt (xs ((6 * n) + 3)).toInt)]) (C := RX5) ⟨hx, hb, hml, hown, hts⟩ (M_X5_set l D cI cJ mo R G F hI.1.1 (xs ((6 * n) + 1)) (xs ((6 * n) + 2)) (xs ((6 * n) + 3))) (cwV 3 hts gL_law_X5_set rfl rfl rfl qX5_set ⟨Nat.le_of_ble_eq_true rfl, Nat.le_of_ble_eq_true rfl⟩) E0_good hK hA hW trivial [false, false, false, false, false, false, false, true, true, false, false, true] (fun _ => [xH x la ta ka tp sh fi ik, gW cI la (setG G (xs ((6 * n) + 1)).toInt (xs ((6 * n) + 2)).toInt (xs ((6 * n) + 3)).toInt), tW cI tp T Rt, gW cI ta Tx, gW cI ka K, sW cI cJ sh B Z C, aI cI fi 7 (setF G F (xs ((6 * n) + 1)).toInt (xs ((6 * n) + 2)).toInt (xs ((6 * n) + 3)).toInt), mH mo R, mR cI (mo 1) (setG G (xs ((6 * n) + 1)).toInt (xs ((6 * n) + 2)).toInt (xs ((6 * n) + 3)).toInt), mR cI (mo 2) M, mR cI (mo 3) Wa, aI cI (mo 4) 7 (setF G F (xs ((6 * n) + 1)).toInt (xs ((6 * n) + 2)).toInt (xs ((6 * n) + 3)).toInt), aI cI (mo 5) 120 T, aI cI (mo 6) 4 B, aI cI (mo 7) 4 Z, aJ cJ (mo 8) 160 C]) rfl (fun _ => rfl) (fun _ => rfl) 7 0 rfl rfl rfl rfl hl.1 rfl (lv_room (Nat.le_of_ble_eq_true rfl)) dL_law_378 ⟨Nat.le_of_ble_eq_true rfl, Nat.le_of_ble_eq_true rfl⟩ (fun _ H locs _ hW => ?_)
  refine lv_icmp_eq (tgt := 1349) hx hb dL_law_381 (by decide) (fun _ => ?_) (fun hne => absurd rfl hne)
  exact kk ik L (setG G (xs ((6 * n) + 1)).toInt (xs ((6 * n) + 2)).toInt (xs ((6 * n) + 3)).toInt) T Rt Tx K (setF G F (xs ((6 * n) + 1)).toInt (xs ((6 * n) + 2)).toInt (xs ((6 * n) + 3)).toInt) R M Wa B Z C _ _ _ (hI.g (gi_set hI.1 _ _ _)) hW hl
set_option maxRecDepth 100000 in
set_option maxHeartbeats 4000000 in
theorem law_out {p : Program} {e : Env} {s : State} {m : MethodId} {below : List Frame} {meth : Method} {c : Code} (l : Launch) {b Ls : Nat} {xs : Nat → Int32} (C0 : lw_At p s m meth c b Ls xs) (D : va_G) (cI cJ : ClassId) (hK : va_K D vwCl [(cI, .int), (cJ, .long)] s) (x fi : Nat) (la ta ka tp sh mo aK aV : Nat → Nat) (nt : Nat) (hES : ES aK aV (fun q : Nat => s.heap.size ≤ q) s s.heap) (hEM : EM nt (fun q : Nat => s.heap.size ≤ q) s s.heap) (n : Nat) (hn : 6 * n + 6 ≤ Ls) (hLs : Ls ≤ 3072) (kk : LGo p l e s m below meth c b D cI cJ x fi la ta ka tp sh mo n) (ik L : Nat) (G T Rt Tx K F R M Wa B Z : Nat → Nat) (C : Nat → Int64) (hI : LI n ik L G K M T Rt R B Z) (H : Heap) (locs : List Loc) (ls : Array Slot) (hW : Wo D vwCl (fun q : Nat => s.heap.size ≤ q) s.heap H locs [xH x la ta ka tp sh fi ik, gW cI la G, tW cI tp T Rt, gW cI ta Tx, gW cI ka K, sW cI cJ sh B Z C, aI cI fi 7 F, mH mo R, mR cI (mo 1) G, mR cI (mo 2) M, mR cI (mo 3) Wa, aI cI (mo 4) 7 F, aI cI (mo 5) 120 T, aI cI (mo 6) 4 B, aI cI (mo 7) 4 Z, aJ cJ (mo 8) 160 C]) (hl : lv_has ls 4 [(3, .int (nI (6 * n))), (2, .ref (mo 0)), (1, .ref x), (0, .ref b)]) : W p l e room_1 s m #[Value.ref b] below meth c H locs 41 984 (lw_Z below #[Value.ref b] s) (F0 m 386 ls []) := by
  obtain ⟨hx, hb, hr, hml, hown, hts0, hX, hbl, hlocks, hgv⟩ := id C0
  have hown : s.vm.findClass RL = some m.cls := hown
  have hts : ∀ w ∈ wsL_law, w.before #[Value.ref b] s = true := fun w hw => hts0 w (wsL_law_in w hw)
  have hA : ∀ q : Nat, s.heap.size ≤ q → (fun q : Nat => s.heap.size ≤ q) q := fun _ h => h
  have hbA : ¬ (fun q : Nat => s.heap.size ≤ q) b := Nat.not_le.mpr hbl
  refine lv_aload_n hx hb dL_law_386 rfl (lv_at hl 2 rfl) ?_
  refine lv_aload_n hx hb dL_law_387 rfl (lv_at hl 3 rfl) ?_
  refine lv_iload_n hx hb dL_law_388 rfl (lv_at hl 0 rfl) ?_
  refine lv_iconst (v := nI 1) hx hb dL_law_389 (by decide +kernel) ?_
  refine nn_add hx hb dL_law_390 ?_
  refine va_sld hx hb hX hbl hbA hW.2.2 (vp_in_nI (by omega) (by omega)) dL_law_391 ?_
  refine W.top (v' := .int (xs ((6 * n) + 1))) (by rw [nI_clamp (by omega)]) ?_
  refine lv_aload_n hx hb dL_law_392 rfl (lv_at hl 3 rfl) ?_
  refine lv_iload_n hx hb dL_law_393 rfl (lv_at hl 0 rfl) ?_
  refine lv_iconst (v := nI 2) hx hb dL_law_394 (by decide +kernel) ?_
  refine nn_add hx hb dL_law_395 ?_
  refine va_sld hx hb hX hbl hbA hW.2.2 (vp_in_nI (by omega) (by omega)) dL_law_396 ?_
  refine W.top (v' := .int (xs ((6 * n) + 2))) (by rw [nI_clamp (by omega)]) ?_
  refine cl_Vi (As := [.int (xs ((6 * n) + 1)), .int (xs ((6 * n) + 2))]) (rest := []) (C := RX4) ⟨hx, hb, hml, hown, hts⟩ (M_X4_out l D cI cJ x fi ik la ta ka tp sh G F hI.1.1 (xs ((6 * n) + 1)) (xs ((6 * n) + 2))) (cwV 2 hts gL_law_X4_out rfl rfl rfl qX4_out ⟨Nat.le_of_ble_eq_true rfl, Nat.le_of_ble_eq_true rfl⟩) E0_good hK hA hW trivial [true, true, false, false, false, false, true] (fun _ => [xH x la ta ka tp sh fi ik, gW cI la (outG G (xs ((6 * n) + 1)).toInt (xs ((6 * n) + 2)).toInt), tW cI tp T Rt, gW cI ta Tx, gW cI ka K, sW cI cJ sh B Z C, aI cI fi 7 (outF G F (xs ((6 * n) + 1)).toInt (xs ((6 * n) + 2)).toInt), mH mo R, mR cI (mo 1) G, mR cI (mo 2) M, mR cI (mo 3) Wa, aI cI (mo 4) 7 F, aI cI (mo 5) 120 T, aI cI (mo 6) 4 B, aI cI (mo 7) 4 Z, aJ cJ (mo 8) 160 C]) rfl (fun _ => rfl) (fun _ => rfl) 0 0 rfl rfl rfl rfl hl.1 rfl (lv_room (Nat.le_of_ble_eq_true rfl)) dL_law_397 ⟨Nat.le_of_ble_eq_true rfl, Nat.le_of_ble_eq_true rfl⟩ (fun _ H locs _ hW => ?_)
  refine lv_aload_n hx hb dL_law_400 rfl (lv_at hl 1 rfl) ?_
  refine lv_aload_n hx hb dL_law_401 rfl (lv_at hl 3 rfl) ?_
  refine lv_iload_n hx hb dL_law_402 rfl (lv_at hl 0 rfl) ?_
  refine lv_iconst (v := nI 1) hx hb dL_law_403 (by decide +kernel) ?_
  refine nn_add hx hb dL_law_404 ?_
  refine va_sld hx hb hX hbl hbA hW.2.2 (vp_in_nI (by omega) (by omega)) dL_law_405 ?_
  refine W.top (v' := .int (xs ((6 * n) + 1))) (by rw [nI_clamp (by omega)]) ?_
  refine lv_aload_n hx hb dL_law_406 rfl (lv_at hl 3 rfl) ?_
  refine lv_iload_n hx hb dL_law_407 rfl (lv_at hl 0 rfl) ?_
  refine lv_iconst (v := nI 2) hx hb dL_law_408 (by decide +kernel) ?_
  refine nn_add hx hb dL_law_409 ?_
  refine va_sld hx hb hX hbl hbA hW.2.2 (vp_in_nI (by omega) (by omega)) dL_law_410 ?_
  refine W.top (v' := .int (xs ((6 * n) + 2))) (by rw [nI_clamp (by omega)]) ?_
  refine cl_Vi (As := [.int (xs ((6 * n) + 1)), .int (xs ((6 * n) + 2))]) (rest := [.int (outV G (xs ((6 * n) + 1)).toInt (xs ((6 * n) + 2)).toInt)]) (C := RX5) ⟨hx, hb, hml, hown, hts⟩ (M_X5_out l D cI cJ mo R G F hI.1.1 (xs ((6 * n) + 1)) (xs ((6 * n) + 2))) (cwV 2 hts gL_law_X5_out rfl rfl rfl qX5_out ⟨Nat.le_of_ble_eq_true rfl, Nat.le_of_ble_eq_true rfl⟩) E0_good hK hA hW trivial [false, false, false, false, false, false, false, true, true, false, false, true] (fun _ => [xH x la ta ka tp sh fi ik, gW cI la (outG G (xs ((6 * n) + 1)).toInt (xs ((6 * n) + 2)).toInt), tW cI tp T Rt, gW cI ta Tx, gW cI ka K, sW cI cJ sh B Z C, aI cI fi 7 (outF G F (xs ((6 * n) + 1)).toInt (xs ((6 * n) + 2)).toInt), mH mo R, mR cI (mo 1) (outG G (xs ((6 * n) + 1)).toInt (xs ((6 * n) + 2)).toInt), mR cI (mo 2) M, mR cI (mo 3) Wa, aI cI (mo 4) 7 (outF G F (xs ((6 * n) + 1)).toInt (xs ((6 * n) + 2)).toInt), aI cI (mo 5) 120 T, aI cI (mo 6) 4 B, aI cI (mo 7) 4 Z, aJ cJ (mo 8) 160 C]) rfl (fun _ => rfl) (fun _ => rfl) 7 0 rfl rfl rfl rfl hl.1 rfl (lv_room (Nat.le_of_ble_eq_true rfl)) dL_law_411 ⟨Nat.le_of_ble_eq_true rfl, Nat.le_of_ble_eq_true rfl⟩ (fun _ H locs _ hW => ?_)
  refine lv_icmp_eq (tgt := 1349) hx hb dL_law_414 (by decide) (fun _ => ?_) (fun hne => absurd rfl hne)
  exact kk ik L (outG G (xs ((6 * n) + 1)).toInt (xs ((6 * n) + 2)).toInt) T Rt Tx K (outF G F (xs ((6 * n) + 1)).toInt (xs ((6 * n) + 2)).toInt) R M Wa B Z C _ _ _ (hI.g (gi_out hI.1 _ _)) hW hl
set_option maxRecDepth 100000 in
set_option maxHeartbeats 4000000 in
theorem law_turn {p : Program} {e : Env} {s : State} {m : MethodId} {below : List Frame} {meth : Method} {c : Code} (l : Launch) {b Ls : Nat} {xs : Nat → Int32} (C0 : lw_At p s m meth c b Ls xs) (D : va_G) (cI cJ : ClassId) (hK : va_K D vwCl [(cI, .int), (cJ, .long)] s) (x fi : Nat) (la ta ka tp sh mo aK aV : Nat → Nat) (nt : Nat) (hES : ES aK aV (fun q : Nat => s.heap.size ≤ q) s s.heap) (hEM : EM nt (fun q : Nat => s.heap.size ≤ q) s s.heap) (n : Nat) (hn : 6 * n + 6 ≤ Ls) (hLs : Ls ≤ 3072) (kk : LGo p l e s m below meth c b D cI cJ x fi la ta ka tp sh mo n) (ik L : Nat) (G T Rt Tx K F R M Wa B Z : Nat → Nat) (C : Nat → Int64) (hI : LI n ik L G K M T Rt R B Z) (H : Heap) (locs : List Loc) (ls : Array Slot) (hW : Wo D vwCl (fun q : Nat => s.heap.size ≤ q) s.heap H locs [xH x la ta ka tp sh fi ik, gW cI la G, tW cI tp T Rt, gW cI ta Tx, gW cI ka K, sW cI cJ sh B Z C, aI cI fi 7 F, mH mo R, mR cI (mo 1) G, mR cI (mo 2) M, mR cI (mo 3) Wa, aI cI (mo 4) 7 F, aI cI (mo 5) 120 T, aI cI (mo 6) 4 B, aI cI (mo 7) 4 Z, aJ cJ (mo 8) 160 C]) (hl : lv_has ls 4 [(3, .int (nI (6 * n))), (2, .ref (mo 0)), (1, .ref x), (0, .ref b)]) : W p l e room_1 s m #[Value.ref b] below meth c H locs 41 984 (lw_Z below #[Value.ref b] s) (F0 m 419 ls []) := by
  obtain ⟨hx, hb, hr, hml, hown, hts0, hX, hbl, hlocks, hgv⟩ := id C0
  have hown : s.vm.findClass RL = some m.cls := hown
  have hts : ∀ w ∈ wsL_law, w.before #[Value.ref b] s = true := fun w hw => hts0 w (wsL_law_in w hw)
  have hA : ∀ q : Nat, s.heap.size ≤ q → (fun q : Nat => s.heap.size ≤ q) q := fun _ h => h
  have hbA : ¬ (fun q : Nat => s.heap.size ≤ q) b := Nat.not_le.mpr hbl
  refine lv_aload_n hx hb dL_law_419 rfl (lv_at hl 2 rfl) ?_
  refine lv_aload_n hx hb dL_law_420 rfl (lv_at hl 3 rfl) ?_
  refine lv_iload_n hx hb dL_law_421 rfl (lv_at hl 0 rfl) ?_
  refine lv_iconst (v := nI 1) hx hb dL_law_422 (by decide +kernel) ?_
  refine nn_add hx hb dL_law_423 ?_
  refine va_sld hx hb hX hbl hbA hW.2.2 (vp_in_nI (by omega) (by omega)) dL_law_424 ?_
  refine W.top (v' := .int (xs ((6 * n) + 1))) (by rw [nI_clamp (by omega)]) ?_
  refine lv_aload_n hx hb dL_law_425 rfl (lv_at hl 3 rfl) ?_
  refine lv_iload_n hx hb dL_law_426 rfl (lv_at hl 0 rfl) ?_
  refine lv_iconst (v := nI 2) hx hb dL_law_427 (by decide +kernel) ?_
  refine nn_add hx hb dL_law_428 ?_
  refine va_sld hx hb hX hbl hbA hW.2.2 (vp_in_nI (by omega) (by omega)) dL_law_429 ?_
  refine W.top (v' := .int (xs ((6 * n) + 2))) (by rw [nI_clamp (by omega)]) ?_
  refine cl_Vi (As := [.int (xs ((6 * n) + 1)), .int (xs ((6 * n) + 2))]) (rest := []) (C := RX4) ⟨hx, hb, hml, hown, hts⟩ (M_X4_turn l D cI cJ x fi ik la ta ka tp sh G F hI.1.1 (xs ((6 * n) + 1)) (xs ((6 * n) + 2))) (cwV 2 hts gL_law_X4_turn rfl rfl rfl qX4_turn ⟨Nat.le_of_ble_eq_true rfl, Nat.le_of_ble_eq_true rfl⟩) E0_good hK hA hW trivial [true, true, false, false, false, false, true] (fun _ => [xH x la ta ka tp sh fi ik, gW cI la (turnG G (xs ((6 * n) + 1)).toInt (xs ((6 * n) + 2)).toInt), tW cI tp T Rt, gW cI ta Tx, gW cI ka K, sW cI cJ sh B Z C, aI cI fi 7 (turnF G F (xs ((6 * n) + 1)).toInt (xs ((6 * n) + 2)).toInt), mH mo R, mR cI (mo 1) G, mR cI (mo 2) M, mR cI (mo 3) Wa, aI cI (mo 4) 7 F, aI cI (mo 5) 120 T, aI cI (mo 6) 4 B, aI cI (mo 7) 4 Z, aJ cJ (mo 8) 160 C]) rfl (fun _ => rfl) (fun _ => rfl) 0 0 rfl rfl rfl rfl hl.1 rfl (lv_room (Nat.le_of_ble_eq_true rfl)) dL_law_430 ⟨Nat.le_of_ble_eq_true rfl, Nat.le_of_ble_eq_true rfl⟩ (fun _ H locs _ hW => ?_)
  refine lv_aload_n hx hb dL_law_433 rfl (lv_at hl 1 rfl) ?_
  refine lv_aload_n hx hb dL_law_434 rfl (lv_at hl 3 rfl) ?_
  refine lv_iload_n hx hb dL_law_435 rfl (lv_at hl 0 rfl) ?_
  refine lv_iconst (v := nI 1) hx hb dL_law_436 (by decide +kernel) ?_
  refine nn_add hx hb dL_law_437 ?_
  refine va_sld hx hb hX hbl hbA hW.2.2 (vp_in_nI (by omega) (by omega)) dL_law_438 ?_
  refine W.top (v' := .int (xs ((6 * n) + 1))) (by rw [nI_clamp (by omega)]) ?_
  refine lv_aload_n hx hb dL_law_439 rfl (lv_at hl 3 rfl) ?_
  refine lv_iload_n hx hb dL_law_440 rfl (lv_at hl 0 rfl) ?_
  refine lv_iconst (v := nI 2) hx hb dL_law_441 (by decide +kernel) ?_
  refine nn_add hx hb dL_law_442 ?_
  refine va_sld hx hb hX hbl hbA hW.2.2 (vp_in_nI (by omega) (by omega)) dL_law_443 ?_
  refine W.top (v' := .int (xs ((6 * n) + 2))) (by rw [nI_clamp (by omega)]) ?_
  refine cl_Vi (As := [.int (xs ((6 * n) + 1)), .int (xs ((6 * n) + 2))]) (rest := [.int (turnV G (xs ((6 * n) + 1)).toInt (xs ((6 * n) + 2)).toInt)]) (C := RX5) ⟨hx, hb, hml, hown, hts⟩ (M_X5_turn l D cI cJ mo R G F hI.1.1 (xs ((6 * n) + 1)) (xs ((6 * n) + 2))) (cwV 2 hts gL_law_X5_turn rfl rfl rfl qX5_turn ⟨Nat.le_of_ble_eq_true rfl, Nat.le_of_ble_eq_true rfl⟩) E0_good hK hA hW trivial [false, false, false, false, false, false, false, true, true, false, false, true] (fun _ => [xH x la ta ka tp sh fi ik, gW cI la (turnG G (xs ((6 * n) + 1)).toInt (xs ((6 * n) + 2)).toInt), tW cI tp T Rt, gW cI ta Tx, gW cI ka K, sW cI cJ sh B Z C, aI cI fi 7 (turnF G F (xs ((6 * n) + 1)).toInt (xs ((6 * n) + 2)).toInt), mH mo R, mR cI (mo 1) (turnG G (xs ((6 * n) + 1)).toInt (xs ((6 * n) + 2)).toInt), mR cI (mo 2) M, mR cI (mo 3) Wa, aI cI (mo 4) 7 (turnF G F (xs ((6 * n) + 1)).toInt (xs ((6 * n) + 2)).toInt), aI cI (mo 5) 120 T, aI cI (mo 6) 4 B, aI cI (mo 7) 4 Z, aJ cJ (mo 8) 160 C]) rfl (fun _ => rfl) (fun _ => rfl) 7 0 rfl rfl rfl rfl hl.1 rfl (lv_room (Nat.le_of_ble_eq_true rfl)) dL_law_444 ⟨Nat.le_of_ble_eq_true rfl, Nat.le_of_ble_eq_true rfl⟩ (fun _ H locs _ hW => ?_)
  refine lv_icmp_eq (tgt := 1349) hx hb dL_law_447 (by decide) (fun _ => ?_) (fun hne => absurd rfl hne)
  exact kk ik L (turnG G (xs ((6 * n) + 1)).toInt (xs ((6 * n) + 2)).toInt) T Rt Tx K (turnF G F (xs ((6 * n) + 1)).toInt (xs ((6 * n) + 2)).toInt) R M Wa B Z C _ _ _ (hI.g (gi_turn hI.1 _ _)) hW hl
set_option maxRecDepth 100000 in
set_option maxHeartbeats 4000000 in
theorem law_as {p : Program} {e : Env} {s : State} {m : MethodId} {below : List Frame} {meth : Method} {c : Code} (l : Launch) {b Ls : Nat} {xs : Nat → Int32} (C0 : lw_At p s m meth c b Ls xs) (D : va_G) (cI cJ : ClassId) (hK : va_K D vwCl [(cI, .int), (cJ, .long)] s) (x fi : Nat) (la ta ka tp sh mo aK aV : Nat → Nat) (nt : Nat) (hES : ES aK aV (fun q : Nat => s.heap.size ≤ q) s s.heap) (hEM : EM nt (fun q : Nat => s.heap.size ≤ q) s s.heap) (n : Nat) (hn : 6 * n + 6 ≤ Ls) (hLs : Ls ≤ 3072) (kk : LGo p l e s m below meth c b D cI cJ x fi la ta ka tp sh mo n) (ik L : Nat) (G T Rt Tx K F R M Wa B Z : Nat → Nat) (C : Nat → Int64) (hI : LI n ik L G K M T Rt R B Z) (H : Heap) (locs : List Loc) (ls : Array Slot) (hW : Wo D vwCl (fun q : Nat => s.heap.size ≤ q) s.heap H locs [xH x la ta ka tp sh fi ik, gW cI la G, tW cI tp T Rt, gW cI ta Tx, gW cI ka K, sW cI cJ sh B Z C, aI cI fi 7 F, mH mo R, mR cI (mo 1) G, mR cI (mo 2) M, mR cI (mo 3) Wa, aI cI (mo 4) 7 F, aI cI (mo 5) 120 T, aI cI (mo 6) 4 B, aI cI (mo 7) 4 Z, aJ cJ (mo 8) 160 C]) (hl : lv_has ls 4 [(3, .int (nI (6 * n))), (2, .ref (mo 0)), (1, .ref x), (0, .ref b)]) : W p l e room_1 s m #[Value.ref b] below meth c H locs 41 984 (lw_Z below #[Value.ref b] s) (F0 m 452 ls []) := by
  obtain ⟨hx, hb, hr, hml, hown, hts0, hX, hbl, hlocks, hgv⟩ := id C0
  have hown : s.vm.findClass RL = some m.cls := hown
  have hts : ∀ w ∈ wsL_law, w.before #[Value.ref b] s = true := fun w hw => hts0 w (wsL_law_in w hw)
  have hA : ∀ q : Nat, s.heap.size ≤ q → (fun q : Nat => s.heap.size ≤ q) q := fun _ h => h
  have hbA : ¬ (fun q : Nat => s.heap.size ≤ q) b := Nat.not_le.mpr hbl
  refine lv_aload_n hx hb dL_law_452 rfl (lv_at hl 2 rfl) ?_
  refine lv_aload_n hx hb dL_law_453 rfl (lv_at hl 3 rfl) ?_
  refine lv_iload_n hx hb dL_law_454 rfl (lv_at hl 0 rfl) ?_
  refine lv_iconst (v := nI 1) hx hb dL_law_455 (by decide +kernel) ?_
  refine nn_add hx hb dL_law_456 ?_
  refine va_sld hx hb hX hbl hbA hW.2.2 (vp_in_nI (by omega) (by omega)) dL_law_457 ?_
  refine W.top (v' := .int (xs ((6 * n) + 1))) (by rw [nI_clamp (by omega)]) ?_
  refine lv_aload_n hx hb dL_law_458 rfl (lv_at hl 3 rfl) ?_
  refine lv_iload_n hx hb dL_law_459 rfl (lv_at hl 0 rfl) ?_
  refine lv_iconst (v := nI 2) hx hb dL_law_460 (by decide +kernel) ?_
  refine nn_add hx hb dL_law_461 ?_
  refine va_sld hx hb hX hbl hbA hW.2.2 (vp_in_nI (by omega) (by omega)) dL_law_462 ?_
  refine W.top (v' := .int (xs ((6 * n) + 2))) (by rw [nI_clamp (by omega)]) ?_
  refine cl_Vi (As := [.int (xs ((6 * n) + 1)), .int (xs ((6 * n) + 2))]) (rest := []) (C := RX4) ⟨hx, hb, hml, hown, hts⟩ (M_X4_as l D cI cJ x fi ik la ta ka tp sh G F hI.1.1 (xs ((6 * n) + 1)) (xs ((6 * n) + 2))) (cwV 2 hts gL_law_X4_as rfl rfl rfl qX4_as ⟨Nat.le_of_ble_eq_true rfl, Nat.le_of_ble_eq_true rfl⟩) E0_good hK hA hW trivial [true, true, false, false, false, false, true] (fun _ => [xH x la ta ka tp sh fi ik, gW cI la (G), tW cI tp T Rt, gW cI ta Tx, gW cI ka K, sW cI cJ sh B Z C, aI cI fi 7 (asF G F (xs ((6 * n) + 1)).toInt (xs ((6 * n) + 2)).toInt), mH mo R, mR cI (mo 1) G, mR cI (mo 2) M, mR cI (mo 3) Wa, aI cI (mo 4) 7 F, aI cI (mo 5) 120 T, aI cI (mo 6) 4 B, aI cI (mo 7) 4 Z, aJ cJ (mo 8) 160 C]) rfl (fun _ => rfl) (fun _ => rfl) 0 0 rfl rfl rfl rfl hl.1 rfl (lv_room (Nat.le_of_ble_eq_true rfl)) dL_law_463 ⟨Nat.le_of_ble_eq_true rfl, Nat.le_of_ble_eq_true rfl⟩ (fun _ H locs _ hW => ?_)
  refine lv_aload_n hx hb dL_law_466 rfl (lv_at hl 1 rfl) ?_
  refine lv_aload_n hx hb dL_law_467 rfl (lv_at hl 3 rfl) ?_
  refine lv_iload_n hx hb dL_law_468 rfl (lv_at hl 0 rfl) ?_
  refine lv_iconst (v := nI 1) hx hb dL_law_469 (by decide +kernel) ?_
  refine nn_add hx hb dL_law_470 ?_
  refine va_sld hx hb hX hbl hbA hW.2.2 (vp_in_nI (by omega) (by omega)) dL_law_471 ?_
  refine W.top (v' := .int (xs ((6 * n) + 1))) (by rw [nI_clamp (by omega)]) ?_
  refine lv_aload_n hx hb dL_law_472 rfl (lv_at hl 3 rfl) ?_
  refine lv_iload_n hx hb dL_law_473 rfl (lv_at hl 0 rfl) ?_
  refine lv_iconst (v := nI 2) hx hb dL_law_474 (by decide +kernel) ?_
  refine nn_add hx hb dL_law_475 ?_
  refine va_sld hx hb hX hbl hbA hW.2.2 (vp_in_nI (by omega) (by omega)) dL_law_476 ?_
  refine W.top (v' := .int (xs ((6 * n) + 2))) (by rw [nI_clamp (by omega)]) ?_
  refine cl_Vi (As := [.int (xs ((6 * n) + 1)), .int (xs ((6 * n) + 2))]) (rest := [.int (asV G (xs ((6 * n) + 1)).toInt (xs ((6 * n) + 2)).toInt)]) (C := RX5) ⟨hx, hb, hml, hown, hts⟩ (M_X5_as l D cI cJ mo R G F hI.1.1 (xs ((6 * n) + 1)) (xs ((6 * n) + 2))) (cwV 2 hts gL_law_X5_as rfl rfl rfl qX5_as ⟨Nat.le_of_ble_eq_true rfl, Nat.le_of_ble_eq_true rfl⟩) E0_good hK hA hW trivial [false, false, false, false, false, false, false, true, true, false, false, true] (fun _ => [xH x la ta ka tp sh fi ik, gW cI la (G), tW cI tp T Rt, gW cI ta Tx, gW cI ka K, sW cI cJ sh B Z C, aI cI fi 7 (asF G F (xs ((6 * n) + 1)).toInt (xs ((6 * n) + 2)).toInt), mH mo R, mR cI (mo 1) (G), mR cI (mo 2) M, mR cI (mo 3) Wa, aI cI (mo 4) 7 (asF G F (xs ((6 * n) + 1)).toInt (xs ((6 * n) + 2)).toInt), aI cI (mo 5) 120 T, aI cI (mo 6) 4 B, aI cI (mo 7) 4 Z, aJ cJ (mo 8) 160 C]) rfl (fun _ => rfl) (fun _ => rfl) 7 0 rfl rfl rfl rfl hl.1 rfl (lv_room (Nat.le_of_ble_eq_true rfl)) dL_law_477 ⟨Nat.le_of_ble_eq_true rfl, Nat.le_of_ble_eq_true rfl⟩ (fun _ H locs _ hW => ?_)
  refine lv_icmp_eq (tgt := 1349) hx hb dL_law_480 (by decide) (fun _ => ?_) (fun hne => absurd rfl hne)
  exact kk ik L (G) T Rt Tx K (asF G F (xs ((6 * n) + 1)).toInt (xs ((6 * n) + 2)).toInt) R M Wa B Z C _ _ _ hI.nx hW hl
set_option maxRecDepth 100000 in
set_option maxHeartbeats 4000000 in
theorem law_child {p : Program} {e : Env} {s : State} {m : MethodId} {below : List Frame} {meth : Method} {c : Code} (l : Launch) {b Ls : Nat} {xs : Nat → Int32} (C0 : lw_At p s m meth c b Ls xs) (D : va_G) (cI cJ : ClassId) (hK : va_K D vwCl [(cI, .int), (cJ, .long)] s) (x fi : Nat) (la ta ka tp sh mo aK aV : Nat → Nat) (nt : Nat) (hES : ES aK aV (fun q : Nat => s.heap.size ≤ q) s s.heap) (hEM : EM nt (fun q : Nat => s.heap.size ≤ q) s s.heap) (n : Nat) (hn : 6 * n + 6 ≤ Ls) (hLs : Ls ≤ 3072) (kk : LGo p l e s m below meth c b D cI cJ x fi la ta ka tp sh mo n) (ik L : Nat) (G T Rt Tx K F R M Wa B Z : Nat → Nat) (C : Nat → Int64) (hI : LI n ik L G K M T Rt R B Z) (H : Heap) (locs : List Loc) (ls : Array Slot) (hW : Wo D vwCl (fun q : Nat => s.heap.size ≤ q) s.heap H locs [xH x la ta ka tp sh fi ik, gW cI la G, tW cI tp T Rt, gW cI ta Tx, gW cI ka K, sW cI cJ sh B Z C, aI cI fi 7 F, mH mo R, mR cI (mo 1) G, mR cI (mo 2) M, mR cI (mo 3) Wa, aI cI (mo 4) 7 F, aI cI (mo 5) 120 T, aI cI (mo 6) 4 B, aI cI (mo 7) 4 Z, aJ cJ (mo 8) 160 C]) (hl : lv_has ls 4 [(3, .int (nI (6 * n))), (2, .ref (mo 0)), (1, .ref x), (0, .ref b)]) : W p l e room_1 s m #[Value.ref b] below meth c H locs 41 984 (lw_Z below #[Value.ref b] s) (F0 m 485 ls []) := by
  obtain ⟨hx, hb, hr, hml, hown, hts0, hX, hbl, hlocks, hgv⟩ := id C0
  have hown : s.vm.findClass RL = some m.cls := hown
  have hts : ∀ w ∈ wsL_law, w.before #[Value.ref b] s = true := fun w hw => hts0 w (wsL_law_in w hw)
  have hA : ∀ q : Nat, s.heap.size ≤ q → (fun q : Nat => s.heap.size ≤ q) q := fun _ h => h
  have hbA : ¬ (fun q : Nat => s.heap.size ≤ q) b := Nat.not_le.mpr hbl
  refine lv_aload_n hx hb dL_law_485 rfl (lv_at hl 2 rfl) ?_
  refine lv_aload_n hx hb dL_law_486 rfl (lv_at hl 3 rfl) ?_
  refine lv_iload_n hx hb dL_law_487 rfl (lv_at hl 0 rfl) ?_
  refine lv_iconst (v := nI 1) hx hb dL_law_488 (by decide +kernel) ?_
  refine nn_add hx hb dL_law_489 ?_
  refine va_sld hx hb hX hbl hbA hW.2.2 (vp_in_nI (by omega) (by omega)) dL_law_490 ?_
  refine W.top (v' := .int (xs ((6 * n) + 1))) (by rw [nI_clamp (by omega)]) ?_
  refine cl_Vi (As := [.int (xs ((6 * n) + 1))]) (rest := []) (C := RX4) ⟨hx, hb, hml, hown, hts⟩ (M_X4_child l D cI cJ x fi ik la ta ka tp sh G F hI.1.1 (xs ((6 * n) + 1))) (cwV 1 hts gL_law_X4_child rfl rfl rfl qX4_child ⟨Nat.le_of_ble_eq_true rfl, Nat.le_of_ble_eq_true rfl⟩) E0_good hK hA hW trivial [true, true, false, false, false, false, true] (fun _ => [xH x la ta ka tp sh fi ik, gW cI la (childG G (xs ((6 * n) + 1)).toInt), tW cI tp T Rt, gW cI ta Tx, gW cI ka K, sW cI cJ sh B Z C, aI cI fi 7 (childF G F (xs ((6 * n) + 1)).toInt), mH mo R, mR cI (mo 1) G, mR cI (mo 2) M, mR cI (mo 3) Wa, aI cI (mo 4) 7 F, aI cI (mo 5) 120 T, aI cI (mo 6) 4 B, aI cI (mo 7) 4 Z, aJ cJ (mo 8) 160 C]) rfl (fun _ => rfl) (fun _ => rfl) 0 0 rfl rfl rfl rfl hl.1 rfl (lv_room (Nat.le_of_ble_eq_true rfl)) dL_law_491 ⟨Nat.le_of_ble_eq_true rfl, Nat.le_of_ble_eq_true rfl⟩ (fun _ H locs _ hW => ?_)
  refine lv_aload_n hx hb dL_law_494 rfl (lv_at hl 1 rfl) ?_
  refine lv_aload_n hx hb dL_law_495 rfl (lv_at hl 3 rfl) ?_
  refine lv_iload_n hx hb dL_law_496 rfl (lv_at hl 0 rfl) ?_
  refine lv_iconst (v := nI 1) hx hb dL_law_497 (by decide +kernel) ?_
  refine nn_add hx hb dL_law_498 ?_
  refine va_sld hx hb hX hbl hbA hW.2.2 (vp_in_nI (by omega) (by omega)) dL_law_499 ?_
  refine W.top (v' := .int (xs ((6 * n) + 1))) (by rw [nI_clamp (by omega)]) ?_
  refine cl_Vi (As := [.int (xs ((6 * n) + 1))]) (rest := [.int (childV G (xs ((6 * n) + 1)).toInt)]) (C := RX5) ⟨hx, hb, hml, hown, hts⟩ (M_X5_child l D cI cJ mo R G F hI.1.1 (xs ((6 * n) + 1))) (cwV 1 hts gL_law_X5_child rfl rfl rfl qX5_child ⟨Nat.le_of_ble_eq_true rfl, Nat.le_of_ble_eq_true rfl⟩) E0_good hK hA hW trivial [false, false, false, false, false, false, false, true, true, false, false, true] (fun _ => [xH x la ta ka tp sh fi ik, gW cI la (childG G (xs ((6 * n) + 1)).toInt), tW cI tp T Rt, gW cI ta Tx, gW cI ka K, sW cI cJ sh B Z C, aI cI fi 7 (childF G F (xs ((6 * n) + 1)).toInt), mH mo R, mR cI (mo 1) (childG G (xs ((6 * n) + 1)).toInt), mR cI (mo 2) M, mR cI (mo 3) Wa, aI cI (mo 4) 7 (childF G F (xs ((6 * n) + 1)).toInt), aI cI (mo 5) 120 T, aI cI (mo 6) 4 B, aI cI (mo 7) 4 Z, aJ cJ (mo 8) 160 C]) rfl (fun _ => rfl) (fun _ => rfl) 7 0 rfl rfl rfl rfl hl.1 rfl (lv_room (Nat.le_of_ble_eq_true rfl)) dL_law_500 ⟨Nat.le_of_ble_eq_true rfl, Nat.le_of_ble_eq_true rfl⟩ (fun _ H locs _ hW => ?_)
  refine lv_icmp_eq (tgt := 1349) hx hb dL_law_503 (by decide) (fun _ => ?_) (fun hne => absurd rfl hne)
  exact kk ik L (childG G (xs ((6 * n) + 1)).toInt) T Rt Tx K (childF G F (xs ((6 * n) + 1)).toInt) R M Wa B Z C _ _ _ (hI.g (gi_child hI.1 _)) hW hl
set_option maxRecDepth 100000 in
set_option maxHeartbeats 4000000 in
theorem law_childOf {p : Program} {e : Env} {s : State} {m : MethodId} {below : List Frame} {meth : Method} {c : Code} (l : Launch) {b Ls : Nat} {xs : Nat → Int32} (C0 : lw_At p s m meth c b Ls xs) (D : va_G) (cI cJ : ClassId) (hK : va_K D vwCl [(cI, .int), (cJ, .long)] s) (x fi : Nat) (la ta ka tp sh mo aK aV : Nat → Nat) (nt : Nat) (hES : ES aK aV (fun q : Nat => s.heap.size ≤ q) s s.heap) (hEM : EM nt (fun q : Nat => s.heap.size ≤ q) s s.heap) (n : Nat) (hn : 6 * n + 6 ≤ Ls) (hLs : Ls ≤ 3072) (kk : LGo p l e s m below meth c b D cI cJ x fi la ta ka tp sh mo n) (ik L : Nat) (G T Rt Tx K F R M Wa B Z : Nat → Nat) (C : Nat → Int64) (hI : LI n ik L G K M T Rt R B Z) (H : Heap) (locs : List Loc) (ls : Array Slot) (hW : Wo D vwCl (fun q : Nat => s.heap.size ≤ q) s.heap H locs [xH x la ta ka tp sh fi ik, gW cI la G, tW cI tp T Rt, gW cI ta Tx, gW cI ka K, sW cI cJ sh B Z C, aI cI fi 7 F, mH mo R, mR cI (mo 1) G, mR cI (mo 2) M, mR cI (mo 3) Wa, aI cI (mo 4) 7 F, aI cI (mo 5) 120 T, aI cI (mo 6) 4 B, aI cI (mo 7) 4 Z, aJ cJ (mo 8) 160 C]) (hl : lv_has ls 4 [(3, .int (nI (6 * n))), (2, .ref (mo 0)), (1, .ref x), (0, .ref b)]) : W p l e room_1 s m #[Value.ref b] below meth c H locs 41 984 (lw_Z below #[Value.ref b] s) (F0 m 508 ls []) := by
  obtain ⟨hx, hb, hr, hml, hown, hts0, hX, hbl, hlocks, hgv⟩ := id C0
  have hown : s.vm.findClass RL = some m.cls := hown
  have hts : ∀ w ∈ wsL_law, w.before #[Value.ref b] s = true := fun w hw => hts0 w (wsL_law_in w hw)
  have hA : ∀ q : Nat, s.heap.size ≤ q → (fun q : Nat => s.heap.size ≤ q) q := fun _ h => h
  have hbA : ¬ (fun q : Nat => s.heap.size ≤ q) b := Nat.not_le.mpr hbl
  refine lv_aload_n hx hb dL_law_508 rfl (lv_at hl 2 rfl) ?_
  refine lv_aload_n hx hb dL_law_509 rfl (lv_at hl 3 rfl) ?_
  refine lv_iload_n hx hb dL_law_510 rfl (lv_at hl 0 rfl) ?_
  refine lv_iconst (v := nI 1) hx hb dL_law_511 (by decide +kernel) ?_
  refine nn_add hx hb dL_law_512 ?_
  refine va_sld hx hb hX hbl hbA hW.2.2 (vp_in_nI (by omega) (by omega)) dL_law_513 ?_
  refine W.top (v' := .int (xs ((6 * n) + 1))) (by rw [nI_clamp (by omega)]) ?_
  refine lv_aload_n hx hb dL_law_514 rfl (lv_at hl 3 rfl) ?_
  refine lv_iload_n hx hb dL_law_515 rfl (lv_at hl 0 rfl) ?_
  refine lv_iconst (v := nI 2) hx hb dL_law_516 (by decide +kernel) ?_
  refine nn_add hx hb dL_law_517 ?_
  refine va_sld hx hb hX hbl hbA hW.2.2 (vp_in_nI (by omega) (by omega)) dL_law_518 ?_
  refine W.top (v' := .int (xs ((6 * n) + 2))) (by rw [nI_clamp (by omega)]) ?_
  refine cl_Vi (As := [.int (xs ((6 * n) + 1)), .int (xs ((6 * n) + 2))]) (rest := []) (C := RX4) ⟨hx, hb, hml, hown, hts⟩ (M_X4_childOf l D cI cJ x fi ik la ta ka tp sh G F hI.1.1 (xs ((6 * n) + 1)) (xs ((6 * n) + 2))) (cwV 2 hts gL_law_X4_childOf rfl rfl rfl qX4_childOf ⟨Nat.le_of_ble_eq_true rfl, Nat.le_of_ble_eq_true rfl⟩) E0_good hK hA hW trivial [true, true, false, false, false, false, true] (fun _ => [xH x la ta ka tp sh fi ik, gW cI la (G), tW cI tp T Rt, gW cI ta Tx, gW cI ka K, sW cI cJ sh B Z C, aI cI fi 7 (childOfF G F (xs ((6 * n) + 1)).toInt (xs ((6 * n) + 2)).toInt), mH mo R, mR cI (mo 1) G, mR cI (mo 2) M, mR cI (mo 3) Wa, aI cI (mo 4) 7 F, aI cI (mo 5) 120 T, aI cI (mo 6) 4 B, aI cI (mo 7) 4 Z, aJ cJ (mo 8) 160 C]) rfl (fun _ => rfl) (fun _ => rfl) 0 0 rfl rfl rfl rfl hl.1 rfl (lv_room (Nat.le_of_ble_eq_true rfl)) dL_law_519 ⟨Nat.le_of_ble_eq_true rfl, Nat.le_of_ble_eq_true rfl⟩ (fun _ H locs _ hW => ?_)
  refine lv_aload_n hx hb dL_law_522 rfl (lv_at hl 1 rfl) ?_
  refine lv_aload_n hx hb dL_law_523 rfl (lv_at hl 3 rfl) ?_
  refine lv_iload_n hx hb dL_law_524 rfl (lv_at hl 0 rfl) ?_
  refine lv_iconst (v := nI 1) hx hb dL_law_525 (by decide +kernel) ?_
  refine nn_add hx hb dL_law_526 ?_
  refine va_sld hx hb hX hbl hbA hW.2.2 (vp_in_nI (by omega) (by omega)) dL_law_527 ?_
  refine W.top (v' := .int (xs ((6 * n) + 1))) (by rw [nI_clamp (by omega)]) ?_
  refine lv_aload_n hx hb dL_law_528 rfl (lv_at hl 3 rfl) ?_
  refine lv_iload_n hx hb dL_law_529 rfl (lv_at hl 0 rfl) ?_
  refine lv_iconst (v := nI 2) hx hb dL_law_530 (by decide +kernel) ?_
  refine nn_add hx hb dL_law_531 ?_
  refine va_sld hx hb hX hbl hbA hW.2.2 (vp_in_nI (by omega) (by omega)) dL_law_532 ?_
  refine W.top (v' := .int (xs ((6 * n) + 2))) (by rw [nI_clamp (by omega)]) ?_
  refine cl_Vi (As := [.int (xs ((6 * n) + 1)), .int (xs ((6 * n) + 2))]) (rest := [.int (childOfV G (xs ((6 * n) + 1)).toInt (xs ((6 * n) + 2)).toInt)]) (C := RX5) ⟨hx, hb, hml, hown, hts⟩ (M_X5_childOf l D cI cJ mo R G F hI.1.1 (xs ((6 * n) + 1)) (xs ((6 * n) + 2))) (cwV 2 hts gL_law_X5_childOf rfl rfl rfl qX5_childOf ⟨Nat.le_of_ble_eq_true rfl, Nat.le_of_ble_eq_true rfl⟩) E0_good hK hA hW trivial [false, false, false, false, false, false, false, true, true, false, false, true] (fun _ => [xH x la ta ka tp sh fi ik, gW cI la (G), tW cI tp T Rt, gW cI ta Tx, gW cI ka K, sW cI cJ sh B Z C, aI cI fi 7 (childOfF G F (xs ((6 * n) + 1)).toInt (xs ((6 * n) + 2)).toInt), mH mo R, mR cI (mo 1) (G), mR cI (mo 2) M, mR cI (mo 3) Wa, aI cI (mo 4) 7 (childOfF G F (xs ((6 * n) + 1)).toInt (xs ((6 * n) + 2)).toInt), aI cI (mo 5) 120 T, aI cI (mo 6) 4 B, aI cI (mo 7) 4 Z, aJ cJ (mo 8) 160 C]) rfl (fun _ => rfl) (fun _ => rfl) 7 0 rfl rfl rfl rfl hl.1 rfl (lv_room (Nat.le_of_ble_eq_true rfl)) dL_law_533 ⟨Nat.le_of_ble_eq_true rfl, Nat.le_of_ble_eq_true rfl⟩ (fun _ H locs _ hW => ?_)
  refine lv_icmp_eq (tgt := 1349) hx hb dL_law_536 (by decide) (fun _ => ?_) (fun hne => absurd rfl hne)
  exact kk ik L (G) T Rt Tx K (childOfF G F (xs ((6 * n) + 1)).toInt (xs ((6 * n) + 2)).toInt) R M Wa B Z C _ _ _ hI.nx hW hl
set_option maxRecDepth 100000 in
set_option maxHeartbeats 4000000 in
theorem law_grip {p : Program} {e : Env} {s : State} {m : MethodId} {below : List Frame} {meth : Method} {c : Code} (l : Launch) {b Ls : Nat} {xs : Nat → Int32} (C0 : lw_At p s m meth c b Ls xs) (D : va_G) (cI cJ : ClassId) (hK : va_K D vwCl [(cI, .int), (cJ, .long)] s) (x fi : Nat) (la ta ka tp sh mo aK aV : Nat → Nat) (nt : Nat) (hES : ES aK aV (fun q : Nat => s.heap.size ≤ q) s s.heap) (hEM : EM nt (fun q : Nat => s.heap.size ≤ q) s s.heap) (n : Nat) (hn : 6 * n + 6 ≤ Ls) (hLs : Ls ≤ 3072) (kk : LGo p l e s m below meth c b D cI cJ x fi la ta ka tp sh mo n) (ik L : Nat) (G T Rt Tx K F R M Wa B Z : Nat → Nat) (C : Nat → Int64) (hI : LI n ik L G K M T Rt R B Z) (H : Heap) (locs : List Loc) (ls : Array Slot) (hW : Wo D vwCl (fun q : Nat => s.heap.size ≤ q) s.heap H locs [xH x la ta ka tp sh fi ik, gW cI la G, tW cI tp T Rt, gW cI ta Tx, gW cI ka K, sW cI cJ sh B Z C, aI cI fi 7 F, mH mo R, mR cI (mo 1) G, mR cI (mo 2) M, mR cI (mo 3) Wa, aI cI (mo 4) 7 F, aI cI (mo 5) 120 T, aI cI (mo 6) 4 B, aI cI (mo 7) 4 Z, aJ cJ (mo 8) 160 C]) (hl : lv_has ls 4 [(3, .int (nI (6 * n))), (2, .ref (mo 0)), (1, .ref x), (0, .ref b)]) : W p l e room_1 s m #[Value.ref b] below meth c H locs 41 984 (lw_Z below #[Value.ref b] s) (F0 m 541 ls []) := by
  obtain ⟨hx, hb, hr, hml, hown, hts0, hX, hbl, hlocks, hgv⟩ := id C0
  have hown : s.vm.findClass RL = some m.cls := hown
  have hts : ∀ w ∈ wsL_law, w.before #[Value.ref b] s = true := fun w hw => hts0 w (wsL_law_in w hw)
  have hA : ∀ q : Nat, s.heap.size ≤ q → (fun q : Nat => s.heap.size ≤ q) q := fun _ h => h
  have hbA : ¬ (fun q : Nat => s.heap.size ≤ q) b := Nat.not_le.mpr hbl
  refine lv_aload_n hx hb dL_law_541 rfl (lv_at hl 2 rfl) ?_
  refine lv_aload_n hx hb dL_law_542 rfl (lv_at hl 3 rfl) ?_
  refine lv_iload_n hx hb dL_law_543 rfl (lv_at hl 0 rfl) ?_
  refine lv_iconst (v := nI 1) hx hb dL_law_544 (by decide +kernel) ?_
  refine nn_add hx hb dL_law_545 ?_
  refine va_sld hx hb hX hbl hbA hW.2.2 (vp_in_nI (by omega) (by omega)) dL_law_546 ?_
  refine W.top (v' := .int (xs ((6 * n) + 1))) (by rw [nI_clamp (by omega)]) ?_
  refine lv_aload_n hx hb dL_law_547 rfl (lv_at hl 3 rfl) ?_
  refine lv_iload_n hx hb dL_law_548 rfl (lv_at hl 0 rfl) ?_
  refine lv_iconst (v := nI 2) hx hb dL_law_549 (by decide +kernel) ?_
  refine nn_add hx hb dL_law_550 ?_
  refine va_sld hx hb hX hbl hbA hW.2.2 (vp_in_nI (by omega) (by omega)) dL_law_551 ?_
  refine W.top (v' := .int (xs ((6 * n) + 2))) (by rw [nI_clamp (by omega)]) ?_
  refine cl_Vi (As := [.int (xs ((6 * n) + 1)), .int (xs ((6 * n) + 2))]) (rest := []) (C := RX4) ⟨hx, hb, hml, hown, hts⟩ (M_X4_grip l D cI cJ x fi ik la ta ka tp sh G F hI.1.1 (xs ((6 * n) + 1)) (xs ((6 * n) + 2))) (cwV 2 hts gL_law_X4_grip rfl rfl rfl qX4_grip ⟨Nat.le_of_ble_eq_true rfl, Nat.le_of_ble_eq_true rfl⟩) E0_good hK hA hW trivial [true, true, false, false, false, false, true] (fun _ => [xH x la ta ka tp sh fi ik, gW cI la (gripG G (xs ((6 * n) + 1)).toInt (xs ((6 * n) + 2)).toInt), tW cI tp T Rt, gW cI ta Tx, gW cI ka K, sW cI cJ sh B Z C, aI cI fi 7 (gripF G F (xs ((6 * n) + 1)).toInt (xs ((6 * n) + 2)).toInt), mH mo R, mR cI (mo 1) G, mR cI (mo 2) M, mR cI (mo 3) Wa, aI cI (mo 4) 7 F, aI cI (mo 5) 120 T, aI cI (mo 6) 4 B, aI cI (mo 7) 4 Z, aJ cJ (mo 8) 160 C]) rfl (fun _ => rfl) (fun _ => rfl) 0 0 rfl rfl rfl rfl hl.1 rfl (lv_room (Nat.le_of_ble_eq_true rfl)) dL_law_552 ⟨Nat.le_of_ble_eq_true rfl, Nat.le_of_ble_eq_true rfl⟩ (fun _ H locs _ hW => ?_)
  refine lv_aload_n hx hb dL_law_555 rfl (lv_at hl 1 rfl) ?_
  refine lv_aload_n hx hb dL_law_556 rfl (lv_at hl 3 rfl) ?_
  refine lv_iload_n hx hb dL_law_557 rfl (lv_at hl 0 rfl) ?_
  refine lv_iconst (v := nI 1) hx hb dL_law_558 (by decide +kernel) ?_
  refine nn_add hx hb dL_law_559 ?_
  refine va_sld hx hb hX hbl hbA hW.2.2 (vp_in_nI (by omega) (by omega)) dL_law_560 ?_
  refine W.top (v' := .int (xs ((6 * n) + 1))) (by rw [nI_clamp (by omega)]) ?_
  refine lv_aload_n hx hb dL_law_561 rfl (lv_at hl 3 rfl) ?_
  refine lv_iload_n hx hb dL_law_562 rfl (lv_at hl 0 rfl) ?_
  refine lv_iconst (v := nI 2) hx hb dL_law_563 (by decide +kernel) ?_
  refine nn_add hx hb dL_law_564 ?_
  refine va_sld hx hb hX hbl hbA hW.2.2 (vp_in_nI (by omega) (by omega)) dL_law_565 ?_
  refine W.top (v' := .int (xs ((6 * n) + 2))) (by rw [nI_clamp (by omega)]) ?_
  refine cl_Vi (As := [.int (xs ((6 * n) + 1)), .int (xs ((6 * n) + 2))]) (rest := [.int (gripV G (xs ((6 * n) + 1)).toInt (xs ((6 * n) + 2)).toInt)]) (C := RX5) ⟨hx, hb, hml, hown, hts⟩ (M_X5_grip l D cI cJ mo R G F hI.1.1 (xs ((6 * n) + 1)) (xs ((6 * n) + 2))) (cwV 2 hts gL_law_X5_grip rfl rfl rfl qX5_grip ⟨Nat.le_of_ble_eq_true rfl, Nat.le_of_ble_eq_true rfl⟩) E0_good hK hA hW trivial [false, false, false, false, false, false, false, true, true, false, false, true] (fun _ => [xH x la ta ka tp sh fi ik, gW cI la (gripG G (xs ((6 * n) + 1)).toInt (xs ((6 * n) + 2)).toInt), tW cI tp T Rt, gW cI ta Tx, gW cI ka K, sW cI cJ sh B Z C, aI cI fi 7 (gripF G F (xs ((6 * n) + 1)).toInt (xs ((6 * n) + 2)).toInt), mH mo R, mR cI (mo 1) (gripG G (xs ((6 * n) + 1)).toInt (xs ((6 * n) + 2)).toInt), mR cI (mo 2) M, mR cI (mo 3) Wa, aI cI (mo 4) 7 (gripF G F (xs ((6 * n) + 1)).toInt (xs ((6 * n) + 2)).toInt), aI cI (mo 5) 120 T, aI cI (mo 6) 4 B, aI cI (mo 7) 4 Z, aJ cJ (mo 8) 160 C]) rfl (fun _ => rfl) (fun _ => rfl) 7 0 rfl rfl rfl rfl hl.1 rfl (lv_room (Nat.le_of_ble_eq_true rfl)) dL_law_566 ⟨Nat.le_of_ble_eq_true rfl, Nat.le_of_ble_eq_true rfl⟩ (fun _ H locs _ hW => ?_)
  refine lv_icmp_eq (tgt := 1349) hx hb dL_law_569 (by decide) (fun _ => ?_) (fun hne => absurd rfl hne)
  exact kk ik L (gripG G (xs ((6 * n) + 1)).toInt (xs ((6 * n) + 2)).toInt) T Rt Tx K (gripF G F (xs ((6 * n) + 1)).toInt (xs ((6 * n) + 2)).toInt) R M Wa B Z C _ _ _ (hI.g (gi_grip hI.1 _ _)) hW hl
set_option maxRecDepth 100000 in
set_option maxHeartbeats 4000000 in
theorem law_ride {p : Program} {e : Env} {s : State} {m : MethodId} {below : List Frame} {meth : Method} {c : Code} (l : Launch) {b Ls : Nat} {xs : Nat → Int32} (C0 : lw_At p s m meth c b Ls xs) (D : va_G) (cI cJ : ClassId) (hK : va_K D vwCl [(cI, .int), (cJ, .long)] s) (x fi : Nat) (la ta ka tp sh mo aK aV : Nat → Nat) (nt : Nat) (hES : ES aK aV (fun q : Nat => s.heap.size ≤ q) s s.heap) (hEM : EM nt (fun q : Nat => s.heap.size ≤ q) s s.heap) (n : Nat) (hn : 6 * n + 6 ≤ Ls) (hLs : Ls ≤ 3072) (kk : LGo p l e s m below meth c b D cI cJ x fi la ta ka tp sh mo n) (ik L : Nat) (G T Rt Tx K F R M Wa B Z : Nat → Nat) (C : Nat → Int64) (hI : LI n ik L G K M T Rt R B Z) (H : Heap) (locs : List Loc) (ls : Array Slot) (hW : Wo D vwCl (fun q : Nat => s.heap.size ≤ q) s.heap H locs [xH x la ta ka tp sh fi ik, gW cI la G, tW cI tp T Rt, gW cI ta Tx, gW cI ka K, sW cI cJ sh B Z C, aI cI fi 7 F, mH mo R, mR cI (mo 1) G, mR cI (mo 2) M, mR cI (mo 3) Wa, aI cI (mo 4) 7 F, aI cI (mo 5) 120 T, aI cI (mo 6) 4 B, aI cI (mo 7) 4 Z, aJ cJ (mo 8) 160 C]) (hl : lv_has ls 4 [(3, .int (nI (6 * n))), (2, .ref (mo 0)), (1, .ref x), (0, .ref b)]) : W p l e room_1 s m #[Value.ref b] below meth c H locs 41 984 (lw_Z below #[Value.ref b] s) (F0 m 574 ls []) := by
  obtain ⟨hx, hb, hr, hml, hown, hts0, hX, hbl, hlocks, hgv⟩ := id C0
  have hown : s.vm.findClass RL = some m.cls := hown
  have hts : ∀ w ∈ wsL_law, w.before #[Value.ref b] s = true := fun w hw => hts0 w (wsL_law_in w hw)
  have hA : ∀ q : Nat, s.heap.size ≤ q → (fun q : Nat => s.heap.size ≤ q) q := fun _ h => h
  have hbA : ¬ (fun q : Nat => s.heap.size ≤ q) b := Nat.not_le.mpr hbl
  refine lv_aload_n hx hb dL_law_574 rfl (lv_at hl 2 rfl) ?_
  refine lv_aload_n hx hb dL_law_575 rfl (lv_at hl 3 rfl) ?_
  refine lv_iload_n hx hb dL_law_576 rfl (lv_at hl 0 rfl) ?_
  refine lv_iconst (v := nI 1) hx hb dL_law_577 (by decide +kernel) ?_
  refine nn_add hx hb dL_law_578 ?_
  refine va_sld hx hb hX hbl hbA hW.2.2 (vp_in_nI (by omega) (by omega)) dL_law_579 ?_
  refine W.top (v' := .int (xs ((6 * n) + 1))) (by rw [nI_clamp (by omega)]) ?_
  refine lv_aload_n hx hb dL_law_580 rfl (lv_at hl 3 rfl) ?_
  refine lv_iload_n hx hb dL_law_581 rfl (lv_at hl 0 rfl) ?_
  refine lv_iconst (v := nI 2) hx hb dL_law_582 (by decide +kernel) ?_
  refine nn_add hx hb dL_law_583 ?_
  refine va_sld hx hb hX hbl hbA hW.2.2 (vp_in_nI (by omega) (by omega)) dL_law_584 ?_
  refine W.top (v' := .int (xs ((6 * n) + 2))) (by rw [nI_clamp (by omega)]) ?_
  refine cl_Vi (As := [.int (xs ((6 * n) + 1)), .int (xs ((6 * n) + 2))]) (rest := []) (C := RX4) ⟨hx, hb, hml, hown, hts⟩ (M_X4_ride l D cI cJ x fi ik la ta ka tp sh G F hI.1.1 (xs ((6 * n) + 1)) (xs ((6 * n) + 2))) (cwV 2 hts gL_law_X4_ride rfl rfl rfl qX4_ride ⟨Nat.le_of_ble_eq_true rfl, Nat.le_of_ble_eq_true rfl⟩) E0_good hK hA hW trivial [true, true, false, false, false, false, true] (fun _ => [xH x la ta ka tp sh fi ik, gW cI la (rideG G (xs ((6 * n) + 1)).toInt (xs ((6 * n) + 2)).toInt), tW cI tp T Rt, gW cI ta Tx, gW cI ka K, sW cI cJ sh B Z C, aI cI fi 7 (rideF G F (xs ((6 * n) + 1)).toInt (xs ((6 * n) + 2)).toInt), mH mo R, mR cI (mo 1) G, mR cI (mo 2) M, mR cI (mo 3) Wa, aI cI (mo 4) 7 F, aI cI (mo 5) 120 T, aI cI (mo 6) 4 B, aI cI (mo 7) 4 Z, aJ cJ (mo 8) 160 C]) rfl (fun _ => rfl) (fun _ => rfl) 0 0 rfl rfl rfl rfl hl.1 rfl (lv_room (Nat.le_of_ble_eq_true rfl)) dL_law_585 ⟨Nat.le_of_ble_eq_true rfl, Nat.le_of_ble_eq_true rfl⟩ (fun _ H locs _ hW => ?_)
  refine lv_aload_n hx hb dL_law_588 rfl (lv_at hl 1 rfl) ?_
  refine lv_aload_n hx hb dL_law_589 rfl (lv_at hl 3 rfl) ?_
  refine lv_iload_n hx hb dL_law_590 rfl (lv_at hl 0 rfl) ?_
  refine lv_iconst (v := nI 1) hx hb dL_law_591 (by decide +kernel) ?_
  refine nn_add hx hb dL_law_592 ?_
  refine va_sld hx hb hX hbl hbA hW.2.2 (vp_in_nI (by omega) (by omega)) dL_law_593 ?_
  refine W.top (v' := .int (xs ((6 * n) + 1))) (by rw [nI_clamp (by omega)]) ?_
  refine lv_aload_n hx hb dL_law_594 rfl (lv_at hl 3 rfl) ?_
  refine lv_iload_n hx hb dL_law_595 rfl (lv_at hl 0 rfl) ?_
  refine lv_iconst (v := nI 2) hx hb dL_law_596 (by decide +kernel) ?_
  refine nn_add hx hb dL_law_597 ?_
  refine va_sld hx hb hX hbl hbA hW.2.2 (vp_in_nI (by omega) (by omega)) dL_law_598 ?_
  refine W.top (v' := .int (xs ((6 * n) + 2))) (by rw [nI_clamp (by omega)]) ?_
  refine cl_Vi (As := [.int (xs ((6 * n) + 1)), .int (xs ((6 * n) + 2))]) (rest := [.int (rideV G (xs ((6 * n) + 1)).toInt (xs ((6 * n) + 2)).toInt)]) (C := RX5) ⟨hx, hb, hml, hown, hts⟩ (M_X5_ride l D cI cJ mo R G F hI.1.1 (xs ((6 * n) + 1)) (xs ((6 * n) + 2))) (cwV 2 hts gL_law_X5_ride rfl rfl rfl qX5_ride ⟨Nat.le_of_ble_eq_true rfl, Nat.le_of_ble_eq_true rfl⟩) E0_good hK hA hW trivial [false, false, false, false, false, false, false, true, true, false, false, true] (fun _ => [xH x la ta ka tp sh fi ik, gW cI la (rideG G (xs ((6 * n) + 1)).toInt (xs ((6 * n) + 2)).toInt), tW cI tp T Rt, gW cI ta Tx, gW cI ka K, sW cI cJ sh B Z C, aI cI fi 7 (rideF G F (xs ((6 * n) + 1)).toInt (xs ((6 * n) + 2)).toInt), mH mo R, mR cI (mo 1) (rideG G (xs ((6 * n) + 1)).toInt (xs ((6 * n) + 2)).toInt), mR cI (mo 2) M, mR cI (mo 3) Wa, aI cI (mo 4) 7 (rideF G F (xs ((6 * n) + 1)).toInt (xs ((6 * n) + 2)).toInt), aI cI (mo 5) 120 T, aI cI (mo 6) 4 B, aI cI (mo 7) 4 Z, aJ cJ (mo 8) 160 C]) rfl (fun _ => rfl) (fun _ => rfl) 7 0 rfl rfl rfl rfl hl.1 rfl (lv_room (Nat.le_of_ble_eq_true rfl)) dL_law_599 ⟨Nat.le_of_ble_eq_true rfl, Nat.le_of_ble_eq_true rfl⟩ (fun _ H locs _ hW => ?_)
  refine lv_icmp_eq (tgt := 1349) hx hb dL_law_602 (by decide) (fun _ => ?_) (fun hne => absurd rfl hne)
  exact kk ik L (rideG G (xs ((6 * n) + 1)).toInt (xs ((6 * n) + 2)).toInt) T Rt Tx K (rideF G F (xs ((6 * n) + 1)).toInt (xs ((6 * n) + 2)).toInt) R M Wa B Z C _ _ _ (hI.g (gi_ride hI.1 _ _)) hW hl
set_option maxRecDepth 100000 in
set_option maxHeartbeats 4000000 in
theorem law_minutes {p : Program} {e : Env} {s : State} {m : MethodId} {below : List Frame} {meth : Method} {c : Code} (l : Launch) {b Ls : Nat} {xs : Nat → Int32} (C0 : lw_At p s m meth c b Ls xs) (D : va_G) (cI cJ : ClassId) (hK : va_K D vwCl [(cI, .int), (cJ, .long)] s) (x fi : Nat) (la ta ka tp sh mo aK aV : Nat → Nat) (nt : Nat) (hES : ES aK aV (fun q : Nat => s.heap.size ≤ q) s s.heap) (hEM : EM nt (fun q : Nat => s.heap.size ≤ q) s s.heap) (n : Nat) (hn : 6 * n + 6 ≤ Ls) (hLs : Ls ≤ 3072) (kk : LGo p l e s m below meth c b D cI cJ x fi la ta ka tp sh mo n) (ik L : Nat) (G T Rt Tx K F R M Wa B Z : Nat → Nat) (C : Nat → Int64) (hI : LI n ik L G K M T Rt R B Z) (H : Heap) (locs : List Loc) (ls : Array Slot) (hW : Wo D vwCl (fun q : Nat => s.heap.size ≤ q) s.heap H locs [xH x la ta ka tp sh fi ik, gW cI la G, tW cI tp T Rt, gW cI ta Tx, gW cI ka K, sW cI cJ sh B Z C, aI cI fi 7 F, mH mo R, mR cI (mo 1) G, mR cI (mo 2) M, mR cI (mo 3) Wa, aI cI (mo 4) 7 F, aI cI (mo 5) 120 T, aI cI (mo 6) 4 B, aI cI (mo 7) 4 Z, aJ cJ (mo 8) 160 C]) (hl : lv_has ls 4 [(3, .int (nI (6 * n))), (2, .ref (mo 0)), (1, .ref x), (0, .ref b)]) : W p l e room_1 s m #[Value.ref b] below meth c H locs 41 984 (lw_Z below #[Value.ref b] s) (F0 m 607 ls []) := by
  obtain ⟨hx, hb, hr, hml, hown, hts0, hX, hbl, hlocks, hgv⟩ := id C0
  have hown : s.vm.findClass RL = some m.cls := hown
  have hts : ∀ w ∈ wsL_law, w.before #[Value.ref b] s = true := fun w hw => hts0 w (wsL_law_in w hw)
  have hA : ∀ q : Nat, s.heap.size ≤ q → (fun q : Nat => s.heap.size ≤ q) q := fun _ h => h
  have hbA : ¬ (fun q : Nat => s.heap.size ≤ q) b := Nat.not_le.mpr hbl
  refine lv_aload_n hx hb dL_law_607 rfl (lv_at hl 2 rfl) ?_
  refine lv_aload_n hx hb dL_law_608 rfl (lv_at hl 3 rfl) ?_
  refine lv_iload_n hx hb dL_law_609 rfl (lv_at hl 0 rfl) ?_
  refine lv_iconst (v := nI 1) hx hb dL_law_610 (by decide +kernel) ?_
  refine nn_add hx hb dL_law_611 ?_
  refine va_sld hx hb hX hbl hbA hW.2.2 (vp_in_nI (by omega) (by omega)) dL_law_612 ?_
  refine W.top (v' := .int (xs ((6 * n) + 1))) (by rw [nI_clamp (by omega)]) ?_
  refine cl_Vi (As := [.int (xs ((6 * n) + 1))]) (rest := []) (C := RX4) ⟨hx, hb, hml, hown, hts⟩ (M_X4_minutes l D cI cJ x fi ik la ta ka tp sh G F hI.1.1 (xs ((6 * n) + 1))) (cwV 1 hts gL_law_X4_minutes rfl rfl rfl qX4_minutes ⟨Nat.le_of_ble_eq_true rfl, Nat.le_of_ble_eq_true rfl⟩) E0_good hK hA hW trivial [true, true, false, false, false, false, true] (fun _ => [xH x la ta ka tp sh fi ik, gW cI la (minutesG G (xs ((6 * n) + 1)).toInt), tW cI tp T Rt, gW cI ta Tx, gW cI ka K, sW cI cJ sh B Z C, aI cI fi 7 (minutesF G F (xs ((6 * n) + 1)).toInt), mH mo R, mR cI (mo 1) G, mR cI (mo 2) M, mR cI (mo 3) Wa, aI cI (mo 4) 7 F, aI cI (mo 5) 120 T, aI cI (mo 6) 4 B, aI cI (mo 7) 4 Z, aJ cJ (mo 8) 160 C]) rfl (fun _ => rfl) (fun _ => rfl) 0 0 rfl rfl rfl rfl hl.1 rfl (lv_room (Nat.le_of_ble_eq_true rfl)) dL_law_613 ⟨Nat.le_of_ble_eq_true rfl, Nat.le_of_ble_eq_true rfl⟩ (fun _ H locs _ hW => ?_)
  refine lv_aload_n hx hb dL_law_616 rfl (lv_at hl 1 rfl) ?_
  refine lv_aload_n hx hb dL_law_617 rfl (lv_at hl 3 rfl) ?_
  refine lv_iload_n hx hb dL_law_618 rfl (lv_at hl 0 rfl) ?_
  refine lv_iconst (v := nI 1) hx hb dL_law_619 (by decide +kernel) ?_
  refine nn_add hx hb dL_law_620 ?_
  refine va_sld hx hb hX hbl hbA hW.2.2 (vp_in_nI (by omega) (by omega)) dL_law_621 ?_
  refine W.top (v' := .int (xs ((6 * n) + 1))) (by rw [nI_clamp (by omega)]) ?_
  refine cl_Vi (As := [.int (xs ((6 * n) + 1))]) (rest := [.int (minutesV G (xs ((6 * n) + 1)).toInt)]) (C := RX5) ⟨hx, hb, hml, hown, hts⟩ (M_X5_minutes l D cI cJ mo R G F hI.1.1 (xs ((6 * n) + 1))) (cwV 1 hts gL_law_X5_minutes rfl rfl rfl qX5_minutes ⟨Nat.le_of_ble_eq_true rfl, Nat.le_of_ble_eq_true rfl⟩) E0_good hK hA hW trivial [false, false, false, false, false, false, false, true, true, false, false, true] (fun _ => [xH x la ta ka tp sh fi ik, gW cI la (minutesG G (xs ((6 * n) + 1)).toInt), tW cI tp T Rt, gW cI ta Tx, gW cI ka K, sW cI cJ sh B Z C, aI cI fi 7 (minutesF G F (xs ((6 * n) + 1)).toInt), mH mo R, mR cI (mo 1) (minutesG G (xs ((6 * n) + 1)).toInt), mR cI (mo 2) M, mR cI (mo 3) Wa, aI cI (mo 4) 7 (minutesF G F (xs ((6 * n) + 1)).toInt), aI cI (mo 5) 120 T, aI cI (mo 6) 4 B, aI cI (mo 7) 4 Z, aJ cJ (mo 8) 160 C]) rfl (fun _ => rfl) (fun _ => rfl) 7 0 rfl rfl rfl rfl hl.1 rfl (lv_room (Nat.le_of_ble_eq_true rfl)) dL_law_622 ⟨Nat.le_of_ble_eq_true rfl, Nat.le_of_ble_eq_true rfl⟩ (fun _ H locs _ hW => ?_)
  refine lv_icmp_eq (tgt := 1349) hx hb dL_law_625 (by decide) (fun _ => ?_) (fun hne => absurd rfl hne)
  exact kk ik L (minutesG G (xs ((6 * n) + 1)).toInt) T Rt Tx K (minutesF G F (xs ((6 * n) + 1)).toInt) R M Wa B Z C _ _ _ (hI.g (gi_minutes hI.1 _)) hW hl
