/-! ===== what the Statement gives of the start: texts, the table of names, the nest ===== -/
def NF : List Jvm.Cond := flatC (Jvm.Cond.and given_1 narrow_1)
def tmS (i : Nat) : Term := Term.string RX3 (jsI.getD i 0)
def tmV (i : Nat) : Term := Term.field (tmS i) "java/lang/String" "value" "[B"
def tmN : Term := Term.static "UnsaidRoundModel" "NAMES" "[I"
set_option maxRecDepth 100000 in
theorem nf_ex : ∀ i, i < 13 → Cond.exactly (tmS i) "java/lang/String" ∈ NF := by decide +kernel
set_option maxRecDepth 100000 in
theorem nf_co : ∀ i, i < 13 → Cond.eq (.field (tmS i) "java/lang/String" "coder" "B") (.int 0) ∈ NF := by decide +kernel
set_option maxRecDepth 100000 in
theorem nf_ar : ∀ i, i < 13 → Cond.arrayOf (tmV i) .byte ∈ NF := by decide +kernel
set_option maxRecDepth 100000 in
theorem nf_le : ∀ i, i < 13 → Cond.eq (.length (tmV i)) (.int (Int32.ofNat (jsN.getD i 0))) ∈ NF := by decide +kernel
set_option maxRecDepth 100000 in
theorem nf_el : ∀ i, i < 13 → ∀ j, j < jsN.getD i 0 → Cond.eq (.elem (tmV i) (.int (Int32.ofNat j))) (.int ((jsB.getD i []).getD j 0)) ∈ NF := by decide +kernel
set_option maxRecDepth 100000 in
theorem nf_ne : ∀ i, i < 13 → ∀ j, j < 13 → i ≠ j → Cond.not (Cond.eq (tmS i) (tmS j)) ∈ NF ∨ Cond.not (Cond.eq (tmS j) (tmS i)) ∈ NF := by decide +kernel
set_option maxRecDepth 100000 in
theorem nf_sr : ∀ i, i < 13 → Cond.stringRef RX3 (jsI.getD i 0) (jsT.getD i "") ∈ lw_tbl := by decide +kernel
set_option maxRecDepth 100000 in
theorem nf_nm : ∀ j, j < 91 → Cond.eq (.elem tmN (.int (Int32.ofNat j))) (.int (nI (nmC (j / 7) (j % 7)))) ∈ NF := by decide +kernel
set_option maxRecDepth 100000 in
theorem given_ES {s : State} {b : Nat} (hgv : (Jvm.Cond.and given_1 narrow_1).before #[Value.ref b] s = true) (hts : ∀ w ∈ lw_tbl, w.before #[Value.ref b] s = true) : ∃ aK aV : Nat → Nat, ES aK aV (fun q : Nat => s.heap.size ≤ q) s s.heap := by
  have hs : ∀ w ∈ NF, w.before #[Value.ref b] s = true := flat_of_before _ hgv
  have hA : ∀ a : Nat, a < s.heap.size → ¬ (fun q : Nat => s.heap.size ≤ q) a := fun a h => Nat.not_le.mpr h
  obtain ⟨aK, aV, hS, hev⟩ := vk_Sof (args := #[Value.ref b]) (s := s) (N := 13) (tm := tmS) (len := jsN) (byt := jsB) (A := fun q : Nat => s.heap.size ≤ q) (by decide) (fun i hi => hs _ (nf_ex i hi)) (fun i hi => hs _ (nf_co i hi)) (fun i hi => hs _ (nf_ar i hi)) (fun i hi => hs _ (nf_le i hi)) (fun i hi j hj => hs _ (nf_el i hi j hj)) (fun i j hi hj hij => (nf_ne i hi j hj hij).imp (hs _) (hs _)) hA
  refine ⟨aK, aV, fun i hi => vk_R.of (A := #[Value.ref b]) (hts _ (nf_sr i hi)) (hev i hi), hS, ?_, ?_⟩
  · exact va_Zof (args := #[Value.ref b]) (hts (.laysStatic "java/lang/String" "COMPACT_STRINGS" "Z") (by decide +kernel)) (hts (.initialized "java/lang/String") (by decide +kernel)) (va_eqi (hs (Cond.eq (.static "java/lang/String" "COMPACT_STRINGS" "Z") (.int 1)) (by decide +kernel))) hA
  · exact va_Zqof (args := #[Value.ref b]) (hts (.laysStatic "jdk/internal/util/Preconditions" "SIOOBE_FORMATTER" "Ljava/util/function/BiFunction;") (by decide +kernel)) (hts (.initialized "jdk/internal/util/Preconditions") (by decide +kernel)) (hs (Cond.isRef (.static "jdk/internal/util/Preconditions" "SIOOBE_FORMATTER" "Ljava/util/function/BiFunction;")) (by decide +kernel)) hA
set_option maxRecDepth 100000 in
theorem given_EM {s : State} {b : Nat} (hgv : (Jvm.Cond.and given_1 narrow_1).before #[Value.ref b] s = true) (hts : ∀ w ∈ lw_tbl, w.before #[Value.ref b] s = true) : ∃ nt : Nat, EM nt (fun q : Nat => s.heap.size ≤ q) s s.heap := by
  have hs : ∀ w ∈ NF, w.before #[Value.ref b] s = true := flat_of_before _ hgv
  have hA : ∀ a : Nat, a < s.heap.size → ¬ (fun q : Nat => s.heap.size ≤ q) a := fun a h => Nat.not_le.mpr h
  obtain ⟨t, ht, hT⟩ := va_Tof (args := #[Value.ref b]) (s := s) (tm := tmN) (ty := .int) (N := 91) (f := fun j => .int (nI (nmC (j / 7) (j % 7)))) (A := fun q : Nat => s.heap.size ≤ q) (by decide) (hs (Cond.arrayOf tmN .int) (by decide +kernel)) (va_eqt (hs (Cond.eq (.length tmN) (.int (Int32.ofNat 91))) (by decide +kernel))) (fun j hj => va_eqt (hs _ (nf_nm j hj))) hA
  exact ⟨t, va_Zref (args := #[Value.ref b]) (hts (.laysStatic "UnsaidRoundModel" "NAMES" "[I") (by decide +kernel)) (hts (.initialized "UnsaidRoundModel") (by decide +kernel)) ht hA, hT⟩
set_option maxRecDepth 100000 in
theorem given_EN {s : State} {b : Nat} (hts : ∀ w ∈ lw_tbl, w.before #[Value.ref b] s = true) : EN (fun q : Nat => s.heap.size ≤ q) s s.heap :=
  ⟨va_Nw.of rfl (hts (.methodLinkNest RX4 9 yX0_init RX4) (by decide +kernel)), va_Nw.of rfl (hts (.methodLinkNest RX4 24 yX3_init RX4) (by decide +kernel)), va_Nw.of rfl (hts (.methodLinkNest RX4 31 yX2_init RX4) (by decide +kernel))⟩
