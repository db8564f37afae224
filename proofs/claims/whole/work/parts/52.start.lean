def sTm (i : Nat) : Term := .string "LayerStacks" (206 + 2 * i)
abbrev pre1 : Cond := Jvm.Cond.and given_1 narrow_1
set_option maxRecDepth 20000 in
theorem mS_ex : ∀ i, i < 7 → Cond.exactly (sTm i) "java/lang/String" ∈ flatC pre1 := by decide +kernel
set_option maxRecDepth 20000 in
theorem mS_co : ∀ i, i < 7 → Cond.eq (.field (sTm i) "java/lang/String" "coder" "B") (.int 0) ∈ flatC pre1 := by decide +kernel
set_option maxRecDepth 20000 in
theorem mS_ar : ∀ i, i < 7 → Cond.arrayOf (.field (sTm i) "java/lang/String" "value" "[B") .byte ∈ flatC pre1 := by decide +kernel
set_option maxRecDepth 20000 in
theorem mS_le : ∀ i, i < 7 → Cond.eq (.length (.field (sTm i) "java/lang/String" "value" "[B")) (.int (Int32.ofNat (sLen.getD i 0))) ∈ flatC pre1 := by decide +kernel
set_option maxRecDepth 20000 in
theorem mS_el : ∀ i, i < 7 → ∀ j, j < sLen.getD i 0 → Cond.eq (.elem (.field (sTm i) "java/lang/String" "value" "[B") (.int (Int32.ofNat j))) (.int ((sByt.getD i []).getD j 0)) ∈ flatC pre1 := by decide +kernel
set_option maxRecDepth 20000 in
theorem mS_ne : ∀ i, i < 7 → ∀ j, j < 7 → i ≠ j → Cond.not (Cond.eq (sTm i) (sTm j)) ∈ flatC pre1 ∨ Cond.not (Cond.eq (sTm j) (sTm i)) ∈ flatC pre1 := by decide +kernel
set_option maxRecDepth 20000 in
theorem mS_st : ∀ i, i < 7 → Cond.stringRef RX6 (sIx i) (sTx i) ∈ lw_tbl := by decide +kernel
set_option maxRecDepth 20000 in
theorem mT_ex : ∀ k ∈ msgT, Cond.exactly (.string RX6 k.1) "java/lang/String" ∈ flatC pre1 := by decide +kernel
set_option maxRecDepth 20000 in
theorem mT_st : ∀ k ∈ msgT, Cond.stringRef RX6 k.1 k.2 ∈ lw_tbl := by decide +kernel
set_option maxRecDepth 20000 in
theorem mT_ca : ∀ X ∈ excs, Cond.castable X X ∈ lw_tbl := by decide +kernel
set_option maxRecDepth 20000 in
theorem mT_de : ∀ Y ∈ sups, Cond.declares (Bundle.initS Y) ∈ lw_tbl := by decide +kernel
set_option maxRecDepth 20000 in
theorem mN_ne : ∀ k ∈ nestT, Cond.methodLinkNest k.1 k.2.1 k.2.2 RX6 ∈ lw_tbl := by decide +kernel
set_option maxRecDepth 20000 in
theorem mN_1 : [Cond.methodLinkNest RX4 56 yX6_spellingOf RX6, Cond.methodLinkNest RX5 63 yX6_spellingOf RX6, Cond.laysStatic "java/lang/String" "COMPACT_STRINGS" "Z", Cond.initialized "java/lang/String", Cond.laysStatic "jdk/internal/util/Preconditions" "SIOOBE_FORMATTER" "Ljava/util/function/BiFunction;", Cond.initialized "jdk/internal/util/Preconditions", Cond.laysStatic Bundle.tN "UNASSIGNED_STACK" Bundle.steD, Cond.laysStatic Bundle.tN "SUPPRESSED_SENTINEL" Bundle.listD, Cond.initialized Bundle.tN, Cond.arrayOver (.array .long)].all (fun w => decide (w ∈ lw_tbl)) = true := by decide +kernel
set_option maxRecDepth 20000 in
theorem mN_2 : [Cond.eq (.static "java/lang/String" "COMPACT_STRINGS" "Z") (.int 1), Cond.isRef (.static "jdk/internal/util/Preconditions" "SIOOBE_FORMATTER" "Ljava/util/function/BiFunction;"), Cond.isRef (.static Bundle.tN "UNASSIGNED_STACK" Bundle.steD), Cond.isRef (.static Bundle.tN "SUPPRESSED_SENTINEL" Bundle.listD), Cond.not (.castable (exN 2) (exN 1)), Cond.not (.castable (exN 3) (exN 1))].all (fun w => decide (w ∈ flatC pre1)) = true := by decide +kernel
theorem all_mem {l big : List Cond} (h : l.all (fun w => decide (w ∈ big)) = true) {w : Cond} (hw : w ∈ l) : w ∈ big := of_decide_eq_true (List.all_eq_true.mp h w hw)
theorem st_J {b : Nat} {s : State} {A : Nat → Prop} (hts : ∀ w ∈ lw_tbl, w.before #[Value.ref b] s = true) (hgv : pre1.before #[Value.ref b] s = true) (hA : ∀ a : Nat, a < s.heap.size → ¬ A a) : ∃ aK aV tA : Nat → Nat, SJ aK aV A s s.heap ∧ TJ tA A s s.heap ∧ LJ s ∧ NJ s := by
  have hf := flat_of_before _ hgv
  have t1 : ∀ {w : Cond}, w ∈ _ → w.before #[Value.ref b] s = true := fun {w} hw => hts w (all_mem mN_1 hw)
  have f1 : ∀ {w : Cond}, w ∈ _ → w.before #[Value.ref b] s = true := fun {w} hw => hf w (all_mem mN_2 hw)
  obtain ⟨aK, aV, hS, hE⟩ := vk_Sof (args := #[Value.ref b]) (s := s) (N := 7) (tm := sTm) (len := sLen) (byt := sByt) (A := A) (fun i hi => s7 hi) (fun i hi => hf _ (mS_ex i hi)) (fun i hi => hf _ (mS_co i hi)) (fun i hi => hf _ (mS_ar i hi)) (fun i hi => hf _ (mS_le i hi)) (fun i hi j hj => hf _ (mS_el i hi j hj)) (fun i j hi hj hij => (mS_ne i hi j hj hij).imp (hf _) (hf _)) hA
  have hm : ∀ k : Nat, ∃ a : Nat, ∀ t, (k, t) ∈ msgT → (Term.string RX6 k).eval #[Value.ref b] s none [] s = some (.ref a) := by
    intro k
    by_cases hk : ∃ t, (k, t) ∈ msgT
    · obtain ⟨t, ht⟩ := hk
      obtain ⟨a, c, cA, kA, q1, -⟩ := Cond.exactly_spec (args := #[Value.ref b]) (first := s) (o := none) (s := s) (idx := []) (t := .string RX6 k) (cls := "java/lang/String") (hf _ (mT_ex _ ht))
      exact ⟨a, fun _ _ => q1⟩
    · exact ⟨0, fun t ht => absurd ⟨t, ht⟩ hk⟩
  obtain ⟨tA, htA⟩ := Classical.axiomOfChoice hm
  refine ⟨aK, aV, tA, ⟨⟨hS, va_Zof (t1 (w := Cond.laysStatic "java/lang/String" "COMPACT_STRINGS" "Z") (by simp)) (t1 (w := Cond.initialized "java/lang/String") (by simp)) (va_eqt (f1 (w := Cond.eq (.static "java/lang/String" "COMPACT_STRINGS" "Z") (.int 1)) (by simp))) hA, va_Zqof (t1 (w := Cond.laysStatic "jdk/internal/util/Preconditions" "SIOOBE_FORMATTER" "Ljava/util/function/BiFunction;") (by simp)) (t1 (w := Cond.initialized "jdk/internal/util/Preconditions") (by simp)) (f1 (w := Cond.isRef (.static "jdk/internal/util/Preconditions" "SIOOBE_FORMATTER" "Ljava/util/function/BiFunction;")) (by simp)) hA⟩, fun i hi => vk_R.of (hts _ (mS_st i hi)) (hE i hi), va_Nw.of rfl (t1 (w := Cond.methodLinkNest RX4 56 yX6_spellingOf RX6) (by simp)), va_Nw.of rfl (t1 (w := Cond.methodLinkNest RX5 63 yX6_spellingOf RX6) (by simp))⟩, ⟨⟨vx_Zqof (t1 (w := Cond.laysStatic Bundle.tN "UNASSIGNED_STACK" Bundle.steD) (by simp)) (t1 (w := Cond.initialized Bundle.tN) (by simp)) (f1 (w := Cond.isRef (.static Bundle.tN "UNASSIGNED_STACK" Bundle.steD)) (by simp)) hA, vx_Zqof (t1 (w := Cond.laysStatic Bundle.tN "SUPPRESSED_SENTINEL" Bundle.listD) (by simp)) (t1 (w := Cond.initialized Bundle.tN) (by simp)) (f1 (w := Cond.isRef (.static Bundle.tN "SUPPRESSED_SENTINEL" Bundle.listD)) (by simp)) hA⟩, fun k hk => vk_R.of (hts _ (mT_st k hk)) (htA k.1 k.2 hk), fun X hX => va_Nw.of rfl (hts _ (mT_ca X hX)), fun Y hY => va_Nw.of rfl (hts _ (mT_de Y hY))⟩, ⟨va_Nc.of (f1 (w := Cond.not (.castable (exN 2) (exN 1))) (by simp)), va_Nc.of (f1 (w := Cond.not (.castable (exN 3) (exN 1))) (by simp))⟩, ⟨fun k hk => va_Nw.of rfl (hts _ (mN_ne k hk)), ?_⟩⟩
  have q := t1 (w := Cond.arrayOver (.array .long)) (by simp)
  exact q
