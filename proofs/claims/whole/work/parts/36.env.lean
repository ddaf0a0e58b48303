/-! what stands at the law's start -/
set_option maxRecDepth 20000 in
theorem nest_tbl : ∀ w ∈ nestWs, w ∈ lw_tbl := by decide +kernel
set_option maxRecDepth 20000 in
theorem decL_tbl : ∀ w ∈ decL, w ∈ lw_tbl := by decide +kernel
theorem nestWs_on : ∀ w ∈ nestWs, w.onTables = true := by decide +kernel
def tmS (i : Nat) : Term := if i = 0 then .string RX4 58 else if i = 1 then .string RX4 67 else if i = 2 then .string RX4 72 else if i = 3 then .string RX4 77 else if i = 4 then .string RX7 99 else .string RX7 106
abbrev flS : List Cond := flatC (Jvm.Cond.and given_1 narrow_1)
theorem sS_len : ∀ i, i < 6 → lenS.getD i 0 < 2 ^ 31 := by decide
theorem sS_ex : ∀ i, i < 6 → Cond.exactly (tmS i) "java/lang/String" ∈ flS := by decide +kernel
theorem sS_co : ∀ i, i < 6 → Cond.eq (.field (tmS i) "java/lang/String" "coder" "B") (.int 0) ∈ flS := by decide +kernel
theorem sS_ar : ∀ i, i < 6 → Cond.arrayOf (.field (tmS i) "java/lang/String" "value" "[B") .byte ∈ flS := by decide +kernel
theorem sS_le : ∀ i, i < 6 → Cond.eq (.length (.field (tmS i) "java/lang/String" "value" "[B")) (.int (Int32.ofNat (lenS.getD i 0))) ∈ flS := by decide +kernel
theorem sS_el : ∀ i, i < 6 → ∀ j, j < lenS.getD i 0 → Cond.eq (.elem (.field (tmS i) "java/lang/String" "value" "[B") (.int (Int32.ofNat j))) (.int ((bytS.getD i []).getD j 0)) ∈ flS := by decide +kernel
theorem sS_ne : ∀ i, i < 6 → ∀ j, j < 6 → i ≠ j → (Cond.not (Cond.eq (tmS i) (tmS j)) ∈ flS ∨ Cond.not (Cond.eq (tmS j) (tmS i)) ∈ flS) := by decide +kernel
theorem sS_cs : Cond.eq (.static "java/lang/String" "COMPACT_STRINGS" "Z") (.int 1) ∈ flS := by decide +kernel
theorem sS_sf : Cond.isRef (.static "jdk/internal/util/Preconditions" "SIOOBE_FORMATTER" "Ljava/util/function/BiFunction;") ∈ flS := by decide +kernel
theorem sS_us : Cond.isRef (.static Bundle.tN "UNASSIGNED_STACK" Bundle.steD) ∈ flS := by decide +kernel
theorem sS_ss : Cond.isRef (.static Bundle.tN "SUPPRESSED_SENTINEL" Bundle.listD) ∈ flS := by decide +kernel
theorem sS_nc : Cond.not (.castable "java/util/NoSuchElementException" "java/lang/IndexOutOfBoundsException") ∈ flS := by decide +kernel
abbrev tbS : List Cond := [Cond.laysStatic "java/lang/String" "COMPACT_STRINGS" "Z", .initialized "java/lang/String", .laysStatic "jdk/internal/util/Preconditions" "SIOOBE_FORMATTER" "Ljava/util/function/BiFunction;", .initialized "jdk/internal/util/Preconditions", .laysStatic Bundle.tN "UNASSIGNED_STACK" Bundle.steD, .laysStatic Bundle.tN "SUPPRESSED_SENTINEL" Bundle.listD, .initialized Bundle.tN,
    .stringRef RX4 58 "cut", .stringRef RX4 67 "move", .stringRef RX4 72 "spare", .stringRef RX4 77 "before", .stringRef RX7 99 "no such paper", .stringRef RX7 106 "no such what", .arrayClass .int, .arrayClass .boolean, .arrayClass .long]
set_option maxRecDepth 20000 in
theorem sS_tb : ∀ w ∈ tbS, w ∈ lw_tbl := by decide +kernel
theorem env_start {b : Nat} {s : State} (hts : ∀ w ∈ lw_tbl, w.before #[Value.ref b] s = true) (hgv : (Jvm.Cond.and given_1 narrow_1).before #[Value.ref b] s = true) : ∃ ad adv : Nat → Nat, envS ad adv (fun q => s.heap.size ≤ q) s s.heap := by
  have hs := flat_of_before _ hgv
  have hA : ∀ a : Nat, a < s.heap.size → ¬ (fun q : Nat => s.heap.size ≤ q) a := fun a h => Nat.not_le.mpr h
  have ht : ∀ w ∈ tbS, w.before #[Value.ref b] s = true := fun w hw => hts w (sS_tb w hw)
  obtain ⟨ad, adv, h1, h2⟩ := vk_Sof (args := #[Value.ref b]) (s := s) (N := 6) (tm := tmS) (len := lenS) (byt := bytS) (A := fun q : Nat => s.heap.size ≤ q) sS_len (fun i hi => hs _ (sS_ex i hi)) (fun i hi => hs _ (sS_co i hi)) (fun i hi => hs _ (sS_ar i hi)) (fun i hi => hs _ (sS_le i hi)) (fun i hi j hj => hs _ (sS_el i hi j hj)) (fun i j hi hj hij => (sS_ne i hi j hj hij).imp (hs _) (hs _)) hA
  refine ⟨ad, adv, ⟨h1, va_Zof (ht (.laysStatic "java/lang/String" "COMPACT_STRINGS" "Z") (by decide +kernel)) (ht (.initialized "java/lang/String") (by decide +kernel)) (va_eqi (hs _ sS_cs)) hA, va_Zqof (ht (.laysStatic "jdk/internal/util/Preconditions" "SIOOBE_FORMATTER" "Ljava/util/function/BiFunction;") (by decide +kernel)) (ht (.initialized "jdk/internal/util/Preconditions") (by decide +kernel)) (hs _ sS_sf) hA, vx_Zqof (ht (.laysStatic Bundle.tN "UNASSIGNED_STACK" Bundle.steD) (by decide +kernel)) (ht (.initialized Bundle.tN) (by decide +kernel)) (hs _ sS_us) hA, vx_Zqof (ht (.laysStatic Bundle.tN "SUPPRESSED_SENTINEL" Bundle.listD) (by decide +kernel)) (ht (.initialized Bundle.tN) (by decide +kernel)) (hs _ sS_ss) hA⟩, ⟨?_, ?_, ?_, ?_, ?_, ?_⟩, va_Nc.of (hs _ sS_nc)⟩
  · exact vk_R.of (A := #[Value.ref b]) ((ht (.stringRef RX4 58 "cut") (by decide +kernel))) ((h2 0 (by decide)))
  · exact vk_R.of (A := #[Value.ref b]) ((ht (.stringRef RX4 67 "move") (by decide +kernel))) ((h2 1 (by decide)))
  · exact vk_R.of (A := #[Value.ref b]) ((ht (.stringRef RX4 72 "spare") (by decide +kernel))) ((h2 2 (by decide)))
  · exact vk_R.of (A := #[Value.ref b]) ((ht (.stringRef RX4 77 "before") (by decide +kernel))) ((h2 3 (by decide)))
  · exact vk_R.of (A := #[Value.ref b]) ((ht (.stringRef RX7 99 "no such paper") (by decide +kernel))) ((h2 4 (by decide)))
  · exact vk_R.of (A := #[Value.ref b]) ((ht (.stringRef RX7 106 "no such what") (by decide +kernel))) ((h2 5 (by decide)))
theorem nest_start {b : Nat} {s : State} (hts : ∀ w ∈ lw_tbl, w.before #[Value.ref b] s = true) : nest s := fun w hw => va_Nw.of (nestWs_on w hw) (hts w (nest_tbl w hw))
theorem dec_start {b : Nat} {s : State} (hts : ∀ w ∈ lw_tbl, w.before #[Value.ref b] s = true) : decX s := decX.of (fun w hw => hts w (decL_tbl w hw))
theorem arr_known {args : Array Value} {s : State} {ty : FieldType} (h : (Cond.arrayClass ty).before args s = true) : ∃ cA : ClassId, ArrOfT s cA ty ∧ s.vm.findClass ("[" ++ ty.toString) = some cA := by
  obtain ⟨cA, kA, comp, h1, h2, h3⟩ := Cond.arrayClass_spec h
  exact ⟨cA, fun n z => ⟨fun k h => (by cases h), kA, h2, comp, h3⟩, h1⟩
set_option maxRecDepth 20000 in
theorem inst_tbl : ∀ w ∈ ([.instantiable RX0 5, .instantiable RX1 10, .instantiable RX2 5, .instantiable RX3 11, .instantiable RX4 7, .instantiable RX5 2, .instantiable RX6 4, .instantiable RX7 10, .instantiable RX8 44] : List Cond), w ∈ lw_tbl := by decide +kernel
