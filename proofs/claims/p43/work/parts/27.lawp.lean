/-! the law's start -/
theorem arr_known {args : Array Value} {s : State} {ty : FieldType} (h : (Cond.arrayClass ty).before args s = true) : ∃ cA : ClassId, ArrOfT s cA ty ∧ s.vm.findClass ("[" ++ ty.toString) = some cA := by
  obtain ⟨cA, kA, comp, h1, h2, h3⟩ := Cond.arrayClass_spec h
  exact ⟨cA, fun n z => ⟨fun k h => (by cases h), kA, h2, comp, h3⟩, h1⟩
theorem ao_known {args : Array Value} {s : State} (h : (Cond.arrayOver (.array .int)).before args s = true) : ∃ cA : ClassId, ArrOfT s cA (.array .int) ∧ s.vm.findClass ("[" ++ (FieldType.array .int).toString) = some cA := by
  obtain ⟨comp, c, k, f1, f2, f3, f4, f5⟩ := arrayOverA_spec h
  exact ⟨c, fun n z => ⟨fun k h => (by cases h), k, f3, comp, f4⟩, f5⟩
set_option maxHeartbeats 4000000 in
set_option maxRecDepth 100000 in
theorem nw_known {args : Array Value} {s : State} (hts : ∀ w ∈ lw_tbl, w.before args s = true) : Nw s :=
  ⟨va_Nw.of rfl (hts (.fieldLinkNest RX1 69 "OldMeasures$Stalls" "count" "I" RX1) (by decide +kernel)), va_Nw.of rfl (hts (.fieldLinkNest RX1 74 "OldMeasures$Stalls" "wears" "[I" RX1) (by decide +kernel)), va_Nw.of rfl (hts (.fieldLinkNest RX1 77 "OldMeasures$Stalls" "drifts" "[I" RX1) (by decide +kernel)), va_Nw.of rfl (hts (.fieldLinkNest RX1 85 "OldMeasures$Stalls" "tolerance" "I" RX1) (by decide +kernel)), va_Nw.of rfl (hts (.fieldLinkNest RX1 98 "OldMeasures$Stalls" "day" "I" RX1) (by decide +kernel)), va_Nw.of rfl (hts (.methodLinkNest RX1 25 yX0_init RX1) (by decide +kernel)), va_Nw.of rfl (hts (.methodLinkNest RX1 91 yX0_coinsPaidIn RX1) (by decide +kernel)), va_Nw.of rfl (hts (.methodLinkNest RX1 118 yX0_isTolerated RX1) (by decide +kernel)), va_Nw.of rfl (hts (.methodLinkNest RL 63 yX2_init RL) (by decide +kernel))⟩
