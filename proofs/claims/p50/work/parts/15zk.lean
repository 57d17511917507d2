theorem FTM_in : ∀ q ∈ FTM, Cond.methodLinkNest q.1 q.2.1 q.2.2.1 q.2.2.2 ∈ lw_tbl := by decide +kernel
theorem FTF_in : ∀ q ∈ FTF, Cond.fieldLinkNest q.1 q.2.1 q.2.2.1 q.2.2.2.1 q.2.2.2.2.1 q.2.2.2.2.2 ∈ lw_tbl := by decide +kernel
theorem FTC_in : ∀ q ∈ FTC, Cond.castable q.1 q.2 ∈ lw_tbl := by decide +kernel
theorem FTO_in : ∀ q ∈ FTO, Cond.arrayOver (.object q) ∈ lw_tbl := by decide +kernel
theorem FTS_in : ∀ q ∈ FTS, Cond.stringRef q.1 q.2.1 q.2.2 ∈ lw_tbl := by decide +kernel
theorem FTD_in : ∀ q ∈ FTD, Cond.declares q ∈ lw_tbl := by decide +kernel
theorem FTN_in : ∀ q ∈ FTN, Cond.not (.castable q.1 q.2) ∈ flatC (Jvm.Cond.and given_1 narrow_1) := by decide +kernel
theorem FTS_ex : ∀ q ∈ FTS, Cond.exactly (.string q.1 q.2.1) "java/lang/String" ∈ flatC (Jvm.Cond.and given_1 narrow_1) := by decide +kernel
set_option maxHeartbeats 4000000 in
set_option maxRecDepth 100000 in
/-- what the start gives beside the words -/
theorem z_start {s : State} {args : Array Value} (hts : ∀ w ∈ lw_tbl, w.before args s = true) (hgv : (Jvm.Cond.and given_1 narrow_1).before args s = true) {A : Nat → Prop} (hA : ∀ a : Nat, a < s.heap.size → ¬ A a) {b L : Nat} {xs : Nat → Int32} (hX : va_X b L xs s s.heap) (hbl : b < s.heap.size) : FT (b, L, xs) s ∧ FZ (b, L, xs) A s s.heap := by
  have hs := flat_of_before _ hgv
  refine ⟨⟨fun q hq => va_Nw.of rfl (hts _ (FTM_in q hq)), fun q hq => va_Nw.of rfl (hts _ (FTF_in q hq)), fun q hq => va_Nw.of rfl (hts _ (FTC_in q hq)), fun q hq => va_Nc.of (hs _ (FTN_in q hq)), fun q hq => va_AO.of (hts _ (FTO_in q hq)), fun q hq => ?_, trivial, fun q hq => va_Nw.of rfl (hts _ (FTD_in q hq)), hts (.arrayOver (.array .int)) (by decide +kernel)⟩, ?_, ?_, ?_⟩
  · obtain ⟨a, c0, cell, k0, h1, -⟩ := Cond.exactly_spec (args := args) (first := s) (o := none) (s := s) (idx := []) (hs _ (FTS_ex q hq))
    exact ⟨a, vk_R.of (hts _ (FTS_in q hq)) h1⟩
  · exact vx_Zqof (hts (.laysStatic Bundle.tN "UNASSIGNED_STACK" Bundle.steD) (by decide +kernel)) (hts (.initialized Bundle.tN) (by decide +kernel)) (hs (.isRef (.static Bundle.tN "UNASSIGNED_STACK" Bundle.steD)) (by decide +kernel)) hA
  · exact vx_Zqof (hts (.laysStatic Bundle.tN "SUPPRESSED_SENTINEL" Bundle.listD) (by decide +kernel)) (hts (.initialized Bundle.tN) (by decide +kernel)) (hs (.isRef (.static Bundle.tN "SUPPRESSED_SENTINEL" Bundle.listD)) (by decide +kernel)) hA
  · obtain ⟨scr, h1, h2, h3, h4, h5⟩ := hX
    exact ⟨scr, h1, h2, h3, Nat.le_of_eq h4.symm, by show scr.slots.size.toInt32 = Int32.ofNat L; rw [h4], h5, hA b hbl⟩

