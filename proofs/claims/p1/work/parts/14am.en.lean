
theorem ky_p {s : State} {args : Array Value} {ty : FieldType} (h : (Cond.arrayClass ty).before args s = true) (ho : ∀ c, ty = .object c → False) : ∃ cA : ClassId, ArrOfT s cA ty ∧ va_RA s cA ty := by
  obtain ⟨c, kA, comp, h1, h2, h3⟩ := Cond.arrayClass_spec h
  refine ⟨c, fun n z => ⟨fun q h => (by cases h), kA, h2, comp, h3⟩, ?_⟩
  cases ty with
  | object C => exact (ho C rfl).elim
  | _ => exact h1
theorem ky_o {s : State} {C : String} (h : va_AO C s) : ∃ cA : ClassId, ArrOfT s cA (.object C) ∧ va_RA s cA (.object C) := by
  obtain ⟨comp, c, kA, h1, h2, h3, h4, h5⟩ := Cond.arrayOver_spec h
  exact ⟨c, fun n z => ⟨fun q h => (by cases h), kA, h3, comp, h4⟩, kA, comp, h3, h4, h1, h5⟩
set_option maxRecDepth 20000 in
theorem NWf_in : ∀ q ∈ NWf, Cond.fieldLinkNest q.1 q.2.1 q.2.2.1 q.2.2.2.1 q.2.2.2.2 "LoanServicing" ∈ lw_tbl := by decide +kernel
set_option maxRecDepth 20000 in
theorem NWm_in : ∀ q ∈ NWm, Cond.methodLinkNest q.1 q.2.1 q.2.2 "LoanServicing" ∈ lw_tbl := by decide +kernel
set_option maxRecDepth 20000 in
theorem NWd_in : ∀ q ∈ NWd, Cond.declares q ∈ lw_tbl := by decide +kernel
set_option maxRecDepth 20000 in
theorem NWc_in : ∀ q ∈ NWc, Cond.castable q.1 q.2 ∈ lw_tbl := by decide +kernel
set_option maxRecDepth 20000 in
theorem NWn_in : ∀ q ∈ NWn, Cond.not (Cond.castable q.1 q.2) ∈ flatC (Jvm.Cond.and given_1 narrow_1) := by decide +kernel
theorem NW_in : ∀ w ∈ NW, w ∈ lw_tbl := by
  intro w hw
  rcases List.mem_append.mp hw with h1 | h1
  · obtain ⟨q, hq, rfl⟩ := List.mem_map.mp h1; exact NWf_in q hq
  · rcases List.mem_append.mp h1 with h1 | h1
    · obtain ⟨q, hq, rfl⟩ := List.mem_map.mp h1; exact NWm_in q hq
    · rcases List.mem_append.mp h1 with h1 | h1
      · obtain ⟨q, hq, rfl⟩ := List.mem_map.mp h1; exact NWd_in q hq
      · obtain ⟨q, hq, rfl⟩ := List.mem_map.mp h1; exact NWc_in q hq
