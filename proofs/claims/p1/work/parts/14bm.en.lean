set_option maxHeartbeats 16000000 in
set_option maxRecDepth 100000 in
theorem En_of {p : Program} {s : State} {mI : MethodId} {meth : Method} {cO : Code} {bS L : Nat} {zs : Nat → Int32} (C0 : lw_At p s mI meth cO bS L zs) : ∃ (dC : Nat → ClassId) (dI : Nat → Nat → Nat) (k : Nat → ClassId), En (dC, dI) k (va_A [] s.heap.size) s s.heap := by
  obtain ⟨hx, hb, hr, hml, hown, hts, hX, hbl, hlocks, hgv⟩ := C0
  obtain ⟨d0, i0, hk0⟩ := u_known (C := RJ0) (T := TJ0) (N := 2) (n := 4) hts inJ0 (hts (.instantiable RJ0 4) (by decide +kernel))
  obtain ⟨d1, i1, hk1⟩ := u_known (C := RJx00060) (T := TJx00060) (N := 6) (n := 6) hts inJx00060 (hts (.instantiable RJx00060 6) (by decide +kernel))
  obtain ⟨d2, i2, hk2⟩ := u_known (C := RX0) (T := TX0) (N := 8) (n := 8) hts inX0 (hts (.instantiable RX0 8) (by decide +kernel))
  obtain ⟨d3, i3, hk3⟩ := u_known (C := RX1) (T := TX1) (N := 5) (n := 5) hts inX1 (hts (.instantiable RX1 5) (by decide +kernel))
  obtain ⟨d4, i4, hk4⟩ := u_known (C := RX3) (T := TX3) (N := 2) (n := 2) hts inX3 (hts (.instantiable RX3 2) (by decide +kernel))
  obtain ⟨d5, i5, hk5⟩ := u_known (C := RX4) (T := TX4) (N := 5) (n := 5) hts inX4 (hts (.instantiable RX4 5) (by decide +kernel))
  obtain ⟨d6, i6, hk6⟩ := u_known (C := RX5) (T := TX5) (N := 5) (n := 5) hts inX5 (hts (.instantiable RX5 5) (by decide +kernel))
  obtain ⟨d7, i7, hk7⟩ := u_known (C := RX6) (T := TX6) (N := 17) (n := 17) hts inX6 (hts (.instantiable RX6 17) (by decide +kernel))
  obtain ⟨d8, i8, hk8⟩ := u_known (C := RX7) (T := TX7) (N := 15) (n := 15) hts inX7 (hts (.instantiable RX7 15) (by decide +kernel))
  obtain ⟨d9, i9, hk9⟩ := u_known (C := RX8) (T := TX8) (N := 5) (n := 5) hts inX8 (hts (.instantiable RX8 5) (by decide +kernel))
  obtain ⟨d10, i10, hk10⟩ := u_known (C := RX10) (T := TX10) (N := 15) (n := 15) hts inX10 (hts (.instantiable RX10 15) (by decide +kernel))
  obtain ⟨d11, i11, hk11⟩ := u_known (C := RX11) (T := TX11) (N := 31) (n := 31) hts inX11 (hts (.instantiable RX11 31) (by decide +kernel))
  obtain ⟨dC, dI, hKc⟩ : ∃ (dC : Nat → ClassId) (dI : Nat → Nat → Nat), ∀ (c : Nat) (q : vw_C), vwCl[c]? = some q → u_Kn s q.1 q.2.1 q.2.2 (dC c) (dI c) := by
    refine ⟨fun q => if q = 0 then d0 else if q = 1 then d1 else if q = 2 then d2 else if q = 3 then d3 else if q = 4 then d4 else if q = 5 then d5 else if q = 6 then d6 else if q = 7 then d7 else if q = 8 then d8 else if q = 9 then d9 else if q = 10 then d10 else d11, fun q => if q = 0 then i0 else if q = 1 then i1 else if q = 2 then i2 else if q = 3 then i3 else if q = 4 then i4 else if q = 5 then i5 else if q = 6 then i6 else if q = 7 then i7 else if q = 8 then i8 else if q = 9 then i9 else if q = 10 then i10 else i11, ?_⟩
    intro c q hq
    match c, hq with
    | 0, hq => cases hq; exact hk0
    | 1, hq => cases hq; exact hk1
    | 2, hq => cases hq; exact hk2
    | 3, hq => cases hq; exact hk3
    | 4, hq => cases hq; exact hk4
    | 5, hq => cases hq; exact hk5
    | 6, hq => cases hq; exact hk6
    | 7, hq => cases hq; exact hk7
    | 8, hq => cases hq; exact hk8
    | 9, hq => cases hq; exact hk9
    | 10, hq => cases hq; exact hk10
    | 11, hq => cases hq; exact hk11
    | c + 12, hq => simp [vwCl] at hq
  obtain ⟨a0, ha0⟩ := ky_p (hts (.arrayClass .int) (by decide +kernel)) (by intro c h; cases h)
  obtain ⟨a1, ha1⟩ := ky_p (hts (.arrayClass .long) (by decide +kernel)) (by intro c h; cases h)
  obtain ⟨a2, ha2⟩ := ky_p (hts (.arrayClass .char) (by decide +kernel)) (by intro c h; cases h)
  obtain ⟨a3, ha3⟩ := ky_p (hts (.arrayClass .double) (by decide +kernel)) (by intro c h; cases h)
  obtain ⟨a4, ha4⟩ := ky_p (hts (.arrayClass .float) (by decide +kernel)) (by intro c h; cases h)
  obtain ⟨a5, ha5⟩ := ky_p (hts (.arrayClass .boolean) (by decide +kernel)) (by intro c h; cases h)
  have hao6 : va_AO "LoanServicing$Account" s := va_AO.of (hts (.arrayOver (.object "LoanServicing$Account")) (by decide +kernel))
  obtain ⟨a6, ha6⟩ := ky_o hao6
  have hao7 : va_AO "LoanServicing$Row" s := va_AO.of (hts (.arrayOver (.object "LoanServicing$Row")) (by decide +kernel))
  obtain ⟨a7, ha7⟩ := ky_o hao7
  obtain ⟨k, hk⟩ : ∃ k : Nat → ClassId, ∀ (i : Nat) (q : ClassId × FieldType), (TY k)[i]? = some q → ArrOfT s q.1 q.2 ∧ va_RA s q.1 q.2 := by
    refine ⟨fun q => if q = 0 then a0 else if q = 1 then a1 else if q = 2 then a2 else if q = 3 then a3 else if q = 4 then a4 else if q = 5 then a5 else if q = 6 then a6 else a7, ?_⟩
    intro i q hq
    match i, hq with
    | 0, hq => cases hq; exact ha0
    | 1, hq => cases hq; exact ha1
    | 2, hq => cases hq; exact ha2
    | 3, hq => cases hq; exact ha3
    | 4, hq => cases hq; exact ha4
    | 5, hq => cases hq; exact ha5
    | 6, hq => cases hq; exact ha6
    | 7, hq => cases hq; exact ha7
    | i + 8, hq => simp at hq
  have hs := flat_of_before _ hgv
  have hA : ∀ a : Nat, a < s.heap.size → ¬ va_A [] s.heap.size a := fun a h => fa_A rfl h
  obtain ⟨t1, ht1, hT1⟩ := va_Tof (tm := (.static "LoanServicing$Days" "MONTH_STARTS" "[I")) (ty := .int) (N := 12) (f := fun j => .int (aI msF j)) (A := va_A [] s.heap.size) (by decide) (hs (.arrayOf (.static "LoanServicing$Days" "MONTH_STARTS" "[I") .int) (by decide +kernel)) (va_eqt (hs (.eq (.length (.static "LoanServicing$Days" "MONTH_STARTS" "[I")) (.int 12)) (by decide +kernel))) (by
    intro j hj
    match j, hj with
    | 0, _ => rw [show aI msF 0 = (0 : Int32) from by decide]; exact va_eqt (hs (.eq (.elem (.static "LoanServicing$Days" "MONTH_STARTS" "[I") (.int 0)) (.int 0)) (by decide +kernel))
    | 1, _ => rw [show aI msF 1 = (31 : Int32) from by decide]; exact va_eqt (hs (.eq (.elem (.static "LoanServicing$Days" "MONTH_STARTS" "[I") (.int 1)) (.int 31)) (by decide +kernel))
    | 2, _ => rw [show aI msF 2 = (59 : Int32) from by decide]; exact va_eqt (hs (.eq (.elem (.static "LoanServicing$Days" "MONTH_STARTS" "[I") (.int 2)) (.int 59)) (by decide +kernel))
    | 3, _ => rw [show aI msF 3 = (90 : Int32) from by decide]; exact va_eqt (hs (.eq (.elem (.static "LoanServicing$Days" "MONTH_STARTS" "[I") (.int 3)) (.int 90)) (by decide +kernel))
    | 4, _ => rw [show aI msF 4 = (120 : Int32) from by decide]; exact va_eqt (hs (.eq (.elem (.static "LoanServicing$Days" "MONTH_STARTS" "[I") (.int 4)) (.int 120)) (by decide +kernel))
    | 5, _ => rw [show aI msF 5 = (151 : Int32) from by decide]; exact va_eqt (hs (.eq (.elem (.static "LoanServicing$Days" "MONTH_STARTS" "[I") (.int 5)) (.int 151)) (by decide +kernel))
    | 6, _ => rw [show aI msF 6 = (181 : Int32) from by decide]; exact va_eqt (hs (.eq (.elem (.static "LoanServicing$Days" "MONTH_STARTS" "[I") (.int 6)) (.int 181)) (by decide +kernel))
    | 7, _ => rw [show aI msF 7 = (212 : Int32) from by decide]; exact va_eqt (hs (.eq (.elem (.static "LoanServicing$Days" "MONTH_STARTS" "[I") (.int 7)) (.int 212)) (by decide +kernel))
    | 8, _ => rw [show aI msF 8 = (243 : Int32) from by decide]; exact va_eqt (hs (.eq (.elem (.static "LoanServicing$Days" "MONTH_STARTS" "[I") (.int 8)) (.int 243)) (by decide +kernel))
    | 9, _ => rw [show aI msF 9 = (273 : Int32) from by decide]; exact va_eqt (hs (.eq (.elem (.static "LoanServicing$Days" "MONTH_STARTS" "[I") (.int 9)) (.int 273)) (by decide +kernel))
    | 10, _ => rw [show aI msF 10 = (304 : Int32) from by decide]; exact va_eqt (hs (.eq (.elem (.static "LoanServicing$Days" "MONTH_STARTS" "[I") (.int 10)) (.int 304)) (by decide +kernel))
    | 11, _ => rw [show aI msF 11 = (334 : Int32) from by decide]; exact va_eqt (hs (.eq (.elem (.static "LoanServicing$Days" "MONTH_STARTS" "[I") (.int 11)) (.int 334)) (by decide +kernel))
    | j + 12, hj => exact absurd hj (by omega)) hA
  obtain ⟨t2, ht2, hT2⟩ := va_Tof (tm := (.static "LoanServicing$Account" "MOST_OF_RULES" "[I")) (ty := .int) (N := 5) (f := fun j => .int (aI mrF j)) (A := va_A [] s.heap.size) (by decide) (hs (.arrayOf (.static "LoanServicing$Account" "MOST_OF_RULES" "[I") .int) (by decide +kernel)) (va_eqt (hs (.eq (.length (.static "LoanServicing$Account" "MOST_OF_RULES" "[I")) (.int 5)) (by decide +kernel))) (by
    intro j hj
    match j, hj with
    | 0, _ => rw [show aI mrF 0 = (5 : Int32) from by decide]; exact va_eqt (hs (.eq (.elem (.static "LoanServicing$Account" "MOST_OF_RULES" "[I") (.int 0)) (.int 5)) (by decide +kernel))
    | 1, _ => rw [show aI mrF 1 = (1 : Int32) from by decide]; exact va_eqt (hs (.eq (.elem (.static "LoanServicing$Account" "MOST_OF_RULES" "[I") (.int 1)) (.int 1)) (by decide +kernel))
    | 2, _ => rw [show aI mrF 2 = (30 : Int32) from by decide]; exact va_eqt (hs (.eq (.elem (.static "LoanServicing$Account" "MOST_OF_RULES" "[I") (.int 2)) (.int 30)) (by decide +kernel))
    | 3, _ => rw [show aI mrF 3 = (100000 : Int32) from by decide]; exact va_eqt (hs (.eq (.elem (.static "LoanServicing$Account" "MOST_OF_RULES" "[I") (.int 3)) (.int 100000)) (by decide +kernel))
    | 4, _ => rw [show aI mrF 4 = (1 : Int32) from by decide]; exact va_eqt (hs (.eq (.elem (.static "LoanServicing$Account" "MOST_OF_RULES" "[I") (.int 4)) (.int 1)) (by decide +kernel))
    | j + 5, hj => exact absurd hj (by omega)) hA
  refine ⟨dC, dI, k, ⟨hKc, hk⟩, fun w hw => va_Nw.of (NW_on hw) (hts w (NW_in w hw)), fun q hq => va_Nc.of (hs _ (NWn_in q hq)), ⟨⟨t1, va_Zof (hts (.laysStatic "LoanServicing$Days" "MONTH_STARTS" "[I") (by decide +kernel)) (hts (.initialized "LoanServicing$Days") (by decide +kernel)) ht1 hA, hT1⟩, ⟨t2, va_Zof (hts (.laysStatic "LoanServicing$Account" "MOST_OF_RULES" "[I") (by decide +kernel)) (hts (.initialized "LoanServicing$Account") (by decide +kernel)) ht2 hA, hT2⟩, ?_, ?_⟩, hao6, hao7⟩
  · exact vx_Zqof (hts (.laysStatic Bundle.tN "UNASSIGNED_STACK" Bundle.steD) (by decide +kernel)) (hts (.initialized Bundle.tN) (by decide +kernel)) (hs (.isRef (.static Bundle.tN "UNASSIGNED_STACK" Bundle.steD)) (by decide +kernel)) hA
  · exact vx_Zqof (hts (.laysStatic Bundle.tN "SUPPRESSED_SENTINEL" Bundle.listD) (by decide +kernel)) (hts (.initialized Bundle.tN) (by decide +kernel)) (hs (.isRef (.static Bundle.tN "SUPPRESSED_SENTINEL" Bundle.listD)) (by decide +kernel)) hA
