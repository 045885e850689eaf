theorem gX0_init_X1_init_n27 : GoodIn woX0_init woX1_init := go_N (wl_3 (List.mem_of_getElem? (i := 15) rfl))
theorem gX0_init_X5_init_n34 : GoodIn woX0_init woX5_init := go_N (wl_3 (List.mem_of_getElem? (i := 20) rfl))
theorem gX0_init_X6_init_n20 : GoodIn woX0_init woX6_init := go_N (wl_3 (List.mem_of_getElem? (i := 11) rfl))
set_option maxHeartbeats 4000000 in
set_option maxRecDepth 100000 in
/-- Loan() -/
theorem c_X6_init (l : Launch) (dC : Nat → ClassId) (dI : Nat → Nat → Nat) (k : Nat → ClassId) (h0 : Nat) (sz : Nat) : Met l yX6_init woX6_init ({ frames := 1, cells := 1, slots := 8, locals := 12 } : Room) (PcW (dC, dI) k [.ref h0] [(h0, .inr (7, [.int (iI 0), .int (iI 0), .int (iI 0), .long (lI 0), .int (iI 0), .int (iI 0), .int (iI 0), .long (lI 0), .long (lI 0), .long (lI 0), .long (lI 0), .long (lI 0), .int (iI 0), .int (iI 0), .int (iI 0), .int (iI 0), .null]))] sz) (va_Qv (fun (_ : Nat) => True) (QB (dC, dI) [(h0, .inr (7, [.int (iI 0), .int (iI 0), .int (iI 0), .long (lI 0), .int (iI 0), .int (iI 0), .int (iI 0), .long (lI 0), .long (lI 0), .long (lI 0), .long (lI 0), .long (lI 0), .int (iI 0), .int (iI 0), .int (iI 0), .int (iI 0), .null]))] (fun u => [(h0, .inr (7, [.int (iI 0), .int (iI 0), .int (iI 0), .long (lI 0), .int (iI 0), .int (iI 0), .int (iI 0), .long (lI 0), .long (lI 0), .long (lI 0), .long (lI 0), .long (lI 0), .int (iI 0), .int (iI 0), .int (iI 0), .int (iI 0), .ref u])), (u, .inl (k 1, 8, .inr (.inl (aL aZ))))]) sz) (va_A [(h0, .inr (7, [.int (iI 0), .int (iI 0), .int (iI 0), .long (lI 0), .int (iI 0), .int (iI 0), .int (iI 0), .long (lI 0), .long (lI 0), .long (lI 0), .long (lI 0), .long (lI 0), .int (iI 0), .int (iI 0), .int (iI 0), .int (iI 0), .null]))] sz)) 1 8 (va_A [(h0, .inr (7, [.int (iI 0), .int (iI 0), .int (iI 0), .long (lI 0), .int (iI 0), .int (iI 0), .int (iI 0), .long (lI 0), .long (lI 0), .long (lI 0), .long (lI 0), .long (lI 0), .int (iI 0), .int (iI 0), .int (iI 0), .int (iI 0), .null]))] sz) := by
  refine Met.ofW (cc := cX6_init) (maxL := 1) (ret := none) (by decide) rfl ?_
  intro p e s mI args below meth cO s₁ B hml hv
  obtain ⟨rfl, rfl, hP, hD0, hE⟩ := hv
  have hx := B.exec
  have hb := B.bytes
  have hr := B.returns
  have hts := atoms_spec (ws := woX6_init) B.pre
  have hown : s.vm.findClass RX6 = some mI.cls := findClass_of_methodNamed B.named
  have hlocks := B.notSynchronized
  have hin : meth.name = "<init>" := (name_of_methodNamed B.named B.method).1
  have hD := hD0.self (sz := s.heap.size)
  generalize hAe : va_A [(h0, .inr (7, [.int (iI 0), .int (iI 0), .int (iI 0), .long (lI 0), .int (iI 0), .int (iI 0), .int (iI 0), .long (lI 0), .long (lI 0), .long (lI 0), .long (lI 0), .long (lI 0), .int (iI 0), .int (iI 0), .int (iI 0), .int (iI 0), .null]))] s.heap.size = A at hD hE ⊢
  have hA : ∀ q : Nat, s.heap.size ≤ q → A q := fun q h => by rw [← hAe]; exact Or.inr h
  have hS : va_S A s.heap s.heap [] := va_S.rf
  obtain ⟨hK, hNw, hNc, hZs, hAO1, hAO2⟩ := id hE
  have hSF : CallFix p mI cO cX6_init 1 s ([.ref h0] : List Value).toArray woX6_init RX6 := ⟨hx, hb, hml, hown, hts⟩
  have hl := lv_entry ([.ref h0] : List Value) (n := 1) (Nat.le_of_ble_eq_true rfl)
  rw [lg_entry_eq]
  generalize (lg_sl ([.ref h0] : List Value) ++ List.replicate (1 - (lg_sl ([.ref h0] : List Value)).length) Slot.unset).toArray = ls at hl ⊢
  have hl : lv_has ls 1 [(0, .ref h0)] := hl
  refine W_gen (fun Q hQ => ?_)
  change W p l e ({ frames := 1, cells := 1, slots := 8, locals := 12 } : Room) s mI _ below meth cO s.heap [] 0 0 Q _
  have hP : va_P (dC, dI) vwCl [(h0, .inr (7, [.int (iI 0), .int (iI 0), .int (iI 0), .long (lI 0), .int (iI 0), .int (iI 0), .int (iI 0), .long (lI 0), .long (lI 0), .long (lI 0), .long (lI 0), .long (lI 0), .int (iI 0), .int (iI 0), .int (iI 0), .int (iI 0), .null]))] s.heap := hP
  refine lv_aload_n hx hb dX6_init_0 rfl (lv_at hl 0 rfl) ?_
  refine W.objInit hx hb hown (hts (.methodLink RX6 3 objectInit) (List.mem_cons_of_mem _ (wl_3 (List.mem_of_getElem? (i := 12) rfl)))) (hts (.instanceMethod objectInit) (List.mem_cons_of_mem _ (wl_1 (List.mem_of_getElem? (i := 12) rfl)))) (hts (.code objectInit ⟨#[0xb1]⟩ 1 none) (List.mem_cons_of_mem _ (wl_1 (List.mem_of_getElem? (i := 13) rfl)))) rfl (by rw [hml]; exact hl.1) rfl dX6_init_1 (Nat.le_of_ble_eq_true rfl) (Nat.le_of_ble_eq_true rfl) ?_
  refine W.eq (g2 := F0 mI 4 ls []) rfl ?_
  refine lv_aload_n hx hb dX6_init_4 rfl (lv_at hl 0 rfl) ?_
  refine q_bipush (z := 8) hx hb dX6_init_5 (by decide) ?_
  refine q_newL (N := 8) hx hb (hts (.arrayClass .long) (List.mem_cons_of_mem _ (wl_1 (List.mem_of_getElem? (i := 6) rfl)))) hK 1 rfl hP hD hS hA ⟨by omega, by omega⟩ (Nat.le_of_ble_eq_true rfl) (Nat.le_of_ble_eq_true rfl) dX6_init_7 (fun q7 H hP hD hS => ?_)
  have hP : va_P (dC, dI) vwCl [(h0, .inr (7, [.int (iI 0), .int (iI 0), .int (iI 0), .long (lI 0), .int (iI 0), .int (iI 0), .int (iI 0), .long (lI 0), .long (lI 0), .long (lI 0), .long (lI 0), .long (lI 0), .int (iI 0), .int (iI 0), .int (iI 0), .int (iI 0), .null])), (q7, .inl (k 1, 8, .inr (.inl (aL aZ))))] H := hP
  have hD : va_D A [(h0, .inr (7, [.int (iI 0), .int (iI 0), .int (iI 0), .long (lI 0), .int (iI 0), .int (iI 0), .int (iI 0), .long (lI 0), .long (lI 0), .long (lI 0), .long (lI 0), .long (lI 0), .int (iI 0), .int (iI 0), .int (iI 0), .int (iI 0), .null])), (q7, .inl (k 1, 8, .inr (.inl (aL aZ))))] := hD
  refine va_putF (D := (dC, dI)) (ci := 7) (v := .ref q7) (ty := .array .long) (C := RX6) (T := TX6) (N := 17) hx hb hts (fun _ h => List.mem_cons_of_mem _ (inlX6 _ h)) tyX6 tyX6_ok nmX6 hown hK hP hD hS 0 rfl rfl 16 (by decide) (hts (.fieldLink RX6 9 "LoanServicing$Loan" "sums" "[J") (List.mem_cons_of_mem _ (wl_3 (List.mem_of_getElem? (i := 13) rfl)))) (fun _ h9 => h9) rfl hin rfl (by decide +kernel) rfl rfl (Nat.le_of_ble_eq_true rfl) dX6_init_9 (fun H locs hP hD hS => ?_)
  have hP : va_P (dC, dI) vwCl [(h0, .inr (7, [.int (iI 0), .int (iI 0), .int (iI 0), .long (lI 0), .int (iI 0), .int (iI 0), .int (iI 0), .long (lI 0), .long (lI 0), .long (lI 0), .long (lI 0), .long (lI 0), .int (iI 0), .int (iI 0), .int (iI 0), .int (iI 0), .ref q7])), (q7, .inl (k 1, 8, .inr (.inl (aL aZ))))] H := hP
  have hD : va_D A [(h0, .inr (7, [.int (iI 0), .int (iI 0), .int (iI 0), .long (lI 0), .int (iI 0), .int (iI 0), .int (iI 0), .long (lI 0), .long (lI 0), .long (lI 0), .long (lI 0), .long (lI 0), .int (iI 0), .int (iI 0), .int (iI 0), .int (iI 0), .ref q7])), (q7, .inl (k 1, 8, .inr (.inl (aL aZ))))] := hD
  rw [hQ]
  refine W.widen (k := 1) (n := 8) (Nat.le_of_ble_eq_true rfl) (Nat.le_of_ble_eq_true rfl) ?_
  exact W.vret hx hb hr (fun t ht hW => ⟨⟨(q7), rfl, trivial, by rw [ht]; exact hP.sub [0, 1] rfl, by rw [hAe]; exact hD.sub [0, 1] (by decide) rfl⟩, hS.F ht⟩) hS.2.2 dX6_init_12
set_option maxHeartbeats 4000000 in
set_option maxRecDepth 100000 in
/-- Bills() -/
theorem c_X1_init (l : Launch) (dC : Nat → ClassId) (dI : Nat → Nat → Nat) (k : Nat → ClassId) (h0 : Nat) (sz : Nat) : Met l yX1_init woX1_init ({ frames := 1, cells := 2, slots := 528, locals := 12 } : Room) (PcW (dC, dI) k [.ref h0] [(h0, .inr (3, [.null, .null, .int (iI 0), .int (iI 0), .int (iI 0)]))] sz) (va_Qv (fun (_ : Nat × Nat) => True) (QB (dC, dI) [(h0, .inr (3, [.null, .null, .int (iI 0), .int (iI 0), .int (iI 0)]))] (fun u => [(h0, .inr (3, [.ref u.1, .ref u.2, .int (iI 0), .int (iI 0), .int (iI 0)])), (u.1, .inl (k 1, 264, .inr (.inl (aL aZ)))), (u.2, .inl (k 0, 264, .inl (aI aZ)))]) sz) (va_A [(h0, .inr (3, [.null, .null, .int (iI 0), .int (iI 0), .int (iI 0)]))] sz)) 2 528 (va_A [(h0, .inr (3, [.null, .null, .int (iI 0), .int (iI 0), .int (iI 0)]))] sz) := by
  refine Met.ofW (cc := cX1_init) (maxL := 1) (ret := none) (by decide) rfl ?_
  intro p e s mI args below meth cO s₁ B hml hv
  obtain ⟨rfl, rfl, hP, hD0, hE⟩ := hv
  have hx := B.exec
  have hb := B.bytes
  have hr := B.returns
  have hts := atoms_spec (ws := woX1_init) B.pre
  have hown : s.vm.findClass RX1 = some mI.cls := findClass_of_methodNamed B.named
  have hlocks := B.notSynchronized
  have hin : meth.name = "<init>" := (name_of_methodNamed B.named B.method).1
  have hD := hD0.self (sz := s.heap.size)
  generalize hAe : va_A [(h0, .inr (3, [.null, .null, .int (iI 0), .int (iI 0), .int (iI 0)]))] s.heap.size = A at hD hE ⊢
  have hA : ∀ q : Nat, s.heap.size ≤ q → A q := fun q h => by rw [← hAe]; exact Or.inr h
  have hS : va_S A s.heap s.heap [] := va_S.rf
  obtain ⟨hK, hNw, hNc, hZs, hAO1, hAO2⟩ := id hE
  have hSF : CallFix p mI cO cX1_init 1 s ([.ref h0] : List Value).toArray woX1_init RX1 := ⟨hx, hb, hml, hown, hts⟩
  have hl := lv_entry ([.ref h0] : List Value) (n := 1) (Nat.le_of_ble_eq_true rfl)
  rw [lg_entry_eq]
  generalize (lg_sl ([.ref h0] : List Value) ++ List.replicate (1 - (lg_sl ([.ref h0] : List Value)).length) Slot.unset).toArray = ls at hl ⊢
  have hl : lv_has ls 1 [(0, .ref h0)] := hl
  refine W_gen (fun Q hQ => ?_)
  change W p l e ({ frames := 1, cells := 2, slots := 528, locals := 12 } : Room) s mI _ below meth cO s.heap [] 0 0 Q _
  have hP : va_P (dC, dI) vwCl [(h0, .inr (3, [.null, .null, .int (iI 0), .int (iI 0), .int (iI 0)]))] s.heap := hP
  refine lv_aload_n hx hb dX1_init_0 rfl (lv_at hl 0 rfl) ?_
  refine W.objInit hx hb hown (hts (.methodLink RX1 1 objectInit) (List.mem_cons_of_mem _ (wl_3 (List.mem_of_getElem? (i := 16) rfl)))) (hts (.instanceMethod objectInit) (List.mem_cons_of_mem _ (wl_1 (List.mem_of_getElem? (i := 12) rfl)))) (hts (.code objectInit ⟨#[0xb1]⟩ 1 none) (List.mem_cons_of_mem _ (wl_1 (List.mem_of_getElem? (i := 13) rfl)))) rfl (by rw [hml]; exact hl.1) rfl dX1_init_1 (Nat.le_of_ble_eq_true rfl) (Nat.le_of_ble_eq_true rfl) ?_
  refine W.eq (g2 := F0 mI 4 ls []) rfl ?_
  refine lv_aload_n hx hb dX1_init_4 rfl (lv_at hl 0 rfl) ?_
  refine q_sipush (z := 264) hx hb dX1_init_5 (by decide) ?_
  refine q_newL (N := 264) hx hb (hts (.arrayClass .long) (List.mem_cons_of_mem _ (wl_1 (List.mem_of_getElem? (i := 6) rfl)))) hK 1 rfl hP hD hS hA ⟨by omega, by omega⟩ (Nat.le_of_ble_eq_true rfl) (Nat.le_of_ble_eq_true rfl) dX1_init_8 (fun q8 H hP hD hS => ?_)
  have hP : va_P (dC, dI) vwCl [(h0, .inr (3, [.null, .null, .int (iI 0), .int (iI 0), .int (iI 0)])), (q8, .inl (k 1, 264, .inr (.inl (aL aZ))))] H := hP
  have hD : va_D A [(h0, .inr (3, [.null, .null, .int (iI 0), .int (iI 0), .int (iI 0)])), (q8, .inl (k 1, 264, .inr (.inl (aL aZ))))] := hD
  refine va_putF (D := (dC, dI)) (ci := 3) (v := .ref q8) (ty := .array .long) (C := RX1) (T := TX1) (N := 5) hx hb hts (fun _ h => List.mem_cons_of_mem _ (inlX1 _ h)) tyX1 tyX1_ok nmX1 hown hK hP hD hS 0 rfl rfl 0 (by decide) (hts (.fieldLink RX1 9 "LoanServicing$Bills" "unpaid" "[J") (List.mem_cons_of_mem _ (wl_3 (List.mem_of_getElem? (i := 17) rfl)))) (fun _ h9 => h9) rfl hin rfl (by decide +kernel) rfl rfl (Nat.le_of_ble_eq_true rfl) dX1_init_10 (fun H locs hP hD hS => ?_)
  have hP : va_P (dC, dI) vwCl [(h0, .inr (3, [.ref q8, .null, .int (iI 0), .int (iI 0), .int (iI 0)])), (q8, .inl (k 1, 264, .inr (.inl (aL aZ))))] H := hP
  have hD : va_D A [(h0, .inr (3, [.ref q8, .null, .int (iI 0), .int (iI 0), .int (iI 0)])), (q8, .inl (k 1, 264, .inr (.inl (aL aZ))))] := hD
  refine lv_aload_n hx hb dX1_init_13 rfl (lv_at hl 0 rfl) ?_
  refine q_sipush (z := 264) hx hb dX1_init_14 (by decide) ?_
  refine q_newI (N := 264) hx hb (hts (.arrayClass .int) (List.mem_cons_of_mem _ (wl_2 (List.mem_of_getElem? (i := 19) rfl)))) hK 0 rfl hP hD hS hA ⟨by omega, by omega⟩ (Nat.le_of_ble_eq_true rfl) (Nat.le_of_ble_eq_true rfl) dX1_init_17 (fun q17 H hP hD hS => ?_)
  have hP : va_P (dC, dI) vwCl [(h0, .inr (3, [.ref q8, .null, .int (iI 0), .int (iI 0), .int (iI 0)])), (q8, .inl (k 1, 264, .inr (.inl (aL aZ)))), (q17, .inl (k 0, 264, .inl (aI aZ)))] H := hP
  have hD : va_D A [(h0, .inr (3, [.ref q8, .null, .int (iI 0), .int (iI 0), .int (iI 0)])), (q8, .inl (k 1, 264, .inr (.inl (aL aZ)))), (q17, .inl (k 0, 264, .inl (aI aZ)))] := hD
  refine va_putF (D := (dC, dI)) (ci := 3) (v := .ref q17) (ty := .array .int) (C := RX1) (T := TX1) (N := 5) hx hb hts (fun _ h => List.mem_cons_of_mem _ (inlX1 _ h)) tyX1 tyX1_ok nmX1 hown hK hP hD hS 0 rfl rfl 1 (by decide) (hts (.fieldLink RX1 13 "LoanServicing$Bills" "madeOn" "[I") (List.mem_cons_of_mem _ (wl_3 (List.mem_of_getElem? (i := 18) rfl)))) (fun _ h9 => h9) rfl hin rfl (by decide +kernel) rfl rfl (Nat.le_of_ble_eq_true rfl) dX1_init_19 (fun H locs hP hD hS => ?_)
  have hP : va_P (dC, dI) vwCl [(h0, .inr (3, [.ref q8, .ref q17, .int (iI 0), .int (iI 0), .int (iI 0)])), (q8, .inl (k 1, 264, .inr (.inl (aL aZ)))), (q17, .inl (k 0, 264, .inl (aI aZ)))] H := hP
  have hD : va_D A [(h0, .inr (3, [.ref q8, .ref q17, .int (iI 0), .int (iI 0), .int (iI 0)])), (q8, .inl (k 1, 264, .inr (.inl (aL aZ)))), (q17, .inl (k 0, 264, .inl (aI aZ)))] := hD
  rw [hQ]
  refine W.widen (k := 2) (n := 528) (Nat.le_of_ble_eq_true rfl) (Nat.le_of_ble_eq_true rfl) ?_
  exact W.vret hx hb hr (fun t ht hW => ⟨⟨(q8, q17), rfl, trivial, by rw [ht]; exact hP.sub [0, 1, 2] rfl, by rw [hAe]; exact hD.sub [0, 1, 2] (by decide) rfl⟩, hS.F ht⟩) hS.2.2 dX1_init_22
set_option maxHeartbeats 4000000 in
set_option maxRecDepth 100000 in
/-- Ledger() -/
theorem c_X5_init (l : Launch) (dC : Nat → ClassId) (dI : Nat → Nat → Nat) (k : Nat → ClassId) (h0 : Nat) (sz : Nat) : Met l yX5_init woX5_init ({ frames := 1, cells := 3, slots := 180, locals := 12 } : Room) (PcW (dC, dI) k [.ref h0] [(h0, .inr (6, [.null, .null, .null, .int (iI 0), .int (iI 0)]))] sz) (va_Qv (fun (_ : Nat × Nat × Nat) => True) (QB (dC, dI) [(h0, .inr (6, [.null, .null, .null, .int (iI 0), .int (iI 0)]))] (fun u => [(h0, .inr (6, [.ref u.1, .ref u.2.1, .ref u.2.2, .int (iI 0), .int (iI 0)])), (u.1, .inl (k 0, 60, .inl (aI aZ))), (u.2.1, .inl (k 0, 60, .inl (aI aZ))), (u.2.2, .inl (k 1, 60, .inr (.inl (aL aZ))))]) sz) (va_A [(h0, .inr (6, [.null, .null, .null, .int (iI 0), .int (iI 0)]))] sz)) 3 180 (va_A [(h0, .inr (6, [.null, .null, .null, .int (iI 0), .int (iI 0)]))] sz) := by
  refine Met.ofW (cc := cX5_init) (maxL := 1) (ret := none) (by decide) rfl ?_
  intro p e s mI args below meth cO s₁ B hml hv
  obtain ⟨rfl, rfl, hP, hD0, hE⟩ := hv
  have hx := B.exec
  have hb := B.bytes
  have hr := B.returns
  have hts := atoms_spec (ws := woX5_init) B.pre
  have hown : s.vm.findClass RX5 = some mI.cls := findClass_of_methodNamed B.named
  have hlocks := B.notSynchronized
  have hin : meth.name = "<init>" := (name_of_methodNamed B.named B.method).1
  have hD := hD0.self (sz := s.heap.size)
  generalize hAe : va_A [(h0, .inr (6, [.null, .null, .null, .int (iI 0), .int (iI 0)]))] s.heap.size = A at hD hE ⊢
  have hA : ∀ q : Nat, s.heap.size ≤ q → A q := fun q h => by rw [← hAe]; exact Or.inr h
  have hS : va_S A s.heap s.heap [] := va_S.rf
  obtain ⟨hK, hNw, hNc, hZs, hAO1, hAO2⟩ := id hE
  have hSF : CallFix p mI cO cX5_init 1 s ([.ref h0] : List Value).toArray woX5_init RX5 := ⟨hx, hb, hml, hown, hts⟩
  have hl := lv_entry ([.ref h0] : List Value) (n := 1) (Nat.le_of_ble_eq_true rfl)
  rw [lg_entry_eq]
  generalize (lg_sl ([.ref h0] : List Value) ++ List.replicate (1 - (lg_sl ([.ref h0] : List Value)).length) Slot.unset).toArray = ls at hl ⊢
  have hl : lv_has ls 1 [(0, .ref h0)] := hl
  refine W_gen (fun Q hQ => ?_)
  change W p l e ({ frames := 1, cells := 3, slots := 180, locals := 12 } : Room) s mI _ below meth cO s.heap [] 0 0 Q _
  have hP : va_P (dC, dI) vwCl [(h0, .inr (6, [.null, .null, .null, .int (iI 0), .int (iI 0)]))] s.heap := hP
  refine lv_aload_n hx hb dX5_init_0 rfl (lv_at hl 0 rfl) ?_
  refine W.objInit hx hb hown (hts (.methodLink RX5 1 objectInit) (List.mem_cons_of_mem _ (wl_3 (List.mem_of_getElem? (i := 21) rfl)))) (hts (.instanceMethod objectInit) (List.mem_cons_of_mem _ (wl_1 (List.mem_of_getElem? (i := 12) rfl)))) (hts (.code objectInit ⟨#[0xb1]⟩ 1 none) (List.mem_cons_of_mem _ (wl_1 (List.mem_of_getElem? (i := 13) rfl)))) rfl (by rw [hml]; exact hl.1) rfl dX5_init_1 (Nat.le_of_ble_eq_true rfl) (Nat.le_of_ble_eq_true rfl) ?_
  refine W.eq (g2 := F0 mI 4 ls []) rfl ?_
  refine lv_aload_n hx hb dX5_init_4 rfl (lv_at hl 0 rfl) ?_
  refine q_bipush (z := 60) hx hb dX5_init_5 (by decide) ?_
  refine q_newI (N := 60) hx hb (hts (.arrayClass .int) (List.mem_cons_of_mem _ (wl_2 (List.mem_of_getElem? (i := 19) rfl)))) hK 0 rfl hP hD hS hA ⟨by omega, by omega⟩ (Nat.le_of_ble_eq_true rfl) (Nat.le_of_ble_eq_true rfl) dX5_init_7 (fun q7 H hP hD hS => ?_)
  have hP : va_P (dC, dI) vwCl [(h0, .inr (6, [.null, .null, .null, .int (iI 0), .int (iI 0)])), (q7, .inl (k 0, 60, .inl (aI aZ)))] H := hP
  have hD : va_D A [(h0, .inr (6, [.null, .null, .null, .int (iI 0), .int (iI 0)])), (q7, .inl (k 0, 60, .inl (aI aZ)))] := hD
  refine va_putF (D := (dC, dI)) (ci := 6) (v := .ref q7) (ty := .array .int) (C := RX5) (T := TX5) (N := 5) hx hb hts (fun _ h => List.mem_cons_of_mem _ (inlX5 _ h)) tyX5 tyX5_ok nmX5 hown hK hP hD hS 0 rfl rfl 0 (by decide) (hts (.fieldLink RX5 9 "LoanServicing$Ledger" "kinds" "[I") (List.mem_cons_of_mem _ (wl_3 (List.mem_of_getElem? (i := 22) rfl)))) (fun _ h9 => h9) rfl hin rfl (by decide +kernel) rfl rfl (Nat.le_of_ble_eq_true rfl) dX5_init_9 (fun H locs hP hD hS => ?_)
  have hP : va_P (dC, dI) vwCl [(h0, .inr (6, [.ref q7, .null, .null, .int (iI 0), .int (iI 0)])), (q7, .inl (k 0, 60, .inl (aI aZ)))] H := hP
  have hD : va_D A [(h0, .inr (6, [.ref q7, .null, .null, .int (iI 0), .int (iI 0)])), (q7, .inl (k 0, 60, .inl (aI aZ)))] := hD
  refine lv_aload_n hx hb dX5_init_12 rfl (lv_at hl 0 rfl) ?_
  refine q_bipush (z := 60) hx hb dX5_init_13 (by decide) ?_
  refine q_newI (N := 60) hx hb (hts (.arrayClass .int) (List.mem_cons_of_mem _ (wl_2 (List.mem_of_getElem? (i := 19) rfl)))) hK 0 rfl hP hD hS hA ⟨by omega, by omega⟩ (Nat.le_of_ble_eq_true rfl) (Nat.le_of_ble_eq_true rfl) dX5_init_15 (fun q15 H hP hD hS => ?_)
  have hP : va_P (dC, dI) vwCl [(h0, .inr (6, [.ref q7, .null, .null, .int (iI 0), .int (iI 0)])), (q7, .inl (k 0, 60, .inl (aI aZ))), (q15, .inl (k 0, 60, .inl (aI aZ)))] H := hP
  have hD : va_D A [(h0, .inr (6, [.ref q7, .null, .null, .int (iI 0), .int (iI 0)])), (q7, .inl (k 0, 60, .inl (aI aZ))), (q15, .inl (k 0, 60, .inl (aI aZ)))] := hD
  refine va_putF (D := (dC, dI)) (ci := 6) (v := .ref q15) (ty := .array .int) (C := RX5) (T := TX5) (N := 5) hx hb hts (fun _ h => List.mem_cons_of_mem _ (inlX5 _ h)) tyX5 tyX5_ok nmX5 hown hK hP hD hS 0 rfl rfl 1 (by decide) (hts (.fieldLink RX5 13 "LoanServicing$Ledger" "days" "[I") (List.mem_cons_of_mem _ (wl_3 (List.mem_of_getElem? (i := 23) rfl)))) (fun _ h9 => h9) rfl hin rfl (by decide +kernel) rfl rfl (Nat.le_of_ble_eq_true rfl) dX5_init_17 (fun H locs hP hD hS => ?_)
  have hP : va_P (dC, dI) vwCl [(h0, .inr (6, [.ref q7, .ref q15, .null, .int (iI 0), .int (iI 0)])), (q7, .inl (k 0, 60, .inl (aI aZ))), (q15, .inl (k 0, 60, .inl (aI aZ)))] H := hP
  have hD : va_D A [(h0, .inr (6, [.ref q7, .ref q15, .null, .int (iI 0), .int (iI 0)])), (q7, .inl (k 0, 60, .inl (aI aZ))), (q15, .inl (k 0, 60, .inl (aI aZ)))] := hD
  refine lv_aload_n hx hb dX5_init_20 rfl (lv_at hl 0 rfl) ?_
  refine q_bipush (z := 60) hx hb dX5_init_21 (by decide) ?_
  refine q_newL (N := 60) hx hb (hts (.arrayClass .long) (List.mem_cons_of_mem _ (wl_1 (List.mem_of_getElem? (i := 6) rfl)))) hK 1 rfl hP hD hS hA ⟨by omega, by omega⟩ (Nat.le_of_ble_eq_true rfl) (Nat.le_of_ble_eq_true rfl) dX5_init_23 (fun q23 H hP hD hS => ?_)
  have hP : va_P (dC, dI) vwCl [(h0, .inr (6, [.ref q7, .ref q15, .null, .int (iI 0), .int (iI 0)])), (q7, .inl (k 0, 60, .inl (aI aZ))), (q15, .inl (k 0, 60, .inl (aI aZ))), (q23, .inl (k 1, 60, .inr (.inl (aL aZ))))] H := hP
  have hD : va_D A [(h0, .inr (6, [.ref q7, .ref q15, .null, .int (iI 0), .int (iI 0)])), (q7, .inl (k 0, 60, .inl (aI aZ))), (q15, .inl (k 0, 60, .inl (aI aZ))), (q23, .inl (k 1, 60, .inr (.inl (aL aZ))))] := hD
  refine va_putF (D := (dC, dI)) (ci := 6) (v := .ref q23) (ty := .array .long) (C := RX5) (T := TX5) (N := 5) hx hb hts (fun _ h => List.mem_cons_of_mem _ (inlX5 _ h)) tyX5 tyX5_ok nmX5 hown hK hP hD hS 0 rfl rfl 2 (by decide) (hts (.fieldLink RX5 16 "LoanServicing$Ledger" "amounts" "[J") (List.mem_cons_of_mem _ (wl_4 (List.mem_of_getElem? (i := 0) rfl)))) (fun _ h9 => h9) rfl hin rfl (by decide +kernel) rfl rfl (Nat.le_of_ble_eq_true rfl) dX5_init_25 (fun H locs hP hD hS => ?_)
  have hP : va_P (dC, dI) vwCl [(h0, .inr (6, [.ref q7, .ref q15, .ref q23, .int (iI 0), .int (iI 0)])), (q7, .inl (k 0, 60, .inl (aI aZ))), (q15, .inl (k 0, 60, .inl (aI aZ))), (q23, .inl (k 1, 60, .inr (.inl (aL aZ))))] H := hP
  have hD : va_D A [(h0, .inr (6, [.ref q7, .ref q15, .ref q23, .int (iI 0), .int (iI 0)])), (q7, .inl (k 0, 60, .inl (aI aZ))), (q15, .inl (k 0, 60, .inl (aI aZ))), (q23, .inl (k 1, 60, .inr (.inl (aL aZ))))] := hD
  rw [hQ]
  refine W.widen (k := 3) (n := 180) (Nat.le_of_ble_eq_true rfl) (Nat.le_of_ble_eq_true rfl) ?_
  exact W.vret hx hb hr (fun t ht hW => ⟨⟨(q7, q15, q23), rfl, trivial, by rw [ht]; exact hP.sub [0, 1, 2, 3] rfl, by rw [hAe]; exact hD.sub [0, 1, 2, 3] (by decide) rfl⟩, hS.F ht⟩) hS.2.2 dX5_init_28
set_option maxHeartbeats 4000000 in
set_option maxRecDepth 100000 in
/-- History() -/
theorem c_X3_init (l : Launch) (dC : Nat → ClassId) (dI : Nat → Nat → Nat) (k : Nat → ClassId) (h0 : Nat) (sz : Nat) : Met l yX3_init woX3_init ({ frames := 1, cells := 2, slots := 1024, locals := 12 } : Room) (PcW (dC, dI) k [.ref h0] [(h0, .inr (4, [.null, .null]))] sz) (va_Qv (fun (_ : Nat × Nat) => True) (QB (dC, dI) [(h0, .inr (4, [.null, .null]))] (fun u => [(h0, .inr (4, [.ref u.1, .ref u.2])), (u.1, .inl (k 0, 512, .inl (aI aZ))), (u.2, .inl (k 0, 512, .inl (aI aZ)))]) sz) (va_A [(h0, .inr (4, [.null, .null]))] sz)) 2 1024 (va_A [(h0, .inr (4, [.null, .null]))] sz) := by
  refine Met.ofW (cc := cX3_init) (maxL := 1) (ret := none) (by decide) rfl ?_
  intro p e s mI args below meth cO s₁ B hml hv
  obtain ⟨rfl, rfl, hP, hD0, hE⟩ := hv
  have hx := B.exec
  have hb := B.bytes
  have hr := B.returns
  have hts := atoms_spec (ws := woX3_init) B.pre
  have hown : s.vm.findClass RX3 = some mI.cls := findClass_of_methodNamed B.named
  have hlocks := B.notSynchronized
  have hin : meth.name = "<init>" := (name_of_methodNamed B.named B.method).1
  have hD := hD0.self (sz := s.heap.size)
  generalize hAe : va_A [(h0, .inr (4, [.null, .null]))] s.heap.size = A at hD hE ⊢
  have hA : ∀ q : Nat, s.heap.size ≤ q → A q := fun q h => by rw [← hAe]; exact Or.inr h
  have hS : va_S A s.heap s.heap [] := va_S.rf
  obtain ⟨hK, hNw, hNc, hZs, hAO1, hAO2⟩ := id hE
  have hSF : CallFix p mI cO cX3_init 1 s ([.ref h0] : List Value).toArray woX3_init RX3 := ⟨hx, hb, hml, hown, hts⟩
  have hl := lv_entry ([.ref h0] : List Value) (n := 1) (Nat.le_of_ble_eq_true rfl)
  rw [lg_entry_eq]
  generalize (lg_sl ([.ref h0] : List Value) ++ List.replicate (1 - (lg_sl ([.ref h0] : List Value)).length) Slot.unset).toArray = ls at hl ⊢
  have hl : lv_has ls 1 [(0, .ref h0)] := hl
  refine W_gen (fun Q hQ => ?_)
  change W p l e ({ frames := 1, cells := 2, slots := 1024, locals := 12 } : Room) s mI _ below meth cO s.heap [] 0 0 Q _
  have hP : va_P (dC, dI) vwCl [(h0, .inr (4, [.null, .null]))] s.heap := hP
  refine lv_aload_n hx hb dX3_init_0 rfl (lv_at hl 0 rfl) ?_
  refine W.objInit hx hb hown (hts (.methodLink RX3 1 objectInit) (List.mem_cons_of_mem _ (wl_4 (List.mem_of_getElem? (i := 3) rfl)))) (hts (.instanceMethod objectInit) (List.mem_cons_of_mem _ (wl_1 (List.mem_of_getElem? (i := 12) rfl)))) (hts (.code objectInit ⟨#[0xb1]⟩ 1 none) (List.mem_cons_of_mem _ (wl_1 (List.mem_of_getElem? (i := 13) rfl)))) rfl (by rw [hml]; exact hl.1) rfl dX3_init_1 (Nat.le_of_ble_eq_true rfl) (Nat.le_of_ble_eq_true rfl) ?_
  refine W.eq (g2 := F0 mI 4 ls []) rfl ?_
  refine lv_aload_n hx hb dX3_init_4 rfl (lv_at hl 0 rfl) ?_
  refine q_sipush (z := 512) hx hb dX3_init_5 (by decide) ?_
  refine q_newI (N := 512) hx hb (hts (.arrayClass .int) (List.mem_cons_of_mem _ (wl_2 (List.mem_of_getElem? (i := 19) rfl)))) hK 0 rfl hP hD hS hA ⟨by omega, by omega⟩ (Nat.le_of_ble_eq_true rfl) (Nat.le_of_ble_eq_true rfl) dX3_init_8 (fun q8 H hP hD hS => ?_)
  have hP : va_P (dC, dI) vwCl [(h0, .inr (4, [.null, .null])), (q8, .inl (k 0, 512, .inl (aI aZ)))] H := hP
  have hD : va_D A [(h0, .inr (4, [.null, .null])), (q8, .inl (k 0, 512, .inl (aI aZ)))] := hD
  refine va_putF (D := (dC, dI)) (ci := 4) (v := .ref q8) (ty := .array .int) (C := RX3) (T := TX3) (N := 2) hx hb hts (fun _ h => List.mem_cons_of_mem _ (inlX3 _ h)) tyX3 tyX3_ok nmX3 hown hK hP hD hS 0 rfl rfl 0 (by decide) (hts (.fieldLink RX3 9 "LoanServicing$History" "kinds" "[I") (List.mem_cons_of_mem _ (wl_4 (List.mem_of_getElem? (i := 4) rfl)))) (fun _ h9 => h9) rfl hin rfl (by decide +kernel) rfl rfl (Nat.le_of_ble_eq_true rfl) dX3_init_10 (fun H locs hP hD hS => ?_)
  have hP : va_P (dC, dI) vwCl [(h0, .inr (4, [.ref q8, .null])), (q8, .inl (k 0, 512, .inl (aI aZ)))] H := hP
  have hD : va_D A [(h0, .inr (4, [.ref q8, .null])), (q8, .inl (k 0, 512, .inl (aI aZ)))] := hD
  refine lv_aload_n hx hb dX3_init_13 rfl (lv_at hl 0 rfl) ?_
  refine q_sipush (z := 512) hx hb dX3_init_14 (by decide) ?_
  refine q_newI (N := 512) hx hb (hts (.arrayClass .int) (List.mem_cons_of_mem _ (wl_2 (List.mem_of_getElem? (i := 19) rfl)))) hK 0 rfl hP hD hS hA ⟨by omega, by omega⟩ (Nat.le_of_ble_eq_true rfl) (Nat.le_of_ble_eq_true rfl) dX3_init_17 (fun q17 H hP hD hS => ?_)
  have hP : va_P (dC, dI) vwCl [(h0, .inr (4, [.ref q8, .null])), (q8, .inl (k 0, 512, .inl (aI aZ))), (q17, .inl (k 0, 512, .inl (aI aZ)))] H := hP
  have hD : va_D A [(h0, .inr (4, [.ref q8, .null])), (q8, .inl (k 0, 512, .inl (aI aZ))), (q17, .inl (k 0, 512, .inl (aI aZ)))] := hD
  refine va_putF (D := (dC, dI)) (ci := 4) (v := .ref q17) (ty := .array .int) (C := RX3) (T := TX3) (N := 2) hx hb hts (fun _ h => List.mem_cons_of_mem _ (inlX3 _ h)) tyX3 tyX3_ok nmX3 hown hK hP hD hS 0 rfl rfl 1 (by decide) (hts (.fieldLink RX3 13 "LoanServicing$History" "values" "[I") (List.mem_cons_of_mem _ (wl_4 (List.mem_of_getElem? (i := 5) rfl)))) (fun _ h9 => h9) rfl hin rfl (by decide +kernel) rfl rfl (Nat.le_of_ble_eq_true rfl) dX3_init_19 (fun H locs hP hD hS => ?_)
  have hP : va_P (dC, dI) vwCl [(h0, .inr (4, [.ref q8, .ref q17])), (q8, .inl (k 0, 512, .inl (aI aZ))), (q17, .inl (k 0, 512, .inl (aI aZ)))] H := hP
  have hD : va_D A [(h0, .inr (4, [.ref q8, .ref q17])), (q8, .inl (k 0, 512, .inl (aI aZ))), (q17, .inl (k 0, 512, .inl (aI aZ)))] := hD
  rw [hQ]
  refine W.widen (k := 2) (n := 1024) (Nat.le_of_ble_eq_true rfl) (Nat.le_of_ble_eq_true rfl) ?_
  exact W.vret hx hb hr (fun t ht hW => ⟨⟨(q8, q17), rfl, trivial, by rw [ht]; exact hP.sub [0, 1, 2] rfl, by rw [hAe]; exact hD.sub [0, 1, 2] (by decide) rfl⟩, hS.F ht⟩) hS.2.2 dX3_init_22
set_option maxHeartbeats 4000000 in
set_option maxRecDepth 100000 in
/-- Projection() -/
theorem c_X7_init (l : Launch) (dC : Nat → ClassId) (dI : Nat → Nat → Nat) (k : Nat → ClassId) (h0 : Nat) (sz : Nat) : Met l yX7_init woX7_init ({ frames := 1, cells := 6, slots := 408, locals := 12 } : Room) (PcW (dC, dI) k [.ref h0] [(h0, .inr (8, [.long (lI 0), .long (lI 0), .long (lI 0), .int (iI 0), .int (iI 0), .int (iI 0), .int (iI 0), .int (iI 0), .null, .null, .int (iI 0), .null, .null, .null, .null]))] sz) (va_Qv (fun (_ : Nat × Nat × Nat × Nat × Nat × Nat) => True) (QB (dC, dI) [(h0, .inr (8, [.long (lI 0), .long (lI 0), .long (lI 0), .int (iI 0), .int (iI 0), .int (iI 0), .int (iI 0), .int (iI 0), .null, .null, .int (iI 0), .null, .null, .null, .null]))] (fun u => [(h0, .inr (8, [.long (lI 0), .long (lI 0), .long (lI 0), .int (iI 0), .int (iI 0), .int (iI 0), .int (iI 0), .int (iI 0), .ref u.1, .ref u.2.1, .int (iI 0), .ref u.2.2.1, .ref u.2.2.2.1, .ref u.2.2.2.2.1, .ref u.2.2.2.2.2])), (u.1, .inl (k 0, 84, .inl (aI aZ))), (u.2.1, .inl (k 0, 84, .inl (aI aZ))), (u.2.2.1, .inl (k 0, 60, .inl (aI aZ))), (u.2.2.2.1, .inl (k 1, 60, .inr (.inl (aL aZ)))), (u.2.2.2.2.1, .inl (k 1, 60, .inr (.inl (aL aZ)))), (u.2.2.2.2.2, .inl (k 1, 60, .inr (.inl (aL aZ))))]) sz) (va_A [(h0, .inr (8, [.long (lI 0), .long (lI 0), .long (lI 0), .int (iI 0), .int (iI 0), .int (iI 0), .int (iI 0), .int (iI 0), .null, .null, .int (iI 0), .null, .null, .null, .null]))] sz)) 6 408 (va_A [(h0, .inr (8, [.long (lI 0), .long (lI 0), .long (lI 0), .int (iI 0), .int (iI 0), .int (iI 0), .int (iI 0), .int (iI 0), .null, .null, .int (iI 0), .null, .null, .null, .null]))] sz) := by
  refine Met.ofW (cc := cX7_init) (maxL := 1) (ret := none) (by decide) rfl ?_
  intro p e s mI args below meth cO s₁ B hml hv
  obtain ⟨rfl, rfl, hP, hD0, hE⟩ := hv
  have hx := B.exec
  have hb := B.bytes
  have hr := B.returns
  have hts := atoms_spec (ws := woX7_init) B.pre
  have hown : s.vm.findClass RX7 = some mI.cls := findClass_of_methodNamed B.named
  have hlocks := B.notSynchronized
  have hin : meth.name = "<init>" := (name_of_methodNamed B.named B.method).1
  have hD := hD0.self (sz := s.heap.size)
  generalize hAe : va_A [(h0, .inr (8, [.long (lI 0), .long (lI 0), .long (lI 0), .int (iI 0), .int (iI 0), .int (iI 0), .int (iI 0), .int (iI 0), .null, .null, .int (iI 0), .null, .null, .null, .null]))] s.heap.size = A at hD hE ⊢
  have hA : ∀ q : Nat, s.heap.size ≤ q → A q := fun q h => by rw [← hAe]; exact Or.inr h
  have hS : va_S A s.heap s.heap [] := va_S.rf
  obtain ⟨hK, hNw, hNc, hZs, hAO1, hAO2⟩ := id hE
  have hSF : CallFix p mI cO cX7_init 1 s ([.ref h0] : List Value).toArray woX7_init RX7 := ⟨hx, hb, hml, hown, hts⟩
  have hl := lv_entry ([.ref h0] : List Value) (n := 1) (Nat.le_of_ble_eq_true rfl)
  rw [lg_entry_eq]
  generalize (lg_sl ([.ref h0] : List Value) ++ List.replicate (1 - (lg_sl ([.ref h0] : List Value)).length) Slot.unset).toArray = ls at hl ⊢
  have hl : lv_has ls 1 [(0, .ref h0)] := hl
  refine W_gen (fun Q hQ => ?_)
  change W p l e ({ frames := 1, cells := 6, slots := 408, locals := 12 } : Room) s mI _ below meth cO s.heap [] 0 0 Q _
  have hP : va_P (dC, dI) vwCl [(h0, .inr (8, [.long (lI 0), .long (lI 0), .long (lI 0), .int (iI 0), .int (iI 0), .int (iI 0), .int (iI 0), .int (iI 0), .null, .null, .int (iI 0), .null, .null, .null, .null]))] s.heap := hP
  refine lv_aload_n hx hb dX7_init_0 rfl (lv_at hl 0 rfl) ?_
  refine W.objInit hx hb hown (hts (.methodLink RX7 3 objectInit) (List.mem_cons_of_mem _ (wl_4 (List.mem_of_getElem? (i := 8) rfl)))) (hts (.instanceMethod objectInit) (List.mem_cons_of_mem _ (wl_1 (List.mem_of_getElem? (i := 12) rfl)))) (hts (.code objectInit ⟨#[0xb1]⟩ 1 none) (List.mem_cons_of_mem _ (wl_1 (List.mem_of_getElem? (i := 13) rfl)))) rfl (by rw [hml]; exact hl.1) rfl dX7_init_1 (Nat.le_of_ble_eq_true rfl) (Nat.le_of_ble_eq_true rfl) ?_
  refine W.eq (g2 := F0 mI 4 ls []) rfl ?_
  refine lv_aload_n hx hb dX7_init_4 rfl (lv_at hl 0 rfl) ?_
  refine q_bipush (z := 84) hx hb dX7_init_5 (by decide) ?_
  refine q_newI (N := 84) hx hb (hts (.arrayClass .int) (List.mem_cons_of_mem _ (wl_2 (List.mem_of_getElem? (i := 19) rfl)))) hK 0 rfl hP hD hS hA ⟨by omega, by omega⟩ (Nat.le_of_ble_eq_true rfl) (Nat.le_of_ble_eq_true rfl) dX7_init_7 (fun q7 H hP hD hS => ?_)
  have hP : va_P (dC, dI) vwCl [(h0, .inr (8, [.long (lI 0), .long (lI 0), .long (lI 0), .int (iI 0), .int (iI 0), .int (iI 0), .int (iI 0), .int (iI 0), .null, .null, .int (iI 0), .null, .null, .null, .null])), (q7, .inl (k 0, 84, .inl (aI aZ)))] H := hP
  have hD : va_D A [(h0, .inr (8, [.long (lI 0), .long (lI 0), .long (lI 0), .int (iI 0), .int (iI 0), .int (iI 0), .int (iI 0), .int (iI 0), .null, .null, .int (iI 0), .null, .null, .null, .null])), (q7, .inl (k 0, 84, .inl (aI aZ)))] := hD
  refine va_putF (D := (dC, dI)) (ci := 8) (v := .ref q7) (ty := .array .int) (C := RX7) (T := TX7) (N := 15) hx hb hts (fun _ h => List.mem_cons_of_mem _ (inlX7 _ h)) tyX7 tyX7_ok nmX7 hown hK hP hD hS 0 rfl rfl 8 (by decide) (hts (.fieldLink RX7 11 "LoanServicing$Projection" "dueDay" "[I") (List.mem_cons_of_mem _ (wl_4 (List.mem_of_getElem? (i := 9) rfl)))) (fun _ h9 => h9) rfl hin rfl (by decide +kernel) rfl rfl (Nat.le_of_ble_eq_true rfl) dX7_init_9 (fun H locs hP hD hS => ?_)
  have hP : va_P (dC, dI) vwCl [(h0, .inr (8, [.long (lI 0), .long (lI 0), .long (lI 0), .int (iI 0), .int (iI 0), .int (iI 0), .int (iI 0), .int (iI 0), .ref q7, .null, .int (iI 0), .null, .null, .null, .null])), (q7, .inl (k 0, 84, .inl (aI aZ)))] H := hP
  have hD : va_D A [(h0, .inr (8, [.long (lI 0), .long (lI 0), .long (lI 0), .int (iI 0), .int (iI 0), .int (iI 0), .int (iI 0), .int (iI 0), .ref q7, .null, .int (iI 0), .null, .null, .null, .null])), (q7, .inl (k 0, 84, .inl (aI aZ)))] := hD
  refine lv_aload_n hx hb dX7_init_12 rfl (lv_at hl 0 rfl) ?_
  refine q_bipush (z := 84) hx hb dX7_init_13 (by decide) ?_
  refine q_newI (N := 84) hx hb (hts (.arrayClass .int) (List.mem_cons_of_mem _ (wl_2 (List.mem_of_getElem? (i := 19) rfl)))) hK 0 rfl hP hD hS hA ⟨by omega, by omega⟩ (Nat.le_of_ble_eq_true rfl) (Nat.le_of_ble_eq_true rfl) dX7_init_15 (fun q15 H hP hD hS => ?_)
  have hP : va_P (dC, dI) vwCl [(h0, .inr (8, [.long (lI 0), .long (lI 0), .long (lI 0), .int (iI 0), .int (iI 0), .int (iI 0), .int (iI 0), .int (iI 0), .ref q7, .null, .int (iI 0), .null, .null, .null, .null])), (q7, .inl (k 0, 84, .inl (aI aZ))), (q15, .inl (k 0, 84, .inl (aI aZ)))] H := hP
  have hD : va_D A [(h0, .inr (8, [.long (lI 0), .long (lI 0), .long (lI 0), .int (iI 0), .int (iI 0), .int (iI 0), .int (iI 0), .int (iI 0), .ref q7, .null, .int (iI 0), .null, .null, .null, .null])), (q7, .inl (k 0, 84, .inl (aI aZ))), (q15, .inl (k 0, 84, .inl (aI aZ)))] := hD
  refine va_putF (D := (dC, dI)) (ci := 8) (v := .ref q15) (ty := .array .int) (C := RX7) (T := TX7) (N := 15) hx hb hts (fun _ h => List.mem_cons_of_mem _ (inlX7 _ h)) tyX7 tyX7_ok nmX7 hown hK hP hD hS 0 rfl rfl 9 (by decide) (hts (.fieldLink RX7 15 "LoanServicing$Projection" "counted" "[I") (List.mem_cons_of_mem _ (wl_4 (List.mem_of_getElem? (i := 10) rfl)))) (fun _ h9 => h9) rfl hin rfl (by decide +kernel) rfl rfl (Nat.le_of_ble_eq_true rfl) dX7_init_17 (fun H locs hP hD hS => ?_)
  have hP : va_P (dC, dI) vwCl [(h0, .inr (8, [.long (lI 0), .long (lI 0), .long (lI 0), .int (iI 0), .int (iI 0), .int (iI 0), .int (iI 0), .int (iI 0), .ref q7, .ref q15, .int (iI 0), .null, .null, .null, .null])), (q7, .inl (k 0, 84, .inl (aI aZ))), (q15, .inl (k 0, 84, .inl (aI aZ)))] H := hP
  have hD : va_D A [(h0, .inr (8, [.long (lI 0), .long (lI 0), .long (lI 0), .int (iI 0), .int (iI 0), .int (iI 0), .int (iI 0), .int (iI 0), .ref q7, .ref q15, .int (iI 0), .null, .null, .null, .null])), (q7, .inl (k 0, 84, .inl (aI aZ))), (q15, .inl (k 0, 84, .inl (aI aZ)))] := hD
  refine lv_aload_n hx hb dX7_init_20 rfl (lv_at hl 0 rfl) ?_
  refine q_bipush (z := 60) hx hb dX7_init_21 (by decide) ?_
  refine q_newI (N := 60) hx hb (hts (.arrayClass .int) (List.mem_cons_of_mem _ (wl_2 (List.mem_of_getElem? (i := 19) rfl)))) hK 0 rfl hP hD hS hA ⟨by omega, by omega⟩ (Nat.le_of_ble_eq_true rfl) (Nat.le_of_ble_eq_true rfl) dX7_init_23 (fun q23 H hP hD hS => ?_)
  have hP : va_P (dC, dI) vwCl [(h0, .inr (8, [.long (lI 0), .long (lI 0), .long (lI 0), .int (iI 0), .int (iI 0), .int (iI 0), .int (iI 0), .int (iI 0), .ref q7, .ref q15, .int (iI 0), .null, .null, .null, .null])), (q7, .inl (k 0, 84, .inl (aI aZ))), (q15, .inl (k 0, 84, .inl (aI aZ))), (q23, .inl (k 0, 60, .inl (aI aZ)))] H := hP
  have hD : va_D A [(h0, .inr (8, [.long (lI 0), .long (lI 0), .long (lI 0), .int (iI 0), .int (iI 0), .int (iI 0), .int (iI 0), .int (iI 0), .ref q7, .ref q15, .int (iI 0), .null, .null, .null, .null])), (q7, .inl (k 0, 84, .inl (aI aZ))), (q15, .inl (k 0, 84, .inl (aI aZ))), (q23, .inl (k 0, 60, .inl (aI aZ)))] := hD
  refine va_putF (D := (dC, dI)) (ci := 8) (v := .ref q23) (ty := .array .int) (C := RX7) (T := TX7) (N := 15) hx hb hts (fun _ h => List.mem_cons_of_mem _ (inlX7 _ h)) tyX7 tyX7_ok nmX7 hown hK hP hD hS 0 rfl rfl 11 (by decide) (hts (.fieldLink RX7 18 "LoanServicing$Projection" "paidOn" "[I") (List.mem_cons_of_mem _ (wl_4 (List.mem_of_getElem? (i := 11) rfl)))) (fun _ h9 => h9) rfl hin rfl (by decide +kernel) rfl rfl (Nat.le_of_ble_eq_true rfl) dX7_init_25 (fun H locs hP hD hS => ?_)
  have hP : va_P (dC, dI) vwCl [(h0, .inr (8, [.long (lI 0), .long (lI 0), .long (lI 0), .int (iI 0), .int (iI 0), .int (iI 0), .int (iI 0), .int (iI 0), .ref q7, .ref q15, .int (iI 0), .ref q23, .null, .null, .null])), (q7, .inl (k 0, 84, .inl (aI aZ))), (q15, .inl (k 0, 84, .inl (aI aZ))), (q23, .inl (k 0, 60, .inl (aI aZ)))] H := hP
  have hD : va_D A [(h0, .inr (8, [.long (lI 0), .long (lI 0), .long (lI 0), .int (iI 0), .int (iI 0), .int (iI 0), .int (iI 0), .int (iI 0), .ref q7, .ref q15, .int (iI 0), .ref q23, .null, .null, .null])), (q7, .inl (k 0, 84, .inl (aI aZ))), (q15, .inl (k 0, 84, .inl (aI aZ))), (q23, .inl (k 0, 60, .inl (aI aZ)))] := hD
  refine lv_aload_n hx hb dX7_init_28 rfl (lv_at hl 0 rfl) ?_
  refine q_bipush (z := 60) hx hb dX7_init_29 (by decide) ?_
  refine q_newL (N := 60) hx hb (hts (.arrayClass .long) (List.mem_cons_of_mem _ (wl_1 (List.mem_of_getElem? (i := 6) rfl)))) hK 1 rfl hP hD hS hA ⟨by omega, by omega⟩ (Nat.le_of_ble_eq_true rfl) (Nat.le_of_ble_eq_true rfl) dX7_init_31 (fun q31 H hP hD hS => ?_)
  have hP : va_P (dC, dI) vwCl [(h0, .inr (8, [.long (lI 0), .long (lI 0), .long (lI 0), .int (iI 0), .int (iI 0), .int (iI 0), .int (iI 0), .int (iI 0), .ref q7, .ref q15, .int (iI 0), .ref q23, .null, .null, .null])), (q7, .inl (k 0, 84, .inl (aI aZ))), (q15, .inl (k 0, 84, .inl (aI aZ))), (q23, .inl (k 0, 60, .inl (aI aZ))), (q31, .inl (k 1, 60, .inr (.inl (aL aZ))))] H := hP
  have hD : va_D A [(h0, .inr (8, [.long (lI 0), .long (lI 0), .long (lI 0), .int (iI 0), .int (iI 0), .int (iI 0), .int (iI 0), .int (iI 0), .ref q7, .ref q15, .int (iI 0), .ref q23, .null, .null, .null])), (q7, .inl (k 0, 84, .inl (aI aZ))), (q15, .inl (k 0, 84, .inl (aI aZ))), (q23, .inl (k 0, 60, .inl (aI aZ))), (q31, .inl (k 1, 60, .inr (.inl (aL aZ))))] := hD
  refine va_putF (D := (dC, dI)) (ci := 8) (v := .ref q31) (ty := .array .long) (C := RX7) (T := TX7) (N := 15) hx hb hts (fun _ h => List.mem_cons_of_mem _ (inlX7 _ h)) tyX7 tyX7_ok nmX7 hown hK hP hD hS 0 rfl rfl 12 (by decide) (hts (.fieldLink RX7 21 "LoanServicing$Projection" "amounts" "[J") (List.mem_cons_of_mem _ (wl_4 (List.mem_of_getElem? (i := 12) rfl)))) (fun _ h9 => h9) rfl hin rfl (by decide +kernel) rfl rfl (Nat.le_of_ble_eq_true rfl) dX7_init_33 (fun H locs hP hD hS => ?_)
  have hP : va_P (dC, dI) vwCl [(h0, .inr (8, [.long (lI 0), .long (lI 0), .long (lI 0), .int (iI 0), .int (iI 0), .int (iI 0), .int (iI 0), .int (iI 0), .ref q7, .ref q15, .int (iI 0), .ref q23, .ref q31, .null, .null])), (q7, .inl (k 0, 84, .inl (aI aZ))), (q15, .inl (k 0, 84, .inl (aI aZ))), (q23, .inl (k 0, 60, .inl (aI aZ))), (q31, .inl (k 1, 60, .inr (.inl (aL aZ))))] H := hP
  have hD : va_D A [(h0, .inr (8, [.long (lI 0), .long (lI 0), .long (lI 0), .int (iI 0), .int (iI 0), .int (iI 0), .int (iI 0), .int (iI 0), .ref q7, .ref q15, .int (iI 0), .ref q23, .ref q31, .null, .null])), (q7, .inl (k 0, 84, .inl (aI aZ))), (q15, .inl (k 0, 84, .inl (aI aZ))), (q23, .inl (k 0, 60, .inl (aI aZ))), (q31, .inl (k 1, 60, .inr (.inl (aL aZ))))] := hD
  refine lv_aload_n hx hb dX7_init_36 rfl (lv_at hl 0 rfl) ?_
  refine q_bipush (z := 60) hx hb dX7_init_37 (by decide) ?_
  refine q_newL (N := 60) hx hb (hts (.arrayClass .long) (List.mem_cons_of_mem _ (wl_1 (List.mem_of_getElem? (i := 6) rfl)))) hK 1 rfl hP hD hS hA ⟨by omega, by omega⟩ (Nat.le_of_ble_eq_true rfl) (Nat.le_of_ble_eq_true rfl) dX7_init_39 (fun q39 H hP hD hS => ?_)
  have hP : va_P (dC, dI) vwCl [(h0, .inr (8, [.long (lI 0), .long (lI 0), .long (lI 0), .int (iI 0), .int (iI 0), .int (iI 0), .int (iI 0), .int (iI 0), .ref q7, .ref q15, .int (iI 0), .ref q23, .ref q31, .null, .null])), (q7, .inl (k 0, 84, .inl (aI aZ))), (q15, .inl (k 0, 84, .inl (aI aZ))), (q23, .inl (k 0, 60, .inl (aI aZ))), (q31, .inl (k 1, 60, .inr (.inl (aL aZ)))), (q39, .inl (k 1, 60, .inr (.inl (aL aZ))))] H := hP
  have hD : va_D A [(h0, .inr (8, [.long (lI 0), .long (lI 0), .long (lI 0), .int (iI 0), .int (iI 0), .int (iI 0), .int (iI 0), .int (iI 0), .ref q7, .ref q15, .int (iI 0), .ref q23, .ref q31, .null, .null])), (q7, .inl (k 0, 84, .inl (aI aZ))), (q15, .inl (k 0, 84, .inl (aI aZ))), (q23, .inl (k 0, 60, .inl (aI aZ))), (q31, .inl (k 1, 60, .inr (.inl (aL aZ)))), (q39, .inl (k 1, 60, .inr (.inl (aL aZ))))] := hD
  refine va_putF (D := (dC, dI)) (ci := 8) (v := .ref q39) (ty := .array .long) (C := RX7) (T := TX7) (N := 15) hx hb hts (fun _ h => List.mem_cons_of_mem _ (inlX7 _ h)) tyX7 tyX7_ok nmX7 hown hK hP hD hS 0 rfl rfl 13 (by decide) (hts (.fieldLink RX7 25 "LoanServicing$Projection" "interests" "[J") (List.mem_cons_of_mem _ (wl_4 (List.mem_of_getElem? (i := 13) rfl)))) (fun _ h9 => h9) rfl hin rfl (by decide +kernel) rfl rfl (Nat.le_of_ble_eq_true rfl) dX7_init_41 (fun H locs hP hD hS => ?_)
  have hP : va_P (dC, dI) vwCl [(h0, .inr (8, [.long (lI 0), .long (lI 0), .long (lI 0), .int (iI 0), .int (iI 0), .int (iI 0), .int (iI 0), .int (iI 0), .ref q7, .ref q15, .int (iI 0), .ref q23, .ref q31, .ref q39, .null])), (q7, .inl (k 0, 84, .inl (aI aZ))), (q15, .inl (k 0, 84, .inl (aI aZ))), (q23, .inl (k 0, 60, .inl (aI aZ))), (q31, .inl (k 1, 60, .inr (.inl (aL aZ)))), (q39, .inl (k 1, 60, .inr (.inl (aL aZ))))] H := hP
  have hD : va_D A [(h0, .inr (8, [.long (lI 0), .long (lI 0), .long (lI 0), .int (iI 0), .int (iI 0), .int (iI 0), .int (iI 0), .int (iI 0), .ref q7, .ref q15, .int (iI 0), .ref q23, .ref q31, .ref q39, .null])), (q7, .inl (k 0, 84, .inl (aI aZ))), (q15, .inl (k 0, 84, .inl (aI aZ))), (q23, .inl (k 0, 60, .inl (aI aZ))), (q31, .inl (k 1, 60, .inr (.inl (aL aZ)))), (q39, .inl (k 1, 60, .inr (.inl (aL aZ))))] := hD
  refine lv_aload_n hx hb dX7_init_44 rfl (lv_at hl 0 rfl) ?_
  refine q_bipush (z := 60) hx hb dX7_init_45 (by decide) ?_
  refine q_newL (N := 60) hx hb (hts (.arrayClass .long) (List.mem_cons_of_mem _ (wl_1 (List.mem_of_getElem? (i := 6) rfl)))) hK 1 rfl hP hD hS hA ⟨by omega, by omega⟩ (Nat.le_of_ble_eq_true rfl) (Nat.le_of_ble_eq_true rfl) dX7_init_47 (fun q47 H hP hD hS => ?_)
  have hP : va_P (dC, dI) vwCl [(h0, .inr (8, [.long (lI 0), .long (lI 0), .long (lI 0), .int (iI 0), .int (iI 0), .int (iI 0), .int (iI 0), .int (iI 0), .ref q7, .ref q15, .int (iI 0), .ref q23, .ref q31, .ref q39, .null])), (q7, .inl (k 0, 84, .inl (aI aZ))), (q15, .inl (k 0, 84, .inl (aI aZ))), (q23, .inl (k 0, 60, .inl (aI aZ))), (q31, .inl (k 1, 60, .inr (.inl (aL aZ)))), (q39, .inl (k 1, 60, .inr (.inl (aL aZ)))), (q47, .inl (k 1, 60, .inr (.inl (aL aZ))))] H := hP
  have hD : va_D A [(h0, .inr (8, [.long (lI 0), .long (lI 0), .long (lI 0), .int (iI 0), .int (iI 0), .int (iI 0), .int (iI 0), .int (iI 0), .ref q7, .ref q15, .int (iI 0), .ref q23, .ref q31, .ref q39, .null])), (q7, .inl (k 0, 84, .inl (aI aZ))), (q15, .inl (k 0, 84, .inl (aI aZ))), (q23, .inl (k 0, 60, .inl (aI aZ))), (q31, .inl (k 1, 60, .inr (.inl (aL aZ)))), (q39, .inl (k 1, 60, .inr (.inl (aL aZ)))), (q47, .inl (k 1, 60, .inr (.inl (aL aZ))))] := hD
  refine va_putF (D := (dC, dI)) (ci := 8) (v := .ref q47) (ty := .array .long) (C := RX7) (T := TX7) (N := 15) hx hb hts (fun _ h => List.mem_cons_of_mem _ (inlX7 _ h)) tyX7 tyX7_ok nmX7 hown hK hP hD hS 0 rfl rfl 14 (by decide) (hts (.fieldLink RX7 28 "LoanServicing$Projection" "left" "[J") (List.mem_cons_of_mem _ (wl_4 (List.mem_of_getElem? (i := 14) rfl)))) (fun _ h9 => h9) rfl hin rfl (by decide +kernel) rfl rfl (Nat.le_of_ble_eq_true rfl) dX7_init_49 (fun H locs hP hD hS => ?_)
  have hP : va_P (dC, dI) vwCl [(h0, .inr (8, [.long (lI 0), .long (lI 0), .long (lI 0), .int (iI 0), .int (iI 0), .int (iI 0), .int (iI 0), .int (iI 0), .ref q7, .ref q15, .int (iI 0), .ref q23, .ref q31, .ref q39, .ref q47])), (q7, .inl (k 0, 84, .inl (aI aZ))), (q15, .inl (k 0, 84, .inl (aI aZ))), (q23, .inl (k 0, 60, .inl (aI aZ))), (q31, .inl (k 1, 60, .inr (.inl (aL aZ)))), (q39, .inl (k 1, 60, .inr (.inl (aL aZ)))), (q47, .inl (k 1, 60, .inr (.inl (aL aZ))))] H := hP
  have hD : va_D A [(h0, .inr (8, [.long (lI 0), .long (lI 0), .long (lI 0), .int (iI 0), .int (iI 0), .int (iI 0), .int (iI 0), .int (iI 0), .ref q7, .ref q15, .int (iI 0), .ref q23, .ref q31, .ref q39, .ref q47])), (q7, .inl (k 0, 84, .inl (aI aZ))), (q15, .inl (k 0, 84, .inl (aI aZ))), (q23, .inl (k 0, 60, .inl (aI aZ))), (q31, .inl (k 1, 60, .inr (.inl (aL aZ)))), (q39, .inl (k 1, 60, .inr (.inl (aL aZ)))), (q47, .inl (k 1, 60, .inr (.inl (aL aZ))))] := hD
  rw [hQ]
  refine W.widen (k := 6) (n := 408) (Nat.le_of_ble_eq_true rfl) (Nat.le_of_ble_eq_true rfl) ?_
  exact W.vret hx hb hr (fun t ht hW => ⟨⟨(q7, q15, q23, q31, q39, q47), rfl, trivial, by rw [ht]; exact hP.sub [0, 1, 2, 3, 4, 5, 6] rfl, by rw [hAe]; exact hD.sub [0, 1, 2, 3, 4, 5, 6] (by decide) rfl⟩, hS.F ht⟩) hS.2.2 dX7_init_52
set_option maxHeartbeats 4000000 in
set_option maxRecDepth 100000 in
/-- InputText() -/
theorem c_X4_init (l : Launch) (dC : Nat → ClassId) (dI : Nat → Nat → Nat) (k : Nat → ClassId) (h0 : Nat) (sz : Nat) : Met l yX4_init woX4_init ({ frames := 1, cells := 3, slots := 100, locals := 12 } : Room) (PcW (dC, dI) k [.ref h0] [(h0, .inr (5, [.null, .int (iI 0), .null, .null, .int (iI 0)]))] sz) (va_Qv (fun (_ : Nat × Nat × Nat) => True) (QB (dC, dI) [(h0, .inr (5, [.null, .int (iI 0), .null, .null, .int (iI 0)]))] (fun u => [(h0, .inr (5, [.ref u.1, .int (iI 0), .ref u.2.1, .ref u.2.2, .int (iI 0)])), (u.1, .inl (k 2, 60, .inl (aI aZ))), (u.2.1, .inl (k 0, 20, .inl (aI aZ))), (u.2.2, .inl (k 0, 20, .inl (aI aZ)))]) sz) (va_A [(h0, .inr (5, [.null, .int (iI 0), .null, .null, .int (iI 0)]))] sz)) 3 100 (va_A [(h0, .inr (5, [.null, .int (iI 0), .null, .null, .int (iI 0)]))] sz) := by
  refine Met.ofW (cc := cX4_init) (maxL := 1) (ret := none) (by decide) rfl ?_
  intro p e s mI args below meth cO s₁ B hml hv
  obtain ⟨rfl, rfl, hP, hD0, hE⟩ := hv
  have hx := B.exec
  have hb := B.bytes
  have hr := B.returns
  have hts := atoms_spec (ws := woX4_init) B.pre
  have hown : s.vm.findClass RX4 = some mI.cls := findClass_of_methodNamed B.named
  have hlocks := B.notSynchronized
  have hin : meth.name = "<init>" := (name_of_methodNamed B.named B.method).1
  have hD := hD0.self (sz := s.heap.size)
  generalize hAe : va_A [(h0, .inr (5, [.null, .int (iI 0), .null, .null, .int (iI 0)]))] s.heap.size = A at hD hE ⊢
  have hA : ∀ q : Nat, s.heap.size ≤ q → A q := fun q h => by rw [← hAe]; exact Or.inr h
  have hS : va_S A s.heap s.heap [] := va_S.rf
  obtain ⟨hK, hNw, hNc, hZs, hAO1, hAO2⟩ := id hE
  have hSF : CallFix p mI cO cX4_init 1 s ([.ref h0] : List Value).toArray woX4_init RX4 := ⟨hx, hb, hml, hown, hts⟩
  have hl := lv_entry ([.ref h0] : List Value) (n := 1) (Nat.le_of_ble_eq_true rfl)
  rw [lg_entry_eq]
  generalize (lg_sl ([.ref h0] : List Value) ++ List.replicate (1 - (lg_sl ([.ref h0] : List Value)).length) Slot.unset).toArray = ls at hl ⊢
  have hl : lv_has ls 1 [(0, .ref h0)] := hl
  refine W_gen (fun Q hQ => ?_)
  change W p l e ({ frames := 1, cells := 3, slots := 100, locals := 12 } : Room) s mI _ below meth cO s.heap [] 0 0 Q _
  have hP : va_P (dC, dI) vwCl [(h0, .inr (5, [.null, .int (iI 0), .null, .null, .int (iI 0)]))] s.heap := hP
  refine lv_aload_n hx hb dX4_init_0 rfl (lv_at hl 0 rfl) ?_
  refine W.objInit hx hb hown (hts (.methodLink RX4 3 objectInit) (List.mem_cons_of_mem _ (wl_4 (List.mem_of_getElem? (i := 17) rfl)))) (hts (.instanceMethod objectInit) (List.mem_cons_of_mem _ (wl_1 (List.mem_of_getElem? (i := 12) rfl)))) (hts (.code objectInit ⟨#[0xb1]⟩ 1 none) (List.mem_cons_of_mem _ (wl_1 (List.mem_of_getElem? (i := 13) rfl)))) rfl (by rw [hml]; exact hl.1) rfl dX4_init_1 (Nat.le_of_ble_eq_true rfl) (Nat.le_of_ble_eq_true rfl) ?_
  refine W.eq (g2 := F0 mI 4 ls []) rfl ?_
  refine lv_aload_n hx hb dX4_init_4 rfl (lv_at hl 0 rfl) ?_
  refine q_bipush (z := 60) hx hb dX4_init_5 (by decide) ?_
  refine q_newC (N := 60) hx hb (hts (.arrayClass .char) (List.mem_cons_of_mem _ (wl_4 (List.mem_of_getElem? (i := 18) rfl)))) hK 2 rfl hP hD hS hA ⟨by omega, by omega⟩ (Nat.le_of_ble_eq_true rfl) (Nat.le_of_ble_eq_true rfl) dX4_init_7 (fun q7 H hP hD hS => ?_)
  have hP : va_P (dC, dI) vwCl [(h0, .inr (5, [.null, .int (iI 0), .null, .null, .int (iI 0)])), (q7, .inl (k 2, 60, .inl (aI aZ)))] H := hP
  have hD : va_D A [(h0, .inr (5, [.null, .int (iI 0), .null, .null, .int (iI 0)])), (q7, .inl (k 2, 60, .inl (aI aZ)))] := hD
  refine va_putF (D := (dC, dI)) (ci := 5) (v := .ref q7) (ty := .array .char) (C := RX4) (T := TX4) (N := 5) hx hb hts (fun _ h => List.mem_cons_of_mem _ (inlX4 _ h)) tyX4 tyX4_ok nmX4 hown hK hP hD hS 0 rfl rfl 0 (by decide) (hts (.fieldLink RX4 11 "LoanServicing$InputText" "characters" "[C") (List.mem_cons_of_mem _ (wl_4 (List.mem_of_getElem? (i := 19) rfl)))) (fun _ h9 => h9) rfl hin rfl (by decide +kernel) rfl rfl (Nat.le_of_ble_eq_true rfl) dX4_init_9 (fun H locs hP hD hS => ?_)
  have hP : va_P (dC, dI) vwCl [(h0, .inr (5, [.ref q7, .int (iI 0), .null, .null, .int (iI 0)])), (q7, .inl (k 2, 60, .inl (aI aZ)))] H := hP
  have hD : va_D A [(h0, .inr (5, [.ref q7, .int (iI 0), .null, .null, .int (iI 0)])), (q7, .inl (k 2, 60, .inl (aI aZ)))] := hD
  refine lv_aload_n hx hb dX4_init_12 rfl (lv_at hl 0 rfl) ?_
  refine q_bipush (z := 20) hx hb dX4_init_13 (by decide) ?_
  refine q_newI (N := 20) hx hb (hts (.arrayClass .int) (List.mem_cons_of_mem _ (wl_2 (List.mem_of_getElem? (i := 19) rfl)))) hK 0 rfl hP hD hS hA ⟨by omega, by omega⟩ (Nat.le_of_ble_eq_true rfl) (Nat.le_of_ble_eq_true rfl) dX4_init_15 (fun q15 H hP hD hS => ?_)
  have hP : va_P (dC, dI) vwCl [(h0, .inr (5, [.ref q7, .int (iI 0), .null, .null, .int (iI 0)])), (q7, .inl (k 2, 60, .inl (aI aZ))), (q15, .inl (k 0, 20, .inl (aI aZ)))] H := hP
  have hD : va_D A [(h0, .inr (5, [.ref q7, .int (iI 0), .null, .null, .int (iI 0)])), (q7, .inl (k 2, 60, .inl (aI aZ))), (q15, .inl (k 0, 20, .inl (aI aZ)))] := hD
  refine va_putF (D := (dC, dI)) (ci := 5) (v := .ref q15) (ty := .array .int) (C := RX4) (T := TX4) (N := 5) hx hb hts (fun _ h => List.mem_cons_of_mem _ (inlX4 _ h)) tyX4 tyX4_ok nmX4 hown hK hP hD hS 0 rfl rfl 2 (by decide) (hts (.fieldLink RX4 15 "LoanServicing$InputText" "kinds" "[I") (List.mem_cons_of_mem _ (wl_4 (List.mem_of_getElem? (i := 20) rfl)))) (fun _ h9 => h9) rfl hin rfl (by decide +kernel) rfl rfl (Nat.le_of_ble_eq_true rfl) dX4_init_17 (fun H locs hP hD hS => ?_)
  have hP : va_P (dC, dI) vwCl [(h0, .inr (5, [.ref q7, .int (iI 0), .ref q15, .null, .int (iI 0)])), (q7, .inl (k 2, 60, .inl (aI aZ))), (q15, .inl (k 0, 20, .inl (aI aZ)))] H := hP
  have hD : va_D A [(h0, .inr (5, [.ref q7, .int (iI 0), .ref q15, .null, .int (iI 0)])), (q7, .inl (k 2, 60, .inl (aI aZ))), (q15, .inl (k 0, 20, .inl (aI aZ)))] := hD
  refine lv_aload_n hx hb dX4_init_20 rfl (lv_at hl 0 rfl) ?_
  refine q_bipush (z := 20) hx hb dX4_init_21 (by decide) ?_
  refine q_newI (N := 20) hx hb (hts (.arrayClass .int) (List.mem_cons_of_mem _ (wl_2 (List.mem_of_getElem? (i := 19) rfl)))) hK 0 rfl hP hD hS hA ⟨by omega, by omega⟩ (Nat.le_of_ble_eq_true rfl) (Nat.le_of_ble_eq_true rfl) dX4_init_23 (fun q23 H hP hD hS => ?_)
  have hP : va_P (dC, dI) vwCl [(h0, .inr (5, [.ref q7, .int (iI 0), .ref q15, .null, .int (iI 0)])), (q7, .inl (k 2, 60, .inl (aI aZ))), (q15, .inl (k 0, 20, .inl (aI aZ))), (q23, .inl (k 0, 20, .inl (aI aZ)))] H := hP
  have hD : va_D A [(h0, .inr (5, [.ref q7, .int (iI 0), .ref q15, .null, .int (iI 0)])), (q7, .inl (k 2, 60, .inl (aI aZ))), (q15, .inl (k 0, 20, .inl (aI aZ))), (q23, .inl (k 0, 20, .inl (aI aZ)))] := hD
  refine va_putF (D := (dC, dI)) (ci := 5) (v := .ref q23) (ty := .array .int) (C := RX4) (T := TX4) (N := 5) hx hb hts (fun _ h => List.mem_cons_of_mem _ (inlX4 _ h)) tyX4 tyX4_ok nmX4 hown hK hP hD hS 0 rfl rfl 3 (by decide) (hts (.fieldLink RX4 19 "LoanServicing$InputText" "values" "[I") (List.mem_cons_of_mem _ (wl_4 (List.mem_of_getElem? (i := 21) rfl)))) (fun _ h9 => h9) rfl hin rfl (by decide +kernel) rfl rfl (Nat.le_of_ble_eq_true rfl) dX4_init_25 (fun H locs hP hD hS => ?_)
  have hP : va_P (dC, dI) vwCl [(h0, .inr (5, [.ref q7, .int (iI 0), .ref q15, .ref q23, .int (iI 0)])), (q7, .inl (k 2, 60, .inl (aI aZ))), (q15, .inl (k 0, 20, .inl (aI aZ))), (q23, .inl (k 0, 20, .inl (aI aZ)))] H := hP
  have hD : va_D A [(h0, .inr (5, [.ref q7, .int (iI 0), .ref q15, .ref q23, .int (iI 0)])), (q7, .inl (k 2, 60, .inl (aI aZ))), (q15, .inl (k 0, 20, .inl (aI aZ))), (q23, .inl (k 0, 20, .inl (aI aZ)))] := hD
  rw [hQ]
  refine W.widen (k := 3) (n := 100) (Nat.le_of_ble_eq_true rfl) (Nat.le_of_ble_eq_true rfl) ?_
  exact W.vret hx hb hr (fun t ht hW => ⟨⟨(q7, q15, q23), rfl, trivial, by rw [ht]; exact hP.sub [0, 1, 2, 3] rfl, by rw [hAe]; exact hD.sub [0, 1, 2, 3] (by decide) rfl⟩, hS.F ht⟩) hS.2.2 dX4_init_28
set_option maxHeartbeats 4000000 in
set_option maxRecDepth 100000 in
/-- Row() -/
theorem c_X8_init (l : Launch) (dC : Nat → ClassId) (dI : Nat → Nat → Nat) (k : Nat → ClassId) (h0 : Nat) (sz : Nat) : Met l yX8_init woX8_init ({ frames := 1, cells := 2, slots := 120, locals := 12 } : Room) (PcW (dC, dI) k [.ref h0] [(h0, .inr (9, [.null, .null, .int (iI 0), .int (iI 0), .int (iI 0)]))] sz) (va_Qv (fun (_ : Nat × Nat) => True) (QB (dC, dI) [(h0, .inr (9, [.null, .null, .int (iI 0), .int (iI 0), .int (iI 0)]))] (fun u => [(h0, .inr (9, [.ref u.1, .ref u.2, .int (iI 0), .int (iI 0), .int (iI 0)])), (u.1, .inl (k 3, 60, .inr (.inr (.inr (.inl (fun _ => FP.dconst0)))))), (u.2, .inl (k 4, 60, .inr (.inr (.inl (fun _ => FP.fconst0)))))]) sz) (va_A [(h0, .inr (9, [.null, .null, .int (iI 0), .int (iI 0), .int (iI 0)]))] sz)) 2 120 (va_A [(h0, .inr (9, [.null, .null, .int (iI 0), .int (iI 0), .int (iI 0)]))] sz) := by
  refine Met.ofW (cc := cX8_init) (maxL := 1) (ret := none) (by decide) rfl ?_
  intro p e s mI args below meth cO s₁ B hml hv
  obtain ⟨rfl, rfl, hP, hD0, hE⟩ := hv
  have hx := B.exec
  have hb := B.bytes
  have hr := B.returns
  have hts := atoms_spec (ws := woX8_init) B.pre
  have hown : s.vm.findClass RX8 = some mI.cls := findClass_of_methodNamed B.named
  have hlocks := B.notSynchronized
  have hin : meth.name = "<init>" := (name_of_methodNamed B.named B.method).1
  have hD := hD0.self (sz := s.heap.size)
  generalize hAe : va_A [(h0, .inr (9, [.null, .null, .int (iI 0), .int (iI 0), .int (iI 0)]))] s.heap.size = A at hD hE ⊢
  have hA : ∀ q : Nat, s.heap.size ≤ q → A q := fun q h => by rw [← hAe]; exact Or.inr h
  have hS : va_S A s.heap s.heap [] := va_S.rf
  obtain ⟨hK, hNw, hNc, hZs, hAO1, hAO2⟩ := id hE
  have hSF : CallFix p mI cO cX8_init 1 s ([.ref h0] : List Value).toArray woX8_init RX8 := ⟨hx, hb, hml, hown, hts⟩
  have hl := lv_entry ([.ref h0] : List Value) (n := 1) (Nat.le_of_ble_eq_true rfl)
  rw [lg_entry_eq]
  generalize (lg_sl ([.ref h0] : List Value) ++ List.replicate (1 - (lg_sl ([.ref h0] : List Value)).length) Slot.unset).toArray = ls at hl ⊢
  have hl : lv_has ls 1 [(0, .ref h0)] := hl
  refine W_gen (fun Q hQ => ?_)
  change W p l e ({ frames := 1, cells := 2, slots := 120, locals := 12 } : Room) s mI _ below meth cO s.heap [] 0 0 Q _
  have hP : va_P (dC, dI) vwCl [(h0, .inr (9, [.null, .null, .int (iI 0), .int (iI 0), .int (iI 0)]))] s.heap := hP
  refine lv_aload_n hx hb dX8_init_0 rfl (lv_at hl 0 rfl) ?_
  refine W.objInit hx hb hown (hts (.methodLink RX8 3 objectInit) (List.mem_cons_of_mem _ (wl_5 (List.mem_of_getElem? (i := 0) rfl)))) (hts (.instanceMethod objectInit) (List.mem_cons_of_mem _ (wl_1 (List.mem_of_getElem? (i := 12) rfl)))) (hts (.code objectInit ⟨#[0xb1]⟩ 1 none) (List.mem_cons_of_mem _ (wl_1 (List.mem_of_getElem? (i := 13) rfl)))) rfl (by rw [hml]; exact hl.1) rfl dX8_init_1 (Nat.le_of_ble_eq_true rfl) (Nat.le_of_ble_eq_true rfl) ?_
  refine W.eq (g2 := F0 mI 4 ls []) rfl ?_
  refine lv_aload_n hx hb dX8_init_4 rfl (lv_at hl 0 rfl) ?_
  refine q_bipush (z := 60) hx hb dX8_init_5 (by decide) ?_
  refine q_newD (N := 60) hx hb (hts (.arrayClass .double) (List.mem_cons_of_mem _ (wl_1 (List.mem_of_getElem? (i := 7) rfl)))) hK 3 rfl hP hD hS hA ⟨by omega, by omega⟩ (Nat.le_of_ble_eq_true rfl) (Nat.le_of_ble_eq_true rfl) dX8_init_7 (fun q7 H hP hD hS => ?_)
  have hP : va_P (dC, dI) vwCl [(h0, .inr (9, [.null, .null, .int (iI 0), .int (iI 0), .int (iI 0)])), (q7, .inl (k 3, 60, .inr (.inr (.inr (.inl (fun _ => FP.dconst0))))))] H := hP
  have hD : va_D A [(h0, .inr (9, [.null, .null, .int (iI 0), .int (iI 0), .int (iI 0)])), (q7, .inl (k 3, 60, .inr (.inr (.inr (.inl (fun _ => FP.dconst0))))))] := hD
  refine va_putF (D := (dC, dI)) (ci := 9) (v := .ref q7) (ty := .array .double) (C := RX8) (T := TX8) (N := 5) hx hb hts (fun _ h => List.mem_cons_of_mem _ (inlX8 _ h)) tyX8 tyX8_ok nmX8 hown hK hP hD hS 0 rfl rfl 0 (by decide) (hts (.fieldLink RX8 9 "LoanServicing$Row" "doubles" "[D") (List.mem_cons_of_mem _ (wl_5 (List.mem_of_getElem? (i := 1) rfl)))) (fun _ h9 => h9) rfl hin rfl (by decide +kernel) rfl rfl (Nat.le_of_ble_eq_true rfl) dX8_init_9 (fun H locs hP hD hS => ?_)
  have hP : va_P (dC, dI) vwCl [(h0, .inr (9, [.ref q7, .null, .int (iI 0), .int (iI 0), .int (iI 0)])), (q7, .inl (k 3, 60, .inr (.inr (.inr (.inl (fun _ => FP.dconst0))))))] H := hP
  have hD : va_D A [(h0, .inr (9, [.ref q7, .null, .int (iI 0), .int (iI 0), .int (iI 0)])), (q7, .inl (k 3, 60, .inr (.inr (.inr (.inl (fun _ => FP.dconst0))))))] := hD
  refine lv_aload_n hx hb dX8_init_12 rfl (lv_at hl 0 rfl) ?_
  refine q_bipush (z := 60) hx hb dX8_init_13 (by decide) ?_
  refine q_newF (N := 60) hx hb (hts (.arrayClass .float) (List.mem_cons_of_mem _ (wl_5 (List.mem_of_getElem? (i := 2) rfl)))) hK 4 rfl hP hD hS hA ⟨by omega, by omega⟩ (Nat.le_of_ble_eq_true rfl) (Nat.le_of_ble_eq_true rfl) dX8_init_15 (fun q15 H hP hD hS => ?_)
  have hP : va_P (dC, dI) vwCl [(h0, .inr (9, [.ref q7, .null, .int (iI 0), .int (iI 0), .int (iI 0)])), (q7, .inl (k 3, 60, .inr (.inr (.inr (.inl (fun _ => FP.dconst0)))))), (q15, .inl (k 4, 60, .inr (.inr (.inl (fun _ => FP.fconst0)))))] H := hP
  have hD : va_D A [(h0, .inr (9, [.ref q7, .null, .int (iI 0), .int (iI 0), .int (iI 0)])), (q7, .inl (k 3, 60, .inr (.inr (.inr (.inl (fun _ => FP.dconst0)))))), (q15, .inl (k 4, 60, .inr (.inr (.inl (fun _ => FP.fconst0)))))] := hD
  refine va_putF (D := (dC, dI)) (ci := 9) (v := .ref q15) (ty := .array .float) (C := RX8) (T := TX8) (N := 5) hx hb hts (fun _ h => List.mem_cons_of_mem _ (inlX8 _ h)) tyX8 tyX8_ok nmX8 hown hK hP hD hS 0 rfl rfl 1 (by decide) (hts (.fieldLink RX8 15 "LoanServicing$Row" "floats" "[F") (List.mem_cons_of_mem _ (wl_5 (List.mem_of_getElem? (i := 3) rfl)))) (fun _ h9 => h9) rfl hin rfl (by decide +kernel) rfl rfl (Nat.le_of_ble_eq_true rfl) dX8_init_17 (fun H locs hP hD hS => ?_)
  have hP : va_P (dC, dI) vwCl [(h0, .inr (9, [.ref q7, .ref q15, .int (iI 0), .int (iI 0), .int (iI 0)])), (q7, .inl (k 3, 60, .inr (.inr (.inr (.inl (fun _ => FP.dconst0)))))), (q15, .inl (k 4, 60, .inr (.inr (.inl (fun _ => FP.fconst0)))))] H := hP
  have hD : va_D A [(h0, .inr (9, [.ref q7, .ref q15, .int (iI 0), .int (iI 0), .int (iI 0)])), (q7, .inl (k 3, 60, .inr (.inr (.inr (.inl (fun _ => FP.dconst0)))))), (q15, .inl (k 4, 60, .inr (.inr (.inl (fun _ => FP.fconst0)))))] := hD
  rw [hQ]
  refine W.widen (k := 2) (n := 120) (Nat.le_of_ble_eq_true rfl) (Nat.le_of_ble_eq_true rfl) ?_
  exact W.vret hx hb hr (fun t ht hW => ⟨⟨(q7, q15), rfl, trivial, by rw [ht]; exact hP.sub [0, 1, 2] rfl, by rw [hAe]; exact hD.sub [0, 1, 2] (by decide) rfl⟩, hS.F ht⟩) hS.2.2 dX8_init_20
set_option maxHeartbeats 4000000 in
set_option maxRecDepth 100000 in
/-- Account() -/
theorem c_X0_init (l : Launch) (dC : Nat → ClassId) (dI : Nat → Nat → Nat) (k : Nat → ClassId) (h0 : Nat) (sz : Nat) : Met l yX0_init woX0_init ({ frames := 2, cells := 11, slots := 753, locals := 32 } : Room) (PcW (dC, dI) k [.ref h0] [(h0, .inr (2, [.null, .null, .null, .null, .null, .int (iI 0), .int (iI 0), .int (iI 0)]))] sz) (va_Qv (fun (_ : Nat × Nat × Nat × Nat × Nat × Nat × Nat × Nat × Nat × Nat × Nat) => True) (QB (dC, dI) [(h0, .inr (2, [.null, .null, .null, .null, .null, .int (iI 0), .int (iI 0), .int (iI 0)]))] (fun u => [(h0, .inr (2, [.ref u.1, .ref u.2.1, .ref u.2.2.1, .ref u.2.2.2.2.1, .ref u.2.2.2.2.2.2.2.1, .int (iI 0), .int (iI 0), .int (iI 0)])), (u.1, .inl (k 0, 5, .inl (aI (upI (upI (upI (upI (upI aZ 0 0) 1 0) 2 10) 3 500) 4 0)))), (u.2.1, .inl (k 0, 5, .inl (aI aZ))), (u.2.2.1, .inr (7, [.int (iI 0), .int (iI 0), .int (iI 0), .long (lI 0), .int (iI 0), .int (iI 0), .int (iI 0), .long (lI 0), .long (lI 0), .long (lI 0), .long (lI 0), .long (lI 0), .int (iI 0), .int (iI 0), .int (iI 0), .int (iI 0), .ref u.2.2.2.1])), (u.2.2.2.1, .inl (k 1, 8, .inr (.inl (aL aZ)))), (u.2.2.2.2.1, .inr (3, [.ref u.2.2.2.2.2.1, .ref u.2.2.2.2.2.2.1, .int (iI 0), .int (iI 0), .int (iI 0)])), (u.2.2.2.2.2.1, .inl (k 1, 264, .inr (.inl (aL aZ)))), (u.2.2.2.2.2.2.1, .inl (k 0, 264, .inl (aI aZ))), (u.2.2.2.2.2.2.2.1, .inr (6, [.ref u.2.2.2.2.2.2.2.2.1, .ref u.2.2.2.2.2.2.2.2.2.1, .ref u.2.2.2.2.2.2.2.2.2.2, .int (iI 0), .int (iI 0)])), (u.2.2.2.2.2.2.2.2.1, .inl (k 0, 60, .inl (aI aZ))), (u.2.2.2.2.2.2.2.2.2.1, .inl (k 0, 60, .inl (aI aZ))), (u.2.2.2.2.2.2.2.2.2.2, .inl (k 1, 60, .inr (.inl (aL aZ))))]) sz) (va_A [(h0, .inr (2, [.null, .null, .null, .null, .null, .int (iI 0), .int (iI 0), .int (iI 0)]))] sz)) 11 753 (va_A [(h0, .inr (2, [.null, .null, .null, .null, .null, .int (iI 0), .int (iI 0), .int (iI 0)]))] sz) := by
  refine Met.ofW (cc := cX0_init) (maxL := 1) (ret := none) (by decide) rfl ?_
  intro p e s mI args below meth cO s₁ B hml hv
  obtain ⟨rfl, rfl, hP, hD0, hE⟩ := hv
  have hx := B.exec
  have hb := B.bytes
  have hr := B.returns
  have hts := atoms_spec (ws := woX0_init) B.pre
  have hown : s.vm.findClass RX0 = some mI.cls := findClass_of_methodNamed B.named
  have hlocks := B.notSynchronized
  have hin : meth.name = "<init>" := (name_of_methodNamed B.named B.method).1
  have hD := hD0.self (sz := s.heap.size)
  generalize hAe : va_A [(h0, .inr (2, [.null, .null, .null, .null, .null, .int (iI 0), .int (iI 0), .int (iI 0)]))] s.heap.size = A at hD hE ⊢
  have hA : ∀ q : Nat, s.heap.size ≤ q → A q := fun q h => by rw [← hAe]; exact Or.inr h
  have hS : va_S A s.heap s.heap [] := va_S.rf
  obtain ⟨hK, hNw, hNc, hZs, hAO1, hAO2⟩ := id hE
  have hSF : CallFix p mI cO cX0_init 1 s ([.ref h0] : List Value).toArray woX0_init RX0 := ⟨hx, hb, hml, hown, hts⟩
  have hl := lv_entry ([.ref h0] : List Value) (n := 1) (Nat.le_of_ble_eq_true rfl)
  rw [lg_entry_eq]
  generalize (lg_sl ([.ref h0] : List Value) ++ List.replicate (1 - (lg_sl ([.ref h0] : List Value)).length) Slot.unset).toArray = ls at hl ⊢
  have hl : lv_has ls 1 [(0, .ref h0)] := hl
  refine W_gen (fun Q hQ => ?_)
  change W p l e ({ frames := 2, cells := 11, slots := 753, locals := 32 } : Room) s mI _ below meth cO s.heap [] 0 0 Q _
  have hP : va_P (dC, dI) vwCl [(h0, .inr (2, [.null, .null, .null, .null, .null, .int (iI 0), .int (iI 0), .int (iI 0)]))] s.heap := hP
  refine lv_aload_n hx hb dX0_init_0 rfl (lv_at hl 0 rfl) ?_
  refine W.objInit hx hb hown (hts (.methodLink RX0 3 objectInit) (List.mem_cons_of_mem _ (wl_2 (List.mem_of_getElem? (i := 18) rfl)))) (hts (.instanceMethod objectInit) (List.mem_cons_of_mem _ (wl_1 (List.mem_of_getElem? (i := 12) rfl)))) (hts (.code objectInit ⟨#[0xb1]⟩ 1 none) (List.mem_cons_of_mem _ (wl_1 (List.mem_of_getElem? (i := 13) rfl)))) rfl (by rw [hml]; exact hl.1) rfl dX0_init_1 (Nat.le_of_ble_eq_true rfl) (Nat.le_of_ble_eq_true rfl) ?_
  refine W.eq (g2 := F0 mI 4 ls []) rfl ?_
  refine lv_aload_n hx hb dX0_init_4 rfl (lv_at hl 0 rfl) ?_
  refine q_iconst hx hb dX0_init_5 ?_
  refine q_newI (N := 5) hx hb (hts (.arrayClass .int) (List.mem_cons_of_mem _ (wl_2 (List.mem_of_getElem? (i := 19) rfl)))) hK 0 rfl hP hD hS hA ⟨by omega, by omega⟩ (Nat.le_of_ble_eq_true rfl) (Nat.le_of_ble_eq_true rfl) dX0_init_6 (fun q6 H hP hD hS => ?_)
  have hP : va_P (dC, dI) vwCl [(h0, .inr (2, [.null, .null, .null, .null, .null, .int (iI 0), .int (iI 0), .int (iI 0)])), (q6, .inl (k 0, 5, .inl (aI aZ)))] H := hP
  have hD : va_D A [(h0, .inr (2, [.null, .null, .null, .null, .null, .int (iI 0), .int (iI 0), .int (iI 0)])), (q6, .inl (k 0, 5, .inl (aI aZ)))] := hD
  refine lv_dup hx hb dX0_init_8 rfl ?_
  refine q_iconst hx hb dX0_init_9 ?_
  refine q_iconst hx hb dX0_init_10 ?_
  refine q_iast (G := (upI aZ 0 0)) hx hb hK hP hD hS 1 0 rfl rfl (by omega) rfl dX0_init_11 (fun H locs hP hD hS => ?_)
  have hP : va_P (dC, dI) vwCl [(h0, .inr (2, [.null, .null, .null, .null, .null, .int (iI 0), .int (iI 0), .int (iI 0)])), (q6, .inl (k 0, 5, .inl (aI (upI aZ 0 0))))] H := hP
  have hD : va_D A [(h0, .inr (2, [.null, .null, .null, .null, .null, .int (iI 0), .int (iI 0), .int (iI 0)])), (q6, .inl (k 0, 5, .inl (aI (upI aZ 0 0))))] := hD
  refine lv_dup hx hb dX0_init_12 rfl ?_
  refine q_iconst hx hb dX0_init_13 ?_
  refine q_iconst hx hb dX0_init_14 ?_
  refine q_iast (G := (upI (upI aZ 0 0) 1 0)) hx hb hK hP hD hS 1 0 rfl rfl (by omega) rfl dX0_init_15 (fun H locs hP hD hS => ?_)
  have hP : va_P (dC, dI) vwCl [(h0, .inr (2, [.null, .null, .null, .null, .null, .int (iI 0), .int (iI 0), .int (iI 0)])), (q6, .inl (k 0, 5, .inl (aI (upI (upI aZ 0 0) 1 0))))] H := hP
  have hD : va_D A [(h0, .inr (2, [.null, .null, .null, .null, .null, .int (iI 0), .int (iI 0), .int (iI 0)])), (q6, .inl (k 0, 5, .inl (aI (upI (upI aZ 0 0) 1 0))))] := hD
  refine lv_dup hx hb dX0_init_16 rfl ?_
  refine q_iconst hx hb dX0_init_17 ?_
  refine q_bipush (z := 10) hx hb dX0_init_18 (by decide) ?_
  refine q_iast (G := (upI (upI (upI aZ 0 0) 1 0) 2 10)) hx hb hK hP hD hS 1 0 rfl rfl (by omega) rfl dX0_init_20 (fun H locs hP hD hS => ?_)
  have hP : va_P (dC, dI) vwCl [(h0, .inr (2, [.null, .null, .null, .null, .null, .int (iI 0), .int (iI 0), .int (iI 0)])), (q6, .inl (k 0, 5, .inl (aI (upI (upI (upI aZ 0 0) 1 0) 2 10))))] H := hP
  have hD : va_D A [(h0, .inr (2, [.null, .null, .null, .null, .null, .int (iI 0), .int (iI 0), .int (iI 0)])), (q6, .inl (k 0, 5, .inl (aI (upI (upI (upI aZ 0 0) 1 0) 2 10))))] := hD
  refine lv_dup hx hb dX0_init_21 rfl ?_
  refine q_iconst hx hb dX0_init_22 ?_
  refine q_sipush (z := 500) hx hb dX0_init_23 (by decide) ?_
  refine q_iast (G := (upI (upI (upI (upI aZ 0 0) 1 0) 2 10) 3 500)) hx hb hK hP hD hS 1 0 rfl rfl (by omega) rfl dX0_init_26 (fun H locs hP hD hS => ?_)
  have hP : va_P (dC, dI) vwCl [(h0, .inr (2, [.null, .null, .null, .null, .null, .int (iI 0), .int (iI 0), .int (iI 0)])), (q6, .inl (k 0, 5, .inl (aI (upI (upI (upI (upI aZ 0 0) 1 0) 2 10) 3 500))))] H := hP
  have hD : va_D A [(h0, .inr (2, [.null, .null, .null, .null, .null, .int (iI 0), .int (iI 0), .int (iI 0)])), (q6, .inl (k 0, 5, .inl (aI (upI (upI (upI (upI aZ 0 0) 1 0) 2 10) 3 500))))] := hD
  refine lv_dup hx hb dX0_init_27 rfl ?_
  refine q_iconst hx hb dX0_init_28 ?_
  refine q_iconst hx hb dX0_init_29 ?_
  refine q_iast (G := (upI (upI (upI (upI (upI aZ 0 0) 1 0) 2 10) 3 500) 4 0)) hx hb hK hP hD hS 1 0 rfl rfl (by omega) rfl dX0_init_30 (fun H locs hP hD hS => ?_)
  have hP : va_P (dC, dI) vwCl [(h0, .inr (2, [.null, .null, .null, .null, .null, .int (iI 0), .int (iI 0), .int (iI 0)])), (q6, .inl (k 0, 5, .inl (aI (upI (upI (upI (upI (upI aZ 0 0) 1 0) 2 10) 3 500) 4 0))))] H := hP
  have hD : va_D A [(h0, .inr (2, [.null, .null, .null, .null, .null, .int (iI 0), .int (iI 0), .int (iI 0)])), (q6, .inl (k 0, 5, .inl (aI (upI (upI (upI (upI (upI aZ 0 0) 1 0) 2 10) 3 500) 4 0))))] := hD
  refine va_putF (D := (dC, dI)) (ci := 2) (v := .ref q6) (ty := .array .int) (C := RX0) (T := TX0) (N := 8) hx hb hts (fun _ h => List.mem_cons_of_mem _ (inlX0 _ h)) tyX0 tyX0_ok nmX0 hown hK hP hD hS 0 rfl rfl 0 (by decide) (hts (.fieldLink RX0 9 "LoanServicing$Account" "rules" "[I") (List.mem_cons_of_mem _ (wl_2 (List.mem_of_getElem? (i := 20) rfl)))) (fun _ h9 => h9) rfl hin rfl (by decide +kernel) rfl rfl (Nat.le_of_ble_eq_true rfl) dX0_init_31 (fun H locs hP hD hS => ?_)
  have hP : va_P (dC, dI) vwCl [(h0, .inr (2, [.ref q6, .null, .null, .null, .null, .int (iI 0), .int (iI 0), .int (iI 0)])), (q6, .inl (k 0, 5, .inl (aI (upI (upI (upI (upI (upI aZ 0 0) 1 0) 2 10) 3 500) 4 0))))] H := hP
  have hD : va_D A [(h0, .inr (2, [.ref q6, .null, .null, .null, .null, .int (iI 0), .int (iI 0), .int (iI 0)])), (q6, .inl (k 0, 5, .inl (aI (upI (upI (upI (upI (upI aZ 0 0) 1 0) 2 10) 3 500) 4 0))))] := hD
  refine lv_aload_n hx hb dX0_init_34 rfl (lv_at hl 0 rfl) ?_
  refine q_iconst hx hb dX0_init_35 ?_
  refine q_newI (N := 5) hx hb (hts (.arrayClass .int) (List.mem_cons_of_mem _ (wl_2 (List.mem_of_getElem? (i := 19) rfl)))) hK 0 rfl hP hD hS hA ⟨by omega, by omega⟩ (Nat.le_of_ble_eq_true rfl) (Nat.le_of_ble_eq_true rfl) dX0_init_36 (fun q36 H hP hD hS => ?_)
  have hP : va_P (dC, dI) vwCl [(h0, .inr (2, [.ref q6, .null, .null, .null, .null, .int (iI 0), .int (iI 0), .int (iI 0)])), (q6, .inl (k 0, 5, .inl (aI (upI (upI (upI (upI (upI aZ 0 0) 1 0) 2 10) 3 500) 4 0)))), (q36, .inl (k 0, 5, .inl (aI aZ)))] H := hP
  have hD : va_D A [(h0, .inr (2, [.ref q6, .null, .null, .null, .null, .int (iI 0), .int (iI 0), .int (iI 0)])), (q6, .inl (k 0, 5, .inl (aI (upI (upI (upI (upI (upI aZ 0 0) 1 0) 2 10) 3 500) 4 0)))), (q36, .inl (k 0, 5, .inl (aI aZ)))] := hD
  refine va_putF (D := (dC, dI)) (ci := 2) (v := .ref q36) (ty := .array .int) (C := RX0) (T := TX0) (N := 8) hx hb hts (fun _ h => List.mem_cons_of_mem _ (inlX0 _ h)) tyX0 tyX0_ok nmX0 hown hK hP hD hS 0 rfl rfl 1 (by decide) (hts (.fieldLink RX0 15 "LoanServicing$Account" "firstRules" "[I") (List.mem_cons_of_mem _ (wl_2 (List.mem_of_getElem? (i := 21) rfl)))) (fun _ h9 => h9) rfl hin rfl (by decide +kernel) rfl rfl (Nat.le_of_ble_eq_true rfl) dX0_init_38 (fun H locs hP hD hS => ?_)
  have hP : va_P (dC, dI) vwCl [(h0, .inr (2, [.ref q6, .ref q36, .null, .null, .null, .int (iI 0), .int (iI 0), .int (iI 0)])), (q6, .inl (k 0, 5, .inl (aI (upI (upI (upI (upI (upI aZ 0 0) 1 0) 2 10) 3 500) 4 0)))), (q36, .inl (k 0, 5, .inl (aI aZ)))] H := hP
  have hD : va_D A [(h0, .inr (2, [.ref q6, .ref q36, .null, .null, .null, .int (iI 0), .int (iI 0), .int (iI 0)])), (q6, .inl (k 0, 5, .inl (aI (upI (upI (upI (upI (upI aZ 0 0) 1 0) 2 10) 3 500) 4 0)))), (q36, .inl (k 0, 5, .inl (aI aZ)))] := hD
  refine lv_aload_n hx hb dX0_init_41 rfl (lv_at hl 0 rfl) ?_
  refine va_new (ci := 7) (fs := [.int (iI 0), .int (iI 0), .int (iI 0), .long (lI 0), .int (iI 0), .int (iI 0), .int (iI 0), .long (lI 0), .long (lI 0), .long (lI 0), .long (lI 0), .long (lI 0), .int (iI 0), .int (iI 0), .int (iI 0), .int (iI 0), .null]) (C := RX6) (T := TX6) (N := 17) hx hb hts (fun _ h => List.mem_cons_of_mem _ (inlX6 _ h)) tyX6 tyX6_ok hown (hts (.classLink RX0 18 RX6) (List.mem_cons_of_mem _ (wl_2 (List.mem_of_getElem? (i := 22) rfl)))) (hts (.instantiable RX6 17) (List.mem_cons_of_mem _ (wl_2 (List.mem_of_getElem? (i := 23) rfl)))) (hts (.initialized RX6) (List.mem_cons_of_mem _ (wl_3 (List.mem_of_getElem? (i := 0) rfl)))) hK hP hD hS hA rfl (fun j hj => by rcases (show j = 0 ∨ j = 1 ∨ j = 2 ∨ j = 3 ∨ j = 4 ∨ j = 5 ∨ j = 6 ∨ j = 7 ∨ j = 8 ∨ j = 9 ∨ j = 10 ∨ j = 11 ∨ j = 12 ∨ j = 13 ∨ j = 14 ∨ j = 15 ∨ j = 16 by omega) with rfl | rfl | rfl | rfl | rfl | rfl | rfl | rfl | rfl | rfl | rfl | rfl | rfl | rfl | rfl | rfl | rfl <;> rfl) (Nat.le_of_ble_eq_true rfl) (Nat.le_of_ble_eq_true rfl) dX0_init_42 (fun q42 H hP hD hS => ?_)
  have hP : va_P (dC, dI) vwCl [(h0, .inr (2, [.ref q6, .ref q36, .null, .null, .null, .int (iI 0), .int (iI 0), .int (iI 0)])), (q6, .inl (k 0, 5, .inl (aI (upI (upI (upI (upI (upI aZ 0 0) 1 0) 2 10) 3 500) 4 0)))), (q36, .inl (k 0, 5, .inl (aI aZ))), (q42, .inr (7, [.int (iI 0), .int (iI 0), .int (iI 0), .long (lI 0), .int (iI 0), .int (iI 0), .int (iI 0), .long (lI 0), .long (lI 0), .long (lI 0), .long (lI 0), .long (lI 0), .int (iI 0), .int (iI 0), .int (iI 0), .int (iI 0), .null]))] H := hP
  have hD : va_D A [(h0, .inr (2, [.ref q6, .ref q36, .null, .null, .null, .int (iI 0), .int (iI 0), .int (iI 0)])), (q6, .inl (k 0, 5, .inl (aI (upI (upI (upI (upI (upI aZ 0 0) 1 0) 2 10) 3 500) 4 0)))), (q36, .inl (k 0, 5, .inl (aI aZ))), (q42, .inr (7, [.int (iI 0), .int (iI 0), .int (iI 0), .long (lI 0), .int (iI 0), .int (iI 0), .int (iI 0), .long (lI 0), .long (lI 0), .long (lI 0), .long (lI 0), .long (lI 0), .int (iI 0), .int (iI 0), .int (iI 0), .int (iI 0), .null]))] := hD
  refine lv_dup hx hb dX0_init_45 rfl ?_
  refine kv (va_runIN (As := []) (rest := [.ref q42, .ref h0]) hSF ((c_X6_init l dC dI k q42) H.size) ⟨va_cnB 0 hts gX0_init_X6_init_n20 rfl rfl rfl (hNw _ (List.mem_of_getElem? (i := 58) rfl)) (hts (.initialized RX6) (List.mem_cons_of_mem _ (wl_3 (List.mem_of_getElem? (i := 0) rfl)))) (by decide +kernel) ⟨Nat.le_of_ble_eq_true rfl, Nat.le_of_ble_eq_true rfl⟩, rfl, (hts (.instanceMethod yX6_init) (List.mem_cons_of_mem _ (wl_3 (List.mem_of_getElem? (i := 10) rfl))))⟩ (preS (As := .ref q42 :: []) hP hD hE hS hA [3] rfl (by decide)) rfl rfl hl.1 rfl (lv_room (Nat.le_of_ble_eq_true rfl)) dX0_init_46 ⟨Nat.le_of_ble_eq_true rfl, Nat.le_of_ble_eq_true rfl⟩) hP hD hS hA [3] [0, 1, 2] rfl (wr := [(h0, .inr (2, [.ref q6, .ref q36, .null, .null, .null, .int (iI 0), .int (iI 0), .int (iI 0)])), (q6, .inl (k 0, 5, .inl (aI (upI (upI (upI (upI (upI aZ 0 0) 1 0) 2 10) 3 500) 4 0)))), (q36, .inl (k 0, 5, .inl (aI aZ)))]) rfl (by decide) (by decide) (fun u46 H locs hw hP hD hS => ?_)
  obtain ⟨u46_0, rfl⟩ : ∃ z, z = u46 := ⟨_, rfl⟩
  have hP : va_P (dC, dI) vwCl [(h0, .inr (2, [.ref q6, .ref q36, .null, .null, .null, .int (iI 0), .int (iI 0), .int (iI 0)])), (q6, .inl (k 0, 5, .inl (aI (upI (upI (upI (upI (upI aZ 0 0) 1 0) 2 10) 3 500) 4 0)))), (q36, .inl (k 0, 5, .inl (aI aZ))), (q42, .inr (7, [.int (iI 0), .int (iI 0), .int (iI 0), .long (lI 0), .int (iI 0), .int (iI 0), .int (iI 0), .long (lI 0), .long (lI 0), .long (lI 0), .long (lI 0), .long (lI 0), .int (iI 0), .int (iI 0), .int (iI 0), .int (iI 0), .ref u46_0])), (u46_0, .inl (k 1, 8, .inr (.inl (aL aZ))))] H := hP
  have hD : va_D A [(h0, .inr (2, [.ref q6, .ref q36, .null, .null, .null, .int (iI 0), .int (iI 0), .int (iI 0)])), (q6, .inl (k 0, 5, .inl (aI (upI (upI (upI (upI (upI aZ 0 0) 1 0) 2 10) 3 500) 4 0)))), (q36, .inl (k 0, 5, .inl (aI aZ))), (q42, .inr (7, [.int (iI 0), .int (iI 0), .int (iI 0), .long (lI 0), .int (iI 0), .int (iI 0), .int (iI 0), .long (lI 0), .long (lI 0), .long (lI 0), .long (lI 0), .long (lI 0), .int (iI 0), .int (iI 0), .int (iI 0), .int (iI 0), .ref u46_0])), (u46_0, .inl (k 1, 8, .inr (.inl (aL aZ))))] := hD
  refine va_putF (D := (dC, dI)) (ci := 2) (v := .ref q42) (ty := .object "LoanServicing$Loan") (C := RX0) (T := TX0) (N := 8) hx hb hts (fun _ h => List.mem_cons_of_mem _ (inlX0 _ h)) tyX0 tyX0_ok nmX0 hown hK hP hD hS 0 rfl rfl 2 (by decide) (hts (.fieldLink RX0 21 "LoanServicing$Account" "loan" "LLoanServicing$Loan;") (List.mem_cons_of_mem _ (wl_3 (List.mem_of_getElem? (i := 1) rfl)))) (fun _ h9 => h9) rfl hin rfl (by decide +kernel) rfl rfl (Nat.le_of_ble_eq_true rfl) dX0_init_49 (fun H locs hP hD hS => ?_)
  have hP : va_P (dC, dI) vwCl [(h0, .inr (2, [.ref q6, .ref q36, .ref q42, .null, .null, .int (iI 0), .int (iI 0), .int (iI 0)])), (q6, .inl (k 0, 5, .inl (aI (upI (upI (upI (upI (upI aZ 0 0) 1 0) 2 10) 3 500) 4 0)))), (q36, .inl (k 0, 5, .inl (aI aZ))), (q42, .inr (7, [.int (iI 0), .int (iI 0), .int (iI 0), .long (lI 0), .int (iI 0), .int (iI 0), .int (iI 0), .long (lI 0), .long (lI 0), .long (lI 0), .long (lI 0), .long (lI 0), .int (iI 0), .int (iI 0), .int (iI 0), .int (iI 0), .ref u46_0])), (u46_0, .inl (k 1, 8, .inr (.inl (aL aZ))))] H := hP
  have hD : va_D A [(h0, .inr (2, [.ref q6, .ref q36, .ref q42, .null, .null, .int (iI 0), .int (iI 0), .int (iI 0)])), (q6, .inl (k 0, 5, .inl (aI (upI (upI (upI (upI (upI aZ 0 0) 1 0) 2 10) 3 500) 4 0)))), (q36, .inl (k 0, 5, .inl (aI aZ))), (q42, .inr (7, [.int (iI 0), .int (iI 0), .int (iI 0), .long (lI 0), .int (iI 0), .int (iI 0), .int (iI 0), .long (lI 0), .long (lI 0), .long (lI 0), .long (lI 0), .long (lI 0), .int (iI 0), .int (iI 0), .int (iI 0), .int (iI 0), .ref u46_0])), (u46_0, .inl (k 1, 8, .inr (.inl (aL aZ))))] := hD
  refine lv_aload_n hx hb dX0_init_52 rfl (lv_at hl 0 rfl) ?_
  refine va_new (ci := 3) (fs := [.null, .null, .int (iI 0), .int (iI 0), .int (iI 0)]) (C := RX1) (T := TX1) (N := 5) hx hb hts (fun _ h => List.mem_cons_of_mem _ (inlX1 _ h)) tyX1 tyX1_ok hown (hts (.classLink RX0 25 RX1) (List.mem_cons_of_mem _ (wl_3 (List.mem_of_getElem? (i := 2) rfl)))) (hts (.instantiable RX1 5) (List.mem_cons_of_mem _ (wl_3 (List.mem_of_getElem? (i := 3) rfl)))) (hts (.initialized RX1) (List.mem_cons_of_mem _ (wl_3 (List.mem_of_getElem? (i := 4) rfl)))) hK hP hD hS hA rfl (fun j hj => by rcases (show j = 0 ∨ j = 1 ∨ j = 2 ∨ j = 3 ∨ j = 4 by omega) with rfl | rfl | rfl | rfl | rfl <;> rfl) (Nat.le_of_ble_eq_true rfl) (Nat.le_of_ble_eq_true rfl) dX0_init_53 (fun q53 H hP hD hS => ?_)
  have hP : va_P (dC, dI) vwCl [(h0, .inr (2, [.ref q6, .ref q36, .ref q42, .null, .null, .int (iI 0), .int (iI 0), .int (iI 0)])), (q6, .inl (k 0, 5, .inl (aI (upI (upI (upI (upI (upI aZ 0 0) 1 0) 2 10) 3 500) 4 0)))), (q36, .inl (k 0, 5, .inl (aI aZ))), (q42, .inr (7, [.int (iI 0), .int (iI 0), .int (iI 0), .long (lI 0), .int (iI 0), .int (iI 0), .int (iI 0), .long (lI 0), .long (lI 0), .long (lI 0), .long (lI 0), .long (lI 0), .int (iI 0), .int (iI 0), .int (iI 0), .int (iI 0), .ref u46_0])), (u46_0, .inl (k 1, 8, .inr (.inl (aL aZ)))), (q53, .inr (3, [.null, .null, .int (iI 0), .int (iI 0), .int (iI 0)]))] H := hP
  have hD : va_D A [(h0, .inr (2, [.ref q6, .ref q36, .ref q42, .null, .null, .int (iI 0), .int (iI 0), .int (iI 0)])), (q6, .inl (k 0, 5, .inl (aI (upI (upI (upI (upI (upI aZ 0 0) 1 0) 2 10) 3 500) 4 0)))), (q36, .inl (k 0, 5, .inl (aI aZ))), (q42, .inr (7, [.int (iI 0), .int (iI 0), .int (iI 0), .long (lI 0), .int (iI 0), .int (iI 0), .int (iI 0), .long (lI 0), .long (lI 0), .long (lI 0), .long (lI 0), .long (lI 0), .int (iI 0), .int (iI 0), .int (iI 0), .int (iI 0), .ref u46_0])), (u46_0, .inl (k 1, 8, .inr (.inl (aL aZ)))), (q53, .inr (3, [.null, .null, .int (iI 0), .int (iI 0), .int (iI 0)]))] := hD
  refine lv_dup hx hb dX0_init_56 rfl ?_
  refine kv (va_runIN (As := []) (rest := [.ref q53, .ref h0]) hSF ((c_X1_init l dC dI k q53) H.size) ⟨va_cnB 0 hts gX0_init_X1_init_n27 rfl rfl rfl (hNw _ (List.mem_of_getElem? (i := 59) rfl)) (hts (.initialized RX1) (List.mem_cons_of_mem _ (wl_3 (List.mem_of_getElem? (i := 4) rfl)))) (by decide +kernel) ⟨Nat.le_of_ble_eq_true rfl, Nat.le_of_ble_eq_true rfl⟩, rfl, (hts (.instanceMethod yX1_init) (List.mem_cons_of_mem _ (wl_3 (List.mem_of_getElem? (i := 14) rfl))))⟩ (preS (As := .ref q53 :: []) hP hD hE hS hA [5] rfl (by decide)) rfl rfl hl.1 rfl (lv_room (Nat.le_of_ble_eq_true rfl)) dX0_init_57 ⟨Nat.le_of_ble_eq_true rfl, Nat.le_of_ble_eq_true rfl⟩) hP hD hS hA [5] [0, 1, 2, 3, 4] rfl (wr := [(h0, .inr (2, [.ref q6, .ref q36, .ref q42, .null, .null, .int (iI 0), .int (iI 0), .int (iI 0)])), (q6, .inl (k 0, 5, .inl (aI (upI (upI (upI (upI (upI aZ 0 0) 1 0) 2 10) 3 500) 4 0)))), (q36, .inl (k 0, 5, .inl (aI aZ))), (q42, .inr (7, [.int (iI 0), .int (iI 0), .int (iI 0), .long (lI 0), .int (iI 0), .int (iI 0), .int (iI 0), .long (lI 0), .long (lI 0), .long (lI 0), .long (lI 0), .long (lI 0), .int (iI 0), .int (iI 0), .int (iI 0), .int (iI 0), .ref u46_0])), (u46_0, .inl (k 1, 8, .inr (.inl (aL aZ))))]) rfl (by decide) (by decide) (fun u57 H locs hw hP hD hS => ?_)
  obtain ⟨u57_0, u57_1⟩ := u57
  have hP : va_P (dC, dI) vwCl [(h0, .inr (2, [.ref q6, .ref q36, .ref q42, .null, .null, .int (iI 0), .int (iI 0), .int (iI 0)])), (q6, .inl (k 0, 5, .inl (aI (upI (upI (upI (upI (upI aZ 0 0) 1 0) 2 10) 3 500) 4 0)))), (q36, .inl (k 0, 5, .inl (aI aZ))), (q42, .inr (7, [.int (iI 0), .int (iI 0), .int (iI 0), .long (lI 0), .int (iI 0), .int (iI 0), .int (iI 0), .long (lI 0), .long (lI 0), .long (lI 0), .long (lI 0), .long (lI 0), .int (iI 0), .int (iI 0), .int (iI 0), .int (iI 0), .ref u46_0])), (u46_0, .inl (k 1, 8, .inr (.inl (aL aZ)))), (q53, .inr (3, [.ref u57_0, .ref u57_1, .int (iI 0), .int (iI 0), .int (iI 0)])), (u57_0, .inl (k 1, 264, .inr (.inl (aL aZ)))), (u57_1, .inl (k 0, 264, .inl (aI aZ)))] H := hP
  have hD : va_D A [(h0, .inr (2, [.ref q6, .ref q36, .ref q42, .null, .null, .int (iI 0), .int (iI 0), .int (iI 0)])), (q6, .inl (k 0, 5, .inl (aI (upI (upI (upI (upI (upI aZ 0 0) 1 0) 2 10) 3 500) 4 0)))), (q36, .inl (k 0, 5, .inl (aI aZ))), (q42, .inr (7, [.int (iI 0), .int (iI 0), .int (iI 0), .long (lI 0), .int (iI 0), .int (iI 0), .int (iI 0), .long (lI 0), .long (lI 0), .long (lI 0), .long (lI 0), .long (lI 0), .int (iI 0), .int (iI 0), .int (iI 0), .int (iI 0), .ref u46_0])), (u46_0, .inl (k 1, 8, .inr (.inl (aL aZ)))), (q53, .inr (3, [.ref u57_0, .ref u57_1, .int (iI 0), .int (iI 0), .int (iI 0)])), (u57_0, .inl (k 1, 264, .inr (.inl (aL aZ)))), (u57_1, .inl (k 0, 264, .inl (aI aZ)))] := hD
  refine va_putF (D := (dC, dI)) (ci := 2) (v := .ref q53) (ty := .object "LoanServicing$Bills") (C := RX0) (T := TX0) (N := 8) hx hb hts (fun _ h => List.mem_cons_of_mem _ (inlX0 _ h)) tyX0 tyX0_ok nmX0 hown hK hP hD hS 0 rfl rfl 3 (by decide) (hts (.fieldLink RX0 28 "LoanServicing$Account" "bills" "LLoanServicing$Bills;") (List.mem_cons_of_mem _ (wl_3 (List.mem_of_getElem? (i := 5) rfl)))) (fun _ h9 => h9) rfl hin rfl (by decide +kernel) rfl rfl (Nat.le_of_ble_eq_true rfl) dX0_init_60 (fun H locs hP hD hS => ?_)
  have hP : va_P (dC, dI) vwCl [(h0, .inr (2, [.ref q6, .ref q36, .ref q42, .ref q53, .null, .int (iI 0), .int (iI 0), .int (iI 0)])), (q6, .inl (k 0, 5, .inl (aI (upI (upI (upI (upI (upI aZ 0 0) 1 0) 2 10) 3 500) 4 0)))), (q36, .inl (k 0, 5, .inl (aI aZ))), (q42, .inr (7, [.int (iI 0), .int (iI 0), .int (iI 0), .long (lI 0), .int (iI 0), .int (iI 0), .int (iI 0), .long (lI 0), .long (lI 0), .long (lI 0), .long (lI 0), .long (lI 0), .int (iI 0), .int (iI 0), .int (iI 0), .int (iI 0), .ref u46_0])), (u46_0, .inl (k 1, 8, .inr (.inl (aL aZ)))), (q53, .inr (3, [.ref u57_0, .ref u57_1, .int (iI 0), .int (iI 0), .int (iI 0)])), (u57_0, .inl (k 1, 264, .inr (.inl (aL aZ)))), (u57_1, .inl (k 0, 264, .inl (aI aZ)))] H := hP
  have hD : va_D A [(h0, .inr (2, [.ref q6, .ref q36, .ref q42, .ref q53, .null, .int (iI 0), .int (iI 0), .int (iI 0)])), (q6, .inl (k 0, 5, .inl (aI (upI (upI (upI (upI (upI aZ 0 0) 1 0) 2 10) 3 500) 4 0)))), (q36, .inl (k 0, 5, .inl (aI aZ))), (q42, .inr (7, [.int (iI 0), .int (iI 0), .int (iI 0), .long (lI 0), .int (iI 0), .int (iI 0), .int (iI 0), .long (lI 0), .long (lI 0), .long (lI 0), .long (lI 0), .long (lI 0), .int (iI 0), .int (iI 0), .int (iI 0), .int (iI 0), .ref u46_0])), (u46_0, .inl (k 1, 8, .inr (.inl (aL aZ)))), (q53, .inr (3, [.ref u57_0, .ref u57_1, .int (iI 0), .int (iI 0), .int (iI 0)])), (u57_0, .inl (k 1, 264, .inr (.inl (aL aZ)))), (u57_1, .inl (k 0, 264, .inl (aI aZ)))] := hD
  refine lv_aload_n hx hb dX0_init_63 rfl (lv_at hl 0 rfl) ?_
  refine va_new (ci := 6) (fs := [.null, .null, .null, .int (iI 0), .int (iI 0)]) (C := RX5) (T := TX5) (N := 5) hx hb hts (fun _ h => List.mem_cons_of_mem _ (inlX5 _ h)) tyX5 tyX5_ok hown (hts (.classLink RX0 32 RX5) (List.mem_cons_of_mem _ (wl_3 (List.mem_of_getElem? (i := 6) rfl)))) (hts (.instantiable RX5 5) (List.mem_cons_of_mem _ (wl_3 (List.mem_of_getElem? (i := 7) rfl)))) (hts (.initialized RX5) (List.mem_cons_of_mem _ (wl_3 (List.mem_of_getElem? (i := 8) rfl)))) hK hP hD hS hA rfl (fun j hj => by rcases (show j = 0 ∨ j = 1 ∨ j = 2 ∨ j = 3 ∨ j = 4 by omega) with rfl | rfl | rfl | rfl | rfl <;> rfl) (Nat.le_of_ble_eq_true rfl) (Nat.le_of_ble_eq_true rfl) dX0_init_64 (fun q64 H hP hD hS => ?_)
  have hP : va_P (dC, dI) vwCl [(h0, .inr (2, [.ref q6, .ref q36, .ref q42, .ref q53, .null, .int (iI 0), .int (iI 0), .int (iI 0)])), (q6, .inl (k 0, 5, .inl (aI (upI (upI (upI (upI (upI aZ 0 0) 1 0) 2 10) 3 500) 4 0)))), (q36, .inl (k 0, 5, .inl (aI aZ))), (q42, .inr (7, [.int (iI 0), .int (iI 0), .int (iI 0), .long (lI 0), .int (iI 0), .int (iI 0), .int (iI 0), .long (lI 0), .long (lI 0), .long (lI 0), .long (lI 0), .long (lI 0), .int (iI 0), .int (iI 0), .int (iI 0), .int (iI 0), .ref u46_0])), (u46_0, .inl (k 1, 8, .inr (.inl (aL aZ)))), (q53, .inr (3, [.ref u57_0, .ref u57_1, .int (iI 0), .int (iI 0), .int (iI 0)])), (u57_0, .inl (k 1, 264, .inr (.inl (aL aZ)))), (u57_1, .inl (k 0, 264, .inl (aI aZ))), (q64, .inr (6, [.null, .null, .null, .int (iI 0), .int (iI 0)]))] H := hP
  have hD : va_D A [(h0, .inr (2, [.ref q6, .ref q36, .ref q42, .ref q53, .null, .int (iI 0), .int (iI 0), .int (iI 0)])), (q6, .inl (k 0, 5, .inl (aI (upI (upI (upI (upI (upI aZ 0 0) 1 0) 2 10) 3 500) 4 0)))), (q36, .inl (k 0, 5, .inl (aI aZ))), (q42, .inr (7, [.int (iI 0), .int (iI 0), .int (iI 0), .long (lI 0), .int (iI 0), .int (iI 0), .int (iI 0), .long (lI 0), .long (lI 0), .long (lI 0), .long (lI 0), .long (lI 0), .int (iI 0), .int (iI 0), .int (iI 0), .int (iI 0), .ref u46_0])), (u46_0, .inl (k 1, 8, .inr (.inl (aL aZ)))), (q53, .inr (3, [.ref u57_0, .ref u57_1, .int (iI 0), .int (iI 0), .int (iI 0)])), (u57_0, .inl (k 1, 264, .inr (.inl (aL aZ)))), (u57_1, .inl (k 0, 264, .inl (aI aZ))), (q64, .inr (6, [.null, .null, .null, .int (iI 0), .int (iI 0)]))] := hD
  refine lv_dup hx hb dX0_init_67 rfl ?_
  refine kv (va_runIN (As := []) (rest := [.ref q64, .ref h0]) hSF ((c_X5_init l dC dI k q64) H.size) ⟨va_cnB 0 hts gX0_init_X5_init_n34 rfl rfl rfl (hNw _ (List.mem_of_getElem? (i := 60) rfl)) (hts (.initialized RX5) (List.mem_cons_of_mem _ (wl_3 (List.mem_of_getElem? (i := 8) rfl)))) (by decide +kernel) ⟨Nat.le_of_ble_eq_true rfl, Nat.le_of_ble_eq_true rfl⟩, rfl, (hts (.instanceMethod yX5_init) (List.mem_cons_of_mem _ (wl_3 (List.mem_of_getElem? (i := 19) rfl))))⟩ (preS (As := .ref q64 :: []) hP hD hE hS hA [8] rfl (by decide)) rfl rfl hl.1 rfl (lv_room (Nat.le_of_ble_eq_true rfl)) dX0_init_68 ⟨Nat.le_of_ble_eq_true rfl, Nat.le_of_ble_eq_true rfl⟩) hP hD hS hA [8] [0, 1, 2, 3, 4, 5, 6, 7] rfl (wr := [(h0, .inr (2, [.ref q6, .ref q36, .ref q42, .ref q53, .null, .int (iI 0), .int (iI 0), .int (iI 0)])), (q6, .inl (k 0, 5, .inl (aI (upI (upI (upI (upI (upI aZ 0 0) 1 0) 2 10) 3 500) 4 0)))), (q36, .inl (k 0, 5, .inl (aI aZ))), (q42, .inr (7, [.int (iI 0), .int (iI 0), .int (iI 0), .long (lI 0), .int (iI 0), .int (iI 0), .int (iI 0), .long (lI 0), .long (lI 0), .long (lI 0), .long (lI 0), .long (lI 0), .int (iI 0), .int (iI 0), .int (iI 0), .int (iI 0), .ref u46_0])), (u46_0, .inl (k 1, 8, .inr (.inl (aL aZ)))), (q53, .inr (3, [.ref u57_0, .ref u57_1, .int (iI 0), .int (iI 0), .int (iI 0)])), (u57_0, .inl (k 1, 264, .inr (.inl (aL aZ)))), (u57_1, .inl (k 0, 264, .inl (aI aZ)))]) rfl (by decide) (by decide) (fun u68 H locs hw hP hD hS => ?_)
  obtain ⟨u68_0, u68_1, u68_2⟩ := u68
  have hP : va_P (dC, dI) vwCl [(h0, .inr (2, [.ref q6, .ref q36, .ref q42, .ref q53, .null, .int (iI 0), .int (iI 0), .int (iI 0)])), (q6, .inl (k 0, 5, .inl (aI (upI (upI (upI (upI (upI aZ 0 0) 1 0) 2 10) 3 500) 4 0)))), (q36, .inl (k 0, 5, .inl (aI aZ))), (q42, .inr (7, [.int (iI 0), .int (iI 0), .int (iI 0), .long (lI 0), .int (iI 0), .int (iI 0), .int (iI 0), .long (lI 0), .long (lI 0), .long (lI 0), .long (lI 0), .long (lI 0), .int (iI 0), .int (iI 0), .int (iI 0), .int (iI 0), .ref u46_0])), (u46_0, .inl (k 1, 8, .inr (.inl (aL aZ)))), (q53, .inr (3, [.ref u57_0, .ref u57_1, .int (iI 0), .int (iI 0), .int (iI 0)])), (u57_0, .inl (k 1, 264, .inr (.inl (aL aZ)))), (u57_1, .inl (k 0, 264, .inl (aI aZ))), (q64, .inr (6, [.ref u68_0, .ref u68_1, .ref u68_2, .int (iI 0), .int (iI 0)])), (u68_0, .inl (k 0, 60, .inl (aI aZ))), (u68_1, .inl (k 0, 60, .inl (aI aZ))), (u68_2, .inl (k 1, 60, .inr (.inl (aL aZ))))] H := hP
  have hD : va_D A [(h0, .inr (2, [.ref q6, .ref q36, .ref q42, .ref q53, .null, .int (iI 0), .int (iI 0), .int (iI 0)])), (q6, .inl (k 0, 5, .inl (aI (upI (upI (upI (upI (upI aZ 0 0) 1 0) 2 10) 3 500) 4 0)))), (q36, .inl (k 0, 5, .inl (aI aZ))), (q42, .inr (7, [.int (iI 0), .int (iI 0), .int (iI 0), .long (lI 0), .int (iI 0), .int (iI 0), .int (iI 0), .long (lI 0), .long (lI 0), .long (lI 0), .long (lI 0), .long (lI 0), .int (iI 0), .int (iI 0), .int (iI 0), .int (iI 0), .ref u46_0])), (u46_0, .inl (k 1, 8, .inr (.inl (aL aZ)))), (q53, .inr (3, [.ref u57_0, .ref u57_1, .int (iI 0), .int (iI 0), .int (iI 0)])), (u57_0, .inl (k 1, 264, .inr (.inl (aL aZ)))), (u57_1, .inl (k 0, 264, .inl (aI aZ))), (q64, .inr (6, [.ref u68_0, .ref u68_1, .ref u68_2, .int (iI 0), .int (iI 0)])), (u68_0, .inl (k 0, 60, .inl (aI aZ))), (u68_1, .inl (k 0, 60, .inl (aI aZ))), (u68_2, .inl (k 1, 60, .inr (.inl (aL aZ))))] := hD
  refine va_putF (D := (dC, dI)) (ci := 2) (v := .ref q64) (ty := .object "LoanServicing$Ledger") (C := RX0) (T := TX0) (N := 8) hx hb hts (fun _ h => List.mem_cons_of_mem _ (inlX0 _ h)) tyX0 tyX0_ok nmX0 hown hK hP hD hS 0 rfl rfl 4 (by decide) (hts (.fieldLink RX0 35 "LoanServicing$Account" "ledger" "LLoanServicing$Ledger;") (List.mem_cons_of_mem _ (wl_3 (List.mem_of_getElem? (i := 9) rfl)))) (fun _ h9 => h9) rfl hin rfl (by decide +kernel) rfl rfl (Nat.le_of_ble_eq_true rfl) dX0_init_71 (fun H locs hP hD hS => ?_)
  have hP : va_P (dC, dI) vwCl [(h0, .inr (2, [.ref q6, .ref q36, .ref q42, .ref q53, .ref q64, .int (iI 0), .int (iI 0), .int (iI 0)])), (q6, .inl (k 0, 5, .inl (aI (upI (upI (upI (upI (upI aZ 0 0) 1 0) 2 10) 3 500) 4 0)))), (q36, .inl (k 0, 5, .inl (aI aZ))), (q42, .inr (7, [.int (iI 0), .int (iI 0), .int (iI 0), .long (lI 0), .int (iI 0), .int (iI 0), .int (iI 0), .long (lI 0), .long (lI 0), .long (lI 0), .long (lI 0), .long (lI 0), .int (iI 0), .int (iI 0), .int (iI 0), .int (iI 0), .ref u46_0])), (u46_0, .inl (k 1, 8, .inr (.inl (aL aZ)))), (q53, .inr (3, [.ref u57_0, .ref u57_1, .int (iI 0), .int (iI 0), .int (iI 0)])), (u57_0, .inl (k 1, 264, .inr (.inl (aL aZ)))), (u57_1, .inl (k 0, 264, .inl (aI aZ))), (q64, .inr (6, [.ref u68_0, .ref u68_1, .ref u68_2, .int (iI 0), .int (iI 0)])), (u68_0, .inl (k 0, 60, .inl (aI aZ))), (u68_1, .inl (k 0, 60, .inl (aI aZ))), (u68_2, .inl (k 1, 60, .inr (.inl (aL aZ))))] H := hP
  have hD : va_D A [(h0, .inr (2, [.ref q6, .ref q36, .ref q42, .ref q53, .ref q64, .int (iI 0), .int (iI 0), .int (iI 0)])), (q6, .inl (k 0, 5, .inl (aI (upI (upI (upI (upI (upI aZ 0 0) 1 0) 2 10) 3 500) 4 0)))), (q36, .inl (k 0, 5, .inl (aI aZ))), (q42, .inr (7, [.int (iI 0), .int (iI 0), .int (iI 0), .long (lI 0), .int (iI 0), .int (iI 0), .int (iI 0), .long (lI 0), .long (lI 0), .long (lI 0), .long (lI 0), .long (lI 0), .int (iI 0), .int (iI 0), .int (iI 0), .int (iI 0), .ref u46_0])), (u46_0, .inl (k 1, 8, .inr (.inl (aL aZ)))), (q53, .inr (3, [.ref u57_0, .ref u57_1, .int (iI 0), .int (iI 0), .int (iI 0)])), (u57_0, .inl (k 1, 264, .inr (.inl (aL aZ)))), (u57_1, .inl (k 0, 264, .inl (aI aZ))), (q64, .inr (6, [.ref u68_0, .ref u68_1, .ref u68_2, .int (iI 0), .int (iI 0)])), (u68_0, .inl (k 0, 60, .inl (aI aZ))), (u68_1, .inl (k 0, 60, .inl (aI aZ))), (u68_2, .inl (k 1, 60, .inr (.inl (aL aZ))))] := hD
  rw [hQ]
  refine W.widen (k := 11) (n := 753) (Nat.le_of_ble_eq_true rfl) (Nat.le_of_ble_eq_true rfl) ?_
  exact W.vret hx hb hr (fun t ht hW => ⟨⟨(q6, q36, q42, u46_0, q53, u57_0, u57_1, q64, u68_0, u68_1, u68_2), rfl, trivial, by rw [ht]; exact hP.sub [0, 1, 2, 3, 4, 5, 6, 7, 8, 9, 10, 11] rfl, by rw [hAe]; exact hD.sub [0, 1, 2, 3, 4, 5, 6, 7, 8, 9, 10, 11] (by decide) rfl⟩, hS.F ht⟩) hS.2.2 dX0_init_74
