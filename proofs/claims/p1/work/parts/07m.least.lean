theorem gX7_lastAmount_X7_has : GoodIn woX7_lastAmount (wsV RX7 129 RX7 yX7_has woX7_has) := go_V (wl_13 (List.mem_of_getElem? (i := 6) rfl)) (wl_13 (List.mem_of_getElem? (i := 3) rfl)) (wl_13 (List.mem_of_getElem? (i := 4) rfl)) (wl_13 (List.mem_of_getElem? (i := 5) rfl)) (wl_2 (List.mem_of_getElem? (i := 4) rfl))
theorem gX7_leastInstallment_X7_lastAmount : GoodIn woX7_leastInstallment (wsV RX7 143 RX7 yX7_lastAmount woX7_lastAmount) := go_V (wl_13 (List.mem_of_getElem? (i := 2) rfl)) (wl_12 (List.mem_of_getElem? (i := 23) rfl)) (wl_13 (List.mem_of_getElem? (i := 0) rfl)) (wl_13 (List.mem_of_getElem? (i := 1) rfl)) (wl_2 (List.mem_of_getElem? (i := 4) rfl))
theorem gX7_leastInstallment_X7_project : GoodIn woX7_leastInstallment (wsV RX7 133 RX7 yX7_project woX7_project) := go_V (wl_11 (List.mem_of_getElem? (i := 21) rfl)) (wl_11 (List.mem_of_getElem? (i := 18) rfl)) (wl_11 (List.mem_of_getElem? (i := 19) rfl)) (wl_11 (List.mem_of_getElem? (i := 20) rfl)) (wl_2 (List.mem_of_getElem? (i := 4) rfl))
theorem gX7_leastInstallment_X7_shareUpwards : GoodIn woX7_leastInstallment (va_wsS RX7 137 yX7_shareUpwards woX7_shareUpwards) := go_S (wl_12 (List.mem_of_getElem? (i := 22) rfl)) (wl_12 (List.mem_of_getElem? (i := 20) rfl)) (wl_12 (List.mem_of_getElem? (i := 21) rfl)) (wl_2 (List.mem_of_getElem? (i := 4) rfl))
theorem gX7_project_X7_keepPayment : GoodIn woX7_project (wsV RX7 125 RX7 yX7_keepPayment woX7_keepPayment) := go_V (wl_12 (List.mem_of_getElem? (i := 19) rfl)) (wl_12 (List.mem_of_getElem? (i := 16) rfl)) (wl_12 (List.mem_of_getElem? (i := 17) rfl)) (wl_12 (List.mem_of_getElem? (i := 18) rfl)) (wl_2 (List.mem_of_getElem? (i := 4) rfl))
theorem gX7_project_X9_ofCents : GoodIn woX7_project (va_wsS RX7 119 yX9_ofCents woX9_ofCents) := go_S (wl_12 (List.mem_of_getElem? (i := 15) rfl)) (wl_12 (List.mem_of_getElem? (i := 13) rfl)) (wl_12 (List.mem_of_getElem? (i := 14) rfl)) (wl_12 (List.mem_of_getElem? (i := 4) rfl))
theorem gX7_project_X9_toCents : GoodIn woX7_project (va_wsS RX7 113 yX9_toCents woX9_toCents) := go_S (wl_12 (List.mem_of_getElem? (i := 5) rfl)) (wl_12 (List.mem_of_getElem? (i := 2) rfl)) (wl_12 (List.mem_of_getElem? (i := 3) rfl)) (wl_12 (List.mem_of_getElem? (i := 4) rfl))
set_option maxHeartbeats 4000000 in
set_option maxRecDepth 100000 in
/-- Projection.has -/
theorem c_X7_has (l : Launch) (dC : Nat → ClassId) (dI : Nat → Nat → Nat) (k : Nat → ClassId) (h0 xd1 xd2 xd3 xd4 xd5 xd6 : Nat) (xP xr xcv xn xz xp xi : Int) (hd : 0 ≤ xp ∧ xp ≤ 60 ∧ -1 ≤ xi ∧ xi < xp) (sz : Nat) : Met l yX7_has woX7_has ({ frames := 0, cells := 0, slots := 0, locals := 0 } : Room) (PcW (dC, dI) k [.ref h0, .int (iI xi)] [(h0, .inr (8, [.long (lI xP), .long (lI 0), .long (lI 0), .int (iI xr), .int (iI xcv), .int (iI 0), .int (iI xz), .int (iI xn), .ref xd1, .ref xd2, .int (iI xp), .ref xd3, .ref xd4, .ref xd5, .ref xd6]))] sz) (va_Qi (fun (r : Int32) (_ : Unit) => r = iI (if 0 ≤ xi then 1 else 0)) (QB (dC, dI) [(h0, .inr (8, [.long (lI xP), .long (lI 0), .long (lI 0), .int (iI xr), .int (iI xcv), .int (iI 0), .int (iI xz), .int (iI xn), .ref xd1, .ref xd2, .int (iI xp), .ref xd3, .ref xd4, .ref xd5, .ref xd6]))] (fun _ => [(h0, .inr (8, [.long (lI xP), .long (lI 0), .long (lI 0), .int (iI xr), .int (iI xcv), .int (iI 0), .int (iI xz), .int (iI xn), .ref xd1, .ref xd2, .int (iI xp), .ref xd3, .ref xd4, .ref xd5, .ref xd6]))]) sz) (va_A [(h0, .inr (8, [.long (lI xP), .long (lI 0), .long (lI 0), .int (iI xr), .int (iI xcv), .int (iI 0), .int (iI xz), .int (iI xn), .ref xd1, .ref xd2, .int (iI xp), .ref xd3, .ref xd4, .ref xd5, .ref xd6]))] sz)) 0 0 (va_A [(h0, .inr (8, [.long (lI xP), .long (lI 0), .long (lI 0), .int (iI xr), .int (iI xcv), .int (iI 0), .int (iI xz), .int (iI xn), .ref xd1, .ref xd2, .int (iI xp), .ref xd3, .ref xd4, .ref xd5, .ref xd6]))] sz) := by
  refine Met.ofW (cc := cX7_has) (maxL := 2) (ret := (some .boolean)) (by decide) rfl ?_
  intro p e s mI args below meth cO s₁ B hml hv
  obtain ⟨rfl, rfl, hP, hD0, hE⟩ := hv
  have hx := B.exec
  have hb := B.bytes
  have hr := B.returns
  have hts := atoms_spec (ws := woX7_has) B.pre
  have hown : s.vm.findClass RX7 = some mI.cls := findClass_of_methodNamed B.named
  have hlocks := B.notSynchronized
  have hD := hD0.self (sz := s.heap.size)
  generalize hAe : va_A [(h0, .inr (8, [.long (lI xP), .long (lI 0), .long (lI 0), .int (iI xr), .int (iI xcv), .int (iI 0), .int (iI xz), .int (iI xn), .ref xd1, .ref xd2, .int (iI xp), .ref xd3, .ref xd4, .ref xd5, .ref xd6]))] s.heap.size = A at hD hE ⊢
  have hA : ∀ q : Nat, s.heap.size ≤ q → A q := fun q h => by rw [← hAe]; exact Or.inr h
  have hS : va_S A s.heap s.heap [] := va_S.rf
  obtain ⟨hK, hNw, hNc, hZs, hAO1, hAO2⟩ := id hE
  have hSF : CallFix p mI cO cX7_has 2 s ([.ref h0, .int (iI xi)] : List Value).toArray woX7_has RX7 := ⟨hx, hb, hml, hown, hts⟩
  have hl := lv_entry ([.ref h0, .int (iI xi)] : List Value) (n := 2) (Nat.le_of_ble_eq_true rfl)
  rw [lg_entry_eq]
  generalize (lg_sl ([.ref h0, .int (iI xi)] : List Value) ++ List.replicate (2 - (lg_sl ([.ref h0, .int (iI xi)] : List Value)).length) Slot.unset).toArray = ls at hl ⊢
  have hl : lv_has ls 2 [(0, .ref h0), (1, .int (iI xi))] := hl
  refine W_gen (fun Q hQ => ?_)
  change W p l e ({ frames := 0, cells := 0, slots := 0, locals := 0 } : Room) s mI _ below meth cO s.heap [] 0 0 Q _
  have hP : va_P (dC, dI) vwCl [(h0, .inr (8, [.long (lI xP), .long (lI 0), .long (lI 0), .int (iI xr), .int (iI xcv), .int (iI 0), .int (iI xz), .int (iI xn), .ref xd1, .ref xd2, .int (iI xp), .ref xd3, .ref xd4, .ref xd5, .ref xd6]))] s.heap := hP
  refine lv_iload_n hx hb dX7_has_0 rfl (lv_at hl 1 rfl) ?_
  refine q_if_lt (tgt := 22) hx hb dX7_has_1 (by decide) (by omega) (fun c1 => ?_) (fun c1 => ?_)
  · refine q_iconst hx hb dX7_has_22 ?_
    rw [hQ]
    refine W.widen (k := 0) (n := 0) (Nat.le_of_ble_eq_true rfl) (Nat.le_of_ble_eq_true rfl) ?_
    exact W.zret (v := (iI 0)) hx hb hr (by first | rfl | decide) (fun t ht hW => ⟨⟨(iI 0), (), rfl, (by first | rw [if_pos (by omega)] | rw [if_neg (by omega)]), by rw [ht]; exact hP.sub [0] rfl, by rw [hAe]; exact hD.sub [0] (by decide) rfl⟩, hS.F ht⟩) hS.2.2 dX7_has_23
  · refine lv_iload_n hx hb dX7_has_4 rfl (lv_at hl 1 rfl) ?_
    refine lv_aload_n hx hb dX7_has_5 rfl (lv_at hl 0 rfl) ?_
    refine va_get (D := (dC, dI)) (ci := 8) (v := .int (iI xp)) (C := RX7) (T := TX7) (N := 15) hx hb hts (fun _ h => List.mem_cons_of_mem _ (inlX7 _ h)) hown hK hP 0 rfl rfl 10 (by decide) (hts (.fieldLink RX7 110 "LoanServicing$Projection" "payments" "I") (List.mem_cons_of_mem _ (wl_11 (List.mem_of_getElem? (i := 22) rfl)))) (fun _ h9 => h9) rfl dX7_has_6 ?_
    refine q_icmp_ge (tgt := 22) hx hb dX7_has_9 (by decide) (by omega) (fun q => absurd q (by omega)) (fun _ => ?_)
    refine lv_iload_n hx hb dX7_has_12 rfl (lv_at hl 1 rfl) ?_
    refine q_bipush (z := 60) hx hb dX7_has_13 (by decide) ?_
    refine q_icmp_ge (tgt := 22) hx hb dX7_has_15 (by decide) (by omega) (fun q => absurd q (by omega)) (fun _ => ?_)
    refine q_iconst hx hb dX7_has_18 ?_
    refine lv_goto (tgt := 23) hx hb dX7_has_19 (by decide) ?_
    rw [hQ]
    refine W.widen (k := 0) (n := 0) (Nat.le_of_ble_eq_true rfl) (Nat.le_of_ble_eq_true rfl) ?_
    exact W.zret (v := (iI 1)) hx hb hr (by first | rfl | decide) (fun t ht hW => ⟨⟨(iI 1), (), rfl, (by first | rw [if_pos (by omega)] | rw [if_neg (by omega)]), by rw [ht]; exact hP.sub [0] rfl, by rw [hAe]; exact hD.sub [0] (by decide) rfl⟩, hS.F ht⟩) hS.2.2 dX7_has_23
set_option maxHeartbeats 4000000 in
set_option maxRecDepth 100000 in
/-- keepPayment -/
theorem c_X7_keepPayment (l : Launch) (dC : Nat → ClassId) (dI : Nat → Nat → Nat) (k : Nat → ClassId) (h0 xd1 xd2 xd3 xd4 xd5 xd6 : Nat) (xP xr xcv xn xz xi xd xa xb xe : Int) (xf1 xf2 xf3 xf4 : Nat → Int) (hd : 0 ≤ xi ∧ xi < 60) (sz : Nat) : Met l yX7_keepPayment woX7_keepPayment ({ frames := 0, cells := 0, slots := 0, locals := 0 } : Room) (PcW (dC, dI) k [.ref h0, .int (iI xd), .long (lI xa), .long (lI xb), .long (lI xe)] [(h0, .inr (8, [.long (lI xP), .long (lI 0), .long (lI 0), .int (iI xr), .int (iI xcv), .int (iI 0), .int (iI xz), .int (iI xn), .ref xd1, .ref xd2, .int (iI xi), .ref xd3, .ref xd4, .ref xd5, .ref xd6])), (xd3, .inl (k 0, 60, .inl (aI xf1))), (xd4, .inl (k 1, 60, .inr (.inl (aL xf2)))), (xd5, .inl (k 1, 60, .inr (.inl (aL xf3)))), (xd6, .inl (k 1, 60, .inr (.inl (aL xf4))))] sz) (va_Qv (fun (_ : Unit) => True) (QB (dC, dI) [(h0, .inr (8, [.long (lI xP), .long (lI 0), .long (lI 0), .int (iI xr), .int (iI xcv), .int (iI 0), .int (iI xz), .int (iI xn), .ref xd1, .ref xd2, .int (iI xi), .ref xd3, .ref xd4, .ref xd5, .ref xd6])), (xd3, .inl (k 0, 60, .inl (aI xf1))), (xd4, .inl (k 1, 60, .inr (.inl (aL xf2)))), (xd5, .inl (k 1, 60, .inr (.inl (aL xf3)))), (xd6, .inl (k 1, 60, .inr (.inl (aL xf4))))] (fun _ => [(h0, .inr (8, [.long (lI xP), .long (lI 0), .long (lI 0), .int (iI xr), .int (iI xcv), .int (iI 0), .int (iI xz), .int (iI xn), .ref xd1, .ref xd2, .int (iI (xi + 1)), .ref xd3, .ref xd4, .ref xd5, .ref xd6])), (xd3, .inl (k 0, 60, .inl (aI (upI xf1 xi.toNat xd)))), (xd4, .inl (k 1, 60, .inr (.inl (aL (upI xf2 xi.toNat xa))))), (xd5, .inl (k 1, 60, .inr (.inl (aL (upI xf3 xi.toNat xb))))), (xd6, .inl (k 1, 60, .inr (.inl (aL (upI xf4 xi.toNat xe)))))]) sz) (va_A [(h0, .inr (8, [.long (lI xP), .long (lI 0), .long (lI 0), .int (iI xr), .int (iI xcv), .int (iI 0), .int (iI xz), .int (iI xn), .ref xd1, .ref xd2, .int (iI xi), .ref xd3, .ref xd4, .ref xd5, .ref xd6])), (xd3, .inl (k 0, 60, .inl (aI xf1))), (xd4, .inl (k 1, 60, .inr (.inl (aL xf2)))), (xd5, .inl (k 1, 60, .inr (.inl (aL xf3)))), (xd6, .inl (k 1, 60, .inr (.inl (aL xf4))))] sz)) 0 0 (va_A [(h0, .inr (8, [.long (lI xP), .long (lI 0), .long (lI 0), .int (iI xr), .int (iI xcv), .int (iI 0), .int (iI xz), .int (iI xn), .ref xd1, .ref xd2, .int (iI xi), .ref xd3, .ref xd4, .ref xd5, .ref xd6])), (xd3, .inl (k 0, 60, .inl (aI xf1))), (xd4, .inl (k 1, 60, .inr (.inl (aL xf2)))), (xd5, .inl (k 1, 60, .inr (.inl (aL xf3)))), (xd6, .inl (k 1, 60, .inr (.inl (aL xf4))))] sz) := by
  refine Met.ofW (cc := cX7_keepPayment) (maxL := 8) (ret := none) (by decide) rfl ?_
  intro p e s mI args below meth cO s₁ B hml hv
  obtain ⟨rfl, rfl, hP, hD0, hE⟩ := hv
  have hx := B.exec
  have hb := B.bytes
  have hr := B.returns
  have hts := atoms_spec (ws := woX7_keepPayment) B.pre
  have hown : s.vm.findClass RX7 = some mI.cls := findClass_of_methodNamed B.named
  have hlocks := B.notSynchronized
  have hD := hD0.self (sz := s.heap.size)
  generalize hAe : va_A [(h0, .inr (8, [.long (lI xP), .long (lI 0), .long (lI 0), .int (iI xr), .int (iI xcv), .int (iI 0), .int (iI xz), .int (iI xn), .ref xd1, .ref xd2, .int (iI xi), .ref xd3, .ref xd4, .ref xd5, .ref xd6])), (xd3, .inl (k 0, 60, .inl (aI xf1))), (xd4, .inl (k 1, 60, .inr (.inl (aL xf2)))), (xd5, .inl (k 1, 60, .inr (.inl (aL xf3)))), (xd6, .inl (k 1, 60, .inr (.inl (aL xf4))))] s.heap.size = A at hD hE ⊢
  have hA : ∀ q : Nat, s.heap.size ≤ q → A q := fun q h => by rw [← hAe]; exact Or.inr h
  have hS : va_S A s.heap s.heap [] := va_S.rf
  obtain ⟨hK, hNw, hNc, hZs, hAO1, hAO2⟩ := id hE
  have hSF : CallFix p mI cO cX7_keepPayment 8 s ([.ref h0, .int (iI xd), .long (lI xa), .long (lI xb), .long (lI xe)] : List Value).toArray woX7_keepPayment RX7 := ⟨hx, hb, hml, hown, hts⟩
  have hl := lv_entry ([.ref h0, .int (iI xd), .long (lI xa), .long (lI xb), .long (lI xe)] : List Value) (n := 8) (Nat.le_of_ble_eq_true rfl)
  rw [lg_entry_eq]
  generalize (lg_sl ([.ref h0, .int (iI xd), .long (lI xa), .long (lI xb), .long (lI xe)] : List Value) ++ List.replicate (8 - (lg_sl ([.ref h0, .int (iI xd), .long (lI xa), .long (lI xb), .long (lI xe)] : List Value)).length) Slot.unset).toArray = ls at hl ⊢
  have hl : lv_has ls 8 [(0, .ref h0), (1, .int (iI xd)), (2, .long (lI xa)), (4, .long (lI xb)), (6, .long (lI xe))] := hl
  refine W_gen (fun Q hQ => ?_)
  change W p l e ({ frames := 0, cells := 0, slots := 0, locals := 0 } : Room) s mI _ below meth cO s.heap [] 0 0 Q _
  have hP : va_P (dC, dI) vwCl [(h0, .inr (8, [.long (lI xP), .long (lI 0), .long (lI 0), .int (iI xr), .int (iI xcv), .int (iI 0), .int (iI xz), .int (iI xn), .ref xd1, .ref xd2, .int (iI xi), .ref xd3, .ref xd4, .ref xd5, .ref xd6])), (xd3, .inl (k 0, 60, .inl (aI xf1))), (xd4, .inl (k 1, 60, .inr (.inl (aL xf2)))), (xd5, .inl (k 1, 60, .inr (.inl (aL xf3)))), (xd6, .inl (k 1, 60, .inr (.inl (aL xf4))))] s.heap := hP
  refine lv_aload_n hx hb dX7_keepPayment_0 rfl (lv_at hl 0 rfl) ?_
  refine va_get (D := (dC, dI)) (ci := 8) (v := .int (iI xi)) (C := RX7) (T := TX7) (N := 15) hx hb hts (fun _ h => List.mem_cons_of_mem _ (inlX7 _ h)) hown hK hP 0 rfl rfl 10 (by decide) (hts (.fieldLink RX7 110 "LoanServicing$Projection" "payments" "I") (List.mem_cons_of_mem _ (wl_11 (List.mem_of_getElem? (i := 22) rfl)))) (fun _ h9 => h9) rfl dX7_keepPayment_1 ?_
  refine q_if_lt (tgt := 68) hx hb dX7_keepPayment_4 (by decide) (by omega) (fun q => absurd q (by omega)) (fun _ => ?_)
  refine lv_aload_n hx hb dX7_keepPayment_7 rfl (lv_at hl 0 rfl) ?_
  refine va_get (D := (dC, dI)) (ci := 8) (v := .int (iI xi)) (C := RX7) (T := TX7) (N := 15) hx hb hts (fun _ h => List.mem_cons_of_mem _ (inlX7 _ h)) hown hK hP 0 rfl rfl 10 (by decide) (hts (.fieldLink RX7 110 "LoanServicing$Projection" "payments" "I") (List.mem_cons_of_mem _ (wl_11 (List.mem_of_getElem? (i := 22) rfl)))) (fun _ h9 => h9) rfl dX7_keepPayment_8 ?_
  refine q_bipush (z := 60) hx hb dX7_keepPayment_11 (by decide) ?_
  refine q_icmp_ge (tgt := 68) hx hb dX7_keepPayment_13 (by decide) (by omega) (fun q => absurd q (by omega)) (fun _ => ?_)
  refine lv_aload_n hx hb dX7_keepPayment_16 rfl (lv_at hl 0 rfl) ?_
  refine va_get (D := (dC, dI)) (ci := 8) (v := .ref xd3) (C := RX7) (T := TX7) (N := 15) hx hb hts (fun _ h => List.mem_cons_of_mem _ (inlX7 _ h)) hown hK hP 0 rfl rfl 11 (by decide) (hts (.fieldLink RX7 18 "LoanServicing$Projection" "paidOn" "[I") (List.mem_cons_of_mem _ (wl_4 (List.mem_of_getElem? (i := 11) rfl)))) (fun _ h9 => h9) rfl dX7_keepPayment_17 ?_
  refine lv_aload_n hx hb dX7_keepPayment_20 rfl (lv_at hl 0 rfl) ?_
  refine va_get (D := (dC, dI)) (ci := 8) (v := .int (iI xi)) (C := RX7) (T := TX7) (N := 15) hx hb hts (fun _ h => List.mem_cons_of_mem _ (inlX7 _ h)) hown hK hP 0 rfl rfl 10 (by decide) (hts (.fieldLink RX7 110 "LoanServicing$Projection" "payments" "I") (List.mem_cons_of_mem _ (wl_11 (List.mem_of_getElem? (i := 22) rfl)))) (fun _ h9 => h9) rfl dX7_keepPayment_21 ?_
  refine lv_iload_n hx hb dX7_keepPayment_24 rfl (lv_at hl 1 rfl) ?_
  refine q_iast (G := (upI xf1 xi.toNat xd)) hx hb hK hP hD hS 1 0 rfl rfl (by omega) rfl dX7_keepPayment_25 (fun H locs hP hD hS => ?_)
  have hP : va_P (dC, dI) vwCl [(h0, .inr (8, [.long (lI xP), .long (lI 0), .long (lI 0), .int (iI xr), .int (iI xcv), .int (iI 0), .int (iI xz), .int (iI xn), .ref xd1, .ref xd2, .int (iI xi), .ref xd3, .ref xd4, .ref xd5, .ref xd6])), (xd3, .inl (k 0, 60, .inl (aI (upI xf1 xi.toNat xd)))), (xd4, .inl (k 1, 60, .inr (.inl (aL xf2)))), (xd5, .inl (k 1, 60, .inr (.inl (aL xf3)))), (xd6, .inl (k 1, 60, .inr (.inl (aL xf4))))] H := hP
  have hD : va_D A [(h0, .inr (8, [.long (lI xP), .long (lI 0), .long (lI 0), .int (iI xr), .int (iI xcv), .int (iI 0), .int (iI xz), .int (iI xn), .ref xd1, .ref xd2, .int (iI xi), .ref xd3, .ref xd4, .ref xd5, .ref xd6])), (xd3, .inl (k 0, 60, .inl (aI (upI xf1 xi.toNat xd)))), (xd4, .inl (k 1, 60, .inr (.inl (aL xf2)))), (xd5, .inl (k 1, 60, .inr (.inl (aL xf3)))), (xd6, .inl (k 1, 60, .inr (.inl (aL xf4))))] := hD
  refine lv_aload_n hx hb dX7_keepPayment_26 rfl (lv_at hl 0 rfl) ?_
  refine va_get (D := (dC, dI)) (ci := 8) (v := .ref xd4) (C := RX7) (T := TX7) (N := 15) hx hb hts (fun _ h => List.mem_cons_of_mem _ (inlX7 _ h)) hown hK hP 0 rfl rfl 12 (by decide) (hts (.fieldLink RX7 21 "LoanServicing$Projection" "amounts" "[J") (List.mem_cons_of_mem _ (wl_4 (List.mem_of_getElem? (i := 12) rfl)))) (fun _ h9 => h9) rfl dX7_keepPayment_27 ?_
  refine lv_aload_n hx hb dX7_keepPayment_30 rfl (lv_at hl 0 rfl) ?_
  refine va_get (D := (dC, dI)) (ci := 8) (v := .int (iI xi)) (C := RX7) (T := TX7) (N := 15) hx hb hts (fun _ h => List.mem_cons_of_mem _ (inlX7 _ h)) hown hK hP 0 rfl rfl 10 (by decide) (hts (.fieldLink RX7 110 "LoanServicing$Projection" "payments" "I") (List.mem_cons_of_mem _ (wl_11 (List.mem_of_getElem? (i := 22) rfl)))) (fun _ h9 => h9) rfl dX7_keepPayment_31 ?_
  refine lv_lload_n hx hb dX7_keepPayment_34 rfl (lv_at hl 2 rfl) ?_
  refine q_last (G := (upI xf2 xi.toNat xa)) hx hb hK hP hD hS 2 1 rfl rfl (by omega) rfl dX7_keepPayment_35 (fun H locs hP hD hS => ?_)
  have hP : va_P (dC, dI) vwCl [(h0, .inr (8, [.long (lI xP), .long (lI 0), .long (lI 0), .int (iI xr), .int (iI xcv), .int (iI 0), .int (iI xz), .int (iI xn), .ref xd1, .ref xd2, .int (iI xi), .ref xd3, .ref xd4, .ref xd5, .ref xd6])), (xd3, .inl (k 0, 60, .inl (aI (upI xf1 xi.toNat xd)))), (xd4, .inl (k 1, 60, .inr (.inl (aL (upI xf2 xi.toNat xa))))), (xd5, .inl (k 1, 60, .inr (.inl (aL xf3)))), (xd6, .inl (k 1, 60, .inr (.inl (aL xf4))))] H := hP
  have hD : va_D A [(h0, .inr (8, [.long (lI xP), .long (lI 0), .long (lI 0), .int (iI xr), .int (iI xcv), .int (iI 0), .int (iI xz), .int (iI xn), .ref xd1, .ref xd2, .int (iI xi), .ref xd3, .ref xd4, .ref xd5, .ref xd6])), (xd3, .inl (k 0, 60, .inl (aI (upI xf1 xi.toNat xd)))), (xd4, .inl (k 1, 60, .inr (.inl (aL (upI xf2 xi.toNat xa))))), (xd5, .inl (k 1, 60, .inr (.inl (aL xf3)))), (xd6, .inl (k 1, 60, .inr (.inl (aL xf4))))] := hD
  refine lv_aload_n hx hb dX7_keepPayment_36 rfl (lv_at hl 0 rfl) ?_
  refine va_get (D := (dC, dI)) (ci := 8) (v := .ref xd5) (C := RX7) (T := TX7) (N := 15) hx hb hts (fun _ h => List.mem_cons_of_mem _ (inlX7 _ h)) hown hK hP 0 rfl rfl 13 (by decide) (hts (.fieldLink RX7 25 "LoanServicing$Projection" "interests" "[J") (List.mem_cons_of_mem _ (wl_4 (List.mem_of_getElem? (i := 13) rfl)))) (fun _ h9 => h9) rfl dX7_keepPayment_37 ?_
  refine lv_aload_n hx hb dX7_keepPayment_40 rfl (lv_at hl 0 rfl) ?_
  refine va_get (D := (dC, dI)) (ci := 8) (v := .int (iI xi)) (C := RX7) (T := TX7) (N := 15) hx hb hts (fun _ h => List.mem_cons_of_mem _ (inlX7 _ h)) hown hK hP 0 rfl rfl 10 (by decide) (hts (.fieldLink RX7 110 "LoanServicing$Projection" "payments" "I") (List.mem_cons_of_mem _ (wl_11 (List.mem_of_getElem? (i := 22) rfl)))) (fun _ h9 => h9) rfl dX7_keepPayment_41 ?_
  refine lv_lload hx hb dX7_keepPayment_44 (lv_at hl 3 rfl) ?_
  refine q_last (G := (upI xf3 xi.toNat xb)) hx hb hK hP hD hS 3 1 rfl rfl (by omega) rfl dX7_keepPayment_46 (fun H locs hP hD hS => ?_)
  have hP : va_P (dC, dI) vwCl [(h0, .inr (8, [.long (lI xP), .long (lI 0), .long (lI 0), .int (iI xr), .int (iI xcv), .int (iI 0), .int (iI xz), .int (iI xn), .ref xd1, .ref xd2, .int (iI xi), .ref xd3, .ref xd4, .ref xd5, .ref xd6])), (xd3, .inl (k 0, 60, .inl (aI (upI xf1 xi.toNat xd)))), (xd4, .inl (k 1, 60, .inr (.inl (aL (upI xf2 xi.toNat xa))))), (xd5, .inl (k 1, 60, .inr (.inl (aL (upI xf3 xi.toNat xb))))), (xd6, .inl (k 1, 60, .inr (.inl (aL xf4))))] H := hP
  have hD : va_D A [(h0, .inr (8, [.long (lI xP), .long (lI 0), .long (lI 0), .int (iI xr), .int (iI xcv), .int (iI 0), .int (iI xz), .int (iI xn), .ref xd1, .ref xd2, .int (iI xi), .ref xd3, .ref xd4, .ref xd5, .ref xd6])), (xd3, .inl (k 0, 60, .inl (aI (upI xf1 xi.toNat xd)))), (xd4, .inl (k 1, 60, .inr (.inl (aL (upI xf2 xi.toNat xa))))), (xd5, .inl (k 1, 60, .inr (.inl (aL (upI xf3 xi.toNat xb))))), (xd6, .inl (k 1, 60, .inr (.inl (aL xf4))))] := hD
  refine lv_aload_n hx hb dX7_keepPayment_47 rfl (lv_at hl 0 rfl) ?_
  refine va_get (D := (dC, dI)) (ci := 8) (v := .ref xd6) (C := RX7) (T := TX7) (N := 15) hx hb hts (fun _ h => List.mem_cons_of_mem _ (inlX7 _ h)) hown hK hP 0 rfl rfl 14 (by decide) (hts (.fieldLink RX7 28 "LoanServicing$Projection" "left" "[J") (List.mem_cons_of_mem _ (wl_4 (List.mem_of_getElem? (i := 14) rfl)))) (fun _ h9 => h9) rfl dX7_keepPayment_48 ?_
  refine lv_aload_n hx hb dX7_keepPayment_51 rfl (lv_at hl 0 rfl) ?_
  refine va_get (D := (dC, dI)) (ci := 8) (v := .int (iI xi)) (C := RX7) (T := TX7) (N := 15) hx hb hts (fun _ h => List.mem_cons_of_mem _ (inlX7 _ h)) hown hK hP 0 rfl rfl 10 (by decide) (hts (.fieldLink RX7 110 "LoanServicing$Projection" "payments" "I") (List.mem_cons_of_mem _ (wl_11 (List.mem_of_getElem? (i := 22) rfl)))) (fun _ h9 => h9) rfl dX7_keepPayment_52 ?_
  refine lv_lload hx hb dX7_keepPayment_55 (lv_at hl 4 rfl) ?_
  refine q_last (G := (upI xf4 xi.toNat xe)) hx hb hK hP hD hS 4 1 rfl rfl (by omega) rfl dX7_keepPayment_57 (fun H locs hP hD hS => ?_)
  have hP : va_P (dC, dI) vwCl [(h0, .inr (8, [.long (lI xP), .long (lI 0), .long (lI 0), .int (iI xr), .int (iI xcv), .int (iI 0), .int (iI xz), .int (iI xn), .ref xd1, .ref xd2, .int (iI xi), .ref xd3, .ref xd4, .ref xd5, .ref xd6])), (xd3, .inl (k 0, 60, .inl (aI (upI xf1 xi.toNat xd)))), (xd4, .inl (k 1, 60, .inr (.inl (aL (upI xf2 xi.toNat xa))))), (xd5, .inl (k 1, 60, .inr (.inl (aL (upI xf3 xi.toNat xb))))), (xd6, .inl (k 1, 60, .inr (.inl (aL (upI xf4 xi.toNat xe)))))] H := hP
  have hD : va_D A [(h0, .inr (8, [.long (lI xP), .long (lI 0), .long (lI 0), .int (iI xr), .int (iI xcv), .int (iI 0), .int (iI xz), .int (iI xn), .ref xd1, .ref xd2, .int (iI xi), .ref xd3, .ref xd4, .ref xd5, .ref xd6])), (xd3, .inl (k 0, 60, .inl (aI (upI xf1 xi.toNat xd)))), (xd4, .inl (k 1, 60, .inr (.inl (aL (upI xf2 xi.toNat xa))))), (xd5, .inl (k 1, 60, .inr (.inl (aL (upI xf3 xi.toNat xb))))), (xd6, .inl (k 1, 60, .inr (.inl (aL (upI xf4 xi.toNat xe)))))] := hD
  refine lv_aload_n hx hb dX7_keepPayment_58 rfl (lv_at hl 0 rfl) ?_
  refine lv_dup hx hb dX7_keepPayment_59 rfl ?_
  refine va_get (D := (dC, dI)) (ci := 8) (v := .int (iI xi)) (C := RX7) (T := TX7) (N := 15) hx hb hts (fun _ h => List.mem_cons_of_mem _ (inlX7 _ h)) hown hK hP 0 rfl rfl 10 (by decide) (hts (.fieldLink RX7 110 "LoanServicing$Projection" "payments" "I") (List.mem_cons_of_mem _ (wl_11 (List.mem_of_getElem? (i := 22) rfl)))) (fun _ h9 => h9) rfl dX7_keepPayment_60 ?_
  refine q_iconst hx hb dX7_keepPayment_63 ?_
  refine q_iadd (z := xi + 1) hx hb dX7_keepPayment_64 (by omega) ?_
  refine va_put (D := (dC, dI)) (ci := 8) (v := .int (iI (xi + 1))) (ty := .int) (C := RX7) (T := TX7) (N := 15) hx hb hts (fun _ h => List.mem_cons_of_mem _ (inlX7 _ h)) tyX7 tyX7_ok nmX7 hown hK hP hD hS 0 rfl rfl 10 (by decide) (hts (.fieldLink RX7 110 "LoanServicing$Projection" "payments" "I") (List.mem_cons_of_mem _ (wl_11 (List.mem_of_getElem? (i := 22) rfl)))) (fun _ h9 => h9) rfl (by decide +kernel) rfl rfl (Nat.le_of_ble_eq_true rfl) dX7_keepPayment_65 (fun H locs hP hD hS => ?_)
  have hP : va_P (dC, dI) vwCl [(h0, .inr (8, [.long (lI xP), .long (lI 0), .long (lI 0), .int (iI xr), .int (iI xcv), .int (iI 0), .int (iI xz), .int (iI xn), .ref xd1, .ref xd2, .int (iI (xi + 1)), .ref xd3, .ref xd4, .ref xd5, .ref xd6])), (xd3, .inl (k 0, 60, .inl (aI (upI xf1 xi.toNat xd)))), (xd4, .inl (k 1, 60, .inr (.inl (aL (upI xf2 xi.toNat xa))))), (xd5, .inl (k 1, 60, .inr (.inl (aL (upI xf3 xi.toNat xb))))), (xd6, .inl (k 1, 60, .inr (.inl (aL (upI xf4 xi.toNat xe)))))] H := hP
  have hD : va_D A [(h0, .inr (8, [.long (lI xP), .long (lI 0), .long (lI 0), .int (iI xr), .int (iI xcv), .int (iI 0), .int (iI xz), .int (iI xn), .ref xd1, .ref xd2, .int (iI (xi + 1)), .ref xd3, .ref xd4, .ref xd5, .ref xd6])), (xd3, .inl (k 0, 60, .inl (aI (upI xf1 xi.toNat xd)))), (xd4, .inl (k 1, 60, .inr (.inl (aL (upI xf2 xi.toNat xa))))), (xd5, .inl (k 1, 60, .inr (.inl (aL (upI xf3 xi.toNat xb))))), (xd6, .inl (k 1, 60, .inr (.inl (aL (upI xf4 xi.toNat xe)))))] := hD
  rw [hQ]
  refine W.widen (k := 0) (n := 0) (Nat.le_of_ble_eq_true rfl) (Nat.le_of_ble_eq_true rfl) ?_
  exact W.vret hx hb hr (fun t ht hW => ⟨⟨(), rfl, trivial, by rw [ht]; exact hP.sub [0, 1, 2, 3, 4] rfl, by rw [hAe]; exact hD.sub [0, 1, 2, 3, 4] (by decide) rfl⟩, hS.F ht⟩) hS.2.2 dX7_keepPayment_68
set_option maxHeartbeats 4000000 in
set_option maxRecDepth 100000 in
/-- lastAmount -/
theorem c_X7_lastAmount (l : Launch) (dC : Nat → ClassId) (dI : Nat → Nat → Nat) (k : Nat → ClassId) (h0 xd1 xd2 xd3 xd4 xd5 xd6 : Nat) (xP xr xcv xn xz xp : Int) (xf2 : Nat → Int) (hd : 1 ≤ xp ∧ xp ≤ 60) (sz : Nat) : Met l yX7_lastAmount woX7_lastAmount ({ frames := 1, cells := 0, slots := 0, locals := 21 } : Room) (PcW (dC, dI) k [.ref h0] [(h0, .inr (8, [.long (lI xP), .long (lI 0), .long (lI 0), .int (iI xr), .int (iI xcv), .int (iI 0), .int (iI xz), .int (iI xn), .ref xd1, .ref xd2, .int (iI xp), .ref xd3, .ref xd4, .ref xd5, .ref xd6])), (xd4, .inl (k 1, 60, .inr (.inl (aL xf2))))] sz) (va_Ql (fun (r : Int64) (_ : Unit) => r = lI (xf2 (xp - 1).toNat)) (QB (dC, dI) [(h0, .inr (8, [.long (lI xP), .long (lI 0), .long (lI 0), .int (iI xr), .int (iI xcv), .int (iI 0), .int (iI xz), .int (iI xn), .ref xd1, .ref xd2, .int (iI xp), .ref xd3, .ref xd4, .ref xd5, .ref xd6])), (xd4, .inl (k 1, 60, .inr (.inl (aL xf2))))] (fun _ => [(h0, .inr (8, [.long (lI xP), .long (lI 0), .long (lI 0), .int (iI xr), .int (iI xcv), .int (iI 0), .int (iI xz), .int (iI xn), .ref xd1, .ref xd2, .int (iI xp), .ref xd3, .ref xd4, .ref xd5, .ref xd6])), (xd4, .inl (k 1, 60, .inr (.inl (aL xf2))))]) sz) (va_A [(h0, .inr (8, [.long (lI xP), .long (lI 0), .long (lI 0), .int (iI xr), .int (iI xcv), .int (iI 0), .int (iI xz), .int (iI xn), .ref xd1, .ref xd2, .int (iI xp), .ref xd3, .ref xd4, .ref xd5, .ref xd6])), (xd4, .inl (k 1, 60, .inr (.inl (aL xf2))))] sz)) 0 0 (va_A [(h0, .inr (8, [.long (lI xP), .long (lI 0), .long (lI 0), .int (iI xr), .int (iI xcv), .int (iI 0), .int (iI xz), .int (iI xn), .ref xd1, .ref xd2, .int (iI xp), .ref xd3, .ref xd4, .ref xd5, .ref xd6])), (xd4, .inl (k 1, 60, .inr (.inl (aL xf2))))] sz) := by
  refine Met.ofW (cc := cX7_lastAmount) (maxL := 1) (ret := (some .long)) (by decide) rfl ?_
  intro p e s mI args below meth cO s₁ B hml hv
  obtain ⟨rfl, rfl, hP, hD0, hE⟩ := hv
  have hx := B.exec
  have hb := B.bytes
  have hr := B.returns
  have hts := atoms_spec (ws := woX7_lastAmount) B.pre
  have hown : s.vm.findClass RX7 = some mI.cls := findClass_of_methodNamed B.named
  have hlocks := B.notSynchronized
  have hD := hD0.self (sz := s.heap.size)
  generalize hAe : va_A [(h0, .inr (8, [.long (lI xP), .long (lI 0), .long (lI 0), .int (iI xr), .int (iI xcv), .int (iI 0), .int (iI xz), .int (iI xn), .ref xd1, .ref xd2, .int (iI xp), .ref xd3, .ref xd4, .ref xd5, .ref xd6])), (xd4, .inl (k 1, 60, .inr (.inl (aL xf2))))] s.heap.size = A at hD hE ⊢
  have hA : ∀ q : Nat, s.heap.size ≤ q → A q := fun q h => by rw [← hAe]; exact Or.inr h
  have hS : va_S A s.heap s.heap [] := va_S.rf
  obtain ⟨hK, hNw, hNc, hZs, hAO1, hAO2⟩ := id hE
  have hSF : CallFix p mI cO cX7_lastAmount 1 s ([.ref h0] : List Value).toArray woX7_lastAmount RX7 := ⟨hx, hb, hml, hown, hts⟩
  have hl := lv_entry ([.ref h0] : List Value) (n := 1) (Nat.le_of_ble_eq_true rfl)
  rw [lg_entry_eq]
  generalize (lg_sl ([.ref h0] : List Value) ++ List.replicate (1 - (lg_sl ([.ref h0] : List Value)).length) Slot.unset).toArray = ls at hl ⊢
  have hl : lv_has ls 1 [(0, .ref h0)] := hl
  refine W_gen (fun Q hQ => ?_)
  change W p l e ({ frames := 1, cells := 0, slots := 0, locals := 21 } : Room) s mI _ below meth cO s.heap [] 0 0 Q _
  have hP : va_P (dC, dI) vwCl [(h0, .inr (8, [.long (lI xP), .long (lI 0), .long (lI 0), .int (iI xr), .int (iI xcv), .int (iI 0), .int (iI xz), .int (iI xn), .ref xd1, .ref xd2, .int (iI xp), .ref xd3, .ref xd4, .ref xd5, .ref xd6])), (xd4, .inl (k 1, 60, .inr (.inl (aL xf2))))] s.heap := hP
  refine lv_aload_n hx hb dX7_lastAmount_0 rfl (lv_at hl 0 rfl) ?_
  refine lv_aload_n hx hb dX7_lastAmount_1 rfl (lv_at hl 0 rfl) ?_
  refine va_get (D := (dC, dI)) (ci := 8) (v := .int (iI xp)) (C := RX7) (T := TX7) (N := 15) hx hb hts (fun _ h => List.mem_cons_of_mem _ (inlX7 _ h)) hown hK hP 0 rfl rfl 10 (by decide) (hts (.fieldLink RX7 110 "LoanServicing$Projection" "payments" "I") (List.mem_cons_of_mem _ (wl_11 (List.mem_of_getElem? (i := 22) rfl)))) (fun _ h9 => h9) rfl dX7_lastAmount_2 ?_
  refine q_iconst hx hb dX7_lastAmount_5 ?_
  refine q_isub (z := xp - 1) hx hb dX7_lastAmount_6 (by omega) ?_
  refine ki (va_runV (As := [.int (iI (xp - 1))]) (rest := []) hSF ((c_X7_has l dC dI k h0 xd1 xd2 xd3 xd4 xd5 xd6 xP xr xcv xn xz xp (xp - 1) (by omega)) s.heap.size) (cwV 1 hts gX7_lastAmount_X7_has rfl rfl rfl (by decide +kernel) ⟨Nat.le_of_ble_eq_true rfl, Nat.le_of_ble_eq_true rfl⟩) (preV hP hD hE hS hA [0] rfl (by decide) (ci := 8) (q0 := 0) rfl rfl) rfl rfl hl.1 rfl (lv_room (Nat.le_of_ble_eq_true rfl)) dX7_lastAmount_7 ⟨Nat.le_of_ble_eq_true rfl, Nat.le_of_ble_eq_true rfl⟩) hP hD hS hA [0] [1] rfl (wr := [(xd4, .inl (k 1, 60, .inr (.inl (aL xf2))))]) rfl (by decide) (by decide) (fun r7 _ H locs hw hP hD hS => ?_)
  obtain rfl : r7 = iI 1 := hw.trans (by first | rw [if_pos (by omega)] | rw [if_neg (by omega)])
  have hP : va_P (dC, dI) vwCl [(xd4, .inl (k 1, 60, .inr (.inl (aL xf2)))), (h0, .inr (8, [.long (lI xP), .long (lI 0), .long (lI 0), .int (iI xr), .int (iI xcv), .int (iI 0), .int (iI xz), .int (iI xn), .ref xd1, .ref xd2, .int (iI xp), .ref xd3, .ref xd4, .ref xd5, .ref xd6]))] H := hP
  have hD : va_D A [(xd4, .inl (k 1, 60, .inr (.inl (aL xf2)))), (h0, .inr (8, [.long (lI xP), .long (lI 0), .long (lI 0), .int (iI xr), .int (iI xcv), .int (iI 0), .int (iI xz), .int (iI xn), .ref xd1, .ref xd2, .int (iI xp), .ref xd3, .ref xd4, .ref xd5, .ref xd6]))] := hD
  refine q_if_eq (tgt := 27) hx hb dX7_lastAmount_10 (by decide) (by omega) (fun q => absurd q (by omega)) (fun _ => ?_)
  refine lv_aload_n hx hb dX7_lastAmount_13 rfl (lv_at hl 0 rfl) ?_
  refine va_get (D := (dC, dI)) (ci := 8) (v := .ref xd4) (C := RX7) (T := TX7) (N := 15) hx hb hts (fun _ h => List.mem_cons_of_mem _ (inlX7 _ h)) hown hK hP 1 rfl rfl 12 (by decide) (hts (.fieldLink RX7 21 "LoanServicing$Projection" "amounts" "[J") (List.mem_cons_of_mem _ (wl_4 (List.mem_of_getElem? (i := 12) rfl)))) (fun _ h9 => h9) rfl dX7_lastAmount_14 ?_
  refine lv_aload_n hx hb dX7_lastAmount_17 rfl (lv_at hl 0 rfl) ?_
  refine va_get (D := (dC, dI)) (ci := 8) (v := .int (iI xp)) (C := RX7) (T := TX7) (N := 15) hx hb hts (fun _ h => List.mem_cons_of_mem _ (inlX7 _ h)) hown hK hP 1 rfl rfl 10 (by decide) (hts (.fieldLink RX7 110 "LoanServicing$Projection" "payments" "I") (List.mem_cons_of_mem _ (wl_11 (List.mem_of_getElem? (i := 22) rfl)))) (fun _ h9 => h9) rfl dX7_lastAmount_18 ?_
  refine q_iconst hx hb dX7_lastAmount_21 ?_
  refine q_isub (z := xp - 1) hx hb dX7_lastAmount_22 (by omega) ?_
  refine q_lald (z := (xf2 (xp - 1).toNat)) hx hb hK hP 0 1 rfl rfl (by omega) rfl dX7_lastAmount_23 ?_
  refine lv_goto (tgt := 28) hx hb dX7_lastAmount_24 (by decide) ?_
  rw [hQ]
  refine W.widen (k := 0) (n := 0) (Nat.le_of_ble_eq_true rfl) (Nat.le_of_ble_eq_true rfl) ?_
  exact W.lret (v := (lI (xf2 (xp - 1).toNat))) hx hb hr (fun t ht hW => ⟨⟨(lI (xf2 (xp - 1).toNat)), (), rfl, rfl, by rw [ht]; exact hP.sub [1, 0] rfl, by rw [hAe]; exact hD.sub [1, 0] (by decide) rfl⟩, hS.F ht⟩) hS.2.2 dX7_lastAmount_28
set_option maxHeartbeats 4000000 in
set_option maxRecDepth 100000 in
/-- shareUpwards -/
theorem c_X7_shareUpwards (l : Launch) (dC : Nat → ClassId) (dI : Nat → Nat → Nat) (k : Nat → ClassId) (x xn : Int) (hd : 0 ≤ x ∧ x ≤ 1000000000000 ∧ 1 ≤ xn ∧ xn ≤ 60) (sz : Nat) : Met l yX7_shareUpwards woX7_shareUpwards ({ frames := 0, cells := 0, slots := 0, locals := 0 } : Room) (PcW (dC, dI) k [.long (lI x), .int (iI xn)] [] sz) (va_Ql (fun (r : Int64) (_ : Unit) => r = lI ((x + xn - 1) / xn)) (QB (dC, dI) [] (fun _ => []) sz) (va_A [] sz)) 0 0 (va_A [] sz) := by
  refine Met.ofW (cc := cX7_shareUpwards) (maxL := 3) (ret := (some .long)) (by decide) rfl ?_
  intro p e s mI args below meth cO s₁ B hml hv
  obtain ⟨rfl, rfl, hP, hD0, hE⟩ := hv
  have hx := B.exec
  have hb := B.bytes
  have hr := B.returns
  have hts := atoms_spec (ws := woX7_shareUpwards) B.pre
  have hown : s.vm.findClass RX7 = some mI.cls := findClass_of_methodNamed B.named
  have hlocks := B.notSynchronized
  have hD := hD0.self (sz := s.heap.size)
  generalize hAe : va_A [] s.heap.size = A at hD hE ⊢
  have hA : ∀ q : Nat, s.heap.size ≤ q → A q := fun q h => by rw [← hAe]; exact Or.inr h
  have hS : va_S A s.heap s.heap [] := va_S.rf
  obtain ⟨hK, hNw, hNc, hZs, hAO1, hAO2⟩ := id hE
  have hSF : CallFix p mI cO cX7_shareUpwards 3 s ([.long (lI x), .int (iI xn)] : List Value).toArray woX7_shareUpwards RX7 := ⟨hx, hb, hml, hown, hts⟩
  have hl := lv_entry ([.long (lI x), .int (iI xn)] : List Value) (n := 3) (Nat.le_of_ble_eq_true rfl)
  rw [lg_entry_eq]
  generalize (lg_sl ([.long (lI x), .int (iI xn)] : List Value) ++ List.replicate (3 - (lg_sl ([.long (lI x), .int (iI xn)] : List Value)).length) Slot.unset).toArray = ls at hl ⊢
  have hl : lv_has ls 3 [(0, .long (lI x)), (2, .int (iI xn))] := hl
  refine W_gen (fun Q hQ => ?_)
  change W p l e ({ frames := 0, cells := 0, slots := 0, locals := 0 } : Room) s mI _ below meth cO s.heap [] 0 0 Q _
  have hP : va_P (dC, dI) vwCl [] s.heap := hP
  refine lv_iload_n hx hb dX7_shareUpwards_0 rfl (lv_at hl 1 rfl) ?_
  refine q_iconst hx hb dX7_shareUpwards_1 ?_
  refine q_icmp_ge (tgt := 9) hx hb dX7_shareUpwards_2 (by decide) (by omega) (fun _ => ?_) (fun q => absurd q (by omega))
  refine lv_lload_n hx hb dX7_shareUpwards_9 rfl (lv_at hl 0 rfl) ?_
  refine lv_iload_n hx hb dX7_shareUpwards_10 rfl (lv_at hl 1 rfl) ?_
  refine q_i2l hx hb dX7_shareUpwards_11 (by omega) ?_
  refine q_ladd (z := x + xn) hx hb dX7_shareUpwards_12 (by omega) ?_
  refine q_lconst (z := 1) hx hb dX7_shareUpwards_13 (by decide) ?_
  refine q_lsub (z := x + xn - 1) hx hb dX7_shareUpwards_14 (by omega) ?_
  refine lv_iload_n hx hb dX7_shareUpwards_15 rfl (lv_at hl 1 rfl) ?_
  refine q_i2l hx hb dX7_shareUpwards_16 (by omega) ?_
  refine q_ldiv (z := ((x + xn - 1) / xn)) hx hb dX7_shareUpwards_17 (by omega) rfl ?_
  rw [hQ]
  refine W.widen (k := 0) (n := 0) (Nat.le_of_ble_eq_true rfl) (Nat.le_of_ble_eq_true rfl) ?_
  exact W.lret (v := (lI ((x + xn - 1) / xn))) hx hb hr (fun t ht hW => ⟨⟨(lI ((x + xn - 1) / xn)), (), rfl, rfl, by rw [ht]; exact hP.sub [] rfl, by rw [hAe]; exact hD.sub [] (by decide) rfl⟩, hS.F ht⟩) hS.2.2 dX7_shareUpwards_18
set_option maxHeartbeats 4000000 in
set_option maxRecDepth 100000 in
/-- project: the last amount is that of the number LA -/
theorem c_X7_project (l : Launch) (dC : Nat → ClassId) (dI : Nat → Nat → Nat) (k : Nat → ClassId) (h0 xd1 xd2 xd3 xd4 xd5 xd6 : Nat) (xP xr xcv xn xz xp xy : Int) (xD xC xf1 xf2 xf3 xf4 : Nat → Int) (hq9 : 1 ≤ xP ∧ xP ≤ 10000000) (hr9 : 0 ≤ xr ∧ xr ≤ 2000) (hc9 : 0 ≤ xcv ∧ xcv ≤ 2) (hn9 : 1 ≤ xn ∧ xn ≤ 60) (hy : 0 ≤ xy ∧ xy ≤ 100000000) (hC : ∀ j : Int, 0 ≤ j → j < xn → xC j.toNat = cK xcv j) (sz : Nat) : Met l yX7_project woX7_project ({ frames := 2, cells := 0, slots := 0, locals := 47 } : Room) (PcW (dC, dI) k [.ref h0, .long (lI xy), .int (iI xn)] [(h0, .inr (8, [.long (lI xP), .long (lI 0), .long (lI 0), .int (iI xr), .int (iI xcv), .int (iI 0), .int (iI xz), .int (iI xn), .ref xd1, .ref xd2, .int (iI xp), .ref xd3, .ref xd4, .ref xd5, .ref xd6])), (xd1, .inl (k 0, 84, .inl (aI xD))), (xd2, .inl (k 0, 84, .inl (aI xC))), (xd3, .inl (k 0, 60, .inl (aI xf1))), (xd4, .inl (k 1, 60, .inr (.inl (aL xf2)))), (xd5, .inl (k 1, 60, .inr (.inl (aL xf3)))), (xd6, .inl (k 1, 60, .inr (.inl (aL xf4))))] sz) (va_Qv (fun (u : Int × (Nat → Int) × (Nat → Int) × (Nat → Int) × (Nat → Int)) => (1 ≤ u.1 ∧ u.1 ≤ 60) ∧ u.2.2.1 (u.1 - 1).toNat = LA xP xr xcv xn xy) (QB (dC, dI) [(h0, .inr (8, [.long (lI xP), .long (lI 0), .long (lI 0), .int (iI xr), .int (iI xcv), .int (iI 0), .int (iI xz), .int (iI xn), .ref xd1, .ref xd2, .int (iI xp), .ref xd3, .ref xd4, .ref xd5, .ref xd6])), (xd1, .inl (k 0, 84, .inl (aI xD))), (xd2, .inl (k 0, 84, .inl (aI xC))), (xd3, .inl (k 0, 60, .inl (aI xf1))), (xd4, .inl (k 1, 60, .inr (.inl (aL xf2)))), (xd5, .inl (k 1, 60, .inr (.inl (aL xf3)))), (xd6, .inl (k 1, 60, .inr (.inl (aL xf4))))] (fun u => [(h0, .inr (8, [.long (lI xP), .long (lI 0), .long (lI 0), .int (iI xr), .int (iI xcv), .int (iI 0), .int (iI xz), .int (iI xn), .ref xd1, .ref xd2, .int (iI u.1), .ref xd3, .ref xd4, .ref xd5, .ref xd6])), (xd1, .inl (k 0, 84, .inl (aI xD))), (xd2, .inl (k 0, 84, .inl (aI xC))), (xd3, .inl (k 0, 60, .inl (aI u.2.1))), (xd4, .inl (k 1, 60, .inr (.inl (aL u.2.2.1)))), (xd5, .inl (k 1, 60, .inr (.inl (aL u.2.2.2.1)))), (xd6, .inl (k 1, 60, .inr (.inl (aL u.2.2.2.2))))]) sz) (va_A [(h0, .inr (8, [.long (lI xP), .long (lI 0), .long (lI 0), .int (iI xr), .int (iI xcv), .int (iI 0), .int (iI xz), .int (iI xn), .ref xd1, .ref xd2, .int (iI xp), .ref xd3, .ref xd4, .ref xd5, .ref xd6])), (xd1, .inl (k 0, 84, .inl (aI xD))), (xd2, .inl (k 0, 84, .inl (aI xC))), (xd3, .inl (k 0, 60, .inl (aI xf1))), (xd4, .inl (k 1, 60, .inr (.inl (aL xf2)))), (xd5, .inl (k 1, 60, .inr (.inl (aL xf3)))), (xd6, .inl (k 1, 60, .inr (.inl (aL xf4))))] sz)) 0 0 (va_A [(h0, .inr (8, [.long (lI xP), .long (lI 0), .long (lI 0), .int (iI xr), .int (iI xcv), .int (iI 0), .int (iI xz), .int (iI xn), .ref xd1, .ref xd2, .int (iI xp), .ref xd3, .ref xd4, .ref xd5, .ref xd6])), (xd1, .inl (k 0, 84, .inl (aI xD))), (xd2, .inl (k 0, 84, .inl (aI xC))), (xd3, .inl (k 0, 60, .inl (aI xf1))), (xd4, .inl (k 1, 60, .inr (.inl (aL xf2)))), (xd5, .inl (k 1, 60, .inr (.inl (aL xf3)))), (xd6, .inl (k 1, 60, .inr (.inl (aL xf4))))] sz) := by
  refine Met.ofW (cc := cX7_project) (maxL := 18) (ret := none) (by decide) rfl ?_
  intro p e s mI args below meth cO s₁ B hml hv
  obtain ⟨rfl, rfl, hP, hD0, hE⟩ := hv
  have hx := B.exec
  have hb := B.bytes
  have hr := B.returns
  have hts := atoms_spec (ws := woX7_project) B.pre
  have hown : s.vm.findClass RX7 = some mI.cls := findClass_of_methodNamed B.named
  have hlocks := B.notSynchronized
  have hD := hD0.self (sz := s.heap.size)
  generalize hAe : va_A [(h0, .inr (8, [.long (lI xP), .long (lI 0), .long (lI 0), .int (iI xr), .int (iI xcv), .int (iI 0), .int (iI xz), .int (iI xn), .ref xd1, .ref xd2, .int (iI xp), .ref xd3, .ref xd4, .ref xd5, .ref xd6])), (xd1, .inl (k 0, 84, .inl (aI xD))), (xd2, .inl (k 0, 84, .inl (aI xC))), (xd3, .inl (k 0, 60, .inl (aI xf1))), (xd4, .inl (k 1, 60, .inr (.inl (aL xf2)))), (xd5, .inl (k 1, 60, .inr (.inl (aL xf3)))), (xd6, .inl (k 1, 60, .inr (.inl (aL xf4))))] s.heap.size = A at hD hE ⊢
  have hA : ∀ q : Nat, s.heap.size ≤ q → A q := fun q h => by rw [← hAe]; exact Or.inr h
  have hS : va_S A s.heap s.heap [] := va_S.rf
  obtain ⟨hK, hNw, hNc, hZs, hAO1, hAO2⟩ := id hE
  have hSF : CallFix p mI cO cX7_project 18 s ([.ref h0, .long (lI xy), .int (iI xn)] : List Value).toArray woX7_project RX7 := ⟨hx, hb, hml, hown, hts⟩
  have hl := lv_entry ([.ref h0, .long (lI xy), .int (iI xn)] : List Value) (n := 18) (Nat.le_of_ble_eq_true rfl)
  rw [lg_entry_eq]
  generalize (lg_sl ([.ref h0, .long (lI xy), .int (iI xn)] : List Value) ++ List.replicate (18 - (lg_sl ([.ref h0, .long (lI xy), .int (iI xn)] : List Value)).length) Slot.unset).toArray = ls at hl ⊢
  have hl : lv_has ls 18 [(0, .ref h0), (1, .long (lI xy)), (3, .int (iI xn))] := hl
  refine W_gen (fun Q hQ => ?_)
  change W p l e ({ frames := 2, cells := 0, slots := 0, locals := 47 } : Room) s mI _ below meth cO s.heap [] 0 0 Q _
  have hP : va_P (dC, dI) vwCl [(h0, .inr (8, [.long (lI xP), .long (lI 0), .long (lI 0), .int (iI xr), .int (iI xcv), .int (iI 0), .int (iI xz), .int (iI xn), .ref xd1, .ref xd2, .int (iI xp), .ref xd3, .ref xd4, .ref xd5, .ref xd6])), (xd1, .inl (k 0, 84, .inl (aI xD))), (xd2, .inl (k 0, 84, .inl (aI xC))), (xd3, .inl (k 0, 60, .inl (aI xf1))), (xd4, .inl (k 1, 60, .inr (.inl (aL xf2)))), (xd5, .inl (k 1, 60, .inr (.inl (aL xf3)))), (xd6, .inl (k 1, 60, .inr (.inl (aL xf4))))] s.heap := hP
  refine lv_aload_n hx hb dX7_project_0 rfl (lv_at hl 0 rfl) ?_
  refine va_get (D := (dC, dI)) (ci := 8) (v := .long (lI xP)) (C := RX7) (T := TX7) (N := 15) hx hb hts (fun _ h => List.mem_cons_of_mem _ (inlX7 _ h)) hown hK hP 0 rfl rfl 0 (by decide) (hts (.fieldLink RX7 43 "LoanServicing$Projection" "firstPrincipal" "J") (List.mem_cons_of_mem _ (wl_10 (List.mem_of_getElem? (i := 11) rfl)))) (fun _ h9 => h9) rfl dX7_project_1 ?_
  refine lv_lstore (lv' := [(4, .long (lI xP)), (0, .ref h0), (1, .long (lI xy)), (3, .int (iI xn))]) hx hb dX7_project_4 hl (by decide) rfl (fun ls hl => ?_)
  refine lv_aload_n hx hb dX7_project_6 rfl (lv_at hl 1 rfl) ?_
  refine va_get (D := (dC, dI)) (ci := 8) (v := .long (lI 0)) (C := RX7) (T := TX7) (N := 15) hx hb hts (fun _ h => List.mem_cons_of_mem _ (inlX7 _ h)) hown hK hP 0 rfl rfl 1 (by decide) (hts (.fieldLink RX7 49 "LoanServicing$Projection" "firstInterest" "J") (List.mem_cons_of_mem _ (wl_10 (List.mem_of_getElem? (i := 12) rfl)))) (fun _ h9 => h9) rfl dX7_project_7 ?_
  refine lv_lstore (lv' := [(6, .long (lI 0)), (4, .long (lI xP)), (0, .ref h0), (1, .long (lI xy)), (3, .int (iI xn))]) hx hb dX7_project_10 hl (by decide) rfl (fun ls hl => ?_)
  refine lv_aload_n hx hb dX7_project_12 rfl (lv_at hl 2 rfl) ?_
  refine va_get (D := (dC, dI)) (ci := 8) (v := .long (lI 0)) (C := RX7) (T := TX7) (N := 15) hx hb hts (fun _ h => List.mem_cons_of_mem _ (inlX7 _ h)) hown hK hP 0 rfl rfl 2 (by decide) (hts (.fieldLink RX7 55 "LoanServicing$Projection" "firstUnits" "J") (List.mem_cons_of_mem _ (wl_10 (List.mem_of_getElem? (i := 13) rfl)))) (fun _ h9 => h9) rfl dX7_project_13 ?_
  refine lv_lstore (lv' := [(8, .long (lI 0)), (6, .long (lI 0)), (4, .long (lI xP)), (0, .ref h0), (1, .long (lI xy)), (3, .int (iI xn))]) hx hb dX7_project_16 hl (by decide) rfl (fun ls hl => ?_)
  refine lv_aload_n hx hb dX7_project_18 rfl (lv_at hl 3 rfl) ?_
  refine q_iconst hx hb dX7_project_19 ?_
  refine va_put (D := (dC, dI)) (ci := 8) (v := .int (iI 0)) (ty := .int) (C := RX7) (T := TX7) (N := 15) hx hb hts (fun _ h => List.mem_cons_of_mem _ (inlX7 _ h)) tyX7 tyX7_ok nmX7 hown hK hP hD hS 0 rfl rfl 10 (by decide) (hts (.fieldLink RX7 110 "LoanServicing$Projection" "payments" "I") (List.mem_cons_of_mem _ (wl_11 (List.mem_of_getElem? (i := 22) rfl)))) (fun _ h9 => h9) rfl (by decide +kernel) rfl rfl (Nat.le_of_ble_eq_true rfl) dX7_project_20 (fun H locs hP hD hS => ?_)
  have hP : va_P (dC, dI) vwCl [(h0, .inr (8, [.long (lI xP), .long (lI 0), .long (lI 0), .int (iI xr), .int (iI xcv), .int (iI 0), .int (iI xz), .int (iI xn), .ref xd1, .ref xd2, .int (iI 0), .ref xd3, .ref xd4, .ref xd5, .ref xd6])), (xd1, .inl (k 0, 84, .inl (aI xD))), (xd2, .inl (k 0, 84, .inl (aI xC))), (xd3, .inl (k 0, 60, .inl (aI xf1))), (xd4, .inl (k 1, 60, .inr (.inl (aL xf2)))), (xd5, .inl (k 1, 60, .inr (.inl (aL xf3)))), (xd6, .inl (k 1, 60, .inr (.inl (aL xf4))))] H := hP
  have hD : va_D A [(h0, .inr (8, [.long (lI xP), .long (lI 0), .long (lI 0), .int (iI xr), .int (iI xcv), .int (iI 0), .int (iI xz), .int (iI xn), .ref xd1, .ref xd2, .int (iI 0), .ref xd3, .ref xd4, .ref xd5, .ref xd6])), (xd1, .inl (k 0, 84, .inl (aI xD))), (xd2, .inl (k 0, 84, .inl (aI xC))), (xd3, .inl (k 0, 60, .inl (aI xf1))), (xd4, .inl (k 1, 60, .inr (.inl (aL xf2)))), (xd5, .inl (k 1, 60, .inr (.inl (aL xf3)))), (xd6, .inl (k 1, 60, .inr (.inl (aL xf4))))] := hD
  refine q_iconst hx hb dX7_project_23 ?_
  refine lv_istore (lv' := [(10, .int (iI 0)), (8, .long (lI 0)), (6, .long (lI 0)), (4, .long (lI xP)), (0, .ref h0), (1, .long (lI xy)), (3, .int (iI xn))]) hx hb dX7_project_24 hl (by decide) rfl (fun ls hl => ?_)
  have LOOP_26 : ∀ (n : Nat) (i xPp xI xU : Int) (g1 g2 g3 g4 : Nat → Int), (xn - i < (n : Int)) → (0 ≤ i ∧ i < xn) → (Okp xcv i xPp xI xU) → (prj xr xcv xy xn (xn - i).toNat i xPp xI xU = LA xP xr xcv xn xy) → ∀ (H : Heap) (locs : List Loc), va_P (dC, dI) vwCl [(h0, .inr (8, [.long (lI xP), .long (lI 0), .long (lI 0), .int (iI xr), .int (iI xcv), .int (iI 0), .int (iI xz), .int (iI xn), .ref xd1, .ref xd2, .int (iI i), .ref xd3, .ref xd4, .ref xd5, .ref xd6])), (xd1, .inl (k 0, 84, .inl (aI xD))), (xd2, .inl (k 0, 84, .inl (aI xC))), (xd3, .inl (k 0, 60, .inl (aI g1))), (xd4, .inl (k 1, 60, .inr (.inl (aL g2)))), (xd5, .inl (k 1, 60, .inr (.inl (aL g3)))), (xd6, .inl (k 1, 60, .inr (.inl (aL g4))))] H → va_D A [(h0, .inr (8, [.long (lI xP), .long (lI 0), .long (lI 0), .int (iI xr), .int (iI xcv), .int (iI 0), .int (iI xz), .int (iI xn), .ref xd1, .ref xd2, .int (iI i), .ref xd3, .ref xd4, .ref xd5, .ref xd6])), (xd1, .inl (k 0, 84, .inl (aI xD))), (xd2, .inl (k 0, 84, .inl (aI xC))), (xd3, .inl (k 0, 60, .inl (aI g1))), (xd4, .inl (k 1, 60, .inr (.inl (aL g2)))), (xd5, .inl (k 1, 60, .inr (.inl (aL g3)))), (xd6, .inl (k 1, 60, .inr (.inl (aL g4))))] → va_S A s.heap H locs → ∀ ls : Array Slot, lv_has ls 18 [(10, .int (iI i)), (8, .long (lI xU)), (6, .long (lI xI)), (4, .long (lI xPp)), (0, .ref h0), (1, .long (lI xy)), (3, .int (iI xn))] → W p l e ({ frames := 2, cells := 0, slots := 0, locals := 47 } : Room) s mI ([.ref h0, .long (lI xy), .int (iI xn)] : List Value).toArray below meth cO H locs 0 0 Q (F0 mI 26 ls []) := by
    intro n
    induction n with
    | zero => intro i xPp xI xU g1 g2 g3 g4 hn hi hok hpr; exact absurd hn (by omega)
    | succ n ih_26 =>
      intro i xPp xI xU g1 g2 g3 g4 hn hi hok hpr H locs hP hD hS ls hl
      have hb9 := okp_c hr9 hc9 ⟨hi.1, hi.2, hn9.2⟩ hok
      have hk9 := cK_rng hc9 (i := i) (by omega)
      obtain ⟨o1, o2, o3, o4, o5, o6, o7⟩ := id hok
      have hs9 := cn_spec xcv (xU + xPp * xr * cK xcv i)
      obtain ⟨xX, hxX⟩ : ∃ z : Int, z = xPp * xr * cK xcv i := ⟨_, rfl⟩
      rw [← hxX] at hb9 hs9
      refine lv_iload hx hb dX7_project_26 (lv_at hl 0 rfl) ?_
      refine lv_aload_n hx hb dX7_project_28 rfl (lv_at hl 4 rfl) ?_
      refine va_get (D := (dC, dI)) (ci := 8) (v := .int (iI xn)) (C := RX7) (T := TX7) (N := 15) hx hb hts (fun _ h => List.mem_cons_of_mem _ (inlX7 _ h)) hown hK hP 0 rfl rfl 7 (by decide) (hts (.fieldLink RX7 90 "LoanServicing$Projection" "dueDays" "I") (List.mem_cons_of_mem _ (wl_10 (List.mem_of_getElem? (i := 19) rfl)))) (fun _ h9 => h9) rfl dX7_project_29 ?_
      refine q_icmp_ge (tgt := 246) hx hb dX7_project_32 (by decide) (by omega) (fun q => absurd q (by omega)) (fun _ => ?_)
      refine lv_iload hx hb dX7_project_35 (lv_at hl 0 rfl) ?_
      refine q_bipush (z := 84) hx hb dX7_project_37 (by decide) ?_
      refine q_icmp_ge (tgt := 246) hx hb dX7_project_39 (by decide) (by omega) (fun q => absurd q (by omega)) (fun _ => ?_)
      refine lv_aload_n hx hb dX7_project_42 rfl (lv_at hl 4 rfl) ?_
      refine va_get (D := (dC, dI)) (ci := 8) (v := .int (iI i)) (C := RX7) (T := TX7) (N := 15) hx hb hts (fun _ h => List.mem_cons_of_mem _ (inlX7 _ h)) hown hK hP 0 rfl rfl 10 (by decide) (hts (.fieldLink RX7 110 "LoanServicing$Projection" "payments" "I") (List.mem_cons_of_mem _ (wl_11 (List.mem_of_getElem? (i := 22) rfl)))) (fun _ h9 => h9) rfl dX7_project_43 ?_
      refine lv_iload_n hx hb dX7_project_46 rfl (lv_at hl 6 rfl) ?_
      refine q_icmp_ge (tgt := 246) hx hb dX7_project_47 (by decide) (by omega) (fun q => absurd q (by omega)) (fun _ => ?_)
      refine lv_lload hx hb dX7_project_50 (lv_at hl 1 rfl) ?_
      refine lv_lload hx hb dX7_project_52 (lv_at hl 3 rfl) ?_
      refine lv_aload_n hx hb dX7_project_54 rfl (lv_at hl 4 rfl) ?_
      refine va_get (D := (dC, dI)) (ci := 8) (v := .int (iI xr)) (C := RX7) (T := TX7) (N := 15) hx hb hts (fun _ h => List.mem_cons_of_mem _ (inlX7 _ h)) hown hK hP 0 rfl rfl 3 (by decide) (hts (.fieldLink RX7 62 "LoanServicing$Projection" "rate" "I") (List.mem_cons_of_mem _ (wl_10 (List.mem_of_getElem? (i := 14) rfl)))) (fun _ h9 => h9) rfl dX7_project_55 ?_
      refine q_i2l hx hb dX7_project_58 (by omega) ?_
      refine q_lmul (z := (xPp * xr)) hx hb dX7_project_59 rfl ?_
      refine lv_aload_n hx hb dX7_project_60 rfl (lv_at hl 4 rfl) ?_
      refine va_get (D := (dC, dI)) (ci := 8) (v := .ref xd2) (C := RX7) (T := TX7) (N := 15) hx hb hts (fun _ h => List.mem_cons_of_mem _ (inlX7 _ h)) hown hK hP 0 rfl rfl 9 (by decide) (hts (.fieldLink RX7 15 "LoanServicing$Projection" "counted" "[I") (List.mem_cons_of_mem _ (wl_4 (List.mem_of_getElem? (i := 10) rfl)))) (fun _ h9 => h9) rfl dX7_project_61 ?_
      refine lv_iload hx hb dX7_project_64 (lv_at hl 0 rfl) ?_
      refine q_iald (z := (cK xcv i)) hx hb hK hP 2 0 rfl rfl (by omega) (hC i hi.1 hi.2) dX7_project_66 ?_
      refine q_i2l hx hb dX7_project_67 (by omega) ?_
      refine q_lmul (z := xX) hx hb dX7_project_68 hxX.symm ?_
      refine q_ladd (z := xU + xX) hx hb dX7_project_69 (by omega) ?_
      refine lv_lstore (lv' := [(8, .long (lI (xU + xX))), (10, .int (iI i)), (6, .long (lI xI)), (4, .long (lI xPp)), (0, .ref h0), (1, .long (lI xy)), (3, .int (iI xn))]) hx hb dX7_project_70 hl (by decide) rfl (fun ls hl => ?_)
      refine lv_lload hx hb dX7_project_72 (lv_at hl 0 rfl) ?_
      refine lv_aload_n hx hb dX7_project_74 rfl (lv_at hl 4 rfl) ?_
      refine va_get (D := (dC, dI)) (ci := 8) (v := .int (iI xcv)) (C := RX7) (T := TX7) (N := 15) hx hb hts (fun _ h => List.mem_cons_of_mem _ (inlX7 _ h)) hown hK hP 0 rfl rfl 4 (by decide) (hts (.fieldLink RX7 66 "LoanServicing$Projection" "convention" "I") (List.mem_cons_of_mem _ (wl_10 (List.mem_of_getElem? (i := 15) rfl)))) (fun _ h9 => h9) rfl dX7_project_75 ?_
      refine kl (va_runS (As := [.long (lI (xU + xX)), .int (iI xcv)]) (rest := []) hSF ((c_X9_toCents l dC dI k (xU + xX) xcv (by omega)) H.size) (va_cwS 2 hts gX7_project_X9_toCents rfl rfl rfl (by decide +kernel) ⟨Nat.le_of_ble_eq_true rfl, Nat.le_of_ble_eq_true rfl⟩) (preS hP hD hE hS hA [] rfl (by decide)) rfl rfl hl.1 rfl (lv_room (Nat.le_of_ble_eq_true rfl)) dX7_project_78 ⟨Nat.le_of_ble_eq_true rfl, Nat.le_of_ble_eq_true rfl⟩) hP hD hS hA [] [0, 1, 2, 3, 4, 5, 6] rfl (wr := [(h0, .inr (8, [.long (lI xP), .long (lI 0), .long (lI 0), .int (iI xr), .int (iI xcv), .int (iI 0), .int (iI xz), .int (iI xn), .ref xd1, .ref xd2, .int (iI i), .ref xd3, .ref xd4, .ref xd5, .ref xd6])), (xd1, .inl (k 0, 84, .inl (aI xD))), (xd2, .inl (k 0, 84, .inl (aI xC))), (xd3, .inl (k 0, 60, .inl (aI g1))), (xd4, .inl (k 1, 60, .inr (.inl (aL g2)))), (xd5, .inl (k 1, 60, .inr (.inl (aL g3)))), (xd6, .inl (k 1, 60, .inr (.inl (aL g4))))]) rfl (by decide) (by decide) (fun r78 _ H locs hw hP hD hS => ?_)
      obtain ⟨xc9, hxc9⟩ : ∃ z : Int, z = (cnE xcv (xU + xX)) := ⟨_, rfl⟩
      obtain rfl : r78 = lI xc9 := by rw [hxc9]; exact hw
      rw [← hxc9] at hb9 hs9
      have hP : va_P (dC, dI) vwCl [(h0, .inr (8, [.long (lI xP), .long (lI 0), .long (lI 0), .int (iI xr), .int (iI xcv), .int (iI 0), .int (iI xz), .int (iI xn), .ref xd1, .ref xd2, .int (iI i), .ref xd3, .ref xd4, .ref xd5, .ref xd6])), (xd1, .inl (k 0, 84, .inl (aI xD))), (xd2, .inl (k 0, 84, .inl (aI xC))), (xd3, .inl (k 0, 60, .inl (aI g1))), (xd4, .inl (k 1, 60, .inr (.inl (aL g2)))), (xd5, .inl (k 1, 60, .inr (.inl (aL g3)))), (xd6, .inl (k 1, 60, .inr (.inl (aL g4))))] H := hP
      have hD : va_D A [(h0, .inr (8, [.long (lI xP), .long (lI 0), .long (lI 0), .int (iI xr), .int (iI xcv), .int (iI 0), .int (iI xz), .int (iI xn), .ref xd1, .ref xd2, .int (iI i), .ref xd3, .ref xd4, .ref xd5, .ref xd6])), (xd1, .inl (k 0, 84, .inl (aI xD))), (xd2, .inl (k 0, 84, .inl (aI xC))), (xd3, .inl (k 0, 60, .inl (aI g1))), (xd4, .inl (k 1, 60, .inr (.inl (aL g2)))), (xd5, .inl (k 1, 60, .inr (.inl (aL g3)))), (xd6, .inl (k 1, 60, .inr (.inl (aL g4))))] := hD
      refine lv_lstore (lv' := [(11, .long (lI xc9)), (8, .long (lI (xU + xX))), (10, .int (iI i)), (6, .long (lI xI)), (4, .long (lI xPp)), (0, .ref h0), (1, .long (lI xy)), (3, .int (iI xn))]) hx hb dX7_project_81 hl (by decide) rfl (fun ls hl => ?_)
      refine lv_lload hx hb dX7_project_83 (lv_at hl 1 rfl) ?_
      refine lv_lload hx hb dX7_project_85 (lv_at hl 0 rfl) ?_
      refine lv_aload_n hx hb dX7_project_87 rfl (lv_at hl 5 rfl) ?_
      refine va_get (D := (dC, dI)) (ci := 8) (v := .int (iI xcv)) (C := RX7) (T := TX7) (N := 15) hx hb hts (fun _ h => List.mem_cons_of_mem _ (inlX7 _ h)) hown hK hP 0 rfl rfl 4 (by decide) (hts (.fieldLink RX7 66 "LoanServicing$Projection" "convention" "I") (List.mem_cons_of_mem _ (wl_10 (List.mem_of_getElem? (i := 15) rfl)))) (fun _ h9 => h9) rfl dX7_project_88 ?_
      refine kl (va_runS (As := [.long (lI xc9), .int (iI xcv)]) (rest := [.long (lI (xU + xX))]) hSF ((c_X9_ofCents l dC dI k xc9 xcv (by omega)) H.size) (va_cwS 2 hts gX7_project_X9_ofCents rfl rfl rfl (by decide +kernel) ⟨Nat.le_of_ble_eq_true rfl, Nat.le_of_ble_eq_true rfl⟩) (preS hP hD hE hS hA [] rfl (by decide)) rfl rfl hl.1 rfl (lv_room (Nat.le_of_ble_eq_true rfl)) dX7_project_91 ⟨Nat.le_of_ble_eq_true rfl, Nat.le_of_ble_eq_true rfl⟩) hP hD hS hA [] [0, 1, 2, 3, 4, 5, 6] rfl (wr := [(h0, .inr (8, [.long (lI xP), .long (lI 0), .long (lI 0), .int (iI xr), .int (iI xcv), .int (iI 0), .int (iI xz), .int (iI xn), .ref xd1, .ref xd2, .int (iI i), .ref xd3, .ref xd4, .ref xd5, .ref xd6])), (xd1, .inl (k 0, 84, .inl (aI xD))), (xd2, .inl (k 0, 84, .inl (aI xC))), (xd3, .inl (k 0, 60, .inl (aI g1))), (xd4, .inl (k 1, 60, .inr (.inl (aL g2)))), (xd5, .inl (k 1, 60, .inr (.inl (aL g3)))), (xd6, .inl (k 1, 60, .inr (.inl (aL g4))))]) rfl (by decide) (by decide) (fun r91 _ H locs hw hP hD hS => ?_)
      obtain rfl : r91 = (lI (xc9 * ceE xcv)) := hw
      have hP : va_P (dC, dI) vwCl [(h0, .inr (8, [.long (lI xP), .long (lI 0), .long (lI 0), .int (iI xr), .int (iI xcv), .int (iI 0), .int (iI xz), .int (iI xn), .ref xd1, .ref xd2, .int (iI i), .ref xd3, .ref xd4, .ref xd5, .ref xd6])), (xd1, .inl (k 0, 84, .inl (aI xD))), (xd2, .inl (k 0, 84, .inl (aI xC))), (xd3, .inl (k 0, 60, .inl (aI g1))), (xd4, .inl (k 1, 60, .inr (.inl (aL g2)))), (xd5, .inl (k 1, 60, .inr (.inl (aL g3)))), (xd6, .inl (k 1, 60, .inr (.inl (aL g4))))] H := hP
      have hD : va_D A [(h0, .inr (8, [.long (lI xP), .long (lI 0), .long (lI 0), .int (iI xr), .int (iI xcv), .int (iI 0), .int (iI xz), .int (iI xn), .ref xd1, .ref xd2, .int (iI i), .ref xd3, .ref xd4, .ref xd5, .ref xd6])), (xd1, .inl (k 0, 84, .inl (aI xD))), (xd2, .inl (k 0, 84, .inl (aI xC))), (xd3, .inl (k 0, 60, .inl (aI g1))), (xd4, .inl (k 1, 60, .inr (.inl (aL g2)))), (xd5, .inl (k 1, 60, .inr (.inl (aL g3)))), (xd6, .inl (k 1, 60, .inr (.inl (aL g4))))] := hD
      refine q_lsub (z := xU + xX - (xc9 * ceE xcv)) hx hb dX7_project_94 (by omega) ?_
      refine lv_lstore (lv' := [(8, .long (lI (xU + xX - (xc9 * ceE xcv)))), (11, .long (lI xc9)), (10, .int (iI i)), (6, .long (lI xI)), (4, .long (lI xPp)), (0, .ref h0), (1, .long (lI xy)), (3, .int (iI xn))]) hx hb dX7_project_95 hl (by decide) rfl (fun ls hl => ?_)
      refine lv_lload hx hb dX7_project_97 (lv_at hl 3 rfl) ?_
      refine lv_lload hx hb dX7_project_99 (lv_at hl 1 rfl) ?_
      refine q_ladd (z := xI + xc9) hx hb dX7_project_101 (by omega) ?_
      refine lv_lstore (lv' := [(6, .long (lI (xI + xc9))), (8, .long (lI (xU + xX - (xc9 * ceE xcv)))), (11, .long (lI xc9)), (10, .int (iI i)), (4, .long (lI xPp)), (0, .ref h0), (1, .long (lI xy)), (3, .int (iI xn))]) hx hb dX7_project_102 hl (by decide) rfl (fun ls hl => ?_)
      refine lv_iload hx hb dX7_project_104 (lv_at hl 3 rfl) ?_
      refine q_bipush (z := 24) hx hb dX7_project_106 (by decide) ?_
      refine q_icmp_ge (tgt := 143) hx hb dX7_project_108 (by decide) (by omega) (fun c108 => ?_) (fun c108 => ?_)
      · refine lv_aload_n hx hb dX7_project_143 rfl (lv_at hl 5 rfl) ?_
        refine va_get (D := (dC, dI)) (ci := 8) (v := .int (iI i)) (C := RX7) (T := TX7) (N := 15) hx hb hts (fun _ h => List.mem_cons_of_mem _ (inlX7 _ h)) hown hK hP 0 rfl rfl 10 (by decide) (hts (.fieldLink RX7 110 "LoanServicing$Projection" "payments" "I") (List.mem_cons_of_mem _ (wl_11 (List.mem_of_getElem? (i := 22) rfl)))) (fun _ h9 => h9) rfl dX7_project_144 ?_
        refine lv_iload_n hx hb dX7_project_147 rfl (lv_at hl 7 rfl) ?_
        refine q_iconst hx hb dX7_project_148 ?_
        refine q_isub (z := xn - 1) hx hb dX7_project_149 (by omega) ?_
        refine q_icmp_eq (tgt := 163) hx hb dX7_project_150 (by decide) (by omega) (fun c150 => ?_) (fun c150 => ?_)
        · refine q_iconst hx hb dX7_project_163 ?_
          refine lv_goto (tgt := 168) hx hb dX7_project_164 (by decide) ?_
          refine lv_istore (lv' := [(13, .int (iI 1)), (6, .long (lI (xI + xc9))), (8, .long (lI (xU + xX - (xc9 * ceE xcv)))), (11, .long (lI xc9)), (10, .int (iI i)), (4, .long (lI xPp)), (0, .ref h0), (1, .long (lI xy)), (3, .int (iI xn))]) hx hb dX7_project_168 hl (by decide) rfl (fun ls hl => ?_)
          refine lv_iload hx hb dX7_project_170 (lv_at hl 0 rfl) ?_
          refine q_if_eq (tgt := 183) hx hb dX7_project_172 (by decide) (by omega) (fun q => absurd q (by omega)) (fun _ => ?_)
          refine lv_lload hx hb dX7_project_175 (lv_at hl 5 rfl) ?_
          refine lv_lload hx hb dX7_project_177 (lv_at hl 1 rfl) ?_
          refine q_ladd (z := xPp + xI + xc9) hx hb dX7_project_179 (by omega) ?_
          refine lv_goto (tgt := 184) hx hb dX7_project_180 (by decide) ?_
          refine lv_lstore (lv' := [(14, .long (lI (xPp + xI + xc9))), (13, .int (iI 1)), (6, .long (lI (xI + xc9))), (8, .long (lI (xU + xX - (xc9 * ceE xcv)))), (11, .long (lI xc9)), (10, .int (iI i)), (4, .long (lI xPp)), (0, .ref h0), (1, .long (lI xy)), (3, .int (iI xn))]) hx hb dX7_project_184 hl (by decide) rfl (fun ls hl => ?_)
          refine lv_lload hx hb dX7_project_186 (lv_at hl 0 rfl) ?_
          refine lv_lload hx hb dX7_project_188 (lv_at hl 2 rfl) ?_
          refine va_mmin_long hx hb (hml.trans hl.1.symm) hown (hts (.methodLink RX7 122 Lib.MathLoose.min_long.x) (List.mem_cons_of_mem _ (wl_11 (List.mem_of_getElem? (i := 23) rfl)))) (hts (.static Lib.MathLoose.min_long.x) (List.mem_cons_of_mem _ (wl_12 (List.mem_of_getElem? (i := 0) rfl)))) (hts (.initialized "java/lang/Math") (List.mem_cons_of_mem _ (wl_6 (List.mem_of_getElem? (i := 22) rfl)))) (hts (.code Lib.MathLoose.min_long.x Lib.MathLoose.min_long.code 4 (some .long)) (List.mem_cons_of_mem _ (wl_12 (List.mem_of_getElem? (i := 1) rfl)))) (Nat.le_of_ble_eq_true rfl) (Nat.le_of_ble_eq_true rfl) (Nat.le_of_ble_eq_true rfl) (Nat.le_of_ble_eq_true rfl) dX7_project_190 ?_
          rw [q_mmin_long (a := xPp + xI + xc9) (b := xI + xc9) (z := (min (xPp + xI + xc9) (xI + xc9))) (by omega) (by omega)]
          refine lv_lstore (lv' := [(16, .long (lI (min (xPp + xI + xc9) (xI + xc9)))), (14, .long (lI (xPp + xI + xc9))), (13, .int (iI 1)), (6, .long (lI (xI + xc9))), (8, .long (lI (xU + xX - (xc9 * ceE xcv)))), (11, .long (lI xc9)), (10, .int (iI i)), (4, .long (lI xPp)), (0, .ref h0), (1, .long (lI xy)), (3, .int (iI xn))]) hx hb dX7_project_193 hl (by decide) rfl (fun ls hl => ?_)
          refine lv_lload hx hb dX7_project_195 (lv_at hl 3 rfl) ?_
          refine lv_lload hx hb dX7_project_197 (lv_at hl 0 rfl) ?_
          refine q_lsub (z := xI + xc9 - (min (xPp + xI + xc9) (xI + xc9))) hx hb dX7_project_199 (by omega) ?_
          refine lv_lstore (lv' := [(6, .long (lI (xI + xc9 - (min (xPp + xI + xc9) (xI + xc9))))), (16, .long (lI (min (xPp + xI + xc9) (xI + xc9)))), (14, .long (lI (xPp + xI + xc9))), (13, .int (iI 1)), (8, .long (lI (xU + xX - (xc9 * ceE xcv)))), (11, .long (lI xc9)), (10, .int (iI i)), (4, .long (lI xPp)), (0, .ref h0), (1, .long (lI xy)), (3, .int (iI xn))]) hx hb dX7_project_200 hl (by decide) rfl (fun ls hl => ?_)
          refine lv_lload hx hb dX7_project_202 (lv_at hl 7 rfl) ?_
          refine lv_lload hx hb dX7_project_204 (lv_at hl 2 rfl) ?_
          refine lv_lload hx hb dX7_project_206 (lv_at hl 1 rfl) ?_
          refine q_lsub (z := xPp + xI + xc9 - (min (xPp + xI + xc9) (xI + xc9))) hx hb dX7_project_208 (by omega) ?_
          refine q_lsub (z := -xI - xc9 + (min (xPp + xI + xc9) (xI + xc9))) hx hb dX7_project_209 (by omega) ?_
          refine lv_lstore (lv' := [(4, .long (lI (-xI - xc9 + (min (xPp + xI + xc9) (xI + xc9))))), (6, .long (lI (xI + xc9 - (min (xPp + xI + xc9) (xI + xc9))))), (16, .long (lI (min (xPp + xI + xc9) (xI + xc9)))), (14, .long (lI (xPp + xI + xc9))), (13, .int (iI 1)), (8, .long (lI (xU + xX - (xc9 * ceE xcv)))), (11, .long (lI xc9)), (10, .int (iI i)), (0, .ref h0), (1, .long (lI xy)), (3, .int (iI xn))]) hx hb dX7_project_210 hl (by decide) rfl (fun ls hl => ?_)
          refine lv_aload_n hx hb dX7_project_212 rfl (lv_at hl 8 rfl) ?_
          refine lv_aload_n hx hb dX7_project_213 rfl (lv_at hl 8 rfl) ?_
          refine va_get (D := (dC, dI)) (ci := 8) (v := .ref xd1) (C := RX7) (T := TX7) (N := 15) hx hb hts (fun _ h => List.mem_cons_of_mem _ (inlX7 _ h)) hown hK hP 0 rfl rfl 8 (by decide) (hts (.fieldLink RX7 11 "LoanServicing$Projection" "dueDay" "[I") (List.mem_cons_of_mem _ (wl_4 (List.mem_of_getElem? (i := 9) rfl)))) (fun _ h9 => h9) rfl dX7_project_214 ?_
          refine lv_iload hx hb dX7_project_217 (lv_at hl 7 rfl) ?_
          refine q_iald (z := (xD i.toNat)) hx hb hK hP 1 0 rfl rfl (by omega) rfl dX7_project_219 ?_
          refine lv_lload hx hb dX7_project_220 (lv_at hl 3 rfl) ?_
          refine lv_lload hx hb dX7_project_222 (lv_at hl 2 rfl) ?_
          refine lv_lload hx hb dX7_project_224 (lv_at hl 0 rfl) ?_
          refine lv_lload hx hb dX7_project_226 (lv_at hl 1 rfl) ?_
          refine q_ladd (z := 0) hx hb dX7_project_228 (by omega) ?_
          refine kv (va_runV (As := [.int (iI (xD i.toNat)), .long (lI (xPp + xI + xc9)), .long (lI (min (xPp + xI + xc9) (xI + xc9))), .long (lI 0)]) (rest := []) hSF ((c_X7_keepPayment l dC dI k h0 xd1 xd2 xd3 xd4 xd5 xd6 xP xr xcv xn xz i (xD i.toNat) (xPp + xI + xc9) (min (xPp + xI + xc9) (xI + xc9)) 0 g1 g2 g3 g4 (by omega)) H.size) (cwV 4 hts gX7_project_X7_keepPayment rfl rfl rfl (by decide +kernel) ⟨Nat.le_of_ble_eq_true rfl, Nat.le_of_ble_eq_true rfl⟩) (preV hP hD hE hS hA [0, 3, 4, 5, 6] rfl (by decide) (ci := 8) (q0 := 0) rfl rfl) rfl rfl hl.1 rfl (lv_room (Nat.le_of_ble_eq_true rfl)) dX7_project_229 ⟨Nat.le_of_ble_eq_true rfl, Nat.le_of_ble_eq_true rfl⟩) hP hD hS hA [0, 3, 4, 5, 6] [1, 2] rfl (wr := [(xd1, .inl (k 0, 84, .inl (aI xD))), (xd2, .inl (k 0, 84, .inl (aI xC)))]) rfl (by decide) (by decide) (fun _ H locs hw hP hD hS => ?_)
          have hP : va_P (dC, dI) vwCl [(xd1, .inl (k 0, 84, .inl (aI xD))), (xd2, .inl (k 0, 84, .inl (aI xC))), (h0, .inr (8, [.long (lI xP), .long (lI 0), .long (lI 0), .int (iI xr), .int (iI xcv), .int (iI 0), .int (iI xz), .int (iI xn), .ref xd1, .ref xd2, .int (iI (i + 1)), .ref xd3, .ref xd4, .ref xd5, .ref xd6])), (xd3, .inl (k 0, 60, .inl (aI (upI g1 i.toNat (xD i.toNat))))), (xd4, .inl (k 1, 60, .inr (.inl (aL (upI g2 i.toNat (xPp + xI + xc9)))))), (xd5, .inl (k 1, 60, .inr (.inl (aL (upI g3 i.toNat (min (xPp + xI + xc9) (xI + xc9))))))), (xd6, .inl (k 1, 60, .inr (.inl (aL (upI g4 i.toNat 0)))))] H := hP
          have hD : va_D A [(xd1, .inl (k 0, 84, .inl (aI xD))), (xd2, .inl (k 0, 84, .inl (aI xC))), (h0, .inr (8, [.long (lI xP), .long (lI 0), .long (lI 0), .int (iI xr), .int (iI xcv), .int (iI 0), .int (iI xz), .int (iI xn), .ref xd1, .ref xd2, .int (iI (i + 1)), .ref xd3, .ref xd4, .ref xd5, .ref xd6])), (xd3, .inl (k 0, 60, .inl (aI (upI g1 i.toNat (xD i.toNat))))), (xd4, .inl (k 1, 60, .inr (.inl (aL (upI g2 i.toNat (xPp + xI + xc9)))))), (xd5, .inl (k 1, 60, .inr (.inl (aL (upI g3 i.toNat (min (xPp + xI + xc9) (xI + xc9))))))), (xd6, .inl (k 1, 60, .inr (.inl (aL (upI g4 i.toNat 0)))))] := hD
          refine lv_iload hx hb dX7_project_232 (lv_at hl 4 rfl) ?_
          refine q_if_eq (tgt := 240) hx hb dX7_project_234 (by decide) (by omega) (fun q => absurd q (by omega)) (fun _ => ?_)
          refine lv_goto (tgt := 246) hx hb dX7_project_237 (by decide) ?_
          rw [hQ]
          refine W.widen (k := 0) (n := 0) (Nat.le_of_ble_eq_true rfl) (Nat.le_of_ble_eq_true rfl) ?_
          exact W.vret hx hb hr (fun t ht hW => ⟨⟨(i + 1, (upI g1 i.toNat (xD i.toNat)), (upI g2 i.toNat (xPp + xI + xc9)), (upI g3 i.toNat (min (xPp + xI + xc9) (xI + xc9))), (upI g4 i.toNat 0)), rfl, ⟨by show 1 ≤ _ ∧ _; omega, by show (upI g2 i.toNat _) _ = _; rw [show (i + 1 - 1).toNat = i.toNat by omega, upI_s]; exact prj_last (c := xc9) hi.2 hpr (by rw [hxc9, hxX]) (by omega) (by omega)⟩, by rw [ht]; exact hP.sub [2, 0, 1, 3, 4, 5, 6] rfl, by rw [hAe]; exact hD.sub [2, 0, 1, 3, 4, 5, 6] (by decide) rfl⟩, hS.F ht⟩) hS.2.2 dX7_project_246
        · refine lv_lload_n hx hb dX7_project_153 rfl (lv_at hl 6 rfl) ?_
          refine lv_lload hx hb dX7_project_154 (lv_at hl 4 rfl) ?_
          refine lv_lload hx hb dX7_project_156 (lv_at hl 0 rfl) ?_
          refine q_ladd (z := xPp + xI + xc9) hx hb dX7_project_158 (by omega) ?_
          refine q_lcmp hx hb dX7_project_159 ?_
          refine q_lif_lt (tgt := 167) hx hb dX7_project_160 (by decide) (by omega) (fun c160 => ?_) (fun c160 => ?_)
          · refine q_iconst hx hb dX7_project_167 ?_
            refine lv_istore (lv' := [(13, .int (iI 0)), (6, .long (lI (xI + xc9))), (8, .long (lI (xU + xX - (xc9 * ceE xcv)))), (11, .long (lI xc9)), (10, .int (iI i)), (4, .long (lI xPp)), (0, .ref h0), (1, .long (lI xy)), (3, .int (iI xn))]) hx hb dX7_project_168 hl (by decide) rfl (fun ls hl => ?_)
            refine lv_iload hx hb dX7_project_170 (lv_at hl 0 rfl) ?_
            refine q_if_eq (tgt := 183) hx hb dX7_project_172 (by decide) (by omega) (fun _ => ?_) (fun q => absurd q (by omega))
            refine lv_lload_n hx hb dX7_project_183 rfl (lv_at hl 7 rfl) ?_
            refine lv_lstore (lv' := [(14, .long (lI xy)), (13, .int (iI 0)), (6, .long (lI (xI + xc9))), (8, .long (lI (xU + xX - (xc9 * ceE xcv)))), (11, .long (lI xc9)), (10, .int (iI i)), (4, .long (lI xPp)), (0, .ref h0), (1, .long (lI xy)), (3, .int (iI xn))]) hx hb dX7_project_184 hl (by decide) rfl (fun ls hl => ?_)
            refine lv_lload hx hb dX7_project_186 (lv_at hl 0 rfl) ?_
            refine lv_lload hx hb dX7_project_188 (lv_at hl 2 rfl) ?_
            refine va_mmin_long hx hb (hml.trans hl.1.symm) hown (hts (.methodLink RX7 122 Lib.MathLoose.min_long.x) (List.mem_cons_of_mem _ (wl_11 (List.mem_of_getElem? (i := 23) rfl)))) (hts (.static Lib.MathLoose.min_long.x) (List.mem_cons_of_mem _ (wl_12 (List.mem_of_getElem? (i := 0) rfl)))) (hts (.initialized "java/lang/Math") (List.mem_cons_of_mem _ (wl_6 (List.mem_of_getElem? (i := 22) rfl)))) (hts (.code Lib.MathLoose.min_long.x Lib.MathLoose.min_long.code 4 (some .long)) (List.mem_cons_of_mem _ (wl_12 (List.mem_of_getElem? (i := 1) rfl)))) (Nat.le_of_ble_eq_true rfl) (Nat.le_of_ble_eq_true rfl) (Nat.le_of_ble_eq_true rfl) (Nat.le_of_ble_eq_true rfl) dX7_project_190 ?_
            rw [q_mmin_long (a := xy) (b := xI + xc9) (z := (min xy (xI + xc9))) (by omega) (by omega)]
            refine lv_lstore (lv' := [(16, .long (lI (min xy (xI + xc9)))), (14, .long (lI xy)), (13, .int (iI 0)), (6, .long (lI (xI + xc9))), (8, .long (lI (xU + xX - (xc9 * ceE xcv)))), (11, .long (lI xc9)), (10, .int (iI i)), (4, .long (lI xPp)), (0, .ref h0), (1, .long (lI xy)), (3, .int (iI xn))]) hx hb dX7_project_193 hl (by decide) rfl (fun ls hl => ?_)
            refine lv_lload hx hb dX7_project_195 (lv_at hl 3 rfl) ?_
            refine lv_lload hx hb dX7_project_197 (lv_at hl 0 rfl) ?_
            refine q_lsub (z := xI + xc9 - (min xy (xI + xc9))) hx hb dX7_project_199 (by omega) ?_
            refine lv_lstore (lv' := [(6, .long (lI (xI + xc9 - (min xy (xI + xc9))))), (16, .long (lI (min xy (xI + xc9)))), (14, .long (lI xy)), (13, .int (iI 0)), (8, .long (lI (xU + xX - (xc9 * ceE xcv)))), (11, .long (lI xc9)), (10, .int (iI i)), (4, .long (lI xPp)), (0, .ref h0), (1, .long (lI xy)), (3, .int (iI xn))]) hx hb dX7_project_200 hl (by decide) rfl (fun ls hl => ?_)
            refine lv_lload hx hb dX7_project_202 (lv_at hl 7 rfl) ?_
            refine lv_lload hx hb dX7_project_204 (lv_at hl 2 rfl) ?_
            refine lv_lload hx hb dX7_project_206 (lv_at hl 1 rfl) ?_
            refine q_lsub (z := xy - (min xy (xI + xc9))) hx hb dX7_project_208 (by omega) ?_
            refine q_lsub (z := xPp - xy + (min xy (xI + xc9))) hx hb dX7_project_209 (by omega) ?_
            refine lv_lstore (lv' := [(4, .long (lI (xPp - xy + (min xy (xI + xc9))))), (6, .long (lI (xI + xc9 - (min xy (xI + xc9))))), (16, .long (lI (min xy (xI + xc9)))), (14, .long (lI xy)), (13, .int (iI 0)), (8, .long (lI (xU + xX - (xc9 * ceE xcv)))), (11, .long (lI xc9)), (10, .int (iI i)), (0, .ref h0), (1, .long (lI xy)), (3, .int (iI xn))]) hx hb dX7_project_210 hl (by decide) rfl (fun ls hl => ?_)
            refine lv_aload_n hx hb dX7_project_212 rfl (lv_at hl 8 rfl) ?_
            refine lv_aload_n hx hb dX7_project_213 rfl (lv_at hl 8 rfl) ?_
            refine va_get (D := (dC, dI)) (ci := 8) (v := .ref xd1) (C := RX7) (T := TX7) (N := 15) hx hb hts (fun _ h => List.mem_cons_of_mem _ (inlX7 _ h)) hown hK hP 0 rfl rfl 8 (by decide) (hts (.fieldLink RX7 11 "LoanServicing$Projection" "dueDay" "[I") (List.mem_cons_of_mem _ (wl_4 (List.mem_of_getElem? (i := 9) rfl)))) (fun _ h9 => h9) rfl dX7_project_214 ?_
            refine lv_iload hx hb dX7_project_217 (lv_at hl 7 rfl) ?_
            refine q_iald (z := (xD i.toNat)) hx hb hK hP 1 0 rfl rfl (by omega) rfl dX7_project_219 ?_
            refine lv_lload hx hb dX7_project_220 (lv_at hl 3 rfl) ?_
            refine lv_lload hx hb dX7_project_222 (lv_at hl 2 rfl) ?_
            refine lv_lload hx hb dX7_project_224 (lv_at hl 0 rfl) ?_
            refine lv_lload hx hb dX7_project_226 (lv_at hl 1 rfl) ?_
            refine q_ladd (z := xPp - xy + xI + xc9) hx hb dX7_project_228 (by omega) ?_
            refine kv (va_runV (As := [.int (iI (xD i.toNat)), .long (lI xy), .long (lI (min xy (xI + xc9))), .long (lI (xPp - xy + xI + xc9))]) (rest := []) hSF ((c_X7_keepPayment l dC dI k h0 xd1 xd2 xd3 xd4 xd5 xd6 xP xr xcv xn xz i (xD i.toNat) xy (min xy (xI + xc9)) (xPp - xy + xI + xc9) g1 g2 g3 g4 (by omega)) H.size) (cwV 4 hts gX7_project_X7_keepPayment rfl rfl rfl (by decide +kernel) ⟨Nat.le_of_ble_eq_true rfl, Nat.le_of_ble_eq_true rfl⟩) (preV hP hD hE hS hA [0, 3, 4, 5, 6] rfl (by decide) (ci := 8) (q0 := 0) rfl rfl) rfl rfl hl.1 rfl (lv_room (Nat.le_of_ble_eq_true rfl)) dX7_project_229 ⟨Nat.le_of_ble_eq_true rfl, Nat.le_of_ble_eq_true rfl⟩) hP hD hS hA [0, 3, 4, 5, 6] [1, 2] rfl (wr := [(xd1, .inl (k 0, 84, .inl (aI xD))), (xd2, .inl (k 0, 84, .inl (aI xC)))]) rfl (by decide) (by decide) (fun _ H locs hw hP hD hS => ?_)
            have hP : va_P (dC, dI) vwCl [(xd1, .inl (k 0, 84, .inl (aI xD))), (xd2, .inl (k 0, 84, .inl (aI xC))), (h0, .inr (8, [.long (lI xP), .long (lI 0), .long (lI 0), .int (iI xr), .int (iI xcv), .int (iI 0), .int (iI xz), .int (iI xn), .ref xd1, .ref xd2, .int (iI (i + 1)), .ref xd3, .ref xd4, .ref xd5, .ref xd6])), (xd3, .inl (k 0, 60, .inl (aI (upI g1 i.toNat (xD i.toNat))))), (xd4, .inl (k 1, 60, .inr (.inl (aL (upI g2 i.toNat xy))))), (xd5, .inl (k 1, 60, .inr (.inl (aL (upI g3 i.toNat (min xy (xI + xc9))))))), (xd6, .inl (k 1, 60, .inr (.inl (aL (upI g4 i.toNat (xPp - xy + xI + xc9))))))] H := hP
            have hD : va_D A [(xd1, .inl (k 0, 84, .inl (aI xD))), (xd2, .inl (k 0, 84, .inl (aI xC))), (h0, .inr (8, [.long (lI xP), .long (lI 0), .long (lI 0), .int (iI xr), .int (iI xcv), .int (iI 0), .int (iI xz), .int (iI xn), .ref xd1, .ref xd2, .int (iI (i + 1)), .ref xd3, .ref xd4, .ref xd5, .ref xd6])), (xd3, .inl (k 0, 60, .inl (aI (upI g1 i.toNat (xD i.toNat))))), (xd4, .inl (k 1, 60, .inr (.inl (aL (upI g2 i.toNat xy))))), (xd5, .inl (k 1, 60, .inr (.inl (aL (upI g3 i.toNat (min xy (xI + xc9))))))), (xd6, .inl (k 1, 60, .inr (.inl (aL (upI g4 i.toNat (xPp - xy + xI + xc9))))))] := hD
            refine lv_iload hx hb dX7_project_232 (lv_at hl 4 rfl) ?_
            refine q_if_eq (tgt := 240) hx hb dX7_project_234 (by decide) (by omega) (fun _ => ?_) (fun q => absurd q (by omega))
            refine lv_iinc (v := iI (i + 1)) (lv' := [(10, .int (iI (i + 1))), (4, .long (lI (xPp - xy + (min xy (xI + xc9))))), (6, .long (lI (xI + xc9 - (min xy (xI + xc9))))), (16, .long (lI (min xy (xI + xc9)))), (14, .long (lI xy)), (13, .int (iI 0)), (8, .long (lI (xU + xX - (xc9 * ceE xcv)))), (11, .long (lI xc9)), (0, .ref h0), (1, .long (lI xy)), (3, .int (iI xn))]) hx hb dX7_project_240 hl (k := 7) rfl (by show iI _ + iI _ = _; rw [iI_add]; try (first | rfl | (congr 1; omega))) (by decide) rfl (fun ls hl => ?_)
            refine lv_goto (tgt := 26) hx hb dX7_project_243 (by decide) ?_
            exact ih_26 (i + 1) (xPp - xy + (min xy (xI + xc9))) (xI + xc9 - (min xy (xI + xc9))) (xU + xX - (xc9 * ceE xcv)) ((upI g1 i.toNat (xD i.toNat))) ((upI g2 i.toNat xy)) ((upI g3 i.toNat (min xy (xI + xc9)))) ((upI g4 i.toNat (xPp - xy + xI + xc9))) (by omega) (by omega) (okp_next (y := xy) (c := xc9) (by omega) hr9 hc9 ⟨hi.1, hi.2, hn9.2⟩ hok (by rw [hxc9, hxX]) (by omega) (by omega) (by omega) (by omega)) (prj_next (c := xc9) hi.2 hpr (by rw [hxc9, hxX]) (by omega) (by omega) (by omega) (by omega)) _ _ (hP.sub [2, 0, 1, 3, 4, 5, 6] rfl) (hD.sub [2, 0, 1, 3, 4, 5, 6] (by decide) rfl) hS ls (lv_sub hl [0, 6, 2, 1, 8, 9, 10] rfl)
          · refine q_iconst hx hb dX7_project_163 ?_
            refine lv_goto (tgt := 168) hx hb dX7_project_164 (by decide) ?_
            refine lv_istore (lv' := [(13, .int (iI 1)), (6, .long (lI (xI + xc9))), (8, .long (lI (xU + xX - (xc9 * ceE xcv)))), (11, .long (lI xc9)), (10, .int (iI i)), (4, .long (lI xPp)), (0, .ref h0), (1, .long (lI xy)), (3, .int (iI xn))]) hx hb dX7_project_168 hl (by decide) rfl (fun ls hl => ?_)
            refine lv_iload hx hb dX7_project_170 (lv_at hl 0 rfl) ?_
            refine q_if_eq (tgt := 183) hx hb dX7_project_172 (by decide) (by omega) (fun q => absurd q (by omega)) (fun _ => ?_)
            refine lv_lload hx hb dX7_project_175 (lv_at hl 5 rfl) ?_
            refine lv_lload hx hb dX7_project_177 (lv_at hl 1 rfl) ?_
            refine q_ladd (z := xPp + xI + xc9) hx hb dX7_project_179 (by omega) ?_
            refine lv_goto (tgt := 184) hx hb dX7_project_180 (by decide) ?_
            refine lv_lstore (lv' := [(14, .long (lI (xPp + xI + xc9))), (13, .int (iI 1)), (6, .long (lI (xI + xc9))), (8, .long (lI (xU + xX - (xc9 * ceE xcv)))), (11, .long (lI xc9)), (10, .int (iI i)), (4, .long (lI xPp)), (0, .ref h0), (1, .long (lI xy)), (3, .int (iI xn))]) hx hb dX7_project_184 hl (by decide) rfl (fun ls hl => ?_)
            refine lv_lload hx hb dX7_project_186 (lv_at hl 0 rfl) ?_
            refine lv_lload hx hb dX7_project_188 (lv_at hl 2 rfl) ?_
            refine va_mmin_long hx hb (hml.trans hl.1.symm) hown (hts (.methodLink RX7 122 Lib.MathLoose.min_long.x) (List.mem_cons_of_mem _ (wl_11 (List.mem_of_getElem? (i := 23) rfl)))) (hts (.static Lib.MathLoose.min_long.x) (List.mem_cons_of_mem _ (wl_12 (List.mem_of_getElem? (i := 0) rfl)))) (hts (.initialized "java/lang/Math") (List.mem_cons_of_mem _ (wl_6 (List.mem_of_getElem? (i := 22) rfl)))) (hts (.code Lib.MathLoose.min_long.x Lib.MathLoose.min_long.code 4 (some .long)) (List.mem_cons_of_mem _ (wl_12 (List.mem_of_getElem? (i := 1) rfl)))) (Nat.le_of_ble_eq_true rfl) (Nat.le_of_ble_eq_true rfl) (Nat.le_of_ble_eq_true rfl) (Nat.le_of_ble_eq_true rfl) dX7_project_190 ?_
            rw [q_mmin_long (a := xPp + xI + xc9) (b := xI + xc9) (z := (min (xPp + xI + xc9) (xI + xc9))) (by omega) (by omega)]
            refine lv_lstore (lv' := [(16, .long (lI (min (xPp + xI + xc9) (xI + xc9)))), (14, .long (lI (xPp + xI + xc9))), (13, .int (iI 1)), (6, .long (lI (xI + xc9))), (8, .long (lI (xU + xX - (xc9 * ceE xcv)))), (11, .long (lI xc9)), (10, .int (iI i)), (4, .long (lI xPp)), (0, .ref h0), (1, .long (lI xy)), (3, .int (iI xn))]) hx hb dX7_project_193 hl (by decide) rfl (fun ls hl => ?_)
            refine lv_lload hx hb dX7_project_195 (lv_at hl 3 rfl) ?_
            refine lv_lload hx hb dX7_project_197 (lv_at hl 0 rfl) ?_
            refine q_lsub (z := xI + xc9 - (min (xPp + xI + xc9) (xI + xc9))) hx hb dX7_project_199 (by omega) ?_
            refine lv_lstore (lv' := [(6, .long (lI (xI + xc9 - (min (xPp + xI + xc9) (xI + xc9))))), (16, .long (lI (min (xPp + xI + xc9) (xI + xc9)))), (14, .long (lI (xPp + xI + xc9))), (13, .int (iI 1)), (8, .long (lI (xU + xX - (xc9 * ceE xcv)))), (11, .long (lI xc9)), (10, .int (iI i)), (4, .long (lI xPp)), (0, .ref h0), (1, .long (lI xy)), (3, .int (iI xn))]) hx hb dX7_project_200 hl (by decide) rfl (fun ls hl => ?_)
            refine lv_lload hx hb dX7_project_202 (lv_at hl 7 rfl) ?_
            refine lv_lload hx hb dX7_project_204 (lv_at hl 2 rfl) ?_
            refine lv_lload hx hb dX7_project_206 (lv_at hl 1 rfl) ?_
            refine q_lsub (z := xPp + xI + xc9 - (min (xPp + xI + xc9) (xI + xc9))) hx hb dX7_project_208 (by omega) ?_
            refine q_lsub (z := -xI - xc9 + (min (xPp + xI + xc9) (xI + xc9))) hx hb dX7_project_209 (by omega) ?_
            refine lv_lstore (lv' := [(4, .long (lI (-xI - xc9 + (min (xPp + xI + xc9) (xI + xc9))))), (6, .long (lI (xI + xc9 - (min (xPp + xI + xc9) (xI + xc9))))), (16, .long (lI (min (xPp + xI + xc9) (xI + xc9)))), (14, .long (lI (xPp + xI + xc9))), (13, .int (iI 1)), (8, .long (lI (xU + xX - (xc9 * ceE xcv)))), (11, .long (lI xc9)), (10, .int (iI i)), (0, .ref h0), (1, .long (lI xy)), (3, .int (iI xn))]) hx hb dX7_project_210 hl (by decide) rfl (fun ls hl => ?_)
            refine lv_aload_n hx hb dX7_project_212 rfl (lv_at hl 8 rfl) ?_
            refine lv_aload_n hx hb dX7_project_213 rfl (lv_at hl 8 rfl) ?_
            refine va_get (D := (dC, dI)) (ci := 8) (v := .ref xd1) (C := RX7) (T := TX7) (N := 15) hx hb hts (fun _ h => List.mem_cons_of_mem _ (inlX7 _ h)) hown hK hP 0 rfl rfl 8 (by decide) (hts (.fieldLink RX7 11 "LoanServicing$Projection" "dueDay" "[I") (List.mem_cons_of_mem _ (wl_4 (List.mem_of_getElem? (i := 9) rfl)))) (fun _ h9 => h9) rfl dX7_project_214 ?_
            refine lv_iload hx hb dX7_project_217 (lv_at hl 7 rfl) ?_
            refine q_iald (z := (xD i.toNat)) hx hb hK hP 1 0 rfl rfl (by omega) rfl dX7_project_219 ?_
            refine lv_lload hx hb dX7_project_220 (lv_at hl 3 rfl) ?_
            refine lv_lload hx hb dX7_project_222 (lv_at hl 2 rfl) ?_
            refine lv_lload hx hb dX7_project_224 (lv_at hl 0 rfl) ?_
            refine lv_lload hx hb dX7_project_226 (lv_at hl 1 rfl) ?_
            refine q_ladd (z := 0) hx hb dX7_project_228 (by omega) ?_
            refine kv (va_runV (As := [.int (iI (xD i.toNat)), .long (lI (xPp + xI + xc9)), .long (lI (min (xPp + xI + xc9) (xI + xc9))), .long (lI 0)]) (rest := []) hSF ((c_X7_keepPayment l dC dI k h0 xd1 xd2 xd3 xd4 xd5 xd6 xP xr xcv xn xz i (xD i.toNat) (xPp + xI + xc9) (min (xPp + xI + xc9) (xI + xc9)) 0 g1 g2 g3 g4 (by omega)) H.size) (cwV 4 hts gX7_project_X7_keepPayment rfl rfl rfl (by decide +kernel) ⟨Nat.le_of_ble_eq_true rfl, Nat.le_of_ble_eq_true rfl⟩) (preV hP hD hE hS hA [0, 3, 4, 5, 6] rfl (by decide) (ci := 8) (q0 := 0) rfl rfl) rfl rfl hl.1 rfl (lv_room (Nat.le_of_ble_eq_true rfl)) dX7_project_229 ⟨Nat.le_of_ble_eq_true rfl, Nat.le_of_ble_eq_true rfl⟩) hP hD hS hA [0, 3, 4, 5, 6] [1, 2] rfl (wr := [(xd1, .inl (k 0, 84, .inl (aI xD))), (xd2, .inl (k 0, 84, .inl (aI xC)))]) rfl (by decide) (by decide) (fun _ H locs hw hP hD hS => ?_)
            have hP : va_P (dC, dI) vwCl [(xd1, .inl (k 0, 84, .inl (aI xD))), (xd2, .inl (k 0, 84, .inl (aI xC))), (h0, .inr (8, [.long (lI xP), .long (lI 0), .long (lI 0), .int (iI xr), .int (iI xcv), .int (iI 0), .int (iI xz), .int (iI xn), .ref xd1, .ref xd2, .int (iI (i + 1)), .ref xd3, .ref xd4, .ref xd5, .ref xd6])), (xd3, .inl (k 0, 60, .inl (aI (upI g1 i.toNat (xD i.toNat))))), (xd4, .inl (k 1, 60, .inr (.inl (aL (upI g2 i.toNat (xPp + xI + xc9)))))), (xd5, .inl (k 1, 60, .inr (.inl (aL (upI g3 i.toNat (min (xPp + xI + xc9) (xI + xc9))))))), (xd6, .inl (k 1, 60, .inr (.inl (aL (upI g4 i.toNat 0)))))] H := hP
            have hD : va_D A [(xd1, .inl (k 0, 84, .inl (aI xD))), (xd2, .inl (k 0, 84, .inl (aI xC))), (h0, .inr (8, [.long (lI xP), .long (lI 0), .long (lI 0), .int (iI xr), .int (iI xcv), .int (iI 0), .int (iI xz), .int (iI xn), .ref xd1, .ref xd2, .int (iI (i + 1)), .ref xd3, .ref xd4, .ref xd5, .ref xd6])), (xd3, .inl (k 0, 60, .inl (aI (upI g1 i.toNat (xD i.toNat))))), (xd4, .inl (k 1, 60, .inr (.inl (aL (upI g2 i.toNat (xPp + xI + xc9)))))), (xd5, .inl (k 1, 60, .inr (.inl (aL (upI g3 i.toNat (min (xPp + xI + xc9) (xI + xc9))))))), (xd6, .inl (k 1, 60, .inr (.inl (aL (upI g4 i.toNat 0)))))] := hD
            refine lv_iload hx hb dX7_project_232 (lv_at hl 4 rfl) ?_
            refine q_if_eq (tgt := 240) hx hb dX7_project_234 (by decide) (by omega) (fun q => absurd q (by omega)) (fun _ => ?_)
            refine lv_goto (tgt := 246) hx hb dX7_project_237 (by decide) ?_
            rw [hQ]
            refine W.widen (k := 0) (n := 0) (Nat.le_of_ble_eq_true rfl) (Nat.le_of_ble_eq_true rfl) ?_
            exact W.vret hx hb hr (fun t ht hW => ⟨⟨(i + 1, (upI g1 i.toNat (xD i.toNat)), (upI g2 i.toNat (xPp + xI + xc9)), (upI g3 i.toNat (min (xPp + xI + xc9) (xI + xc9))), (upI g4 i.toNat 0)), rfl, ⟨by show 1 ≤ _ ∧ _; omega, by show (upI g2 i.toNat _) _ = _; rw [show (i + 1 - 1).toNat = i.toNat by omega, upI_s]; exact prj_last (c := xc9) hi.2 hpr (by rw [hxc9, hxX]) (by omega) (by omega)⟩, by rw [ht]; exact hP.sub [2, 0, 1, 3, 4, 5, 6] rfl, by rw [hAe]; exact hD.sub [2, 0, 1, 3, 4, 5, 6] (by decide) rfl⟩, hS.F ht⟩) hS.2.2 dX7_project_246
      · refine lv_aload_n hx hb dX7_project_111 rfl (lv_at hl 5 rfl) ?_
        refine va_get (D := (dC, dI)) (ci := 8) (v := .int (iI 0)) (C := RX7) (T := TX7) (N := 15) hx hb hts (fun _ h => List.mem_cons_of_mem _ (inlX7 _ h)) hown hK hP 0 rfl rfl 5 (by decide) (hts (.fieldLink RX7 70 "LoanServicing$Projection" "holidays" "I") (List.mem_cons_of_mem _ (wl_10 (List.mem_of_getElem? (i := 16) rfl)))) (fun _ h9 => h9) rfl dX7_project_112 ?_
        refine lv_iload hx hb dX7_project_115 (lv_at hl 3 rfl) ?_
        refine q_ishr0 hx hb dX7_project_117 ?_
        refine q_iconst hx hb dX7_project_118 ?_
        refine q_iand (z := 0) hx hb dX7_project_119 (by decide) ?_
        refine q_if_eq (tgt := 143) hx hb dX7_project_120 (by decide) (by omega) (fun _ => ?_) (fun q => absurd q (by omega))
        refine lv_aload_n hx hb dX7_project_143 rfl (lv_at hl 5 rfl) ?_
        refine va_get (D := (dC, dI)) (ci := 8) (v := .int (iI i)) (C := RX7) (T := TX7) (N := 15) hx hb hts (fun _ h => List.mem_cons_of_mem _ (inlX7 _ h)) hown hK hP 0 rfl rfl 10 (by decide) (hts (.fieldLink RX7 110 "LoanServicing$Projection" "payments" "I") (List.mem_cons_of_mem _ (wl_11 (List.mem_of_getElem? (i := 22) rfl)))) (fun _ h9 => h9) rfl dX7_project_144 ?_
        refine lv_iload_n hx hb dX7_project_147 rfl (lv_at hl 7 rfl) ?_
        refine q_iconst hx hb dX7_project_148 ?_
        refine q_isub (z := xn - 1) hx hb dX7_project_149 (by omega) ?_
        refine q_icmp_eq (tgt := 163) hx hb dX7_project_150 (by decide) (by omega) (fun c150 => ?_) (fun c150 => ?_)
        · refine q_iconst hx hb dX7_project_163 ?_
          refine lv_goto (tgt := 168) hx hb dX7_project_164 (by decide) ?_
          refine lv_istore (lv' := [(13, .int (iI 1)), (6, .long (lI (xI + xc9))), (8, .long (lI (xU + xX - (xc9 * ceE xcv)))), (11, .long (lI xc9)), (10, .int (iI i)), (4, .long (lI xPp)), (0, .ref h0), (1, .long (lI xy)), (3, .int (iI xn))]) hx hb dX7_project_168 hl (by decide) rfl (fun ls hl => ?_)
          refine lv_iload hx hb dX7_project_170 (lv_at hl 0 rfl) ?_
          refine q_if_eq (tgt := 183) hx hb dX7_project_172 (by decide) (by omega) (fun q => absurd q (by omega)) (fun _ => ?_)
          refine lv_lload hx hb dX7_project_175 (lv_at hl 5 rfl) ?_
          refine lv_lload hx hb dX7_project_177 (lv_at hl 1 rfl) ?_
          refine q_ladd (z := xPp + xI + xc9) hx hb dX7_project_179 (by omega) ?_
          refine lv_goto (tgt := 184) hx hb dX7_project_180 (by decide) ?_
          refine lv_lstore (lv' := [(14, .long (lI (xPp + xI + xc9))), (13, .int (iI 1)), (6, .long (lI (xI + xc9))), (8, .long (lI (xU + xX - (xc9 * ceE xcv)))), (11, .long (lI xc9)), (10, .int (iI i)), (4, .long (lI xPp)), (0, .ref h0), (1, .long (lI xy)), (3, .int (iI xn))]) hx hb dX7_project_184 hl (by decide) rfl (fun ls hl => ?_)
          refine lv_lload hx hb dX7_project_186 (lv_at hl 0 rfl) ?_
          refine lv_lload hx hb dX7_project_188 (lv_at hl 2 rfl) ?_
          refine va_mmin_long hx hb (hml.trans hl.1.symm) hown (hts (.methodLink RX7 122 Lib.MathLoose.min_long.x) (List.mem_cons_of_mem _ (wl_11 (List.mem_of_getElem? (i := 23) rfl)))) (hts (.static Lib.MathLoose.min_long.x) (List.mem_cons_of_mem _ (wl_12 (List.mem_of_getElem? (i := 0) rfl)))) (hts (.initialized "java/lang/Math") (List.mem_cons_of_mem _ (wl_6 (List.mem_of_getElem? (i := 22) rfl)))) (hts (.code Lib.MathLoose.min_long.x Lib.MathLoose.min_long.code 4 (some .long)) (List.mem_cons_of_mem _ (wl_12 (List.mem_of_getElem? (i := 1) rfl)))) (Nat.le_of_ble_eq_true rfl) (Nat.le_of_ble_eq_true rfl) (Nat.le_of_ble_eq_true rfl) (Nat.le_of_ble_eq_true rfl) dX7_project_190 ?_
          rw [q_mmin_long (a := xPp + xI + xc9) (b := xI + xc9) (z := (min (xPp + xI + xc9) (xI + xc9))) (by omega) (by omega)]
          refine lv_lstore (lv' := [(16, .long (lI (min (xPp + xI + xc9) (xI + xc9)))), (14, .long (lI (xPp + xI + xc9))), (13, .int (iI 1)), (6, .long (lI (xI + xc9))), (8, .long (lI (xU + xX - (xc9 * ceE xcv)))), (11, .long (lI xc9)), (10, .int (iI i)), (4, .long (lI xPp)), (0, .ref h0), (1, .long (lI xy)), (3, .int (iI xn))]) hx hb dX7_project_193 hl (by decide) rfl (fun ls hl => ?_)
          refine lv_lload hx hb dX7_project_195 (lv_at hl 3 rfl) ?_
          refine lv_lload hx hb dX7_project_197 (lv_at hl 0 rfl) ?_
          refine q_lsub (z := xI + xc9 - (min (xPp + xI + xc9) (xI + xc9))) hx hb dX7_project_199 (by omega) ?_
          refine lv_lstore (lv' := [(6, .long (lI (xI + xc9 - (min (xPp + xI + xc9) (xI + xc9))))), (16, .long (lI (min (xPp + xI + xc9) (xI + xc9)))), (14, .long (lI (xPp + xI + xc9))), (13, .int (iI 1)), (8, .long (lI (xU + xX - (xc9 * ceE xcv)))), (11, .long (lI xc9)), (10, .int (iI i)), (4, .long (lI xPp)), (0, .ref h0), (1, .long (lI xy)), (3, .int (iI xn))]) hx hb dX7_project_200 hl (by decide) rfl (fun ls hl => ?_)
          refine lv_lload hx hb dX7_project_202 (lv_at hl 7 rfl) ?_
          refine lv_lload hx hb dX7_project_204 (lv_at hl 2 rfl) ?_
          refine lv_lload hx hb dX7_project_206 (lv_at hl 1 rfl) ?_
          refine q_lsub (z := xPp + xI + xc9 - (min (xPp + xI + xc9) (xI + xc9))) hx hb dX7_project_208 (by omega) ?_
          refine q_lsub (z := -xI - xc9 + (min (xPp + xI + xc9) (xI + xc9))) hx hb dX7_project_209 (by omega) ?_
          refine lv_lstore (lv' := [(4, .long (lI (-xI - xc9 + (min (xPp + xI + xc9) (xI + xc9))))), (6, .long (lI (xI + xc9 - (min (xPp + xI + xc9) (xI + xc9))))), (16, .long (lI (min (xPp + xI + xc9) (xI + xc9)))), (14, .long (lI (xPp + xI + xc9))), (13, .int (iI 1)), (8, .long (lI (xU + xX - (xc9 * ceE xcv)))), (11, .long (lI xc9)), (10, .int (iI i)), (0, .ref h0), (1, .long (lI xy)), (3, .int (iI xn))]) hx hb dX7_project_210 hl (by decide) rfl (fun ls hl => ?_)
          refine lv_aload_n hx hb dX7_project_212 rfl (lv_at hl 8 rfl) ?_
          refine lv_aload_n hx hb dX7_project_213 rfl (lv_at hl 8 rfl) ?_
          refine va_get (D := (dC, dI)) (ci := 8) (v := .ref xd1) (C := RX7) (T := TX7) (N := 15) hx hb hts (fun _ h => List.mem_cons_of_mem _ (inlX7 _ h)) hown hK hP 0 rfl rfl 8 (by decide) (hts (.fieldLink RX7 11 "LoanServicing$Projection" "dueDay" "[I") (List.mem_cons_of_mem _ (wl_4 (List.mem_of_getElem? (i := 9) rfl)))) (fun _ h9 => h9) rfl dX7_project_214 ?_
          refine lv_iload hx hb dX7_project_217 (lv_at hl 7 rfl) ?_
          refine q_iald (z := (xD i.toNat)) hx hb hK hP 1 0 rfl rfl (by omega) rfl dX7_project_219 ?_
          refine lv_lload hx hb dX7_project_220 (lv_at hl 3 rfl) ?_
          refine lv_lload hx hb dX7_project_222 (lv_at hl 2 rfl) ?_
          refine lv_lload hx hb dX7_project_224 (lv_at hl 0 rfl) ?_
          refine lv_lload hx hb dX7_project_226 (lv_at hl 1 rfl) ?_
          refine q_ladd (z := 0) hx hb dX7_project_228 (by omega) ?_
          refine kv (va_runV (As := [.int (iI (xD i.toNat)), .long (lI (xPp + xI + xc9)), .long (lI (min (xPp + xI + xc9) (xI + xc9))), .long (lI 0)]) (rest := []) hSF ((c_X7_keepPayment l dC dI k h0 xd1 xd2 xd3 xd4 xd5 xd6 xP xr xcv xn xz i (xD i.toNat) (xPp + xI + xc9) (min (xPp + xI + xc9) (xI + xc9)) 0 g1 g2 g3 g4 (by omega)) H.size) (cwV 4 hts gX7_project_X7_keepPayment rfl rfl rfl (by decide +kernel) ⟨Nat.le_of_ble_eq_true rfl, Nat.le_of_ble_eq_true rfl⟩) (preV hP hD hE hS hA [0, 3, 4, 5, 6] rfl (by decide) (ci := 8) (q0 := 0) rfl rfl) rfl rfl hl.1 rfl (lv_room (Nat.le_of_ble_eq_true rfl)) dX7_project_229 ⟨Nat.le_of_ble_eq_true rfl, Nat.le_of_ble_eq_true rfl⟩) hP hD hS hA [0, 3, 4, 5, 6] [1, 2] rfl (wr := [(xd1, .inl (k 0, 84, .inl (aI xD))), (xd2, .inl (k 0, 84, .inl (aI xC)))]) rfl (by decide) (by decide) (fun _ H locs hw hP hD hS => ?_)
          have hP : va_P (dC, dI) vwCl [(xd1, .inl (k 0, 84, .inl (aI xD))), (xd2, .inl (k 0, 84, .inl (aI xC))), (h0, .inr (8, [.long (lI xP), .long (lI 0), .long (lI 0), .int (iI xr), .int (iI xcv), .int (iI 0), .int (iI xz), .int (iI xn), .ref xd1, .ref xd2, .int (iI (i + 1)), .ref xd3, .ref xd4, .ref xd5, .ref xd6])), (xd3, .inl (k 0, 60, .inl (aI (upI g1 i.toNat (xD i.toNat))))), (xd4, .inl (k 1, 60, .inr (.inl (aL (upI g2 i.toNat (xPp + xI + xc9)))))), (xd5, .inl (k 1, 60, .inr (.inl (aL (upI g3 i.toNat (min (xPp + xI + xc9) (xI + xc9))))))), (xd6, .inl (k 1, 60, .inr (.inl (aL (upI g4 i.toNat 0)))))] H := hP
          have hD : va_D A [(xd1, .inl (k 0, 84, .inl (aI xD))), (xd2, .inl (k 0, 84, .inl (aI xC))), (h0, .inr (8, [.long (lI xP), .long (lI 0), .long (lI 0), .int (iI xr), .int (iI xcv), .int (iI 0), .int (iI xz), .int (iI xn), .ref xd1, .ref xd2, .int (iI (i + 1)), .ref xd3, .ref xd4, .ref xd5, .ref xd6])), (xd3, .inl (k 0, 60, .inl (aI (upI g1 i.toNat (xD i.toNat))))), (xd4, .inl (k 1, 60, .inr (.inl (aL (upI g2 i.toNat (xPp + xI + xc9)))))), (xd5, .inl (k 1, 60, .inr (.inl (aL (upI g3 i.toNat (min (xPp + xI + xc9) (xI + xc9))))))), (xd6, .inl (k 1, 60, .inr (.inl (aL (upI g4 i.toNat 0)))))] := hD
          refine lv_iload hx hb dX7_project_232 (lv_at hl 4 rfl) ?_
          refine q_if_eq (tgt := 240) hx hb dX7_project_234 (by decide) (by omega) (fun q => absurd q (by omega)) (fun _ => ?_)
          refine lv_goto (tgt := 246) hx hb dX7_project_237 (by decide) ?_
          rw [hQ]
          refine W.widen (k := 0) (n := 0) (Nat.le_of_ble_eq_true rfl) (Nat.le_of_ble_eq_true rfl) ?_
          exact W.vret hx hb hr (fun t ht hW => ⟨⟨(i + 1, (upI g1 i.toNat (xD i.toNat)), (upI g2 i.toNat (xPp + xI + xc9)), (upI g3 i.toNat (min (xPp + xI + xc9) (xI + xc9))), (upI g4 i.toNat 0)), rfl, ⟨by show 1 ≤ _ ∧ _; omega, by show (upI g2 i.toNat _) _ = _; rw [show (i + 1 - 1).toNat = i.toNat by omega, upI_s]; exact prj_last (c := xc9) hi.2 hpr (by rw [hxc9, hxX]) (by omega) (by omega)⟩, by rw [ht]; exact hP.sub [2, 0, 1, 3, 4, 5, 6] rfl, by rw [hAe]; exact hD.sub [2, 0, 1, 3, 4, 5, 6] (by decide) rfl⟩, hS.F ht⟩) hS.2.2 dX7_project_246
        · refine lv_lload_n hx hb dX7_project_153 rfl (lv_at hl 6 rfl) ?_
          refine lv_lload hx hb dX7_project_154 (lv_at hl 4 rfl) ?_
          refine lv_lload hx hb dX7_project_156 (lv_at hl 0 rfl) ?_
          refine q_ladd (z := xPp + xI + xc9) hx hb dX7_project_158 (by omega) ?_
          refine q_lcmp hx hb dX7_project_159 ?_
          refine q_lif_lt (tgt := 167) hx hb dX7_project_160 (by decide) (by omega) (fun c160 => ?_) (fun c160 => ?_)
          · refine q_iconst hx hb dX7_project_167 ?_
            refine lv_istore (lv' := [(13, .int (iI 0)), (6, .long (lI (xI + xc9))), (8, .long (lI (xU + xX - (xc9 * ceE xcv)))), (11, .long (lI xc9)), (10, .int (iI i)), (4, .long (lI xPp)), (0, .ref h0), (1, .long (lI xy)), (3, .int (iI xn))]) hx hb dX7_project_168 hl (by decide) rfl (fun ls hl => ?_)
            refine lv_iload hx hb dX7_project_170 (lv_at hl 0 rfl) ?_
            refine q_if_eq (tgt := 183) hx hb dX7_project_172 (by decide) (by omega) (fun _ => ?_) (fun q => absurd q (by omega))
            refine lv_lload_n hx hb dX7_project_183 rfl (lv_at hl 7 rfl) ?_
            refine lv_lstore (lv' := [(14, .long (lI xy)), (13, .int (iI 0)), (6, .long (lI (xI + xc9))), (8, .long (lI (xU + xX - (xc9 * ceE xcv)))), (11, .long (lI xc9)), (10, .int (iI i)), (4, .long (lI xPp)), (0, .ref h0), (1, .long (lI xy)), (3, .int (iI xn))]) hx hb dX7_project_184 hl (by decide) rfl (fun ls hl => ?_)
            refine lv_lload hx hb dX7_project_186 (lv_at hl 0 rfl) ?_
            refine lv_lload hx hb dX7_project_188 (lv_at hl 2 rfl) ?_
            refine va_mmin_long hx hb (hml.trans hl.1.symm) hown (hts (.methodLink RX7 122 Lib.MathLoose.min_long.x) (List.mem_cons_of_mem _ (wl_11 (List.mem_of_getElem? (i := 23) rfl)))) (hts (.static Lib.MathLoose.min_long.x) (List.mem_cons_of_mem _ (wl_12 (List.mem_of_getElem? (i := 0) rfl)))) (hts (.initialized "java/lang/Math") (List.mem_cons_of_mem _ (wl_6 (List.mem_of_getElem? (i := 22) rfl)))) (hts (.code Lib.MathLoose.min_long.x Lib.MathLoose.min_long.code 4 (some .long)) (List.mem_cons_of_mem _ (wl_12 (List.mem_of_getElem? (i := 1) rfl)))) (Nat.le_of_ble_eq_true rfl) (Nat.le_of_ble_eq_true rfl) (Nat.le_of_ble_eq_true rfl) (Nat.le_of_ble_eq_true rfl) dX7_project_190 ?_
            rw [q_mmin_long (a := xy) (b := xI + xc9) (z := (min xy (xI + xc9))) (by omega) (by omega)]
            refine lv_lstore (lv' := [(16, .long (lI (min xy (xI + xc9)))), (14, .long (lI xy)), (13, .int (iI 0)), (6, .long (lI (xI + xc9))), (8, .long (lI (xU + xX - (xc9 * ceE xcv)))), (11, .long (lI xc9)), (10, .int (iI i)), (4, .long (lI xPp)), (0, .ref h0), (1, .long (lI xy)), (3, .int (iI xn))]) hx hb dX7_project_193 hl (by decide) rfl (fun ls hl => ?_)
            refine lv_lload hx hb dX7_project_195 (lv_at hl 3 rfl) ?_
            refine lv_lload hx hb dX7_project_197 (lv_at hl 0 rfl) ?_
            refine q_lsub (z := xI + xc9 - (min xy (xI + xc9))) hx hb dX7_project_199 (by omega) ?_
            refine lv_lstore (lv' := [(6, .long (lI (xI + xc9 - (min xy (xI + xc9))))), (16, .long (lI (min xy (xI + xc9)))), (14, .long (lI xy)), (13, .int (iI 0)), (8, .long (lI (xU + xX - (xc9 * ceE xcv)))), (11, .long (lI xc9)), (10, .int (iI i)), (4, .long (lI xPp)), (0, .ref h0), (1, .long (lI xy)), (3, .int (iI xn))]) hx hb dX7_project_200 hl (by decide) rfl (fun ls hl => ?_)
            refine lv_lload hx hb dX7_project_202 (lv_at hl 7 rfl) ?_
            refine lv_lload hx hb dX7_project_204 (lv_at hl 2 rfl) ?_
            refine lv_lload hx hb dX7_project_206 (lv_at hl 1 rfl) ?_
            refine q_lsub (z := xy - (min xy (xI + xc9))) hx hb dX7_project_208 (by omega) ?_
            refine q_lsub (z := xPp - xy + (min xy (xI + xc9))) hx hb dX7_project_209 (by omega) ?_
            refine lv_lstore (lv' := [(4, .long (lI (xPp - xy + (min xy (xI + xc9))))), (6, .long (lI (xI + xc9 - (min xy (xI + xc9))))), (16, .long (lI (min xy (xI + xc9)))), (14, .long (lI xy)), (13, .int (iI 0)), (8, .long (lI (xU + xX - (xc9 * ceE xcv)))), (11, .long (lI xc9)), (10, .int (iI i)), (0, .ref h0), (1, .long (lI xy)), (3, .int (iI xn))]) hx hb dX7_project_210 hl (by decide) rfl (fun ls hl => ?_)
            refine lv_aload_n hx hb dX7_project_212 rfl (lv_at hl 8 rfl) ?_
            refine lv_aload_n hx hb dX7_project_213 rfl (lv_at hl 8 rfl) ?_
            refine va_get (D := (dC, dI)) (ci := 8) (v := .ref xd1) (C := RX7) (T := TX7) (N := 15) hx hb hts (fun _ h => List.mem_cons_of_mem _ (inlX7 _ h)) hown hK hP 0 rfl rfl 8 (by decide) (hts (.fieldLink RX7 11 "LoanServicing$Projection" "dueDay" "[I") (List.mem_cons_of_mem _ (wl_4 (List.mem_of_getElem? (i := 9) rfl)))) (fun _ h9 => h9) rfl dX7_project_214 ?_
            refine lv_iload hx hb dX7_project_217 (lv_at hl 7 rfl) ?_
            refine q_iald (z := (xD i.toNat)) hx hb hK hP 1 0 rfl rfl (by omega) rfl dX7_project_219 ?_
            refine lv_lload hx hb dX7_project_220 (lv_at hl 3 rfl) ?_
            refine lv_lload hx hb dX7_project_222 (lv_at hl 2 rfl) ?_
            refine lv_lload hx hb dX7_project_224 (lv_at hl 0 rfl) ?_
            refine lv_lload hx hb dX7_project_226 (lv_at hl 1 rfl) ?_
            refine q_ladd (z := xPp - xy + xI + xc9) hx hb dX7_project_228 (by omega) ?_
            refine kv (va_runV (As := [.int (iI (xD i.toNat)), .long (lI xy), .long (lI (min xy (xI + xc9))), .long (lI (xPp - xy + xI + xc9))]) (rest := []) hSF ((c_X7_keepPayment l dC dI k h0 xd1 xd2 xd3 xd4 xd5 xd6 xP xr xcv xn xz i (xD i.toNat) xy (min xy (xI + xc9)) (xPp - xy + xI + xc9) g1 g2 g3 g4 (by omega)) H.size) (cwV 4 hts gX7_project_X7_keepPayment rfl rfl rfl (by decide +kernel) ⟨Nat.le_of_ble_eq_true rfl, Nat.le_of_ble_eq_true rfl⟩) (preV hP hD hE hS hA [0, 3, 4, 5, 6] rfl (by decide) (ci := 8) (q0 := 0) rfl rfl) rfl rfl hl.1 rfl (lv_room (Nat.le_of_ble_eq_true rfl)) dX7_project_229 ⟨Nat.le_of_ble_eq_true rfl, Nat.le_of_ble_eq_true rfl⟩) hP hD hS hA [0, 3, 4, 5, 6] [1, 2] rfl (wr := [(xd1, .inl (k 0, 84, .inl (aI xD))), (xd2, .inl (k 0, 84, .inl (aI xC)))]) rfl (by decide) (by decide) (fun _ H locs hw hP hD hS => ?_)
            have hP : va_P (dC, dI) vwCl [(xd1, .inl (k 0, 84, .inl (aI xD))), (xd2, .inl (k 0, 84, .inl (aI xC))), (h0, .inr (8, [.long (lI xP), .long (lI 0), .long (lI 0), .int (iI xr), .int (iI xcv), .int (iI 0), .int (iI xz), .int (iI xn), .ref xd1, .ref xd2, .int (iI (i + 1)), .ref xd3, .ref xd4, .ref xd5, .ref xd6])), (xd3, .inl (k 0, 60, .inl (aI (upI g1 i.toNat (xD i.toNat))))), (xd4, .inl (k 1, 60, .inr (.inl (aL (upI g2 i.toNat xy))))), (xd5, .inl (k 1, 60, .inr (.inl (aL (upI g3 i.toNat (min xy (xI + xc9))))))), (xd6, .inl (k 1, 60, .inr (.inl (aL (upI g4 i.toNat (xPp - xy + xI + xc9))))))] H := hP
            have hD : va_D A [(xd1, .inl (k 0, 84, .inl (aI xD))), (xd2, .inl (k 0, 84, .inl (aI xC))), (h0, .inr (8, [.long (lI xP), .long (lI 0), .long (lI 0), .int (iI xr), .int (iI xcv), .int (iI 0), .int (iI xz), .int (iI xn), .ref xd1, .ref xd2, .int (iI (i + 1)), .ref xd3, .ref xd4, .ref xd5, .ref xd6])), (xd3, .inl (k 0, 60, .inl (aI (upI g1 i.toNat (xD i.toNat))))), (xd4, .inl (k 1, 60, .inr (.inl (aL (upI g2 i.toNat xy))))), (xd5, .inl (k 1, 60, .inr (.inl (aL (upI g3 i.toNat (min xy (xI + xc9))))))), (xd6, .inl (k 1, 60, .inr (.inl (aL (upI g4 i.toNat (xPp - xy + xI + xc9))))))] := hD
            refine lv_iload hx hb dX7_project_232 (lv_at hl 4 rfl) ?_
            refine q_if_eq (tgt := 240) hx hb dX7_project_234 (by decide) (by omega) (fun _ => ?_) (fun q => absurd q (by omega))
            refine lv_iinc (v := iI (i + 1)) (lv' := [(10, .int (iI (i + 1))), (4, .long (lI (xPp - xy + (min xy (xI + xc9))))), (6, .long (lI (xI + xc9 - (min xy (xI + xc9))))), (16, .long (lI (min xy (xI + xc9)))), (14, .long (lI xy)), (13, .int (iI 0)), (8, .long (lI (xU + xX - (xc9 * ceE xcv)))), (11, .long (lI xc9)), (0, .ref h0), (1, .long (lI xy)), (3, .int (iI xn))]) hx hb dX7_project_240 hl (k := 7) rfl (by show iI _ + iI _ = _; rw [iI_add]; try (first | rfl | (congr 1; omega))) (by decide) rfl (fun ls hl => ?_)
            refine lv_goto (tgt := 26) hx hb dX7_project_243 (by decide) ?_
            exact ih_26 (i + 1) (xPp - xy + (min xy (xI + xc9))) (xI + xc9 - (min xy (xI + xc9))) (xU + xX - (xc9 * ceE xcv)) ((upI g1 i.toNat (xD i.toNat))) ((upI g2 i.toNat xy)) ((upI g3 i.toNat (min xy (xI + xc9)))) ((upI g4 i.toNat (xPp - xy + xI + xc9))) (by omega) (by omega) (okp_next (y := xy) (c := xc9) (by omega) hr9 hc9 ⟨hi.1, hi.2, hn9.2⟩ hok (by rw [hxc9, hxX]) (by omega) (by omega) (by omega) (by omega)) (prj_next (c := xc9) hi.2 hpr (by rw [hxc9, hxX]) (by omega) (by omega) (by omega) (by omega)) _ _ (hP.sub [2, 0, 1, 3, 4, 5, 6] rfl) (hD.sub [2, 0, 1, 3, 4, 5, 6] (by decide) rfl) hS ls (lv_sub hl [0, 6, 2, 1, 8, 9, 10] rfl)
          · refine q_iconst hx hb dX7_project_163 ?_
            refine lv_goto (tgt := 168) hx hb dX7_project_164 (by decide) ?_
            refine lv_istore (lv' := [(13, .int (iI 1)), (6, .long (lI (xI + xc9))), (8, .long (lI (xU + xX - (xc9 * ceE xcv)))), (11, .long (lI xc9)), (10, .int (iI i)), (4, .long (lI xPp)), (0, .ref h0), (1, .long (lI xy)), (3, .int (iI xn))]) hx hb dX7_project_168 hl (by decide) rfl (fun ls hl => ?_)
            refine lv_iload hx hb dX7_project_170 (lv_at hl 0 rfl) ?_
            refine q_if_eq (tgt := 183) hx hb dX7_project_172 (by decide) (by omega) (fun q => absurd q (by omega)) (fun _ => ?_)
            refine lv_lload hx hb dX7_project_175 (lv_at hl 5 rfl) ?_
            refine lv_lload hx hb dX7_project_177 (lv_at hl 1 rfl) ?_
            refine q_ladd (z := xPp + xI + xc9) hx hb dX7_project_179 (by omega) ?_
            refine lv_goto (tgt := 184) hx hb dX7_project_180 (by decide) ?_
            refine lv_lstore (lv' := [(14, .long (lI (xPp + xI + xc9))), (13, .int (iI 1)), (6, .long (lI (xI + xc9))), (8, .long (lI (xU + xX - (xc9 * ceE xcv)))), (11, .long (lI xc9)), (10, .int (iI i)), (4, .long (lI xPp)), (0, .ref h0), (1, .long (lI xy)), (3, .int (iI xn))]) hx hb dX7_project_184 hl (by decide) rfl (fun ls hl => ?_)
            refine lv_lload hx hb dX7_project_186 (lv_at hl 0 rfl) ?_
            refine lv_lload hx hb dX7_project_188 (lv_at hl 2 rfl) ?_
            refine va_mmin_long hx hb (hml.trans hl.1.symm) hown (hts (.methodLink RX7 122 Lib.MathLoose.min_long.x) (List.mem_cons_of_mem _ (wl_11 (List.mem_of_getElem? (i := 23) rfl)))) (hts (.static Lib.MathLoose.min_long.x) (List.mem_cons_of_mem _ (wl_12 (List.mem_of_getElem? (i := 0) rfl)))) (hts (.initialized "java/lang/Math") (List.mem_cons_of_mem _ (wl_6 (List.mem_of_getElem? (i := 22) rfl)))) (hts (.code Lib.MathLoose.min_long.x Lib.MathLoose.min_long.code 4 (some .long)) (List.mem_cons_of_mem _ (wl_12 (List.mem_of_getElem? (i := 1) rfl)))) (Nat.le_of_ble_eq_true rfl) (Nat.le_of_ble_eq_true rfl) (Nat.le_of_ble_eq_true rfl) (Nat.le_of_ble_eq_true rfl) dX7_project_190 ?_
            rw [q_mmin_long (a := xPp + xI + xc9) (b := xI + xc9) (z := (min (xPp + xI + xc9) (xI + xc9))) (by omega) (by omega)]
            refine lv_lstore (lv' := [(16, .long (lI (min (xPp + xI + xc9) (xI + xc9)))), (14, .long (lI (xPp + xI + xc9))), (13, .int (iI 1)), (6, .long (lI (xI + xc9))), (8, .long (lI (xU + xX - (xc9 * ceE xcv)))), (11, .long (lI xc9)), (10, .int (iI i)), (4, .long (lI xPp)), (0, .ref h0), (1, .long (lI xy)), (3, .int (iI xn))]) hx hb dX7_project_193 hl (by decide) rfl (fun ls hl => ?_)
            refine lv_lload hx hb dX7_project_195 (lv_at hl 3 rfl) ?_
            refine lv_lload hx hb dX7_project_197 (lv_at hl 0 rfl) ?_
            refine q_lsub (z := xI + xc9 - (min (xPp + xI + xc9) (xI + xc9))) hx hb dX7_project_199 (by omega) ?_
            refine lv_lstore (lv' := [(6, .long (lI (xI + xc9 - (min (xPp + xI + xc9) (xI + xc9))))), (16, .long (lI (min (xPp + xI + xc9) (xI + xc9)))), (14, .long (lI (xPp + xI + xc9))), (13, .int (iI 1)), (8, .long (lI (xU + xX - (xc9 * ceE xcv)))), (11, .long (lI xc9)), (10, .int (iI i)), (4, .long (lI xPp)), (0, .ref h0), (1, .long (lI xy)), (3, .int (iI xn))]) hx hb dX7_project_200 hl (by decide) rfl (fun ls hl => ?_)
            refine lv_lload hx hb dX7_project_202 (lv_at hl 7 rfl) ?_
            refine lv_lload hx hb dX7_project_204 (lv_at hl 2 rfl) ?_
            refine lv_lload hx hb dX7_project_206 (lv_at hl 1 rfl) ?_
            refine q_lsub (z := xPp + xI + xc9 - (min (xPp + xI + xc9) (xI + xc9))) hx hb dX7_project_208 (by omega) ?_
            refine q_lsub (z := -xI - xc9 + (min (xPp + xI + xc9) (xI + xc9))) hx hb dX7_project_209 (by omega) ?_
            refine lv_lstore (lv' := [(4, .long (lI (-xI - xc9 + (min (xPp + xI + xc9) (xI + xc9))))), (6, .long (lI (xI + xc9 - (min (xPp + xI + xc9) (xI + xc9))))), (16, .long (lI (min (xPp + xI + xc9) (xI + xc9)))), (14, .long (lI (xPp + xI + xc9))), (13, .int (iI 1)), (8, .long (lI (xU + xX - (xc9 * ceE xcv)))), (11, .long (lI xc9)), (10, .int (iI i)), (0, .ref h0), (1, .long (lI xy)), (3, .int (iI xn))]) hx hb dX7_project_210 hl (by decide) rfl (fun ls hl => ?_)
            refine lv_aload_n hx hb dX7_project_212 rfl (lv_at hl 8 rfl) ?_
            refine lv_aload_n hx hb dX7_project_213 rfl (lv_at hl 8 rfl) ?_
            refine va_get (D := (dC, dI)) (ci := 8) (v := .ref xd1) (C := RX7) (T := TX7) (N := 15) hx hb hts (fun _ h => List.mem_cons_of_mem _ (inlX7 _ h)) hown hK hP 0 rfl rfl 8 (by decide) (hts (.fieldLink RX7 11 "LoanServicing$Projection" "dueDay" "[I") (List.mem_cons_of_mem _ (wl_4 (List.mem_of_getElem? (i := 9) rfl)))) (fun _ h9 => h9) rfl dX7_project_214 ?_
            refine lv_iload hx hb dX7_project_217 (lv_at hl 7 rfl) ?_
            refine q_iald (z := (xD i.toNat)) hx hb hK hP 1 0 rfl rfl (by omega) rfl dX7_project_219 ?_
            refine lv_lload hx hb dX7_project_220 (lv_at hl 3 rfl) ?_
            refine lv_lload hx hb dX7_project_222 (lv_at hl 2 rfl) ?_
            refine lv_lload hx hb dX7_project_224 (lv_at hl 0 rfl) ?_
            refine lv_lload hx hb dX7_project_226 (lv_at hl 1 rfl) ?_
            refine q_ladd (z := 0) hx hb dX7_project_228 (by omega) ?_
            refine kv (va_runV (As := [.int (iI (xD i.toNat)), .long (lI (xPp + xI + xc9)), .long (lI (min (xPp + xI + xc9) (xI + xc9))), .long (lI 0)]) (rest := []) hSF ((c_X7_keepPayment l dC dI k h0 xd1 xd2 xd3 xd4 xd5 xd6 xP xr xcv xn xz i (xD i.toNat) (xPp + xI + xc9) (min (xPp + xI + xc9) (xI + xc9)) 0 g1 g2 g3 g4 (by omega)) H.size) (cwV 4 hts gX7_project_X7_keepPayment rfl rfl rfl (by decide +kernel) ⟨Nat.le_of_ble_eq_true rfl, Nat.le_of_ble_eq_true rfl⟩) (preV hP hD hE hS hA [0, 3, 4, 5, 6] rfl (by decide) (ci := 8) (q0 := 0) rfl rfl) rfl rfl hl.1 rfl (lv_room (Nat.le_of_ble_eq_true rfl)) dX7_project_229 ⟨Nat.le_of_ble_eq_true rfl, Nat.le_of_ble_eq_true rfl⟩) hP hD hS hA [0, 3, 4, 5, 6] [1, 2] rfl (wr := [(xd1, .inl (k 0, 84, .inl (aI xD))), (xd2, .inl (k 0, 84, .inl (aI xC)))]) rfl (by decide) (by decide) (fun _ H locs hw hP hD hS => ?_)
            have hP : va_P (dC, dI) vwCl [(xd1, .inl (k 0, 84, .inl (aI xD))), (xd2, .inl (k 0, 84, .inl (aI xC))), (h0, .inr (8, [.long (lI xP), .long (lI 0), .long (lI 0), .int (iI xr), .int (iI xcv), .int (iI 0), .int (iI xz), .int (iI xn), .ref xd1, .ref xd2, .int (iI (i + 1)), .ref xd3, .ref xd4, .ref xd5, .ref xd6])), (xd3, .inl (k 0, 60, .inl (aI (upI g1 i.toNat (xD i.toNat))))), (xd4, .inl (k 1, 60, .inr (.inl (aL (upI g2 i.toNat (xPp + xI + xc9)))))), (xd5, .inl (k 1, 60, .inr (.inl (aL (upI g3 i.toNat (min (xPp + xI + xc9) (xI + xc9))))))), (xd6, .inl (k 1, 60, .inr (.inl (aL (upI g4 i.toNat 0)))))] H := hP
            have hD : va_D A [(xd1, .inl (k 0, 84, .inl (aI xD))), (xd2, .inl (k 0, 84, .inl (aI xC))), (h0, .inr (8, [.long (lI xP), .long (lI 0), .long (lI 0), .int (iI xr), .int (iI xcv), .int (iI 0), .int (iI xz), .int (iI xn), .ref xd1, .ref xd2, .int (iI (i + 1)), .ref xd3, .ref xd4, .ref xd5, .ref xd6])), (xd3, .inl (k 0, 60, .inl (aI (upI g1 i.toNat (xD i.toNat))))), (xd4, .inl (k 1, 60, .inr (.inl (aL (upI g2 i.toNat (xPp + xI + xc9)))))), (xd5, .inl (k 1, 60, .inr (.inl (aL (upI g3 i.toNat (min (xPp + xI + xc9) (xI + xc9))))))), (xd6, .inl (k 1, 60, .inr (.inl (aL (upI g4 i.toNat 0)))))] := hD
            refine lv_iload hx hb dX7_project_232 (lv_at hl 4 rfl) ?_
            refine q_if_eq (tgt := 240) hx hb dX7_project_234 (by decide) (by omega) (fun q => absurd q (by omega)) (fun _ => ?_)
            refine lv_goto (tgt := 246) hx hb dX7_project_237 (by decide) ?_
            rw [hQ]
            refine W.widen (k := 0) (n := 0) (Nat.le_of_ble_eq_true rfl) (Nat.le_of_ble_eq_true rfl) ?_
            exact W.vret hx hb hr (fun t ht hW => ⟨⟨(i + 1, (upI g1 i.toNat (xD i.toNat)), (upI g2 i.toNat (xPp + xI + xc9)), (upI g3 i.toNat (min (xPp + xI + xc9) (xI + xc9))), (upI g4 i.toNat 0)), rfl, ⟨by show 1 ≤ _ ∧ _; omega, by show (upI g2 i.toNat _) _ = _; rw [show (i + 1 - 1).toNat = i.toNat by omega, upI_s]; exact prj_last (c := xc9) hi.2 hpr (by rw [hxc9, hxX]) (by omega) (by omega)⟩, by rw [ht]; exact hP.sub [2, 0, 1, 3, 4, 5, 6] rfl, by rw [hAe]; exact hD.sub [2, 0, 1, 3, 4, 5, 6] (by decide) rfl⟩, hS.F ht⟩) hS.2.2 dX7_project_246
  exact LOOP_26 (xn.toNat + 1) (0) (xP) (0) (0) (xf1) (xf2) (xf3) (xf4) (by omega) (by omega) (by unfold Okp; omega) (by rw [show xn - 0 = xn by omega]; rfl) _ _ (hP.sub [0, 1, 2, 3, 4, 5, 6] rfl) (hD.sub [0, 1, 2, 3, 4, 5, 6] (by decide) rfl) hS ls (lv_sub hl [0, 1, 2, 3, 4, 5, 6] rfl)
set_option maxHeartbeats 4000000 in
set_option maxRecDepth 100000 in
/-- leastInstallment -/
theorem c_X7_leastInstallment (l : Launch) (dC : Nat → ClassId) (dI : Nat → Nat → Nat) (k : Nat → ClassId) (h0 xd1 xd2 xd3 xd4 xd5 xd6 : Nat) (xP xr xcv xn xz xp0 : Int) (xD xC xf1 xf2 xf3 xf4 : Nat → Int) (hq9 : 1 ≤ xP ∧ xP ≤ 10000000) (hr9 : 0 ≤ xr ∧ xr ≤ 2000) (hc9 : 0 ≤ xcv ∧ xcv ≤ 2) (hn9 : 1 ≤ xn ∧ xn ≤ 60) (hC : ∀ j : Int, 0 ≤ j → j < xn → xC j.toNat = cK xcv j) (sz : Nat) : Met l yX7_leastInstallment woX7_leastInstallment ({ frames := 3, cells := 0, slots := 0, locals := 84 } : Room) (PcW (dC, dI) k [.ref h0, .int (iI xn)] [(h0, .inr (8, [.long (lI xP), .long (lI 0), .long (lI 0), .int (iI xr), .int (iI xcv), .int (iI 0), .int (iI xz), .int (iI xn), .ref xd1, .ref xd2, .int (iI xp0), .ref xd3, .ref xd4, .ref xd5, .ref xd6])), (xd1, .inl (k 0, 84, .inl (aI xD))), (xd2, .inl (k 0, 84, .inl (aI xC))), (xd3, .inl (k 0, 60, .inl (aI xf1))), (xd4, .inl (k 1, 60, .inr (.inl (aL xf2)))), (xd5, .inl (k 1, 60, .inr (.inl (aL xf3)))), (xd6, .inl (k 1, 60, .inr (.inl (aL xf4))))] sz) (va_Ql (fun (r : Int64) (u : Int) => r = lI u ∧ Lst xP xr xcv xn u) (QB (dC, dI) [(h0, .inr (8, [.long (lI xP), .long (lI 0), .long (lI 0), .int (iI xr), .int (iI xcv), .int (iI 0), .int (iI xz), .int (iI xn), .ref xd1, .ref xd2, .int (iI xp0), .ref xd3, .ref xd4, .ref xd5, .ref xd6])), (xd1, .inl (k 0, 84, .inl (aI xD))), (xd2, .inl (k 0, 84, .inl (aI xC))), (xd3, .inl (k 0, 60, .inl (aI xf1))), (xd4, .inl (k 1, 60, .inr (.inl (aL xf2)))), (xd5, .inl (k 1, 60, .inr (.inl (aL xf3)))), (xd6, .inl (k 1, 60, .inr (.inl (aL xf4))))] (fun _ => []) sz) (va_A [(h0, .inr (8, [.long (lI xP), .long (lI 0), .long (lI 0), .int (iI xr), .int (iI xcv), .int (iI 0), .int (iI xz), .int (iI xn), .ref xd1, .ref xd2, .int (iI xp0), .ref xd3, .ref xd4, .ref xd5, .ref xd6])), (xd1, .inl (k 0, 84, .inl (aI xD))), (xd2, .inl (k 0, 84, .inl (aI xC))), (xd3, .inl (k 0, 60, .inl (aI xf1))), (xd4, .inl (k 1, 60, .inr (.inl (aL xf2)))), (xd5, .inl (k 1, 60, .inr (.inl (aL xf3)))), (xd6, .inl (k 1, 60, .inr (.inl (aL xf4))))] sz)) 0 0 (va_A [(h0, .inr (8, [.long (lI xP), .long (lI 0), .long (lI 0), .int (iI xr), .int (iI xcv), .int (iI 0), .int (iI xz), .int (iI xn), .ref xd1, .ref xd2, .int (iI xp0), .ref xd3, .ref xd4, .ref xd5, .ref xd6])), (xd1, .inl (k 0, 84, .inl (aI xD))), (xd2, .inl (k 0, 84, .inl (aI xC))), (xd3, .inl (k 0, 60, .inl (aI xf1))), (xd4, .inl (k 1, 60, .inr (.inl (aL xf2)))), (xd5, .inl (k 1, 60, .inr (.inl (aL xf3)))), (xd6, .inl (k 1, 60, .inr (.inl (aL xf4))))] sz) := by
  refine Met.ofW (cc := cX7_leastInstallment) (maxL := 9) (ret := (some .long)) (by decide) rfl ?_
  intro p e s mI args below meth cO s₁ B hml hv
  obtain ⟨rfl, rfl, hP, hD0, hE⟩ := hv
  have hx := B.exec
  have hb := B.bytes
  have hr := B.returns
  have hts := atoms_spec (ws := woX7_leastInstallment) B.pre
  have hown : s.vm.findClass RX7 = some mI.cls := findClass_of_methodNamed B.named
  have hlocks := B.notSynchronized
  have hD := hD0.self (sz := s.heap.size)
  generalize hAe : va_A [(h0, .inr (8, [.long (lI xP), .long (lI 0), .long (lI 0), .int (iI xr), .int (iI xcv), .int (iI 0), .int (iI xz), .int (iI xn), .ref xd1, .ref xd2, .int (iI xp0), .ref xd3, .ref xd4, .ref xd5, .ref xd6])), (xd1, .inl (k 0, 84, .inl (aI xD))), (xd2, .inl (k 0, 84, .inl (aI xC))), (xd3, .inl (k 0, 60, .inl (aI xf1))), (xd4, .inl (k 1, 60, .inr (.inl (aL xf2)))), (xd5, .inl (k 1, 60, .inr (.inl (aL xf3)))), (xd6, .inl (k 1, 60, .inr (.inl (aL xf4))))] s.heap.size = A at hD hE ⊢
  have hA : ∀ q : Nat, s.heap.size ≤ q → A q := fun q h => by rw [← hAe]; exact Or.inr h
  have hS : va_S A s.heap s.heap [] := va_S.rf
  obtain ⟨hK, hNw, hNc, hZs, hAO1, hAO2⟩ := id hE
  have hSF : CallFix p mI cO cX7_leastInstallment 9 s ([.ref h0, .int (iI xn)] : List Value).toArray woX7_leastInstallment RX7 := ⟨hx, hb, hml, hown, hts⟩
  have hl := lv_entry ([.ref h0, .int (iI xn)] : List Value) (n := 9) (Nat.le_of_ble_eq_true rfl)
  rw [lg_entry_eq]
  generalize (lg_sl ([.ref h0, .int (iI xn)] : List Value) ++ List.replicate (9 - (lg_sl ([.ref h0, .int (iI xn)] : List Value)).length) Slot.unset).toArray = ls at hl ⊢
  have hl : lv_has ls 9 [(0, .ref h0), (1, .int (iI xn))] := hl
  refine W_gen (fun Q hQ => ?_)
  change W p l e ({ frames := 3, cells := 0, slots := 0, locals := 84 } : Room) s mI _ below meth cO s.heap [] 0 0 Q _
  have hP : va_P (dC, dI) vwCl [(h0, .inr (8, [.long (lI xP), .long (lI 0), .long (lI 0), .int (iI xr), .int (iI xcv), .int (iI 0), .int (iI xz), .int (iI xn), .ref xd1, .ref xd2, .int (iI xp0), .ref xd3, .ref xd4, .ref xd5, .ref xd6])), (xd1, .inl (k 0, 84, .inl (aI xD))), (xd2, .inl (k 0, 84, .inl (aI xC))), (xd3, .inl (k 0, 60, .inl (aI xf1))), (xd4, .inl (k 1, 60, .inr (.inl (aL xf2)))), (xd5, .inl (k 1, 60, .inr (.inl (aL xf3)))), (xd6, .inl (k 1, 60, .inr (.inl (aL xf4))))] s.heap := hP
  refine lv_iload_n hx hb dX7_leastInstallment_0 rfl (lv_at hl 1 rfl) ?_
  refine q_iconst hx hb dX7_leastInstallment_1 ?_
  refine q_icmp_ge (tgt := 7) hx hb dX7_leastInstallment_2 (by decide) (by omega) (fun _ => ?_) (fun q => absurd q (by omega))
  refine lv_aload_n hx hb dX7_leastInstallment_7 rfl (lv_at hl 0 rfl) ?_
  refine q_lconst (z := 0) hx hb dX7_leastInstallment_8 (by decide) ?_
  refine lv_iload_n hx hb dX7_leastInstallment_9 rfl (lv_at hl 1 rfl) ?_
  refine kv (va_runV (As := [.long (lI 0), .int (iI xn)]) (rest := []) hSF ((c_X7_project l dC dI k h0 xd1 xd2 xd3 xd4 xd5 xd6 xP xr xcv xn xz xp0 0 xD xC xf1 xf2 xf3 xf4 hq9 hr9 hc9 hn9 (by omega) hC) s.heap.size) (cwV 2 hts gX7_leastInstallment_X7_project rfl rfl rfl (by decide +kernel) ⟨Nat.le_of_ble_eq_true rfl, Nat.le_of_ble_eq_true rfl⟩) (preV hP hD hE hS hA [0, 1, 2, 3, 4, 5, 6] rfl (by decide) (ci := 8) (q0 := 0) rfl rfl) rfl rfl hl.1 rfl (lv_room (Nat.le_of_ble_eq_true rfl)) dX7_leastInstallment_10 ⟨Nat.le_of_ble_eq_true rfl, Nat.le_of_ble_eq_true rfl⟩) hP hD hS hA [0, 1, 2, 3, 4, 5, 6] [] rfl (wr := []) rfl (by decide) (by decide) (fun u10 H locs hw hP hD hS => ?_)
  obtain ⟨u10_p, u10_1, u10_2, u10_3, u10_4⟩ := u10
  obtain ⟨u10_b, u10_h⟩ := hw
  change 1 ≤ u10_p ∧ u10_p ≤ 60 at u10_b
  change u10_2 (u10_p - 1).toNat = LA xP xr xcv xn 0 at u10_h
  have hla0 := LA_rng (y := 0) hq9 hr9 hc9 hn9 (by omega)
  obtain ⟨xL0, hL0⟩ : ∃ z : Int, z = max 1 ((xP + xn - 1) / xn) := ⟨_, rfl⟩
  obtain ⟨xH0, hH0⟩ : ∃ z : Int, z = max xL0 ((LA xP xr xcv xn 0 + xn - 1) / xn) := ⟨_, rfl⟩
  have hsh1 := shr9 (x := xP) (n := xn) (by omega) hn9
  have hsh2 := shr9 (x := LA xP xr xcv xn 0) (n := xn) (by omega) hn9
  have hg0 : LA xP xr xcv xn xH0 ≤ xH0 := lst_hi hq9 hr9 hc9 hn9 (by omega) hsh2 (by omega)
  have hb0 : ∀ y : Int, 1 ≤ y → y < xL0 → ¬ LA xP xr xcv xn y ≤ y := lst_low hq9 hr9 hc9 hn9 hsh1 (by omega)
  have hP : va_P (dC, dI) vwCl [(h0, .inr (8, [.long (lI xP), .long (lI 0), .long (lI 0), .int (iI xr), .int (iI xcv), .int (iI 0), .int (iI xz), .int (iI xn), .ref xd1, .ref xd2, .int (iI u10_p), .ref xd3, .ref xd4, .ref xd5, .ref xd6])), (xd1, .inl (k 0, 84, .inl (aI xD))), (xd2, .inl (k 0, 84, .inl (aI xC))), (xd3, .inl (k 0, 60, .inl (aI u10_1))), (xd4, .inl (k 1, 60, .inr (.inl (aL u10_2)))), (xd5, .inl (k 1, 60, .inr (.inl (aL u10_3)))), (xd6, .inl (k 1, 60, .inr (.inl (aL u10_4))))] H := hP
  have hD : va_D A [(h0, .inr (8, [.long (lI xP), .long (lI 0), .long (lI 0), .int (iI xr), .int (iI xcv), .int (iI 0), .int (iI xz), .int (iI xn), .ref xd1, .ref xd2, .int (iI u10_p), .ref xd3, .ref xd4, .ref xd5, .ref xd6])), (xd1, .inl (k 0, 84, .inl (aI xD))), (xd2, .inl (k 0, 84, .inl (aI xC))), (xd3, .inl (k 0, 60, .inl (aI u10_1))), (xd4, .inl (k 1, 60, .inr (.inl (aL u10_2)))), (xd5, .inl (k 1, 60, .inr (.inl (aL u10_3)))), (xd6, .inl (k 1, 60, .inr (.inl (aL u10_4))))] := hD
  refine q_lconst (z := 1) hx hb dX7_leastInstallment_13 (by decide) ?_
  refine lv_aload_n hx hb dX7_leastInstallment_14 rfl (lv_at hl 0 rfl) ?_
  refine va_get (D := (dC, dI)) (ci := 8) (v := .long (lI xP)) (C := RX7) (T := TX7) (N := 15) hx hb hts (fun _ h => List.mem_cons_of_mem _ (inlX7 _ h)) hown hK hP 0 rfl rfl 0 (by decide) (hts (.fieldLink RX7 43 "LoanServicing$Projection" "firstPrincipal" "J") (List.mem_cons_of_mem _ (wl_10 (List.mem_of_getElem? (i := 11) rfl)))) (fun _ h9 => h9) rfl dX7_leastInstallment_15 ?_
  refine lv_aload_n hx hb dX7_leastInstallment_18 rfl (lv_at hl 0 rfl) ?_
  refine va_get (D := (dC, dI)) (ci := 8) (v := .long (lI 0)) (C := RX7) (T := TX7) (N := 15) hx hb hts (fun _ h => List.mem_cons_of_mem _ (inlX7 _ h)) hown hK hP 0 rfl rfl 1 (by decide) (hts (.fieldLink RX7 49 "LoanServicing$Projection" "firstInterest" "J") (List.mem_cons_of_mem _ (wl_10 (List.mem_of_getElem? (i := 12) rfl)))) (fun _ h9 => h9) rfl dX7_leastInstallment_19 ?_
  refine q_ladd (z := xP) hx hb dX7_leastInstallment_22 (by omega) ?_
  refine lv_iload_n hx hb dX7_leastInstallment_23 rfl (lv_at hl 1 rfl) ?_
  refine kl (va_runS (As := [.long (lI xP), .int (iI xn)]) (rest := [.long (lI 1)]) hSF ((c_X7_shareUpwards l dC dI k xP xn (by omega)) H.size) (va_cwS 2 hts gX7_leastInstallment_X7_shareUpwards rfl rfl rfl (by decide +kernel) ⟨Nat.le_of_ble_eq_true rfl, Nat.le_of_ble_eq_true rfl⟩) (preS hP hD hE hS hA [] rfl (by decide)) rfl rfl hl.1 rfl (lv_room (Nat.le_of_ble_eq_true rfl)) dX7_leastInstallment_24 ⟨Nat.le_of_ble_eq_true rfl, Nat.le_of_ble_eq_true rfl⟩) hP hD hS hA [] [0, 1, 2, 3, 4, 5, 6] rfl (wr := [(h0, .inr (8, [.long (lI xP), .long (lI 0), .long (lI 0), .int (iI xr), .int (iI xcv), .int (iI 0), .int (iI xz), .int (iI xn), .ref xd1, .ref xd2, .int (iI u10_p), .ref xd3, .ref xd4, .ref xd5, .ref xd6])), (xd1, .inl (k 0, 84, .inl (aI xD))), (xd2, .inl (k 0, 84, .inl (aI xC))), (xd3, .inl (k 0, 60, .inl (aI u10_1))), (xd4, .inl (k 1, 60, .inr (.inl (aL u10_2)))), (xd5, .inl (k 1, 60, .inr (.inl (aL u10_3)))), (xd6, .inl (k 1, 60, .inr (.inl (aL u10_4))))]) rfl (by decide) (by decide) (fun r24 _ H locs hw hP hD hS => ?_)
  obtain rfl : r24 = (lI ((xP + xn - 1) / xn)) := hw
  have hP : va_P (dC, dI) vwCl [(h0, .inr (8, [.long (lI xP), .long (lI 0), .long (lI 0), .int (iI xr), .int (iI xcv), .int (iI 0), .int (iI xz), .int (iI xn), .ref xd1, .ref xd2, .int (iI u10_p), .ref xd3, .ref xd4, .ref xd5, .ref xd6])), (xd1, .inl (k 0, 84, .inl (aI xD))), (xd2, .inl (k 0, 84, .inl (aI xC))), (xd3, .inl (k 0, 60, .inl (aI u10_1))), (xd4, .inl (k 1, 60, .inr (.inl (aL u10_2)))), (xd5, .inl (k 1, 60, .inr (.inl (aL u10_3)))), (xd6, .inl (k 1, 60, .inr (.inl (aL u10_4))))] H := hP
  have hD : va_D A [(h0, .inr (8, [.long (lI xP), .long (lI 0), .long (lI 0), .int (iI xr), .int (iI xcv), .int (iI 0), .int (iI xz), .int (iI xn), .ref xd1, .ref xd2, .int (iI u10_p), .ref xd3, .ref xd4, .ref xd5, .ref xd6])), (xd1, .inl (k 0, 84, .inl (aI xD))), (xd2, .inl (k 0, 84, .inl (aI xC))), (xd3, .inl (k 0, 60, .inl (aI u10_1))), (xd4, .inl (k 1, 60, .inr (.inl (aL u10_2)))), (xd5, .inl (k 1, 60, .inr (.inl (aL u10_3)))), (xd6, .inl (k 1, 60, .inr (.inl (aL u10_4))))] := hD
  refine va_mmax_long hx hb (hml.trans hl.1.symm) hown (hts (.methodLink RX7 140 Lib.MathLoose.max_long.x) (List.mem_cons_of_mem _ (wl_11 (List.mem_of_getElem? (i := 14) rfl)))) (hts (.static Lib.MathLoose.max_long.x) (List.mem_cons_of_mem _ (wl_11 (List.mem_of_getElem? (i := 15) rfl)))) (hts (.initialized "java/lang/Math") (List.mem_cons_of_mem _ (wl_6 (List.mem_of_getElem? (i := 22) rfl)))) (hts (.code Lib.MathLoose.max_long.x Lib.MathLoose.max_long.code 4 (some .long)) (List.mem_cons_of_mem _ (wl_11 (List.mem_of_getElem? (i := 16) rfl)))) (Nat.le_of_ble_eq_true rfl) (Nat.le_of_ble_eq_true rfl) (Nat.le_of_ble_eq_true rfl) (Nat.le_of_ble_eq_true rfl) dX7_leastInstallment_27 ?_
  rw [q_mmax_long (a := 1) (b := ((xP + xn - 1) / xn)) (z := xL0) (by omega) (by omega)]
  refine lv_lstore_n (lv' := [(2, .long (lI xL0)), (0, .ref h0), (1, .int (iI xn))]) hx hb dX7_leastInstallment_30 rfl hl (by decide) rfl (fun ls hl => ?_)
  refine lv_lload_n hx hb dX7_leastInstallment_31 rfl (lv_at hl 0 rfl) ?_
  refine lv_aload_n hx hb dX7_leastInstallment_32 rfl (lv_at hl 1 rfl) ?_
  refine kl (va_runV (As := []) (rest := [.long (lI xL0)]) hSF ((c_X7_lastAmount l dC dI k h0 xd1 xd2 xd3 xd4 xd5 xd6 xP xr xcv xn xz u10_p u10_2 (by omega)) H.size) (cwV 0 hts gX7_leastInstallment_X7_lastAmount rfl rfl rfl (by decide +kernel) ⟨Nat.le_of_ble_eq_true rfl, Nat.le_of_ble_eq_true rfl⟩) (preV hP hD hE hS hA [0, 4] rfl (by decide) (ci := 8) (q0 := 0) rfl rfl) rfl rfl hl.1 rfl (lv_room (Nat.le_of_ble_eq_true rfl)) dX7_leastInstallment_33 ⟨Nat.le_of_ble_eq_true rfl, Nat.le_of_ble_eq_true rfl⟩) hP hD hS hA [0, 4] [1, 2, 3, 5, 6] rfl (wr := [(xd1, .inl (k 0, 84, .inl (aI xD))), (xd2, .inl (k 0, 84, .inl (aI xC))), (xd3, .inl (k 0, 60, .inl (aI u10_1))), (xd5, .inl (k 1, 60, .inr (.inl (aL u10_3)))), (xd6, .inl (k 1, 60, .inr (.inl (aL u10_4))))]) rfl (by decide) (by decide) (fun r33 _ H locs hw hP hD hS => ?_)
  obtain rfl : r33 = lI (LA xP xr xcv xn 0) := hw.trans (by rw [u10_h])
  have hP : va_P (dC, dI) vwCl [(xd1, .inl (k 0, 84, .inl (aI xD))), (xd2, .inl (k 0, 84, .inl (aI xC))), (xd3, .inl (k 0, 60, .inl (aI u10_1))), (xd5, .inl (k 1, 60, .inr (.inl (aL u10_3)))), (xd6, .inl (k 1, 60, .inr (.inl (aL u10_4)))), (h0, .inr (8, [.long (lI xP), .long (lI 0), .long (lI 0), .int (iI xr), .int (iI xcv), .int (iI 0), .int (iI xz), .int (iI xn), .ref xd1, .ref xd2, .int (iI u10_p), .ref xd3, .ref xd4, .ref xd5, .ref xd6])), (xd4, .inl (k 1, 60, .inr (.inl (aL u10_2))))] H := hP
  have hD : va_D A [(xd1, .inl (k 0, 84, .inl (aI xD))), (xd2, .inl (k 0, 84, .inl (aI xC))), (xd3, .inl (k 0, 60, .inl (aI u10_1))), (xd5, .inl (k 1, 60, .inr (.inl (aL u10_3)))), (xd6, .inl (k 1, 60, .inr (.inl (aL u10_4)))), (h0, .inr (8, [.long (lI xP), .long (lI 0), .long (lI 0), .int (iI xr), .int (iI xcv), .int (iI 0), .int (iI xz), .int (iI xn), .ref xd1, .ref xd2, .int (iI u10_p), .ref xd3, .ref xd4, .ref xd5, .ref xd6])), (xd4, .inl (k 1, 60, .inr (.inl (aL u10_2))))] := hD
  refine lv_iload_n hx hb dX7_leastInstallment_36 rfl (lv_at hl 2 rfl) ?_
  refine kl (va_runS (As := [.long (lI (LA xP xr xcv xn 0)), .int (iI xn)]) (rest := [.long (lI xL0)]) hSF ((c_X7_shareUpwards l dC dI k (LA xP xr xcv xn 0) xn (by omega)) H.size) (va_cwS 2 hts gX7_leastInstallment_X7_shareUpwards rfl rfl rfl (by decide +kernel) ⟨Nat.le_of_ble_eq_true rfl, Nat.le_of_ble_eq_true rfl⟩) (preS hP hD hE hS hA [] rfl (by decide)) rfl rfl hl.1 rfl (lv_room (Nat.le_of_ble_eq_true rfl)) dX7_leastInstallment_37 ⟨Nat.le_of_ble_eq_true rfl, Nat.le_of_ble_eq_true rfl⟩) hP hD hS hA [] [0, 1, 2, 3, 4, 5, 6] rfl (wr := [(xd1, .inl (k 0, 84, .inl (aI xD))), (xd2, .inl (k 0, 84, .inl (aI xC))), (xd3, .inl (k 0, 60, .inl (aI u10_1))), (xd5, .inl (k 1, 60, .inr (.inl (aL u10_3)))), (xd6, .inl (k 1, 60, .inr (.inl (aL u10_4)))), (h0, .inr (8, [.long (lI xP), .long (lI 0), .long (lI 0), .int (iI xr), .int (iI xcv), .int (iI 0), .int (iI xz), .int (iI xn), .ref xd1, .ref xd2, .int (iI u10_p), .ref xd3, .ref xd4, .ref xd5, .ref xd6])), (xd4, .inl (k 1, 60, .inr (.inl (aL u10_2))))]) rfl (by decide) (by decide) (fun r37 _ H locs hw hP hD hS => ?_)
  obtain rfl : r37 = (lI (((LA xP xr xcv xn 0) + xn - 1) / xn)) := hw
  have hP : va_P (dC, dI) vwCl [(xd1, .inl (k 0, 84, .inl (aI xD))), (xd2, .inl (k 0, 84, .inl (aI xC))), (xd3, .inl (k 0, 60, .inl (aI u10_1))), (xd5, .inl (k 1, 60, .inr (.inl (aL u10_3)))), (xd6, .inl (k 1, 60, .inr (.inl (aL u10_4)))), (h0, .inr (8, [.long (lI xP), .long (lI 0), .long (lI 0), .int (iI xr), .int (iI xcv), .int (iI 0), .int (iI xz), .int (iI xn), .ref xd1, .ref xd2, .int (iI u10_p), .ref xd3, .ref xd4, .ref xd5, .ref xd6])), (xd4, .inl (k 1, 60, .inr (.inl (aL u10_2))))] H := hP
  have hD : va_D A [(xd1, .inl (k 0, 84, .inl (aI xD))), (xd2, .inl (k 0, 84, .inl (aI xC))), (xd3, .inl (k 0, 60, .inl (aI u10_1))), (xd5, .inl (k 1, 60, .inr (.inl (aL u10_3)))), (xd6, .inl (k 1, 60, .inr (.inl (aL u10_4)))), (h0, .inr (8, [.long (lI xP), .long (lI 0), .long (lI 0), .int (iI xr), .int (iI xcv), .int (iI 0), .int (iI xz), .int (iI xn), .ref xd1, .ref xd2, .int (iI u10_p), .ref xd3, .ref xd4, .ref xd5, .ref xd6])), (xd4, .inl (k 1, 60, .inr (.inl (aL u10_2))))] := hD
  refine va_mmax_long hx hb (hml.trans hl.1.symm) hown (hts (.methodLink RX7 140 Lib.MathLoose.max_long.x) (List.mem_cons_of_mem _ (wl_11 (List.mem_of_getElem? (i := 14) rfl)))) (hts (.static Lib.MathLoose.max_long.x) (List.mem_cons_of_mem _ (wl_11 (List.mem_of_getElem? (i := 15) rfl)))) (hts (.initialized "java/lang/Math") (List.mem_cons_of_mem _ (wl_6 (List.mem_of_getElem? (i := 22) rfl)))) (hts (.code Lib.MathLoose.max_long.x Lib.MathLoose.max_long.code 4 (some .long)) (List.mem_cons_of_mem _ (wl_11 (List.mem_of_getElem? (i := 16) rfl)))) (Nat.le_of_ble_eq_true rfl) (Nat.le_of_ble_eq_true rfl) (Nat.le_of_ble_eq_true rfl) (Nat.le_of_ble_eq_true rfl) dX7_leastInstallment_40 ?_
  rw [q_mmax_long (a := xL0) (b := (((LA xP xr xcv xn 0) + xn - 1) / xn)) (z := xH0) (by omega) (by omega)]
  refine lv_lstore (lv' := [(4, .long (lI xH0)), (2, .long (lI xL0)), (0, .ref h0), (1, .int (iI xn))]) hx hb dX7_leastInstallment_43 hl (by decide) rfl (fun ls hl => ?_)
  refine q_iconst hx hb dX7_leastInstallment_45 ?_
  refine lv_istore (lv' := [(6, .int (iI 0)), (4, .long (lI xH0)), (2, .long (lI xL0)), (0, .ref h0), (1, .int (iI xn))]) hx hb dX7_leastInstallment_46 hl (by decide) rfl (fun ls hl => ?_)
  have LOOP_48 : ∀ (n : Nat) (i xlo xhi xp : Int) (g1 g2 g3 g4 : Nat → Int), (65 - i < (n : Int)) → (0 ≤ i ∧ i ≤ 64 ∧ 1 ≤ xlo ∧ xlo ≤ xhi ∧ xhi ≤ 30000000) → (LA xP xr xcv xn xhi ≤ xhi) → (∀ y : Int, 1 ≤ y → y < xlo → ¬ LA xP xr xcv xn y ≤ y) → (xhi - xlo < pw (64 - i).toNat) → (1 ≤ xp ∧ xp ≤ 60) → ∀ (H : Heap) (locs : List Loc), va_P (dC, dI) vwCl [(h0, .inr (8, [.long (lI xP), .long (lI 0), .long (lI 0), .int (iI xr), .int (iI xcv), .int (iI 0), .int (iI xz), .int (iI xn), .ref xd1, .ref xd2, .int (iI xp), .ref xd3, .ref xd4, .ref xd5, .ref xd6])), (xd1, .inl (k 0, 84, .inl (aI xD))), (xd2, .inl (k 0, 84, .inl (aI xC))), (xd3, .inl (k 0, 60, .inl (aI g1))), (xd4, .inl (k 1, 60, .inr (.inl (aL g2)))), (xd5, .inl (k 1, 60, .inr (.inl (aL g3)))), (xd6, .inl (k 1, 60, .inr (.inl (aL g4))))] H → va_D A [(h0, .inr (8, [.long (lI xP), .long (lI 0), .long (lI 0), .int (iI xr), .int (iI xcv), .int (iI 0), .int (iI xz), .int (iI xn), .ref xd1, .ref xd2, .int (iI xp), .ref xd3, .ref xd4, .ref xd5, .ref xd6])), (xd1, .inl (k 0, 84, .inl (aI xD))), (xd2, .inl (k 0, 84, .inl (aI xC))), (xd3, .inl (k 0, 60, .inl (aI g1))), (xd4, .inl (k 1, 60, .inr (.inl (aL g2)))), (xd5, .inl (k 1, 60, .inr (.inl (aL g3)))), (xd6, .inl (k 1, 60, .inr (.inl (aL g4))))] → va_S A s.heap H locs → ∀ ls : Array Slot, lv_has ls 9 [(6, .int (iI i)), (4, .long (lI xhi)), (2, .long (lI xlo)), (0, .ref h0), (1, .int (iI xn))] → W p l e ({ frames := 3, cells := 0, slots := 0, locals := 84 } : Room) s mI ([.ref h0, .int (iI xn)] : List Value).toArray below meth cO H locs 0 0 Q (F0 mI 48 ls []) := by
    intro n
    induction n with
    | zero => intro i xlo xhi xp g1 g2 g3 g4 hn hi hg hlb hw9 hp9; exact absurd hn (by omega)
    | succ n ih_48 =>
      intro i xlo xhi xp g1 g2 g3 g4 hn hi hg hlb hw9 hp9 H locs hP hD hS ls hl
      have hpw := pw_0
      refine lv_iload hx hb dX7_leastInstallment_48 (lv_at hl 0 rfl) ?_
      refine q_bipush (z := 64) hx hb dX7_leastInstallment_50 (by decide) ?_
      refine q_icmp_ge (tgt := 109) hx hb dX7_leastInstallment_52 (by decide) (by omega) (fun c52 => ?_) (fun c52 => ?_)
      · refine lv_lload_n hx hb dX7_leastInstallment_109 rfl (lv_at hl 2 rfl) ?_
        rw [hQ]
        refine W.widen (k := 0) (n := 0) (Nat.le_of_ble_eq_true rfl) (Nat.le_of_ble_eq_true rfl) ?_
        exact W.lret (v := (lI xlo)) hx hb hr (fun t ht hW => ⟨⟨(lI xlo), xlo, rfl, ⟨rfl, by have e : xlo = xhi := (by first | omega | (have h0 := pw_z (i := i) (by omega); omega)); exact ⟨by omega, by rw [e]; exact hg, hlb⟩⟩, by rw [ht]; exact hP.sub [] rfl, by rw [hAe]; exact hD.sub [] (by decide) rfl⟩, hS.F ht⟩) hS.2.2 dX7_leastInstallment_110
      · refine lv_lload_n hx hb dX7_leastInstallment_55 rfl (lv_at hl 2 rfl) ?_
        refine lv_lload hx hb dX7_leastInstallment_56 (lv_at hl 1 rfl) ?_
        refine q_lcmp hx hb dX7_leastInstallment_58 ?_
        refine q_lif_ge (tgt := 109) hx hb dX7_leastInstallment_59 (by decide) (by omega) (fun c59 => ?_) (fun c59 => ?_)
        · refine lv_lload_n hx hb dX7_leastInstallment_109 rfl (lv_at hl 2 rfl) ?_
          rw [hQ]
          refine W.widen (k := 0) (n := 0) (Nat.le_of_ble_eq_true rfl) (Nat.le_of_ble_eq_true rfl) ?_
          exact W.lret (v := (lI xlo)) hx hb hr (fun t ht hW => ⟨⟨(lI xlo), xlo, rfl, ⟨rfl, by have e : xlo = xhi := (by first | omega | (have h0 := pw_z (i := i) (by omega); omega)); exact ⟨by omega, by rw [e]; exact hg, hlb⟩⟩, by rw [ht]; exact hP.sub [] rfl, by rw [hAe]; exact hD.sub [] (by decide) rfl⟩, hS.F ht⟩) hS.2.2 dX7_leastInstallment_110
        · refine lv_lload_n hx hb dX7_leastInstallment_62 rfl (lv_at hl 2 rfl) ?_
          refine lv_lload hx hb dX7_leastInstallment_63 (lv_at hl 1 rfl) ?_
          refine lv_lload_n hx hb dX7_leastInstallment_65 rfl (lv_at hl 2 rfl) ?_
          refine q_lsub (z := xhi - xlo) hx hb dX7_leastInstallment_66 (by omega) ?_
          refine q_ldc2 (z := 2) hx hb hown (hts (.constantLong RX7 147 (2)) (List.mem_cons_of_mem _ (wl_11 (List.mem_of_getElem? (i := 17) rfl)))) dX7_leastInstallment_67 (by decide) ?_
          refine q_ldiv (z := ((xhi - xlo) / 2)) hx hb dX7_leastInstallment_70 (by omega) rfl ?_
          refine q_ladd (z := xlo + ((xhi - xlo) / 2)) hx hb dX7_leastInstallment_71 (by omega) ?_
          refine lv_lstore (lv' := [(7, .long (lI (xlo + ((xhi - xlo) / 2)))), (6, .int (iI i)), (4, .long (lI xhi)), (2, .long (lI xlo)), (0, .ref h0), (1, .int (iI xn))]) hx hb dX7_leastInstallment_72 hl (by decide) rfl (fun ls hl => ?_)
          refine lv_aload_n hx hb dX7_leastInstallment_74 rfl (lv_at hl 4 rfl) ?_
          refine lv_lload hx hb dX7_leastInstallment_75 (lv_at hl 0 rfl) ?_
          refine lv_iload_n hx hb dX7_leastInstallment_77 rfl (lv_at hl 5 rfl) ?_
          refine kv (va_runV (As := [.long (lI (xlo + ((xhi - xlo) / 2))), .int (iI xn)]) (rest := []) hSF ((c_X7_project l dC dI k h0 xd1 xd2 xd3 xd4 xd5 xd6 xP xr xcv xn xz xp (xlo + ((xhi - xlo) / 2)) xD xC g1 g2 g3 g4 hq9 hr9 hc9 hn9 (by omega) hC) H.size) (cwV 2 hts gX7_leastInstallment_X7_project rfl rfl rfl (by decide +kernel) ⟨Nat.le_of_ble_eq_true rfl, Nat.le_of_ble_eq_true rfl⟩) (preV hP hD hE hS hA [0, 1, 2, 3, 4, 5, 6] rfl (by decide) (ci := 8) (q0 := 0) rfl rfl) rfl rfl hl.1 rfl (lv_room (Nat.le_of_ble_eq_true rfl)) dX7_leastInstallment_78 ⟨Nat.le_of_ble_eq_true rfl, Nat.le_of_ble_eq_true rfl⟩) hP hD hS hA [0, 1, 2, 3, 4, 5, 6] [] rfl (wr := []) rfl (by decide) (by decide) (fun u78 H locs hw hP hD hS => ?_)
          obtain ⟨u78_p, u78_1, u78_2, u78_3, u78_4⟩ := u78
          obtain ⟨u78_b, u78_h⟩ := hw
          change 1 ≤ u78_p ∧ u78_p ≤ 60 at u78_b
          change u78_2 (u78_p - 1).toNat = LA xP xr xcv xn (xlo + ((xhi - xlo) / 2)) at u78_h
          have hlam := LA_rng (y := (xlo + ((xhi - xlo) / 2))) hq9 hr9 hc9 hn9 (by omega)
          have hpw2 := pw_half (i := i) (by omega)
          have hP : va_P (dC, dI) vwCl [(h0, .inr (8, [.long (lI xP), .long (lI 0), .long (lI 0), .int (iI xr), .int (iI xcv), .int (iI 0), .int (iI xz), .int (iI xn), .ref xd1, .ref xd2, .int (iI u78_p), .ref xd3, .ref xd4, .ref xd5, .ref xd6])), (xd1, .inl (k 0, 84, .inl (aI xD))), (xd2, .inl (k 0, 84, .inl (aI xC))), (xd3, .inl (k 0, 60, .inl (aI u78_1))), (xd4, .inl (k 1, 60, .inr (.inl (aL u78_2)))), (xd5, .inl (k 1, 60, .inr (.inl (aL u78_3)))), (xd6, .inl (k 1, 60, .inr (.inl (aL u78_4))))] H := hP
          have hD : va_D A [(h0, .inr (8, [.long (lI xP), .long (lI 0), .long (lI 0), .int (iI xr), .int (iI xcv), .int (iI 0), .int (iI xz), .int (iI xn), .ref xd1, .ref xd2, .int (iI u78_p), .ref xd3, .ref xd4, .ref xd5, .ref xd6])), (xd1, .inl (k 0, 84, .inl (aI xD))), (xd2, .inl (k 0, 84, .inl (aI xC))), (xd3, .inl (k 0, 60, .inl (aI u78_1))), (xd4, .inl (k 1, 60, .inr (.inl (aL u78_2)))), (xd5, .inl (k 1, 60, .inr (.inl (aL u78_3)))), (xd6, .inl (k 1, 60, .inr (.inl (aL u78_4))))] := hD
          refine lv_aload_n hx hb dX7_leastInstallment_81 rfl (lv_at hl 4 rfl) ?_
          refine kl (va_runV (As := []) (rest := []) hSF ((c_X7_lastAmount l dC dI k h0 xd1 xd2 xd3 xd4 xd5 xd6 xP xr xcv xn xz u78_p u78_2 (by omega)) H.size) (cwV 0 hts gX7_leastInstallment_X7_lastAmount rfl rfl rfl (by decide +kernel) ⟨Nat.le_of_ble_eq_true rfl, Nat.le_of_ble_eq_true rfl⟩) (preV hP hD hE hS hA [0, 4] rfl (by decide) (ci := 8) (q0 := 0) rfl rfl) rfl rfl hl.1 rfl (lv_room (Nat.le_of_ble_eq_true rfl)) dX7_leastInstallment_82 ⟨Nat.le_of_ble_eq_true rfl, Nat.le_of_ble_eq_true rfl⟩) hP hD hS hA [0, 4] [1, 2, 3, 5, 6] rfl (wr := [(xd1, .inl (k 0, 84, .inl (aI xD))), (xd2, .inl (k 0, 84, .inl (aI xC))), (xd3, .inl (k 0, 60, .inl (aI u78_1))), (xd5, .inl (k 1, 60, .inr (.inl (aL u78_3)))), (xd6, .inl (k 1, 60, .inr (.inl (aL u78_4))))]) rfl (by decide) (by decide) (fun r82 _ H locs hw hP hD hS => ?_)
          obtain rfl : r82 = lI (LA xP xr xcv xn (xlo + ((xhi - xlo) / 2))) := hw.trans (by rw [u78_h])
          have hP : va_P (dC, dI) vwCl [(xd1, .inl (k 0, 84, .inl (aI xD))), (xd2, .inl (k 0, 84, .inl (aI xC))), (xd3, .inl (k 0, 60, .inl (aI u78_1))), (xd5, .inl (k 1, 60, .inr (.inl (aL u78_3)))), (xd6, .inl (k 1, 60, .inr (.inl (aL u78_4)))), (h0, .inr (8, [.long (lI xP), .long (lI 0), .long (lI 0), .int (iI xr), .int (iI xcv), .int (iI 0), .int (iI xz), .int (iI xn), .ref xd1, .ref xd2, .int (iI u78_p), .ref xd3, .ref xd4, .ref xd5, .ref xd6])), (xd4, .inl (k 1, 60, .inr (.inl (aL u78_2))))] H := hP
          have hD : va_D A [(xd1, .inl (k 0, 84, .inl (aI xD))), (xd2, .inl (k 0, 84, .inl (aI xC))), (xd3, .inl (k 0, 60, .inl (aI u78_1))), (xd5, .inl (k 1, 60, .inr (.inl (aL u78_3)))), (xd6, .inl (k 1, 60, .inr (.inl (aL u78_4)))), (h0, .inr (8, [.long (lI xP), .long (lI 0), .long (lI 0), .int (iI xr), .int (iI xcv), .int (iI 0), .int (iI xz), .int (iI xn), .ref xd1, .ref xd2, .int (iI u78_p), .ref xd3, .ref xd4, .ref xd5, .ref xd6])), (xd4, .inl (k 1, 60, .inr (.inl (aL u78_2))))] := hD
          refine lv_lload hx hb dX7_leastInstallment_85 (lv_at hl 0 rfl) ?_
          refine q_lcmp hx hb dX7_leastInstallment_87 ?_
          refine q_lif_gt (tgt := 98) hx hb dX7_leastInstallment_88 (by decide) (by omega) (fun c88 => ?_) (fun c88 => ?_)
          · refine lv_lload hx hb dX7_leastInstallment_98 (lv_at hl 0 rfl) ?_
            refine q_lconst (z := 1) hx hb dX7_leastInstallment_100 (by decide) ?_
            refine q_ladd (z := xlo + ((xhi - xlo) / 2) + 1) hx hb dX7_leastInstallment_101 (by omega) ?_
            refine lv_lstore_n (lv' := [(2, .long (lI (xlo + ((xhi - xlo) / 2) + 1))), (7, .long (lI (xlo + ((xhi - xlo) / 2)))), (6, .int (iI i)), (4, .long (lI xhi)), (0, .ref h0), (1, .int (iI xn))]) hx hb dX7_leastInstallment_102 rfl hl (by decide) rfl (fun ls hl => ?_)
            refine lv_iinc (v := iI (i + 1)) (lv' := [(6, .int (iI (i + 1))), (2, .long (lI (xlo + ((xhi - xlo) / 2) + 1))), (7, .long (lI (xlo + ((xhi - xlo) / 2)))), (4, .long (lI xhi)), (0, .ref h0), (1, .int (iI xn))]) hx hb dX7_leastInstallment_103 hl (k := 2) rfl (by show iI _ + iI _ = _; rw [iI_add]; try (first | rfl | (congr 1; omega))) (by decide) rfl (fun ls hl => ?_)
            refine lv_goto (tgt := 48) hx hb dX7_leastInstallment_106 (by decide) ?_
            exact ih_48 (i + 1) (xlo + ((xhi - xlo) / 2) + 1) (xhi) (u78_p) (u78_1) (u78_2) (u78_3) (u78_4) (by omega) (by omega) hg (fun y h1 h2 => lst_lo hr9 hc9 hn9 (m := xlo + ((xhi - xlo) / 2)) hlb h1 (by omega) (by omega)) (by omega) (by omega) _ _ (hP.sub [5, 0, 1, 2, 6, 3, 4] rfl) (hD.sub [5, 0, 1, 2, 6, 3, 4] (by decide) rfl) hS ls (lv_sub hl [0, 3, 1, 4, 5] rfl)
          · refine lv_lload hx hb dX7_leastInstallment_91 (lv_at hl 0 rfl) ?_
            refine lv_lstore (lv' := [(4, .long (lI (xlo + ((xhi - xlo) / 2)))), (7, .long (lI (xlo + ((xhi - xlo) / 2)))), (6, .int (iI i)), (2, .long (lI xlo)), (0, .ref h0), (1, .int (iI xn))]) hx hb dX7_leastInstallment_93 hl (by decide) rfl (fun ls hl => ?_)
            refine lv_goto (tgt := 103) hx hb dX7_leastInstallment_95 (by decide) ?_
            refine lv_iinc (v := iI (i + 1)) (lv' := [(6, .int (iI (i + 1))), (4, .long (lI (xlo + ((xhi - xlo) / 2)))), (7, .long (lI (xlo + ((xhi - xlo) / 2)))), (2, .long (lI xlo)), (0, .ref h0), (1, .int (iI xn))]) hx hb dX7_leastInstallment_103 hl (k := 2) rfl (by show iI _ + iI _ = _; rw [iI_add]; try (first | rfl | (congr 1; omega))) (by decide) rfl (fun ls hl => ?_)
            refine lv_goto (tgt := 48) hx hb dX7_leastInstallment_106 (by decide) ?_
            exact ih_48 (i + 1) (xlo) (xlo + ((xhi - xlo) / 2)) (u78_p) (u78_1) (u78_2) (u78_3) (u78_4) (by omega) (by omega) (by omega) hlb (by omega) (by omega) _ _ (hP.sub [5, 0, 1, 2, 6, 3, 4] rfl) (hD.sub [5, 0, 1, 2, 6, 3, 4] (by decide) rfl) hS ls (lv_sub hl [0, 1, 3, 4, 5] rfl)
  exact LOOP_48 (66) (0) (xL0) (xH0) (u10_p) (u10_1) (u10_2) (u10_3) (u10_4) (by omega) (by omega) hg0 hb0 (by have h := pw_64; rw [show (64 - 0 : Int).toNat = 64 from rfl]; omega) (by omega) _ _ (hP.sub [5, 0, 1, 2, 6, 3, 4] rfl) (hD.sub [5, 0, 1, 2, 6, 3, 4] (by decide) rfl) hS ls (lv_sub hl [0, 1, 2, 3, 4] rfl)
