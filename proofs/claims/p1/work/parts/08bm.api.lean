theorem gX10_explain_X0_refusal : GoodIn woX10_explain (wsV RX10 121 RX0 yX0_refusal woX0_refusal) := go_V (wl_16 (List.mem_of_getElem? (i := 19) rfl)) (wl_16 (List.mem_of_getElem? (i := 16) rfl)) (wl_16 (List.mem_of_getElem? (i := 17) rfl)) (wl_16 (List.mem_of_getElem? (i := 18) rfl)) (wl_1 (List.mem_of_getElem? (i := 16) rfl))
theorem gX10_explain_X10_isWithin : GoodIn woX10_explain (va_wsS RX10 65 yX10_isWithin woX10_isWithin) := go_S (wl_6 (List.mem_of_getElem? (i := 13) rfl)) (wl_6 (List.mem_of_getElem? (i := 11) rfl)) (wl_6 (List.mem_of_getElem? (i := 12) rfl)) (wl_1 (List.mem_of_getElem? (i := 2) rfl))
theorem gX10_explain_X10_refuse : GoodIn woX10_explain (va_wsS RX10 124 yX10_refuse woX10_refuse) := go_S (wl_17 (List.mem_of_getElem? (i := 12) rfl)) (wl_17 (List.mem_of_getElem? (i := 10) rfl)) (wl_17 (List.mem_of_getElem? (i := 11) rfl)) (wl_1 (List.mem_of_getElem? (i := 2) rfl))
theorem gX10_installmentFor_X10_isWithin : GoodIn woX10_installmentFor (va_wsS RX10 65 yX10_isWithin woX10_isWithin) := go_S (wl_6 (List.mem_of_getElem? (i := 13) rfl)) (wl_6 (List.mem_of_getElem? (i := 11) rfl)) (wl_6 (List.mem_of_getElem? (i := 12) rfl)) (wl_1 (List.mem_of_getElem? (i := 2) rfl))
theorem gX10_ledger_X10_isWithin : GoodIn woX10_ledger (va_wsS RX10 65 yX10_isWithin woX10_isWithin) := go_S (wl_6 (List.mem_of_getElem? (i := 13) rfl)) (wl_6 (List.mem_of_getElem? (i := 11) rfl)) (wl_6 (List.mem_of_getElem? (i := 12) rfl)) (wl_1 (List.mem_of_getElem? (i := 2) rfl))
theorem gX10_number_X1_unpaidCount : GoodIn woX10_number (wsV RX10 174 RX1 yX1_unpaidCount woX1_unpaidCount) := go_V (wl_31 (List.mem_of_getElem? (i := 0) rfl)) (wl_30 (List.mem_of_getElem? (i := 21) rfl)) (wl_30 (List.mem_of_getElem? (i := 22) rfl)) (wl_30 (List.mem_of_getElem? (i := 23) rfl)) (wl_3 (List.mem_of_getElem? (i := 4) rfl))
theorem gX10_number_X1_unpaidSum : GoodIn woX10_number (wsV RX10 144 RX1 yX1_unpaidSum woX1_unpaidSum) := go_V (wl_21 (List.mem_of_getElem? (i := 5) rfl)) (wl_29 (List.mem_of_getElem? (i := 23) rfl)) (wl_21 (List.mem_of_getElem? (i := 3) rfl)) (wl_21 (List.mem_of_getElem? (i := 4) rfl)) (wl_3 (List.mem_of_getElem? (i := 4) rfl))
theorem gX10_number_X6_debtAfterPosting : GoodIn woX10_number (wsV RX10 168 RX6 yX6_debtAfterPosting woX6_debtAfterPosting) := go_V (wl_17 (List.mem_of_getElem? (i := 7) rfl)) (wl_30 (List.mem_of_getElem? (i := 20) rfl)) (wl_17 (List.mem_of_getElem? (i := 5) rfl)) (wl_17 (List.mem_of_getElem? (i := 6) rfl)) (wl_3 (List.mem_of_getElem? (i := 0) rfl))
theorem gX6_debtAfterPosting_X6_debt : GoodIn woX6_debtAfterPosting (wsV RX6 69 RX6 yX6_debt woX6_debt) := go_V (wl_17 (List.mem_of_getElem? (i := 3) rfl)) (wl_17 (List.mem_of_getElem? (i := 8) rfl)) (wl_17 (List.mem_of_getElem? (i := 1) rfl)) (wl_17 (List.mem_of_getElem? (i := 2) rfl)) (wl_3 (List.mem_of_getElem? (i := 0) rfl))
theorem gX6_debtAfterPosting_X9_toCents : GoodIn woX6_debtAfterPosting (va_wsS RX6 73 yX9_toCents woX9_toCents) := go_S (wl_12 (List.mem_of_getElem? (i := 5) rfl)) (wl_17 (List.mem_of_getElem? (i := 9) rfl)) (wl_12 (List.mem_of_getElem? (i := 3) rfl)) (wl_12 (List.mem_of_getElem? (i := 4) rfl))
theorem gX7_startFrom_J6_bitCount_0f7a4 : GoodIn woX7_startFrom (va_wsS RX7 78 yJ6_bitCount_0f7a4 woJ6_bitCount_0f7a4) := go_S (wl_10 (List.mem_of_getElem? (i := 23) rfl)) (wl_10 (List.mem_of_getElem? (i := 20) rfl)) (wl_10 (List.mem_of_getElem? (i := 21) rfl)) (wl_10 (List.mem_of_getElem? (i := 22) rfl))
set_option maxHeartbeats 4000000 in
set_option maxRecDepth 100000 in
/-- X10_setHoliday, refused: 1 -/
theorem c_X10_setHoliday_1_1 (l : Launch) (hl0 : l.stackTraces = false) (dC : Nat → ClassId) (dI : Nat → Nat → Nat) (k : Nat → ClassId) (h0 hn g1 g2 hea g3 g4 g5 g6 g7 xa1 xa2 xa3 xa4 xa5 xa6 xa7 xa8 xa9 xa10 xa11 : Nat) (xv : Int) (hv9 : -2147483648 ≤ xv ∧ xv ≤ 2147483647) (hv : ¬ (0 ≤ xv ∧ xv ≤ 23)) (sz : Nat) : vx_Met l yX10_setHoliday woX10_setHoliday ({ frames := 8, cells := 1, slots := 6, locals := 123 } : Room) (PcW (dC, dI) k [.ref h0, .int (iI xv), .int (iI 1)] [(h0, .inr (10, [.ref hn, .ref g1, .ref g2, .ref hea, .ref g3, .ref g4, .ref g5, .ref g6, .ref g7, .int (iI 0), .int (iI 0), .int (iI 0), .int (iI (-1)), .int (iI (-1)), .int (iI 0)])), (hn, .inr (2, [.ref xa1, .ref xa2, .ref xa3, .ref xa5, .ref xa8, .int (iI 0), .int (iI 0), .int (iI 0)])), (xa3, .inr (7, [.int (iI 0), .int (iI 0), .int (iI 0), .long (lI 0), .int (iI 0), .int (iI 0), .int (iI 0), .long (lI 0), .long (lI 0), .long (lI 0), .long (lI 0), .long (lI 0), .int (iI 0), .int (iI 0), .int (iI 0), .int (iI 0), .ref xa4]))] sz) (va_Qi (fun (_ : Int32) (_ : Unit) => False) (fun _ _ => True) (va_A [(h0, .inr (10, [.ref hn, .ref g1, .ref g2, .ref hea, .ref g3, .ref g4, .ref g5, .ref g6, .ref g7, .int (iI 0), .int (iI 0), .int (iI 0), .int (iI (-1)), .int (iI (-1)), .int (iI 0)])), (hn, .inr (2, [.ref xa1, .ref xa2, .ref xa3, .ref xa5, .ref xa8, .int (iI 0), .int (iI 0), .int (iI 0)])), (xa3, .inr (7, [.int (iI 0), .int (iI 0), .int (iI 0), .long (lI 0), .int (iI 0), .int (iI 0), .int (iI 0), .long (lI 0), .long (lI 0), .long (lI 0), .long (lI 0), .long (lI 0), .int (iI 0), .int (iI 0), .int (iI 0), .int (iI 0), .ref xa4]))] sz)) (XE "java/lang/IllegalArgumentException" [(h0, .inr (10, [.ref hn, .ref g1, .ref g2, .ref hea, .ref g3, .ref g4, .ref g5, .ref g6, .ref g7, .int (iI 0), .int (iI 0), .int (iI 0), .int (iI (-1)), .int (iI (-1)), .int (iI 0)])), (hn, .inr (2, [.ref xa1, .ref xa2, .ref xa3, .ref xa5, .ref xa8, .int (iI 0), .int (iI 0), .int (iI 0)])), (xa3, .inr (7, [.int (iI 0), .int (iI 0), .int (iI 0), .long (lI 0), .int (iI 0), .int (iI 0), .int (iI 0), .long (lI 0), .long (lI 0), .long (lI 0), .long (lI 0), .long (lI 0), .int (iI 0), .int (iI 0), .int (iI 0), .int (iI 0), .ref xa4]))] sz) 1 6 (va_A [(h0, .inr (10, [.ref hn, .ref g1, .ref g2, .ref hea, .ref g3, .ref g4, .ref g5, .ref g6, .ref g7, .int (iI 0), .int (iI 0), .int (iI 0), .int (iI (-1)), .int (iI (-1)), .int (iI 0)])), (hn, .inr (2, [.ref xa1, .ref xa2, .ref xa3, .ref xa5, .ref xa8, .int (iI 0), .int (iI 0), .int (iI 0)])), (xa3, .inr (7, [.int (iI 0), .int (iI 0), .int (iI 0), .long (lI 0), .int (iI 0), .int (iI 0), .int (iI 0), .long (lI 0), .long (lI 0), .long (lI 0), .long (lI 0), .long (lI 0), .int (iI 0), .int (iI 0), .int (iI 0), .int (iI 0), .ref xa4]))] sz) := by
  refine vx_ofW (cc := cX10_setHoliday) (maxL := 3) (ret := (some .boolean)) (by decide) rfl ?_
  intro p e s mI args below meth cO s₁ B hml htab hv
  obtain ⟨rfl, rfl, hP, hD0, hE⟩ := hv
  have hx := B.exec
  have hb := B.bytes
  have hr := B.returns
  have hts := atoms_spec (ws := woX10_setHoliday) B.pre
  have hown : s.vm.findClass RX10 = some mI.cls := findClass_of_methodNamed B.named
  have hlocks := B.notSynchronized
  have hD := hD0.self (sz := s.heap.size)
  generalize hAe : va_A [(h0, .inr (10, [.ref hn, .ref g1, .ref g2, .ref hea, .ref g3, .ref g4, .ref g5, .ref g6, .ref g7, .int (iI 0), .int (iI 0), .int (iI 0), .int (iI (-1)), .int (iI (-1)), .int (iI 0)])), (hn, .inr (2, [.ref xa1, .ref xa2, .ref xa3, .ref xa5, .ref xa8, .int (iI 0), .int (iI 0), .int (iI 0)])), (xa3, .inr (7, [.int (iI 0), .int (iI 0), .int (iI 0), .long (lI 0), .int (iI 0), .int (iI 0), .int (iI 0), .long (lI 0), .long (lI 0), .long (lI 0), .long (lI 0), .long (lI 0), .int (iI 0), .int (iI 0), .int (iI 0), .int (iI 0), .ref xa4]))] s.heap.size = A at hD hE ⊢
  have hA : ∀ q : Nat, s.heap.size ≤ q → A q := fun q h => by rw [← hAe]; exact Or.inr h
  have hS : va_S A s.heap s.heap [] := va_S.rf
  obtain ⟨hK, hNw, hNc, hZs, hAO1, hAO2⟩ := id hE
  have hSF : CallFix p mI cO cX10_setHoliday 3 s ([.ref h0, .int (iI xv), .int (iI 1)] : List Value).toArray woX10_setHoliday RX10 := ⟨hx, hb, hml, hown, hts⟩
  have hl := lv_entry ([.ref h0, .int (iI xv), .int (iI 1)] : List Value) (n := 3) (Nat.le_of_ble_eq_true rfl)
  rw [lg_entry_eq]
  generalize (lg_sl ([.ref h0, .int (iI xv), .int (iI 1)] : List Value) ++ List.replicate (3 - (lg_sl ([.ref h0, .int (iI xv), .int (iI 1)] : List Value)).length) Slot.unset).toArray = ls at hl ⊢
  have hl : lv_has ls 3 [(0, .ref h0), (1, .int (iI xv)), (2, .int (iI 1))] := hl
  refine W_gen (fun Q hQ => ?_)
  change W p l e ({ frames := 8, cells := 1, slots := 6, locals := 123 } : Room) s mI _ below meth cO s.heap [] 0 0 Q _
  have hP : va_P (dC, dI) vwCl [(h0, .inr (10, [.ref hn, .ref g1, .ref g2, .ref hea, .ref g3, .ref g4, .ref g5, .ref g6, .ref g7, .int (iI 0), .int (iI 0), .int (iI 0), .int (iI (-1)), .int (iI (-1)), .int (iI 0)])), (hn, .inr (2, [.ref xa1, .ref xa2, .ref xa3, .ref xa5, .ref xa8, .int (iI 0), .int (iI 0), .int (iI 0)])), (xa3, .inr (7, [.int (iI 0), .int (iI 0), .int (iI 0), .long (lI 0), .int (iI 0), .int (iI 0), .int (iI 0), .long (lI 0), .long (lI 0), .long (lI 0), .long (lI 0), .long (lI 0), .int (iI 0), .int (iI 0), .int (iI 0), .int (iI 0), .ref xa4]))] s.heap := hP
  refine lv_aload_n hx hb dX10_setHoliday_0 rfl (lv_at hl 0 rfl) ?_
  refine lv_iload_n hx hb dX10_setHoliday_1 rfl (lv_at hl 2 rfl) ?_
  refine q_if_eq (tgt := 10) hx hb dX10_setHoliday_2 (by decide) (by omega) (fun q => absurd q (by omega)) (fun _ => ?_)
  refine q_bipush (z := 7) hx hb dX10_setHoliday_5 (by decide) ?_
  refine lv_goto (tgt := 12) hx hb dX10_setHoliday_7 (by decide) ?_
  refine lv_iload_n hx hb dX10_setHoliday_12 rfl (lv_at hl 1 rfl) ?_
  refine kxi (vx_runV (As := [.int (iI 7), .int (iI xv)]) (rest := []) hSF ((c_X10_command_7_1 l hl0 dC dI k h0 hn g1 g2 hea g3 g4 g5 g6 g7 xa1 xa2 xa3 xa4 xa5 0 0 xa8 0 0 0 xv (by omega) (by omega)) s.heap.size) (cwV 2 hts gX10_setHoliday_X10_command rfl rfl rfl (by decide +kernel) ⟨Nat.le_of_ble_eq_true rfl, Nat.le_of_ble_eq_true rfl⟩) (preV hP hD hE hS hA [0, 1, 2] rfl (by decide) (ci := 10) (q0 := 0) rfl rfl) rfl rfl hl.1 rfl (lv_room (Nat.le_of_ble_eq_true rfl)) dX10_setHoliday_13 ⟨Nat.le_of_ble_eq_true rfl, Nat.le_of_ble_eq_true rfl⟩) hP hD hS hA [0, 1, 2] [] rfl (wr := []) rfl (by decide) (by decide) (fun ce q9 H locs hP hD hS hc9 hv9 hcl => ?_)
  rw [hQ]
  exact vx_out (fun x hx => (htab x hx).elim) hlocks hc9 hv9 hcl (fun t ht _ => XE_of hAe hS (by rw [ht]; exact Nat.le_refl _) (fun q _ => by rw [ht])) hS.2.2 (Nat.le_of_ble_eq_true rfl) (Nat.le_of_ble_eq_true rfl)
set_option maxHeartbeats 4000000 in
set_option maxRecDepth 100000 in
/-- X10_setHoliday, refused: 2 -/
theorem c_X10_setHoliday_1_2 (l : Launch) (hl0 : l.stackTraces = false) (dC : Nat → ClassId) (dI : Nat → Nat → Nat) (k : Nat → ClassId) (h0 hn g1 g2 hea g3 g4 g5 g6 g7 xa1 xa2 xa3 xa4 xa5 xa6 xa7 xa8 xa9 xa10 xa11 : Nat) (xv : Int) (hv9 : -2147483648 ≤ xv ∧ xv ≤ 2147483647) (hv : 0 ≤ xv ∧ xv ≤ 23) (sz : Nat) : vx_Met l yX10_setHoliday woX10_setHoliday ({ frames := 8, cells := 1, slots := 6, locals := 123 } : Room) (PcW (dC, dI) k [.ref h0, .int (iI xv), .int (iI 1)] [(h0, .inr (10, [.ref hn, .ref g1, .ref g2, .ref hea, .ref g3, .ref g4, .ref g5, .ref g6, .ref g7, .int (iI 0), .int (iI 0), .int (iI 0), .int (iI (-1)), .int (iI (-1)), .int (iI 0)])), (hn, .inr (2, [.ref xa1, .ref xa2, .ref xa3, .ref xa5, .ref xa8, .int (iI 0), .int (iI 0), .int (iI 0)])), (xa3, .inr (7, [.int (iI 0), .int (iI 0), .int (iI 0), .long (lI 0), .int (iI 0), .int (iI 0), .int (iI 0), .long (lI 0), .long (lI 0), .long (lI 0), .long (lI 0), .long (lI 0), .int (iI 0), .int (iI 0), .int (iI 0), .int (iI 0), .ref xa4]))] sz) (va_Qi (fun (_ : Int32) (_ : Unit) => False) (fun _ _ => True) (va_A [(h0, .inr (10, [.ref hn, .ref g1, .ref g2, .ref hea, .ref g3, .ref g4, .ref g5, .ref g6, .ref g7, .int (iI 0), .int (iI 0), .int (iI 0), .int (iI (-1)), .int (iI (-1)), .int (iI 0)])), (hn, .inr (2, [.ref xa1, .ref xa2, .ref xa3, .ref xa5, .ref xa8, .int (iI 0), .int (iI 0), .int (iI 0)])), (xa3, .inr (7, [.int (iI 0), .int (iI 0), .int (iI 0), .long (lI 0), .int (iI 0), .int (iI 0), .int (iI 0), .long (lI 0), .long (lI 0), .long (lI 0), .long (lI 0), .long (lI 0), .int (iI 0), .int (iI 0), .int (iI 0), .int (iI 0), .ref xa4]))] sz)) (XE "java/lang/IllegalStateException" [(h0, .inr (10, [.ref hn, .ref g1, .ref g2, .ref hea, .ref g3, .ref g4, .ref g5, .ref g6, .ref g7, .int (iI 0), .int (iI 0), .int (iI 0), .int (iI (-1)), .int (iI (-1)), .int (iI 0)])), (hn, .inr (2, [.ref xa1, .ref xa2, .ref xa3, .ref xa5, .ref xa8, .int (iI 0), .int (iI 0), .int (iI 0)])), (xa3, .inr (7, [.int (iI 0), .int (iI 0), .int (iI 0), .long (lI 0), .int (iI 0), .int (iI 0), .int (iI 0), .long (lI 0), .long (lI 0), .long (lI 0), .long (lI 0), .long (lI 0), .int (iI 0), .int (iI 0), .int (iI 0), .int (iI 0), .ref xa4]))] sz) 1 6 (va_A [(h0, .inr (10, [.ref hn, .ref g1, .ref g2, .ref hea, .ref g3, .ref g4, .ref g5, .ref g6, .ref g7, .int (iI 0), .int (iI 0), .int (iI 0), .int (iI (-1)), .int (iI (-1)), .int (iI 0)])), (hn, .inr (2, [.ref xa1, .ref xa2, .ref xa3, .ref xa5, .ref xa8, .int (iI 0), .int (iI 0), .int (iI 0)])), (xa3, .inr (7, [.int (iI 0), .int (iI 0), .int (iI 0), .long (lI 0), .int (iI 0), .int (iI 0), .int (iI 0), .long (lI 0), .long (lI 0), .long (lI 0), .long (lI 0), .long (lI 0), .int (iI 0), .int (iI 0), .int (iI 0), .int (iI 0), .ref xa4]))] sz) := by
  refine vx_ofW (cc := cX10_setHoliday) (maxL := 3) (ret := (some .boolean)) (by decide) rfl ?_
  intro p e s mI args below meth cO s₁ B hml htab hv
  obtain ⟨rfl, rfl, hP, hD0, hE⟩ := hv
  have hx := B.exec
  have hb := B.bytes
  have hr := B.returns
  have hts := atoms_spec (ws := woX10_setHoliday) B.pre
  have hown : s.vm.findClass RX10 = some mI.cls := findClass_of_methodNamed B.named
  have hlocks := B.notSynchronized
  have hD := hD0.self (sz := s.heap.size)
  generalize hAe : va_A [(h0, .inr (10, [.ref hn, .ref g1, .ref g2, .ref hea, .ref g3, .ref g4, .ref g5, .ref g6, .ref g7, .int (iI 0), .int (iI 0), .int (iI 0), .int (iI (-1)), .int (iI (-1)), .int (iI 0)])), (hn, .inr (2, [.ref xa1, .ref xa2, .ref xa3, .ref xa5, .ref xa8, .int (iI 0), .int (iI 0), .int (iI 0)])), (xa3, .inr (7, [.int (iI 0), .int (iI 0), .int (iI 0), .long (lI 0), .int (iI 0), .int (iI 0), .int (iI 0), .long (lI 0), .long (lI 0), .long (lI 0), .long (lI 0), .long (lI 0), .int (iI 0), .int (iI 0), .int (iI 0), .int (iI 0), .ref xa4]))] s.heap.size = A at hD hE ⊢
  have hA : ∀ q : Nat, s.heap.size ≤ q → A q := fun q h => by rw [← hAe]; exact Or.inr h
  have hS : va_S A s.heap s.heap [] := va_S.rf
  obtain ⟨hK, hNw, hNc, hZs, hAO1, hAO2⟩ := id hE
  have hSF : CallFix p mI cO cX10_setHoliday 3 s ([.ref h0, .int (iI xv), .int (iI 1)] : List Value).toArray woX10_setHoliday RX10 := ⟨hx, hb, hml, hown, hts⟩
  have hl := lv_entry ([.ref h0, .int (iI xv), .int (iI 1)] : List Value) (n := 3) (Nat.le_of_ble_eq_true rfl)
  rw [lg_entry_eq]
  generalize (lg_sl ([.ref h0, .int (iI xv), .int (iI 1)] : List Value) ++ List.replicate (3 - (lg_sl ([.ref h0, .int (iI xv), .int (iI 1)] : List Value)).length) Slot.unset).toArray = ls at hl ⊢
  have hl : lv_has ls 3 [(0, .ref h0), (1, .int (iI xv)), (2, .int (iI 1))] := hl
  refine W_gen (fun Q hQ => ?_)
  change W p l e ({ frames := 8, cells := 1, slots := 6, locals := 123 } : Room) s mI _ below meth cO s.heap [] 0 0 Q _
  have hP : va_P (dC, dI) vwCl [(h0, .inr (10, [.ref hn, .ref g1, .ref g2, .ref hea, .ref g3, .ref g4, .ref g5, .ref g6, .ref g7, .int (iI 0), .int (iI 0), .int (iI 0), .int (iI (-1)), .int (iI (-1)), .int (iI 0)])), (hn, .inr (2, [.ref xa1, .ref xa2, .ref xa3, .ref xa5, .ref xa8, .int (iI 0), .int (iI 0), .int (iI 0)])), (xa3, .inr (7, [.int (iI 0), .int (iI 0), .int (iI 0), .long (lI 0), .int (iI 0), .int (iI 0), .int (iI 0), .long (lI 0), .long (lI 0), .long (lI 0), .long (lI 0), .long (lI 0), .int (iI 0), .int (iI 0), .int (iI 0), .int (iI 0), .ref xa4]))] s.heap := hP
  refine lv_aload_n hx hb dX10_setHoliday_0 rfl (lv_at hl 0 rfl) ?_
  refine lv_iload_n hx hb dX10_setHoliday_1 rfl (lv_at hl 2 rfl) ?_
  refine q_if_eq (tgt := 10) hx hb dX10_setHoliday_2 (by decide) (by omega) (fun q => absurd q (by omega)) (fun _ => ?_)
  refine q_bipush (z := 7) hx hb dX10_setHoliday_5 (by decide) ?_
  refine lv_goto (tgt := 12) hx hb dX10_setHoliday_7 (by decide) ?_
  refine lv_iload_n hx hb dX10_setHoliday_12 rfl (lv_at hl 1 rfl) ?_
  refine kxi (vx_runV (As := [.int (iI 7), .int (iI xv)]) (rest := []) hSF ((c_X10_command_7_2 l hl0 dC dI k h0 hn g1 g2 hea g3 g4 g5 g6 g7 xa1 xa2 xa3 xa4 xa5 0 0 xa8 0 0 0 xv (by omega) (by omega)) s.heap.size) (cwV 2 hts gX10_setHoliday_X10_command rfl rfl rfl (by decide +kernel) ⟨Nat.le_of_ble_eq_true rfl, Nat.le_of_ble_eq_true rfl⟩) (preV hP hD hE hS hA [0, 1, 2] rfl (by decide) (ci := 10) (q0 := 0) rfl rfl) rfl rfl hl.1 rfl (lv_room (Nat.le_of_ble_eq_true rfl)) dX10_setHoliday_13 ⟨Nat.le_of_ble_eq_true rfl, Nat.le_of_ble_eq_true rfl⟩) hP hD hS hA [0, 1, 2] [] rfl (wr := []) rfl (by decide) (by decide) (fun ce q9 H locs hP hD hS hc9 hv9 hcl => ?_)
  rw [hQ]
  exact vx_out (fun x hx => (htab x hx).elim) hlocks hc9 hv9 hcl (fun t ht _ => XE_of hAe hS (by rw [ht]; exact Nat.le_refl _) (fun q _ => by rw [ht])) hS.2.2 (Nat.le_of_ble_eq_true rfl) (Nat.le_of_ble_eq_true rfl)
set_option maxHeartbeats 4000000 in
set_option maxRecDepth 100000 in
/-- explain of nothing -/
theorem c_X10_explain_x (l : Launch) (hl0 : l.stackTraces = false) (dC : Nat → ClassId) (dI : Nat → Nat → Nat) (k : Nat → ClassId) (h0 hn g1 g2 hea g3 g4 g5 g6 g7 xa1 xa2 xa3 xa4 xa5 xa6 xa7 xa8 xa9 xa10 xa11 : Nat) (xv xw9 : Int) (hv9 : -2147483648 ≤ xv ∧ xv ≤ 2147483647 ∧ -2147483648 ≤ xw9 ∧ xw9 ≤ 2147483647) (hv : ¬ (0 ≤ xw9 ∧ xw9 ≤ 5)) (sz : Nat) : vx_Met l yX10_explain woX10_explain ({ frames := 6, cells := 1, slots := 6, locals := 81 } : Room) (PcW (dC, dI) k [.ref h0, .int (iI xv), .int (iI xw9)] [(h0, .inr (10, [.ref hn, .ref g1, .ref g2, .ref hea, .ref g3, .ref g4, .ref g5, .ref g6, .ref g7, .int (iI 0), .int (iI 0), .int (iI 0), .int (iI (-1)), .int (iI (-1)), .int (iI 0)]))] sz) (va_Qi (fun (_ : Int32) (_ : Unit) => False) (fun _ _ => True) (va_A [(h0, .inr (10, [.ref hn, .ref g1, .ref g2, .ref hea, .ref g3, .ref g4, .ref g5, .ref g6, .ref g7, .int (iI 0), .int (iI 0), .int (iI 0), .int (iI (-1)), .int (iI (-1)), .int (iI 0)]))] sz)) (XE "java/lang/IllegalArgumentException" [(h0, .inr (10, [.ref hn, .ref g1, .ref g2, .ref hea, .ref g3, .ref g4, .ref g5, .ref g6, .ref g7, .int (iI 0), .int (iI 0), .int (iI 0), .int (iI (-1)), .int (iI (-1)), .int (iI 0)]))] sz) 1 6 (va_A [(h0, .inr (10, [.ref hn, .ref g1, .ref g2, .ref hea, .ref g3, .ref g4, .ref g5, .ref g6, .ref g7, .int (iI 0), .int (iI 0), .int (iI 0), .int (iI (-1)), .int (iI (-1)), .int (iI 0)]))] sz) := by
  refine vx_ofW (cc := cX10_explain) (maxL := 3) (ret := (some .int)) (by decide) rfl ?_
  intro p e s mI args below meth cO s₁ B hml htab hv
  obtain ⟨rfl, rfl, hP, hD0, hE⟩ := hv
  have hx := B.exec
  have hb := B.bytes
  have hr := B.returns
  have hts := atoms_spec (ws := woX10_explain) B.pre
  have hown : s.vm.findClass RX10 = some mI.cls := findClass_of_methodNamed B.named
  have hlocks := B.notSynchronized
  have hD := hD0.self (sz := s.heap.size)
  generalize hAe : va_A [(h0, .inr (10, [.ref hn, .ref g1, .ref g2, .ref hea, .ref g3, .ref g4, .ref g5, .ref g6, .ref g7, .int (iI 0), .int (iI 0), .int (iI 0), .int (iI (-1)), .int (iI (-1)), .int (iI 0)]))] s.heap.size = A at hD hE ⊢
  have hA : ∀ q : Nat, s.heap.size ≤ q → A q := fun q h => by rw [← hAe]; exact Or.inr h
  have hS : va_S A s.heap s.heap [] := va_S.rf
  obtain ⟨hK, hNw, hNc, hZs, hAO1, hAO2⟩ := id hE
  have hSF : CallFix p mI cO cX10_explain 3 s ([.ref h0, .int (iI xv), .int (iI xw9)] : List Value).toArray woX10_explain RX10 := ⟨hx, hb, hml, hown, hts⟩
  have hl := lv_entry ([.ref h0, .int (iI xv), .int (iI xw9)] : List Value) (n := 3) (Nat.le_of_ble_eq_true rfl)
  rw [lg_entry_eq]
  generalize (lg_sl ([.ref h0, .int (iI xv), .int (iI xw9)] : List Value) ++ List.replicate (3 - (lg_sl ([.ref h0, .int (iI xv), .int (iI xw9)] : List Value)).length) Slot.unset).toArray = ls at hl ⊢
  have hl : lv_has ls 3 [(0, .ref h0), (1, .int (iI xv)), (2, .int (iI xw9))] := hl
  refine W_gen (fun Q hQ => ?_)
  change W p l e ({ frames := 6, cells := 1, slots := 6, locals := 81 } : Room) s mI _ below meth cO s.heap [] 0 0 Q _
  have hP : va_P (dC, dI) vwCl [(h0, .inr (10, [.ref hn, .ref g1, .ref g2, .ref hea, .ref g3, .ref g4, .ref g5, .ref g6, .ref g7, .int (iI 0), .int (iI 0), .int (iI 0), .int (iI (-1)), .int (iI (-1)), .int (iI 0)]))] s.heap := hP
  refine lv_iload_n hx hb dX10_explain_0 rfl (lv_at hl 2 rfl) ?_
  refine q_iconst hx hb dX10_explain_1 ?_
  refine q_iconst hx hb dX10_explain_2 ?_
  refine ki (va_runS (As := [.int (iI xw9), .int (iI 0), .int (iI 5)]) (rest := []) hSF ((c_X10_isWithin l dC dI k xw9 0 5 (by omega)) s.heap.size) (va_cwS 3 hts gX10_explain_X10_isWithin rfl rfl rfl (by decide +kernel) ⟨Nat.le_of_ble_eq_true rfl, Nat.le_of_ble_eq_true rfl⟩) (preS hP hD hE hS hA [] rfl (by decide)) rfl rfl hl.1 rfl (lv_room (Nat.le_of_ble_eq_true rfl)) dX10_explain_3 ⟨Nat.le_of_ble_eq_true rfl, Nat.le_of_ble_eq_true rfl⟩) hP hD hS hA [] [0] rfl (wr := [(h0, .inr (10, [.ref hn, .ref g1, .ref g2, .ref hea, .ref g3, .ref g4, .ref g5, .ref g6, .ref g7, .int (iI 0), .int (iI 0), .int (iI 0), .int (iI (-1)), .int (iI (-1)), .int (iI 0)]))]) rfl (by decide) (by decide) (fun r3 _ H locs hw hP hD hS => ?_)
  obtain rfl : r3 = iI 0 := hw.trans (by rw [wi0 (by omega)])
  have hP : va_P (dC, dI) vwCl [(h0, .inr (10, [.ref hn, .ref g1, .ref g2, .ref hea, .ref g3, .ref g4, .ref g5, .ref g6, .ref g7, .int (iI 0), .int (iI 0), .int (iI 0), .int (iI (-1)), .int (iI (-1)), .int (iI 0)]))] H := hP
  have hD : va_D A [(h0, .inr (10, [.ref hn, .ref g1, .ref g2, .ref hea, .ref g3, .ref g4, .ref g5, .ref g6, .ref g7, .int (iI 0), .int (iI 0), .int (iI 0), .int (iI (-1)), .int (iI (-1)), .int (iI 0)]))] := hD
  refine q_if_ne (tgt := 17) hx hb dX10_explain_6 (by decide) (by omega) (fun q => absurd q (by omega)) (fun _ => ?_)
  have hat : ∀ w ∈ vx_at0 RX10 71 "java/lang/IllegalArgumentException" ["java/lang/RuntimeException", "java/lang/Exception"], w.before ([.ref h0, .int (iI xv), .int (iI xw9)] : List Value).toArray s = true := vx_hat (B := [.declares ⟨"java/lang/RuntimeException", "<init>", "()V"⟩, .declares ⟨"java/lang/Exception", "<init>", "()V"⟩, .declares ⟨"java/lang/Throwable", "<init>", "()V"⟩, .castable "java/lang/IllegalArgumentException" "java/lang/IllegalArgumentException"]) (fun w hw => hts w (List.mem_cons_of_mem _ (List.mem_append_left _ (List.mem_append_left _ (List.mem_append_left _ (List.mem_append_left _ (List.mem_append_left _ (List.mem_append_left _ (List.mem_append_right _ hw))))))))) (by decide +kernel) (vx_c (va_Nw.use rfl (hNw _ (List.mem_of_getElem? (i := 64) rfl))) (vx_c (va_Nw.use rfl (hNw _ (List.mem_of_getElem? (i := 62) rfl))) (vx_c (va_Nw.use rfl (hNw _ (List.mem_of_getElem? (i := 65) rfl))) (vx_c (va_Nw.use rfl (hNw _ (List.mem_of_getElem? (i := 66) rfl))) vx_n))))
  rw [hQ]
  exact vx_throw0 hx hb hl0 (own := RX10) (cls := "java/lang/IllegalArgumentException") (names := ["java/lang/RuntimeException", "java/lang/Exception"]) hown (by decide) (by decide) (hts (.classLink RX10 69 "java/lang/IllegalArgumentException") (List.mem_cons_of_mem _ (wl_6 (List.mem_of_getElem? (i := 8) rfl)))) (hts (.initialized "java/lang/IllegalArgumentException") (List.mem_cons_of_mem _ (wl_6 (List.mem_of_getElem? (i := 9) rfl)))) hat (by decide +kernel) hZs.2.2.1 hZs.2.2.2 hS (hl.1.trans hml.symm) dX10_explain_9 dX10_explain_12 dX10_explain_13 dX10_explain_16 (fun x hx => (htab x hx).elim) (Nat.le_of_ble_eq_true rfl) (Nat.le_of_ble_eq_true rfl) (Nat.le_of_ble_eq_true rfl) (Nat.le_of_ble_eq_true rfl) hlocks (fun t ht hz hq => XE_of hAe hS hz hq) hS.2.2 (Nat.le_of_ble_eq_true rfl) (Nat.le_of_ble_eq_true rfl)
set_option maxHeartbeats 4000000 in
set_option maxRecDepth 100000 in
/-- explain, refused: 1 -/
theorem c_X10_explain_1 (l : Launch) (hl0 : l.stackTraces = false) (dC : Nat → ClassId) (dI : Nat → Nat → Nat) (k : Nat → ClassId) (h0 hn g1 g2 hea g3 g4 g5 g6 g7 xa1 xa2 xa3 xa4 xa5 xa6 xa7 xa8 xa9 xa10 xa11 : Nat) (xv xw9 : Int) (hv9 : -2147483648 ≤ xv ∧ xv ≤ 2147483647 ∧ -2147483648 ≤ xw9 ∧ xw9 ≤ 2147483647) (hv : (0 ≤ xw9 ∧ xw9 ≤ 5) ∧ ¬ (0 < xv)) (sz : Nat) : vx_Met l yX10_explain woX10_explain ({ frames := 7, cells := 1, slots := 6, locals := 101 } : Room) (PcW (dC, dI) k [.ref h0, .int (iI xv), .int (iI xw9)] [(h0, .inr (10, [.ref hn, .ref g1, .ref g2, .ref hea, .ref g3, .ref g4, .ref g5, .ref g6, .ref g7, .int (iI 0), .int (iI 0), .int (iI 0), .int (iI (-1)), .int (iI (-1)), .int (iI 0)])), (hn, .inr (2, [.ref xa1, .ref xa2, .ref xa3, .ref xa5, .ref xa8, .int (iI 0), .int (iI 0), .int (iI 0)])), (xa3, .inr (7, [.int (iI 0), .int (iI 0), .int (iI 0), .long (lI 0), .int (iI 0), .int (iI 0), .int (iI 0), .long (lI 0), .long (lI 0), .long (lI 0), .long (lI 0), .long (lI 0), .int (iI 0), .int (iI 0), .int (iI 0), .int (iI 0), .ref xa4]))] sz) (va_Qi (fun (_ : Int32) (_ : Unit) => False) (fun _ _ => True) (va_A [(h0, .inr (10, [.ref hn, .ref g1, .ref g2, .ref hea, .ref g3, .ref g4, .ref g5, .ref g6, .ref g7, .int (iI 0), .int (iI 0), .int (iI 0), .int (iI (-1)), .int (iI (-1)), .int (iI 0)])), (hn, .inr (2, [.ref xa1, .ref xa2, .ref xa3, .ref xa5, .ref xa8, .int (iI 0), .int (iI 0), .int (iI 0)])), (xa3, .inr (7, [.int (iI 0), .int (iI 0), .int (iI 0), .long (lI 0), .int (iI 0), .int (iI 0), .int (iI 0), .long (lI 0), .long (lI 0), .long (lI 0), .long (lI 0), .long (lI 0), .int (iI 0), .int (iI 0), .int (iI 0), .int (iI 0), .ref xa4]))] sz)) (XE "java/lang/IllegalArgumentException" [(h0, .inr (10, [.ref hn, .ref g1, .ref g2, .ref hea, .ref g3, .ref g4, .ref g5, .ref g6, .ref g7, .int (iI 0), .int (iI 0), .int (iI 0), .int (iI (-1)), .int (iI (-1)), .int (iI 0)])), (hn, .inr (2, [.ref xa1, .ref xa2, .ref xa3, .ref xa5, .ref xa8, .int (iI 0), .int (iI 0), .int (iI 0)])), (xa3, .inr (7, [.int (iI 0), .int (iI 0), .int (iI 0), .long (lI 0), .int (iI 0), .int (iI 0), .int (iI 0), .long (lI 0), .long (lI 0), .long (lI 0), .long (lI 0), .long (lI 0), .int (iI 0), .int (iI 0), .int (iI 0), .int (iI 0), .ref xa4]))] sz) 1 6 (va_A [(h0, .inr (10, [.ref hn, .ref g1, .ref g2, .ref hea, .ref g3, .ref g4, .ref g5, .ref g6, .ref g7, .int (iI 0), .int (iI 0), .int (iI 0), .int (iI (-1)), .int (iI (-1)), .int (iI 0)])), (hn, .inr (2, [.ref xa1, .ref xa2, .ref xa3, .ref xa5, .ref xa8, .int (iI 0), .int (iI 0), .int (iI 0)])), (xa3, .inr (7, [.int (iI 0), .int (iI 0), .int (iI 0), .long (lI 0), .int (iI 0), .int (iI 0), .int (iI 0), .long (lI 0), .long (lI 0), .long (lI 0), .long (lI 0), .long (lI 0), .int (iI 0), .int (iI 0), .int (iI 0), .int (iI 0), .ref xa4]))] sz) := by
  refine vx_ofW (cc := cX10_explain) (maxL := 3) (ret := (some .int)) (by decide) rfl ?_
  intro p e s mI args below meth cO s₁ B hml htab hv
  obtain ⟨rfl, rfl, hP, hD0, hE⟩ := hv
  have hx := B.exec
  have hb := B.bytes
  have hr := B.returns
  have hts := atoms_spec (ws := woX10_explain) B.pre
  have hown : s.vm.findClass RX10 = some mI.cls := findClass_of_methodNamed B.named
  have hlocks := B.notSynchronized
  have hD := hD0.self (sz := s.heap.size)
  generalize hAe : va_A [(h0, .inr (10, [.ref hn, .ref g1, .ref g2, .ref hea, .ref g3, .ref g4, .ref g5, .ref g6, .ref g7, .int (iI 0), .int (iI 0), .int (iI 0), .int (iI (-1)), .int (iI (-1)), .int (iI 0)])), (hn, .inr (2, [.ref xa1, .ref xa2, .ref xa3, .ref xa5, .ref xa8, .int (iI 0), .int (iI 0), .int (iI 0)])), (xa3, .inr (7, [.int (iI 0), .int (iI 0), .int (iI 0), .long (lI 0), .int (iI 0), .int (iI 0), .int (iI 0), .long (lI 0), .long (lI 0), .long (lI 0), .long (lI 0), .long (lI 0), .int (iI 0), .int (iI 0), .int (iI 0), .int (iI 0), .ref xa4]))] s.heap.size = A at hD hE ⊢
  have hA : ∀ q : Nat, s.heap.size ≤ q → A q := fun q h => by rw [← hAe]; exact Or.inr h
  have hS : va_S A s.heap s.heap [] := va_S.rf
  obtain ⟨hK, hNw, hNc, hZs, hAO1, hAO2⟩ := id hE
  have hSF : CallFix p mI cO cX10_explain 3 s ([.ref h0, .int (iI xv), .int (iI xw9)] : List Value).toArray woX10_explain RX10 := ⟨hx, hb, hml, hown, hts⟩
  have hl := lv_entry ([.ref h0, .int (iI xv), .int (iI xw9)] : List Value) (n := 3) (Nat.le_of_ble_eq_true rfl)
  rw [lg_entry_eq]
  generalize (lg_sl ([.ref h0, .int (iI xv), .int (iI xw9)] : List Value) ++ List.replicate (3 - (lg_sl ([.ref h0, .int (iI xv), .int (iI xw9)] : List Value)).length) Slot.unset).toArray = ls at hl ⊢
  have hl : lv_has ls 3 [(0, .ref h0), (1, .int (iI xv)), (2, .int (iI xw9))] := hl
  refine W_gen (fun Q hQ => ?_)
  change W p l e ({ frames := 7, cells := 1, slots := 6, locals := 101 } : Room) s mI _ below meth cO s.heap [] 0 0 Q _
  have hP : va_P (dC, dI) vwCl [(h0, .inr (10, [.ref hn, .ref g1, .ref g2, .ref hea, .ref g3, .ref g4, .ref g5, .ref g6, .ref g7, .int (iI 0), .int (iI 0), .int (iI 0), .int (iI (-1)), .int (iI (-1)), .int (iI 0)])), (hn, .inr (2, [.ref xa1, .ref xa2, .ref xa3, .ref xa5, .ref xa8, .int (iI 0), .int (iI 0), .int (iI 0)])), (xa3, .inr (7, [.int (iI 0), .int (iI 0), .int (iI 0), .long (lI 0), .int (iI 0), .int (iI 0), .int (iI 0), .long (lI 0), .long (lI 0), .long (lI 0), .long (lI 0), .long (lI 0), .int (iI 0), .int (iI 0), .int (iI 0), .int (iI 0), .ref xa4]))] s.heap := hP
  refine lv_iload_n hx hb dX10_explain_0 rfl (lv_at hl 2 rfl) ?_
  refine q_iconst hx hb dX10_explain_1 ?_
  refine q_iconst hx hb dX10_explain_2 ?_
  refine ki (va_runS (As := [.int (iI xw9), .int (iI 0), .int (iI 5)]) (rest := []) hSF ((c_X10_isWithin l dC dI k xw9 0 5 (by omega)) s.heap.size) (va_cwS 3 hts gX10_explain_X10_isWithin rfl rfl rfl (by decide +kernel) ⟨Nat.le_of_ble_eq_true rfl, Nat.le_of_ble_eq_true rfl⟩) (preS hP hD hE hS hA [] rfl (by decide)) rfl rfl hl.1 rfl (lv_room (Nat.le_of_ble_eq_true rfl)) dX10_explain_3 ⟨Nat.le_of_ble_eq_true rfl, Nat.le_of_ble_eq_true rfl⟩) hP hD hS hA [] [0, 1, 2] rfl (wr := [(h0, .inr (10, [.ref hn, .ref g1, .ref g2, .ref hea, .ref g3, .ref g4, .ref g5, .ref g6, .ref g7, .int (iI 0), .int (iI 0), .int (iI 0), .int (iI (-1)), .int (iI (-1)), .int (iI 0)])), (hn, .inr (2, [.ref xa1, .ref xa2, .ref xa3, .ref xa5, .ref xa8, .int (iI 0), .int (iI 0), .int (iI 0)])), (xa3, .inr (7, [.int (iI 0), .int (iI 0), .int (iI 0), .long (lI 0), .int (iI 0), .int (iI 0), .int (iI 0), .long (lI 0), .long (lI 0), .long (lI 0), .long (lI 0), .long (lI 0), .int (iI 0), .int (iI 0), .int (iI 0), .int (iI 0), .ref xa4]))]) rfl (by decide) (by decide) (fun r3 _ H locs hw hP hD hS => ?_)
  obtain rfl : r3 = iI 1 := hw.trans (by rw [wi1 (by omega)])
  have hP : va_P (dC, dI) vwCl [(h0, .inr (10, [.ref hn, .ref g1, .ref g2, .ref hea, .ref g3, .ref g4, .ref g5, .ref g6, .ref g7, .int (iI 0), .int (iI 0), .int (iI 0), .int (iI (-1)), .int (iI (-1)), .int (iI 0)])), (hn, .inr (2, [.ref xa1, .ref xa2, .ref xa3, .ref xa5, .ref xa8, .int (iI 0), .int (iI 0), .int (iI 0)])), (xa3, .inr (7, [.int (iI 0), .int (iI 0), .int (iI 0), .long (lI 0), .int (iI 0), .int (iI 0), .int (iI 0), .long (lI 0), .long (lI 0), .long (lI 0), .long (lI 0), .long (lI 0), .int (iI 0), .int (iI 0), .int (iI 0), .int (iI 0), .ref xa4]))] H := hP
  have hD : va_D A [(h0, .inr (10, [.ref hn, .ref g1, .ref g2, .ref hea, .ref g3, .ref g4, .ref g5, .ref g6, .ref g7, .int (iI 0), .int (iI 0), .int (iI 0), .int (iI (-1)), .int (iI (-1)), .int (iI 0)])), (hn, .inr (2, [.ref xa1, .ref xa2, .ref xa3, .ref xa5, .ref xa8, .int (iI 0), .int (iI 0), .int (iI 0)])), (xa3, .inr (7, [.int (iI 0), .int (iI 0), .int (iI 0), .long (lI 0), .int (iI 0), .int (iI 0), .int (iI 0), .long (lI 0), .long (lI 0), .long (lI 0), .long (lI 0), .long (lI 0), .int (iI 0), .int (iI 0), .int (iI 0), .int (iI 0), .ref xa4]))] := hD
  refine q_if_ne (tgt := 17) hx hb dX10_explain_6 (by decide) (by omega) (fun _ => ?_) (fun q => absurd q (by omega))
  refine lv_aload_n hx hb dX10_explain_17 rfl (lv_at hl 0 rfl) ?_
  refine va_get (D := (dC, dI)) (ci := 10) (v := .ref hn) (C := RX10) (T := TX10) (N := 15) hx hb hts (fun _ h => List.mem_cons_of_mem _ (inlX10 _ h)) hown hK hP 0 rfl rfl 0 (by decide) (hts (.fieldLink RX10 10 "LoanServicing" "now" "LLoanServicing$Account;") (List.mem_cons_of_mem _ (wl_1 (List.mem_of_getElem? (i := 17) rfl)))) (fun _ h9 => h9) rfl dX10_explain_18 ?_
  refine q_bipush (z := 9) hx hb dX10_explain_21 (by decide) ?_
  refine lv_iload_n hx hb dX10_explain_23 rfl (lv_at hl 1 rfl) ?_
  refine ki (va_runV (As := [.int (iI 9), .int (iI xv)]) (rest := []) hSF ((c_X0_refusal_9_1 l dC dI k hn xa1 xa2 xa3 xa4 xa5 0 0 xa8 0 0 0 xv (by omega) (by omega)) H.size) (cwV 2 hts gX10_explain_X0_refusal rfl rfl rfl (by decide +kernel) ⟨Nat.le_of_ble_eq_true rfl, Nat.le_of_ble_eq_true rfl⟩) (preV hP hD hE hS hA [1, 2] rfl (by decide) (ci := 2) (q0 := 1) rfl rfl) rfl rfl hl.1 rfl (lv_room (Nat.le_of_ble_eq_true rfl)) dX10_explain_24 ⟨Nat.le_of_ble_eq_true rfl, Nat.le_of_ble_eq_true rfl⟩) hP hD hS hA [1, 2] [0] rfl (wr := [(h0, .inr (10, [.ref hn, .ref g1, .ref g2, .ref hea, .ref g3, .ref g4, .ref g5, .ref g6, .ref g7, .int (iI 0), .int (iI 0), .int (iI 0), .int (iI (-1)), .int (iI (-1)), .int (iI 0)]))]) rfl (by decide) (by decide) (fun r24 _ H locs hw hP hD hS => ?_)
  obtain rfl : r24 = (iI 1) := hw
  have hP : va_P (dC, dI) vwCl [(h0, .inr (10, [.ref hn, .ref g1, .ref g2, .ref hea, .ref g3, .ref g4, .ref g5, .ref g6, .ref g7, .int (iI 0), .int (iI 0), .int (iI 0), .int (iI (-1)), .int (iI (-1)), .int (iI 0)])), (hn, .inr (2, [.ref xa1, .ref xa2, .ref xa3, .ref xa5, .ref xa8, .int (iI 0), .int (iI 0), .int (iI 0)])), (xa3, .inr (7, [.int (iI 0), .int (iI 0), .int (iI 0), .long (lI 0), .int (iI 0), .int (iI 0), .int (iI 0), .long (lI 0), .long (lI 0), .long (lI 0), .long (lI 0), .long (lI 0), .int (iI 0), .int (iI 0), .int (iI 0), .int (iI 0), .ref xa4]))] H := hP
  have hD : va_D A [(h0, .inr (10, [.ref hn, .ref g1, .ref g2, .ref hea, .ref g3, .ref g4, .ref g5, .ref g6, .ref g7, .int (iI 0), .int (iI 0), .int (iI 0), .int (iI (-1)), .int (iI (-1)), .int (iI 0)])), (hn, .inr (2, [.ref xa1, .ref xa2, .ref xa3, .ref xa5, .ref xa8, .int (iI 0), .int (iI 0), .int (iI 0)])), (xa3, .inr (7, [.int (iI 0), .int (iI 0), .int (iI 0), .long (lI 0), .int (iI 0), .int (iI 0), .int (iI 0), .long (lI 0), .long (lI 0), .long (lI 0), .long (lI 0), .long (lI 0), .int (iI 0), .int (iI 0), .int (iI 0), .int (iI 0), .ref xa4]))] := hD
  refine kxv (vx_runS (As := [.int (iI 1)]) (rest := []) hSF ((c_X10_refuse_1 l hl0 dC dI k ) H.size) (va_cwS 1 hts gX10_explain_X10_refuse rfl rfl rfl (by decide +kernel) ⟨Nat.le_of_ble_eq_true rfl, Nat.le_of_ble_eq_true rfl⟩) (preS hP hD hE hS hA [] rfl (by decide)) rfl rfl hl.1 rfl (lv_room (Nat.le_of_ble_eq_true rfl)) dX10_explain_27 ⟨Nat.le_of_ble_eq_true rfl, Nat.le_of_ble_eq_true rfl⟩) hP hD hS hA [] [0, 1, 2] rfl (wr := [(h0, .inr (10, [.ref hn, .ref g1, .ref g2, .ref hea, .ref g3, .ref g4, .ref g5, .ref g6, .ref g7, .int (iI 0), .int (iI 0), .int (iI 0), .int (iI (-1)), .int (iI (-1)), .int (iI 0)])), (hn, .inr (2, [.ref xa1, .ref xa2, .ref xa3, .ref xa5, .ref xa8, .int (iI 0), .int (iI 0), .int (iI 0)])), (xa3, .inr (7, [.int (iI 0), .int (iI 0), .int (iI 0), .long (lI 0), .int (iI 0), .int (iI 0), .int (iI 0), .long (lI 0), .long (lI 0), .long (lI 0), .long (lI 0), .long (lI 0), .int (iI 0), .int (iI 0), .int (iI 0), .int (iI 0), .ref xa4]))]) rfl (by decide) (by decide) (fun ce q9 H locs hP hD hS hc9 hv9 hcl => ?_)
  rw [hQ]
  exact vx_out (fun x hx => (htab x hx).elim) hlocks hc9 hv9 hcl (fun t ht _ => XE_of hAe hS (by rw [ht]; exact Nat.le_refl _) (fun q _ => by rw [ht])) hS.2.2 (Nat.le_of_ble_eq_true rfl) (Nat.le_of_ble_eq_true rfl)
set_option maxHeartbeats 4000000 in
set_option maxRecDepth 100000 in
/-- explain, refused: 2 -/
theorem c_X10_explain_2 (l : Launch) (hl0 : l.stackTraces = false) (dC : Nat → ClassId) (dI : Nat → Nat → Nat) (k : Nat → ClassId) (h0 hn g1 g2 hea g3 g4 g5 g6 g7 xa1 xa2 xa3 xa4 xa5 xa6 xa7 xa8 xa9 xa10 xa11 : Nat) (xv xw9 : Int) (hv9 : -2147483648 ≤ xv ∧ xv ≤ 2147483647 ∧ -2147483648 ≤ xw9 ∧ xw9 ≤ 2147483647) (hv : (0 ≤ xw9 ∧ xw9 ≤ 5) ∧ 0 < xv) (sz : Nat) : vx_Met l yX10_explain woX10_explain ({ frames := 7, cells := 1, slots := 6, locals := 101 } : Room) (PcW (dC, dI) k [.ref h0, .int (iI xv), .int (iI xw9)] [(h0, .inr (10, [.ref hn, .ref g1, .ref g2, .ref hea, .ref g3, .ref g4, .ref g5, .ref g6, .ref g7, .int (iI 0), .int (iI 0), .int (iI 0), .int (iI (-1)), .int (iI (-1)), .int (iI 0)])), (hn, .inr (2, [.ref xa1, .ref xa2, .ref xa3, .ref xa5, .ref xa8, .int (iI 0), .int (iI 0), .int (iI 0)])), (xa3, .inr (7, [.int (iI 0), .int (iI 0), .int (iI 0), .long (lI 0), .int (iI 0), .int (iI 0), .int (iI 0), .long (lI 0), .long (lI 0), .long (lI 0), .long (lI 0), .long (lI 0), .int (iI 0), .int (iI 0), .int (iI 0), .int (iI 0), .ref xa4]))] sz) (va_Qi (fun (_ : Int32) (_ : Unit) => False) (fun _ _ => True) (va_A [(h0, .inr (10, [.ref hn, .ref g1, .ref g2, .ref hea, .ref g3, .ref g4, .ref g5, .ref g6, .ref g7, .int (iI 0), .int (iI 0), .int (iI 0), .int (iI (-1)), .int (iI (-1)), .int (iI 0)])), (hn, .inr (2, [.ref xa1, .ref xa2, .ref xa3, .ref xa5, .ref xa8, .int (iI 0), .int (iI 0), .int (iI 0)])), (xa3, .inr (7, [.int (iI 0), .int (iI 0), .int (iI 0), .long (lI 0), .int (iI 0), .int (iI 0), .int (iI 0), .long (lI 0), .long (lI 0), .long (lI 0), .long (lI 0), .long (lI 0), .int (iI 0), .int (iI 0), .int (iI 0), .int (iI 0), .ref xa4]))] sz)) (XE "java/lang/IllegalStateException" [(h0, .inr (10, [.ref hn, .ref g1, .ref g2, .ref hea, .ref g3, .ref g4, .ref g5, .ref g6, .ref g7, .int (iI 0), .int (iI 0), .int (iI 0), .int (iI (-1)), .int (iI (-1)), .int (iI 0)])), (hn, .inr (2, [.ref xa1, .ref xa2, .ref xa3, .ref xa5, .ref xa8, .int (iI 0), .int (iI 0), .int (iI 0)])), (xa3, .inr (7, [.int (iI 0), .int (iI 0), .int (iI 0), .long (lI 0), .int (iI 0), .int (iI 0), .int (iI 0), .long (lI 0), .long (lI 0), .long (lI 0), .long (lI 0), .long (lI 0), .int (iI 0), .int (iI 0), .int (iI 0), .int (iI 0), .ref xa4]))] sz) 1 6 (va_A [(h0, .inr (10, [.ref hn, .ref g1, .ref g2, .ref hea, .ref g3, .ref g4, .ref g5, .ref g6, .ref g7, .int (iI 0), .int (iI 0), .int (iI 0), .int (iI (-1)), .int (iI (-1)), .int (iI 0)])), (hn, .inr (2, [.ref xa1, .ref xa2, .ref xa3, .ref xa5, .ref xa8, .int (iI 0), .int (iI 0), .int (iI 0)])), (xa3, .inr (7, [.int (iI 0), .int (iI 0), .int (iI 0), .long (lI 0), .int (iI 0), .int (iI 0), .int (iI 0), .long (lI 0), .long (lI 0), .long (lI 0), .long (lI 0), .long (lI 0), .int (iI 0), .int (iI 0), .int (iI 0), .int (iI 0), .ref xa4]))] sz) := by
  refine vx_ofW (cc := cX10_explain) (maxL := 3) (ret := (some .int)) (by decide) rfl ?_
  intro p e s mI args below meth cO s₁ B hml htab hv
  obtain ⟨rfl, rfl, hP, hD0, hE⟩ := hv
  have hx := B.exec
  have hb := B.bytes
  have hr := B.returns
  have hts := atoms_spec (ws := woX10_explain) B.pre
  have hown : s.vm.findClass RX10 = some mI.cls := findClass_of_methodNamed B.named
  have hlocks := B.notSynchronized
  have hD := hD0.self (sz := s.heap.size)
  generalize hAe : va_A [(h0, .inr (10, [.ref hn, .ref g1, .ref g2, .ref hea, .ref g3, .ref g4, .ref g5, .ref g6, .ref g7, .int (iI 0), .int (iI 0), .int (iI 0), .int (iI (-1)), .int (iI (-1)), .int (iI 0)])), (hn, .inr (2, [.ref xa1, .ref xa2, .ref xa3, .ref xa5, .ref xa8, .int (iI 0), .int (iI 0), .int (iI 0)])), (xa3, .inr (7, [.int (iI 0), .int (iI 0), .int (iI 0), .long (lI 0), .int (iI 0), .int (iI 0), .int (iI 0), .long (lI 0), .long (lI 0), .long (lI 0), .long (lI 0), .long (lI 0), .int (iI 0), .int (iI 0), .int (iI 0), .int (iI 0), .ref xa4]))] s.heap.size = A at hD hE ⊢
  have hA : ∀ q : Nat, s.heap.size ≤ q → A q := fun q h => by rw [← hAe]; exact Or.inr h
  have hS : va_S A s.heap s.heap [] := va_S.rf
  obtain ⟨hK, hNw, hNc, hZs, hAO1, hAO2⟩ := id hE
  have hSF : CallFix p mI cO cX10_explain 3 s ([.ref h0, .int (iI xv), .int (iI xw9)] : List Value).toArray woX10_explain RX10 := ⟨hx, hb, hml, hown, hts⟩
  have hl := lv_entry ([.ref h0, .int (iI xv), .int (iI xw9)] : List Value) (n := 3) (Nat.le_of_ble_eq_true rfl)
  rw [lg_entry_eq]
  generalize (lg_sl ([.ref h0, .int (iI xv), .int (iI xw9)] : List Value) ++ List.replicate (3 - (lg_sl ([.ref h0, .int (iI xv), .int (iI xw9)] : List Value)).length) Slot.unset).toArray = ls at hl ⊢
  have hl : lv_has ls 3 [(0, .ref h0), (1, .int (iI xv)), (2, .int (iI xw9))] := hl
  refine W_gen (fun Q hQ => ?_)
  change W p l e ({ frames := 7, cells := 1, slots := 6, locals := 101 } : Room) s mI _ below meth cO s.heap [] 0 0 Q _
  have hP : va_P (dC, dI) vwCl [(h0, .inr (10, [.ref hn, .ref g1, .ref g2, .ref hea, .ref g3, .ref g4, .ref g5, .ref g6, .ref g7, .int (iI 0), .int (iI 0), .int (iI 0), .int (iI (-1)), .int (iI (-1)), .int (iI 0)])), (hn, .inr (2, [.ref xa1, .ref xa2, .ref xa3, .ref xa5, .ref xa8, .int (iI 0), .int (iI 0), .int (iI 0)])), (xa3, .inr (7, [.int (iI 0), .int (iI 0), .int (iI 0), .long (lI 0), .int (iI 0), .int (iI 0), .int (iI 0), .long (lI 0), .long (lI 0), .long (lI 0), .long (lI 0), .long (lI 0), .int (iI 0), .int (iI 0), .int (iI 0), .int (iI 0), .ref xa4]))] s.heap := hP
  refine lv_iload_n hx hb dX10_explain_0 rfl (lv_at hl 2 rfl) ?_
  refine q_iconst hx hb dX10_explain_1 ?_
  refine q_iconst hx hb dX10_explain_2 ?_
  refine ki (va_runS (As := [.int (iI xw9), .int (iI 0), .int (iI 5)]) (rest := []) hSF ((c_X10_isWithin l dC dI k xw9 0 5 (by omega)) s.heap.size) (va_cwS 3 hts gX10_explain_X10_isWithin rfl rfl rfl (by decide +kernel) ⟨Nat.le_of_ble_eq_true rfl, Nat.le_of_ble_eq_true rfl⟩) (preS hP hD hE hS hA [] rfl (by decide)) rfl rfl hl.1 rfl (lv_room (Nat.le_of_ble_eq_true rfl)) dX10_explain_3 ⟨Nat.le_of_ble_eq_true rfl, Nat.le_of_ble_eq_true rfl⟩) hP hD hS hA [] [0, 1, 2] rfl (wr := [(h0, .inr (10, [.ref hn, .ref g1, .ref g2, .ref hea, .ref g3, .ref g4, .ref g5, .ref g6, .ref g7, .int (iI 0), .int (iI 0), .int (iI 0), .int (iI (-1)), .int (iI (-1)), .int (iI 0)])), (hn, .inr (2, [.ref xa1, .ref xa2, .ref xa3, .ref xa5, .ref xa8, .int (iI 0), .int (iI 0), .int (iI 0)])), (xa3, .inr (7, [.int (iI 0), .int (iI 0), .int (iI 0), .long (lI 0), .int (iI 0), .int (iI 0), .int (iI 0), .long (lI 0), .long (lI 0), .long (lI 0), .long (lI 0), .long (lI 0), .int (iI 0), .int (iI 0), .int (iI 0), .int (iI 0), .ref xa4]))]) rfl (by decide) (by decide) (fun r3 _ H locs hw hP hD hS => ?_)
  obtain rfl : r3 = iI 1 := hw.trans (by rw [wi1 (by omega)])
  have hP : va_P (dC, dI) vwCl [(h0, .inr (10, [.ref hn, .ref g1, .ref g2, .ref hea, .ref g3, .ref g4, .ref g5, .ref g6, .ref g7, .int (iI 0), .int (iI 0), .int (iI 0), .int (iI (-1)), .int (iI (-1)), .int (iI 0)])), (hn, .inr (2, [.ref xa1, .ref xa2, .ref xa3, .ref xa5, .ref xa8, .int (iI 0), .int (iI 0), .int (iI 0)])), (xa3, .inr (7, [.int (iI 0), .int (iI 0), .int (iI 0), .long (lI 0), .int (iI 0), .int (iI 0), .int (iI 0), .long (lI 0), .long (lI 0), .long (lI 0), .long (lI 0), .long (lI 0), .int (iI 0), .int (iI 0), .int (iI 0), .int (iI 0), .ref xa4]))] H := hP
  have hD : va_D A [(h0, .inr (10, [.ref hn, .ref g1, .ref g2, .ref hea, .ref g3, .ref g4, .ref g5, .ref g6, .ref g7, .int (iI 0), .int (iI 0), .int (iI 0), .int (iI (-1)), .int (iI (-1)), .int (iI 0)])), (hn, .inr (2, [.ref xa1, .ref xa2, .ref xa3, .ref xa5, .ref xa8, .int (iI 0), .int (iI 0), .int (iI 0)])), (xa3, .inr (7, [.int (iI 0), .int (iI 0), .int (iI 0), .long (lI 0), .int (iI 0), .int (iI 0), .int (iI 0), .long (lI 0), .long (lI 0), .long (lI 0), .long (lI 0), .long (lI 0), .int (iI 0), .int (iI 0), .int (iI 0), .int (iI 0), .ref xa4]))] := hD
  refine q_if_ne (tgt := 17) hx hb dX10_explain_6 (by decide) (by omega) (fun _ => ?_) (fun q => absurd q (by omega))
  refine lv_aload_n hx hb dX10_explain_17 rfl (lv_at hl 0 rfl) ?_
  refine va_get (D := (dC, dI)) (ci := 10) (v := .ref hn) (C := RX10) (T := TX10) (N := 15) hx hb hts (fun _ h => List.mem_cons_of_mem _ (inlX10 _ h)) hown hK hP 0 rfl rfl 0 (by decide) (hts (.fieldLink RX10 10 "LoanServicing" "now" "LLoanServicing$Account;") (List.mem_cons_of_mem _ (wl_1 (List.mem_of_getElem? (i := 17) rfl)))) (fun _ h9 => h9) rfl dX10_explain_18 ?_
  refine q_bipush (z := 9) hx hb dX10_explain_21 (by decide) ?_
  refine lv_iload_n hx hb dX10_explain_23 rfl (lv_at hl 1 rfl) ?_
  refine ki (va_runV (As := [.int (iI 9), .int (iI xv)]) (rest := []) hSF ((c_X0_refusal_9_2 l dC dI k hn xa1 xa2 xa3 xa4 xa5 0 0 xa8 0 0 0 xv (by omega) (by omega)) H.size) (cwV 2 hts gX10_explain_X0_refusal rfl rfl rfl (by decide +kernel) ⟨Nat.le_of_ble_eq_true rfl, Nat.le_of_ble_eq_true rfl⟩) (preV hP hD hE hS hA [1, 2] rfl (by decide) (ci := 2) (q0 := 1) rfl rfl) rfl rfl hl.1 rfl (lv_room (Nat.le_of_ble_eq_true rfl)) dX10_explain_24 ⟨Nat.le_of_ble_eq_true rfl, Nat.le_of_ble_eq_true rfl⟩) hP hD hS hA [1, 2] [0] rfl (wr := [(h0, .inr (10, [.ref hn, .ref g1, .ref g2, .ref hea, .ref g3, .ref g4, .ref g5, .ref g6, .ref g7, .int (iI 0), .int (iI 0), .int (iI 0), .int (iI (-1)), .int (iI (-1)), .int (iI 0)]))]) rfl (by decide) (by decide) (fun r24 _ H locs hw hP hD hS => ?_)
  obtain rfl : r24 = (iI 2) := hw
  have hP : va_P (dC, dI) vwCl [(h0, .inr (10, [.ref hn, .ref g1, .ref g2, .ref hea, .ref g3, .ref g4, .ref g5, .ref g6, .ref g7, .int (iI 0), .int (iI 0), .int (iI 0), .int (iI (-1)), .int (iI (-1)), .int (iI 0)])), (hn, .inr (2, [.ref xa1, .ref xa2, .ref xa3, .ref xa5, .ref xa8, .int (iI 0), .int (iI 0), .int (iI 0)])), (xa3, .inr (7, [.int (iI 0), .int (iI 0), .int (iI 0), .long (lI 0), .int (iI 0), .int (iI 0), .int (iI 0), .long (lI 0), .long (lI 0), .long (lI 0), .long (lI 0), .long (lI 0), .int (iI 0), .int (iI 0), .int (iI 0), .int (iI 0), .ref xa4]))] H := hP
  have hD : va_D A [(h0, .inr (10, [.ref hn, .ref g1, .ref g2, .ref hea, .ref g3, .ref g4, .ref g5, .ref g6, .ref g7, .int (iI 0), .int (iI 0), .int (iI 0), .int (iI (-1)), .int (iI (-1)), .int (iI 0)])), (hn, .inr (2, [.ref xa1, .ref xa2, .ref xa3, .ref xa5, .ref xa8, .int (iI 0), .int (iI 0), .int (iI 0)])), (xa3, .inr (7, [.int (iI 0), .int (iI 0), .int (iI 0), .long (lI 0), .int (iI 0), .int (iI 0), .int (iI 0), .long (lI 0), .long (lI 0), .long (lI 0), .long (lI 0), .long (lI 0), .int (iI 0), .int (iI 0), .int (iI 0), .int (iI 0), .ref xa4]))] := hD
  refine kxv (vx_runS (As := [.int (iI 2)]) (rest := []) hSF ((c_X10_refuse_2 l hl0 dC dI k ) H.size) (va_cwS 1 hts gX10_explain_X10_refuse rfl rfl rfl (by decide +kernel) ⟨Nat.le_of_ble_eq_true rfl, Nat.le_of_ble_eq_true rfl⟩) (preS hP hD hE hS hA [] rfl (by decide)) rfl rfl hl.1 rfl (lv_room (Nat.le_of_ble_eq_true rfl)) dX10_explain_27 ⟨Nat.le_of_ble_eq_true rfl, Nat.le_of_ble_eq_true rfl⟩) hP hD hS hA [] [0, 1, 2] rfl (wr := [(h0, .inr (10, [.ref hn, .ref g1, .ref g2, .ref hea, .ref g3, .ref g4, .ref g5, .ref g6, .ref g7, .int (iI 0), .int (iI 0), .int (iI 0), .int (iI (-1)), .int (iI (-1)), .int (iI 0)])), (hn, .inr (2, [.ref xa1, .ref xa2, .ref xa3, .ref xa5, .ref xa8, .int (iI 0), .int (iI 0), .int (iI 0)])), (xa3, .inr (7, [.int (iI 0), .int (iI 0), .int (iI 0), .long (lI 0), .int (iI 0), .int (iI 0), .int (iI 0), .long (lI 0), .long (lI 0), .long (lI 0), .long (lI 0), .long (lI 0), .int (iI 0), .int (iI 0), .int (iI 0), .int (iI 0), .ref xa4]))]) rfl (by decide) (by decide) (fun ce q9 H locs hP hD hS hc9 hv9 hcl => ?_)
  rw [hQ]
  exact vx_out (fun x hx => (htab x hx).elim) hlocks hc9 hv9 hcl (fun t ht _ => XE_of hAe hS (by rw [ht]; exact Nat.le_refl _) (fun q _ => by rw [ht])) hS.2.2 (Nat.le_of_ble_eq_true rfl) (Nat.le_of_ble_eq_true rfl)
set_option maxHeartbeats 4000000 in
set_option maxRecDepth 100000 in
/-- debtAfterPosting, of a fresh loan -/
theorem c_X6_debtAfterPosting (l : Launch) (dC : Nat → ClassId) (dI : Nat → Nat → Nat) (k : Nat → ClassId) (h0 xs : Nat) (sz : Nat) : Met l yX6_debtAfterPosting woX6_debtAfterPosting ({ frames := 2, cells := 0, slots := 0, locals := 47 } : Room) (PcW (dC, dI) k [.ref h0] [(h0, .inr (7, [.int (iI 0), .int (iI 0), .int (iI 0), .long (lI 0), .int (iI 0), .int (iI 0), .int (iI 0), .long (lI 0), .long (lI 0), .long (lI 0), .long (lI 0), .long (lI 0), .int (iI 0), .int (iI 0), .int (iI 0), .int (iI 0), .ref xs]))] sz) (va_Ql (fun (r : Int64) (_ : Unit) => r = lI 0) (QB (dC, dI) [(h0, .inr (7, [.int (iI 0), .int (iI 0), .int (iI 0), .long (lI 0), .int (iI 0), .int (iI 0), .int (iI 0), .long (lI 0), .long (lI 0), .long (lI 0), .long (lI 0), .long (lI 0), .int (iI 0), .int (iI 0), .int (iI 0), .int (iI 0), .ref xs]))] (fun _ => [(h0, .inr (7, [.int (iI 0), .int (iI 0), .int (iI 0), .long (lI 0), .int (iI 0), .int (iI 0), .int (iI 0), .long (lI 0), .long (lI 0), .long (lI 0), .long (lI 0), .long (lI 0), .int (iI 0), .int (iI 0), .int (iI 0), .int (iI 0), .ref xs]))]) sz) (va_A [(h0, .inr (7, [.int (iI 0), .int (iI 0), .int (iI 0), .long (lI 0), .int (iI 0), .int (iI 0), .int (iI 0), .long (lI 0), .long (lI 0), .long (lI 0), .long (lI 0), .long (lI 0), .int (iI 0), .int (iI 0), .int (iI 0), .int (iI 0), .ref xs]))] sz)) 0 0 (va_A [(h0, .inr (7, [.int (iI 0), .int (iI 0), .int (iI 0), .long (lI 0), .int (iI 0), .int (iI 0), .int (iI 0), .long (lI 0), .long (lI 0), .long (lI 0), .long (lI 0), .long (lI 0), .int (iI 0), .int (iI 0), .int (iI 0), .int (iI 0), .ref xs]))] sz) := by
  refine Met.ofW (cc := cX6_debtAfterPosting) (maxL := 1) (ret := (some .long)) (by decide) rfl ?_
  intro p e s mI args below meth cO s₁ B hml hv
  obtain ⟨rfl, rfl, hP, hD0, hE⟩ := hv
  have hx := B.exec
  have hb := B.bytes
  have hr := B.returns
  have hts := atoms_spec (ws := woX6_debtAfterPosting) B.pre
  have hown : s.vm.findClass RX6 = some mI.cls := findClass_of_methodNamed B.named
  have hlocks := B.notSynchronized
  have hD := hD0.self (sz := s.heap.size)
  generalize hAe : va_A [(h0, .inr (7, [.int (iI 0), .int (iI 0), .int (iI 0), .long (lI 0), .int (iI 0), .int (iI 0), .int (iI 0), .long (lI 0), .long (lI 0), .long (lI 0), .long (lI 0), .long (lI 0), .int (iI 0), .int (iI 0), .int (iI 0), .int (iI 0), .ref xs]))] s.heap.size = A at hD hE ⊢
  have hA : ∀ q : Nat, s.heap.size ≤ q → A q := fun q h => by rw [← hAe]; exact Or.inr h
  have hS : va_S A s.heap s.heap [] := va_S.rf
  obtain ⟨hK, hNw, hNc, hZs, hAO1, hAO2⟩ := id hE
  have hSF : CallFix p mI cO cX6_debtAfterPosting 1 s ([.ref h0] : List Value).toArray woX6_debtAfterPosting RX6 := ⟨hx, hb, hml, hown, hts⟩
  have hl := lv_entry ([.ref h0] : List Value) (n := 1) (Nat.le_of_ble_eq_true rfl)
  rw [lg_entry_eq]
  generalize (lg_sl ([.ref h0] : List Value) ++ List.replicate (1 - (lg_sl ([.ref h0] : List Value)).length) Slot.unset).toArray = ls at hl ⊢
  have hl : lv_has ls 1 [(0, .ref h0)] := hl
  refine W_gen (fun Q hQ => ?_)
  change W p l e ({ frames := 2, cells := 0, slots := 0, locals := 47 } : Room) s mI _ below meth cO s.heap [] 0 0 Q _
  have hP : va_P (dC, dI) vwCl [(h0, .inr (7, [.int (iI 0), .int (iI 0), .int (iI 0), .long (lI 0), .int (iI 0), .int (iI 0), .int (iI 0), .long (lI 0), .long (lI 0), .long (lI 0), .long (lI 0), .long (lI 0), .int (iI 0), .int (iI 0), .int (iI 0), .int (iI 0), .ref xs]))] s.heap := hP
  refine lv_aload_n hx hb dX6_debtAfterPosting_0 rfl (lv_at hl 0 rfl) ?_
  refine kl (va_runV (As := []) (rest := []) hSF ((c_X6_debt l dC dI k h0 xs) s.heap.size) (cwV 0 hts gX6_debtAfterPosting_X6_debt rfl rfl rfl (by decide +kernel) ⟨Nat.le_of_ble_eq_true rfl, Nat.le_of_ble_eq_true rfl⟩) (preV hP hD hE hS hA [0] rfl (by decide) (ci := 7) (q0 := 0) rfl rfl) rfl rfl hl.1 rfl (lv_room (Nat.le_of_ble_eq_true rfl)) dX6_debtAfterPosting_1 ⟨Nat.le_of_ble_eq_true rfl, Nat.le_of_ble_eq_true rfl⟩) hP hD hS hA [0] [] rfl (wr := []) rfl (by decide) (by decide) (fun r1 _ H locs hw hP hD hS => ?_)
  obtain rfl : r1 = (lI 0) := hw
  have hP : va_P (dC, dI) vwCl [(h0, .inr (7, [.int (iI 0), .int (iI 0), .int (iI 0), .long (lI 0), .int (iI 0), .int (iI 0), .int (iI 0), .long (lI 0), .long (lI 0), .long (lI 0), .long (lI 0), .long (lI 0), .int (iI 0), .int (iI 0), .int (iI 0), .int (iI 0), .ref xs]))] H := hP
  have hD : va_D A [(h0, .inr (7, [.int (iI 0), .int (iI 0), .int (iI 0), .long (lI 0), .int (iI 0), .int (iI 0), .int (iI 0), .long (lI 0), .long (lI 0), .long (lI 0), .long (lI 0), .long (lI 0), .int (iI 0), .int (iI 0), .int (iI 0), .int (iI 0), .ref xs]))] := hD
  refine lv_aload_n hx hb dX6_debtAfterPosting_4 rfl (lv_at hl 0 rfl) ?_
  refine va_get (D := (dC, dI)) (ci := 7) (v := .long (lI 0)) (C := RX6) (T := TX6) (N := 17) hx hb hts (fun _ h => List.mem_cons_of_mem _ (inlX6 _ h)) hown hK hP 0 rfl rfl 10 (by decide) (hts (.fieldLink RX6 48 "LoanServicing$Loan" "units" "J") (List.mem_cons_of_mem _ (wl_8 (List.mem_of_getElem? (i := 5) rfl)))) (fun _ h9 => h9) rfl dX6_debtAfterPosting_5 ?_
  refine lv_aload_n hx hb dX6_debtAfterPosting_8 rfl (lv_at hl 0 rfl) ?_
  refine va_get (D := (dC, dI)) (ci := 7) (v := .int (iI 0)) (C := RX6) (T := TX6) (N := 17) hx hb hts (fun _ h => List.mem_cons_of_mem _ (inlX6 _ h)) hown hK hP 0 rfl rfl 1 (by decide) (hts (.fieldLink RX6 19 "LoanServicing$Loan" "convention" "I") (List.mem_cons_of_mem _ (wl_7 (List.mem_of_getElem? (i := 20) rfl)))) (fun _ h9 => h9) rfl dX6_debtAfterPosting_9 ?_
  refine kl (va_runS (As := [.long (lI 0), .int (iI 0)]) (rest := [.long (lI 0)]) hSF ((c_X9_toCents l dC dI k 0 0 (by omega)) H.size) (va_cwS 2 hts gX6_debtAfterPosting_X9_toCents rfl rfl rfl (by decide +kernel) ⟨Nat.le_of_ble_eq_true rfl, Nat.le_of_ble_eq_true rfl⟩) (preS hP hD hE hS hA [] rfl (by decide)) rfl rfl hl.1 rfl (lv_room (Nat.le_of_ble_eq_true rfl)) dX6_debtAfterPosting_12 ⟨Nat.le_of_ble_eq_true rfl, Nat.le_of_ble_eq_true rfl⟩) hP hD hS hA [] [0] rfl (wr := [(h0, .inr (7, [.int (iI 0), .int (iI 0), .int (iI 0), .long (lI 0), .int (iI 0), .int (iI 0), .int (iI 0), .long (lI 0), .long (lI 0), .long (lI 0), .long (lI 0), .long (lI 0), .int (iI 0), .int (iI 0), .int (iI 0), .int (iI 0), .ref xs]))]) rfl (by decide) (by decide) (fun r12 _ H locs hw hP hD hS => ?_)
  obtain rfl : r12 = lI 0 := hw.trans (by decide)
  have hP : va_P (dC, dI) vwCl [(h0, .inr (7, [.int (iI 0), .int (iI 0), .int (iI 0), .long (lI 0), .int (iI 0), .int (iI 0), .int (iI 0), .long (lI 0), .long (lI 0), .long (lI 0), .long (lI 0), .long (lI 0), .int (iI 0), .int (iI 0), .int (iI 0), .int (iI 0), .ref xs]))] H := hP
  have hD : va_D A [(h0, .inr (7, [.int (iI 0), .int (iI 0), .int (iI 0), .long (lI 0), .int (iI 0), .int (iI 0), .int (iI 0), .long (lI 0), .long (lI 0), .long (lI 0), .long (lI 0), .long (lI 0), .int (iI 0), .int (iI 0), .int (iI 0), .int (iI 0), .ref xs]))] := hD
  refine q_ladd (z := 0) hx hb dX6_debtAfterPosting_15 (by omega) ?_
  rw [hQ]
  refine W.widen (k := 0) (n := 0) (Nat.le_of_ble_eq_true rfl) (Nat.le_of_ble_eq_true rfl) ?_
  exact W.lret (v := (lI 0)) hx hb hr (fun t ht hW => ⟨⟨(lI 0), (), rfl, rfl, by rw [ht]; exact hP.sub [0] rfl, by rw [hAe]; exact hD.sub [0] (by decide) rfl⟩, hS.F ht⟩) hS.2.2 dX6_debtAfterPosting_16
set_option maxHeartbeats 4000000 in
set_option maxRecDepth 100000 in
/-- unpaidSum, of no bills -/
theorem c_X1_unpaidSum (l : Launch) (dC : Nat → ClassId) (dI : Nat → Nat → Nat) (k : Nat → ClassId) (h0 xu xm : Nat) (sz : Nat) : Met l yX1_unpaidSum woX1_unpaidSum ({ frames := 1, cells := 0, slots := 0, locals := 13 } : Room) (PcW (dC, dI) k [.ref h0] [(h0, .inr (3, [.ref xu, .ref xm, .int (iI 0), .int (iI 0), .int (iI 0)]))] sz) (va_Ql (fun (r : Int64) (_ : Unit) => r = lI 0) (QB (dC, dI) [(h0, .inr (3, [.ref xu, .ref xm, .int (iI 0), .int (iI 0), .int (iI 0)]))] (fun _ => [(h0, .inr (3, [.ref xu, .ref xm, .int (iI 0), .int (iI 0), .int (iI 0)]))]) sz) (va_A [(h0, .inr (3, [.ref xu, .ref xm, .int (iI 0), .int (iI 0), .int (iI 0)]))] sz)) 0 0 (va_A [(h0, .inr (3, [.ref xu, .ref xm, .int (iI 0), .int (iI 0), .int (iI 0)]))] sz) := by
  refine Met.ofW (cc := cX1_unpaidSum) (maxL := 4) (ret := (some .long)) (by decide) rfl ?_
  intro p e s mI args below meth cO s₁ B hml hv
  obtain ⟨rfl, rfl, hP, hD0, hE⟩ := hv
  have hx := B.exec
  have hb := B.bytes
  have hr := B.returns
  have hts := atoms_spec (ws := woX1_unpaidSum) B.pre
  have hown : s.vm.findClass RX1 = some mI.cls := findClass_of_methodNamed B.named
  have hlocks := B.notSynchronized
  have hD := hD0.self (sz := s.heap.size)
  generalize hAe : va_A [(h0, .inr (3, [.ref xu, .ref xm, .int (iI 0), .int (iI 0), .int (iI 0)]))] s.heap.size = A at hD hE ⊢
  have hA : ∀ q : Nat, s.heap.size ≤ q → A q := fun q h => by rw [← hAe]; exact Or.inr h
  have hS : va_S A s.heap s.heap [] := va_S.rf
  obtain ⟨hK, hNw, hNc, hZs, hAO1, hAO2⟩ := id hE
  have hSF : CallFix p mI cO cX1_unpaidSum 4 s ([.ref h0] : List Value).toArray woX1_unpaidSum RX1 := ⟨hx, hb, hml, hown, hts⟩
  have hl := lv_entry ([.ref h0] : List Value) (n := 4) (Nat.le_of_ble_eq_true rfl)
  rw [lg_entry_eq]
  generalize (lg_sl ([.ref h0] : List Value) ++ List.replicate (4 - (lg_sl ([.ref h0] : List Value)).length) Slot.unset).toArray = ls at hl ⊢
  have hl : lv_has ls 4 [(0, .ref h0)] := hl
  refine W_gen (fun Q hQ => ?_)
  change W p l e ({ frames := 1, cells := 0, slots := 0, locals := 13 } : Room) s mI _ below meth cO s.heap [] 0 0 Q _
  have hP : va_P (dC, dI) vwCl [(h0, .inr (3, [.ref xu, .ref xm, .int (iI 0), .int (iI 0), .int (iI 0)]))] s.heap := hP
  refine q_lconst (z := 0) hx hb dX1_unpaidSum_0 (by decide) ?_
  refine lv_lstore_n (lv' := [(1, .long (lI 0)), (0, .ref h0)]) hx hb dX1_unpaidSum_1 rfl hl (by decide) rfl (fun ls hl => ?_)
  refine lv_aload_n hx hb dX1_unpaidSum_2 rfl (lv_at hl 1 rfl) ?_
  refine va_get (D := (dC, dI)) (ci := 3) (v := .int (iI 0)) (C := RX1) (T := TX1) (N := 5) hx hb hts (fun _ h => List.mem_cons_of_mem _ (inlX1 _ h)) hown hK hP 0 rfl rfl 3 (by decide) (hts (.fieldLink RX1 21 "LoanServicing$Bills" "paidEnd" "I") (List.mem_cons_of_mem _ (wl_8 (List.mem_of_getElem? (i := 17) rfl)))) (fun _ h9 => h9) rfl dX1_unpaidSum_3 ?_
  refine q_iconst hx hb dX1_unpaidSum_6 ?_
  refine va_mmax hx hb (hml.trans hl.1.symm) hown (hts (.methodLink RX1 27 Lib.Math.max.name) (List.mem_cons_of_mem _ (wl_18 (List.mem_of_getElem? (i := 13) rfl)))) (hts (.static Lib.Math.max.name) (List.mem_cons_of_mem _ (wl_18 (List.mem_of_getElem? (i := 14) rfl)))) (hts (.initialized "java/lang/Math") (List.mem_cons_of_mem _ (wl_6 (List.mem_of_getElem? (i := 22) rfl)))) (hts (.code Lib.Math.max.name Lib.Math.max.code 2 (some .int)) (List.mem_cons_of_mem _ (wl_18 (List.mem_of_getElem? (i := 15) rfl)))) (Nat.le_of_ble_eq_true rfl) (Nat.le_of_ble_eq_true rfl) (Nat.le_of_ble_eq_true rfl) (Nat.le_of_ble_eq_true rfl) dX1_unpaidSum_7 ?_
  rw [q_mmax (a := 0) (b := 0) (z := 0) (by omega) (by omega)]
  refine lv_istore_n (lv' := [(3, .int (iI 0)), (1, .long (lI 0)), (0, .ref h0)]) hx hb dX1_unpaidSum_10 rfl hl (by decide) rfl (fun ls hl => ?_)
  refine lv_iload_n hx hb dX1_unpaidSum_11 rfl (lv_at hl 0 rfl) ?_
  refine lv_aload_n hx hb dX1_unpaidSum_12 rfl (lv_at hl 2 rfl) ?_
  refine va_get (D := (dC, dI)) (ci := 3) (v := .int (iI 0)) (C := RX1) (T := TX1) (N := 5) hx hb hts (fun _ h => List.mem_cons_of_mem _ (inlX1 _ h)) hown hK hP 0 rfl rfl 2 (by decide) (hts (.fieldLink RX1 17 "LoanServicing$Bills" "count" "I") (List.mem_cons_of_mem _ (wl_8 (List.mem_of_getElem? (i := 16) rfl)))) (fun _ h9 => h9) rfl dX1_unpaidSum_13 ?_
  refine q_icmp_ge (tgt := 41) hx hb dX1_unpaidSum_16 (by decide) (by omega) (fun _ => ?_) (fun q => absurd q (by omega))
  refine lv_lload_n hx hb dX1_unpaidSum_41 rfl (lv_at hl 1 rfl) ?_
  rw [hQ]
  refine W.widen (k := 0) (n := 0) (Nat.le_of_ble_eq_true rfl) (Nat.le_of_ble_eq_true rfl) ?_
  exact W.lret (v := (lI 0)) hx hb hr (fun t ht hW => ⟨⟨(lI 0), (), rfl, rfl, by rw [ht]; exact hP.sub [0] rfl, by rw [hAe]; exact hD.sub [0] (by decide) rfl⟩, hS.F ht⟩) hS.2.2 dX1_unpaidSum_42
set_option maxHeartbeats 4000000 in
set_option maxRecDepth 100000 in
/-- unpaidCount, of no bills -/
theorem c_X1_unpaidCount (l : Launch) (dC : Nat → ClassId) (dI : Nat → Nat → Nat) (k : Nat → ClassId) (h0 xu xm : Nat) (sz : Nat) : Met l yX1_unpaidCount woX1_unpaidCount ({ frames := 0, cells := 0, slots := 0, locals := 0 } : Room) (PcW (dC, dI) k [.ref h0] [(h0, .inr (3, [.ref xu, .ref xm, .int (iI 0), .int (iI 0), .int (iI 0)]))] sz) (va_Qi (fun (r : Int32) (_ : Unit) => r = iI 0) (QB (dC, dI) [(h0, .inr (3, [.ref xu, .ref xm, .int (iI 0), .int (iI 0), .int (iI 0)]))] (fun _ => [(h0, .inr (3, [.ref xu, .ref xm, .int (iI 0), .int (iI 0), .int (iI 0)]))]) sz) (va_A [(h0, .inr (3, [.ref xu, .ref xm, .int (iI 0), .int (iI 0), .int (iI 0)]))] sz)) 0 0 (va_A [(h0, .inr (3, [.ref xu, .ref xm, .int (iI 0), .int (iI 0), .int (iI 0)]))] sz) := by
  refine Met.ofW (cc := cX1_unpaidCount) (maxL := 1) (ret := (some .int)) (by decide) rfl ?_
  intro p e s mI args below meth cO s₁ B hml hv
  obtain ⟨rfl, rfl, hP, hD0, hE⟩ := hv
  have hx := B.exec
  have hb := B.bytes
  have hr := B.returns
  have hts := atoms_spec (ws := woX1_unpaidCount) B.pre
  have hown : s.vm.findClass RX1 = some mI.cls := findClass_of_methodNamed B.named
  have hlocks := B.notSynchronized
  have hD := hD0.self (sz := s.heap.size)
  generalize hAe : va_A [(h0, .inr (3, [.ref xu, .ref xm, .int (iI 0), .int (iI 0), .int (iI 0)]))] s.heap.size = A at hD hE ⊢
  have hA : ∀ q : Nat, s.heap.size ≤ q → A q := fun q h => by rw [← hAe]; exact Or.inr h
  have hS : va_S A s.heap s.heap [] := va_S.rf
  obtain ⟨hK, hNw, hNc, hZs, hAO1, hAO2⟩ := id hE
  have hSF : CallFix p mI cO cX1_unpaidCount 1 s ([.ref h0] : List Value).toArray woX1_unpaidCount RX1 := ⟨hx, hb, hml, hown, hts⟩
  have hl := lv_entry ([.ref h0] : List Value) (n := 1) (Nat.le_of_ble_eq_true rfl)
  rw [lg_entry_eq]
  generalize (lg_sl ([.ref h0] : List Value) ++ List.replicate (1 - (lg_sl ([.ref h0] : List Value)).length) Slot.unset).toArray = ls at hl ⊢
  have hl : lv_has ls 1 [(0, .ref h0)] := hl
  refine W_gen (fun Q hQ => ?_)
  change W p l e ({ frames := 0, cells := 0, slots := 0, locals := 0 } : Room) s mI _ below meth cO s.heap [] 0 0 Q _
  have hP : va_P (dC, dI) vwCl [(h0, .inr (3, [.ref xu, .ref xm, .int (iI 0), .int (iI 0), .int (iI 0)]))] s.heap := hP
  refine lv_aload_n hx hb dX1_unpaidCount_0 rfl (lv_at hl 0 rfl) ?_
  refine va_get (D := (dC, dI)) (ci := 3) (v := .int (iI 0)) (C := RX1) (T := TX1) (N := 5) hx hb hts (fun _ h => List.mem_cons_of_mem _ (inlX1 _ h)) hown hK hP 0 rfl rfl 2 (by decide) (hts (.fieldLink RX1 17 "LoanServicing$Bills" "count" "I") (List.mem_cons_of_mem _ (wl_8 (List.mem_of_getElem? (i := 16) rfl)))) (fun _ h9 => h9) rfl dX1_unpaidCount_1 ?_
  refine lv_aload_n hx hb dX1_unpaidCount_4 rfl (lv_at hl 0 rfl) ?_
  refine va_get (D := (dC, dI)) (ci := 3) (v := .int (iI 0)) (C := RX1) (T := TX1) (N := 5) hx hb hts (fun _ h => List.mem_cons_of_mem _ (inlX1 _ h)) hown hK hP 0 rfl rfl 3 (by decide) (hts (.fieldLink RX1 21 "LoanServicing$Bills" "paidEnd" "I") (List.mem_cons_of_mem _ (wl_8 (List.mem_of_getElem? (i := 17) rfl)))) (fun _ h9 => h9) rfl dX1_unpaidCount_5 ?_
  refine q_isub (z := 0) hx hb dX1_unpaidCount_8 (by omega) ?_
  rw [hQ]
  refine W.widen (k := 0) (n := 0) (Nat.le_of_ble_eq_true rfl) (Nat.le_of_ble_eq_true rfl) ?_
  exact W.iret (v := (iI 0)) hx hb hr (fun t ht hW => ⟨⟨(iI 0), (), rfl, rfl, by rw [ht]; exact hP.sub [0] rfl, by rw [hAe]; exact hD.sub [0] (by decide) rfl⟩, hS.F ht⟩) hS.2.2 dX1_unpaidCount_9
set_option maxHeartbeats 4000000 in
set_option maxRecDepth 100000 in
/-- hasLate, of no bills -/
theorem c_X1_hasLate (l : Launch) (dC : Nat → ClassId) (dI : Nat → Nat → Nat) (k : Nat → ClassId) (h0 xu xm : Nat) (sz : Nat) : Met l yX1_hasLate woX1_hasLate ({ frames := 0, cells := 0, slots := 0, locals := 0 } : Room) (PcW (dC, dI) k [.ref h0] [(h0, .inr (3, [.ref xu, .ref xm, .int (iI 0), .int (iI 0), .int (iI 0)]))] sz) (va_Qi (fun (r : Int32) (_ : Unit) => r = iI 0) (QB (dC, dI) [(h0, .inr (3, [.ref xu, .ref xm, .int (iI 0), .int (iI 0), .int (iI 0)]))] (fun _ => [(h0, .inr (3, [.ref xu, .ref xm, .int (iI 0), .int (iI 0), .int (iI 0)]))]) sz) (va_A [(h0, .inr (3, [.ref xu, .ref xm, .int (iI 0), .int (iI 0), .int (iI 0)]))] sz)) 0 0 (va_A [(h0, .inr (3, [.ref xu, .ref xm, .int (iI 0), .int (iI 0), .int (iI 0)]))] sz) := by
  refine Met.ofW (cc := cX1_hasLate) (maxL := 1) (ret := (some .boolean)) (by decide) rfl ?_
  intro p e s mI args below meth cO s₁ B hml hv
  obtain ⟨rfl, rfl, hP, hD0, hE⟩ := hv
  have hx := B.exec
  have hb := B.bytes
  have hr := B.returns
  have hts := atoms_spec (ws := woX1_hasLate) B.pre
  have hown : s.vm.findClass RX1 = some mI.cls := findClass_of_methodNamed B.named
  have hlocks := B.notSynchronized
  have hD := hD0.self (sz := s.heap.size)
  generalize hAe : va_A [(h0, .inr (3, [.ref xu, .ref xm, .int (iI 0), .int (iI 0), .int (iI 0)]))] s.heap.size = A at hD hE ⊢
  have hA : ∀ q : Nat, s.heap.size ≤ q → A q := fun q h => by rw [← hAe]; exact Or.inr h
  have hS : va_S A s.heap s.heap [] := va_S.rf
  obtain ⟨hK, hNw, hNc, hZs, hAO1, hAO2⟩ := id hE
  have hSF : CallFix p mI cO cX1_hasLate 1 s ([.ref h0] : List Value).toArray woX1_hasLate RX1 := ⟨hx, hb, hml, hown, hts⟩
  have hl := lv_entry ([.ref h0] : List Value) (n := 1) (Nat.le_of_ble_eq_true rfl)
  rw [lg_entry_eq]
  generalize (lg_sl ([.ref h0] : List Value) ++ List.replicate (1 - (lg_sl ([.ref h0] : List Value)).length) Slot.unset).toArray = ls at hl ⊢
  have hl : lv_has ls 1 [(0, .ref h0)] := hl
  refine W_gen (fun Q hQ => ?_)
  change W p l e ({ frames := 0, cells := 0, slots := 0, locals := 0 } : Room) s mI _ below meth cO s.heap [] 0 0 Q _
  have hP : va_P (dC, dI) vwCl [(h0, .inr (3, [.ref xu, .ref xm, .int (iI 0), .int (iI 0), .int (iI 0)]))] s.heap := hP
  refine lv_aload_n hx hb dX1_hasLate_0 rfl (lv_at hl 0 rfl) ?_
  refine va_get (D := (dC, dI)) (ci := 3) (v := .int (iI 0)) (C := RX1) (T := TX1) (N := 5) hx hb hts (fun _ h => List.mem_cons_of_mem _ (inlX1 _ h)) hown hK hP 0 rfl rfl 4 (by decide) (hts (.fieldLink RX1 24 "LoanServicing$Bills" "lateEnd" "I") (List.mem_cons_of_mem _ (wl_8 (List.mem_of_getElem? (i := 18) rfl)))) (fun _ h9 => h9) rfl dX1_hasLate_1 ?_
  refine lv_aload_n hx hb dX1_hasLate_4 rfl (lv_at hl 0 rfl) ?_
  refine va_get (D := (dC, dI)) (ci := 3) (v := .int (iI 0)) (C := RX1) (T := TX1) (N := 5) hx hb hts (fun _ h => List.mem_cons_of_mem _ (inlX1 _ h)) hown hK hP 0 rfl rfl 3 (by decide) (hts (.fieldLink RX1 21 "LoanServicing$Bills" "paidEnd" "I") (List.mem_cons_of_mem _ (wl_8 (List.mem_of_getElem? (i := 17) rfl)))) (fun _ h9 => h9) rfl dX1_hasLate_5 ?_
  refine q_icmp_le (tgt := 15) hx hb dX1_hasLate_8 (by decide) (by omega) (fun _ => ?_) (fun q => absurd q (by omega))
  refine q_iconst hx hb dX1_hasLate_15 ?_
  rw [hQ]
  refine W.widen (k := 0) (n := 0) (Nat.le_of_ble_eq_true rfl) (Nat.le_of_ble_eq_true rfl) ?_
  exact W.zret (v := (iI 0)) hx hb hr (by first | rfl | decide) (fun t ht hW => ⟨⟨(iI 0), (), rfl, rfl, by rw [ht]; exact hP.sub [0] rfl, by rw [hAe]; exact hD.sub [0] (by decide) rfl⟩, hS.F ht⟩) hS.2.2 dX1_hasLate_16
set_option maxHeartbeats 4000000 in
set_option maxRecDepth 100000 in
/-- number(0) -/
theorem c_X10_number_0 (l : Launch) (dC : Nat → ClassId) (dI : Nat → Nat → Nat) (k : Nat → ClassId) (h0 hn g1 g2 hea g3 g4 g5 g6 g7 xa1 xa2 xa3 xa4 xa5 xa6 xa7 xa8 xa9 xa10 xa11 : Nat) (sz : Nat) : Met l yX10_number woX10_number ({ frames := 0, cells := 0, slots := 0, locals := 0 } : Room) (PcW (dC, dI) k [.ref h0, .int (iI 0)] [(h0, .inr (10, [.ref hn, .ref g1, .ref g2, .ref hea, .ref g3, .ref g4, .ref g5, .ref g6, .ref g7, .int (iI 0), .int (iI 0), .int (iI 0), .int (iI (-1)), .int (iI (-1)), .int (iI 0)])), (hn, .inr (2, [.ref xa1, .ref xa2, .ref xa3, .ref xa5, .ref xa8, .int (iI 0), .int (iI 0), .int (iI 0)])), (xa3, .inr (7, [.int (iI 0), .int (iI 0), .int (iI 0), .long (lI 0), .int (iI 0), .int (iI 0), .int (iI 0), .long (lI 0), .long (lI 0), .long (lI 0), .long (lI 0), .long (lI 0), .int (iI 0), .int (iI 0), .int (iI 0), .int (iI 0), .ref xa4]))] sz) (va_Qi (fun (r : Int32) (_ : Unit) => r = iI 0) (QB (dC, dI) [(h0, .inr (10, [.ref hn, .ref g1, .ref g2, .ref hea, .ref g3, .ref g4, .ref g5, .ref g6, .ref g7, .int (iI 0), .int (iI 0), .int (iI 0), .int (iI (-1)), .int (iI (-1)), .int (iI 0)])), (hn, .inr (2, [.ref xa1, .ref xa2, .ref xa3, .ref xa5, .ref xa8, .int (iI 0), .int (iI 0), .int (iI 0)])), (xa3, .inr (7, [.int (iI 0), .int (iI 0), .int (iI 0), .long (lI 0), .int (iI 0), .int (iI 0), .int (iI 0), .long (lI 0), .long (lI 0), .long (lI 0), .long (lI 0), .long (lI 0), .int (iI 0), .int (iI 0), .int (iI 0), .int (iI 0), .ref xa4]))] (fun _ => []) sz) (va_A [(h0, .inr (10, [.ref hn, .ref g1, .ref g2, .ref hea, .ref g3, .ref g4, .ref g5, .ref g6, .ref g7, .int (iI 0), .int (iI 0), .int (iI 0), .int (iI (-1)), .int (iI (-1)), .int (iI 0)])), (hn, .inr (2, [.ref xa1, .ref xa2, .ref xa3, .ref xa5, .ref xa8, .int (iI 0), .int (iI 0), .int (iI 0)])), (xa3, .inr (7, [.int (iI 0), .int (iI 0), .int (iI 0), .long (lI 0), .int (iI 0), .int (iI 0), .int (iI 0), .long (lI 0), .long (lI 0), .long (lI 0), .long (lI 0), .long (lI 0), .int (iI 0), .int (iI 0), .int (iI 0), .int (iI 0), .ref xa4]))] sz)) 0 0 (va_A [(h0, .inr (10, [.ref hn, .ref g1, .ref g2, .ref hea, .ref g3, .ref g4, .ref g5, .ref g6, .ref g7, .int (iI 0), .int (iI 0), .int (iI 0), .int (iI (-1)), .int (iI (-1)), .int (iI 0)])), (hn, .inr (2, [.ref xa1, .ref xa2, .ref xa3, .ref xa5, .ref xa8, .int (iI 0), .int (iI 0), .int (iI 0)])), (xa3, .inr (7, [.int (iI 0), .int (iI 0), .int (iI 0), .long (lI 0), .int (iI 0), .int (iI 0), .int (iI 0), .long (lI 0), .long (lI 0), .long (lI 0), .long (lI 0), .long (lI 0), .int (iI 0), .int (iI 0), .int (iI 0), .int (iI 0), .ref xa4]))] sz) := by
  refine Met.ofW (cc := cX10_number) (maxL := 3) (ret := (some .int)) (by decide) rfl ?_
  intro p e s mI args below meth cO s₁ B hml hv
  obtain ⟨rfl, rfl, hP, hD0, hE⟩ := hv
  have hx := B.exec
  have hb := B.bytes
  have hr := B.returns
  have hts := atoms_spec (ws := woX10_number) B.pre
  have hown : s.vm.findClass RX10 = some mI.cls := findClass_of_methodNamed B.named
  have hlocks := B.notSynchronized
  have hD := hD0.self (sz := s.heap.size)
  generalize hAe : va_A [(h0, .inr (10, [.ref hn, .ref g1, .ref g2, .ref hea, .ref g3, .ref g4, .ref g5, .ref g6, .ref g7, .int (iI 0), .int (iI 0), .int (iI 0), .int (iI (-1)), .int (iI (-1)), .int (iI 0)])), (hn, .inr (2, [.ref xa1, .ref xa2, .ref xa3, .ref xa5, .ref xa8, .int (iI 0), .int (iI 0), .int (iI 0)])), (xa3, .inr (7, [.int (iI 0), .int (iI 0), .int (iI 0), .long (lI 0), .int (iI 0), .int (iI 0), .int (iI 0), .long (lI 0), .long (lI 0), .long (lI 0), .long (lI 0), .long (lI 0), .int (iI 0), .int (iI 0), .int (iI 0), .int (iI 0), .ref xa4]))] s.heap.size = A at hD hE ⊢
  have hA : ∀ q : Nat, s.heap.size ≤ q → A q := fun q h => by rw [← hAe]; exact Or.inr h
  have hS : va_S A s.heap s.heap [] := va_S.rf
  obtain ⟨hK, hNw, hNc, hZs, hAO1, hAO2⟩ := id hE
  have hSF : CallFix p mI cO cX10_number 3 s ([.ref h0, .int (iI 0)] : List Value).toArray woX10_number RX10 := ⟨hx, hb, hml, hown, hts⟩
  have hl := lv_entry ([.ref h0, .int (iI 0)] : List Value) (n := 3) (Nat.le_of_ble_eq_true rfl)
  rw [lg_entry_eq]
  generalize (lg_sl ([.ref h0, .int (iI 0)] : List Value) ++ List.replicate (3 - (lg_sl ([.ref h0, .int (iI 0)] : List Value)).length) Slot.unset).toArray = ls at hl ⊢
  have hl : lv_has ls 3 [(0, .ref h0), (1, .int (iI 0))] := hl
  refine W_gen (fun Q hQ => ?_)
  change W p l e ({ frames := 0, cells := 0, slots := 0, locals := 0 } : Room) s mI _ below meth cO s.heap [] 0 0 Q _
  have hP : va_P (dC, dI) vwCl [(h0, .inr (10, [.ref hn, .ref g1, .ref g2, .ref hea, .ref g3, .ref g4, .ref g5, .ref g6, .ref g7, .int (iI 0), .int (iI 0), .int (iI 0), .int (iI (-1)), .int (iI (-1)), .int (iI 0)])), (hn, .inr (2, [.ref xa1, .ref xa2, .ref xa3, .ref xa5, .ref xa8, .int (iI 0), .int (iI 0), .int (iI 0)])), (xa3, .inr (7, [.int (iI 0), .int (iI 0), .int (iI 0), .long (lI 0), .int (iI 0), .int (iI 0), .int (iI 0), .long (lI 0), .long (lI 0), .long (lI 0), .long (lI 0), .long (lI 0), .int (iI 0), .int (iI 0), .int (iI 0), .int (iI 0), .ref xa4]))] s.heap := hP
  refine lv_aload_n hx hb dX10_number_0 rfl (lv_at hl 0 rfl) ?_
  refine va_get (D := (dC, dI)) (ci := 10) (v := .ref hn) (C := RX10) (T := TX10) (N := 15) hx hb hts (fun _ h => List.mem_cons_of_mem _ (inlX10 _ h)) hown hK hP 0 rfl rfl 0 (by decide) (hts (.fieldLink RX10 10 "LoanServicing" "now" "LLoanServicing$Account;") (List.mem_cons_of_mem _ (wl_1 (List.mem_of_getElem? (i := 17) rfl)))) (fun _ h9 => h9) rfl dX10_number_1 ?_
  refine va_getN (D := (dC, dI)) (ci := 2) (v := .ref xa3) (C := RX0) (T := TX0) (N := 8) hx hb hts (fun _ h => List.mem_cons_of_mem _ (inlX0 _ h)) hown hK hP 1 rfl rfl 2 (by decide) (va_Nw.use rfl (hNw _ (List.mem_of_getElem? (i := 26) rfl))) (fun _ h9 => h9) rfl dX10_number_4 ?_
  refine lv_astore_n (lv' := [(2, .ref xa3), (0, .ref h0), (1, .int (iI 0))]) hx hb dX10_number_7 rfl hl (by decide) rfl (fun ls hl => ?_)
  refine lv_iload_n hx hb dX10_number_8 rfl (lv_at hl 2 rfl) ?_
  refine lv_tableIn (off := 55) (tgt := 64) hx hb dX10_number_9 (by rw [iI_toInt ⟨by omega, by omega⟩]; omega) (by rw [iI_toInt ⟨by omega, by omega⟩]; omega) (by rw [iI_toInt ⟨by omega, by omega⟩]; rfl) (by decide) ?_
  refine lv_aload_n hx hb dX10_number_64 rfl (lv_at hl 0 rfl) ?_
  refine va_getN (D := (dC, dI)) (ci := 7) (v := .long (lI 0)) (C := RX6) (T := TX6) (N := 17) hx hb hts (fun _ h => List.mem_cons_of_mem _ (inlX6 _ h)) hown hK hP 2 rfl rfl 7 (by decide) (va_Nw.use rfl (hNw _ (List.mem_of_getElem? (i := 3) rfl))) (fun _ h9 => h9) rfl dX10_number_65 ?_
  refine q_l2i hx hb dX10_number_68 ?_
  rw [hQ]
  refine W.widen (k := 0) (n := 0) (Nat.le_of_ble_eq_true rfl) (Nat.le_of_ble_eq_true rfl) ?_
  exact W.iret (v := (iI 0)) hx hb hr (fun t ht hW => ⟨⟨(iI 0), (), rfl, rfl, by rw [ht]; exact hP.sub [] rfl, by rw [hAe]; exact hD.sub [] (by decide) rfl⟩, hS.F ht⟩) hS.2.2 dX10_number_69
set_option maxHeartbeats 4000000 in
set_option maxRecDepth 100000 in
/-- number(1) -/
theorem c_X10_number_1 (l : Launch) (dC : Nat → ClassId) (dI : Nat → Nat → Nat) (k : Nat → ClassId) (h0 hn g1 g2 hea g3 g4 g5 g6 g7 xa1 xa2 xa3 xa4 xa5 xa6 xa7 xa8 xa9 xa10 xa11 : Nat) (sz : Nat) : Met l yX10_number woX10_number ({ frames := 0, cells := 0, slots := 0, locals := 0 } : Room) (PcW (dC, dI) k [.ref h0, .int (iI 1)] [(h0, .inr (10, [.ref hn, .ref g1, .ref g2, .ref hea, .ref g3, .ref g4, .ref g5, .ref g6, .ref g7, .int (iI 0), .int (iI 0), .int (iI 0), .int (iI (-1)), .int (iI (-1)), .int (iI 0)])), (hn, .inr (2, [.ref xa1, .ref xa2, .ref xa3, .ref xa5, .ref xa8, .int (iI 0), .int (iI 0), .int (iI 0)])), (xa3, .inr (7, [.int (iI 0), .int (iI 0), .int (iI 0), .long (lI 0), .int (iI 0), .int (iI 0), .int (iI 0), .long (lI 0), .long (lI 0), .long (lI 0), .long (lI 0), .long (lI 0), .int (iI 0), .int (iI 0), .int (iI 0), .int (iI 0), .ref xa4]))] sz) (va_Qi (fun (r : Int32) (_ : Unit) => r = iI 0) (QB (dC, dI) [(h0, .inr (10, [.ref hn, .ref g1, .ref g2, .ref hea, .ref g3, .ref g4, .ref g5, .ref g6, .ref g7, .int (iI 0), .int (iI 0), .int (iI 0), .int (iI (-1)), .int (iI (-1)), .int (iI 0)])), (hn, .inr (2, [.ref xa1, .ref xa2, .ref xa3, .ref xa5, .ref xa8, .int (iI 0), .int (iI 0), .int (iI 0)])), (xa3, .inr (7, [.int (iI 0), .int (iI 0), .int (iI 0), .long (lI 0), .int (iI 0), .int (iI 0), .int (iI 0), .long (lI 0), .long (lI 0), .long (lI 0), .long (lI 0), .long (lI 0), .int (iI 0), .int (iI 0), .int (iI 0), .int (iI 0), .ref xa4]))] (fun _ => []) sz) (va_A [(h0, .inr (10, [.ref hn, .ref g1, .ref g2, .ref hea, .ref g3, .ref g4, .ref g5, .ref g6, .ref g7, .int (iI 0), .int (iI 0), .int (iI 0), .int (iI (-1)), .int (iI (-1)), .int (iI 0)])), (hn, .inr (2, [.ref xa1, .ref xa2, .ref xa3, .ref xa5, .ref xa8, .int (iI 0), .int (iI 0), .int (iI 0)])), (xa3, .inr (7, [.int (iI 0), .int (iI 0), .int (iI 0), .long (lI 0), .int (iI 0), .int (iI 0), .int (iI 0), .long (lI 0), .long (lI 0), .long (lI 0), .long (lI 0), .long (lI 0), .int (iI 0), .int (iI 0), .int (iI 0), .int (iI 0), .ref xa4]))] sz)) 0 0 (va_A [(h0, .inr (10, [.ref hn, .ref g1, .ref g2, .ref hea, .ref g3, .ref g4, .ref g5, .ref g6, .ref g7, .int (iI 0), .int (iI 0), .int (iI 0), .int (iI (-1)), .int (iI (-1)), .int (iI 0)])), (hn, .inr (2, [.ref xa1, .ref xa2, .ref xa3, .ref xa5, .ref xa8, .int (iI 0), .int (iI 0), .int (iI 0)])), (xa3, .inr (7, [.int (iI 0), .int (iI 0), .int (iI 0), .long (lI 0), .int (iI 0), .int (iI 0), .int (iI 0), .long (lI 0), .long (lI 0), .long (lI 0), .long (lI 0), .long (lI 0), .int (iI 0), .int (iI 0), .int (iI 0), .int (iI 0), .ref xa4]))] sz) := by
  refine Met.ofW (cc := cX10_number) (maxL := 3) (ret := (some .int)) (by decide) rfl ?_
  intro p e s mI args below meth cO s₁ B hml hv
  obtain ⟨rfl, rfl, hP, hD0, hE⟩ := hv
  have hx := B.exec
  have hb := B.bytes
  have hr := B.returns
  have hts := atoms_spec (ws := woX10_number) B.pre
  have hown : s.vm.findClass RX10 = some mI.cls := findClass_of_methodNamed B.named
  have hlocks := B.notSynchronized
  have hD := hD0.self (sz := s.heap.size)
  generalize hAe : va_A [(h0, .inr (10, [.ref hn, .ref g1, .ref g2, .ref hea, .ref g3, .ref g4, .ref g5, .ref g6, .ref g7, .int (iI 0), .int (iI 0), .int (iI 0), .int (iI (-1)), .int (iI (-1)), .int (iI 0)])), (hn, .inr (2, [.ref xa1, .ref xa2, .ref xa3, .ref xa5, .ref xa8, .int (iI 0), .int (iI 0), .int (iI 0)])), (xa3, .inr (7, [.int (iI 0), .int (iI 0), .int (iI 0), .long (lI 0), .int (iI 0), .int (iI 0), .int (iI 0), .long (lI 0), .long (lI 0), .long (lI 0), .long (lI 0), .long (lI 0), .int (iI 0), .int (iI 0), .int (iI 0), .int (iI 0), .ref xa4]))] s.heap.size = A at hD hE ⊢
  have hA : ∀ q : Nat, s.heap.size ≤ q → A q := fun q h => by rw [← hAe]; exact Or.inr h
  have hS : va_S A s.heap s.heap [] := va_S.rf
  obtain ⟨hK, hNw, hNc, hZs, hAO1, hAO2⟩ := id hE
  have hSF : CallFix p mI cO cX10_number 3 s ([.ref h0, .int (iI 1)] : List Value).toArray woX10_number RX10 := ⟨hx, hb, hml, hown, hts⟩
  have hl := lv_entry ([.ref h0, .int (iI 1)] : List Value) (n := 3) (Nat.le_of_ble_eq_true rfl)
  rw [lg_entry_eq]
  generalize (lg_sl ([.ref h0, .int (iI 1)] : List Value) ++ List.replicate (3 - (lg_sl ([.ref h0, .int (iI 1)] : List Value)).length) Slot.unset).toArray = ls at hl ⊢
  have hl : lv_has ls 3 [(0, .ref h0), (1, .int (iI 1))] := hl
  refine W_gen (fun Q hQ => ?_)
  change W p l e ({ frames := 0, cells := 0, slots := 0, locals := 0 } : Room) s mI _ below meth cO s.heap [] 0 0 Q _
  have hP : va_P (dC, dI) vwCl [(h0, .inr (10, [.ref hn, .ref g1, .ref g2, .ref hea, .ref g3, .ref g4, .ref g5, .ref g6, .ref g7, .int (iI 0), .int (iI 0), .int (iI 0), .int (iI (-1)), .int (iI (-1)), .int (iI 0)])), (hn, .inr (2, [.ref xa1, .ref xa2, .ref xa3, .ref xa5, .ref xa8, .int (iI 0), .int (iI 0), .int (iI 0)])), (xa3, .inr (7, [.int (iI 0), .int (iI 0), .int (iI 0), .long (lI 0), .int (iI 0), .int (iI 0), .int (iI 0), .long (lI 0), .long (lI 0), .long (lI 0), .long (lI 0), .long (lI 0), .int (iI 0), .int (iI 0), .int (iI 0), .int (iI 0), .ref xa4]))] s.heap := hP
  refine lv_aload_n hx hb dX10_number_0 rfl (lv_at hl 0 rfl) ?_
  refine va_get (D := (dC, dI)) (ci := 10) (v := .ref hn) (C := RX10) (T := TX10) (N := 15) hx hb hts (fun _ h => List.mem_cons_of_mem _ (inlX10 _ h)) hown hK hP 0 rfl rfl 0 (by decide) (hts (.fieldLink RX10 10 "LoanServicing" "now" "LLoanServicing$Account;") (List.mem_cons_of_mem _ (wl_1 (List.mem_of_getElem? (i := 17) rfl)))) (fun _ h9 => h9) rfl dX10_number_1 ?_
  refine va_getN (D := (dC, dI)) (ci := 2) (v := .ref xa3) (C := RX0) (T := TX0) (N := 8) hx hb hts (fun _ h => List.mem_cons_of_mem _ (inlX0 _ h)) hown hK hP 1 rfl rfl 2 (by decide) (va_Nw.use rfl (hNw _ (List.mem_of_getElem? (i := 26) rfl))) (fun _ h9 => h9) rfl dX10_number_4 ?_
  refine lv_astore_n (lv' := [(2, .ref xa3), (0, .ref h0), (1, .int (iI 1))]) hx hb dX10_number_7 rfl hl (by decide) rfl (fun ls hl => ?_)
  refine lv_iload_n hx hb dX10_number_8 rfl (lv_at hl 2 rfl) ?_
  refine lv_tableIn (off := 61) (tgt := 70) hx hb dX10_number_9 (by rw [iI_toInt ⟨by omega, by omega⟩]; omega) (by rw [iI_toInt ⟨by omega, by omega⟩]; omega) (by rw [iI_toInt ⟨by omega, by omega⟩]; rfl) (by decide) ?_
  refine lv_aload_n hx hb dX10_number_70 rfl (lv_at hl 0 rfl) ?_
  refine va_getN (D := (dC, dI)) (ci := 7) (v := .long (lI 0)) (C := RX6) (T := TX6) (N := 17) hx hb hts (fun _ h => List.mem_cons_of_mem _ (inlX6 _ h)) hown hK hP 2 rfl rfl 8 (by decide) (va_Nw.use rfl (hNw _ (List.mem_of_getElem? (i := 4) rfl))) (fun _ h9 => h9) rfl dX10_number_71 ?_
  refine q_l2i hx hb dX10_number_74 ?_
  rw [hQ]
  refine W.widen (k := 0) (n := 0) (Nat.le_of_ble_eq_true rfl) (Nat.le_of_ble_eq_true rfl) ?_
  exact W.iret (v := (iI 0)) hx hb hr (fun t ht hW => ⟨⟨(iI 0), (), rfl, rfl, by rw [ht]; exact hP.sub [] rfl, by rw [hAe]; exact hD.sub [] (by decide) rfl⟩, hS.F ht⟩) hS.2.2 dX10_number_75
set_option maxHeartbeats 4000000 in
set_option maxRecDepth 100000 in
/-- number(2) -/
theorem c_X10_number_2 (l : Launch) (dC : Nat → ClassId) (dI : Nat → Nat → Nat) (k : Nat → ClassId) (h0 hn g1 g2 hea g3 g4 g5 g6 g7 xa1 xa2 xa3 xa4 xa5 xa6 xa7 xa8 xa9 xa10 xa11 : Nat) (sz : Nat) : Met l yX10_number woX10_number ({ frames := 0, cells := 0, slots := 0, locals := 0 } : Room) (PcW (dC, dI) k [.ref h0, .int (iI 2)] [(h0, .inr (10, [.ref hn, .ref g1, .ref g2, .ref hea, .ref g3, .ref g4, .ref g5, .ref g6, .ref g7, .int (iI 0), .int (iI 0), .int (iI 0), .int (iI (-1)), .int (iI (-1)), .int (iI 0)])), (hn, .inr (2, [.ref xa1, .ref xa2, .ref xa3, .ref xa5, .ref xa8, .int (iI 0), .int (iI 0), .int (iI 0)])), (xa3, .inr (7, [.int (iI 0), .int (iI 0), .int (iI 0), .long (lI 0), .int (iI 0), .int (iI 0), .int (iI 0), .long (lI 0), .long (lI 0), .long (lI 0), .long (lI 0), .long (lI 0), .int (iI 0), .int (iI 0), .int (iI 0), .int (iI 0), .ref xa4]))] sz) (va_Qi (fun (r : Int32) (_ : Unit) => r = iI 0) (QB (dC, dI) [(h0, .inr (10, [.ref hn, .ref g1, .ref g2, .ref hea, .ref g3, .ref g4, .ref g5, .ref g6, .ref g7, .int (iI 0), .int (iI 0), .int (iI 0), .int (iI (-1)), .int (iI (-1)), .int (iI 0)])), (hn, .inr (2, [.ref xa1, .ref xa2, .ref xa3, .ref xa5, .ref xa8, .int (iI 0), .int (iI 0), .int (iI 0)])), (xa3, .inr (7, [.int (iI 0), .int (iI 0), .int (iI 0), .long (lI 0), .int (iI 0), .int (iI 0), .int (iI 0), .long (lI 0), .long (lI 0), .long (lI 0), .long (lI 0), .long (lI 0), .int (iI 0), .int (iI 0), .int (iI 0), .int (iI 0), .ref xa4]))] (fun _ => []) sz) (va_A [(h0, .inr (10, [.ref hn, .ref g1, .ref g2, .ref hea, .ref g3, .ref g4, .ref g5, .ref g6, .ref g7, .int (iI 0), .int (iI 0), .int (iI 0), .int (iI (-1)), .int (iI (-1)), .int (iI 0)])), (hn, .inr (2, [.ref xa1, .ref xa2, .ref xa3, .ref xa5, .ref xa8, .int (iI 0), .int (iI 0), .int (iI 0)])), (xa3, .inr (7, [.int (iI 0), .int (iI 0), .int (iI 0), .long (lI 0), .int (iI 0), .int (iI 0), .int (iI 0), .long (lI 0), .long (lI 0), .long (lI 0), .long (lI 0), .long (lI 0), .int (iI 0), .int (iI 0), .int (iI 0), .int (iI 0), .ref xa4]))] sz)) 0 0 (va_A [(h0, .inr (10, [.ref hn, .ref g1, .ref g2, .ref hea, .ref g3, .ref g4, .ref g5, .ref g6, .ref g7, .int (iI 0), .int (iI 0), .int (iI 0), .int (iI (-1)), .int (iI (-1)), .int (iI 0)])), (hn, .inr (2, [.ref xa1, .ref xa2, .ref xa3, .ref xa5, .ref xa8, .int (iI 0), .int (iI 0), .int (iI 0)])), (xa3, .inr (7, [.int (iI 0), .int (iI 0), .int (iI 0), .long (lI 0), .int (iI 0), .int (iI 0), .int (iI 0), .long (lI 0), .long (lI 0), .long (lI 0), .long (lI 0), .long (lI 0), .int (iI 0), .int (iI 0), .int (iI 0), .int (iI 0), .ref xa4]))] sz) := by
  refine Met.ofW (cc := cX10_number) (maxL := 3) (ret := (some .int)) (by decide) rfl ?_
  intro p e s mI args below meth cO s₁ B hml hv
  obtain ⟨rfl, rfl, hP, hD0, hE⟩ := hv
  have hx := B.exec
  have hb := B.bytes
  have hr := B.returns
  have hts := atoms_spec (ws := woX10_number) B.pre
  have hown : s.vm.findClass RX10 = some mI.cls := findClass_of_methodNamed B.named
  have hlocks := B.notSynchronized
  have hD := hD0.self (sz := s.heap.size)
  generalize hAe : va_A [(h0, .inr (10, [.ref hn, .ref g1, .ref g2, .ref hea, .ref g3, .ref g4, .ref g5, .ref g6, .ref g7, .int (iI 0), .int (iI 0), .int (iI 0), .int (iI (-1)), .int (iI (-1)), .int (iI 0)])), (hn, .inr (2, [.ref xa1, .ref xa2, .ref xa3, .ref xa5, .ref xa8, .int (iI 0), .int (iI 0), .int (iI 0)])), (xa3, .inr (7, [.int (iI 0), .int (iI 0), .int (iI 0), .long (lI 0), .int (iI 0), .int (iI 0), .int (iI 0), .long (lI 0), .long (lI 0), .long (lI 0), .long (lI 0), .long (lI 0), .int (iI 0), .int (iI 0), .int (iI 0), .int (iI 0), .ref xa4]))] s.heap.size = A at hD hE ⊢
  have hA : ∀ q : Nat, s.heap.size ≤ q → A q := fun q h => by rw [← hAe]; exact Or.inr h
  have hS : va_S A s.heap s.heap [] := va_S.rf
  obtain ⟨hK, hNw, hNc, hZs, hAO1, hAO2⟩ := id hE
  have hSF : CallFix p mI cO cX10_number 3 s ([.ref h0, .int (iI 2)] : List Value).toArray woX10_number RX10 := ⟨hx, hb, hml, hown, hts⟩
  have hl := lv_entry ([.ref h0, .int (iI 2)] : List Value) (n := 3) (Nat.le_of_ble_eq_true rfl)
  rw [lg_entry_eq]
  generalize (lg_sl ([.ref h0, .int (iI 2)] : List Value) ++ List.replicate (3 - (lg_sl ([.ref h0, .int (iI 2)] : List Value)).length) Slot.unset).toArray = ls at hl ⊢
  have hl : lv_has ls 3 [(0, .ref h0), (1, .int (iI 2))] := hl
  refine W_gen (fun Q hQ => ?_)
  change W p l e ({ frames := 0, cells := 0, slots := 0, locals := 0 } : Room) s mI _ below meth cO s.heap [] 0 0 Q _
  have hP : va_P (dC, dI) vwCl [(h0, .inr (10, [.ref hn, .ref g1, .ref g2, .ref hea, .ref g3, .ref g4, .ref g5, .ref g6, .ref g7, .int (iI 0), .int (iI 0), .int (iI 0), .int (iI (-1)), .int (iI (-1)), .int (iI 0)])), (hn, .inr (2, [.ref xa1, .ref xa2, .ref xa3, .ref xa5, .ref xa8, .int (iI 0), .int (iI 0), .int (iI 0)])), (xa3, .inr (7, [.int (iI 0), .int (iI 0), .int (iI 0), .long (lI 0), .int (iI 0), .int (iI 0), .int (iI 0), .long (lI 0), .long (lI 0), .long (lI 0), .long (lI 0), .long (lI 0), .int (iI 0), .int (iI 0), .int (iI 0), .int (iI 0), .ref xa4]))] s.heap := hP
  refine lv_aload_n hx hb dX10_number_0 rfl (lv_at hl 0 rfl) ?_
  refine va_get (D := (dC, dI)) (ci := 10) (v := .ref hn) (C := RX10) (T := TX10) (N := 15) hx hb hts (fun _ h => List.mem_cons_of_mem _ (inlX10 _ h)) hown hK hP 0 rfl rfl 0 (by decide) (hts (.fieldLink RX10 10 "LoanServicing" "now" "LLoanServicing$Account;") (List.mem_cons_of_mem _ (wl_1 (List.mem_of_getElem? (i := 17) rfl)))) (fun _ h9 => h9) rfl dX10_number_1 ?_
  refine va_getN (D := (dC, dI)) (ci := 2) (v := .ref xa3) (C := RX0) (T := TX0) (N := 8) hx hb hts (fun _ h => List.mem_cons_of_mem _ (inlX0 _ h)) hown hK hP 1 rfl rfl 2 (by decide) (va_Nw.use rfl (hNw _ (List.mem_of_getElem? (i := 26) rfl))) (fun _ h9 => h9) rfl dX10_number_4 ?_
  refine lv_astore_n (lv' := [(2, .ref xa3), (0, .ref h0), (1, .int (iI 2))]) hx hb dX10_number_7 rfl hl (by decide) rfl (fun ls hl => ?_)
  refine lv_iload_n hx hb dX10_number_8 rfl (lv_at hl 2 rfl) ?_
  refine lv_tableIn (off := 67) (tgt := 76) hx hb dX10_number_9 (by rw [iI_toInt ⟨by omega, by omega⟩]; omega) (by rw [iI_toInt ⟨by omega, by omega⟩]; omega) (by rw [iI_toInt ⟨by omega, by omega⟩]; rfl) (by decide) ?_
  refine lv_aload_n hx hb dX10_number_76 rfl (lv_at hl 0 rfl) ?_
  refine va_getN (D := (dC, dI)) (ci := 7) (v := .long (lI 0)) (C := RX6) (T := TX6) (N := 17) hx hb hts (fun _ h => List.mem_cons_of_mem _ (inlX6 _ h)) hown hK hP 2 rfl rfl 9 (by decide) (va_Nw.use rfl (hNw _ (List.mem_of_getElem? (i := 5) rfl))) (fun _ h9 => h9) rfl dX10_number_77 ?_
  refine q_l2i hx hb dX10_number_80 ?_
  rw [hQ]
  refine W.widen (k := 0) (n := 0) (Nat.le_of_ble_eq_true rfl) (Nat.le_of_ble_eq_true rfl) ?_
  exact W.iret (v := (iI 0)) hx hb hr (fun t ht hW => ⟨⟨(iI 0), (), rfl, rfl, by rw [ht]; exact hP.sub [] rfl, by rw [hAe]; exact hD.sub [] (by decide) rfl⟩, hS.F ht⟩) hS.2.2 dX10_number_81
set_option maxHeartbeats 4000000 in
set_option maxRecDepth 100000 in
/-- number(3) -/
theorem c_X10_number_3 (l : Launch) (dC : Nat → ClassId) (dI : Nat → Nat → Nat) (k : Nat → ClassId) (h0 hn g1 g2 hea g3 g4 g5 g6 g7 xa1 xa2 xa3 xa4 xa5 xa6 xa7 xa8 xa9 xa10 xa11 : Nat) (sz : Nat) : Met l yX10_number woX10_number ({ frames := 3, cells := 0, slots := 0, locals := 67 } : Room) (PcW (dC, dI) k [.ref h0, .int (iI 3)] [(h0, .inr (10, [.ref hn, .ref g1, .ref g2, .ref hea, .ref g3, .ref g4, .ref g5, .ref g6, .ref g7, .int (iI 0), .int (iI 0), .int (iI 0), .int (iI (-1)), .int (iI (-1)), .int (iI 0)])), (hn, .inr (2, [.ref xa1, .ref xa2, .ref xa3, .ref xa5, .ref xa8, .int (iI 0), .int (iI 0), .int (iI 0)])), (xa3, .inr (7, [.int (iI 0), .int (iI 0), .int (iI 0), .long (lI 0), .int (iI 0), .int (iI 0), .int (iI 0), .long (lI 0), .long (lI 0), .long (lI 0), .long (lI 0), .long (lI 0), .int (iI 0), .int (iI 0), .int (iI 0), .int (iI 0), .ref xa4]))] sz) (va_Qi (fun (r : Int32) (_ : Unit) => r = iI 0) (QB (dC, dI) [(h0, .inr (10, [.ref hn, .ref g1, .ref g2, .ref hea, .ref g3, .ref g4, .ref g5, .ref g6, .ref g7, .int (iI 0), .int (iI 0), .int (iI 0), .int (iI (-1)), .int (iI (-1)), .int (iI 0)])), (hn, .inr (2, [.ref xa1, .ref xa2, .ref xa3, .ref xa5, .ref xa8, .int (iI 0), .int (iI 0), .int (iI 0)])), (xa3, .inr (7, [.int (iI 0), .int (iI 0), .int (iI 0), .long (lI 0), .int (iI 0), .int (iI 0), .int (iI 0), .long (lI 0), .long (lI 0), .long (lI 0), .long (lI 0), .long (lI 0), .int (iI 0), .int (iI 0), .int (iI 0), .int (iI 0), .ref xa4]))] (fun _ => []) sz) (va_A [(h0, .inr (10, [.ref hn, .ref g1, .ref g2, .ref hea, .ref g3, .ref g4, .ref g5, .ref g6, .ref g7, .int (iI 0), .int (iI 0), .int (iI 0), .int (iI (-1)), .int (iI (-1)), .int (iI 0)])), (hn, .inr (2, [.ref xa1, .ref xa2, .ref xa3, .ref xa5, .ref xa8, .int (iI 0), .int (iI 0), .int (iI 0)])), (xa3, .inr (7, [.int (iI 0), .int (iI 0), .int (iI 0), .long (lI 0), .int (iI 0), .int (iI 0), .int (iI 0), .long (lI 0), .long (lI 0), .long (lI 0), .long (lI 0), .long (lI 0), .int (iI 0), .int (iI 0), .int (iI 0), .int (iI 0), .ref xa4]))] sz)) 0 0 (va_A [(h0, .inr (10, [.ref hn, .ref g1, .ref g2, .ref hea, .ref g3, .ref g4, .ref g5, .ref g6, .ref g7, .int (iI 0), .int (iI 0), .int (iI 0), .int (iI (-1)), .int (iI (-1)), .int (iI 0)])), (hn, .inr (2, [.ref xa1, .ref xa2, .ref xa3, .ref xa5, .ref xa8, .int (iI 0), .int (iI 0), .int (iI 0)])), (xa3, .inr (7, [.int (iI 0), .int (iI 0), .int (iI 0), .long (lI 0), .int (iI 0), .int (iI 0), .int (iI 0), .long (lI 0), .long (lI 0), .long (lI 0), .long (lI 0), .long (lI 0), .int (iI 0), .int (iI 0), .int (iI 0), .int (iI 0), .ref xa4]))] sz) := by
  refine Met.ofW (cc := cX10_number) (maxL := 3) (ret := (some .int)) (by decide) rfl ?_
  intro p e s mI args below meth cO s₁ B hml hv
  obtain ⟨rfl, rfl, hP, hD0, hE⟩ := hv
  have hx := B.exec
  have hb := B.bytes
  have hr := B.returns
  have hts := atoms_spec (ws := woX10_number) B.pre
  have hown : s.vm.findClass RX10 = some mI.cls := findClass_of_methodNamed B.named
  have hlocks := B.notSynchronized
  have hD := hD0.self (sz := s.heap.size)
  generalize hAe : va_A [(h0, .inr (10, [.ref hn, .ref g1, .ref g2, .ref hea, .ref g3, .ref g4, .ref g5, .ref g6, .ref g7, .int (iI 0), .int (iI 0), .int (iI 0), .int (iI (-1)), .int (iI (-1)), .int (iI 0)])), (hn, .inr (2, [.ref xa1, .ref xa2, .ref xa3, .ref xa5, .ref xa8, .int (iI 0), .int (iI 0), .int (iI 0)])), (xa3, .inr (7, [.int (iI 0), .int (iI 0), .int (iI 0), .long (lI 0), .int (iI 0), .int (iI 0), .int (iI 0), .long (lI 0), .long (lI 0), .long (lI 0), .long (lI 0), .long (lI 0), .int (iI 0), .int (iI 0), .int (iI 0), .int (iI 0), .ref xa4]))] s.heap.size = A at hD hE ⊢
  have hA : ∀ q : Nat, s.heap.size ≤ q → A q := fun q h => by rw [← hAe]; exact Or.inr h
  have hS : va_S A s.heap s.heap [] := va_S.rf
  obtain ⟨hK, hNw, hNc, hZs, hAO1, hAO2⟩ := id hE
  have hSF : CallFix p mI cO cX10_number 3 s ([.ref h0, .int (iI 3)] : List Value).toArray woX10_number RX10 := ⟨hx, hb, hml, hown, hts⟩
  have hl := lv_entry ([.ref h0, .int (iI 3)] : List Value) (n := 3) (Nat.le_of_ble_eq_true rfl)
  rw [lg_entry_eq]
  generalize (lg_sl ([.ref h0, .int (iI 3)] : List Value) ++ List.replicate (3 - (lg_sl ([.ref h0, .int (iI 3)] : List Value)).length) Slot.unset).toArray = ls at hl ⊢
  have hl : lv_has ls 3 [(0, .ref h0), (1, .int (iI 3))] := hl
  refine W_gen (fun Q hQ => ?_)
  change W p l e ({ frames := 3, cells := 0, slots := 0, locals := 67 } : Room) s mI _ below meth cO s.heap [] 0 0 Q _
  have hP : va_P (dC, dI) vwCl [(h0, .inr (10, [.ref hn, .ref g1, .ref g2, .ref hea, .ref g3, .ref g4, .ref g5, .ref g6, .ref g7, .int (iI 0), .int (iI 0), .int (iI 0), .int (iI (-1)), .int (iI (-1)), .int (iI 0)])), (hn, .inr (2, [.ref xa1, .ref xa2, .ref xa3, .ref xa5, .ref xa8, .int (iI 0), .int (iI 0), .int (iI 0)])), (xa3, .inr (7, [.int (iI 0), .int (iI 0), .int (iI 0), .long (lI 0), .int (iI 0), .int (iI 0), .int (iI 0), .long (lI 0), .long (lI 0), .long (lI 0), .long (lI 0), .long (lI 0), .int (iI 0), .int (iI 0), .int (iI 0), .int (iI 0), .ref xa4]))] s.heap := hP
  refine lv_aload_n hx hb dX10_number_0 rfl (lv_at hl 0 rfl) ?_
  refine va_get (D := (dC, dI)) (ci := 10) (v := .ref hn) (C := RX10) (T := TX10) (N := 15) hx hb hts (fun _ h => List.mem_cons_of_mem _ (inlX10 _ h)) hown hK hP 0 rfl rfl 0 (by decide) (hts (.fieldLink RX10 10 "LoanServicing" "now" "LLoanServicing$Account;") (List.mem_cons_of_mem _ (wl_1 (List.mem_of_getElem? (i := 17) rfl)))) (fun _ h9 => h9) rfl dX10_number_1 ?_
  refine va_getN (D := (dC, dI)) (ci := 2) (v := .ref xa3) (C := RX0) (T := TX0) (N := 8) hx hb hts (fun _ h => List.mem_cons_of_mem _ (inlX0 _ h)) hown hK hP 1 rfl rfl 2 (by decide) (va_Nw.use rfl (hNw _ (List.mem_of_getElem? (i := 26) rfl))) (fun _ h9 => h9) rfl dX10_number_4 ?_
  refine lv_astore_n (lv' := [(2, .ref xa3), (0, .ref h0), (1, .int (iI 3))]) hx hb dX10_number_7 rfl hl (by decide) rfl (fun ls hl => ?_)
  refine lv_iload_n hx hb dX10_number_8 rfl (lv_at hl 2 rfl) ?_
  refine lv_tableIn (off := 73) (tgt := 82) hx hb dX10_number_9 (by rw [iI_toInt ⟨by omega, by omega⟩]; omega) (by rw [iI_toInt ⟨by omega, by omega⟩]; omega) (by rw [iI_toInt ⟨by omega, by omega⟩]; rfl) (by decide) ?_
  refine lv_aload_n hx hb dX10_number_82 rfl (lv_at hl 0 rfl) ?_
  refine kl (va_runV (As := []) (rest := []) hSF ((c_X6_debtAfterPosting l dC dI k xa3 xa4) s.heap.size) (cwV 0 hts gX10_number_X6_debtAfterPosting rfl rfl rfl (by decide +kernel) ⟨Nat.le_of_ble_eq_true rfl, Nat.le_of_ble_eq_true rfl⟩) (preV hP hD hE hS hA [2] rfl (by decide) (ci := 7) (q0 := 2) rfl rfl) rfl rfl hl.1 rfl (lv_room (Nat.le_of_ble_eq_true rfl)) dX10_number_83 ⟨Nat.le_of_ble_eq_true rfl, Nat.le_of_ble_eq_true rfl⟩) hP hD hS hA [2] [0, 1] rfl (wr := [(h0, .inr (10, [.ref hn, .ref g1, .ref g2, .ref hea, .ref g3, .ref g4, .ref g5, .ref g6, .ref g7, .int (iI 0), .int (iI 0), .int (iI 0), .int (iI (-1)), .int (iI (-1)), .int (iI 0)])), (hn, .inr (2, [.ref xa1, .ref xa2, .ref xa3, .ref xa5, .ref xa8, .int (iI 0), .int (iI 0), .int (iI 0)]))]) rfl (by decide) (by decide) (fun r83 _ H locs hw hP hD hS => ?_)
  obtain rfl : r83 = (lI 0) := hw
  have hP : va_P (dC, dI) vwCl [(h0, .inr (10, [.ref hn, .ref g1, .ref g2, .ref hea, .ref g3, .ref g4, .ref g5, .ref g6, .ref g7, .int (iI 0), .int (iI 0), .int (iI 0), .int (iI (-1)), .int (iI (-1)), .int (iI 0)])), (hn, .inr (2, [.ref xa1, .ref xa2, .ref xa3, .ref xa5, .ref xa8, .int (iI 0), .int (iI 0), .int (iI 0)])), (xa3, .inr (7, [.int (iI 0), .int (iI 0), .int (iI 0), .long (lI 0), .int (iI 0), .int (iI 0), .int (iI 0), .long (lI 0), .long (lI 0), .long (lI 0), .long (lI 0), .long (lI 0), .int (iI 0), .int (iI 0), .int (iI 0), .int (iI 0), .ref xa4]))] H := hP
  have hD : va_D A [(h0, .inr (10, [.ref hn, .ref g1, .ref g2, .ref hea, .ref g3, .ref g4, .ref g5, .ref g6, .ref g7, .int (iI 0), .int (iI 0), .int (iI 0), .int (iI (-1)), .int (iI (-1)), .int (iI 0)])), (hn, .inr (2, [.ref xa1, .ref xa2, .ref xa3, .ref xa5, .ref xa8, .int (iI 0), .int (iI 0), .int (iI 0)])), (xa3, .inr (7, [.int (iI 0), .int (iI 0), .int (iI 0), .long (lI 0), .int (iI 0), .int (iI 0), .int (iI 0), .long (lI 0), .long (lI 0), .long (lI 0), .long (lI 0), .long (lI 0), .int (iI 0), .int (iI 0), .int (iI 0), .int (iI 0), .ref xa4]))] := hD
  refine q_l2i hx hb dX10_number_86 ?_
  rw [hQ]
  refine W.widen (k := 0) (n := 0) (Nat.le_of_ble_eq_true rfl) (Nat.le_of_ble_eq_true rfl) ?_
  exact W.iret (v := (iI 0)) hx hb hr (fun t ht hW => ⟨⟨(iI 0), (), rfl, rfl, by rw [ht]; exact hP.sub [] rfl, by rw [hAe]; exact hD.sub [] (by decide) rfl⟩, hS.F ht⟩) hS.2.2 dX10_number_87
set_option maxHeartbeats 4000000 in
set_option maxRecDepth 100000 in
/-- number(4) -/
theorem c_X10_number_4 (l : Launch) (dC : Nat → ClassId) (dI : Nat → Nat → Nat) (k : Nat → ClassId) (h0 hn g1 g2 hea g3 g4 g5 g6 g7 xa1 xa2 xa3 xa4 xa5 xa6 xa7 xa8 xa9 xa10 xa11 : Nat) (sz : Nat) : Met l yX10_number woX10_number ({ frames := 0, cells := 0, slots := 0, locals := 0 } : Room) (PcW (dC, dI) k [.ref h0, .int (iI 4)] [(h0, .inr (10, [.ref hn, .ref g1, .ref g2, .ref hea, .ref g3, .ref g4, .ref g5, .ref g6, .ref g7, .int (iI 0), .int (iI 0), .int (iI 0), .int (iI (-1)), .int (iI (-1)), .int (iI 0)])), (hn, .inr (2, [.ref xa1, .ref xa2, .ref xa3, .ref xa5, .ref xa8, .int (iI 0), .int (iI 0), .int (iI 0)])), (xa3, .inr (7, [.int (iI 0), .int (iI 0), .int (iI 0), .long (lI 0), .int (iI 0), .int (iI 0), .int (iI 0), .long (lI 0), .long (lI 0), .long (lI 0), .long (lI 0), .long (lI 0), .int (iI 0), .int (iI 0), .int (iI 0), .int (iI 0), .ref xa4]))] sz) (va_Qi (fun (r : Int32) (_ : Unit) => r = iI 0) (QB (dC, dI) [(h0, .inr (10, [.ref hn, .ref g1, .ref g2, .ref hea, .ref g3, .ref g4, .ref g5, .ref g6, .ref g7, .int (iI 0), .int (iI 0), .int (iI 0), .int (iI (-1)), .int (iI (-1)), .int (iI 0)])), (hn, .inr (2, [.ref xa1, .ref xa2, .ref xa3, .ref xa5, .ref xa8, .int (iI 0), .int (iI 0), .int (iI 0)])), (xa3, .inr (7, [.int (iI 0), .int (iI 0), .int (iI 0), .long (lI 0), .int (iI 0), .int (iI 0), .int (iI 0), .long (lI 0), .long (lI 0), .long (lI 0), .long (lI 0), .long (lI 0), .int (iI 0), .int (iI 0), .int (iI 0), .int (iI 0), .ref xa4]))] (fun _ => []) sz) (va_A [(h0, .inr (10, [.ref hn, .ref g1, .ref g2, .ref hea, .ref g3, .ref g4, .ref g5, .ref g6, .ref g7, .int (iI 0), .int (iI 0), .int (iI 0), .int (iI (-1)), .int (iI (-1)), .int (iI 0)])), (hn, .inr (2, [.ref xa1, .ref xa2, .ref xa3, .ref xa5, .ref xa8, .int (iI 0), .int (iI 0), .int (iI 0)])), (xa3, .inr (7, [.int (iI 0), .int (iI 0), .int (iI 0), .long (lI 0), .int (iI 0), .int (iI 0), .int (iI 0), .long (lI 0), .long (lI 0), .long (lI 0), .long (lI 0), .long (lI 0), .int (iI 0), .int (iI 0), .int (iI 0), .int (iI 0), .ref xa4]))] sz)) 0 0 (va_A [(h0, .inr (10, [.ref hn, .ref g1, .ref g2, .ref hea, .ref g3, .ref g4, .ref g5, .ref g6, .ref g7, .int (iI 0), .int (iI 0), .int (iI 0), .int (iI (-1)), .int (iI (-1)), .int (iI 0)])), (hn, .inr (2, [.ref xa1, .ref xa2, .ref xa3, .ref xa5, .ref xa8, .int (iI 0), .int (iI 0), .int (iI 0)])), (xa3, .inr (7, [.int (iI 0), .int (iI 0), .int (iI 0), .long (lI 0), .int (iI 0), .int (iI 0), .int (iI 0), .long (lI 0), .long (lI 0), .long (lI 0), .long (lI 0), .long (lI 0), .int (iI 0), .int (iI 0), .int (iI 0), .int (iI 0), .ref xa4]))] sz) := by
  refine Met.ofW (cc := cX10_number) (maxL := 3) (ret := (some .int)) (by decide) rfl ?_
  intro p e s mI args below meth cO s₁ B hml hv
  obtain ⟨rfl, rfl, hP, hD0, hE⟩ := hv
  have hx := B.exec
  have hb := B.bytes
  have hr := B.returns
  have hts := atoms_spec (ws := woX10_number) B.pre
  have hown : s.vm.findClass RX10 = some mI.cls := findClass_of_methodNamed B.named
  have hlocks := B.notSynchronized
  have hD := hD0.self (sz := s.heap.size)
  generalize hAe : va_A [(h0, .inr (10, [.ref hn, .ref g1, .ref g2, .ref hea, .ref g3, .ref g4, .ref g5, .ref g6, .ref g7, .int (iI 0), .int (iI 0), .int (iI 0), .int (iI (-1)), .int (iI (-1)), .int (iI 0)])), (hn, .inr (2, [.ref xa1, .ref xa2, .ref xa3, .ref xa5, .ref xa8, .int (iI 0), .int (iI 0), .int (iI 0)])), (xa3, .inr (7, [.int (iI 0), .int (iI 0), .int (iI 0), .long (lI 0), .int (iI 0), .int (iI 0), .int (iI 0), .long (lI 0), .long (lI 0), .long (lI 0), .long (lI 0), .long (lI 0), .int (iI 0), .int (iI 0), .int (iI 0), .int (iI 0), .ref xa4]))] s.heap.size = A at hD hE ⊢
  have hA : ∀ q : Nat, s.heap.size ≤ q → A q := fun q h => by rw [← hAe]; exact Or.inr h
  have hS : va_S A s.heap s.heap [] := va_S.rf
  obtain ⟨hK, hNw, hNc, hZs, hAO1, hAO2⟩ := id hE
  have hSF : CallFix p mI cO cX10_number 3 s ([.ref h0, .int (iI 4)] : List Value).toArray woX10_number RX10 := ⟨hx, hb, hml, hown, hts⟩
  have hl := lv_entry ([.ref h0, .int (iI 4)] : List Value) (n := 3) (Nat.le_of_ble_eq_true rfl)
  rw [lg_entry_eq]
  generalize (lg_sl ([.ref h0, .int (iI 4)] : List Value) ++ List.replicate (3 - (lg_sl ([.ref h0, .int (iI 4)] : List Value)).length) Slot.unset).toArray = ls at hl ⊢
  have hl : lv_has ls 3 [(0, .ref h0), (1, .int (iI 4))] := hl
  refine W_gen (fun Q hQ => ?_)
  change W p l e ({ frames := 0, cells := 0, slots := 0, locals := 0 } : Room) s mI _ below meth cO s.heap [] 0 0 Q _
  have hP : va_P (dC, dI) vwCl [(h0, .inr (10, [.ref hn, .ref g1, .ref g2, .ref hea, .ref g3, .ref g4, .ref g5, .ref g6, .ref g7, .int (iI 0), .int (iI 0), .int (iI 0), .int (iI (-1)), .int (iI (-1)), .int (iI 0)])), (hn, .inr (2, [.ref xa1, .ref xa2, .ref xa3, .ref xa5, .ref xa8, .int (iI 0), .int (iI 0), .int (iI 0)])), (xa3, .inr (7, [.int (iI 0), .int (iI 0), .int (iI 0), .long (lI 0), .int (iI 0), .int (iI 0), .int (iI 0), .long (lI 0), .long (lI 0), .long (lI 0), .long (lI 0), .long (lI 0), .int (iI 0), .int (iI 0), .int (iI 0), .int (iI 0), .ref xa4]))] s.heap := hP
  refine lv_aload_n hx hb dX10_number_0 rfl (lv_at hl 0 rfl) ?_
  refine va_get (D := (dC, dI)) (ci := 10) (v := .ref hn) (C := RX10) (T := TX10) (N := 15) hx hb hts (fun _ h => List.mem_cons_of_mem _ (inlX10 _ h)) hown hK hP 0 rfl rfl 0 (by decide) (hts (.fieldLink RX10 10 "LoanServicing" "now" "LLoanServicing$Account;") (List.mem_cons_of_mem _ (wl_1 (List.mem_of_getElem? (i := 17) rfl)))) (fun _ h9 => h9) rfl dX10_number_1 ?_
  refine va_getN (D := (dC, dI)) (ci := 2) (v := .ref xa3) (C := RX0) (T := TX0) (N := 8) hx hb hts (fun _ h => List.mem_cons_of_mem _ (inlX0 _ h)) hown hK hP 1 rfl rfl 2 (by decide) (va_Nw.use rfl (hNw _ (List.mem_of_getElem? (i := 26) rfl))) (fun _ h9 => h9) rfl dX10_number_4 ?_
  refine lv_astore_n (lv' := [(2, .ref xa3), (0, .ref h0), (1, .int (iI 4))]) hx hb dX10_number_7 rfl hl (by decide) rfl (fun ls hl => ?_)
  refine lv_iload_n hx hb dX10_number_8 rfl (lv_at hl 2 rfl) ?_
  refine lv_tableIn (off := 79) (tgt := 88) hx hb dX10_number_9 (by rw [iI_toInt ⟨by omega, by omega⟩]; omega) (by rw [iI_toInt ⟨by omega, by omega⟩]; omega) (by rw [iI_toInt ⟨by omega, by omega⟩]; rfl) (by decide) ?_
  refine lv_aload_n hx hb dX10_number_88 rfl (lv_at hl 0 rfl) ?_
  refine va_getN (D := (dC, dI)) (ci := 7) (v := .long (lI 0)) (C := RX6) (T := TX6) (N := 17) hx hb hts (fun _ h => List.mem_cons_of_mem _ (inlX6 _ h)) hown hK hP 2 rfl rfl 11 (by decide) (va_Nw.use rfl (hNw _ (List.mem_of_getElem? (i := 27) rfl))) (fun _ h9 => h9) rfl dX10_number_89 ?_
  refine q_l2i hx hb dX10_number_92 ?_
  rw [hQ]
  refine W.widen (k := 0) (n := 0) (Nat.le_of_ble_eq_true rfl) (Nat.le_of_ble_eq_true rfl) ?_
  exact W.iret (v := (iI 0)) hx hb hr (fun t ht hW => ⟨⟨(iI 0), (), rfl, rfl, by rw [ht]; exact hP.sub [] rfl, by rw [hAe]; exact hD.sub [] (by decide) rfl⟩, hS.F ht⟩) hS.2.2 dX10_number_93
set_option maxHeartbeats 4000000 in
set_option maxRecDepth 100000 in
/-- number(5) -/
theorem c_X10_number_5 (l : Launch) (dC : Nat → ClassId) (dI : Nat → Nat → Nat) (k : Nat → ClassId) (h0 hn g1 g2 hea g3 g4 g5 g6 g7 xa1 xa2 xa3 xa4 xa5 xa6 xa7 xa8 xa9 xa10 xa11 : Nat) (sz : Nat) : Met l yX10_number woX10_number ({ frames := 0, cells := 0, slots := 0, locals := 0 } : Room) (PcW (dC, dI) k [.ref h0, .int (iI 5)] [(h0, .inr (10, [.ref hn, .ref g1, .ref g2, .ref hea, .ref g3, .ref g4, .ref g5, .ref g6, .ref g7, .int (iI 0), .int (iI 0), .int (iI 0), .int (iI (-1)), .int (iI (-1)), .int (iI 0)])), (hn, .inr (2, [.ref xa1, .ref xa2, .ref xa3, .ref xa5, .ref xa8, .int (iI 0), .int (iI 0), .int (iI 0)])), (xa3, .inr (7, [.int (iI 0), .int (iI 0), .int (iI 0), .long (lI 0), .int (iI 0), .int (iI 0), .int (iI 0), .long (lI 0), .long (lI 0), .long (lI 0), .long (lI 0), .long (lI 0), .int (iI 0), .int (iI 0), .int (iI 0), .int (iI 0), .ref xa4]))] sz) (va_Qi (fun (r : Int32) (_ : Unit) => r = iI 0) (QB (dC, dI) [(h0, .inr (10, [.ref hn, .ref g1, .ref g2, .ref hea, .ref g3, .ref g4, .ref g5, .ref g6, .ref g7, .int (iI 0), .int (iI 0), .int (iI 0), .int (iI (-1)), .int (iI (-1)), .int (iI 0)])), (hn, .inr (2, [.ref xa1, .ref xa2, .ref xa3, .ref xa5, .ref xa8, .int (iI 0), .int (iI 0), .int (iI 0)])), (xa3, .inr (7, [.int (iI 0), .int (iI 0), .int (iI 0), .long (lI 0), .int (iI 0), .int (iI 0), .int (iI 0), .long (lI 0), .long (lI 0), .long (lI 0), .long (lI 0), .long (lI 0), .int (iI 0), .int (iI 0), .int (iI 0), .int (iI 0), .ref xa4]))] (fun _ => []) sz) (va_A [(h0, .inr (10, [.ref hn, .ref g1, .ref g2, .ref hea, .ref g3, .ref g4, .ref g5, .ref g6, .ref g7, .int (iI 0), .int (iI 0), .int (iI 0), .int (iI (-1)), .int (iI (-1)), .int (iI 0)])), (hn, .inr (2, [.ref xa1, .ref xa2, .ref xa3, .ref xa5, .ref xa8, .int (iI 0), .int (iI 0), .int (iI 0)])), (xa3, .inr (7, [.int (iI 0), .int (iI 0), .int (iI 0), .long (lI 0), .int (iI 0), .int (iI 0), .int (iI 0), .long (lI 0), .long (lI 0), .long (lI 0), .long (lI 0), .long (lI 0), .int (iI 0), .int (iI 0), .int (iI 0), .int (iI 0), .ref xa4]))] sz)) 0 0 (va_A [(h0, .inr (10, [.ref hn, .ref g1, .ref g2, .ref hea, .ref g3, .ref g4, .ref g5, .ref g6, .ref g7, .int (iI 0), .int (iI 0), .int (iI 0), .int (iI (-1)), .int (iI (-1)), .int (iI 0)])), (hn, .inr (2, [.ref xa1, .ref xa2, .ref xa3, .ref xa5, .ref xa8, .int (iI 0), .int (iI 0), .int (iI 0)])), (xa3, .inr (7, [.int (iI 0), .int (iI 0), .int (iI 0), .long (lI 0), .int (iI 0), .int (iI 0), .int (iI 0), .long (lI 0), .long (lI 0), .long (lI 0), .long (lI 0), .long (lI 0), .int (iI 0), .int (iI 0), .int (iI 0), .int (iI 0), .ref xa4]))] sz) := by
  refine Met.ofW (cc := cX10_number) (maxL := 3) (ret := (some .int)) (by decide) rfl ?_
  intro p e s mI args below meth cO s₁ B hml hv
  obtain ⟨rfl, rfl, hP, hD0, hE⟩ := hv
  have hx := B.exec
  have hb := B.bytes
  have hr := B.returns
  have hts := atoms_spec (ws := woX10_number) B.pre
  have hown : s.vm.findClass RX10 = some mI.cls := findClass_of_methodNamed B.named
  have hlocks := B.notSynchronized
  have hD := hD0.self (sz := s.heap.size)
  generalize hAe : va_A [(h0, .inr (10, [.ref hn, .ref g1, .ref g2, .ref hea, .ref g3, .ref g4, .ref g5, .ref g6, .ref g7, .int (iI 0), .int (iI 0), .int (iI 0), .int (iI (-1)), .int (iI (-1)), .int (iI 0)])), (hn, .inr (2, [.ref xa1, .ref xa2, .ref xa3, .ref xa5, .ref xa8, .int (iI 0), .int (iI 0), .int (iI 0)])), (xa3, .inr (7, [.int (iI 0), .int (iI 0), .int (iI 0), .long (lI 0), .int (iI 0), .int (iI 0), .int (iI 0), .long (lI 0), .long (lI 0), .long (lI 0), .long (lI 0), .long (lI 0), .int (iI 0), .int (iI 0), .int (iI 0), .int (iI 0), .ref xa4]))] s.heap.size = A at hD hE ⊢
  have hA : ∀ q : Nat, s.heap.size ≤ q → A q := fun q h => by rw [← hAe]; exact Or.inr h
  have hS : va_S A s.heap s.heap [] := va_S.rf
  obtain ⟨hK, hNw, hNc, hZs, hAO1, hAO2⟩ := id hE
  have hSF : CallFix p mI cO cX10_number 3 s ([.ref h0, .int (iI 5)] : List Value).toArray woX10_number RX10 := ⟨hx, hb, hml, hown, hts⟩
  have hl := lv_entry ([.ref h0, .int (iI 5)] : List Value) (n := 3) (Nat.le_of_ble_eq_true rfl)
  rw [lg_entry_eq]
  generalize (lg_sl ([.ref h0, .int (iI 5)] : List Value) ++ List.replicate (3 - (lg_sl ([.ref h0, .int (iI 5)] : List Value)).length) Slot.unset).toArray = ls at hl ⊢
  have hl : lv_has ls 3 [(0, .ref h0), (1, .int (iI 5))] := hl
  refine W_gen (fun Q hQ => ?_)
  change W p l e ({ frames := 0, cells := 0, slots := 0, locals := 0 } : Room) s mI _ below meth cO s.heap [] 0 0 Q _
  have hP : va_P (dC, dI) vwCl [(h0, .inr (10, [.ref hn, .ref g1, .ref g2, .ref hea, .ref g3, .ref g4, .ref g5, .ref g6, .ref g7, .int (iI 0), .int (iI 0), .int (iI 0), .int (iI (-1)), .int (iI (-1)), .int (iI 0)])), (hn, .inr (2, [.ref xa1, .ref xa2, .ref xa3, .ref xa5, .ref xa8, .int (iI 0), .int (iI 0), .int (iI 0)])), (xa3, .inr (7, [.int (iI 0), .int (iI 0), .int (iI 0), .long (lI 0), .int (iI 0), .int (iI 0), .int (iI 0), .long (lI 0), .long (lI 0), .long (lI 0), .long (lI 0), .long (lI 0), .int (iI 0), .int (iI 0), .int (iI 0), .int (iI 0), .ref xa4]))] s.heap := hP
  refine lv_aload_n hx hb dX10_number_0 rfl (lv_at hl 0 rfl) ?_
  refine va_get (D := (dC, dI)) (ci := 10) (v := .ref hn) (C := RX10) (T := TX10) (N := 15) hx hb hts (fun _ h => List.mem_cons_of_mem _ (inlX10 _ h)) hown hK hP 0 rfl rfl 0 (by decide) (hts (.fieldLink RX10 10 "LoanServicing" "now" "LLoanServicing$Account;") (List.mem_cons_of_mem _ (wl_1 (List.mem_of_getElem? (i := 17) rfl)))) (fun _ h9 => h9) rfl dX10_number_1 ?_
  refine va_getN (D := (dC, dI)) (ci := 2) (v := .ref xa3) (C := RX0) (T := TX0) (N := 8) hx hb hts (fun _ h => List.mem_cons_of_mem _ (inlX0 _ h)) hown hK hP 1 rfl rfl 2 (by decide) (va_Nw.use rfl (hNw _ (List.mem_of_getElem? (i := 26) rfl))) (fun _ h9 => h9) rfl dX10_number_4 ?_
  refine lv_astore_n (lv' := [(2, .ref xa3), (0, .ref h0), (1, .int (iI 5))]) hx hb dX10_number_7 rfl hl (by decide) rfl (fun ls hl => ?_)
  refine lv_iload_n hx hb dX10_number_8 rfl (lv_at hl 2 rfl) ?_
  refine lv_tableIn (off := 85) (tgt := 94) hx hb dX10_number_9 (by rw [iI_toInt ⟨by omega, by omega⟩]; omega) (by rw [iI_toInt ⟨by omega, by omega⟩]; omega) (by rw [iI_toInt ⟨by omega, by omega⟩]; rfl) (by decide) ?_
  refine lv_aload_n hx hb dX10_number_94 rfl (lv_at hl 0 rfl) ?_
  refine va_getN (D := (dC, dI)) (ci := 7) (v := .int (iI 0)) (C := RX6) (T := TX6) (N := 17) hx hb hts (fun _ h => List.mem_cons_of_mem _ (inlX6 _ h)) hown hK hP 2 rfl rfl 12 (by decide) (va_Nw.use rfl (hNw _ (List.mem_of_getElem? (i := 2) rfl))) (fun _ h9 => h9) rfl dX10_number_95 ?_
  rw [hQ]
  refine W.widen (k := 0) (n := 0) (Nat.le_of_ble_eq_true rfl) (Nat.le_of_ble_eq_true rfl) ?_
  exact W.iret (v := (iI 0)) hx hb hr (fun t ht hW => ⟨⟨(iI 0), (), rfl, rfl, by rw [ht]; exact hP.sub [] rfl, by rw [hAe]; exact hD.sub [] (by decide) rfl⟩, hS.F ht⟩) hS.2.2 dX10_number_98
set_option maxHeartbeats 4000000 in
set_option maxRecDepth 100000 in
/-- number(6) -/
theorem c_X10_number_6 (l : Launch) (dC : Nat → ClassId) (dI : Nat → Nat → Nat) (k : Nat → ClassId) (h0 hn g1 g2 hea g3 g4 g5 g6 g7 xa1 xa2 xa3 xa4 xa5 xa6 xa7 xa8 xa9 xa10 xa11 : Nat) (sz : Nat) : Met l yX10_number woX10_number ({ frames := 0, cells := 0, slots := 0, locals := 0 } : Room) (PcW (dC, dI) k [.ref h0, .int (iI 6)] [(h0, .inr (10, [.ref hn, .ref g1, .ref g2, .ref hea, .ref g3, .ref g4, .ref g5, .ref g6, .ref g7, .int (iI 0), .int (iI 0), .int (iI 0), .int (iI (-1)), .int (iI (-1)), .int (iI 0)])), (hn, .inr (2, [.ref xa1, .ref xa2, .ref xa3, .ref xa5, .ref xa8, .int (iI 0), .int (iI 0), .int (iI 0)])), (xa3, .inr (7, [.int (iI 0), .int (iI 0), .int (iI 0), .long (lI 0), .int (iI 0), .int (iI 0), .int (iI 0), .long (lI 0), .long (lI 0), .long (lI 0), .long (lI 0), .long (lI 0), .int (iI 0), .int (iI 0), .int (iI 0), .int (iI 0), .ref xa4]))] sz) (va_Qi (fun (r : Int32) (_ : Unit) => r = iI (-1)) (QB (dC, dI) [(h0, .inr (10, [.ref hn, .ref g1, .ref g2, .ref hea, .ref g3, .ref g4, .ref g5, .ref g6, .ref g7, .int (iI 0), .int (iI 0), .int (iI 0), .int (iI (-1)), .int (iI (-1)), .int (iI 0)])), (hn, .inr (2, [.ref xa1, .ref xa2, .ref xa3, .ref xa5, .ref xa8, .int (iI 0), .int (iI 0), .int (iI 0)])), (xa3, .inr (7, [.int (iI 0), .int (iI 0), .int (iI 0), .long (lI 0), .int (iI 0), .int (iI 0), .int (iI 0), .long (lI 0), .long (lI 0), .long (lI 0), .long (lI 0), .long (lI 0), .int (iI 0), .int (iI 0), .int (iI 0), .int (iI 0), .ref xa4]))] (fun _ => []) sz) (va_A [(h0, .inr (10, [.ref hn, .ref g1, .ref g2, .ref hea, .ref g3, .ref g4, .ref g5, .ref g6, .ref g7, .int (iI 0), .int (iI 0), .int (iI 0), .int (iI (-1)), .int (iI (-1)), .int (iI 0)])), (hn, .inr (2, [.ref xa1, .ref xa2, .ref xa3, .ref xa5, .ref xa8, .int (iI 0), .int (iI 0), .int (iI 0)])), (xa3, .inr (7, [.int (iI 0), .int (iI 0), .int (iI 0), .long (lI 0), .int (iI 0), .int (iI 0), .int (iI 0), .long (lI 0), .long (lI 0), .long (lI 0), .long (lI 0), .long (lI 0), .int (iI 0), .int (iI 0), .int (iI 0), .int (iI 0), .ref xa4]))] sz)) 0 0 (va_A [(h0, .inr (10, [.ref hn, .ref g1, .ref g2, .ref hea, .ref g3, .ref g4, .ref g5, .ref g6, .ref g7, .int (iI 0), .int (iI 0), .int (iI 0), .int (iI (-1)), .int (iI (-1)), .int (iI 0)])), (hn, .inr (2, [.ref xa1, .ref xa2, .ref xa3, .ref xa5, .ref xa8, .int (iI 0), .int (iI 0), .int (iI 0)])), (xa3, .inr (7, [.int (iI 0), .int (iI 0), .int (iI 0), .long (lI 0), .int (iI 0), .int (iI 0), .int (iI 0), .long (lI 0), .long (lI 0), .long (lI 0), .long (lI 0), .long (lI 0), .int (iI 0), .int (iI 0), .int (iI 0), .int (iI 0), .ref xa4]))] sz) := by
  refine Met.ofW (cc := cX10_number) (maxL := 3) (ret := (some .int)) (by decide) rfl ?_
  intro p e s mI args below meth cO s₁ B hml hv
  obtain ⟨rfl, rfl, hP, hD0, hE⟩ := hv
  have hx := B.exec
  have hb := B.bytes
  have hr := B.returns
  have hts := atoms_spec (ws := woX10_number) B.pre
  have hown : s.vm.findClass RX10 = some mI.cls := findClass_of_methodNamed B.named
  have hlocks := B.notSynchronized
  have hD := hD0.self (sz := s.heap.size)
  generalize hAe : va_A [(h0, .inr (10, [.ref hn, .ref g1, .ref g2, .ref hea, .ref g3, .ref g4, .ref g5, .ref g6, .ref g7, .int (iI 0), .int (iI 0), .int (iI 0), .int (iI (-1)), .int (iI (-1)), .int (iI 0)])), (hn, .inr (2, [.ref xa1, .ref xa2, .ref xa3, .ref xa5, .ref xa8, .int (iI 0), .int (iI 0), .int (iI 0)])), (xa3, .inr (7, [.int (iI 0), .int (iI 0), .int (iI 0), .long (lI 0), .int (iI 0), .int (iI 0), .int (iI 0), .long (lI 0), .long (lI 0), .long (lI 0), .long (lI 0), .long (lI 0), .int (iI 0), .int (iI 0), .int (iI 0), .int (iI 0), .ref xa4]))] s.heap.size = A at hD hE ⊢
  have hA : ∀ q : Nat, s.heap.size ≤ q → A q := fun q h => by rw [← hAe]; exact Or.inr h
  have hS : va_S A s.heap s.heap [] := va_S.rf
  obtain ⟨hK, hNw, hNc, hZs, hAO1, hAO2⟩ := id hE
  have hSF : CallFix p mI cO cX10_number 3 s ([.ref h0, .int (iI 6)] : List Value).toArray woX10_number RX10 := ⟨hx, hb, hml, hown, hts⟩
  have hl := lv_entry ([.ref h0, .int (iI 6)] : List Value) (n := 3) (Nat.le_of_ble_eq_true rfl)
  rw [lg_entry_eq]
  generalize (lg_sl ([.ref h0, .int (iI 6)] : List Value) ++ List.replicate (3 - (lg_sl ([.ref h0, .int (iI 6)] : List Value)).length) Slot.unset).toArray = ls at hl ⊢
  have hl : lv_has ls 3 [(0, .ref h0), (1, .int (iI 6))] := hl
  refine W_gen (fun Q hQ => ?_)
  change W p l e ({ frames := 0, cells := 0, slots := 0, locals := 0 } : Room) s mI _ below meth cO s.heap [] 0 0 Q _
  have hP : va_P (dC, dI) vwCl [(h0, .inr (10, [.ref hn, .ref g1, .ref g2, .ref hea, .ref g3, .ref g4, .ref g5, .ref g6, .ref g7, .int (iI 0), .int (iI 0), .int (iI 0), .int (iI (-1)), .int (iI (-1)), .int (iI 0)])), (hn, .inr (2, [.ref xa1, .ref xa2, .ref xa3, .ref xa5, .ref xa8, .int (iI 0), .int (iI 0), .int (iI 0)])), (xa3, .inr (7, [.int (iI 0), .int (iI 0), .int (iI 0), .long (lI 0), .int (iI 0), .int (iI 0), .int (iI 0), .long (lI 0), .long (lI 0), .long (lI 0), .long (lI 0), .long (lI 0), .int (iI 0), .int (iI 0), .int (iI 0), .int (iI 0), .ref xa4]))] s.heap := hP
  refine lv_aload_n hx hb dX10_number_0 rfl (lv_at hl 0 rfl) ?_
  refine va_get (D := (dC, dI)) (ci := 10) (v := .ref hn) (C := RX10) (T := TX10) (N := 15) hx hb hts (fun _ h => List.mem_cons_of_mem _ (inlX10 _ h)) hown hK hP 0 rfl rfl 0 (by decide) (hts (.fieldLink RX10 10 "LoanServicing" "now" "LLoanServicing$Account;") (List.mem_cons_of_mem _ (wl_1 (List.mem_of_getElem? (i := 17) rfl)))) (fun _ h9 => h9) rfl dX10_number_1 ?_
  refine va_getN (D := (dC, dI)) (ci := 2) (v := .ref xa3) (C := RX0) (T := TX0) (N := 8) hx hb hts (fun _ h => List.mem_cons_of_mem _ (inlX0 _ h)) hown hK hP 1 rfl rfl 2 (by decide) (va_Nw.use rfl (hNw _ (List.mem_of_getElem? (i := 26) rfl))) (fun _ h9 => h9) rfl dX10_number_4 ?_
  refine lv_astore_n (lv' := [(2, .ref xa3), (0, .ref h0), (1, .int (iI 6))]) hx hb dX10_number_7 rfl hl (by decide) rfl (fun ls hl => ?_)
  refine lv_iload_n hx hb dX10_number_8 rfl (lv_at hl 2 rfl) ?_
  refine lv_tableIn (off := 90) (tgt := 99) hx hb dX10_number_9 (by rw [iI_toInt ⟨by omega, by omega⟩]; omega) (by rw [iI_toInt ⟨by omega, by omega⟩]; omega) (by rw [iI_toInt ⟨by omega, by omega⟩]; rfl) (by decide) ?_
  refine lv_aload_n hx hb dX10_number_99 rfl (lv_at hl 0 rfl) ?_
  refine va_getN (D := (dC, dI)) (ci := 7) (v := .int (iI 0)) (C := RX6) (T := TX6) (N := 17) hx hb hts (fun _ h => List.mem_cons_of_mem _ (inlX6 _ h)) hown hK hP 2 rfl rfl 12 (by decide) (va_Nw.use rfl (hNw _ (List.mem_of_getElem? (i := 2) rfl))) (fun _ h9 => h9) rfl dX10_number_100 ?_
  refine q_if_le (tgt := 113) hx hb dX10_number_103 (by decide) (by omega) (fun _ => ?_) (fun q => absurd q (by omega))
  refine q_iconst hx hb dX10_number_113 ?_
  rw [hQ]
  refine W.widen (k := 0) (n := 0) (Nat.le_of_ble_eq_true rfl) (Nat.le_of_ble_eq_true rfl) ?_
  exact W.iret (v := (iI (-1))) hx hb hr (fun t ht hW => ⟨⟨(iI (-1)), (), rfl, rfl, by rw [ht]; exact hP.sub [] rfl, by rw [hAe]; exact hD.sub [] (by decide) rfl⟩, hS.F ht⟩) hS.2.2 dX10_number_114
set_option maxHeartbeats 4000000 in
set_option maxRecDepth 100000 in
/-- number(7) -/
theorem c_X10_number_7 (l : Launch) (dC : Nat → ClassId) (dI : Nat → Nat → Nat) (k : Nat → ClassId) (h0 hn g1 g2 hea g3 g4 g5 g6 g7 xa1 xa2 xa3 xa4 xa5 xa6 xa7 xa8 xa9 xa10 xa11 : Nat) (sz : Nat) : Met l yX10_number woX10_number ({ frames := 2, cells := 0, slots := 0, locals := 36 } : Room) (PcW (dC, dI) k [.ref h0, .int (iI 7)] [(h0, .inr (10, [.ref hn, .ref g1, .ref g2, .ref hea, .ref g3, .ref g4, .ref g5, .ref g6, .ref g7, .int (iI 0), .int (iI 0), .int (iI 0), .int (iI (-1)), .int (iI (-1)), .int (iI 0)])), (hn, .inr (2, [.ref xa1, .ref xa2, .ref xa3, .ref xa5, .ref xa8, .int (iI 0), .int (iI 0), .int (iI 0)])), (xa3, .inr (7, [.int (iI 0), .int (iI 0), .int (iI 0), .long (lI 0), .int (iI 0), .int (iI 0), .int (iI 0), .long (lI 0), .long (lI 0), .long (lI 0), .long (lI 0), .long (lI 0), .int (iI 0), .int (iI 0), .int (iI 0), .int (iI 0), .ref xa4])), (xa5, .inr (3, [.ref xa6, .ref xa7, .int (iI 0), .int (iI 0), .int (iI 0)]))] sz) (va_Qi (fun (r : Int32) (_ : Unit) => r = iI 0) (QB (dC, dI) [(h0, .inr (10, [.ref hn, .ref g1, .ref g2, .ref hea, .ref g3, .ref g4, .ref g5, .ref g6, .ref g7, .int (iI 0), .int (iI 0), .int (iI 0), .int (iI (-1)), .int (iI (-1)), .int (iI 0)])), (hn, .inr (2, [.ref xa1, .ref xa2, .ref xa3, .ref xa5, .ref xa8, .int (iI 0), .int (iI 0), .int (iI 0)])), (xa3, .inr (7, [.int (iI 0), .int (iI 0), .int (iI 0), .long (lI 0), .int (iI 0), .int (iI 0), .int (iI 0), .long (lI 0), .long (lI 0), .long (lI 0), .long (lI 0), .long (lI 0), .int (iI 0), .int (iI 0), .int (iI 0), .int (iI 0), .ref xa4])), (xa5, .inr (3, [.ref xa6, .ref xa7, .int (iI 0), .int (iI 0), .int (iI 0)]))] (fun _ => []) sz) (va_A [(h0, .inr (10, [.ref hn, .ref g1, .ref g2, .ref hea, .ref g3, .ref g4, .ref g5, .ref g6, .ref g7, .int (iI 0), .int (iI 0), .int (iI 0), .int (iI (-1)), .int (iI (-1)), .int (iI 0)])), (hn, .inr (2, [.ref xa1, .ref xa2, .ref xa3, .ref xa5, .ref xa8, .int (iI 0), .int (iI 0), .int (iI 0)])), (xa3, .inr (7, [.int (iI 0), .int (iI 0), .int (iI 0), .long (lI 0), .int (iI 0), .int (iI 0), .int (iI 0), .long (lI 0), .long (lI 0), .long (lI 0), .long (lI 0), .long (lI 0), .int (iI 0), .int (iI 0), .int (iI 0), .int (iI 0), .ref xa4])), (xa5, .inr (3, [.ref xa6, .ref xa7, .int (iI 0), .int (iI 0), .int (iI 0)]))] sz)) 0 0 (va_A [(h0, .inr (10, [.ref hn, .ref g1, .ref g2, .ref hea, .ref g3, .ref g4, .ref g5, .ref g6, .ref g7, .int (iI 0), .int (iI 0), .int (iI 0), .int (iI (-1)), .int (iI (-1)), .int (iI 0)])), (hn, .inr (2, [.ref xa1, .ref xa2, .ref xa3, .ref xa5, .ref xa8, .int (iI 0), .int (iI 0), .int (iI 0)])), (xa3, .inr (7, [.int (iI 0), .int (iI 0), .int (iI 0), .long (lI 0), .int (iI 0), .int (iI 0), .int (iI 0), .long (lI 0), .long (lI 0), .long (lI 0), .long (lI 0), .long (lI 0), .int (iI 0), .int (iI 0), .int (iI 0), .int (iI 0), .ref xa4])), (xa5, .inr (3, [.ref xa6, .ref xa7, .int (iI 0), .int (iI 0), .int (iI 0)]))] sz) := by
  refine Met.ofW (cc := cX10_number) (maxL := 3) (ret := (some .int)) (by decide) rfl ?_
  intro p e s mI args below meth cO s₁ B hml hv
  obtain ⟨rfl, rfl, hP, hD0, hE⟩ := hv
  have hx := B.exec
  have hb := B.bytes
  have hr := B.returns
  have hts := atoms_spec (ws := woX10_number) B.pre
  have hown : s.vm.findClass RX10 = some mI.cls := findClass_of_methodNamed B.named
  have hlocks := B.notSynchronized
  have hD := hD0.self (sz := s.heap.size)
  generalize hAe : va_A [(h0, .inr (10, [.ref hn, .ref g1, .ref g2, .ref hea, .ref g3, .ref g4, .ref g5, .ref g6, .ref g7, .int (iI 0), .int (iI 0), .int (iI 0), .int (iI (-1)), .int (iI (-1)), .int (iI 0)])), (hn, .inr (2, [.ref xa1, .ref xa2, .ref xa3, .ref xa5, .ref xa8, .int (iI 0), .int (iI 0), .int (iI 0)])), (xa3, .inr (7, [.int (iI 0), .int (iI 0), .int (iI 0), .long (lI 0), .int (iI 0), .int (iI 0), .int (iI 0), .long (lI 0), .long (lI 0), .long (lI 0), .long (lI 0), .long (lI 0), .int (iI 0), .int (iI 0), .int (iI 0), .int (iI 0), .ref xa4])), (xa5, .inr (3, [.ref xa6, .ref xa7, .int (iI 0), .int (iI 0), .int (iI 0)]))] s.heap.size = A at hD hE ⊢
  have hA : ∀ q : Nat, s.heap.size ≤ q → A q := fun q h => by rw [← hAe]; exact Or.inr h
  have hS : va_S A s.heap s.heap [] := va_S.rf
  obtain ⟨hK, hNw, hNc, hZs, hAO1, hAO2⟩ := id hE
  have hSF : CallFix p mI cO cX10_number 3 s ([.ref h0, .int (iI 7)] : List Value).toArray woX10_number RX10 := ⟨hx, hb, hml, hown, hts⟩
  have hl := lv_entry ([.ref h0, .int (iI 7)] : List Value) (n := 3) (Nat.le_of_ble_eq_true rfl)
  rw [lg_entry_eq]
  generalize (lg_sl ([.ref h0, .int (iI 7)] : List Value) ++ List.replicate (3 - (lg_sl ([.ref h0, .int (iI 7)] : List Value)).length) Slot.unset).toArray = ls at hl ⊢
  have hl : lv_has ls 3 [(0, .ref h0), (1, .int (iI 7))] := hl
  refine W_gen (fun Q hQ => ?_)
  change W p l e ({ frames := 2, cells := 0, slots := 0, locals := 36 } : Room) s mI _ below meth cO s.heap [] 0 0 Q _
  have hP : va_P (dC, dI) vwCl [(h0, .inr (10, [.ref hn, .ref g1, .ref g2, .ref hea, .ref g3, .ref g4, .ref g5, .ref g6, .ref g7, .int (iI 0), .int (iI 0), .int (iI 0), .int (iI (-1)), .int (iI (-1)), .int (iI 0)])), (hn, .inr (2, [.ref xa1, .ref xa2, .ref xa3, .ref xa5, .ref xa8, .int (iI 0), .int (iI 0), .int (iI 0)])), (xa3, .inr (7, [.int (iI 0), .int (iI 0), .int (iI 0), .long (lI 0), .int (iI 0), .int (iI 0), .int (iI 0), .long (lI 0), .long (lI 0), .long (lI 0), .long (lI 0), .long (lI 0), .int (iI 0), .int (iI 0), .int (iI 0), .int (iI 0), .ref xa4])), (xa5, .inr (3, [.ref xa6, .ref xa7, .int (iI 0), .int (iI 0), .int (iI 0)]))] s.heap := hP
  refine lv_aload_n hx hb dX10_number_0 rfl (lv_at hl 0 rfl) ?_
  refine va_get (D := (dC, dI)) (ci := 10) (v := .ref hn) (C := RX10) (T := TX10) (N := 15) hx hb hts (fun _ h => List.mem_cons_of_mem _ (inlX10 _ h)) hown hK hP 0 rfl rfl 0 (by decide) (hts (.fieldLink RX10 10 "LoanServicing" "now" "LLoanServicing$Account;") (List.mem_cons_of_mem _ (wl_1 (List.mem_of_getElem? (i := 17) rfl)))) (fun _ h9 => h9) rfl dX10_number_1 ?_
  refine va_getN (D := (dC, dI)) (ci := 2) (v := .ref xa3) (C := RX0) (T := TX0) (N := 8) hx hb hts (fun _ h => List.mem_cons_of_mem _ (inlX0 _ h)) hown hK hP 1 rfl rfl 2 (by decide) (va_Nw.use rfl (hNw _ (List.mem_of_getElem? (i := 26) rfl))) (fun _ h9 => h9) rfl dX10_number_4 ?_
  refine lv_astore_n (lv' := [(2, .ref xa3), (0, .ref h0), (1, .int (iI 7))]) hx hb dX10_number_7 rfl hl (by decide) rfl (fun ls hl => ?_)
  refine lv_iload_n hx hb dX10_number_8 rfl (lv_at hl 2 rfl) ?_
  refine lv_tableIn (off := 106) (tgt := 115) hx hb dX10_number_9 (by rw [iI_toInt ⟨by omega, by omega⟩]; omega) (by rw [iI_toInt ⟨by omega, by omega⟩]; omega) (by rw [iI_toInt ⟨by omega, by omega⟩]; rfl) (by decide) ?_
  refine lv_aload_n hx hb dX10_number_115 rfl (lv_at hl 1 rfl) ?_
  refine va_get (D := (dC, dI)) (ci := 10) (v := .ref hn) (C := RX10) (T := TX10) (N := 15) hx hb hts (fun _ h => List.mem_cons_of_mem _ (inlX10 _ h)) hown hK hP 0 rfl rfl 0 (by decide) (hts (.fieldLink RX10 10 "LoanServicing" "now" "LLoanServicing$Account;") (List.mem_cons_of_mem _ (wl_1 (List.mem_of_getElem? (i := 17) rfl)))) (fun _ h9 => h9) rfl dX10_number_116 ?_
  refine va_getN (D := (dC, dI)) (ci := 2) (v := .ref xa5) (C := RX0) (T := TX0) (N := 8) hx hb hts (fun _ h => List.mem_cons_of_mem _ (inlX0 _ h)) hown hK hP 1 rfl rfl 3 (by decide) (va_Nw.use rfl (hNw _ (List.mem_of_getElem? (i := 1) rfl))) (fun _ h9 => h9) rfl dX10_number_119 ?_
  refine kl (va_runV (As := []) (rest := []) hSF ((c_X1_unpaidSum l dC dI k xa5 xa6 xa7) s.heap.size) (cwV 0 hts gX10_number_X1_unpaidSum rfl rfl rfl (by decide +kernel) ⟨Nat.le_of_ble_eq_true rfl, Nat.le_of_ble_eq_true rfl⟩) (preV hP hD hE hS hA [3] rfl (by decide) (ci := 3) (q0 := 3) rfl rfl) rfl rfl hl.1 rfl (lv_room (Nat.le_of_ble_eq_true rfl)) dX10_number_122 ⟨Nat.le_of_ble_eq_true rfl, Nat.le_of_ble_eq_true rfl⟩) hP hD hS hA [3] [0, 1, 2] rfl (wr := [(h0, .inr (10, [.ref hn, .ref g1, .ref g2, .ref hea, .ref g3, .ref g4, .ref g5, .ref g6, .ref g7, .int (iI 0), .int (iI 0), .int (iI 0), .int (iI (-1)), .int (iI (-1)), .int (iI 0)])), (hn, .inr (2, [.ref xa1, .ref xa2, .ref xa3, .ref xa5, .ref xa8, .int (iI 0), .int (iI 0), .int (iI 0)])), (xa3, .inr (7, [.int (iI 0), .int (iI 0), .int (iI 0), .long (lI 0), .int (iI 0), .int (iI 0), .int (iI 0), .long (lI 0), .long (lI 0), .long (lI 0), .long (lI 0), .long (lI 0), .int (iI 0), .int (iI 0), .int (iI 0), .int (iI 0), .ref xa4]))]) rfl (by decide) (by decide) (fun r122 _ H locs hw hP hD hS => ?_)
  obtain rfl : r122 = (lI 0) := hw
  have hP : va_P (dC, dI) vwCl [(h0, .inr (10, [.ref hn, .ref g1, .ref g2, .ref hea, .ref g3, .ref g4, .ref g5, .ref g6, .ref g7, .int (iI 0), .int (iI 0), .int (iI 0), .int (iI (-1)), .int (iI (-1)), .int (iI 0)])), (hn, .inr (2, [.ref xa1, .ref xa2, .ref xa3, .ref xa5, .ref xa8, .int (iI 0), .int (iI 0), .int (iI 0)])), (xa3, .inr (7, [.int (iI 0), .int (iI 0), .int (iI 0), .long (lI 0), .int (iI 0), .int (iI 0), .int (iI 0), .long (lI 0), .long (lI 0), .long (lI 0), .long (lI 0), .long (lI 0), .int (iI 0), .int (iI 0), .int (iI 0), .int (iI 0), .ref xa4])), (xa5, .inr (3, [.ref xa6, .ref xa7, .int (iI 0), .int (iI 0), .int (iI 0)]))] H := hP
  have hD : va_D A [(h0, .inr (10, [.ref hn, .ref g1, .ref g2, .ref hea, .ref g3, .ref g4, .ref g5, .ref g6, .ref g7, .int (iI 0), .int (iI 0), .int (iI 0), .int (iI (-1)), .int (iI (-1)), .int (iI 0)])), (hn, .inr (2, [.ref xa1, .ref xa2, .ref xa3, .ref xa5, .ref xa8, .int (iI 0), .int (iI 0), .int (iI 0)])), (xa3, .inr (7, [.int (iI 0), .int (iI 0), .int (iI 0), .long (lI 0), .int (iI 0), .int (iI 0), .int (iI 0), .long (lI 0), .long (lI 0), .long (lI 0), .long (lI 0), .long (lI 0), .int (iI 0), .int (iI 0), .int (iI 0), .int (iI 0), .ref xa4])), (xa5, .inr (3, [.ref xa6, .ref xa7, .int (iI 0), .int (iI 0), .int (iI 0)]))] := hD
  refine q_l2i hx hb dX10_number_125 ?_
  rw [hQ]
  refine W.widen (k := 0) (n := 0) (Nat.le_of_ble_eq_true rfl) (Nat.le_of_ble_eq_true rfl) ?_
  exact W.iret (v := (iI 0)) hx hb hr (fun t ht hW => ⟨⟨(iI 0), (), rfl, rfl, by rw [ht]; exact hP.sub [] rfl, by rw [hAe]; exact hD.sub [] (by decide) rfl⟩, hS.F ht⟩) hS.2.2 dX10_number_126
set_option maxHeartbeats 4000000 in
set_option maxRecDepth 100000 in
/-- number(8) -/
theorem c_X10_number_8 (l : Launch) (dC : Nat → ClassId) (dI : Nat → Nat → Nat) (k : Nat → ClassId) (h0 hn g1 g2 hea g3 g4 g5 g6 g7 xa1 xa2 xa3 xa4 xa5 xa6 xa7 xa8 xa9 xa10 xa11 : Nat) (sz : Nat) : Met l yX10_number woX10_number ({ frames := 1, cells := 0, slots := 0, locals := 20 } : Room) (PcW (dC, dI) k [.ref h0, .int (iI 8)] [(h0, .inr (10, [.ref hn, .ref g1, .ref g2, .ref hea, .ref g3, .ref g4, .ref g5, .ref g6, .ref g7, .int (iI 0), .int (iI 0), .int (iI 0), .int (iI (-1)), .int (iI (-1)), .int (iI 0)])), (hn, .inr (2, [.ref xa1, .ref xa2, .ref xa3, .ref xa5, .ref xa8, .int (iI 0), .int (iI 0), .int (iI 0)])), (xa3, .inr (7, [.int (iI 0), .int (iI 0), .int (iI 0), .long (lI 0), .int (iI 0), .int (iI 0), .int (iI 0), .long (lI 0), .long (lI 0), .long (lI 0), .long (lI 0), .long (lI 0), .int (iI 0), .int (iI 0), .int (iI 0), .int (iI 0), .ref xa4])), (xa5, .inr (3, [.ref xa6, .ref xa7, .int (iI 0), .int (iI 0), .int (iI 0)]))] sz) (va_Qi (fun (r : Int32) (_ : Unit) => r = iI 0) (QB (dC, dI) [(h0, .inr (10, [.ref hn, .ref g1, .ref g2, .ref hea, .ref g3, .ref g4, .ref g5, .ref g6, .ref g7, .int (iI 0), .int (iI 0), .int (iI 0), .int (iI (-1)), .int (iI (-1)), .int (iI 0)])), (hn, .inr (2, [.ref xa1, .ref xa2, .ref xa3, .ref xa5, .ref xa8, .int (iI 0), .int (iI 0), .int (iI 0)])), (xa3, .inr (7, [.int (iI 0), .int (iI 0), .int (iI 0), .long (lI 0), .int (iI 0), .int (iI 0), .int (iI 0), .long (lI 0), .long (lI 0), .long (lI 0), .long (lI 0), .long (lI 0), .int (iI 0), .int (iI 0), .int (iI 0), .int (iI 0), .ref xa4])), (xa5, .inr (3, [.ref xa6, .ref xa7, .int (iI 0), .int (iI 0), .int (iI 0)]))] (fun _ => []) sz) (va_A [(h0, .inr (10, [.ref hn, .ref g1, .ref g2, .ref hea, .ref g3, .ref g4, .ref g5, .ref g6, .ref g7, .int (iI 0), .int (iI 0), .int (iI 0), .int (iI (-1)), .int (iI (-1)), .int (iI 0)])), (hn, .inr (2, [.ref xa1, .ref xa2, .ref xa3, .ref xa5, .ref xa8, .int (iI 0), .int (iI 0), .int (iI 0)])), (xa3, .inr (7, [.int (iI 0), .int (iI 0), .int (iI 0), .long (lI 0), .int (iI 0), .int (iI 0), .int (iI 0), .long (lI 0), .long (lI 0), .long (lI 0), .long (lI 0), .long (lI 0), .int (iI 0), .int (iI 0), .int (iI 0), .int (iI 0), .ref xa4])), (xa5, .inr (3, [.ref xa6, .ref xa7, .int (iI 0), .int (iI 0), .int (iI 0)]))] sz)) 0 0 (va_A [(h0, .inr (10, [.ref hn, .ref g1, .ref g2, .ref hea, .ref g3, .ref g4, .ref g5, .ref g6, .ref g7, .int (iI 0), .int (iI 0), .int (iI 0), .int (iI (-1)), .int (iI (-1)), .int (iI 0)])), (hn, .inr (2, [.ref xa1, .ref xa2, .ref xa3, .ref xa5, .ref xa8, .int (iI 0), .int (iI 0), .int (iI 0)])), (xa3, .inr (7, [.int (iI 0), .int (iI 0), .int (iI 0), .long (lI 0), .int (iI 0), .int (iI 0), .int (iI 0), .long (lI 0), .long (lI 0), .long (lI 0), .long (lI 0), .long (lI 0), .int (iI 0), .int (iI 0), .int (iI 0), .int (iI 0), .ref xa4])), (xa5, .inr (3, [.ref xa6, .ref xa7, .int (iI 0), .int (iI 0), .int (iI 0)]))] sz) := by
  refine Met.ofW (cc := cX10_number) (maxL := 3) (ret := (some .int)) (by decide) rfl ?_
  intro p e s mI args below meth cO s₁ B hml hv
  obtain ⟨rfl, rfl, hP, hD0, hE⟩ := hv
  have hx := B.exec
  have hb := B.bytes
  have hr := B.returns
  have hts := atoms_spec (ws := woX10_number) B.pre
  have hown : s.vm.findClass RX10 = some mI.cls := findClass_of_methodNamed B.named
  have hlocks := B.notSynchronized
  have hD := hD0.self (sz := s.heap.size)
  generalize hAe : va_A [(h0, .inr (10, [.ref hn, .ref g1, .ref g2, .ref hea, .ref g3, .ref g4, .ref g5, .ref g6, .ref g7, .int (iI 0), .int (iI 0), .int (iI 0), .int (iI (-1)), .int (iI (-1)), .int (iI 0)])), (hn, .inr (2, [.ref xa1, .ref xa2, .ref xa3, .ref xa5, .ref xa8, .int (iI 0), .int (iI 0), .int (iI 0)])), (xa3, .inr (7, [.int (iI 0), .int (iI 0), .int (iI 0), .long (lI 0), .int (iI 0), .int (iI 0), .int (iI 0), .long (lI 0), .long (lI 0), .long (lI 0), .long (lI 0), .long (lI 0), .int (iI 0), .int (iI 0), .int (iI 0), .int (iI 0), .ref xa4])), (xa5, .inr (3, [.ref xa6, .ref xa7, .int (iI 0), .int (iI 0), .int (iI 0)]))] s.heap.size = A at hD hE ⊢
  have hA : ∀ q : Nat, s.heap.size ≤ q → A q := fun q h => by rw [← hAe]; exact Or.inr h
  have hS : va_S A s.heap s.heap [] := va_S.rf
  obtain ⟨hK, hNw, hNc, hZs, hAO1, hAO2⟩ := id hE
  have hSF : CallFix p mI cO cX10_number 3 s ([.ref h0, .int (iI 8)] : List Value).toArray woX10_number RX10 := ⟨hx, hb, hml, hown, hts⟩
  have hl := lv_entry ([.ref h0, .int (iI 8)] : List Value) (n := 3) (Nat.le_of_ble_eq_true rfl)
  rw [lg_entry_eq]
  generalize (lg_sl ([.ref h0, .int (iI 8)] : List Value) ++ List.replicate (3 - (lg_sl ([.ref h0, .int (iI 8)] : List Value)).length) Slot.unset).toArray = ls at hl ⊢
  have hl : lv_has ls 3 [(0, .ref h0), (1, .int (iI 8))] := hl
  refine W_gen (fun Q hQ => ?_)
  change W p l e ({ frames := 1, cells := 0, slots := 0, locals := 20 } : Room) s mI _ below meth cO s.heap [] 0 0 Q _
  have hP : va_P (dC, dI) vwCl [(h0, .inr (10, [.ref hn, .ref g1, .ref g2, .ref hea, .ref g3, .ref g4, .ref g5, .ref g6, .ref g7, .int (iI 0), .int (iI 0), .int (iI 0), .int (iI (-1)), .int (iI (-1)), .int (iI 0)])), (hn, .inr (2, [.ref xa1, .ref xa2, .ref xa3, .ref xa5, .ref xa8, .int (iI 0), .int (iI 0), .int (iI 0)])), (xa3, .inr (7, [.int (iI 0), .int (iI 0), .int (iI 0), .long (lI 0), .int (iI 0), .int (iI 0), .int (iI 0), .long (lI 0), .long (lI 0), .long (lI 0), .long (lI 0), .long (lI 0), .int (iI 0), .int (iI 0), .int (iI 0), .int (iI 0), .ref xa4])), (xa5, .inr (3, [.ref xa6, .ref xa7, .int (iI 0), .int (iI 0), .int (iI 0)]))] s.heap := hP
  refine lv_aload_n hx hb dX10_number_0 rfl (lv_at hl 0 rfl) ?_
  refine va_get (D := (dC, dI)) (ci := 10) (v := .ref hn) (C := RX10) (T := TX10) (N := 15) hx hb hts (fun _ h => List.mem_cons_of_mem _ (inlX10 _ h)) hown hK hP 0 rfl rfl 0 (by decide) (hts (.fieldLink RX10 10 "LoanServicing" "now" "LLoanServicing$Account;") (List.mem_cons_of_mem _ (wl_1 (List.mem_of_getElem? (i := 17) rfl)))) (fun _ h9 => h9) rfl dX10_number_1 ?_
  refine va_getN (D := (dC, dI)) (ci := 2) (v := .ref xa3) (C := RX0) (T := TX0) (N := 8) hx hb hts (fun _ h => List.mem_cons_of_mem _ (inlX0 _ h)) hown hK hP 1 rfl rfl 2 (by decide) (va_Nw.use rfl (hNw _ (List.mem_of_getElem? (i := 26) rfl))) (fun _ h9 => h9) rfl dX10_number_4 ?_
  refine lv_astore_n (lv' := [(2, .ref xa3), (0, .ref h0), (1, .int (iI 8))]) hx hb dX10_number_7 rfl hl (by decide) rfl (fun ls hl => ?_)
  refine lv_iload_n hx hb dX10_number_8 rfl (lv_at hl 2 rfl) ?_
  refine lv_tableIn (off := 118) (tgt := 127) hx hb dX10_number_9 (by rw [iI_toInt ⟨by omega, by omega⟩]; omega) (by rw [iI_toInt ⟨by omega, by omega⟩]; omega) (by rw [iI_toInt ⟨by omega, by omega⟩]; rfl) (by decide) ?_
  refine lv_aload_n hx hb dX10_number_127 rfl (lv_at hl 1 rfl) ?_
  refine va_get (D := (dC, dI)) (ci := 10) (v := .ref hn) (C := RX10) (T := TX10) (N := 15) hx hb hts (fun _ h => List.mem_cons_of_mem _ (inlX10 _ h)) hown hK hP 0 rfl rfl 0 (by decide) (hts (.fieldLink RX10 10 "LoanServicing" "now" "LLoanServicing$Account;") (List.mem_cons_of_mem _ (wl_1 (List.mem_of_getElem? (i := 17) rfl)))) (fun _ h9 => h9) rfl dX10_number_128 ?_
  refine va_getN (D := (dC, dI)) (ci := 2) (v := .ref xa5) (C := RX0) (T := TX0) (N := 8) hx hb hts (fun _ h => List.mem_cons_of_mem _ (inlX0 _ h)) hown hK hP 1 rfl rfl 3 (by decide) (va_Nw.use rfl (hNw _ (List.mem_of_getElem? (i := 1) rfl))) (fun _ h9 => h9) rfl dX10_number_131 ?_
  refine ki (va_runV (As := []) (rest := []) hSF ((c_X1_unpaidCount l dC dI k xa5 xa6 xa7) s.heap.size) (cwV 0 hts gX10_number_X1_unpaidCount rfl rfl rfl (by decide +kernel) ⟨Nat.le_of_ble_eq_true rfl, Nat.le_of_ble_eq_true rfl⟩) (preV hP hD hE hS hA [3] rfl (by decide) (ci := 3) (q0 := 3) rfl rfl) rfl rfl hl.1 rfl (lv_room (Nat.le_of_ble_eq_true rfl)) dX10_number_134 ⟨Nat.le_of_ble_eq_true rfl, Nat.le_of_ble_eq_true rfl⟩) hP hD hS hA [3] [0, 1, 2] rfl (wr := [(h0, .inr (10, [.ref hn, .ref g1, .ref g2, .ref hea, .ref g3, .ref g4, .ref g5, .ref g6, .ref g7, .int (iI 0), .int (iI 0), .int (iI 0), .int (iI (-1)), .int (iI (-1)), .int (iI 0)])), (hn, .inr (2, [.ref xa1, .ref xa2, .ref xa3, .ref xa5, .ref xa8, .int (iI 0), .int (iI 0), .int (iI 0)])), (xa3, .inr (7, [.int (iI 0), .int (iI 0), .int (iI 0), .long (lI 0), .int (iI 0), .int (iI 0), .int (iI 0), .long (lI 0), .long (lI 0), .long (lI 0), .long (lI 0), .long (lI 0), .int (iI 0), .int (iI 0), .int (iI 0), .int (iI 0), .ref xa4]))]) rfl (by decide) (by decide) (fun r134 _ H locs hw hP hD hS => ?_)
  obtain rfl : r134 = (iI 0) := hw
  have hP : va_P (dC, dI) vwCl [(h0, .inr (10, [.ref hn, .ref g1, .ref g2, .ref hea, .ref g3, .ref g4, .ref g5, .ref g6, .ref g7, .int (iI 0), .int (iI 0), .int (iI 0), .int (iI (-1)), .int (iI (-1)), .int (iI 0)])), (hn, .inr (2, [.ref xa1, .ref xa2, .ref xa3, .ref xa5, .ref xa8, .int (iI 0), .int (iI 0), .int (iI 0)])), (xa3, .inr (7, [.int (iI 0), .int (iI 0), .int (iI 0), .long (lI 0), .int (iI 0), .int (iI 0), .int (iI 0), .long (lI 0), .long (lI 0), .long (lI 0), .long (lI 0), .long (lI 0), .int (iI 0), .int (iI 0), .int (iI 0), .int (iI 0), .ref xa4])), (xa5, .inr (3, [.ref xa6, .ref xa7, .int (iI 0), .int (iI 0), .int (iI 0)]))] H := hP
  have hD : va_D A [(h0, .inr (10, [.ref hn, .ref g1, .ref g2, .ref hea, .ref g3, .ref g4, .ref g5, .ref g6, .ref g7, .int (iI 0), .int (iI 0), .int (iI 0), .int (iI (-1)), .int (iI (-1)), .int (iI 0)])), (hn, .inr (2, [.ref xa1, .ref xa2, .ref xa3, .ref xa5, .ref xa8, .int (iI 0), .int (iI 0), .int (iI 0)])), (xa3, .inr (7, [.int (iI 0), .int (iI 0), .int (iI 0), .long (lI 0), .int (iI 0), .int (iI 0), .int (iI 0), .long (lI 0), .long (lI 0), .long (lI 0), .long (lI 0), .long (lI 0), .int (iI 0), .int (iI 0), .int (iI 0), .int (iI 0), .ref xa4])), (xa5, .inr (3, [.ref xa6, .ref xa7, .int (iI 0), .int (iI 0), .int (iI 0)]))] := hD
  rw [hQ]
  refine W.widen (k := 0) (n := 0) (Nat.le_of_ble_eq_true rfl) (Nat.le_of_ble_eq_true rfl) ?_
  exact W.iret (v := (iI 0)) hx hb hr (fun t ht hW => ⟨⟨(iI 0), (), rfl, rfl, by rw [ht]; exact hP.sub [] rfl, by rw [hAe]; exact hD.sub [] (by decide) rfl⟩, hS.F ht⟩) hS.2.2 dX10_number_137
set_option maxHeartbeats 4000000 in
set_option maxRecDepth 100000 in
/-- number(9) -/
theorem c_X10_number_9 (l : Launch) (dC : Nat → ClassId) (dI : Nat → Nat → Nat) (k : Nat → ClassId) (h0 hn g1 g2 hea g3 g4 g5 g6 g7 xa1 xa2 xa3 xa4 xa5 xa6 xa7 xa8 xa9 xa10 xa11 : Nat) (sz : Nat) : Met l yX10_number woX10_number ({ frames := 0, cells := 0, slots := 0, locals := 0 } : Room) (PcW (dC, dI) k [.ref h0, .int (iI 9)] [(h0, .inr (10, [.ref hn, .ref g1, .ref g2, .ref hea, .ref g3, .ref g4, .ref g5, .ref g6, .ref g7, .int (iI 0), .int (iI 0), .int (iI 0), .int (iI (-1)), .int (iI (-1)), .int (iI 0)])), (hn, .inr (2, [.ref xa1, .ref xa2, .ref xa3, .ref xa5, .ref xa8, .int (iI 0), .int (iI 0), .int (iI 0)])), (xa3, .inr (7, [.int (iI 0), .int (iI 0), .int (iI 0), .long (lI 0), .int (iI 0), .int (iI 0), .int (iI 0), .long (lI 0), .long (lI 0), .long (lI 0), .long (lI 0), .long (lI 0), .int (iI 0), .int (iI 0), .int (iI 0), .int (iI 0), .ref xa4]))] sz) (va_Qi (fun (r : Int32) (_ : Unit) => r = iI 0) (QB (dC, dI) [(h0, .inr (10, [.ref hn, .ref g1, .ref g2, .ref hea, .ref g3, .ref g4, .ref g5, .ref g6, .ref g7, .int (iI 0), .int (iI 0), .int (iI 0), .int (iI (-1)), .int (iI (-1)), .int (iI 0)])), (hn, .inr (2, [.ref xa1, .ref xa2, .ref xa3, .ref xa5, .ref xa8, .int (iI 0), .int (iI 0), .int (iI 0)])), (xa3, .inr (7, [.int (iI 0), .int (iI 0), .int (iI 0), .long (lI 0), .int (iI 0), .int (iI 0), .int (iI 0), .long (lI 0), .long (lI 0), .long (lI 0), .long (lI 0), .long (lI 0), .int (iI 0), .int (iI 0), .int (iI 0), .int (iI 0), .ref xa4]))] (fun _ => []) sz) (va_A [(h0, .inr (10, [.ref hn, .ref g1, .ref g2, .ref hea, .ref g3, .ref g4, .ref g5, .ref g6, .ref g7, .int (iI 0), .int (iI 0), .int (iI 0), .int (iI (-1)), .int (iI (-1)), .int (iI 0)])), (hn, .inr (2, [.ref xa1, .ref xa2, .ref xa3, .ref xa5, .ref xa8, .int (iI 0), .int (iI 0), .int (iI 0)])), (xa3, .inr (7, [.int (iI 0), .int (iI 0), .int (iI 0), .long (lI 0), .int (iI 0), .int (iI 0), .int (iI 0), .long (lI 0), .long (lI 0), .long (lI 0), .long (lI 0), .long (lI 0), .int (iI 0), .int (iI 0), .int (iI 0), .int (iI 0), .ref xa4]))] sz)) 0 0 (va_A [(h0, .inr (10, [.ref hn, .ref g1, .ref g2, .ref hea, .ref g3, .ref g4, .ref g5, .ref g6, .ref g7, .int (iI 0), .int (iI 0), .int (iI 0), .int (iI (-1)), .int (iI (-1)), .int (iI 0)])), (hn, .inr (2, [.ref xa1, .ref xa2, .ref xa3, .ref xa5, .ref xa8, .int (iI 0), .int (iI 0), .int (iI 0)])), (xa3, .inr (7, [.int (iI 0), .int (iI 0), .int (iI 0), .long (lI 0), .int (iI 0), .int (iI 0), .int (iI 0), .long (lI 0), .long (lI 0), .long (lI 0), .long (lI 0), .long (lI 0), .int (iI 0), .int (iI 0), .int (iI 0), .int (iI 0), .ref xa4]))] sz) := by
  refine Met.ofW (cc := cX10_number) (maxL := 3) (ret := (some .int)) (by decide) rfl ?_
  intro p e s mI args below meth cO s₁ B hml hv
  obtain ⟨rfl, rfl, hP, hD0, hE⟩ := hv
  have hx := B.exec
  have hb := B.bytes
  have hr := B.returns
  have hts := atoms_spec (ws := woX10_number) B.pre
  have hown : s.vm.findClass RX10 = some mI.cls := findClass_of_methodNamed B.named
  have hlocks := B.notSynchronized
  have hD := hD0.self (sz := s.heap.size)
  generalize hAe : va_A [(h0, .inr (10, [.ref hn, .ref g1, .ref g2, .ref hea, .ref g3, .ref g4, .ref g5, .ref g6, .ref g7, .int (iI 0), .int (iI 0), .int (iI 0), .int (iI (-1)), .int (iI (-1)), .int (iI 0)])), (hn, .inr (2, [.ref xa1, .ref xa2, .ref xa3, .ref xa5, .ref xa8, .int (iI 0), .int (iI 0), .int (iI 0)])), (xa3, .inr (7, [.int (iI 0), .int (iI 0), .int (iI 0), .long (lI 0), .int (iI 0), .int (iI 0), .int (iI 0), .long (lI 0), .long (lI 0), .long (lI 0), .long (lI 0), .long (lI 0), .int (iI 0), .int (iI 0), .int (iI 0), .int (iI 0), .ref xa4]))] s.heap.size = A at hD hE ⊢
  have hA : ∀ q : Nat, s.heap.size ≤ q → A q := fun q h => by rw [← hAe]; exact Or.inr h
  have hS : va_S A s.heap s.heap [] := va_S.rf
  obtain ⟨hK, hNw, hNc, hZs, hAO1, hAO2⟩ := id hE
  have hSF : CallFix p mI cO cX10_number 3 s ([.ref h0, .int (iI 9)] : List Value).toArray woX10_number RX10 := ⟨hx, hb, hml, hown, hts⟩
  have hl := lv_entry ([.ref h0, .int (iI 9)] : List Value) (n := 3) (Nat.le_of_ble_eq_true rfl)
  rw [lg_entry_eq]
  generalize (lg_sl ([.ref h0, .int (iI 9)] : List Value) ++ List.replicate (3 - (lg_sl ([.ref h0, .int (iI 9)] : List Value)).length) Slot.unset).toArray = ls at hl ⊢
  have hl : lv_has ls 3 [(0, .ref h0), (1, .int (iI 9))] := hl
  refine W_gen (fun Q hQ => ?_)
  change W p l e ({ frames := 0, cells := 0, slots := 0, locals := 0 } : Room) s mI _ below meth cO s.heap [] 0 0 Q _
  have hP : va_P (dC, dI) vwCl [(h0, .inr (10, [.ref hn, .ref g1, .ref g2, .ref hea, .ref g3, .ref g4, .ref g5, .ref g6, .ref g7, .int (iI 0), .int (iI 0), .int (iI 0), .int (iI (-1)), .int (iI (-1)), .int (iI 0)])), (hn, .inr (2, [.ref xa1, .ref xa2, .ref xa3, .ref xa5, .ref xa8, .int (iI 0), .int (iI 0), .int (iI 0)])), (xa3, .inr (7, [.int (iI 0), .int (iI 0), .int (iI 0), .long (lI 0), .int (iI 0), .int (iI 0), .int (iI 0), .long (lI 0), .long (lI 0), .long (lI 0), .long (lI 0), .long (lI 0), .int (iI 0), .int (iI 0), .int (iI 0), .int (iI 0), .ref xa4]))] s.heap := hP
  refine lv_aload_n hx hb dX10_number_0 rfl (lv_at hl 0 rfl) ?_
  refine va_get (D := (dC, dI)) (ci := 10) (v := .ref hn) (C := RX10) (T := TX10) (N := 15) hx hb hts (fun _ h => List.mem_cons_of_mem _ (inlX10 _ h)) hown hK hP 0 rfl rfl 0 (by decide) (hts (.fieldLink RX10 10 "LoanServicing" "now" "LLoanServicing$Account;") (List.mem_cons_of_mem _ (wl_1 (List.mem_of_getElem? (i := 17) rfl)))) (fun _ h9 => h9) rfl dX10_number_1 ?_
  refine va_getN (D := (dC, dI)) (ci := 2) (v := .ref xa3) (C := RX0) (T := TX0) (N := 8) hx hb hts (fun _ h => List.mem_cons_of_mem _ (inlX0 _ h)) hown hK hP 1 rfl rfl 2 (by decide) (va_Nw.use rfl (hNw _ (List.mem_of_getElem? (i := 26) rfl))) (fun _ h9 => h9) rfl dX10_number_4 ?_
  refine lv_astore_n (lv' := [(2, .ref xa3), (0, .ref h0), (1, .int (iI 9))]) hx hb dX10_number_7 rfl hl (by decide) rfl (fun ls hl => ?_)
  refine lv_iload_n hx hb dX10_number_8 rfl (lv_at hl 2 rfl) ?_
  refine lv_tableIn (off := 129) (tgt := 138) hx hb dX10_number_9 (by rw [iI_toInt ⟨by omega, by omega⟩]; omega) (by rw [iI_toInt ⟨by omega, by omega⟩]; omega) (by rw [iI_toInt ⟨by omega, by omega⟩]; rfl) (by decide) ?_
  refine lv_aload_n hx hb dX10_number_138 rfl (lv_at hl 0 rfl) ?_
  refine va_getN (D := (dC, dI)) (ci := 7) (v := .int (iI 0)) (C := RX6) (T := TX6) (N := 17) hx hb hts (fun _ h => List.mem_cons_of_mem _ (inlX6 _ h)) hown hK hP 2 rfl rfl 6 (by decide) (va_Nw.use rfl (hNw _ (List.mem_of_getElem? (i := 7) rfl))) (fun _ h9 => h9) rfl dX10_number_139 ?_
  rw [hQ]
  refine W.widen (k := 0) (n := 0) (Nat.le_of_ble_eq_true rfl) (Nat.le_of_ble_eq_true rfl) ?_
  exact W.iret (v := (iI 0)) hx hb hr (fun t ht hW => ⟨⟨(iI 0), (), rfl, rfl, by rw [ht]; exact hP.sub [] rfl, by rw [hAe]; exact hD.sub [] (by decide) rfl⟩, hS.F ht⟩) hS.2.2 dX10_number_142
set_option maxHeartbeats 4000000 in
set_option maxRecDepth 100000 in
/-- number of nothing -/
theorem c_X10_number_x (l : Launch) (hl0 : l.stackTraces = false) (dC : Nat → ClassId) (dI : Nat → Nat → Nat) (k : Nat → ClassId) (h0 hn g1 g2 hea g3 g4 g5 g6 g7 xa1 xa2 xa3 xa4 xa5 xa6 xa7 xa8 xa9 xa10 xa11 : Nat) (xv : Int) (hv9 : -2147483648 ≤ xv ∧ xv ≤ 2147483647) (hv : ¬ (0 ≤ xv ∧ xv ≤ 9)) (sz : Nat) : vx_Met l yX10_number woX10_number ({ frames := 6, cells := 1, slots := 6, locals := 81 } : Room) (PcW (dC, dI) k [.ref h0, .int (iI xv)] [(h0, .inr (10, [.ref hn, .ref g1, .ref g2, .ref hea, .ref g3, .ref g4, .ref g5, .ref g6, .ref g7, .int (iI 0), .int (iI 0), .int (iI 0), .int (iI (-1)), .int (iI (-1)), .int (iI 0)])), (hn, .inr (2, [.ref xa1, .ref xa2, .ref xa3, .ref xa5, .ref xa8, .int (iI 0), .int (iI 0), .int (iI 0)]))] sz) (va_Qi (fun (_ : Int32) (_ : Unit) => False) (fun _ _ => True) (va_A [(h0, .inr (10, [.ref hn, .ref g1, .ref g2, .ref hea, .ref g3, .ref g4, .ref g5, .ref g6, .ref g7, .int (iI 0), .int (iI 0), .int (iI 0), .int (iI (-1)), .int (iI (-1)), .int (iI 0)])), (hn, .inr (2, [.ref xa1, .ref xa2, .ref xa3, .ref xa5, .ref xa8, .int (iI 0), .int (iI 0), .int (iI 0)]))] sz)) (XE "java/lang/IllegalArgumentException" [(h0, .inr (10, [.ref hn, .ref g1, .ref g2, .ref hea, .ref g3, .ref g4, .ref g5, .ref g6, .ref g7, .int (iI 0), .int (iI 0), .int (iI 0), .int (iI (-1)), .int (iI (-1)), .int (iI 0)])), (hn, .inr (2, [.ref xa1, .ref xa2, .ref xa3, .ref xa5, .ref xa8, .int (iI 0), .int (iI 0), .int (iI 0)]))] sz) 1 6 (va_A [(h0, .inr (10, [.ref hn, .ref g1, .ref g2, .ref hea, .ref g3, .ref g4, .ref g5, .ref g6, .ref g7, .int (iI 0), .int (iI 0), .int (iI 0), .int (iI (-1)), .int (iI (-1)), .int (iI 0)])), (hn, .inr (2, [.ref xa1, .ref xa2, .ref xa3, .ref xa5, .ref xa8, .int (iI 0), .int (iI 0), .int (iI 0)]))] sz) := by
  refine vx_ofW (cc := cX10_number) (maxL := 3) (ret := (some .int)) (by decide) rfl ?_
  intro p e s mI args below meth cO s₁ B hml htab hv
  obtain ⟨rfl, rfl, hP, hD0, hE⟩ := hv
  have hx := B.exec
  have hb := B.bytes
  have hr := B.returns
  have hts := atoms_spec (ws := woX10_number) B.pre
  have hown : s.vm.findClass RX10 = some mI.cls := findClass_of_methodNamed B.named
  have hlocks := B.notSynchronized
  have hD := hD0.self (sz := s.heap.size)
  generalize hAe : va_A [(h0, .inr (10, [.ref hn, .ref g1, .ref g2, .ref hea, .ref g3, .ref g4, .ref g5, .ref g6, .ref g7, .int (iI 0), .int (iI 0), .int (iI 0), .int (iI (-1)), .int (iI (-1)), .int (iI 0)])), (hn, .inr (2, [.ref xa1, .ref xa2, .ref xa3, .ref xa5, .ref xa8, .int (iI 0), .int (iI 0), .int (iI 0)]))] s.heap.size = A at hD hE ⊢
  have hA : ∀ q : Nat, s.heap.size ≤ q → A q := fun q h => by rw [← hAe]; exact Or.inr h
  have hS : va_S A s.heap s.heap [] := va_S.rf
  obtain ⟨hK, hNw, hNc, hZs, hAO1, hAO2⟩ := id hE
  have hSF : CallFix p mI cO cX10_number 3 s ([.ref h0, .int (iI xv)] : List Value).toArray woX10_number RX10 := ⟨hx, hb, hml, hown, hts⟩
  have hl := lv_entry ([.ref h0, .int (iI xv)] : List Value) (n := 3) (Nat.le_of_ble_eq_true rfl)
  rw [lg_entry_eq]
  generalize (lg_sl ([.ref h0, .int (iI xv)] : List Value) ++ List.replicate (3 - (lg_sl ([.ref h0, .int (iI xv)] : List Value)).length) Slot.unset).toArray = ls at hl ⊢
  have hl : lv_has ls 3 [(0, .ref h0), (1, .int (iI xv))] := hl
  refine W_gen (fun Q hQ => ?_)
  change W p l e ({ frames := 6, cells := 1, slots := 6, locals := 81 } : Room) s mI _ below meth cO s.heap [] 0 0 Q _
  have hP : va_P (dC, dI) vwCl [(h0, .inr (10, [.ref hn, .ref g1, .ref g2, .ref hea, .ref g3, .ref g4, .ref g5, .ref g6, .ref g7, .int (iI 0), .int (iI 0), .int (iI 0), .int (iI (-1)), .int (iI (-1)), .int (iI 0)])), (hn, .inr (2, [.ref xa1, .ref xa2, .ref xa3, .ref xa5, .ref xa8, .int (iI 0), .int (iI 0), .int (iI 0)]))] s.heap := hP
  refine lv_aload_n hx hb dX10_number_0 rfl (lv_at hl 0 rfl) ?_
  refine va_get (D := (dC, dI)) (ci := 10) (v := .ref hn) (C := RX10) (T := TX10) (N := 15) hx hb hts (fun _ h => List.mem_cons_of_mem _ (inlX10 _ h)) hown hK hP 0 rfl rfl 0 (by decide) (hts (.fieldLink RX10 10 "LoanServicing" "now" "LLoanServicing$Account;") (List.mem_cons_of_mem _ (wl_1 (List.mem_of_getElem? (i := 17) rfl)))) (fun _ h9 => h9) rfl dX10_number_1 ?_
  refine va_getN (D := (dC, dI)) (ci := 2) (v := .ref xa3) (C := RX0) (T := TX0) (N := 8) hx hb hts (fun _ h => List.mem_cons_of_mem _ (inlX0 _ h)) hown hK hP 1 rfl rfl 2 (by decide) (va_Nw.use rfl (hNw _ (List.mem_of_getElem? (i := 26) rfl))) (fun _ h9 => h9) rfl dX10_number_4 ?_
  refine lv_astore_n (lv' := [(2, .ref xa3), (0, .ref h0), (1, .int (iI xv))]) hx hb dX10_number_7 rfl hl (by decide) rfl (fun ls hl => ?_)
  refine lv_iload_n hx hb dX10_number_8 rfl (lv_at hl 2 rfl) ?_
  refine lv_tableOut (tgt := 143) hx hb dX10_number_9 (by rw [iI_toInt ⟨by omega, by omega⟩]; omega) (by decide) ?_
  have hat : ∀ w ∈ vx_at0 RX10 71 "java/lang/IllegalArgumentException" ["java/lang/RuntimeException", "java/lang/Exception"], w.before ([.ref h0, .int (iI xv)] : List Value).toArray s = true := vx_hat (B := [.declares ⟨"java/lang/RuntimeException", "<init>", "()V"⟩, .declares ⟨"java/lang/Exception", "<init>", "()V"⟩, .declares ⟨"java/lang/Throwable", "<init>", "()V"⟩, .castable "java/lang/IllegalArgumentException" "java/lang/IllegalArgumentException"]) (fun w hw => hts w (List.mem_cons_of_mem _ (List.mem_append_left _ (List.mem_append_left _ (List.mem_append_left _ (List.mem_append_left _ (List.mem_append_left _ (List.mem_append_left _ (List.mem_append_right _ hw))))))))) (by decide +kernel) (vx_c (va_Nw.use rfl (hNw _ (List.mem_of_getElem? (i := 64) rfl))) (vx_c (va_Nw.use rfl (hNw _ (List.mem_of_getElem? (i := 62) rfl))) (vx_c (va_Nw.use rfl (hNw _ (List.mem_of_getElem? (i := 65) rfl))) (vx_c (va_Nw.use rfl (hNw _ (List.mem_of_getElem? (i := 66) rfl))) vx_n))))
  rw [hQ]
  exact vx_throw0 hx hb hl0 (own := RX10) (cls := "java/lang/IllegalArgumentException") (names := ["java/lang/RuntimeException", "java/lang/Exception"]) hown (by decide) (by decide) (hts (.classLink RX10 69 "java/lang/IllegalArgumentException") (List.mem_cons_of_mem _ (wl_6 (List.mem_of_getElem? (i := 8) rfl)))) (hts (.initialized "java/lang/IllegalArgumentException") (List.mem_cons_of_mem _ (wl_6 (List.mem_of_getElem? (i := 9) rfl)))) hat (by decide +kernel) hZs.2.2.1 hZs.2.2.2 hS (hl.1.trans hml.symm) dX10_number_143 dX10_number_146 dX10_number_147 dX10_number_150 (fun x hx => (htab x hx).elim) (Nat.le_of_ble_eq_true rfl) (Nat.le_of_ble_eq_true rfl) (Nat.le_of_ble_eq_true rfl) (Nat.le_of_ble_eq_true rfl) hlocks (fun t ht hz hq => XE_of hAe hS hz hq) hS.2.2 (Nat.le_of_ble_eq_true rfl) (Nat.le_of_ble_eq_true rfl)
set_option maxHeartbeats 4000000 in
set_option maxRecDepth 100000 in
/-- accruedUnits -/
theorem c_X10_accruedUnits (l : Launch) (dC : Nat → ClassId) (dI : Nat → Nat → Nat) (k : Nat → ClassId) (h0 hn g1 g2 hea g3 g4 g5 g6 g7 xa1 xa2 xa3 xa4 xa5 xa6 xa7 xa8 xa9 xa10 xa11 : Nat) (sz : Nat) : Met l yX10_accruedUnits woX10_accruedUnits ({ frames := 0, cells := 0, slots := 0, locals := 0 } : Room) (PcW (dC, dI) k [.ref h0] [(h0, .inr (10, [.ref hn, .ref g1, .ref g2, .ref hea, .ref g3, .ref g4, .ref g5, .ref g6, .ref g7, .int (iI 0), .int (iI 0), .int (iI 0), .int (iI (-1)), .int (iI (-1)), .int (iI 0)])), (hn, .inr (2, [.ref xa1, .ref xa2, .ref xa3, .ref xa5, .ref xa8, .int (iI 0), .int (iI 0), .int (iI 0)])), (xa3, .inr (7, [.int (iI 0), .int (iI 0), .int (iI 0), .long (lI 0), .int (iI 0), .int (iI 0), .int (iI 0), .long (lI 0), .long (lI 0), .long (lI 0), .long (lI 0), .long (lI 0), .int (iI 0), .int (iI 0), .int (iI 0), .int (iI 0), .ref xa4]))] sz) (va_Ql (fun (r : Int64) (_ : Unit) => r = lI 0) (QB (dC, dI) [(h0, .inr (10, [.ref hn, .ref g1, .ref g2, .ref hea, .ref g3, .ref g4, .ref g5, .ref g6, .ref g7, .int (iI 0), .int (iI 0), .int (iI 0), .int (iI (-1)), .int (iI (-1)), .int (iI 0)])), (hn, .inr (2, [.ref xa1, .ref xa2, .ref xa3, .ref xa5, .ref xa8, .int (iI 0), .int (iI 0), .int (iI 0)])), (xa3, .inr (7, [.int (iI 0), .int (iI 0), .int (iI 0), .long (lI 0), .int (iI 0), .int (iI 0), .int (iI 0), .long (lI 0), .long (lI 0), .long (lI 0), .long (lI 0), .long (lI 0), .int (iI 0), .int (iI 0), .int (iI 0), .int (iI 0), .ref xa4]))] (fun _ => []) sz) (va_A [(h0, .inr (10, [.ref hn, .ref g1, .ref g2, .ref hea, .ref g3, .ref g4, .ref g5, .ref g6, .ref g7, .int (iI 0), .int (iI 0), .int (iI 0), .int (iI (-1)), .int (iI (-1)), .int (iI 0)])), (hn, .inr (2, [.ref xa1, .ref xa2, .ref xa3, .ref xa5, .ref xa8, .int (iI 0), .int (iI 0), .int (iI 0)])), (xa3, .inr (7, [.int (iI 0), .int (iI 0), .int (iI 0), .long (lI 0), .int (iI 0), .int (iI 0), .int (iI 0), .long (lI 0), .long (lI 0), .long (lI 0), .long (lI 0), .long (lI 0), .int (iI 0), .int (iI 0), .int (iI 0), .int (iI 0), .ref xa4]))] sz)) 0 0 (va_A [(h0, .inr (10, [.ref hn, .ref g1, .ref g2, .ref hea, .ref g3, .ref g4, .ref g5, .ref g6, .ref g7, .int (iI 0), .int (iI 0), .int (iI 0), .int (iI (-1)), .int (iI (-1)), .int (iI 0)])), (hn, .inr (2, [.ref xa1, .ref xa2, .ref xa3, .ref xa5, .ref xa8, .int (iI 0), .int (iI 0), .int (iI 0)])), (xa3, .inr (7, [.int (iI 0), .int (iI 0), .int (iI 0), .long (lI 0), .int (iI 0), .int (iI 0), .int (iI 0), .long (lI 0), .long (lI 0), .long (lI 0), .long (lI 0), .long (lI 0), .int (iI 0), .int (iI 0), .int (iI 0), .int (iI 0), .ref xa4]))] sz) := by
  refine Met.ofW (cc := cX10_accruedUnits) (maxL := 1) (ret := (some .long)) (by decide) rfl ?_
  intro p e s mI args below meth cO s₁ B hml hv
  obtain ⟨rfl, rfl, hP, hD0, hE⟩ := hv
  have hx := B.exec
  have hb := B.bytes
  have hr := B.returns
  have hts := atoms_spec (ws := woX10_accruedUnits) B.pre
  have hown : s.vm.findClass RX10 = some mI.cls := findClass_of_methodNamed B.named
  have hlocks := B.notSynchronized
  have hD := hD0.self (sz := s.heap.size)
  generalize hAe : va_A [(h0, .inr (10, [.ref hn, .ref g1, .ref g2, .ref hea, .ref g3, .ref g4, .ref g5, .ref g6, .ref g7, .int (iI 0), .int (iI 0), .int (iI 0), .int (iI (-1)), .int (iI (-1)), .int (iI 0)])), (hn, .inr (2, [.ref xa1, .ref xa2, .ref xa3, .ref xa5, .ref xa8, .int (iI 0), .int (iI 0), .int (iI 0)])), (xa3, .inr (7, [.int (iI 0), .int (iI 0), .int (iI 0), .long (lI 0), .int (iI 0), .int (iI 0), .int (iI 0), .long (lI 0), .long (lI 0), .long (lI 0), .long (lI 0), .long (lI 0), .int (iI 0), .int (iI 0), .int (iI 0), .int (iI 0), .ref xa4]))] s.heap.size = A at hD hE ⊢
  have hA : ∀ q : Nat, s.heap.size ≤ q → A q := fun q h => by rw [← hAe]; exact Or.inr h
  have hS : va_S A s.heap s.heap [] := va_S.rf
  obtain ⟨hK, hNw, hNc, hZs, hAO1, hAO2⟩ := id hE
  have hSF : CallFix p mI cO cX10_accruedUnits 1 s ([.ref h0] : List Value).toArray woX10_accruedUnits RX10 := ⟨hx, hb, hml, hown, hts⟩
  have hl := lv_entry ([.ref h0] : List Value) (n := 1) (Nat.le_of_ble_eq_true rfl)
  rw [lg_entry_eq]
  generalize (lg_sl ([.ref h0] : List Value) ++ List.replicate (1 - (lg_sl ([.ref h0] : List Value)).length) Slot.unset).toArray = ls at hl ⊢
  have hl : lv_has ls 1 [(0, .ref h0)] := hl
  refine W_gen (fun Q hQ => ?_)
  change W p l e ({ frames := 0, cells := 0, slots := 0, locals := 0 } : Room) s mI _ below meth cO s.heap [] 0 0 Q _
  have hP : va_P (dC, dI) vwCl [(h0, .inr (10, [.ref hn, .ref g1, .ref g2, .ref hea, .ref g3, .ref g4, .ref g5, .ref g6, .ref g7, .int (iI 0), .int (iI 0), .int (iI 0), .int (iI (-1)), .int (iI (-1)), .int (iI 0)])), (hn, .inr (2, [.ref xa1, .ref xa2, .ref xa3, .ref xa5, .ref xa8, .int (iI 0), .int (iI 0), .int (iI 0)])), (xa3, .inr (7, [.int (iI 0), .int (iI 0), .int (iI 0), .long (lI 0), .int (iI 0), .int (iI 0), .int (iI 0), .long (lI 0), .long (lI 0), .long (lI 0), .long (lI 0), .long (lI 0), .int (iI 0), .int (iI 0), .int (iI 0), .int (iI 0), .ref xa4]))] s.heap := hP
  refine lv_aload_n hx hb dX10_accruedUnits_0 rfl (lv_at hl 0 rfl) ?_
  refine va_get (D := (dC, dI)) (ci := 10) (v := .ref hn) (C := RX10) (T := TX10) (N := 15) hx hb hts (fun _ h => List.mem_cons_of_mem _ (inlX10 _ h)) hown hK hP 0 rfl rfl 0 (by decide) (hts (.fieldLink RX10 10 "LoanServicing" "now" "LLoanServicing$Account;") (List.mem_cons_of_mem _ (wl_1 (List.mem_of_getElem? (i := 17) rfl)))) (fun _ h9 => h9) rfl dX10_accruedUnits_1 ?_
  refine va_getN (D := (dC, dI)) (ci := 2) (v := .ref xa3) (C := RX0) (T := TX0) (N := 8) hx hb hts (fun _ h => List.mem_cons_of_mem _ (inlX0 _ h)) hown hK hP 1 rfl rfl 2 (by decide) (va_Nw.use rfl (hNw _ (List.mem_of_getElem? (i := 26) rfl))) (fun _ h9 => h9) rfl dX10_accruedUnits_4 ?_
  refine va_getN (D := (dC, dI)) (ci := 7) (v := .long (lI 0)) (C := RX6) (T := TX6) (N := 17) hx hb hts (fun _ h => List.mem_cons_of_mem _ (inlX6 _ h)) hown hK hP 2 rfl rfl 10 (by decide) (va_Nw.use rfl (hNw _ (List.mem_of_getElem? (i := 8) rfl))) (fun _ h9 => h9) rfl dX10_accruedUnits_7 ?_
  rw [hQ]
  refine W.widen (k := 0) (n := 0) (Nat.le_of_ble_eq_true rfl) (Nat.le_of_ble_eq_true rfl) ?_
  exact W.lret (v := (lI 0)) hx hb hr (fun t ht hW => ⟨⟨(lI 0), (), rfl, rfl, by rw [ht]; exact hP.sub [] rfl, by rw [hAe]; exact hD.sub [] (by decide) rfl⟩, hS.F ht⟩) hS.2.2 dX10_accruedUnits_10
set_option maxHeartbeats 4000000 in
set_option maxRecDepth 100000 in
/-- total -/
theorem c_X10_total_ok (l : Launch) (dC : Nat → ClassId) (dI : Nat → Nat → Nat) (k : Nat → ClassId) (h0 hn g1 g2 hea g3 g4 g5 g6 g7 xa1 xa2 xa3 xa4 xa5 xa6 xa7 xa8 xa9 xa10 xa11 : Nat) (xv : Int) (hv9 : -2147483648 ≤ xv ∧ xv ≤ 2147483647) (hv : 0 ≤ xv ∧ xv ≤ 7) (sz : Nat) : Met l yX10_total woX10_total ({ frames := 0, cells := 0, slots := 0, locals := 0 } : Room) (PcW (dC, dI) k [.ref h0, .int (iI xv)] [(h0, .inr (10, [.ref hn, .ref g1, .ref g2, .ref hea, .ref g3, .ref g4, .ref g5, .ref g6, .ref g7, .int (iI 0), .int (iI 0), .int (iI 0), .int (iI (-1)), .int (iI (-1)), .int (iI 0)])), (hn, .inr (2, [.ref xa1, .ref xa2, .ref xa3, .ref xa5, .ref xa8, .int (iI 0), .int (iI 0), .int (iI 0)])), (xa3, .inr (7, [.int (iI 0), .int (iI 0), .int (iI 0), .long (lI 0), .int (iI 0), .int (iI 0), .int (iI 0), .long (lI 0), .long (lI 0), .long (lI 0), .long (lI 0), .long (lI 0), .int (iI 0), .int (iI 0), .int (iI 0), .int (iI 0), .ref xa4])), (xa4, .inl (k 1, 8, .inr (.inl (aL aZ))))] sz) (va_Qi (fun (r : Int32) (_ : Unit) => r = iI 0) (QB (dC, dI) [(h0, .inr (10, [.ref hn, .ref g1, .ref g2, .ref hea, .ref g3, .ref g4, .ref g5, .ref g6, .ref g7, .int (iI 0), .int (iI 0), .int (iI 0), .int (iI (-1)), .int (iI (-1)), .int (iI 0)])), (hn, .inr (2, [.ref xa1, .ref xa2, .ref xa3, .ref xa5, .ref xa8, .int (iI 0), .int (iI 0), .int (iI 0)])), (xa3, .inr (7, [.int (iI 0), .int (iI 0), .int (iI 0), .long (lI 0), .int (iI 0), .int (iI 0), .int (iI 0), .long (lI 0), .long (lI 0), .long (lI 0), .long (lI 0), .long (lI 0), .int (iI 0), .int (iI 0), .int (iI 0), .int (iI 0), .ref xa4])), (xa4, .inl (k 1, 8, .inr (.inl (aL aZ))))] (fun _ => []) sz) (va_A [(h0, .inr (10, [.ref hn, .ref g1, .ref g2, .ref hea, .ref g3, .ref g4, .ref g5, .ref g6, .ref g7, .int (iI 0), .int (iI 0), .int (iI 0), .int (iI (-1)), .int (iI (-1)), .int (iI 0)])), (hn, .inr (2, [.ref xa1, .ref xa2, .ref xa3, .ref xa5, .ref xa8, .int (iI 0), .int (iI 0), .int (iI 0)])), (xa3, .inr (7, [.int (iI 0), .int (iI 0), .int (iI 0), .long (lI 0), .int (iI 0), .int (iI 0), .int (iI 0), .long (lI 0), .long (lI 0), .long (lI 0), .long (lI 0), .long (lI 0), .int (iI 0), .int (iI 0), .int (iI 0), .int (iI 0), .ref xa4])), (xa4, .inl (k 1, 8, .inr (.inl (aL aZ))))] sz)) 0 0 (va_A [(h0, .inr (10, [.ref hn, .ref g1, .ref g2, .ref hea, .ref g3, .ref g4, .ref g5, .ref g6, .ref g7, .int (iI 0), .int (iI 0), .int (iI 0), .int (iI (-1)), .int (iI (-1)), .int (iI 0)])), (hn, .inr (2, [.ref xa1, .ref xa2, .ref xa3, .ref xa5, .ref xa8, .int (iI 0), .int (iI 0), .int (iI 0)])), (xa3, .inr (7, [.int (iI 0), .int (iI 0), .int (iI 0), .long (lI 0), .int (iI 0), .int (iI 0), .int (iI 0), .long (lI 0), .long (lI 0), .long (lI 0), .long (lI 0), .long (lI 0), .int (iI 0), .int (iI 0), .int (iI 0), .int (iI 0), .ref xa4])), (xa4, .inl (k 1, 8, .inr (.inl (aL aZ))))] sz) := by
  refine Met.ofW (cc := cX10_total) (maxL := 3) (ret := (some .int)) (by decide) rfl ?_
  intro p e s mI args below meth cO s₁ B hml hv
  obtain ⟨rfl, rfl, hP, hD0, hE⟩ := hv
  have hx := B.exec
  have hb := B.bytes
  have hr := B.returns
  have hts := atoms_spec (ws := woX10_total) B.pre
  have hown : s.vm.findClass RX10 = some mI.cls := findClass_of_methodNamed B.named
  have hlocks := B.notSynchronized
  have hD := hD0.self (sz := s.heap.size)
  generalize hAe : va_A [(h0, .inr (10, [.ref hn, .ref g1, .ref g2, .ref hea, .ref g3, .ref g4, .ref g5, .ref g6, .ref g7, .int (iI 0), .int (iI 0), .int (iI 0), .int (iI (-1)), .int (iI (-1)), .int (iI 0)])), (hn, .inr (2, [.ref xa1, .ref xa2, .ref xa3, .ref xa5, .ref xa8, .int (iI 0), .int (iI 0), .int (iI 0)])), (xa3, .inr (7, [.int (iI 0), .int (iI 0), .int (iI 0), .long (lI 0), .int (iI 0), .int (iI 0), .int (iI 0), .long (lI 0), .long (lI 0), .long (lI 0), .long (lI 0), .long (lI 0), .int (iI 0), .int (iI 0), .int (iI 0), .int (iI 0), .ref xa4])), (xa4, .inl (k 1, 8, .inr (.inl (aL aZ))))] s.heap.size = A at hD hE ⊢
  have hA : ∀ q : Nat, s.heap.size ≤ q → A q := fun q h => by rw [← hAe]; exact Or.inr h
  have hS : va_S A s.heap s.heap [] := va_S.rf
  obtain ⟨hK, hNw, hNc, hZs, hAO1, hAO2⟩ := id hE
  have hSF : CallFix p mI cO cX10_total 3 s ([.ref h0, .int (iI xv)] : List Value).toArray woX10_total RX10 := ⟨hx, hb, hml, hown, hts⟩
  have hl := lv_entry ([.ref h0, .int (iI xv)] : List Value) (n := 3) (Nat.le_of_ble_eq_true rfl)
  rw [lg_entry_eq]
  generalize (lg_sl ([.ref h0, .int (iI xv)] : List Value) ++ List.replicate (3 - (lg_sl ([.ref h0, .int (iI xv)] : List Value)).length) Slot.unset).toArray = ls at hl ⊢
  have hl : lv_has ls 3 [(0, .ref h0), (1, .int (iI xv))] := hl
  refine W_gen (fun Q hQ => ?_)
  change W p l e ({ frames := 0, cells := 0, slots := 0, locals := 0 } : Room) s mI _ below meth cO s.heap [] 0 0 Q _
  have hP : va_P (dC, dI) vwCl [(h0, .inr (10, [.ref hn, .ref g1, .ref g2, .ref hea, .ref g3, .ref g4, .ref g5, .ref g6, .ref g7, .int (iI 0), .int (iI 0), .int (iI 0), .int (iI (-1)), .int (iI (-1)), .int (iI 0)])), (hn, .inr (2, [.ref xa1, .ref xa2, .ref xa3, .ref xa5, .ref xa8, .int (iI 0), .int (iI 0), .int (iI 0)])), (xa3, .inr (7, [.int (iI 0), .int (iI 0), .int (iI 0), .long (lI 0), .int (iI 0), .int (iI 0), .int (iI 0), .long (lI 0), .long (lI 0), .long (lI 0), .long (lI 0), .long (lI 0), .int (iI 0), .int (iI 0), .int (iI 0), .int (iI 0), .ref xa4])), (xa4, .inl (k 1, 8, .inr (.inl (aL aZ))))] s.heap := hP
  refine lv_aload_n hx hb dX10_total_0 rfl (lv_at hl 0 rfl) ?_
  refine va_get (D := (dC, dI)) (ci := 10) (v := .ref hn) (C := RX10) (T := TX10) (N := 15) hx hb hts (fun _ h => List.mem_cons_of_mem _ (inlX10 _ h)) hown hK hP 0 rfl rfl 0 (by decide) (hts (.fieldLink RX10 10 "LoanServicing" "now" "LLoanServicing$Account;") (List.mem_cons_of_mem _ (wl_1 (List.mem_of_getElem? (i := 17) rfl)))) (fun _ h9 => h9) rfl dX10_total_1 ?_
  refine va_getN (D := (dC, dI)) (ci := 2) (v := .ref xa3) (C := RX0) (T := TX0) (N := 8) hx hb hts (fun _ h => List.mem_cons_of_mem _ (inlX0 _ h)) hown hK hP 1 rfl rfl 2 (by decide) (va_Nw.use rfl (hNw _ (List.mem_of_getElem? (i := 26) rfl))) (fun _ h9 => h9) rfl dX10_total_4 ?_
  refine va_getN (D := (dC, dI)) (ci := 7) (v := .ref xa4) (C := RX6) (T := TX6) (N := 17) hx hb hts (fun _ h => List.mem_cons_of_mem _ (inlX6 _ h)) hown hK hP 2 rfl rfl 16 (by decide) (va_Nw.use rfl (hNw _ (List.mem_of_getElem? (i := 0) rfl))) (fun _ h9 => h9) rfl dX10_total_7 ?_
  refine lv_astore_n (lv' := [(2, .ref xa4), (0, .ref h0), (1, .int (iI xv))]) hx hb dX10_total_10 rfl hl (by decide) rfl (fun ls hl => ?_)
  refine lv_iload_n hx hb dX10_total_11 rfl (lv_at hl 2 rfl) ?_
  refine q_if_lt (tgt := 21) hx hb dX10_total_12 (by decide) (by omega) (fun q => absurd q (by omega)) (fun _ => ?_)
  refine lv_iload_n hx hb dX10_total_15 rfl (lv_at hl 2 rfl) ?_
  refine lv_aload_n hx hb dX10_total_16 rfl (lv_at hl 0 rfl) ?_
  refine va_alen (v := iI 8) hx hb hK hP 3 1 rfl rfl (show Int32.ofNat 8 = iI 8 from by decide) dX10_total_17 ?_
  refine q_icmp_lt (tgt := 29) hx hb dX10_total_18 (by decide) (by omega) (fun _ => ?_) (fun q => absurd q (by omega))
  refine lv_aload_n hx hb dX10_total_29 rfl (lv_at hl 0 rfl) ?_
  refine lv_iload_n hx hb dX10_total_30 rfl (lv_at hl 2 rfl) ?_
  refine q_lald (z := 0) hx hb hK hP 3 1 rfl rfl (by omega) rfl dX10_total_31 ?_
  refine q_l2i hx hb dX10_total_32 ?_
  rw [hQ]
  refine W.widen (k := 0) (n := 0) (Nat.le_of_ble_eq_true rfl) (Nat.le_of_ble_eq_true rfl) ?_
  exact W.iret (v := (iI 0)) hx hb hr (fun t ht hW => ⟨⟨(iI 0), (), rfl, rfl, by rw [ht]; exact hP.sub [] rfl, by rw [hAe]; exact hD.sub [] (by decide) rfl⟩, hS.F ht⟩) hS.2.2 dX10_total_33
set_option maxHeartbeats 4000000 in
set_option maxRecDepth 100000 in
/-- total of nothing -/
theorem c_X10_total_x (l : Launch) (hl0 : l.stackTraces = false) (dC : Nat → ClassId) (dI : Nat → Nat → Nat) (k : Nat → ClassId) (h0 hn g1 g2 hea g3 g4 g5 g6 g7 xa1 xa2 xa3 xa4 xa5 xa6 xa7 xa8 xa9 xa10 xa11 : Nat) (xv : Int) (hv9 : -2147483648 ≤ xv ∧ xv ≤ 2147483647) (hv : ¬ (0 ≤ xv ∧ xv ≤ 7)) (sz : Nat) : vx_Met l yX10_total woX10_total ({ frames := 6, cells := 1, slots := 6, locals := 81 } : Room) (PcW (dC, dI) k [.ref h0, .int (iI xv)] [(h0, .inr (10, [.ref hn, .ref g1, .ref g2, .ref hea, .ref g3, .ref g4, .ref g5, .ref g6, .ref g7, .int (iI 0), .int (iI 0), .int (iI 0), .int (iI (-1)), .int (iI (-1)), .int (iI 0)])), (hn, .inr (2, [.ref xa1, .ref xa2, .ref xa3, .ref xa5, .ref xa8, .int (iI 0), .int (iI 0), .int (iI 0)])), (xa3, .inr (7, [.int (iI 0), .int (iI 0), .int (iI 0), .long (lI 0), .int (iI 0), .int (iI 0), .int (iI 0), .long (lI 0), .long (lI 0), .long (lI 0), .long (lI 0), .long (lI 0), .int (iI 0), .int (iI 0), .int (iI 0), .int (iI 0), .ref xa4])), (xa4, .inl (k 1, 8, .inr (.inl (aL aZ))))] sz) (va_Qi (fun (_ : Int32) (_ : Unit) => False) (fun _ _ => True) (va_A [(h0, .inr (10, [.ref hn, .ref g1, .ref g2, .ref hea, .ref g3, .ref g4, .ref g5, .ref g6, .ref g7, .int (iI 0), .int (iI 0), .int (iI 0), .int (iI (-1)), .int (iI (-1)), .int (iI 0)])), (hn, .inr (2, [.ref xa1, .ref xa2, .ref xa3, .ref xa5, .ref xa8, .int (iI 0), .int (iI 0), .int (iI 0)])), (xa3, .inr (7, [.int (iI 0), .int (iI 0), .int (iI 0), .long (lI 0), .int (iI 0), .int (iI 0), .int (iI 0), .long (lI 0), .long (lI 0), .long (lI 0), .long (lI 0), .long (lI 0), .int (iI 0), .int (iI 0), .int (iI 0), .int (iI 0), .ref xa4])), (xa4, .inl (k 1, 8, .inr (.inl (aL aZ))))] sz)) (XE "java/lang/IllegalArgumentException" [(h0, .inr (10, [.ref hn, .ref g1, .ref g2, .ref hea, .ref g3, .ref g4, .ref g5, .ref g6, .ref g7, .int (iI 0), .int (iI 0), .int (iI 0), .int (iI (-1)), .int (iI (-1)), .int (iI 0)])), (hn, .inr (2, [.ref xa1, .ref xa2, .ref xa3, .ref xa5, .ref xa8, .int (iI 0), .int (iI 0), .int (iI 0)])), (xa3, .inr (7, [.int (iI 0), .int (iI 0), .int (iI 0), .long (lI 0), .int (iI 0), .int (iI 0), .int (iI 0), .long (lI 0), .long (lI 0), .long (lI 0), .long (lI 0), .long (lI 0), .int (iI 0), .int (iI 0), .int (iI 0), .int (iI 0), .ref xa4])), (xa4, .inl (k 1, 8, .inr (.inl (aL aZ))))] sz) 1 6 (va_A [(h0, .inr (10, [.ref hn, .ref g1, .ref g2, .ref hea, .ref g3, .ref g4, .ref g5, .ref g6, .ref g7, .int (iI 0), .int (iI 0), .int (iI 0), .int (iI (-1)), .int (iI (-1)), .int (iI 0)])), (hn, .inr (2, [.ref xa1, .ref xa2, .ref xa3, .ref xa5, .ref xa8, .int (iI 0), .int (iI 0), .int (iI 0)])), (xa3, .inr (7, [.int (iI 0), .int (iI 0), .int (iI 0), .long (lI 0), .int (iI 0), .int (iI 0), .int (iI 0), .long (lI 0), .long (lI 0), .long (lI 0), .long (lI 0), .long (lI 0), .int (iI 0), .int (iI 0), .int (iI 0), .int (iI 0), .ref xa4])), (xa4, .inl (k 1, 8, .inr (.inl (aL aZ))))] sz) := by
  refine vx_ofW (cc := cX10_total) (maxL := 3) (ret := (some .int)) (by decide) rfl ?_
  intro p e s mI args below meth cO s₁ B hml htab hv
  obtain ⟨rfl, rfl, hP, hD0, hE⟩ := hv
  have hx := B.exec
  have hb := B.bytes
  have hr := B.returns
  have hts := atoms_spec (ws := woX10_total) B.pre
  have hown : s.vm.findClass RX10 = some mI.cls := findClass_of_methodNamed B.named
  have hlocks := B.notSynchronized
  have hD := hD0.self (sz := s.heap.size)
  generalize hAe : va_A [(h0, .inr (10, [.ref hn, .ref g1, .ref g2, .ref hea, .ref g3, .ref g4, .ref g5, .ref g6, .ref g7, .int (iI 0), .int (iI 0), .int (iI 0), .int (iI (-1)), .int (iI (-1)), .int (iI 0)])), (hn, .inr (2, [.ref xa1, .ref xa2, .ref xa3, .ref xa5, .ref xa8, .int (iI 0), .int (iI 0), .int (iI 0)])), (xa3, .inr (7, [.int (iI 0), .int (iI 0), .int (iI 0), .long (lI 0), .int (iI 0), .int (iI 0), .int (iI 0), .long (lI 0), .long (lI 0), .long (lI 0), .long (lI 0), .long (lI 0), .int (iI 0), .int (iI 0), .int (iI 0), .int (iI 0), .ref xa4])), (xa4, .inl (k 1, 8, .inr (.inl (aL aZ))))] s.heap.size = A at hD hE ⊢
  have hA : ∀ q : Nat, s.heap.size ≤ q → A q := fun q h => by rw [← hAe]; exact Or.inr h
  have hS : va_S A s.heap s.heap [] := va_S.rf
  obtain ⟨hK, hNw, hNc, hZs, hAO1, hAO2⟩ := id hE
  have hSF : CallFix p mI cO cX10_total 3 s ([.ref h0, .int (iI xv)] : List Value).toArray woX10_total RX10 := ⟨hx, hb, hml, hown, hts⟩
  have hl := lv_entry ([.ref h0, .int (iI xv)] : List Value) (n := 3) (Nat.le_of_ble_eq_true rfl)
  rw [lg_entry_eq]
  generalize (lg_sl ([.ref h0, .int (iI xv)] : List Value) ++ List.replicate (3 - (lg_sl ([.ref h0, .int (iI xv)] : List Value)).length) Slot.unset).toArray = ls at hl ⊢
  have hl : lv_has ls 3 [(0, .ref h0), (1, .int (iI xv))] := hl
  refine W_gen (fun Q hQ => ?_)
  change W p l e ({ frames := 6, cells := 1, slots := 6, locals := 81 } : Room) s mI _ below meth cO s.heap [] 0 0 Q _
  have hP : va_P (dC, dI) vwCl [(h0, .inr (10, [.ref hn, .ref g1, .ref g2, .ref hea, .ref g3, .ref g4, .ref g5, .ref g6, .ref g7, .int (iI 0), .int (iI 0), .int (iI 0), .int (iI (-1)), .int (iI (-1)), .int (iI 0)])), (hn, .inr (2, [.ref xa1, .ref xa2, .ref xa3, .ref xa5, .ref xa8, .int (iI 0), .int (iI 0), .int (iI 0)])), (xa3, .inr (7, [.int (iI 0), .int (iI 0), .int (iI 0), .long (lI 0), .int (iI 0), .int (iI 0), .int (iI 0), .long (lI 0), .long (lI 0), .long (lI 0), .long (lI 0), .long (lI 0), .int (iI 0), .int (iI 0), .int (iI 0), .int (iI 0), .ref xa4])), (xa4, .inl (k 1, 8, .inr (.inl (aL aZ))))] s.heap := hP
  refine lv_aload_n hx hb dX10_total_0 rfl (lv_at hl 0 rfl) ?_
  refine va_get (D := (dC, dI)) (ci := 10) (v := .ref hn) (C := RX10) (T := TX10) (N := 15) hx hb hts (fun _ h => List.mem_cons_of_mem _ (inlX10 _ h)) hown hK hP 0 rfl rfl 0 (by decide) (hts (.fieldLink RX10 10 "LoanServicing" "now" "LLoanServicing$Account;") (List.mem_cons_of_mem _ (wl_1 (List.mem_of_getElem? (i := 17) rfl)))) (fun _ h9 => h9) rfl dX10_total_1 ?_
  refine va_getN (D := (dC, dI)) (ci := 2) (v := .ref xa3) (C := RX0) (T := TX0) (N := 8) hx hb hts (fun _ h => List.mem_cons_of_mem _ (inlX0 _ h)) hown hK hP 1 rfl rfl 2 (by decide) (va_Nw.use rfl (hNw _ (List.mem_of_getElem? (i := 26) rfl))) (fun _ h9 => h9) rfl dX10_total_4 ?_
  refine va_getN (D := (dC, dI)) (ci := 7) (v := .ref xa4) (C := RX6) (T := TX6) (N := 17) hx hb hts (fun _ h => List.mem_cons_of_mem _ (inlX6 _ h)) hown hK hP 2 rfl rfl 16 (by decide) (va_Nw.use rfl (hNw _ (List.mem_of_getElem? (i := 0) rfl))) (fun _ h9 => h9) rfl dX10_total_7 ?_
  refine lv_astore_n (lv' := [(2, .ref xa4), (0, .ref h0), (1, .int (iI xv))]) hx hb dX10_total_10 rfl hl (by decide) rfl (fun ls hl => ?_)
  refine lv_iload_n hx hb dX10_total_11 rfl (lv_at hl 2 rfl) ?_
  refine q_if_lt (tgt := 21) hx hb dX10_total_12 (by decide) (by omega) (fun c12 => ?_) (fun c12 => ?_)
  · have hat : ∀ w ∈ vx_at0 RX10 71 "java/lang/IllegalArgumentException" ["java/lang/RuntimeException", "java/lang/Exception"], w.before ([.ref h0, .int (iI xv)] : List Value).toArray s = true := vx_hat (B := [.declares ⟨"java/lang/RuntimeException", "<init>", "()V"⟩, .declares ⟨"java/lang/Exception", "<init>", "()V"⟩, .declares ⟨"java/lang/Throwable", "<init>", "()V"⟩, .castable "java/lang/IllegalArgumentException" "java/lang/IllegalArgumentException"]) (fun w hw => hts w (List.mem_cons_of_mem _ (List.mem_append_left _ (List.mem_append_left _ (List.mem_append_left _ (List.mem_append_left _ (List.mem_append_left _ (List.mem_append_left _ (List.mem_append_right _ hw))))))))) (by decide +kernel) (vx_c (va_Nw.use rfl (hNw _ (List.mem_of_getElem? (i := 64) rfl))) (vx_c (va_Nw.use rfl (hNw _ (List.mem_of_getElem? (i := 62) rfl))) (vx_c (va_Nw.use rfl (hNw _ (List.mem_of_getElem? (i := 65) rfl))) (vx_c (va_Nw.use rfl (hNw _ (List.mem_of_getElem? (i := 66) rfl))) vx_n))))
    rw [hQ]
    exact vx_throw0 hx hb hl0 (own := RX10) (cls := "java/lang/IllegalArgumentException") (names := ["java/lang/RuntimeException", "java/lang/Exception"]) hown (by decide) (by decide) (hts (.classLink RX10 69 "java/lang/IllegalArgumentException") (List.mem_cons_of_mem _ (wl_6 (List.mem_of_getElem? (i := 8) rfl)))) (hts (.initialized "java/lang/IllegalArgumentException") (List.mem_cons_of_mem _ (wl_6 (List.mem_of_getElem? (i := 9) rfl)))) hat (by decide +kernel) hZs.2.2.1 hZs.2.2.2 hS (hl.1.trans hml.symm) dX10_total_21 dX10_total_24 dX10_total_25 dX10_total_28 (fun x hx => (htab x hx).elim) (Nat.le_of_ble_eq_true rfl) (Nat.le_of_ble_eq_true rfl) (Nat.le_of_ble_eq_true rfl) (Nat.le_of_ble_eq_true rfl) hlocks (fun t ht hz hq => XE_of hAe hS hz hq) hS.2.2 (Nat.le_of_ble_eq_true rfl) (Nat.le_of_ble_eq_true rfl)
  · refine lv_iload_n hx hb dX10_total_15 rfl (lv_at hl 2 rfl) ?_
    refine lv_aload_n hx hb dX10_total_16 rfl (lv_at hl 0 rfl) ?_
    refine va_alen (v := iI 8) hx hb hK hP 3 1 rfl rfl (show Int32.ofNat 8 = iI 8 from by decide) dX10_total_17 ?_
    refine q_icmp_lt (tgt := 29) hx hb dX10_total_18 (by decide) (by omega) (fun q => absurd q (by omega)) (fun _ => ?_)
    have hat : ∀ w ∈ vx_at0 RX10 71 "java/lang/IllegalArgumentException" ["java/lang/RuntimeException", "java/lang/Exception"], w.before ([.ref h0, .int (iI xv)] : List Value).toArray s = true := vx_hat (B := [.declares ⟨"java/lang/RuntimeException", "<init>", "()V"⟩, .declares ⟨"java/lang/Exception", "<init>", "()V"⟩, .declares ⟨"java/lang/Throwable", "<init>", "()V"⟩, .castable "java/lang/IllegalArgumentException" "java/lang/IllegalArgumentException"]) (fun w hw => hts w (List.mem_cons_of_mem _ (List.mem_append_left _ (List.mem_append_left _ (List.mem_append_left _ (List.mem_append_left _ (List.mem_append_left _ (List.mem_append_left _ (List.mem_append_right _ hw))))))))) (by decide +kernel) (vx_c (va_Nw.use rfl (hNw _ (List.mem_of_getElem? (i := 64) rfl))) (vx_c (va_Nw.use rfl (hNw _ (List.mem_of_getElem? (i := 62) rfl))) (vx_c (va_Nw.use rfl (hNw _ (List.mem_of_getElem? (i := 65) rfl))) (vx_c (va_Nw.use rfl (hNw _ (List.mem_of_getElem? (i := 66) rfl))) vx_n))))
    rw [hQ]
    exact vx_throw0 hx hb hl0 (own := RX10) (cls := "java/lang/IllegalArgumentException") (names := ["java/lang/RuntimeException", "java/lang/Exception"]) hown (by decide) (by decide) (hts (.classLink RX10 69 "java/lang/IllegalArgumentException") (List.mem_cons_of_mem _ (wl_6 (List.mem_of_getElem? (i := 8) rfl)))) (hts (.initialized "java/lang/IllegalArgumentException") (List.mem_cons_of_mem _ (wl_6 (List.mem_of_getElem? (i := 9) rfl)))) hat (by decide +kernel) hZs.2.2.1 hZs.2.2.2 hS (hl.1.trans hml.symm) dX10_total_21 dX10_total_24 dX10_total_25 dX10_total_28 (fun x hx => (htab x hx).elim) (Nat.le_of_ble_eq_true rfl) (Nat.le_of_ble_eq_true rfl) (Nat.le_of_ble_eq_true rfl) (Nat.le_of_ble_eq_true rfl) hlocks (fun t ht hz hq => XE_of hAe hS hz hq) hS.2.2 (Nat.le_of_ble_eq_true rfl) (Nat.le_of_ble_eq_true rfl)
set_option maxHeartbeats 4000000 in
set_option maxRecDepth 100000 in
/-- condition -/
theorem c_X10_condition (l : Launch) (dC : Nat → ClassId) (dI : Nat → Nat → Nat) (k : Nat → ClassId) (h0 hn g1 g2 hea g3 g4 g5 g6 g7 xa1 xa2 xa3 xa4 xa5 xa6 xa7 xa8 xa9 xa10 xa11 : Nat) (sz : Nat) : Met l yX10_condition woX10_condition ({ frames := 0, cells := 0, slots := 0, locals := 0 } : Room) (PcW (dC, dI) k [.ref h0] [(h0, .inr (10, [.ref hn, .ref g1, .ref g2, .ref hea, .ref g3, .ref g4, .ref g5, .ref g6, .ref g7, .int (iI 0), .int (iI 0), .int (iI 0), .int (iI (-1)), .int (iI (-1)), .int (iI 0)])), (hn, .inr (2, [.ref xa1, .ref xa2, .ref xa3, .ref xa5, .ref xa8, .int (iI 0), .int (iI 0), .int (iI 0)])), (xa3, .inr (7, [.int (iI 0), .int (iI 0), .int (iI 0), .long (lI 0), .int (iI 0), .int (iI 0), .int (iI 0), .long (lI 0), .long (lI 0), .long (lI 0), .long (lI 0), .long (lI 0), .int (iI 0), .int (iI 0), .int (iI 0), .int (iI 0), .ref xa4]))] sz) (va_Qi (fun (r : Int32) (_ : Unit) => r = iI 0) (QB (dC, dI) [(h0, .inr (10, [.ref hn, .ref g1, .ref g2, .ref hea, .ref g3, .ref g4, .ref g5, .ref g6, .ref g7, .int (iI 0), .int (iI 0), .int (iI 0), .int (iI (-1)), .int (iI (-1)), .int (iI 0)])), (hn, .inr (2, [.ref xa1, .ref xa2, .ref xa3, .ref xa5, .ref xa8, .int (iI 0), .int (iI 0), .int (iI 0)])), (xa3, .inr (7, [.int (iI 0), .int (iI 0), .int (iI 0), .long (lI 0), .int (iI 0), .int (iI 0), .int (iI 0), .long (lI 0), .long (lI 0), .long (lI 0), .long (lI 0), .long (lI 0), .int (iI 0), .int (iI 0), .int (iI 0), .int (iI 0), .ref xa4]))] (fun _ => []) sz) (va_A [(h0, .inr (10, [.ref hn, .ref g1, .ref g2, .ref hea, .ref g3, .ref g4, .ref g5, .ref g6, .ref g7, .int (iI 0), .int (iI 0), .int (iI 0), .int (iI (-1)), .int (iI (-1)), .int (iI 0)])), (hn, .inr (2, [.ref xa1, .ref xa2, .ref xa3, .ref xa5, .ref xa8, .int (iI 0), .int (iI 0), .int (iI 0)])), (xa3, .inr (7, [.int (iI 0), .int (iI 0), .int (iI 0), .long (lI 0), .int (iI 0), .int (iI 0), .int (iI 0), .long (lI 0), .long (lI 0), .long (lI 0), .long (lI 0), .long (lI 0), .int (iI 0), .int (iI 0), .int (iI 0), .int (iI 0), .ref xa4]))] sz)) 0 0 (va_A [(h0, .inr (10, [.ref hn, .ref g1, .ref g2, .ref hea, .ref g3, .ref g4, .ref g5, .ref g6, .ref g7, .int (iI 0), .int (iI 0), .int (iI 0), .int (iI (-1)), .int (iI (-1)), .int (iI 0)])), (hn, .inr (2, [.ref xa1, .ref xa2, .ref xa3, .ref xa5, .ref xa8, .int (iI 0), .int (iI 0), .int (iI 0)])), (xa3, .inr (7, [.int (iI 0), .int (iI 0), .int (iI 0), .long (lI 0), .int (iI 0), .int (iI 0), .int (iI 0), .long (lI 0), .long (lI 0), .long (lI 0), .long (lI 0), .long (lI 0), .int (iI 0), .int (iI 0), .int (iI 0), .int (iI 0), .ref xa4]))] sz) := by
  refine Met.ofW (cc := cX10_condition) (maxL := 1) (ret := (some .int)) (by decide) rfl ?_
  intro p e s mI args below meth cO s₁ B hml hv
  obtain ⟨rfl, rfl, hP, hD0, hE⟩ := hv
  have hx := B.exec
  have hb := B.bytes
  have hr := B.returns
  have hts := atoms_spec (ws := woX10_condition) B.pre
  have hown : s.vm.findClass RX10 = some mI.cls := findClass_of_methodNamed B.named
  have hlocks := B.notSynchronized
  have hD := hD0.self (sz := s.heap.size)
  generalize hAe : va_A [(h0, .inr (10, [.ref hn, .ref g1, .ref g2, .ref hea, .ref g3, .ref g4, .ref g5, .ref g6, .ref g7, .int (iI 0), .int (iI 0), .int (iI 0), .int (iI (-1)), .int (iI (-1)), .int (iI 0)])), (hn, .inr (2, [.ref xa1, .ref xa2, .ref xa3, .ref xa5, .ref xa8, .int (iI 0), .int (iI 0), .int (iI 0)])), (xa3, .inr (7, [.int (iI 0), .int (iI 0), .int (iI 0), .long (lI 0), .int (iI 0), .int (iI 0), .int (iI 0), .long (lI 0), .long (lI 0), .long (lI 0), .long (lI 0), .long (lI 0), .int (iI 0), .int (iI 0), .int (iI 0), .int (iI 0), .ref xa4]))] s.heap.size = A at hD hE ⊢
  have hA : ∀ q : Nat, s.heap.size ≤ q → A q := fun q h => by rw [← hAe]; exact Or.inr h
  have hS : va_S A s.heap s.heap [] := va_S.rf
  obtain ⟨hK, hNw, hNc, hZs, hAO1, hAO2⟩ := id hE
  have hSF : CallFix p mI cO cX10_condition 1 s ([.ref h0] : List Value).toArray woX10_condition RX10 := ⟨hx, hb, hml, hown, hts⟩
  have hl := lv_entry ([.ref h0] : List Value) (n := 1) (Nat.le_of_ble_eq_true rfl)
  rw [lg_entry_eq]
  generalize (lg_sl ([.ref h0] : List Value) ++ List.replicate (1 - (lg_sl ([.ref h0] : List Value)).length) Slot.unset).toArray = ls at hl ⊢
  have hl : lv_has ls 1 [(0, .ref h0)] := hl
  refine W_gen (fun Q hQ => ?_)
  change W p l e ({ frames := 0, cells := 0, slots := 0, locals := 0 } : Room) s mI _ below meth cO s.heap [] 0 0 Q _
  have hP : va_P (dC, dI) vwCl [(h0, .inr (10, [.ref hn, .ref g1, .ref g2, .ref hea, .ref g3, .ref g4, .ref g5, .ref g6, .ref g7, .int (iI 0), .int (iI 0), .int (iI 0), .int (iI (-1)), .int (iI (-1)), .int (iI 0)])), (hn, .inr (2, [.ref xa1, .ref xa2, .ref xa3, .ref xa5, .ref xa8, .int (iI 0), .int (iI 0), .int (iI 0)])), (xa3, .inr (7, [.int (iI 0), .int (iI 0), .int (iI 0), .long (lI 0), .int (iI 0), .int (iI 0), .int (iI 0), .long (lI 0), .long (lI 0), .long (lI 0), .long (lI 0), .long (lI 0), .int (iI 0), .int (iI 0), .int (iI 0), .int (iI 0), .ref xa4]))] s.heap := hP
  refine lv_aload_n hx hb dX10_condition_0 rfl (lv_at hl 0 rfl) ?_
  refine va_get (D := (dC, dI)) (ci := 10) (v := .ref hn) (C := RX10) (T := TX10) (N := 15) hx hb hts (fun _ h => List.mem_cons_of_mem _ (inlX10 _ h)) hown hK hP 0 rfl rfl 0 (by decide) (hts (.fieldLink RX10 10 "LoanServicing" "now" "LLoanServicing$Account;") (List.mem_cons_of_mem _ (wl_1 (List.mem_of_getElem? (i := 17) rfl)))) (fun _ h9 => h9) rfl dX10_condition_1 ?_
  refine va_getN (D := (dC, dI)) (ci := 2) (v := .ref xa3) (C := RX0) (T := TX0) (N := 8) hx hb hts (fun _ h => List.mem_cons_of_mem _ (inlX0 _ h)) hown hK hP 1 rfl rfl 2 (by decide) (va_Nw.use rfl (hNw _ (List.mem_of_getElem? (i := 26) rfl))) (fun _ h9 => h9) rfl dX10_condition_4 ?_
  refine va_getN (D := (dC, dI)) (ci := 7) (v := .int (iI 0)) (C := RX6) (T := TX6) (N := 17) hx hb hts (fun _ h => List.mem_cons_of_mem _ (inlX6 _ h)) hown hK hP 2 rfl rfl 0 (by decide) (va_Nw.use rfl (hNw _ (List.mem_of_getElem? (i := 9) rfl))) (fun _ h9 => h9) rfl dX10_condition_7 ?_
  refine q_if_ne (tgt := 15) hx hb dX10_condition_10 (by decide) (by omega) (fun q => absurd q (by omega)) (fun _ => ?_)
  refine q_iconst hx hb dX10_condition_13 ?_
  rw [hQ]
  refine W.widen (k := 0) (n := 0) (Nat.le_of_ble_eq_true rfl) (Nat.le_of_ble_eq_true rfl) ?_
  exact W.iret (v := (iI 0)) hx hb hr (fun t ht hW => ⟨⟨(iI 0), (), rfl, rfl, by rw [ht]; exact hP.sub [] rfl, by rw [hAe]; exact hD.sub [] (by decide) rfl⟩, hS.F ht⟩) hS.2.2 dX10_condition_14
set_option maxHeartbeats 4000000 in
set_option maxRecDepth 100000 in
/-- interestShare -/
theorem c_X10_interestShare (l : Launch) (hl0 : l.stackTraces = false) (dC : Nat → ClassId) (dI : Nat → Nat → Nat) (k : Nat → ClassId) (h0 hn g1 g2 hea g3 g4 g5 g6 g7 xa1 xa2 xa3 xa4 xa5 xa6 xa7 xa8 xa9 xa10 xa11 : Nat) (sz : Nat) : vx_Met l yX10_interestShare woX10_interestShare ({ frames := 6, cells := 1, slots := 6, locals := 81 } : Room) (PcW (dC, dI) k [.ref h0] [(h0, .inr (10, [.ref hn, .ref g1, .ref g2, .ref hea, .ref g3, .ref g4, .ref g5, .ref g6, .ref g7, .int (iI 0), .int (iI 0), .int (iI 0), .int (iI (-1)), .int (iI (-1)), .int (iI 0)])), (hn, .inr (2, [.ref xa1, .ref xa2, .ref xa3, .ref xa5, .ref xa8, .int (iI 0), .int (iI 0), .int (iI 0)])), (xa3, .inr (7, [.int (iI 0), .int (iI 0), .int (iI 0), .long (lI 0), .int (iI 0), .int (iI 0), .int (iI 0), .long (lI 0), .long (lI 0), .long (lI 0), .long (lI 0), .long (lI 0), .int (iI 0), .int (iI 0), .int (iI 0), .int (iI 0), .ref xa4])), (xa4, .inl (k 1, 8, .inr (.inl (aL aZ))))] sz) (va_Qd (fun (_ : UInt64) (_ : Unit) => False) (fun _ _ => True) (va_A [(h0, .inr (10, [.ref hn, .ref g1, .ref g2, .ref hea, .ref g3, .ref g4, .ref g5, .ref g6, .ref g7, .int (iI 0), .int (iI 0), .int (iI 0), .int (iI (-1)), .int (iI (-1)), .int (iI 0)])), (hn, .inr (2, [.ref xa1, .ref xa2, .ref xa3, .ref xa5, .ref xa8, .int (iI 0), .int (iI 0), .int (iI 0)])), (xa3, .inr (7, [.int (iI 0), .int (iI 0), .int (iI 0), .long (lI 0), .int (iI 0), .int (iI 0), .int (iI 0), .long (lI 0), .long (lI 0), .long (lI 0), .long (lI 0), .long (lI 0), .int (iI 0), .int (iI 0), .int (iI 0), .int (iI 0), .ref xa4])), (xa4, .inl (k 1, 8, .inr (.inl (aL aZ))))] sz)) (XE "java/lang/ArithmeticException" [(h0, .inr (10, [.ref hn, .ref g1, .ref g2, .ref hea, .ref g3, .ref g4, .ref g5, .ref g6, .ref g7, .int (iI 0), .int (iI 0), .int (iI 0), .int (iI (-1)), .int (iI (-1)), .int (iI 0)])), (hn, .inr (2, [.ref xa1, .ref xa2, .ref xa3, .ref xa5, .ref xa8, .int (iI 0), .int (iI 0), .int (iI 0)])), (xa3, .inr (7, [.int (iI 0), .int (iI 0), .int (iI 0), .long (lI 0), .int (iI 0), .int (iI 0), .int (iI 0), .long (lI 0), .long (lI 0), .long (lI 0), .long (lI 0), .long (lI 0), .int (iI 0), .int (iI 0), .int (iI 0), .int (iI 0), .ref xa4])), (xa4, .inl (k 1, 8, .inr (.inl (aL aZ))))] sz) 1 6 (va_A [(h0, .inr (10, [.ref hn, .ref g1, .ref g2, .ref hea, .ref g3, .ref g4, .ref g5, .ref g6, .ref g7, .int (iI 0), .int (iI 0), .int (iI 0), .int (iI (-1)), .int (iI (-1)), .int (iI 0)])), (hn, .inr (2, [.ref xa1, .ref xa2, .ref xa3, .ref xa5, .ref xa8, .int (iI 0), .int (iI 0), .int (iI 0)])), (xa3, .inr (7, [.int (iI 0), .int (iI 0), .int (iI 0), .long (lI 0), .int (iI 0), .int (iI 0), .int (iI 0), .long (lI 0), .long (lI 0), .long (lI 0), .long (lI 0), .long (lI 0), .int (iI 0), .int (iI 0), .int (iI 0), .int (iI 0), .ref xa4])), (xa4, .inl (k 1, 8, .inr (.inl (aL aZ))))] sz) := by
  refine vx_ofW (cc := cX10_interestShare) (maxL := 3) (ret := (some .double)) (by decide) rfl ?_
  intro p e s mI args below meth cO s₁ B hml htab hv
  obtain ⟨rfl, rfl, hP, hD0, hE⟩ := hv
  have hx := B.exec
  have hb := B.bytes
  have hr := B.returns
  have hts := atoms_spec (ws := woX10_interestShare) B.pre
  have hown : s.vm.findClass RX10 = some mI.cls := findClass_of_methodNamed B.named
  have hlocks := B.notSynchronized
  have hD := hD0.self (sz := s.heap.size)
  generalize hAe : va_A [(h0, .inr (10, [.ref hn, .ref g1, .ref g2, .ref hea, .ref g3, .ref g4, .ref g5, .ref g6, .ref g7, .int (iI 0), .int (iI 0), .int (iI 0), .int (iI (-1)), .int (iI (-1)), .int (iI 0)])), (hn, .inr (2, [.ref xa1, .ref xa2, .ref xa3, .ref xa5, .ref xa8, .int (iI 0), .int (iI 0), .int (iI 0)])), (xa3, .inr (7, [.int (iI 0), .int (iI 0), .int (iI 0), .long (lI 0), .int (iI 0), .int (iI 0), .int (iI 0), .long (lI 0), .long (lI 0), .long (lI 0), .long (lI 0), .long (lI 0), .int (iI 0), .int (iI 0), .int (iI 0), .int (iI 0), .ref xa4])), (xa4, .inl (k 1, 8, .inr (.inl (aL aZ))))] s.heap.size = A at hD hE ⊢
  have hA : ∀ q : Nat, s.heap.size ≤ q → A q := fun q h => by rw [← hAe]; exact Or.inr h
  have hS : va_S A s.heap s.heap [] := va_S.rf
  obtain ⟨hK, hNw, hNc, hZs, hAO1, hAO2⟩ := id hE
  have hSF : CallFix p mI cO cX10_interestShare 3 s ([.ref h0] : List Value).toArray woX10_interestShare RX10 := ⟨hx, hb, hml, hown, hts⟩
  have hl := lv_entry ([.ref h0] : List Value) (n := 3) (Nat.le_of_ble_eq_true rfl)
  rw [lg_entry_eq]
  generalize (lg_sl ([.ref h0] : List Value) ++ List.replicate (3 - (lg_sl ([.ref h0] : List Value)).length) Slot.unset).toArray = ls at hl ⊢
  have hl : lv_has ls 3 [(0, .ref h0)] := hl
  refine W_gen (fun Q hQ => ?_)
  change W p l e ({ frames := 6, cells := 1, slots := 6, locals := 81 } : Room) s mI _ below meth cO s.heap [] 0 0 Q _
  have hP : va_P (dC, dI) vwCl [(h0, .inr (10, [.ref hn, .ref g1, .ref g2, .ref hea, .ref g3, .ref g4, .ref g5, .ref g6, .ref g7, .int (iI 0), .int (iI 0), .int (iI 0), .int (iI (-1)), .int (iI (-1)), .int (iI 0)])), (hn, .inr (2, [.ref xa1, .ref xa2, .ref xa3, .ref xa5, .ref xa8, .int (iI 0), .int (iI 0), .int (iI 0)])), (xa3, .inr (7, [.int (iI 0), .int (iI 0), .int (iI 0), .long (lI 0), .int (iI 0), .int (iI 0), .int (iI 0), .long (lI 0), .long (lI 0), .long (lI 0), .long (lI 0), .long (lI 0), .int (iI 0), .int (iI 0), .int (iI 0), .int (iI 0), .ref xa4])), (xa4, .inl (k 1, 8, .inr (.inl (aL aZ))))] s.heap := hP
  refine lv_aload_n hx hb dX10_interestShare_0 rfl (lv_at hl 0 rfl) ?_
  refine va_get (D := (dC, dI)) (ci := 10) (v := .ref hn) (C := RX10) (T := TX10) (N := 15) hx hb hts (fun _ h => List.mem_cons_of_mem _ (inlX10 _ h)) hown hK hP 0 rfl rfl 0 (by decide) (hts (.fieldLink RX10 10 "LoanServicing" "now" "LLoanServicing$Account;") (List.mem_cons_of_mem _ (wl_1 (List.mem_of_getElem? (i := 17) rfl)))) (fun _ h9 => h9) rfl dX10_interestShare_1 ?_
  refine va_getN (D := (dC, dI)) (ci := 2) (v := .ref xa3) (C := RX0) (T := TX0) (N := 8) hx hb hts (fun _ h => List.mem_cons_of_mem _ (inlX0 _ h)) hown hK hP 1 rfl rfl 2 (by decide) (va_Nw.use rfl (hNw _ (List.mem_of_getElem? (i := 26) rfl))) (fun _ h9 => h9) rfl dX10_interestShare_4 ?_
  refine va_getN (D := (dC, dI)) (ci := 7) (v := .ref xa4) (C := RX6) (T := TX6) (N := 17) hx hb hts (fun _ h => List.mem_cons_of_mem _ (inlX6 _ h)) hown hK hP 2 rfl rfl 16 (by decide) (va_Nw.use rfl (hNw _ (List.mem_of_getElem? (i := 0) rfl))) (fun _ h9 => h9) rfl dX10_interestShare_7 ?_
  refine q_iconst hx hb dX10_interestShare_10 ?_
  refine q_lald (z := 0) hx hb hK hP 3 1 rfl rfl (by omega) rfl dX10_interestShare_11 ?_
  refine lv_lstore_n (lv' := [(1, .long (lI 0)), (0, .ref h0)]) hx hb dX10_interestShare_12 rfl hl (by decide) rfl (fun ls hl => ?_)
  refine lv_lload_n hx hb dX10_interestShare_13 rfl (lv_at hl 0 rfl) ?_
  refine q_lconst (z := 0) hx hb dX10_interestShare_14 (by decide) ?_
  refine q_lcmp hx hb dX10_interestShare_15 ?_
  refine q_lif_gt (tgt := 27) hx hb dX10_interestShare_16 (by decide) (by omega) (fun q => absurd q (by omega)) (fun _ => ?_)
  have hat : ∀ w ∈ vx_at0 RX10 197 "java/lang/ArithmeticException" ["java/lang/RuntimeException", "java/lang/Exception"], w.before ([.ref h0] : List Value).toArray s = true := vx_hat (B := [.declares ⟨"java/lang/RuntimeException", "<init>", "()V"⟩, .declares ⟨"java/lang/Exception", "<init>", "()V"⟩, .declares ⟨"java/lang/Throwable", "<init>", "()V"⟩, .castable "java/lang/ArithmeticException" "java/lang/ArithmeticException"]) (fun w hw => hts w (List.mem_cons_of_mem _ (List.mem_append_left _ (List.mem_append_right _ hw)))) (by decide +kernel) (vx_c (va_Nw.use rfl (hNw _ (List.mem_of_getElem? (i := 64) rfl))) (vx_c (va_Nw.use rfl (hNw _ (List.mem_of_getElem? (i := 62) rfl))) (vx_c (va_Nw.use rfl (hNw _ (List.mem_of_getElem? (i := 65) rfl))) (vx_c (va_Nw.use rfl (hNw _ (List.mem_of_getElem? (i := 70) rfl))) vx_n))))
  rw [hQ]
  exact vx_throw0 hx hb hl0 (own := RX10) (cls := "java/lang/ArithmeticException") (names := ["java/lang/RuntimeException", "java/lang/Exception"]) hown (by decide) (by decide) (hts (.classLink RX10 195 "java/lang/ArithmeticException") (List.mem_cons_of_mem _ (wl_33 (List.mem_of_getElem? (i := 5) rfl)))) (hts (.initialized "java/lang/ArithmeticException") (List.mem_cons_of_mem _ (wl_33 (List.mem_of_getElem? (i := 6) rfl)))) hat (by decide +kernel) hZs.2.2.1 hZs.2.2.2 hS (hl.1.trans hml.symm) dX10_interestShare_19 dX10_interestShare_22 dX10_interestShare_23 dX10_interestShare_26 (fun x hx => (htab x hx).elim) (Nat.le_of_ble_eq_true rfl) (Nat.le_of_ble_eq_true rfl) (Nat.le_of_ble_eq_true rfl) (Nat.le_of_ble_eq_true rfl) hlocks (fun t ht hz hq => XE_of hAe hS hz hq) hS.2.2 (Nat.le_of_ble_eq_true rfl) (Nat.le_of_ble_eq_true rfl)
set_option maxHeartbeats 4000000 in
set_option maxRecDepth 100000 in
/-- progress -/
theorem c_X10_progress (l : Launch) (hl0 : l.stackTraces = false) (dC : Nat → ClassId) (dI : Nat → Nat → Nat) (k : Nat → ClassId) (h0 hn g1 g2 hea g3 g4 g5 g6 g7 xa1 xa2 xa3 xa4 xa5 xa6 xa7 xa8 xa9 xa10 xa11 : Nat) (sz : Nat) : vx_Met l yX10_progress woX10_progress ({ frames := 6, cells := 1, slots := 6, locals := 81 } : Room) (PcW (dC, dI) k [.ref h0] [(h0, .inr (10, [.ref hn, .ref g1, .ref g2, .ref hea, .ref g3, .ref g4, .ref g5, .ref g6, .ref g7, .int (iI 0), .int (iI 0), .int (iI 0), .int (iI (-1)), .int (iI (-1)), .int (iI 0)])), (hn, .inr (2, [.ref xa1, .ref xa2, .ref xa3, .ref xa5, .ref xa8, .int (iI 0), .int (iI 0), .int (iI 0)])), (xa3, .inr (7, [.int (iI 0), .int (iI 0), .int (iI 0), .long (lI 0), .int (iI 0), .int (iI 0), .int (iI 0), .long (lI 0), .long (lI 0), .long (lI 0), .long (lI 0), .long (lI 0), .int (iI 0), .int (iI 0), .int (iI 0), .int (iI 0), .ref xa4])), (xa4, .inl (k 1, 8, .inr (.inl (aL aZ))))] sz) (va_Qf (fun (_ : UInt32) (_ : Unit) => False) (fun _ _ => True) (va_A [(h0, .inr (10, [.ref hn, .ref g1, .ref g2, .ref hea, .ref g3, .ref g4, .ref g5, .ref g6, .ref g7, .int (iI 0), .int (iI 0), .int (iI 0), .int (iI (-1)), .int (iI (-1)), .int (iI 0)])), (hn, .inr (2, [.ref xa1, .ref xa2, .ref xa3, .ref xa5, .ref xa8, .int (iI 0), .int (iI 0), .int (iI 0)])), (xa3, .inr (7, [.int (iI 0), .int (iI 0), .int (iI 0), .long (lI 0), .int (iI 0), .int (iI 0), .int (iI 0), .long (lI 0), .long (lI 0), .long (lI 0), .long (lI 0), .long (lI 0), .int (iI 0), .int (iI 0), .int (iI 0), .int (iI 0), .ref xa4])), (xa4, .inl (k 1, 8, .inr (.inl (aL aZ))))] sz)) (XE "java/lang/IllegalStateException" [(h0, .inr (10, [.ref hn, .ref g1, .ref g2, .ref hea, .ref g3, .ref g4, .ref g5, .ref g6, .ref g7, .int (iI 0), .int (iI 0), .int (iI 0), .int (iI (-1)), .int (iI (-1)), .int (iI 0)])), (hn, .inr (2, [.ref xa1, .ref xa2, .ref xa3, .ref xa5, .ref xa8, .int (iI 0), .int (iI 0), .int (iI 0)])), (xa3, .inr (7, [.int (iI 0), .int (iI 0), .int (iI 0), .long (lI 0), .int (iI 0), .int (iI 0), .int (iI 0), .long (lI 0), .long (lI 0), .long (lI 0), .long (lI 0), .long (lI 0), .int (iI 0), .int (iI 0), .int (iI 0), .int (iI 0), .ref xa4])), (xa4, .inl (k 1, 8, .inr (.inl (aL aZ))))] sz) 1 6 (va_A [(h0, .inr (10, [.ref hn, .ref g1, .ref g2, .ref hea, .ref g3, .ref g4, .ref g5, .ref g6, .ref g7, .int (iI 0), .int (iI 0), .int (iI 0), .int (iI (-1)), .int (iI (-1)), .int (iI 0)])), (hn, .inr (2, [.ref xa1, .ref xa2, .ref xa3, .ref xa5, .ref xa8, .int (iI 0), .int (iI 0), .int (iI 0)])), (xa3, .inr (7, [.int (iI 0), .int (iI 0), .int (iI 0), .long (lI 0), .int (iI 0), .int (iI 0), .int (iI 0), .long (lI 0), .long (lI 0), .long (lI 0), .long (lI 0), .long (lI 0), .int (iI 0), .int (iI 0), .int (iI 0), .int (iI 0), .ref xa4])), (xa4, .inl (k 1, 8, .inr (.inl (aL aZ))))] sz) := by
  refine vx_ofW (cc := cX10_progress) (maxL := 3) (ret := (some .float)) (by decide) rfl ?_
  intro p e s mI args below meth cO s₁ B hml htab hv
  obtain ⟨rfl, rfl, hP, hD0, hE⟩ := hv
  have hx := B.exec
  have hb := B.bytes
  have hr := B.returns
  have hts := atoms_spec (ws := woX10_progress) B.pre
  have hown : s.vm.findClass RX10 = some mI.cls := findClass_of_methodNamed B.named
  have hlocks := B.notSynchronized
  have hD := hD0.self (sz := s.heap.size)
  generalize hAe : va_A [(h0, .inr (10, [.ref hn, .ref g1, .ref g2, .ref hea, .ref g3, .ref g4, .ref g5, .ref g6, .ref g7, .int (iI 0), .int (iI 0), .int (iI 0), .int (iI (-1)), .int (iI (-1)), .int (iI 0)])), (hn, .inr (2, [.ref xa1, .ref xa2, .ref xa3, .ref xa5, .ref xa8, .int (iI 0), .int (iI 0), .int (iI 0)])), (xa3, .inr (7, [.int (iI 0), .int (iI 0), .int (iI 0), .long (lI 0), .int (iI 0), .int (iI 0), .int (iI 0), .long (lI 0), .long (lI 0), .long (lI 0), .long (lI 0), .long (lI 0), .int (iI 0), .int (iI 0), .int (iI 0), .int (iI 0), .ref xa4])), (xa4, .inl (k 1, 8, .inr (.inl (aL aZ))))] s.heap.size = A at hD hE ⊢
  have hA : ∀ q : Nat, s.heap.size ≤ q → A q := fun q h => by rw [← hAe]; exact Or.inr h
  have hS : va_S A s.heap s.heap [] := va_S.rf
  obtain ⟨hK, hNw, hNc, hZs, hAO1, hAO2⟩ := id hE
  have hSF : CallFix p mI cO cX10_progress 3 s ([.ref h0] : List Value).toArray woX10_progress RX10 := ⟨hx, hb, hml, hown, hts⟩
  have hl := lv_entry ([.ref h0] : List Value) (n := 3) (Nat.le_of_ble_eq_true rfl)
  rw [lg_entry_eq]
  generalize (lg_sl ([.ref h0] : List Value) ++ List.replicate (3 - (lg_sl ([.ref h0] : List Value)).length) Slot.unset).toArray = ls at hl ⊢
  have hl : lv_has ls 3 [(0, .ref h0)] := hl
  refine W_gen (fun Q hQ => ?_)
  change W p l e ({ frames := 6, cells := 1, slots := 6, locals := 81 } : Room) s mI _ below meth cO s.heap [] 0 0 Q _
  have hP : va_P (dC, dI) vwCl [(h0, .inr (10, [.ref hn, .ref g1, .ref g2, .ref hea, .ref g3, .ref g4, .ref g5, .ref g6, .ref g7, .int (iI 0), .int (iI 0), .int (iI 0), .int (iI (-1)), .int (iI (-1)), .int (iI 0)])), (hn, .inr (2, [.ref xa1, .ref xa2, .ref xa3, .ref xa5, .ref xa8, .int (iI 0), .int (iI 0), .int (iI 0)])), (xa3, .inr (7, [.int (iI 0), .int (iI 0), .int (iI 0), .long (lI 0), .int (iI 0), .int (iI 0), .int (iI 0), .long (lI 0), .long (lI 0), .long (lI 0), .long (lI 0), .long (lI 0), .int (iI 0), .int (iI 0), .int (iI 0), .int (iI 0), .ref xa4])), (xa4, .inl (k 1, 8, .inr (.inl (aL aZ))))] s.heap := hP
  refine lv_aload_n hx hb dX10_progress_0 rfl (lv_at hl 0 rfl) ?_
  refine va_get (D := (dC, dI)) (ci := 10) (v := .ref hn) (C := RX10) (T := TX10) (N := 15) hx hb hts (fun _ h => List.mem_cons_of_mem _ (inlX10 _ h)) hown hK hP 0 rfl rfl 0 (by decide) (hts (.fieldLink RX10 10 "LoanServicing" "now" "LLoanServicing$Account;") (List.mem_cons_of_mem _ (wl_1 (List.mem_of_getElem? (i := 17) rfl)))) (fun _ h9 => h9) rfl dX10_progress_1 ?_
  refine va_getN (D := (dC, dI)) (ci := 2) (v := .ref xa3) (C := RX0) (T := TX0) (N := 8) hx hb hts (fun _ h => List.mem_cons_of_mem _ (inlX0 _ h)) hown hK hP 1 rfl rfl 2 (by decide) (va_Nw.use rfl (hNw _ (List.mem_of_getElem? (i := 26) rfl))) (fun _ h9 => h9) rfl dX10_progress_4 ?_
  refine va_getN (D := (dC, dI)) (ci := 7) (v := .long (lI 0)) (C := RX6) (T := TX6) (N := 17) hx hb hts (fun _ h => List.mem_cons_of_mem _ (inlX6 _ h)) hown hK hP 2 rfl rfl 3 (by decide) (va_Nw.use rfl (hNw _ (List.mem_of_getElem? (i := 10) rfl))) (fun _ h9 => h9) rfl dX10_progress_7 ?_
  refine lv_aload_n hx hb dX10_progress_10 rfl (lv_at hl 0 rfl) ?_
  refine va_get (D := (dC, dI)) (ci := 10) (v := .ref hn) (C := RX10) (T := TX10) (N := 15) hx hb hts (fun _ h => List.mem_cons_of_mem _ (inlX10 _ h)) hown hK hP 0 rfl rfl 0 (by decide) (hts (.fieldLink RX10 10 "LoanServicing" "now" "LLoanServicing$Account;") (List.mem_cons_of_mem _ (wl_1 (List.mem_of_getElem? (i := 17) rfl)))) (fun _ h9 => h9) rfl dX10_progress_11 ?_
  refine va_getN (D := (dC, dI)) (ci := 2) (v := .ref xa3) (C := RX0) (T := TX0) (N := 8) hx hb hts (fun _ h => List.mem_cons_of_mem _ (inlX0 _ h)) hown hK hP 1 rfl rfl 2 (by decide) (va_Nw.use rfl (hNw _ (List.mem_of_getElem? (i := 26) rfl))) (fun _ h9 => h9) rfl dX10_progress_14 ?_
  refine va_getN (D := (dC, dI)) (ci := 7) (v := .ref xa4) (C := RX6) (T := TX6) (N := 17) hx hb hts (fun _ h => List.mem_cons_of_mem _ (inlX6 _ h)) hown hK hP 2 rfl rfl 16 (by decide) (va_Nw.use rfl (hNw _ (List.mem_of_getElem? (i := 0) rfl))) (fun _ h9 => h9) rfl dX10_progress_17 ?_
  refine q_bipush (z := 7) hx hb dX10_progress_20 (by decide) ?_
  refine q_lald (z := 0) hx hb hK hP 3 1 rfl rfl (by omega) rfl dX10_progress_22 ?_
  refine q_ladd (z := 0) hx hb dX10_progress_23 (by omega) ?_
  refine lv_lstore_n (lv' := [(1, .long (lI 0)), (0, .ref h0)]) hx hb dX10_progress_24 rfl hl (by decide) rfl (fun ls hl => ?_)
  refine lv_aload_n hx hb dX10_progress_25 rfl (lv_at hl 1 rfl) ?_
  refine va_get (D := (dC, dI)) (ci := 10) (v := .ref hn) (C := RX10) (T := TX10) (N := 15) hx hb hts (fun _ h => List.mem_cons_of_mem _ (inlX10 _ h)) hown hK hP 0 rfl rfl 0 (by decide) (hts (.fieldLink RX10 10 "LoanServicing" "now" "LLoanServicing$Account;") (List.mem_cons_of_mem _ (wl_1 (List.mem_of_getElem? (i := 17) rfl)))) (fun _ h9 => h9) rfl dX10_progress_26 ?_
  refine va_getN (D := (dC, dI)) (ci := 2) (v := .ref xa3) (C := RX0) (T := TX0) (N := 8) hx hb hts (fun _ h => List.mem_cons_of_mem _ (inlX0 _ h)) hown hK hP 1 rfl rfl 2 (by decide) (va_Nw.use rfl (hNw _ (List.mem_of_getElem? (i := 26) rfl))) (fun _ h9 => h9) rfl dX10_progress_29 ?_
  refine va_getN (D := (dC, dI)) (ci := 7) (v := .int (iI 0)) (C := RX6) (T := TX6) (N := 17) hx hb hts (fun _ h => List.mem_cons_of_mem _ (inlX6 _ h)) hown hK hP 2 rfl rfl 0 (by decide) (va_Nw.use rfl (hNw _ (List.mem_of_getElem? (i := 9) rfl))) (fun _ h9 => h9) rfl dX10_progress_32 ?_
  refine q_if_eq (tgt := 44) hx hb dX10_progress_35 (by decide) (by omega) (fun _ => ?_) (fun q => absurd q (by omega))
  have hat : ∀ w ∈ vx_at0 RX10 203 "java/lang/IllegalStateException" ["java/lang/RuntimeException", "java/lang/Exception"], w.before ([.ref h0] : List Value).toArray s = true := vx_hat (B := [.declares ⟨"java/lang/RuntimeException", "<init>", "()V"⟩, .declares ⟨"java/lang/Exception", "<init>", "()V"⟩, .declares ⟨"java/lang/Throwable", "<init>", "()V"⟩, .castable "java/lang/IllegalStateException" "java/lang/IllegalStateException"]) (fun w hw => hts w (List.mem_cons_of_mem _ (List.mem_append_left _ (List.mem_append_left _ (List.mem_append_left _ (List.mem_append_left _ (List.mem_append_right _ hw))))))) (by decide +kernel) (vx_c (va_Nw.use rfl (hNw _ (List.mem_of_getElem? (i := 64) rfl))) (vx_c (va_Nw.use rfl (hNw _ (List.mem_of_getElem? (i := 62) rfl))) (vx_c (va_Nw.use rfl (hNw _ (List.mem_of_getElem? (i := 65) rfl))) (vx_c (va_Nw.use rfl (hNw _ (List.mem_of_getElem? (i := 67) rfl))) vx_n))))
  rw [hQ]
  exact vx_throw0 hx hb hl0 (own := RX10) (cls := "java/lang/IllegalStateException") (names := ["java/lang/RuntimeException", "java/lang/Exception"]) hown (by decide) (by decide) (hts (.classLink RX10 201 "java/lang/IllegalStateException") (List.mem_cons_of_mem _ (wl_17 (List.mem_of_getElem? (i := 13) rfl)))) (hts (.initialized "java/lang/IllegalStateException") (List.mem_cons_of_mem _ (wl_17 (List.mem_of_getElem? (i := 14) rfl)))) hat (by decide +kernel) hZs.2.2.1 hZs.2.2.2 hS (hl.1.trans hml.symm) dX10_progress_44 dX10_progress_47 dX10_progress_48 dX10_progress_51 (fun x hx => (htab x hx).elim) (Nat.le_of_ble_eq_true rfl) (Nat.le_of_ble_eq_true rfl) (Nat.le_of_ble_eq_true rfl) (Nat.le_of_ble_eq_true rfl) hlocks (fun t ht hz hq => XE_of hAe hS hz hq) hS.2.2 (Nat.le_of_ble_eq_true rfl) (Nat.le_of_ble_eq_true rfl)
set_option maxHeartbeats 4000000 in
set_option maxRecDepth 100000 in
/-- installmentFor, out of range -/
theorem c_X10_installmentFor_1 (l : Launch) (hl0 : l.stackTraces = false) (dC : Nat → ClassId) (dI : Nat → Nat → Nat) (k : Nat → ClassId) (h0 hn g1 g2 hea g3 g4 g5 g6 g7 xa1 xa2 xa3 xa4 xa5 xa6 xa7 xa8 xa9 xa10 xa11 : Nat) (xv : Int) (hv9 : -2147483648 ≤ xv ∧ xv ≤ 2147483647) (hv : ¬ (1 ≤ xv ∧ xv ≤ 60)) (sz : Nat) : vx_Met l yX10_installmentFor woX10_installmentFor ({ frames := 6, cells := 1, slots := 6, locals := 81 } : Room) (PcW (dC, dI) k [.ref h0, .int (iI xv)] [(h0, .inr (10, [.ref hn, .ref g1, .ref g2, .ref hea, .ref g3, .ref g4, .ref g5, .ref g6, .ref g7, .int (iI 0), .int (iI 0), .int (iI 0), .int (iI (-1)), .int (iI (-1)), .int (iI 0)]))] sz) (va_Qi (fun (_ : Int32) (_ : Unit) => False) (fun _ _ => True) (va_A [(h0, .inr (10, [.ref hn, .ref g1, .ref g2, .ref hea, .ref g3, .ref g4, .ref g5, .ref g6, .ref g7, .int (iI 0), .int (iI 0), .int (iI 0), .int (iI (-1)), .int (iI (-1)), .int (iI 0)]))] sz)) (XE "java/lang/IllegalArgumentException" [(h0, .inr (10, [.ref hn, .ref g1, .ref g2, .ref hea, .ref g3, .ref g4, .ref g5, .ref g6, .ref g7, .int (iI 0), .int (iI 0), .int (iI 0), .int (iI (-1)), .int (iI (-1)), .int (iI 0)]))] sz) 1 6 (va_A [(h0, .inr (10, [.ref hn, .ref g1, .ref g2, .ref hea, .ref g3, .ref g4, .ref g5, .ref g6, .ref g7, .int (iI 0), .int (iI 0), .int (iI 0), .int (iI (-1)), .int (iI (-1)), .int (iI 0)]))] sz) := by
  refine vx_ofW (cc := cX10_installmentFor) (maxL := 2) (ret := (some .int)) (by decide) rfl ?_
  intro p e s mI args below meth cO s₁ B hml htab hv
  obtain ⟨rfl, rfl, hP, hD0, hE⟩ := hv
  have hx := B.exec
  have hb := B.bytes
  have hr := B.returns
  have hts := atoms_spec (ws := woX10_installmentFor) B.pre
  have hown : s.vm.findClass RX10 = some mI.cls := findClass_of_methodNamed B.named
  have hlocks := B.notSynchronized
  have hD := hD0.self (sz := s.heap.size)
  generalize hAe : va_A [(h0, .inr (10, [.ref hn, .ref g1, .ref g2, .ref hea, .ref g3, .ref g4, .ref g5, .ref g6, .ref g7, .int (iI 0), .int (iI 0), .int (iI 0), .int (iI (-1)), .int (iI (-1)), .int (iI 0)]))] s.heap.size = A at hD hE ⊢
  have hA : ∀ q : Nat, s.heap.size ≤ q → A q := fun q h => by rw [← hAe]; exact Or.inr h
  have hS : va_S A s.heap s.heap [] := va_S.rf
  obtain ⟨hK, hNw, hNc, hZs, hAO1, hAO2⟩ := id hE
  have hSF : CallFix p mI cO cX10_installmentFor 2 s ([.ref h0, .int (iI xv)] : List Value).toArray woX10_installmentFor RX10 := ⟨hx, hb, hml, hown, hts⟩
  have hl := lv_entry ([.ref h0, .int (iI xv)] : List Value) (n := 2) (Nat.le_of_ble_eq_true rfl)
  rw [lg_entry_eq]
  generalize (lg_sl ([.ref h0, .int (iI xv)] : List Value) ++ List.replicate (2 - (lg_sl ([.ref h0, .int (iI xv)] : List Value)).length) Slot.unset).toArray = ls at hl ⊢
  have hl : lv_has ls 2 [(0, .ref h0), (1, .int (iI xv))] := hl
  refine W_gen (fun Q hQ => ?_)
  change W p l e ({ frames := 6, cells := 1, slots := 6, locals := 81 } : Room) s mI _ below meth cO s.heap [] 0 0 Q _
  have hP : va_P (dC, dI) vwCl [(h0, .inr (10, [.ref hn, .ref g1, .ref g2, .ref hea, .ref g3, .ref g4, .ref g5, .ref g6, .ref g7, .int (iI 0), .int (iI 0), .int (iI 0), .int (iI (-1)), .int (iI (-1)), .int (iI 0)]))] s.heap := hP
  refine lv_iload_n hx hb dX10_installmentFor_0 rfl (lv_at hl 1 rfl) ?_
  refine q_iconst hx hb dX10_installmentFor_1 ?_
  refine q_bipush (z := 60) hx hb dX10_installmentFor_2 (by decide) ?_
  refine ki (va_runS (As := [.int (iI xv), .int (iI 1), .int (iI 60)]) (rest := []) hSF ((c_X10_isWithin l dC dI k xv 1 60 (by omega)) s.heap.size) (va_cwS 3 hts gX10_installmentFor_X10_isWithin rfl rfl rfl (by decide +kernel) ⟨Nat.le_of_ble_eq_true rfl, Nat.le_of_ble_eq_true rfl⟩) (preS hP hD hE hS hA [] rfl (by decide)) rfl rfl hl.1 rfl (lv_room (Nat.le_of_ble_eq_true rfl)) dX10_installmentFor_4 ⟨Nat.le_of_ble_eq_true rfl, Nat.le_of_ble_eq_true rfl⟩) hP hD hS hA [] [0] rfl (wr := [(h0, .inr (10, [.ref hn, .ref g1, .ref g2, .ref hea, .ref g3, .ref g4, .ref g5, .ref g6, .ref g7, .int (iI 0), .int (iI 0), .int (iI 0), .int (iI (-1)), .int (iI (-1)), .int (iI 0)]))]) rfl (by decide) (by decide) (fun r4 _ H locs hw hP hD hS => ?_)
  obtain rfl : r4 = iI 0 := hw.trans (by rw [wi0 (by omega)])
  have hP : va_P (dC, dI) vwCl [(h0, .inr (10, [.ref hn, .ref g1, .ref g2, .ref hea, .ref g3, .ref g4, .ref g5, .ref g6, .ref g7, .int (iI 0), .int (iI 0), .int (iI 0), .int (iI (-1)), .int (iI (-1)), .int (iI 0)]))] H := hP
  have hD : va_D A [(h0, .inr (10, [.ref hn, .ref g1, .ref g2, .ref hea, .ref g3, .ref g4, .ref g5, .ref g6, .ref g7, .int (iI 0), .int (iI 0), .int (iI 0), .int (iI (-1)), .int (iI (-1)), .int (iI 0)]))] := hD
  refine q_if_ne (tgt := 18) hx hb dX10_installmentFor_7 (by decide) (by omega) (fun q => absurd q (by omega)) (fun _ => ?_)
  have hat : ∀ w ∈ vx_at0 RX10 71 "java/lang/IllegalArgumentException" ["java/lang/RuntimeException", "java/lang/Exception"], w.before ([.ref h0, .int (iI xv)] : List Value).toArray s = true := vx_hat (B := [.declares ⟨"java/lang/RuntimeException", "<init>", "()V"⟩, .declares ⟨"java/lang/Exception", "<init>", "()V"⟩, .declares ⟨"java/lang/Throwable", "<init>", "()V"⟩, .castable "java/lang/IllegalArgumentException" "java/lang/IllegalArgumentException"]) (fun w hw => hts w (List.mem_cons_of_mem _ (List.mem_append_left _ (List.mem_append_left _ (List.mem_append_left _ (List.mem_append_left _ (List.mem_append_left _ (List.mem_append_left _ (List.mem_append_right _ hw))))))))) (by decide +kernel) (vx_c (va_Nw.use rfl (hNw _ (List.mem_of_getElem? (i := 64) rfl))) (vx_c (va_Nw.use rfl (hNw _ (List.mem_of_getElem? (i := 62) rfl))) (vx_c (va_Nw.use rfl (hNw _ (List.mem_of_getElem? (i := 65) rfl))) (vx_c (va_Nw.use rfl (hNw _ (List.mem_of_getElem? (i := 66) rfl))) vx_n))))
  rw [hQ]
  exact vx_throw0 hx hb hl0 (own := RX10) (cls := "java/lang/IllegalArgumentException") (names := ["java/lang/RuntimeException", "java/lang/Exception"]) hown (by decide) (by decide) (hts (.classLink RX10 69 "java/lang/IllegalArgumentException") (List.mem_cons_of_mem _ (wl_6 (List.mem_of_getElem? (i := 8) rfl)))) (hts (.initialized "java/lang/IllegalArgumentException") (List.mem_cons_of_mem _ (wl_6 (List.mem_of_getElem? (i := 9) rfl)))) hat (by decide +kernel) hZs.2.2.1 hZs.2.2.2 hS (hl.1.trans hml.symm) dX10_installmentFor_10 dX10_installmentFor_13 dX10_installmentFor_14 dX10_installmentFor_17 (fun x hx => (htab x hx).elim) (Nat.le_of_ble_eq_true rfl) (Nat.le_of_ble_eq_true rfl) (Nat.le_of_ble_eq_true rfl) (Nat.le_of_ble_eq_true rfl) hlocks (fun t ht hz hq => XE_of hAe hS hz hq) hS.2.2 (Nat.le_of_ble_eq_true rfl) (Nat.le_of_ble_eq_true rfl)
set_option maxHeartbeats 4000000 in
set_option maxRecDepth 100000 in
/-- installmentFor, no installments -/
theorem c_X10_installmentFor_2 (l : Launch) (hl0 : l.stackTraces = false) (dC : Nat → ClassId) (dI : Nat → Nat → Nat) (k : Nat → ClassId) (h0 hn g1 g2 hea g3 g4 g5 g6 g7 xa1 xa2 xa3 xa4 xa5 xa6 xa7 xa8 xa9 xa10 xa11 : Nat) (xv : Int) (hv9 : -2147483648 ≤ xv ∧ xv ≤ 2147483647) (hv : 1 ≤ xv ∧ xv ≤ 60) (sz : Nat) : vx_Met l yX10_installmentFor woX10_installmentFor ({ frames := 6, cells := 1, slots := 6, locals := 81 } : Room) (PcW (dC, dI) k [.ref h0, .int (iI xv)] [(h0, .inr (10, [.ref hn, .ref g1, .ref g2, .ref hea, .ref g3, .ref g4, .ref g5, .ref g6, .ref g7, .int (iI 0), .int (iI 0), .int (iI 0), .int (iI (-1)), .int (iI (-1)), .int (iI 0)])), (hn, .inr (2, [.ref xa1, .ref xa2, .ref xa3, .ref xa5, .ref xa8, .int (iI 0), .int (iI 0), .int (iI 0)])), (xa3, .inr (7, [.int (iI 0), .int (iI 0), .int (iI 0), .long (lI 0), .int (iI 0), .int (iI 0), .int (iI 0), .long (lI 0), .long (lI 0), .long (lI 0), .long (lI 0), .long (lI 0), .int (iI 0), .int (iI 0), .int (iI 0), .int (iI 0), .ref xa4]))] sz) (va_Qi (fun (_ : Int32) (_ : Unit) => False) (fun _ _ => True) (va_A [(h0, .inr (10, [.ref hn, .ref g1, .ref g2, .ref hea, .ref g3, .ref g4, .ref g5, .ref g6, .ref g7, .int (iI 0), .int (iI 0), .int (iI 0), .int (iI (-1)), .int (iI (-1)), .int (iI 0)])), (hn, .inr (2, [.ref xa1, .ref xa2, .ref xa3, .ref xa5, .ref xa8, .int (iI 0), .int (iI 0), .int (iI 0)])), (xa3, .inr (7, [.int (iI 0), .int (iI 0), .int (iI 0), .long (lI 0), .int (iI 0), .int (iI 0), .int (iI 0), .long (lI 0), .long (lI 0), .long (lI 0), .long (lI 0), .long (lI 0), .int (iI 0), .int (iI 0), .int (iI 0), .int (iI 0), .ref xa4]))] sz)) (XE "java/lang/IllegalStateException" [(h0, .inr (10, [.ref hn, .ref g1, .ref g2, .ref hea, .ref g3, .ref g4, .ref g5, .ref g6, .ref g7, .int (iI 0), .int (iI 0), .int (iI 0), .int (iI (-1)), .int (iI (-1)), .int (iI 0)])), (hn, .inr (2, [.ref xa1, .ref xa2, .ref xa3, .ref xa5, .ref xa8, .int (iI 0), .int (iI 0), .int (iI 0)])), (xa3, .inr (7, [.int (iI 0), .int (iI 0), .int (iI 0), .long (lI 0), .int (iI 0), .int (iI 0), .int (iI 0), .long (lI 0), .long (lI 0), .long (lI 0), .long (lI 0), .long (lI 0), .int (iI 0), .int (iI 0), .int (iI 0), .int (iI 0), .ref xa4]))] sz) 1 6 (va_A [(h0, .inr (10, [.ref hn, .ref g1, .ref g2, .ref hea, .ref g3, .ref g4, .ref g5, .ref g6, .ref g7, .int (iI 0), .int (iI 0), .int (iI 0), .int (iI (-1)), .int (iI (-1)), .int (iI 0)])), (hn, .inr (2, [.ref xa1, .ref xa2, .ref xa3, .ref xa5, .ref xa8, .int (iI 0), .int (iI 0), .int (iI 0)])), (xa3, .inr (7, [.int (iI 0), .int (iI 0), .int (iI 0), .long (lI 0), .int (iI 0), .int (iI 0), .int (iI 0), .long (lI 0), .long (lI 0), .long (lI 0), .long (lI 0), .long (lI 0), .int (iI 0), .int (iI 0), .int (iI 0), .int (iI 0), .ref xa4]))] sz) := by
  refine vx_ofW (cc := cX10_installmentFor) (maxL := 2) (ret := (some .int)) (by decide) rfl ?_
  intro p e s mI args below meth cO s₁ B hml htab hv
  obtain ⟨rfl, rfl, hP, hD0, hE⟩ := hv
  have hx := B.exec
  have hb := B.bytes
  have hr := B.returns
  have hts := atoms_spec (ws := woX10_installmentFor) B.pre
  have hown : s.vm.findClass RX10 = some mI.cls := findClass_of_methodNamed B.named
  have hlocks := B.notSynchronized
  have hD := hD0.self (sz := s.heap.size)
  generalize hAe : va_A [(h0, .inr (10, [.ref hn, .ref g1, .ref g2, .ref hea, .ref g3, .ref g4, .ref g5, .ref g6, .ref g7, .int (iI 0), .int (iI 0), .int (iI 0), .int (iI (-1)), .int (iI (-1)), .int (iI 0)])), (hn, .inr (2, [.ref xa1, .ref xa2, .ref xa3, .ref xa5, .ref xa8, .int (iI 0), .int (iI 0), .int (iI 0)])), (xa3, .inr (7, [.int (iI 0), .int (iI 0), .int (iI 0), .long (lI 0), .int (iI 0), .int (iI 0), .int (iI 0), .long (lI 0), .long (lI 0), .long (lI 0), .long (lI 0), .long (lI 0), .int (iI 0), .int (iI 0), .int (iI 0), .int (iI 0), .ref xa4]))] s.heap.size = A at hD hE ⊢
  have hA : ∀ q : Nat, s.heap.size ≤ q → A q := fun q h => by rw [← hAe]; exact Or.inr h
  have hS : va_S A s.heap s.heap [] := va_S.rf
  obtain ⟨hK, hNw, hNc, hZs, hAO1, hAO2⟩ := id hE
  have hSF : CallFix p mI cO cX10_installmentFor 2 s ([.ref h0, .int (iI xv)] : List Value).toArray woX10_installmentFor RX10 := ⟨hx, hb, hml, hown, hts⟩
  have hl := lv_entry ([.ref h0, .int (iI xv)] : List Value) (n := 2) (Nat.le_of_ble_eq_true rfl)
  rw [lg_entry_eq]
  generalize (lg_sl ([.ref h0, .int (iI xv)] : List Value) ++ List.replicate (2 - (lg_sl ([.ref h0, .int (iI xv)] : List Value)).length) Slot.unset).toArray = ls at hl ⊢
  have hl : lv_has ls 2 [(0, .ref h0), (1, .int (iI xv))] := hl
  refine W_gen (fun Q hQ => ?_)
  change W p l e ({ frames := 6, cells := 1, slots := 6, locals := 81 } : Room) s mI _ below meth cO s.heap [] 0 0 Q _
  have hP : va_P (dC, dI) vwCl [(h0, .inr (10, [.ref hn, .ref g1, .ref g2, .ref hea, .ref g3, .ref g4, .ref g5, .ref g6, .ref g7, .int (iI 0), .int (iI 0), .int (iI 0), .int (iI (-1)), .int (iI (-1)), .int (iI 0)])), (hn, .inr (2, [.ref xa1, .ref xa2, .ref xa3, .ref xa5, .ref xa8, .int (iI 0), .int (iI 0), .int (iI 0)])), (xa3, .inr (7, [.int (iI 0), .int (iI 0), .int (iI 0), .long (lI 0), .int (iI 0), .int (iI 0), .int (iI 0), .long (lI 0), .long (lI 0), .long (lI 0), .long (lI 0), .long (lI 0), .int (iI 0), .int (iI 0), .int (iI 0), .int (iI 0), .ref xa4]))] s.heap := hP
  refine lv_iload_n hx hb dX10_installmentFor_0 rfl (lv_at hl 1 rfl) ?_
  refine q_iconst hx hb dX10_installmentFor_1 ?_
  refine q_bipush (z := 60) hx hb dX10_installmentFor_2 (by decide) ?_
  refine ki (va_runS (As := [.int (iI xv), .int (iI 1), .int (iI 60)]) (rest := []) hSF ((c_X10_isWithin l dC dI k xv 1 60 (by omega)) s.heap.size) (va_cwS 3 hts gX10_installmentFor_X10_isWithin rfl rfl rfl (by decide +kernel) ⟨Nat.le_of_ble_eq_true rfl, Nat.le_of_ble_eq_true rfl⟩) (preS hP hD hE hS hA [] rfl (by decide)) rfl rfl hl.1 rfl (lv_room (Nat.le_of_ble_eq_true rfl)) dX10_installmentFor_4 ⟨Nat.le_of_ble_eq_true rfl, Nat.le_of_ble_eq_true rfl⟩) hP hD hS hA [] [0, 1, 2] rfl (wr := [(h0, .inr (10, [.ref hn, .ref g1, .ref g2, .ref hea, .ref g3, .ref g4, .ref g5, .ref g6, .ref g7, .int (iI 0), .int (iI 0), .int (iI 0), .int (iI (-1)), .int (iI (-1)), .int (iI 0)])), (hn, .inr (2, [.ref xa1, .ref xa2, .ref xa3, .ref xa5, .ref xa8, .int (iI 0), .int (iI 0), .int (iI 0)])), (xa3, .inr (7, [.int (iI 0), .int (iI 0), .int (iI 0), .long (lI 0), .int (iI 0), .int (iI 0), .int (iI 0), .long (lI 0), .long (lI 0), .long (lI 0), .long (lI 0), .long (lI 0), .int (iI 0), .int (iI 0), .int (iI 0), .int (iI 0), .ref xa4]))]) rfl (by decide) (by decide) (fun r4 _ H locs hw hP hD hS => ?_)
  obtain rfl : r4 = iI 1 := hw.trans (by rw [wi1 (by omega)])
  have hP : va_P (dC, dI) vwCl [(h0, .inr (10, [.ref hn, .ref g1, .ref g2, .ref hea, .ref g3, .ref g4, .ref g5, .ref g6, .ref g7, .int (iI 0), .int (iI 0), .int (iI 0), .int (iI (-1)), .int (iI (-1)), .int (iI 0)])), (hn, .inr (2, [.ref xa1, .ref xa2, .ref xa3, .ref xa5, .ref xa8, .int (iI 0), .int (iI 0), .int (iI 0)])), (xa3, .inr (7, [.int (iI 0), .int (iI 0), .int (iI 0), .long (lI 0), .int (iI 0), .int (iI 0), .int (iI 0), .long (lI 0), .long (lI 0), .long (lI 0), .long (lI 0), .long (lI 0), .int (iI 0), .int (iI 0), .int (iI 0), .int (iI 0), .ref xa4]))] H := hP
  have hD : va_D A [(h0, .inr (10, [.ref hn, .ref g1, .ref g2, .ref hea, .ref g3, .ref g4, .ref g5, .ref g6, .ref g7, .int (iI 0), .int (iI 0), .int (iI 0), .int (iI (-1)), .int (iI (-1)), .int (iI 0)])), (hn, .inr (2, [.ref xa1, .ref xa2, .ref xa3, .ref xa5, .ref xa8, .int (iI 0), .int (iI 0), .int (iI 0)])), (xa3, .inr (7, [.int (iI 0), .int (iI 0), .int (iI 0), .long (lI 0), .int (iI 0), .int (iI 0), .int (iI 0), .long (lI 0), .long (lI 0), .long (lI 0), .long (lI 0), .long (lI 0), .int (iI 0), .int (iI 0), .int (iI 0), .int (iI 0), .ref xa4]))] := hD
  refine q_if_ne (tgt := 18) hx hb dX10_installmentFor_7 (by decide) (by omega) (fun _ => ?_) (fun q => absurd q (by omega))
  refine lv_aload_n hx hb dX10_installmentFor_18 rfl (lv_at hl 0 rfl) ?_
  refine va_get (D := (dC, dI)) (ci := 10) (v := .ref hn) (C := RX10) (T := TX10) (N := 15) hx hb hts (fun _ h => List.mem_cons_of_mem _ (inlX10 _ h)) hown hK hP 0 rfl rfl 0 (by decide) (hts (.fieldLink RX10 10 "LoanServicing" "now" "LLoanServicing$Account;") (List.mem_cons_of_mem _ (wl_1 (List.mem_of_getElem? (i := 17) rfl)))) (fun _ h9 => h9) rfl dX10_installmentFor_19 ?_
  refine va_getN (D := (dC, dI)) (ci := 2) (v := .ref xa3) (C := RX0) (T := TX0) (N := 8) hx hb hts (fun _ h => List.mem_cons_of_mem _ (inlX0 _ h)) hown hK hP 1 rfl rfl 2 (by decide) (va_Nw.use rfl (hNw _ (List.mem_of_getElem? (i := 26) rfl))) (fun _ h9 => h9) rfl dX10_installmentFor_22 ?_
  refine va_getN (D := (dC, dI)) (ci := 7) (v := .int (iI 0)) (C := RX6) (T := TX6) (N := 17) hx hb hts (fun _ h => List.mem_cons_of_mem _ (inlX6 _ h)) hown hK hP 2 rfl rfl 12 (by decide) (va_Nw.use rfl (hNw _ (List.mem_of_getElem? (i := 2) rfl))) (fun _ h9 => h9) rfl dX10_installmentFor_25 ?_
  refine q_if_gt (tgt := 39) hx hb dX10_installmentFor_28 (by decide) (by omega) (fun q => absurd q (by omega)) (fun _ => ?_)
  have hat : ∀ w ∈ vx_at0 RX10 203 "java/lang/IllegalStateException" ["java/lang/RuntimeException", "java/lang/Exception"], w.before ([.ref h0, .int (iI xv)] : List Value).toArray s = true := vx_hat (B := [.declares ⟨"java/lang/RuntimeException", "<init>", "()V"⟩, .declares ⟨"java/lang/Exception", "<init>", "()V"⟩, .declares ⟨"java/lang/Throwable", "<init>", "()V"⟩, .castable "java/lang/IllegalStateException" "java/lang/IllegalStateException"]) (fun w hw => hts w (List.mem_cons_of_mem _ (List.mem_append_left _ (List.mem_append_left _ (List.mem_append_left _ (List.mem_append_left _ (List.mem_append_right _ hw))))))) (by decide +kernel) (vx_c (va_Nw.use rfl (hNw _ (List.mem_of_getElem? (i := 64) rfl))) (vx_c (va_Nw.use rfl (hNw _ (List.mem_of_getElem? (i := 62) rfl))) (vx_c (va_Nw.use rfl (hNw _ (List.mem_of_getElem? (i := 65) rfl))) (vx_c (va_Nw.use rfl (hNw _ (List.mem_of_getElem? (i := 67) rfl))) vx_n))))
  rw [hQ]
  exact vx_throw0 hx hb hl0 (own := RX10) (cls := "java/lang/IllegalStateException") (names := ["java/lang/RuntimeException", "java/lang/Exception"]) hown (by decide) (by decide) (hts (.classLink RX10 201 "java/lang/IllegalStateException") (List.mem_cons_of_mem _ (wl_17 (List.mem_of_getElem? (i := 13) rfl)))) (hts (.initialized "java/lang/IllegalStateException") (List.mem_cons_of_mem _ (wl_17 (List.mem_of_getElem? (i := 14) rfl)))) hat (by decide +kernel) hZs.2.2.1 hZs.2.2.2 hS (hl.1.trans hml.symm) dX10_installmentFor_31 dX10_installmentFor_34 dX10_installmentFor_35 dX10_installmentFor_38 (fun x hx => (htab x hx).elim) (Nat.le_of_ble_eq_true rfl) (Nat.le_of_ble_eq_true rfl) (Nat.le_of_ble_eq_true rfl) (Nat.le_of_ble_eq_true rfl) hlocks (fun t ht hz hq => XE_of hAe hS hz hq) hS.2.2 (Nat.le_of_ble_eq_true rfl) (Nat.le_of_ble_eq_true rfl)
set_option maxHeartbeats 4000000 in
set_option maxRecDepth 100000 in
/-- errorPosition -/
theorem c_X10_errorPosition (l : Launch) (hl0 : l.stackTraces = false) (dC : Nat → ClassId) (dI : Nat → Nat → Nat) (k : Nat → ClassId) (h0 hn g1 g2 hea g3 g4 g5 g6 g7 xa1 xa2 xa3 xa4 xa5 xa6 xa7 xa8 xa9 xa10 xa11 : Nat) (sz : Nat) : vx_Met l yX10_errorPosition woX10_errorPosition ({ frames := 6, cells := 1, slots := 6, locals := 81 } : Room) (PcW (dC, dI) k [.ref h0] [(h0, .inr (10, [.ref hn, .ref g1, .ref g2, .ref hea, .ref g3, .ref g4, .ref g5, .ref g6, .ref g7, .int (iI 0), .int (iI 0), .int (iI 0), .int (iI (-1)), .int (iI (-1)), .int (iI 0)]))] sz) (va_Qi (fun (_ : Int32) (_ : Unit) => False) (fun _ _ => True) (va_A [(h0, .inr (10, [.ref hn, .ref g1, .ref g2, .ref hea, .ref g3, .ref g4, .ref g5, .ref g6, .ref g7, .int (iI 0), .int (iI 0), .int (iI 0), .int (iI (-1)), .int (iI (-1)), .int (iI 0)]))] sz)) (XE "java/util/NoSuchElementException" [(h0, .inr (10, [.ref hn, .ref g1, .ref g2, .ref hea, .ref g3, .ref g4, .ref g5, .ref g6, .ref g7, .int (iI 0), .int (iI 0), .int (iI 0), .int (iI (-1)), .int (iI (-1)), .int (iI 0)]))] sz) 1 6 (va_A [(h0, .inr (10, [.ref hn, .ref g1, .ref g2, .ref hea, .ref g3, .ref g4, .ref g5, .ref g6, .ref g7, .int (iI 0), .int (iI 0), .int (iI 0), .int (iI (-1)), .int (iI (-1)), .int (iI 0)]))] sz) := by
  refine vx_ofW (cc := cX10_errorPosition) (maxL := 1) (ret := (some .int)) (by decide) rfl ?_
  intro p e s mI args below meth cO s₁ B hml htab hv
  obtain ⟨rfl, rfl, hP, hD0, hE⟩ := hv
  have hx := B.exec
  have hb := B.bytes
  have hr := B.returns
  have hts := atoms_spec (ws := woX10_errorPosition) B.pre
  have hown : s.vm.findClass RX10 = some mI.cls := findClass_of_methodNamed B.named
  have hlocks := B.notSynchronized
  have hD := hD0.self (sz := s.heap.size)
  generalize hAe : va_A [(h0, .inr (10, [.ref hn, .ref g1, .ref g2, .ref hea, .ref g3, .ref g4, .ref g5, .ref g6, .ref g7, .int (iI 0), .int (iI 0), .int (iI 0), .int (iI (-1)), .int (iI (-1)), .int (iI 0)]))] s.heap.size = A at hD hE ⊢
  have hA : ∀ q : Nat, s.heap.size ≤ q → A q := fun q h => by rw [← hAe]; exact Or.inr h
  have hS : va_S A s.heap s.heap [] := va_S.rf
  obtain ⟨hK, hNw, hNc, hZs, hAO1, hAO2⟩ := id hE
  have hSF : CallFix p mI cO cX10_errorPosition 1 s ([.ref h0] : List Value).toArray woX10_errorPosition RX10 := ⟨hx, hb, hml, hown, hts⟩
  have hl := lv_entry ([.ref h0] : List Value) (n := 1) (Nat.le_of_ble_eq_true rfl)
  rw [lg_entry_eq]
  generalize (lg_sl ([.ref h0] : List Value) ++ List.replicate (1 - (lg_sl ([.ref h0] : List Value)).length) Slot.unset).toArray = ls at hl ⊢
  have hl : lv_has ls 1 [(0, .ref h0)] := hl
  refine W_gen (fun Q hQ => ?_)
  change W p l e ({ frames := 6, cells := 1, slots := 6, locals := 81 } : Room) s mI _ below meth cO s.heap [] 0 0 Q _
  have hP : va_P (dC, dI) vwCl [(h0, .inr (10, [.ref hn, .ref g1, .ref g2, .ref hea, .ref g3, .ref g4, .ref g5, .ref g6, .ref g7, .int (iI 0), .int (iI 0), .int (iI 0), .int (iI (-1)), .int (iI (-1)), .int (iI 0)]))] s.heap := hP
  refine lv_aload_n hx hb dX10_errorPosition_0 rfl (lv_at hl 0 rfl) ?_
  refine va_get (D := (dC, dI)) (ci := 10) (v := .int (iI (-1))) (C := RX10) (T := TX10) (N := 15) hx hb hts (fun _ h => List.mem_cons_of_mem _ (inlX10 _ h)) hown hK hP 0 rfl rfl 12 (by decide) (hts (.fieldLink RX10 56 "LoanServicing" "malformedAt" "I") (List.mem_cons_of_mem _ (wl_2 (List.mem_of_getElem? (i := 12) rfl)))) (fun _ h9 => h9) rfl dX10_errorPosition_1 ?_
  refine q_if_ge (tgt := 15) hx hb dX10_errorPosition_4 (by decide) (by omega) (fun q => absurd q (by omega)) (fun _ => ?_)
  have hat : ∀ w ∈ vx_at0 RX10 263 "java/util/NoSuchElementException" ["java/lang/RuntimeException", "java/lang/Exception"], w.before ([.ref h0] : List Value).toArray s = true := vx_hat (B := [.declares ⟨"java/lang/RuntimeException", "<init>", "()V"⟩, .declares ⟨"java/lang/Exception", "<init>", "()V"⟩, .declares ⟨"java/lang/Throwable", "<init>", "()V"⟩, .castable "java/util/NoSuchElementException" "java/util/NoSuchElementException"]) (fun w hw => hts w (List.mem_cons_of_mem _ (List.mem_append_right _ hw))) (by decide +kernel) (vx_c (va_Nw.use rfl (hNw _ (List.mem_of_getElem? (i := 64) rfl))) (vx_c (va_Nw.use rfl (hNw _ (List.mem_of_getElem? (i := 62) rfl))) (vx_c (va_Nw.use rfl (hNw _ (List.mem_of_getElem? (i := 65) rfl))) (vx_c (va_Nw.use rfl (hNw _ (List.mem_of_getElem? (i := 69) rfl))) vx_n))))
  rw [hQ]
  exact vx_throw0 hx hb hl0 (own := RX10) (cls := "java/util/NoSuchElementException") (names := ["java/lang/RuntimeException", "java/lang/Exception"]) hown (by decide) (by decide) (hts (.classLink RX10 261 "java/util/NoSuchElementException") (List.mem_cons_of_mem _ (wl_39 (List.mem_of_getElem? (i := 15) rfl)))) (hts (.initialized "java/util/NoSuchElementException") (List.mem_cons_of_mem _ (wl_39 (List.mem_of_getElem? (i := 16) rfl)))) hat (by decide +kernel) hZs.2.2.1 hZs.2.2.2 hS (hl.1.trans hml.symm) dX10_errorPosition_7 dX10_errorPosition_10 dX10_errorPosition_11 dX10_errorPosition_14 (fun x hx => (htab x hx).elim) (Nat.le_of_ble_eq_true rfl) (Nat.le_of_ble_eq_true rfl) (Nat.le_of_ble_eq_true rfl) (Nat.le_of_ble_eq_true rfl) hlocks (fun t ht hz hq => XE_of hAe hS hz hq) hS.2.2 (Nat.le_of_ble_eq_true rfl) (Nat.le_of_ble_eq_true rfl)
set_option maxHeartbeats 4000000 in
set_option maxRecDepth 100000 in
/-- refusedCommand -/
theorem c_X10_refusedCommand (l : Launch) (hl0 : l.stackTraces = false) (dC : Nat → ClassId) (dI : Nat → Nat → Nat) (k : Nat → ClassId) (h0 hn g1 g2 hea g3 g4 g5 g6 g7 xa1 xa2 xa3 xa4 xa5 xa6 xa7 xa8 xa9 xa10 xa11 : Nat) (xv : Int) (sz : Nat) : vx_Met l yX10_refusedCommand woX10_refusedCommand ({ frames := 6, cells := 1, slots := 6, locals := 81 } : Room) (PcW (dC, dI) k [.ref h0, .int (iI xv)] [(h0, .inr (10, [.ref hn, .ref g1, .ref g2, .ref hea, .ref g3, .ref g4, .ref g5, .ref g6, .ref g7, .int (iI 0), .int (iI 0), .int (iI 0), .int (iI (-1)), .int (iI (-1)), .int (iI 0)]))] sz) (va_Qi (fun (_ : Int32) (_ : Unit) => False) (fun _ _ => True) (va_A [(h0, .inr (10, [.ref hn, .ref g1, .ref g2, .ref hea, .ref g3, .ref g4, .ref g5, .ref g6, .ref g7, .int (iI 0), .int (iI 0), .int (iI 0), .int (iI (-1)), .int (iI (-1)), .int (iI 0)]))] sz)) (XE "java/util/NoSuchElementException" [(h0, .inr (10, [.ref hn, .ref g1, .ref g2, .ref hea, .ref g3, .ref g4, .ref g5, .ref g6, .ref g7, .int (iI 0), .int (iI 0), .int (iI 0), .int (iI (-1)), .int (iI (-1)), .int (iI 0)]))] sz) 1 6 (va_A [(h0, .inr (10, [.ref hn, .ref g1, .ref g2, .ref hea, .ref g3, .ref g4, .ref g5, .ref g6, .ref g7, .int (iI 0), .int (iI 0), .int (iI 0), .int (iI (-1)), .int (iI (-1)), .int (iI 0)]))] sz) := by
  refine vx_ofW (cc := cX10_refusedCommand) (maxL := 2) (ret := (some .int)) (by decide) rfl ?_
  intro p e s mI args below meth cO s₁ B hml htab hv
  obtain ⟨rfl, rfl, hP, hD0, hE⟩ := hv
  have hx := B.exec
  have hb := B.bytes
  have hr := B.returns
  have hts := atoms_spec (ws := woX10_refusedCommand) B.pre
  have hown : s.vm.findClass RX10 = some mI.cls := findClass_of_methodNamed B.named
  have hlocks := B.notSynchronized
  have hD := hD0.self (sz := s.heap.size)
  generalize hAe : va_A [(h0, .inr (10, [.ref hn, .ref g1, .ref g2, .ref hea, .ref g3, .ref g4, .ref g5, .ref g6, .ref g7, .int (iI 0), .int (iI 0), .int (iI 0), .int (iI (-1)), .int (iI (-1)), .int (iI 0)]))] s.heap.size = A at hD hE ⊢
  have hA : ∀ q : Nat, s.heap.size ≤ q → A q := fun q h => by rw [← hAe]; exact Or.inr h
  have hS : va_S A s.heap s.heap [] := va_S.rf
  obtain ⟨hK, hNw, hNc, hZs, hAO1, hAO2⟩ := id hE
  have hSF : CallFix p mI cO cX10_refusedCommand 2 s ([.ref h0, .int (iI xv)] : List Value).toArray woX10_refusedCommand RX10 := ⟨hx, hb, hml, hown, hts⟩
  have hl := lv_entry ([.ref h0, .int (iI xv)] : List Value) (n := 2) (Nat.le_of_ble_eq_true rfl)
  rw [lg_entry_eq]
  generalize (lg_sl ([.ref h0, .int (iI xv)] : List Value) ++ List.replicate (2 - (lg_sl ([.ref h0, .int (iI xv)] : List Value)).length) Slot.unset).toArray = ls at hl ⊢
  have hl : lv_has ls 2 [(0, .ref h0), (1, .int (iI xv))] := hl
  refine W_gen (fun Q hQ => ?_)
  change W p l e ({ frames := 6, cells := 1, slots := 6, locals := 81 } : Room) s mI _ below meth cO s.heap [] 0 0 Q _
  have hP : va_P (dC, dI) vwCl [(h0, .inr (10, [.ref hn, .ref g1, .ref g2, .ref hea, .ref g3, .ref g4, .ref g5, .ref g6, .ref g7, .int (iI 0), .int (iI 0), .int (iI 0), .int (iI (-1)), .int (iI (-1)), .int (iI 0)]))] s.heap := hP
  refine lv_aload_n hx hb dX10_refusedCommand_0 rfl (lv_at hl 0 rfl) ?_
  refine va_get (D := (dC, dI)) (ci := 10) (v := .int (iI (-1))) (C := RX10) (T := TX10) (N := 15) hx hb hts (fun _ h => List.mem_cons_of_mem _ (inlX10 _ h)) hown hK hP 0 rfl rfl 13 (by decide) (hts (.fieldLink RX10 60 "LoanServicing" "refusedNumber" "I") (List.mem_cons_of_mem _ (wl_2 (List.mem_of_getElem? (i := 13) rfl)))) (fun _ h9 => h9) rfl dX10_refusedCommand_1 ?_
  refine q_if_ge (tgt := 15) hx hb dX10_refusedCommand_4 (by decide) (by omega) (fun q => absurd q (by omega)) (fun _ => ?_)
  have hat : ∀ w ∈ vx_at0 RX10 263 "java/util/NoSuchElementException" ["java/lang/RuntimeException", "java/lang/Exception"], w.before ([.ref h0, .int (iI xv)] : List Value).toArray s = true := vx_hat (B := [.declares ⟨"java/lang/RuntimeException", "<init>", "()V"⟩, .declares ⟨"java/lang/Exception", "<init>", "()V"⟩, .declares ⟨"java/lang/Throwable", "<init>", "()V"⟩, .castable "java/util/NoSuchElementException" "java/util/NoSuchElementException"]) (fun w hw => hts w (List.mem_cons_of_mem _ (List.mem_append_right _ hw))) (by decide +kernel) (vx_c (va_Nw.use rfl (hNw _ (List.mem_of_getElem? (i := 64) rfl))) (vx_c (va_Nw.use rfl (hNw _ (List.mem_of_getElem? (i := 62) rfl))) (vx_c (va_Nw.use rfl (hNw _ (List.mem_of_getElem? (i := 65) rfl))) (vx_c (va_Nw.use rfl (hNw _ (List.mem_of_getElem? (i := 69) rfl))) vx_n))))
  rw [hQ]
  exact vx_throw0 hx hb hl0 (own := RX10) (cls := "java/util/NoSuchElementException") (names := ["java/lang/RuntimeException", "java/lang/Exception"]) hown (by decide) (by decide) (hts (.classLink RX10 261 "java/util/NoSuchElementException") (List.mem_cons_of_mem _ (wl_39 (List.mem_of_getElem? (i := 15) rfl)))) (hts (.initialized "java/util/NoSuchElementException") (List.mem_cons_of_mem _ (wl_39 (List.mem_of_getElem? (i := 16) rfl)))) hat (by decide +kernel) hZs.2.2.1 hZs.2.2.2 hS (hl.1.trans hml.symm) dX10_refusedCommand_7 dX10_refusedCommand_10 dX10_refusedCommand_11 dX10_refusedCommand_14 (fun x hx => (htab x hx).elim) (Nat.le_of_ble_eq_true rfl) (Nat.le_of_ble_eq_true rfl) (Nat.le_of_ble_eq_true rfl) (Nat.le_of_ble_eq_true rfl) hlocks (fun t ht hz hq => XE_of hAe hS hz hq) hS.2.2 (Nat.le_of_ble_eq_true rfl) (Nat.le_of_ble_eq_true rfl)
set_option maxHeartbeats 4000000 in
set_option maxRecDepth 100000 in
/-- ledgerSize -/
theorem c_X10_ledgerSize (l : Launch) (dC : Nat → ClassId) (dI : Nat → Nat → Nat) (k : Nat → ClassId) (h0 hn g1 g2 hea g3 g4 g5 g6 g7 xa1 xa2 xa3 xa4 xa5 xa6 xa7 xa8 xa9 xa10 xa11 : Nat) (sz : Nat) : Met l yX10_ledgerSize woX10_ledgerSize ({ frames := 0, cells := 0, slots := 0, locals := 0 } : Room) (PcW (dC, dI) k [.ref h0] [(h0, .inr (10, [.ref hn, .ref g1, .ref g2, .ref hea, .ref g3, .ref g4, .ref g5, .ref g6, .ref g7, .int (iI 0), .int (iI 0), .int (iI 0), .int (iI (-1)), .int (iI (-1)), .int (iI 0)])), (hn, .inr (2, [.ref xa1, .ref xa2, .ref xa3, .ref xa5, .ref xa8, .int (iI 0), .int (iI 0), .int (iI 0)])), (xa8, .inr (6, [.ref xa9, .ref xa10, .ref xa11, .int (iI 0), .int (iI 0)]))] sz) (va_Qi (fun (r : Int32) (_ : Unit) => r = iI 0) (QB (dC, dI) [(h0, .inr (10, [.ref hn, .ref g1, .ref g2, .ref hea, .ref g3, .ref g4, .ref g5, .ref g6, .ref g7, .int (iI 0), .int (iI 0), .int (iI 0), .int (iI (-1)), .int (iI (-1)), .int (iI 0)])), (hn, .inr (2, [.ref xa1, .ref xa2, .ref xa3, .ref xa5, .ref xa8, .int (iI 0), .int (iI 0), .int (iI 0)])), (xa8, .inr (6, [.ref xa9, .ref xa10, .ref xa11, .int (iI 0), .int (iI 0)]))] (fun _ => []) sz) (va_A [(h0, .inr (10, [.ref hn, .ref g1, .ref g2, .ref hea, .ref g3, .ref g4, .ref g5, .ref g6, .ref g7, .int (iI 0), .int (iI 0), .int (iI 0), .int (iI (-1)), .int (iI (-1)), .int (iI 0)])), (hn, .inr (2, [.ref xa1, .ref xa2, .ref xa3, .ref xa5, .ref xa8, .int (iI 0), .int (iI 0), .int (iI 0)])), (xa8, .inr (6, [.ref xa9, .ref xa10, .ref xa11, .int (iI 0), .int (iI 0)]))] sz)) 0 0 (va_A [(h0, .inr (10, [.ref hn, .ref g1, .ref g2, .ref hea, .ref g3, .ref g4, .ref g5, .ref g6, .ref g7, .int (iI 0), .int (iI 0), .int (iI 0), .int (iI (-1)), .int (iI (-1)), .int (iI 0)])), (hn, .inr (2, [.ref xa1, .ref xa2, .ref xa3, .ref xa5, .ref xa8, .int (iI 0), .int (iI 0), .int (iI 0)])), (xa8, .inr (6, [.ref xa9, .ref xa10, .ref xa11, .int (iI 0), .int (iI 0)]))] sz) := by
  refine Met.ofW (cc := cX10_ledgerSize) (maxL := 1) (ret := (some .int)) (by decide) rfl ?_
  intro p e s mI args below meth cO s₁ B hml hv
  obtain ⟨rfl, rfl, hP, hD0, hE⟩ := hv
  have hx := B.exec
  have hb := B.bytes
  have hr := B.returns
  have hts := atoms_spec (ws := woX10_ledgerSize) B.pre
  have hown : s.vm.findClass RX10 = some mI.cls := findClass_of_methodNamed B.named
  have hlocks := B.notSynchronized
  have hD := hD0.self (sz := s.heap.size)
  generalize hAe : va_A [(h0, .inr (10, [.ref hn, .ref g1, .ref g2, .ref hea, .ref g3, .ref g4, .ref g5, .ref g6, .ref g7, .int (iI 0), .int (iI 0), .int (iI 0), .int (iI (-1)), .int (iI (-1)), .int (iI 0)])), (hn, .inr (2, [.ref xa1, .ref xa2, .ref xa3, .ref xa5, .ref xa8, .int (iI 0), .int (iI 0), .int (iI 0)])), (xa8, .inr (6, [.ref xa9, .ref xa10, .ref xa11, .int (iI 0), .int (iI 0)]))] s.heap.size = A at hD hE ⊢
  have hA : ∀ q : Nat, s.heap.size ≤ q → A q := fun q h => by rw [← hAe]; exact Or.inr h
  have hS : va_S A s.heap s.heap [] := va_S.rf
  obtain ⟨hK, hNw, hNc, hZs, hAO1, hAO2⟩ := id hE
  have hSF : CallFix p mI cO cX10_ledgerSize 1 s ([.ref h0] : List Value).toArray woX10_ledgerSize RX10 := ⟨hx, hb, hml, hown, hts⟩
  have hl := lv_entry ([.ref h0] : List Value) (n := 1) (Nat.le_of_ble_eq_true rfl)
  rw [lg_entry_eq]
  generalize (lg_sl ([.ref h0] : List Value) ++ List.replicate (1 - (lg_sl ([.ref h0] : List Value)).length) Slot.unset).toArray = ls at hl ⊢
  have hl : lv_has ls 1 [(0, .ref h0)] := hl
  refine W_gen (fun Q hQ => ?_)
  change W p l e ({ frames := 0, cells := 0, slots := 0, locals := 0 } : Room) s mI _ below meth cO s.heap [] 0 0 Q _
  have hP : va_P (dC, dI) vwCl [(h0, .inr (10, [.ref hn, .ref g1, .ref g2, .ref hea, .ref g3, .ref g4, .ref g5, .ref g6, .ref g7, .int (iI 0), .int (iI 0), .int (iI 0), .int (iI (-1)), .int (iI (-1)), .int (iI 0)])), (hn, .inr (2, [.ref xa1, .ref xa2, .ref xa3, .ref xa5, .ref xa8, .int (iI 0), .int (iI 0), .int (iI 0)])), (xa8, .inr (6, [.ref xa9, .ref xa10, .ref xa11, .int (iI 0), .int (iI 0)]))] s.heap := hP
  refine lv_aload_n hx hb dX10_ledgerSize_0 rfl (lv_at hl 0 rfl) ?_
  refine va_get (D := (dC, dI)) (ci := 10) (v := .ref hn) (C := RX10) (T := TX10) (N := 15) hx hb hts (fun _ h => List.mem_cons_of_mem _ (inlX10 _ h)) hown hK hP 0 rfl rfl 0 (by decide) (hts (.fieldLink RX10 10 "LoanServicing" "now" "LLoanServicing$Account;") (List.mem_cons_of_mem _ (wl_1 (List.mem_of_getElem? (i := 17) rfl)))) (fun _ h9 => h9) rfl dX10_ledgerSize_1 ?_
  refine va_getN (D := (dC, dI)) (ci := 2) (v := .ref xa8) (C := RX0) (T := TX0) (N := 8) hx hb hts (fun _ h => List.mem_cons_of_mem _ (inlX0 _ h)) hown hK hP 1 rfl rfl 4 (by decide) (va_Nw.use rfl (hNw _ (List.mem_of_getElem? (i := 14) rfl))) (fun _ h9 => h9) rfl dX10_ledgerSize_4 ?_
  refine va_getN (D := (dC, dI)) (ci := 6) (v := .int (iI 0)) (C := RX5) (T := TX5) (N := 5) hx hb hts (fun _ h => List.mem_cons_of_mem _ (inlX5 _ h)) hown hK hP 2 rfl rfl 4 (by decide) (va_Nw.use rfl (hNw _ (List.mem_of_getElem? (i := 15) rfl))) (fun _ h9 => h9) rfl dX10_ledgerSize_7 ?_
  rw [hQ]
  refine W.widen (k := 0) (n := 0) (Nat.le_of_ble_eq_true rfl) (Nat.le_of_ble_eq_true rfl) ?_
  exact W.iret (v := (iI 0)) hx hb hr (fun t ht hW => ⟨⟨(iI 0), (), rfl, rfl, by rw [ht]; exact hP.sub [] rfl, by rw [hAe]; exact hD.sub [] (by decide) rfl⟩, hS.F ht⟩) hS.2.2 dX10_ledgerSize_10
set_option maxHeartbeats 4000000 in
set_option maxRecDepth 100000 in
/-- ledger -/
theorem c_X10_ledger (l : Launch) (hl0 : l.stackTraces = false) (dC : Nat → ClassId) (dI : Nat → Nat → Nat) (k : Nat → ClassId) (h0 hn g1 g2 hea g3 g4 g5 g6 g7 xa1 xa2 xa3 xa4 xa5 xa6 xa7 xa8 xa9 xa10 xa11 : Nat) (xv xw9 : Int) (hv9 : -2147483648 ≤ xv ∧ xv ≤ 2147483647 ∧ -2147483648 ≤ xw9 ∧ xw9 ≤ 2147483647) (sz : Nat) : vx_Met l yX10_ledger woX10_ledger ({ frames := 6, cells := 1, slots := 6, locals := 81 } : Room) (PcW (dC, dI) k [.ref h0, .int (iI xv), .int (iI xw9)] [(h0, .inr (10, [.ref hn, .ref g1, .ref g2, .ref hea, .ref g3, .ref g4, .ref g5, .ref g6, .ref g7, .int (iI 0), .int (iI 0), .int (iI 0), .int (iI (-1)), .int (iI (-1)), .int (iI 0)])), (hn, .inr (2, [.ref xa1, .ref xa2, .ref xa3, .ref xa5, .ref xa8, .int (iI 0), .int (iI 0), .int (iI 0)])), (xa8, .inr (6, [.ref xa9, .ref xa10, .ref xa11, .int (iI 0), .int (iI 0)]))] sz) (va_Qi (fun (_ : Int32) (_ : Unit) => False) (fun _ _ => True) (va_A [(h0, .inr (10, [.ref hn, .ref g1, .ref g2, .ref hea, .ref g3, .ref g4, .ref g5, .ref g6, .ref g7, .int (iI 0), .int (iI 0), .int (iI 0), .int (iI (-1)), .int (iI (-1)), .int (iI 0)])), (hn, .inr (2, [.ref xa1, .ref xa2, .ref xa3, .ref xa5, .ref xa8, .int (iI 0), .int (iI 0), .int (iI 0)])), (xa8, .inr (6, [.ref xa9, .ref xa10, .ref xa11, .int (iI 0), .int (iI 0)]))] sz)) (XE "java/lang/IndexOutOfBoundsException" [(h0, .inr (10, [.ref hn, .ref g1, .ref g2, .ref hea, .ref g3, .ref g4, .ref g5, .ref g6, .ref g7, .int (iI 0), .int (iI 0), .int (iI 0), .int (iI (-1)), .int (iI (-1)), .int (iI 0)])), (hn, .inr (2, [.ref xa1, .ref xa2, .ref xa3, .ref xa5, .ref xa8, .int (iI 0), .int (iI 0), .int (iI 0)])), (xa8, .inr (6, [.ref xa9, .ref xa10, .ref xa11, .int (iI 0), .int (iI 0)]))] sz) 1 6 (va_A [(h0, .inr (10, [.ref hn, .ref g1, .ref g2, .ref hea, .ref g3, .ref g4, .ref g5, .ref g6, .ref g7, .int (iI 0), .int (iI 0), .int (iI 0), .int (iI (-1)), .int (iI (-1)), .int (iI 0)])), (hn, .inr (2, [.ref xa1, .ref xa2, .ref xa3, .ref xa5, .ref xa8, .int (iI 0), .int (iI 0), .int (iI 0)])), (xa8, .inr (6, [.ref xa9, .ref xa10, .ref xa11, .int (iI 0), .int (iI 0)]))] sz) := by
  refine vx_ofW (cc := cX10_ledger) (maxL := 3) (ret := (some .int)) (by decide) rfl ?_
  intro p e s mI args below meth cO s₁ B hml htab hv
  obtain ⟨rfl, rfl, hP, hD0, hE⟩ := hv
  have hx := B.exec
  have hb := B.bytes
  have hr := B.returns
  have hts := atoms_spec (ws := woX10_ledger) B.pre
  have hown : s.vm.findClass RX10 = some mI.cls := findClass_of_methodNamed B.named
  have hlocks := B.notSynchronized
  have hD := hD0.self (sz := s.heap.size)
  generalize hAe : va_A [(h0, .inr (10, [.ref hn, .ref g1, .ref g2, .ref hea, .ref g3, .ref g4, .ref g5, .ref g6, .ref g7, .int (iI 0), .int (iI 0), .int (iI 0), .int (iI (-1)), .int (iI (-1)), .int (iI 0)])), (hn, .inr (2, [.ref xa1, .ref xa2, .ref xa3, .ref xa5, .ref xa8, .int (iI 0), .int (iI 0), .int (iI 0)])), (xa8, .inr (6, [.ref xa9, .ref xa10, .ref xa11, .int (iI 0), .int (iI 0)]))] s.heap.size = A at hD hE ⊢
  have hA : ∀ q : Nat, s.heap.size ≤ q → A q := fun q h => by rw [← hAe]; exact Or.inr h
  have hS : va_S A s.heap s.heap [] := va_S.rf
  obtain ⟨hK, hNw, hNc, hZs, hAO1, hAO2⟩ := id hE
  have hSF : CallFix p mI cO cX10_ledger 3 s ([.ref h0, .int (iI xv), .int (iI xw9)] : List Value).toArray woX10_ledger RX10 := ⟨hx, hb, hml, hown, hts⟩
  have hl := lv_entry ([.ref h0, .int (iI xv), .int (iI xw9)] : List Value) (n := 3) (Nat.le_of_ble_eq_true rfl)
  rw [lg_entry_eq]
  generalize (lg_sl ([.ref h0, .int (iI xv), .int (iI xw9)] : List Value) ++ List.replicate (3 - (lg_sl ([.ref h0, .int (iI xv), .int (iI xw9)] : List Value)).length) Slot.unset).toArray = ls at hl ⊢
  have hl : lv_has ls 3 [(0, .ref h0), (1, .int (iI xv)), (2, .int (iI xw9))] := hl
  refine W_gen (fun Q hQ => ?_)
  change W p l e ({ frames := 6, cells := 1, slots := 6, locals := 81 } : Room) s mI _ below meth cO s.heap [] 0 0 Q _
  have hP : va_P (dC, dI) vwCl [(h0, .inr (10, [.ref hn, .ref g1, .ref g2, .ref hea, .ref g3, .ref g4, .ref g5, .ref g6, .ref g7, .int (iI 0), .int (iI 0), .int (iI 0), .int (iI (-1)), .int (iI (-1)), .int (iI 0)])), (hn, .inr (2, [.ref xa1, .ref xa2, .ref xa3, .ref xa5, .ref xa8, .int (iI 0), .int (iI 0), .int (iI 0)])), (xa8, .inr (6, [.ref xa9, .ref xa10, .ref xa11, .int (iI 0), .int (iI 0)]))] s.heap := hP
  refine lv_iload_n hx hb dX10_ledger_0 rfl (lv_at hl 1 rfl) ?_
  refine q_iconst hx hb dX10_ledger_1 ?_
  refine lv_aload_n hx hb dX10_ledger_2 rfl (lv_at hl 0 rfl) ?_
  refine va_get (D := (dC, dI)) (ci := 10) (v := .ref hn) (C := RX10) (T := TX10) (N := 15) hx hb hts (fun _ h => List.mem_cons_of_mem _ (inlX10 _ h)) hown hK hP 0 rfl rfl 0 (by decide) (hts (.fieldLink RX10 10 "LoanServicing" "now" "LLoanServicing$Account;") (List.mem_cons_of_mem _ (wl_1 (List.mem_of_getElem? (i := 17) rfl)))) (fun _ h9 => h9) rfl dX10_ledger_3 ?_
  refine va_getN (D := (dC, dI)) (ci := 2) (v := .ref xa8) (C := RX0) (T := TX0) (N := 8) hx hb hts (fun _ h => List.mem_cons_of_mem _ (inlX0 _ h)) hown hK hP 1 rfl rfl 4 (by decide) (va_Nw.use rfl (hNw _ (List.mem_of_getElem? (i := 14) rfl))) (fun _ h9 => h9) rfl dX10_ledger_6 ?_
  refine va_getN (D := (dC, dI)) (ci := 6) (v := .int (iI 0)) (C := RX5) (T := TX5) (N := 5) hx hb hts (fun _ h => List.mem_cons_of_mem _ (inlX5 _ h)) hown hK hP 2 rfl rfl 4 (by decide) (va_Nw.use rfl (hNw _ (List.mem_of_getElem? (i := 15) rfl))) (fun _ h9 => h9) rfl dX10_ledger_9 ?_
  refine q_iconst hx hb dX10_ledger_12 ?_
  refine q_isub (z := (-1)) hx hb dX10_ledger_13 (by omega) ?_
  refine ki (va_runS (As := [.int (iI xv), .int (iI 0), .int (iI (-1))]) (rest := []) hSF ((c_X10_isWithin l dC dI k xv 0 (-1) (by omega)) s.heap.size) (va_cwS 3 hts gX10_ledger_X10_isWithin rfl rfl rfl (by decide +kernel) ⟨Nat.le_of_ble_eq_true rfl, Nat.le_of_ble_eq_true rfl⟩) (preS hP hD hE hS hA [] rfl (by decide)) rfl rfl hl.1 rfl (lv_room (Nat.le_of_ble_eq_true rfl)) dX10_ledger_14 ⟨Nat.le_of_ble_eq_true rfl, Nat.le_of_ble_eq_true rfl⟩) hP hD hS hA [] [0, 1, 2] rfl (wr := [(h0, .inr (10, [.ref hn, .ref g1, .ref g2, .ref hea, .ref g3, .ref g4, .ref g5, .ref g6, .ref g7, .int (iI 0), .int (iI 0), .int (iI 0), .int (iI (-1)), .int (iI (-1)), .int (iI 0)])), (hn, .inr (2, [.ref xa1, .ref xa2, .ref xa3, .ref xa5, .ref xa8, .int (iI 0), .int (iI 0), .int (iI 0)])), (xa8, .inr (6, [.ref xa9, .ref xa10, .ref xa11, .int (iI 0), .int (iI 0)]))]) rfl (by decide) (by decide) (fun r14 _ H locs hw hP hD hS => ?_)
  obtain rfl : r14 = iI 0 := hw.trans (by rw [wi0 (by omega)])
  have hP : va_P (dC, dI) vwCl [(h0, .inr (10, [.ref hn, .ref g1, .ref g2, .ref hea, .ref g3, .ref g4, .ref g5, .ref g6, .ref g7, .int (iI 0), .int (iI 0), .int (iI 0), .int (iI (-1)), .int (iI (-1)), .int (iI 0)])), (hn, .inr (2, [.ref xa1, .ref xa2, .ref xa3, .ref xa5, .ref xa8, .int (iI 0), .int (iI 0), .int (iI 0)])), (xa8, .inr (6, [.ref xa9, .ref xa10, .ref xa11, .int (iI 0), .int (iI 0)]))] H := hP
  have hD : va_D A [(h0, .inr (10, [.ref hn, .ref g1, .ref g2, .ref hea, .ref g3, .ref g4, .ref g5, .ref g6, .ref g7, .int (iI 0), .int (iI 0), .int (iI 0), .int (iI (-1)), .int (iI (-1)), .int (iI 0)])), (hn, .inr (2, [.ref xa1, .ref xa2, .ref xa3, .ref xa5, .ref xa8, .int (iI 0), .int (iI 0), .int (iI 0)])), (xa8, .inr (6, [.ref xa9, .ref xa10, .ref xa11, .int (iI 0), .int (iI 0)]))] := hD
  refine q_if_eq (tgt := 29) hx hb dX10_ledger_17 (by decide) (by omega) (fun _ => ?_) (fun q => absurd q (by omega))
  have hat : ∀ w ∈ vx_at0 RX10 120 "java/lang/IndexOutOfBoundsException" ["java/lang/RuntimeException", "java/lang/Exception"], w.before ([.ref h0, .int (iI xv), .int (iI xw9)] : List Value).toArray s = true := vx_hat (B := [.declares ⟨"java/lang/RuntimeException", "<init>", "()V"⟩, .declares ⟨"java/lang/Exception", "<init>", "()V"⟩, .declares ⟨"java/lang/Throwable", "<init>", "()V"⟩, .castable "java/lang/IndexOutOfBoundsException" "java/lang/IndexOutOfBoundsException"]) (fun w hw => hts w (List.mem_cons_of_mem _ (List.mem_append_left _ (List.mem_append_left _ (List.mem_append_right _ hw))))) (by decide +kernel) (vx_c (va_Nw.use rfl (hNw _ (List.mem_of_getElem? (i := 64) rfl))) (vx_c (va_Nw.use rfl (hNw _ (List.mem_of_getElem? (i := 62) rfl))) (vx_c (va_Nw.use rfl (hNw _ (List.mem_of_getElem? (i := 65) rfl))) (vx_c (va_Nw.use rfl (hNw _ (List.mem_of_getElem? (i := 68) rfl))) vx_n))))
  rw [hQ]
  exact vx_throw0 hx hb hl0 (own := RX10) (cls := "java/lang/IndexOutOfBoundsException") (names := ["java/lang/RuntimeException", "java/lang/Exception"]) hown (by decide) (by decide) (hts (.classLink RX10 118 "java/lang/IndexOutOfBoundsException") (List.mem_cons_of_mem _ (wl_25 (List.mem_of_getElem? (i := 4) rfl)))) (hts (.initialized "java/lang/IndexOutOfBoundsException") (List.mem_cons_of_mem _ (wl_25 (List.mem_of_getElem? (i := 5) rfl)))) hat (by decide +kernel) hZs.2.2.1 hZs.2.2.2 hS (hl.1.trans hml.symm) dX10_ledger_29 dX10_ledger_32 dX10_ledger_33 dX10_ledger_36 (fun x hx => (htab x hx).elim) (Nat.le_of_ble_eq_true rfl) (Nat.le_of_ble_eq_true rfl) (Nat.le_of_ble_eq_true rfl) (Nat.le_of_ble_eq_true rfl) hlocks (fun t ht hz hq => XE_of hAe hS hz hq) hS.2.2 (Nat.le_of_ble_eq_true rfl) (Nat.le_of_ble_eq_true rfl)
set_option maxHeartbeats 4000000 in
set_option maxRecDepth 100000 in
/-- undo -/
theorem c_X10_undo (l : Launch) (hl0 : l.stackTraces = false) (dC : Nat → ClassId) (dI : Nat → Nat → Nat) (k : Nat → ClassId) (h0 hn g1 g2 hea g3 g4 g5 g6 g7 xa1 xa2 xa3 xa4 xa5 xa6 xa7 xa8 xa9 xa10 xa11 : Nat) (sz : Nat) : vx_Met l yX10_undo woX10_undo ({ frames := 6, cells := 1, slots := 6, locals := 81 } : Room) (PcW (dC, dI) k [.ref h0] [(h0, .inr (10, [.ref hn, .ref g1, .ref g2, .ref hea, .ref g3, .ref g4, .ref g5, .ref g6, .ref g7, .int (iI 0), .int (iI 0), .int (iI 0), .int (iI (-1)), .int (iI (-1)), .int (iI 0)]))] sz) (va_Qi (fun (_ : Int32) (_ : Unit) => False) (fun _ _ => True) (va_A [(h0, .inr (10, [.ref hn, .ref g1, .ref g2, .ref hea, .ref g3, .ref g4, .ref g5, .ref g6, .ref g7, .int (iI 0), .int (iI 0), .int (iI 0), .int (iI (-1)), .int (iI (-1)), .int (iI 0)]))] sz)) (XE "java/lang/IllegalStateException" [(h0, .inr (10, [.ref hn, .ref g1, .ref g2, .ref hea, .ref g3, .ref g4, .ref g5, .ref g6, .ref g7, .int (iI 0), .int (iI 0), .int (iI 0), .int (iI (-1)), .int (iI (-1)), .int (iI 0)]))] sz) 1 6 (va_A [(h0, .inr (10, [.ref hn, .ref g1, .ref g2, .ref hea, .ref g3, .ref g4, .ref g5, .ref g6, .ref g7, .int (iI 0), .int (iI 0), .int (iI 0), .int (iI (-1)), .int (iI (-1)), .int (iI 0)]))] sz) := by
  refine vx_ofW (cc := cX10_undo) (maxL := 2) (ret := (some .int)) (by decide) rfl ?_
  intro p e s mI args below meth cO s₁ B hml htab hv
  obtain ⟨rfl, rfl, hP, hD0, hE⟩ := hv
  have hx := B.exec
  have hb := B.bytes
  have hr := B.returns
  have hts := atoms_spec (ws := woX10_undo) B.pre
  have hown : s.vm.findClass RX10 = some mI.cls := findClass_of_methodNamed B.named
  have hlocks := B.notSynchronized
  have hD := hD0.self (sz := s.heap.size)
  generalize hAe : va_A [(h0, .inr (10, [.ref hn, .ref g1, .ref g2, .ref hea, .ref g3, .ref g4, .ref g5, .ref g6, .ref g7, .int (iI 0), .int (iI 0), .int (iI 0), .int (iI (-1)), .int (iI (-1)), .int (iI 0)]))] s.heap.size = A at hD hE ⊢
  have hA : ∀ q : Nat, s.heap.size ≤ q → A q := fun q h => by rw [← hAe]; exact Or.inr h
  have hS : va_S A s.heap s.heap [] := va_S.rf
  obtain ⟨hK, hNw, hNc, hZs, hAO1, hAO2⟩ := id hE
  have hSF : CallFix p mI cO cX10_undo 2 s ([.ref h0] : List Value).toArray woX10_undo RX10 := ⟨hx, hb, hml, hown, hts⟩
  have hl := lv_entry ([.ref h0] : List Value) (n := 2) (Nat.le_of_ble_eq_true rfl)
  rw [lg_entry_eq]
  generalize (lg_sl ([.ref h0] : List Value) ++ List.replicate (2 - (lg_sl ([.ref h0] : List Value)).length) Slot.unset).toArray = ls at hl ⊢
  have hl : lv_has ls 2 [(0, .ref h0)] := hl
  refine W_gen (fun Q hQ => ?_)
  change W p l e ({ frames := 6, cells := 1, slots := 6, locals := 81 } : Room) s mI _ below meth cO s.heap [] 0 0 Q _
  have hP : va_P (dC, dI) vwCl [(h0, .inr (10, [.ref hn, .ref g1, .ref g2, .ref hea, .ref g3, .ref g4, .ref g5, .ref g6, .ref g7, .int (iI 0), .int (iI 0), .int (iI 0), .int (iI (-1)), .int (iI (-1)), .int (iI 0)]))] s.heap := hP
  refine lv_aload_n hx hb dX10_undo_0 rfl (lv_at hl 0 rfl) ?_
  refine va_get (D := (dC, dI)) (ci := 10) (v := .int (iI 0)) (C := RX10) (T := TX10) (N := 15) hx hb hts (fun _ h => List.mem_cons_of_mem _ (inlX10 _ h)) hown hK hP 0 rfl rfl 10 (by decide) (hts (.fieldLink RX10 276 "LoanServicing" "undoable" "I") (List.mem_cons_of_mem _ (wl_6 (List.mem_of_getElem? (i := 19) rfl)))) (fun _ h9 => h9) rfl dX10_undo_1 ?_
  refine q_if_gt (tgt := 15) hx hb dX10_undo_4 (by decide) (by omega) (fun q => absurd q (by omega)) (fun _ => ?_)
  have hat : ∀ w ∈ vx_at0 RX10 203 "java/lang/IllegalStateException" ["java/lang/RuntimeException", "java/lang/Exception"], w.before ([.ref h0] : List Value).toArray s = true := vx_hat (B := [.declares ⟨"java/lang/RuntimeException", "<init>", "()V"⟩, .declares ⟨"java/lang/Exception", "<init>", "()V"⟩, .declares ⟨"java/lang/Throwable", "<init>", "()V"⟩, .castable "java/lang/IllegalStateException" "java/lang/IllegalStateException"]) (fun w hw => hts w (List.mem_cons_of_mem _ (List.mem_append_left _ (List.mem_append_left _ (List.mem_append_left _ (List.mem_append_left _ (List.mem_append_right _ hw))))))) (by decide +kernel) (vx_c (va_Nw.use rfl (hNw _ (List.mem_of_getElem? (i := 64) rfl))) (vx_c (va_Nw.use rfl (hNw _ (List.mem_of_getElem? (i := 62) rfl))) (vx_c (va_Nw.use rfl (hNw _ (List.mem_of_getElem? (i := 65) rfl))) (vx_c (va_Nw.use rfl (hNw _ (List.mem_of_getElem? (i := 67) rfl))) vx_n))))
  rw [hQ]
  exact vx_throw0 hx hb hl0 (own := RX10) (cls := "java/lang/IllegalStateException") (names := ["java/lang/RuntimeException", "java/lang/Exception"]) hown (by decide) (by decide) (hts (.classLink RX10 201 "java/lang/IllegalStateException") (List.mem_cons_of_mem _ (wl_17 (List.mem_of_getElem? (i := 13) rfl)))) (hts (.initialized "java/lang/IllegalStateException") (List.mem_cons_of_mem _ (wl_17 (List.mem_of_getElem? (i := 14) rfl)))) hat (by decide +kernel) hZs.2.2.1 hZs.2.2.2 hS (hl.1.trans hml.symm) dX10_undo_7 dX10_undo_10 dX10_undo_11 dX10_undo_14 (fun x hx => (htab x hx).elim) (Nat.le_of_ble_eq_true rfl) (Nat.le_of_ble_eq_true rfl) (Nat.le_of_ble_eq_true rfl) (Nat.le_of_ble_eq_true rfl) hlocks (fun t ht hz hq => XE_of hAe hS hz hq) hS.2.2 (Nat.le_of_ble_eq_true rfl) (Nat.le_of_ble_eq_true rfl)
set_option maxHeartbeats 4000000 in
set_option maxRecDepth 100000 in
/-- isConfirmed -/
theorem c_X10_isConfirmed (l : Launch) (dC : Nat → ClassId) (dI : Nat → Nat → Nat) (k : Nat → ClassId) (h0 hn g1 g2 hea g3 g4 g5 g6 g7 xa1 xa2 xa3 xa4 xa5 xa6 xa7 xa8 xa9 xa10 xa11 : Nat) (sz : Nat) : Met l yX10_isConfirmed woX10_isConfirmed ({ frames := 0, cells := 0, slots := 0, locals := 0 } : Room) (PcW (dC, dI) k [.ref h0] [(h0, .inr (10, [.ref hn, .ref g1, .ref g2, .ref hea, .ref g3, .ref g4, .ref g5, .ref g6, .ref g7, .int (iI 0), .int (iI 0), .int (iI 0), .int (iI (-1)), .int (iI (-1)), .int (iI 0)])), (hn, .inr (2, [.ref xa1, .ref xa2, .ref xa3, .ref xa5, .ref xa8, .int (iI 0), .int (iI 0), .int (iI 0)])), (xa3, .inr (7, [.int (iI 0), .int (iI 0), .int (iI 0), .long (lI 0), .int (iI 0), .int (iI 0), .int (iI 0), .long (lI 0), .long (lI 0), .long (lI 0), .long (lI 0), .long (lI 0), .int (iI 0), .int (iI 0), .int (iI 0), .int (iI 0), .ref xa4]))] sz) (va_Qi (fun (r : Int32) (_ : Unit) => r = iI 1) (QB (dC, dI) [(h0, .inr (10, [.ref hn, .ref g1, .ref g2, .ref hea, .ref g3, .ref g4, .ref g5, .ref g6, .ref g7, .int (iI 0), .int (iI 0), .int (iI 0), .int (iI (-1)), .int (iI (-1)), .int (iI 0)])), (hn, .inr (2, [.ref xa1, .ref xa2, .ref xa3, .ref xa5, .ref xa8, .int (iI 0), .int (iI 0), .int (iI 0)])), (xa3, .inr (7, [.int (iI 0), .int (iI 0), .int (iI 0), .long (lI 0), .int (iI 0), .int (iI 0), .int (iI 0), .long (lI 0), .long (lI 0), .long (lI 0), .long (lI 0), .long (lI 0), .int (iI 0), .int (iI 0), .int (iI 0), .int (iI 0), .ref xa4]))] (fun _ => []) sz) (va_A [(h0, .inr (10, [.ref hn, .ref g1, .ref g2, .ref hea, .ref g3, .ref g4, .ref g5, .ref g6, .ref g7, .int (iI 0), .int (iI 0), .int (iI 0), .int (iI (-1)), .int (iI (-1)), .int (iI 0)])), (hn, .inr (2, [.ref xa1, .ref xa2, .ref xa3, .ref xa5, .ref xa8, .int (iI 0), .int (iI 0), .int (iI 0)])), (xa3, .inr (7, [.int (iI 0), .int (iI 0), .int (iI 0), .long (lI 0), .int (iI 0), .int (iI 0), .int (iI 0), .long (lI 0), .long (lI 0), .long (lI 0), .long (lI 0), .long (lI 0), .int (iI 0), .int (iI 0), .int (iI 0), .int (iI 0), .ref xa4]))] sz)) 0 0 (va_A [(h0, .inr (10, [.ref hn, .ref g1, .ref g2, .ref hea, .ref g3, .ref g4, .ref g5, .ref g6, .ref g7, .int (iI 0), .int (iI 0), .int (iI 0), .int (iI (-1)), .int (iI (-1)), .int (iI 0)])), (hn, .inr (2, [.ref xa1, .ref xa2, .ref xa3, .ref xa5, .ref xa8, .int (iI 0), .int (iI 0), .int (iI 0)])), (xa3, .inr (7, [.int (iI 0), .int (iI 0), .int (iI 0), .long (lI 0), .int (iI 0), .int (iI 0), .int (iI 0), .long (lI 0), .long (lI 0), .long (lI 0), .long (lI 0), .long (lI 0), .int (iI 0), .int (iI 0), .int (iI 0), .int (iI 0), .ref xa4]))] sz) := by
  refine Met.ofW (cc := cX10_isConfirmed) (maxL := 5) (ret := (some .boolean)) (by decide) rfl ?_
  intro p e s mI args below meth cO s₁ B hml hv
  obtain ⟨rfl, rfl, hP, hD0, hE⟩ := hv
  have hx := B.exec
  have hb := B.bytes
  have hr := B.returns
  have hts := atoms_spec (ws := woX10_isConfirmed) B.pre
  have hown : s.vm.findClass RX10 = some mI.cls := findClass_of_methodNamed B.named
  have hlocks := B.notSynchronized
  have hD := hD0.self (sz := s.heap.size)
  generalize hAe : va_A [(h0, .inr (10, [.ref hn, .ref g1, .ref g2, .ref hea, .ref g3, .ref g4, .ref g5, .ref g6, .ref g7, .int (iI 0), .int (iI 0), .int (iI 0), .int (iI (-1)), .int (iI (-1)), .int (iI 0)])), (hn, .inr (2, [.ref xa1, .ref xa2, .ref xa3, .ref xa5, .ref xa8, .int (iI 0), .int (iI 0), .int (iI 0)])), (xa3, .inr (7, [.int (iI 0), .int (iI 0), .int (iI 0), .long (lI 0), .int (iI 0), .int (iI 0), .int (iI 0), .long (lI 0), .long (lI 0), .long (lI 0), .long (lI 0), .long (lI 0), .int (iI 0), .int (iI 0), .int (iI 0), .int (iI 0), .ref xa4]))] s.heap.size = A at hD hE ⊢
  have hA : ∀ q : Nat, s.heap.size ≤ q → A q := fun q h => by rw [← hAe]; exact Or.inr h
  have hS : va_S A s.heap s.heap [] := va_S.rf
  obtain ⟨hK, hNw, hNc, hZs, hAO1, hAO2⟩ := id hE
  have hSF : CallFix p mI cO cX10_isConfirmed 5 s ([.ref h0] : List Value).toArray woX10_isConfirmed RX10 := ⟨hx, hb, hml, hown, hts⟩
  have hl := lv_entry ([.ref h0] : List Value) (n := 5) (Nat.le_of_ble_eq_true rfl)
  rw [lg_entry_eq]
  generalize (lg_sl ([.ref h0] : List Value) ++ List.replicate (5 - (lg_sl ([.ref h0] : List Value)).length) Slot.unset).toArray = ls at hl ⊢
  have hl : lv_has ls 5 [(0, .ref h0)] := hl
  refine W_gen (fun Q hQ => ?_)
  change W p l e ({ frames := 0, cells := 0, slots := 0, locals := 0 } : Room) s mI _ below meth cO s.heap [] 0 0 Q _
  have hP : va_P (dC, dI) vwCl [(h0, .inr (10, [.ref hn, .ref g1, .ref g2, .ref hea, .ref g3, .ref g4, .ref g5, .ref g6, .ref g7, .int (iI 0), .int (iI 0), .int (iI 0), .int (iI (-1)), .int (iI (-1)), .int (iI 0)])), (hn, .inr (2, [.ref xa1, .ref xa2, .ref xa3, .ref xa5, .ref xa8, .int (iI 0), .int (iI 0), .int (iI 0)])), (xa3, .inr (7, [.int (iI 0), .int (iI 0), .int (iI 0), .long (lI 0), .int (iI 0), .int (iI 0), .int (iI 0), .long (lI 0), .long (lI 0), .long (lI 0), .long (lI 0), .long (lI 0), .int (iI 0), .int (iI 0), .int (iI 0), .int (iI 0), .ref xa4]))] s.heap := hP
  refine lv_aload_n hx hb dX10_isConfirmed_0 rfl (lv_at hl 0 rfl) ?_
  refine va_get (D := (dC, dI)) (ci := 10) (v := .ref hn) (C := RX10) (T := TX10) (N := 15) hx hb hts (fun _ h => List.mem_cons_of_mem _ (inlX10 _ h)) hown hK hP 0 rfl rfl 0 (by decide) (hts (.fieldLink RX10 10 "LoanServicing" "now" "LLoanServicing$Account;") (List.mem_cons_of_mem _ (wl_1 (List.mem_of_getElem? (i := 17) rfl)))) (fun _ h9 => h9) rfl dX10_isConfirmed_1 ?_
  refine va_getN (D := (dC, dI)) (ci := 2) (v := .ref xa3) (C := RX0) (T := TX0) (N := 8) hx hb hts (fun _ h => List.mem_cons_of_mem _ (inlX0 _ h)) hown hK hP 1 rfl rfl 2 (by decide) (va_Nw.use rfl (hNw _ (List.mem_of_getElem? (i := 26) rfl))) (fun _ h9 => h9) rfl dX10_isConfirmed_4 ?_
  refine lv_astore_n (lv' := [(1, .ref xa3), (0, .ref h0)]) hx hb dX10_isConfirmed_7 rfl hl (by decide) rfl (fun ls hl => ?_)
  refine lv_aload_n hx hb dX10_isConfirmed_8 rfl (lv_at hl 0 rfl) ?_
  refine va_getN (D := (dC, dI)) (ci := 7) (v := .int (iI 0)) (C := RX6) (T := TX6) (N := 17) hx hb hts (fun _ h => List.mem_cons_of_mem _ (inlX6 _ h)) hown hK hP 2 rfl rfl 0 (by decide) (va_Nw.use rfl (hNw _ (List.mem_of_getElem? (i := 9) rfl))) (fun _ h9 => h9) rfl dX10_isConfirmed_9 ?_
  refine q_if_ne (tgt := 17) hx hb dX10_isConfirmed_12 (by decide) (by omega) (fun q => absurd q (by omega)) (fun _ => ?_)
  refine q_iconst hx hb dX10_isConfirmed_15 ?_
  rw [hQ]
  refine W.widen (k := 0) (n := 0) (Nat.le_of_ble_eq_true rfl) (Nat.le_of_ble_eq_true rfl) ?_
  exact W.zret (v := (iI 1)) hx hb hr (by first | rfl | decide) (fun t ht hW => ⟨⟨(iI 1), (), rfl, rfl, by rw [ht]; exact hP.sub [] rfl, by rw [hAe]; exact hD.sub [] (by decide) rfl⟩, hS.F ht⟩) hS.2.2 dX10_isConfirmed_16
set_option maxHeartbeats 4000000 in
set_option maxRecDepth 100000 in
/-- restore -/
theorem c_X10_restore (l : Launch) (hl0 : l.stackTraces = false) (dC : Nat → ClassId) (dI : Nat → Nat → Nat) (k : Nat → ClassId) (h0 hn g1 g2 hea g3 g4 g5 g6 g7 xa1 xa2 xa3 xa4 xa5 xa6 xa7 xa8 xa9 xa10 xa11 : Nat) (sz : Nat) : vx_Met l yX10_restore woX10_restore ({ frames := 6, cells := 1, slots := 6, locals := 81 } : Room) (PcW (dC, dI) k [.ref h0] [(h0, .inr (10, [.ref hn, .ref g1, .ref g2, .ref hea, .ref g3, .ref g4, .ref g5, .ref g6, .ref g7, .int (iI 0), .int (iI 0), .int (iI 0), .int (iI (-1)), .int (iI (-1)), .int (iI 0)]))] sz) (va_Qi (fun (_ : Int32) (_ : Unit) => False) (fun _ _ => True) (va_A [(h0, .inr (10, [.ref hn, .ref g1, .ref g2, .ref hea, .ref g3, .ref g4, .ref g5, .ref g6, .ref g7, .int (iI 0), .int (iI 0), .int (iI 0), .int (iI (-1)), .int (iI (-1)), .int (iI 0)]))] sz)) (XE "java/lang/IllegalStateException" [(h0, .inr (10, [.ref hn, .ref g1, .ref g2, .ref hea, .ref g3, .ref g4, .ref g5, .ref g6, .ref g7, .int (iI 0), .int (iI 0), .int (iI 0), .int (iI (-1)), .int (iI (-1)), .int (iI 0)]))] sz) 1 6 (va_A [(h0, .inr (10, [.ref hn, .ref g1, .ref g2, .ref hea, .ref g3, .ref g4, .ref g5, .ref g6, .ref g7, .int (iI 0), .int (iI 0), .int (iI 0), .int (iI (-1)), .int (iI (-1)), .int (iI 0)]))] sz) := by
  refine vx_ofW (cc := cX10_restore) (maxL := 1) (ret := (some .int)) (by decide) rfl ?_
  intro p e s mI args below meth cO s₁ B hml htab hv
  obtain ⟨rfl, rfl, hP, hD0, hE⟩ := hv
  have hx := B.exec
  have hb := B.bytes
  have hr := B.returns
  have hts := atoms_spec (ws := woX10_restore) B.pre
  have hown : s.vm.findClass RX10 = some mI.cls := findClass_of_methodNamed B.named
  have hlocks := B.notSynchronized
  have hD := hD0.self (sz := s.heap.size)
  generalize hAe : va_A [(h0, .inr (10, [.ref hn, .ref g1, .ref g2, .ref hea, .ref g3, .ref g4, .ref g5, .ref g6, .ref g7, .int (iI 0), .int (iI 0), .int (iI 0), .int (iI (-1)), .int (iI (-1)), .int (iI 0)]))] s.heap.size = A at hD hE ⊢
  have hA : ∀ q : Nat, s.heap.size ≤ q → A q := fun q h => by rw [← hAe]; exact Or.inr h
  have hS : va_S A s.heap s.heap [] := va_S.rf
  obtain ⟨hK, hNw, hNc, hZs, hAO1, hAO2⟩ := id hE
  have hSF : CallFix p mI cO cX10_restore 1 s ([.ref h0] : List Value).toArray woX10_restore RX10 := ⟨hx, hb, hml, hown, hts⟩
  have hl := lv_entry ([.ref h0] : List Value) (n := 1) (Nat.le_of_ble_eq_true rfl)
  rw [lg_entry_eq]
  generalize (lg_sl ([.ref h0] : List Value) ++ List.replicate (1 - (lg_sl ([.ref h0] : List Value)).length) Slot.unset).toArray = ls at hl ⊢
  have hl : lv_has ls 1 [(0, .ref h0)] := hl
  refine W_gen (fun Q hQ => ?_)
  change W p l e ({ frames := 6, cells := 1, slots := 6, locals := 81 } : Room) s mI _ below meth cO s.heap [] 0 0 Q _
  have hP : va_P (dC, dI) vwCl [(h0, .inr (10, [.ref hn, .ref g1, .ref g2, .ref hea, .ref g3, .ref g4, .ref g5, .ref g6, .ref g7, .int (iI 0), .int (iI 0), .int (iI 0), .int (iI (-1)), .int (iI (-1)), .int (iI 0)]))] s.heap := hP
  refine lv_aload_n hx hb dX10_restore_0 rfl (lv_at hl 0 rfl) ?_
  refine va_get (D := (dC, dI)) (ci := 10) (v := .int (iI 0)) (C := RX10) (T := TX10) (N := 15) hx hb hts (fun _ h => List.mem_cons_of_mem _ (inlX10 _ h)) hown hK hP 0 rfl rfl 11 (by decide) (hts (.fieldLink RX10 341 "LoanServicing" "hasSnapshot" "Z") (List.mem_cons_of_mem _ (wl_45 (List.mem_of_getElem? (i := 23) rfl)))) (fun _ h9 => h9) rfl dX10_restore_1 ?_
  refine q_if_ne (tgt := 15) hx hb dX10_restore_4 (by decide) (by omega) (fun q => absurd q (by omega)) (fun _ => ?_)
  have hat : ∀ w ∈ vx_at0 RX10 203 "java/lang/IllegalStateException" ["java/lang/RuntimeException", "java/lang/Exception"], w.before ([.ref h0] : List Value).toArray s = true := vx_hat (B := [.declares ⟨"java/lang/RuntimeException", "<init>", "()V"⟩, .declares ⟨"java/lang/Exception", "<init>", "()V"⟩, .declares ⟨"java/lang/Throwable", "<init>", "()V"⟩, .castable "java/lang/IllegalStateException" "java/lang/IllegalStateException"]) (fun w hw => hts w (List.mem_cons_of_mem _ (List.mem_append_left _ (List.mem_append_left _ (List.mem_append_left _ (List.mem_append_left _ (List.mem_append_right _ hw))))))) (by decide +kernel) (vx_c (va_Nw.use rfl (hNw _ (List.mem_of_getElem? (i := 64) rfl))) (vx_c (va_Nw.use rfl (hNw _ (List.mem_of_getElem? (i := 62) rfl))) (vx_c (va_Nw.use rfl (hNw _ (List.mem_of_getElem? (i := 65) rfl))) (vx_c (va_Nw.use rfl (hNw _ (List.mem_of_getElem? (i := 67) rfl))) vx_n))))
  rw [hQ]
  exact vx_throw0 hx hb hl0 (own := RX10) (cls := "java/lang/IllegalStateException") (names := ["java/lang/RuntimeException", "java/lang/Exception"]) hown (by decide) (by decide) (hts (.classLink RX10 201 "java/lang/IllegalStateException") (List.mem_cons_of_mem _ (wl_17 (List.mem_of_getElem? (i := 13) rfl)))) (hts (.initialized "java/lang/IllegalStateException") (List.mem_cons_of_mem _ (wl_17 (List.mem_of_getElem? (i := 14) rfl)))) hat (by decide +kernel) hZs.2.2.1 hZs.2.2.2 hS (hl.1.trans hml.symm) dX10_restore_7 dX10_restore_10 dX10_restore_11 dX10_restore_14 (fun x hx => (htab x hx).elim) (Nat.le_of_ble_eq_true rfl) (Nat.le_of_ble_eq_true rfl) (Nat.le_of_ble_eq_true rfl) (Nat.le_of_ble_eq_true rfl) hlocks (fun t ht hz hq => XE_of hAe hS hz hq) hS.2.2 (Nat.le_of_ble_eq_true rfl) (Nat.le_of_ble_eq_true rfl)
set_option maxHeartbeats 4000000 in
set_option maxRecDepth 100000 in
/-- startFrom without a loan -/
theorem c_X7_startFrom_0 (l : Launch) (dC : Nat → ClassId) (dI : Nat → Nat → Nat) (k : Nat → ClassId) (h0 xd1 xd2 xd3 xd4 xd5 xd6 h1 xa1 xa2 xa3 xa4 xa5 xa6 xa7 xa8 xa9 xa10 xa11 : Nat) (sz : Nat) : Met l yX7_startFrom woX7_startFrom ({ frames := 1, cells := 0, slots := 0, locals := 20 } : Room) (PcW (dC, dI) k [.ref h0, .ref h1, .int (iI 0)] [(h0, .inr (8, [.long (lI 0), .long (lI 0), .long (lI 0), .int (iI 0), .int (iI 0), .int (iI 0), .int (iI 0), .int (iI 0), .ref xd1, .ref xd2, .int (iI 0), .ref xd3, .ref xd4, .ref xd5, .ref xd6])), (h1, .inr (2, [.ref xa1, .ref xa2, .ref xa3, .ref xa5, .ref xa8, .int (iI 0), .int (iI 0), .int (iI 0)])), (xa1, .inl (k 0, 5, .inl (aI (upI (upI (upI (upI (upI aZ 0 0) 1 0) 2 10) 3 500) 4 0)))), (xa3, .inr (7, [.int (iI 0), .int (iI 0), .int (iI 0), .long (lI 0), .int (iI 0), .int (iI 0), .int (iI 0), .long (lI 0), .long (lI 0), .long (lI 0), .long (lI 0), .long (lI 0), .int (iI 0), .int (iI 0), .int (iI 0), .int (iI 0), .ref xa4]))] sz) (va_Qv (fun (_ : Unit) => True) (QB (dC, dI) [(h0, .inr (8, [.long (lI 0), .long (lI 0), .long (lI 0), .int (iI 0), .int (iI 0), .int (iI 0), .int (iI 0), .int (iI 0), .ref xd1, .ref xd2, .int (iI 0), .ref xd3, .ref xd4, .ref xd5, .ref xd6])), (h1, .inr (2, [.ref xa1, .ref xa2, .ref xa3, .ref xa5, .ref xa8, .int (iI 0), .int (iI 0), .int (iI 0)])), (xa1, .inl (k 0, 5, .inl (aI (upI (upI (upI (upI (upI aZ 0 0) 1 0) 2 10) 3 500) 4 0)))), (xa3, .inr (7, [.int (iI 0), .int (iI 0), .int (iI 0), .long (lI 0), .int (iI 0), .int (iI 0), .int (iI 0), .long (lI 0), .long (lI 0), .long (lI 0), .long (lI 0), .long (lI 0), .int (iI 0), .int (iI 0), .int (iI 0), .int (iI 0), .ref xa4]))] (fun _ => [(h0, .inr (8, [.long (lI 0), .long (lI 0), .long (lI 0), .int (iI 0), .int (iI 0), .int (iI 0), .int (iI 0), .int (iI 0), .ref xd1, .ref xd2, .int (iI 0), .ref xd3, .ref xd4, .ref xd5, .ref xd6])), (h1, .inr (2, [.ref xa1, .ref xa2, .ref xa3, .ref xa5, .ref xa8, .int (iI 0), .int (iI 0), .int (iI 0)])), (xa1, .inl (k 0, 5, .inl (aI (upI (upI (upI (upI (upI aZ 0 0) 1 0) 2 10) 3 500) 4 0)))), (xa3, .inr (7, [.int (iI 0), .int (iI 0), .int (iI 0), .long (lI 0), .int (iI 0), .int (iI 0), .int (iI 0), .long (lI 0), .long (lI 0), .long (lI 0), .long (lI 0), .long (lI 0), .int (iI 0), .int (iI 0), .int (iI 0), .int (iI 0), .ref xa4]))]) sz) (va_A [(h0, .inr (8, [.long (lI 0), .long (lI 0), .long (lI 0), .int (iI 0), .int (iI 0), .int (iI 0), .int (iI 0), .int (iI 0), .ref xd1, .ref xd2, .int (iI 0), .ref xd3, .ref xd4, .ref xd5, .ref xd6])), (h1, .inr (2, [.ref xa1, .ref xa2, .ref xa3, .ref xa5, .ref xa8, .int (iI 0), .int (iI 0), .int (iI 0)])), (xa1, .inl (k 0, 5, .inl (aI (upI (upI (upI (upI (upI aZ 0 0) 1 0) 2 10) 3 500) 4 0)))), (xa3, .inr (7, [.int (iI 0), .int (iI 0), .int (iI 0), .long (lI 0), .int (iI 0), .int (iI 0), .int (iI 0), .long (lI 0), .long (lI 0), .long (lI 0), .long (lI 0), .long (lI 0), .int (iI 0), .int (iI 0), .int (iI 0), .int (iI 0), .ref xa4]))] sz)) 0 0 (va_A [(h0, .inr (8, [.long (lI 0), .long (lI 0), .long (lI 0), .int (iI 0), .int (iI 0), .int (iI 0), .int (iI 0), .int (iI 0), .ref xd1, .ref xd2, .int (iI 0), .ref xd3, .ref xd4, .ref xd5, .ref xd6])), (h1, .inr (2, [.ref xa1, .ref xa2, .ref xa3, .ref xa5, .ref xa8, .int (iI 0), .int (iI 0), .int (iI 0)])), (xa1, .inl (k 0, 5, .inl (aI (upI (upI (upI (upI (upI aZ 0 0) 1 0) 2 10) 3 500) 4 0)))), (xa3, .inr (7, [.int (iI 0), .int (iI 0), .int (iI 0), .long (lI 0), .int (iI 0), .int (iI 0), .int (iI 0), .long (lI 0), .long (lI 0), .long (lI 0), .long (lI 0), .long (lI 0), .int (iI 0), .int (iI 0), .int (iI 0), .int (iI 0), .ref xa4]))] sz) := by
  refine Met.ofW (cc := cX7_startFrom) (maxL := 6) (ret := none) (by decide) rfl ?_
  intro p e s mI args below meth cO s₁ B hml hv
  obtain ⟨rfl, rfl, hP, hD0, hE⟩ := hv
  have hx := B.exec
  have hb := B.bytes
  have hr := B.returns
  have hts := atoms_spec (ws := woX7_startFrom) B.pre
  have hown : s.vm.findClass RX7 = some mI.cls := findClass_of_methodNamed B.named
  have hlocks := B.notSynchronized
  have hD := hD0.self (sz := s.heap.size)
  generalize hAe : va_A [(h0, .inr (8, [.long (lI 0), .long (lI 0), .long (lI 0), .int (iI 0), .int (iI 0), .int (iI 0), .int (iI 0), .int (iI 0), .ref xd1, .ref xd2, .int (iI 0), .ref xd3, .ref xd4, .ref xd5, .ref xd6])), (h1, .inr (2, [.ref xa1, .ref xa2, .ref xa3, .ref xa5, .ref xa8, .int (iI 0), .int (iI 0), .int (iI 0)])), (xa1, .inl (k 0, 5, .inl (aI (upI (upI (upI (upI (upI aZ 0 0) 1 0) 2 10) 3 500) 4 0)))), (xa3, .inr (7, [.int (iI 0), .int (iI 0), .int (iI 0), .long (lI 0), .int (iI 0), .int (iI 0), .int (iI 0), .long (lI 0), .long (lI 0), .long (lI 0), .long (lI 0), .long (lI 0), .int (iI 0), .int (iI 0), .int (iI 0), .int (iI 0), .ref xa4]))] s.heap.size = A at hD hE ⊢
  have hA : ∀ q : Nat, s.heap.size ≤ q → A q := fun q h => by rw [← hAe]; exact Or.inr h
  have hS : va_S A s.heap s.heap [] := va_S.rf
  obtain ⟨hK, hNw, hNc, hZs, hAO1, hAO2⟩ := id hE
  have hSF : CallFix p mI cO cX7_startFrom 6 s ([.ref h0, .ref h1, .int (iI 0)] : List Value).toArray woX7_startFrom RX7 := ⟨hx, hb, hml, hown, hts⟩
  have hl := lv_entry ([.ref h0, .ref h1, .int (iI 0)] : List Value) (n := 6) (Nat.le_of_ble_eq_true rfl)
  rw [lg_entry_eq]
  generalize (lg_sl ([.ref h0, .ref h1, .int (iI 0)] : List Value) ++ List.replicate (6 - (lg_sl ([.ref h0, .ref h1, .int (iI 0)] : List Value)).length) Slot.unset).toArray = ls at hl ⊢
  have hl : lv_has ls 6 [(0, .ref h0), (1, .ref h1), (2, .int (iI 0))] := hl
  refine W_gen (fun Q hQ => ?_)
  change W p l e ({ frames := 1, cells := 0, slots := 0, locals := 20 } : Room) s mI _ below meth cO s.heap [] 0 0 Q _
  have hP : va_P (dC, dI) vwCl [(h0, .inr (8, [.long (lI 0), .long (lI 0), .long (lI 0), .int (iI 0), .int (iI 0), .int (iI 0), .int (iI 0), .int (iI 0), .ref xd1, .ref xd2, .int (iI 0), .ref xd3, .ref xd4, .ref xd5, .ref xd6])), (h1, .inr (2, [.ref xa1, .ref xa2, .ref xa3, .ref xa5, .ref xa8, .int (iI 0), .int (iI 0), .int (iI 0)])), (xa1, .inl (k 0, 5, .inl (aI (upI (upI (upI (upI (upI aZ 0 0) 1 0) 2 10) 3 500) 4 0)))), (xa3, .inr (7, [.int (iI 0), .int (iI 0), .int (iI 0), .long (lI 0), .int (iI 0), .int (iI 0), .int (iI 0), .long (lI 0), .long (lI 0), .long (lI 0), .long (lI 0), .long (lI 0), .int (iI 0), .int (iI 0), .int (iI 0), .int (iI 0), .ref xa4]))] s.heap := hP
  refine lv_aload_n hx hb dX7_startFrom_0 rfl (lv_at hl 1 rfl) ?_
  refine va_getN (D := (dC, dI)) (ci := 2) (v := .ref xa3) (C := RX0) (T := TX0) (N := 8) hx hb hts (fun _ h => List.mem_cons_of_mem _ (inlX0 _ h)) hown hK hP 1 rfl rfl 2 (by decide) (va_Nw.use rfl (hNw _ (List.mem_of_getElem? (i := 41) rfl))) (fun _ h9 => h9) rfl dX7_startFrom_1 ?_
  refine lv_astore_n (lv' := [(3, .ref xa3), (0, .ref h0), (1, .ref h1), (2, .int (iI 0))]) hx hb dX7_startFrom_4 rfl hl (by decide) rfl (fun ls hl => ?_)
  refine lv_aload_n hx hb dX7_startFrom_5 rfl (lv_at hl 1 rfl) ?_
  refine lv_aload_n hx hb dX7_startFrom_6 rfl (lv_at hl 0 rfl) ?_
  refine va_getN (D := (dC, dI)) (ci := 7) (v := .long (lI 0)) (C := RX6) (T := TX6) (N := 17) hx hb hts (fun _ h => List.mem_cons_of_mem _ (inlX6 _ h)) hown hK hP 3 rfl rfl 7 (by decide) (va_Nw.use rfl (hNw _ (List.mem_of_getElem? (i := 42) rfl))) (fun _ h9 => h9) rfl dX7_startFrom_7 ?_
  refine va_put (D := (dC, dI)) (ci := 8) (v := .long (lI 0)) (ty := .long) (C := RX7) (T := TX7) (N := 15) hx hb hts (fun _ h => List.mem_cons_of_mem _ (inlX7 _ h)) tyX7 tyX7_ok nmX7 hown hK hP hD hS 0 rfl rfl 0 (by decide) (hts (.fieldLink RX7 43 "LoanServicing$Projection" "firstPrincipal" "J") (List.mem_cons_of_mem _ (wl_10 (List.mem_of_getElem? (i := 11) rfl)))) (fun _ h9 => h9) rfl (by decide +kernel) rfl rfl (Nat.le_of_ble_eq_true rfl) dX7_startFrom_10 (fun H locs hP hD hS => ?_)
  have hP : va_P (dC, dI) vwCl [(h0, .inr (8, [.long (lI 0), .long (lI 0), .long (lI 0), .int (iI 0), .int (iI 0), .int (iI 0), .int (iI 0), .int (iI 0), .ref xd1, .ref xd2, .int (iI 0), .ref xd3, .ref xd4, .ref xd5, .ref xd6])), (h1, .inr (2, [.ref xa1, .ref xa2, .ref xa3, .ref xa5, .ref xa8, .int (iI 0), .int (iI 0), .int (iI 0)])), (xa1, .inl (k 0, 5, .inl (aI (upI (upI (upI (upI (upI aZ 0 0) 1 0) 2 10) 3 500) 4 0)))), (xa3, .inr (7, [.int (iI 0), .int (iI 0), .int (iI 0), .long (lI 0), .int (iI 0), .int (iI 0), .int (iI 0), .long (lI 0), .long (lI 0), .long (lI 0), .long (lI 0), .long (lI 0), .int (iI 0), .int (iI 0), .int (iI 0), .int (iI 0), .ref xa4]))] H := hP
  have hD : va_D A [(h0, .inr (8, [.long (lI 0), .long (lI 0), .long (lI 0), .int (iI 0), .int (iI 0), .int (iI 0), .int (iI 0), .int (iI 0), .ref xd1, .ref xd2, .int (iI 0), .ref xd3, .ref xd4, .ref xd5, .ref xd6])), (h1, .inr (2, [.ref xa1, .ref xa2, .ref xa3, .ref xa5, .ref xa8, .int (iI 0), .int (iI 0), .int (iI 0)])), (xa1, .inl (k 0, 5, .inl (aI (upI (upI (upI (upI (upI aZ 0 0) 1 0) 2 10) 3 500) 4 0)))), (xa3, .inr (7, [.int (iI 0), .int (iI 0), .int (iI 0), .long (lI 0), .int (iI 0), .int (iI 0), .int (iI 0), .long (lI 0), .long (lI 0), .long (lI 0), .long (lI 0), .long (lI 0), .int (iI 0), .int (iI 0), .int (iI 0), .int (iI 0), .ref xa4]))] := hD
  refine lv_aload_n hx hb dX7_startFrom_13 rfl (lv_at hl 1 rfl) ?_
  refine lv_aload_n hx hb dX7_startFrom_14 rfl (lv_at hl 0 rfl) ?_
  refine va_getN (D := (dC, dI)) (ci := 7) (v := .long (lI 0)) (C := RX6) (T := TX6) (N := 17) hx hb hts (fun _ h => List.mem_cons_of_mem _ (inlX6 _ h)) hown hK hP 3 rfl rfl 8 (by decide) (va_Nw.use rfl (hNw _ (List.mem_of_getElem? (i := 43) rfl))) (fun _ h9 => h9) rfl dX7_startFrom_15 ?_
  refine va_put (D := (dC, dI)) (ci := 8) (v := .long (lI 0)) (ty := .long) (C := RX7) (T := TX7) (N := 15) hx hb hts (fun _ h => List.mem_cons_of_mem _ (inlX7 _ h)) tyX7 tyX7_ok nmX7 hown hK hP hD hS 0 rfl rfl 1 (by decide) (hts (.fieldLink RX7 49 "LoanServicing$Projection" "firstInterest" "J") (List.mem_cons_of_mem _ (wl_10 (List.mem_of_getElem? (i := 12) rfl)))) (fun _ h9 => h9) rfl (by decide +kernel) rfl rfl (Nat.le_of_ble_eq_true rfl) dX7_startFrom_18 (fun H locs hP hD hS => ?_)
  have hP : va_P (dC, dI) vwCl [(h0, .inr (8, [.long (lI 0), .long (lI 0), .long (lI 0), .int (iI 0), .int (iI 0), .int (iI 0), .int (iI 0), .int (iI 0), .ref xd1, .ref xd2, .int (iI 0), .ref xd3, .ref xd4, .ref xd5, .ref xd6])), (h1, .inr (2, [.ref xa1, .ref xa2, .ref xa3, .ref xa5, .ref xa8, .int (iI 0), .int (iI 0), .int (iI 0)])), (xa1, .inl (k 0, 5, .inl (aI (upI (upI (upI (upI (upI aZ 0 0) 1 0) 2 10) 3 500) 4 0)))), (xa3, .inr (7, [.int (iI 0), .int (iI 0), .int (iI 0), .long (lI 0), .int (iI 0), .int (iI 0), .int (iI 0), .long (lI 0), .long (lI 0), .long (lI 0), .long (lI 0), .long (lI 0), .int (iI 0), .int (iI 0), .int (iI 0), .int (iI 0), .ref xa4]))] H := hP
  have hD : va_D A [(h0, .inr (8, [.long (lI 0), .long (lI 0), .long (lI 0), .int (iI 0), .int (iI 0), .int (iI 0), .int (iI 0), .int (iI 0), .ref xd1, .ref xd2, .int (iI 0), .ref xd3, .ref xd4, .ref xd5, .ref xd6])), (h1, .inr (2, [.ref xa1, .ref xa2, .ref xa3, .ref xa5, .ref xa8, .int (iI 0), .int (iI 0), .int (iI 0)])), (xa1, .inl (k 0, 5, .inl (aI (upI (upI (upI (upI (upI aZ 0 0) 1 0) 2 10) 3 500) 4 0)))), (xa3, .inr (7, [.int (iI 0), .int (iI 0), .int (iI 0), .long (lI 0), .int (iI 0), .int (iI 0), .int (iI 0), .long (lI 0), .long (lI 0), .long (lI 0), .long (lI 0), .long (lI 0), .int (iI 0), .int (iI 0), .int (iI 0), .int (iI 0), .ref xa4]))] := hD
  refine lv_aload_n hx hb dX7_startFrom_21 rfl (lv_at hl 1 rfl) ?_
  refine lv_aload_n hx hb dX7_startFrom_22 rfl (lv_at hl 0 rfl) ?_
  refine va_getN (D := (dC, dI)) (ci := 7) (v := .long (lI 0)) (C := RX6) (T := TX6) (N := 17) hx hb hts (fun _ h => List.mem_cons_of_mem _ (inlX6 _ h)) hown hK hP 3 rfl rfl 10 (by decide) (va_Nw.use rfl (hNw _ (List.mem_of_getElem? (i := 44) rfl))) (fun _ h9 => h9) rfl dX7_startFrom_23 ?_
  refine va_put (D := (dC, dI)) (ci := 8) (v := .long (lI 0)) (ty := .long) (C := RX7) (T := TX7) (N := 15) hx hb hts (fun _ h => List.mem_cons_of_mem _ (inlX7 _ h)) tyX7 tyX7_ok nmX7 hown hK hP hD hS 0 rfl rfl 2 (by decide) (hts (.fieldLink RX7 55 "LoanServicing$Projection" "firstUnits" "J") (List.mem_cons_of_mem _ (wl_10 (List.mem_of_getElem? (i := 13) rfl)))) (fun _ h9 => h9) rfl (by decide +kernel) rfl rfl (Nat.le_of_ble_eq_true rfl) dX7_startFrom_26 (fun H locs hP hD hS => ?_)
  have hP : va_P (dC, dI) vwCl [(h0, .inr (8, [.long (lI 0), .long (lI 0), .long (lI 0), .int (iI 0), .int (iI 0), .int (iI 0), .int (iI 0), .int (iI 0), .ref xd1, .ref xd2, .int (iI 0), .ref xd3, .ref xd4, .ref xd5, .ref xd6])), (h1, .inr (2, [.ref xa1, .ref xa2, .ref xa3, .ref xa5, .ref xa8, .int (iI 0), .int (iI 0), .int (iI 0)])), (xa1, .inl (k 0, 5, .inl (aI (upI (upI (upI (upI (upI aZ 0 0) 1 0) 2 10) 3 500) 4 0)))), (xa3, .inr (7, [.int (iI 0), .int (iI 0), .int (iI 0), .long (lI 0), .int (iI 0), .int (iI 0), .int (iI 0), .long (lI 0), .long (lI 0), .long (lI 0), .long (lI 0), .long (lI 0), .int (iI 0), .int (iI 0), .int (iI 0), .int (iI 0), .ref xa4]))] H := hP
  have hD : va_D A [(h0, .inr (8, [.long (lI 0), .long (lI 0), .long (lI 0), .int (iI 0), .int (iI 0), .int (iI 0), .int (iI 0), .int (iI 0), .ref xd1, .ref xd2, .int (iI 0), .ref xd3, .ref xd4, .ref xd5, .ref xd6])), (h1, .inr (2, [.ref xa1, .ref xa2, .ref xa3, .ref xa5, .ref xa8, .int (iI 0), .int (iI 0), .int (iI 0)])), (xa1, .inl (k 0, 5, .inl (aI (upI (upI (upI (upI (upI aZ 0 0) 1 0) 2 10) 3 500) 4 0)))), (xa3, .inr (7, [.int (iI 0), .int (iI 0), .int (iI 0), .long (lI 0), .int (iI 0), .int (iI 0), .int (iI 0), .long (lI 0), .long (lI 0), .long (lI 0), .long (lI 0), .long (lI 0), .int (iI 0), .int (iI 0), .int (iI 0), .int (iI 0), .ref xa4]))] := hD
  refine lv_aload_n hx hb dX7_startFrom_29 rfl (lv_at hl 1 rfl) ?_
  refine lv_aload_n hx hb dX7_startFrom_30 rfl (lv_at hl 0 rfl) ?_
  refine va_getN (D := (dC, dI)) (ci := 7) (v := .int (iI 0)) (C := RX6) (T := TX6) (N := 17) hx hb hts (fun _ h => List.mem_cons_of_mem _ (inlX6 _ h)) hown hK hP 3 rfl rfl 6 (by decide) (va_Nw.use rfl (hNw _ (List.mem_of_getElem? (i := 45) rfl))) (fun _ h9 => h9) rfl dX7_startFrom_31 ?_
  refine va_put (D := (dC, dI)) (ci := 8) (v := .int (iI 0)) (ty := .int) (C := RX7) (T := TX7) (N := 15) hx hb hts (fun _ h => List.mem_cons_of_mem _ (inlX7 _ h)) tyX7 tyX7_ok nmX7 hown hK hP hD hS 0 rfl rfl 3 (by decide) (hts (.fieldLink RX7 62 "LoanServicing$Projection" "rate" "I") (List.mem_cons_of_mem _ (wl_10 (List.mem_of_getElem? (i := 14) rfl)))) (fun _ h9 => h9) rfl (by decide +kernel) rfl rfl (Nat.le_of_ble_eq_true rfl) dX7_startFrom_34 (fun H locs hP hD hS => ?_)
  have hP : va_P (dC, dI) vwCl [(h0, .inr (8, [.long (lI 0), .long (lI 0), .long (lI 0), .int (iI 0), .int (iI 0), .int (iI 0), .int (iI 0), .int (iI 0), .ref xd1, .ref xd2, .int (iI 0), .ref xd3, .ref xd4, .ref xd5, .ref xd6])), (h1, .inr (2, [.ref xa1, .ref xa2, .ref xa3, .ref xa5, .ref xa8, .int (iI 0), .int (iI 0), .int (iI 0)])), (xa1, .inl (k 0, 5, .inl (aI (upI (upI (upI (upI (upI aZ 0 0) 1 0) 2 10) 3 500) 4 0)))), (xa3, .inr (7, [.int (iI 0), .int (iI 0), .int (iI 0), .long (lI 0), .int (iI 0), .int (iI 0), .int (iI 0), .long (lI 0), .long (lI 0), .long (lI 0), .long (lI 0), .long (lI 0), .int (iI 0), .int (iI 0), .int (iI 0), .int (iI 0), .ref xa4]))] H := hP
  have hD : va_D A [(h0, .inr (8, [.long (lI 0), .long (lI 0), .long (lI 0), .int (iI 0), .int (iI 0), .int (iI 0), .int (iI 0), .int (iI 0), .ref xd1, .ref xd2, .int (iI 0), .ref xd3, .ref xd4, .ref xd5, .ref xd6])), (h1, .inr (2, [.ref xa1, .ref xa2, .ref xa3, .ref xa5, .ref xa8, .int (iI 0), .int (iI 0), .int (iI 0)])), (xa1, .inl (k 0, 5, .inl (aI (upI (upI (upI (upI (upI aZ 0 0) 1 0) 2 10) 3 500) 4 0)))), (xa3, .inr (7, [.int (iI 0), .int (iI 0), .int (iI 0), .long (lI 0), .int (iI 0), .int (iI 0), .int (iI 0), .long (lI 0), .long (lI 0), .long (lI 0), .long (lI 0), .long (lI 0), .int (iI 0), .int (iI 0), .int (iI 0), .int (iI 0), .ref xa4]))] := hD
  refine lv_aload_n hx hb dX7_startFrom_37 rfl (lv_at hl 1 rfl) ?_
  refine lv_aload_n hx hb dX7_startFrom_38 rfl (lv_at hl 0 rfl) ?_
  refine va_getN (D := (dC, dI)) (ci := 7) (v := .int (iI 0)) (C := RX6) (T := TX6) (N := 17) hx hb hts (fun _ h => List.mem_cons_of_mem _ (inlX6 _ h)) hown hK hP 3 rfl rfl 1 (by decide) (va_Nw.use rfl (hNw _ (List.mem_of_getElem? (i := 46) rfl))) (fun _ h9 => h9) rfl dX7_startFrom_39 ?_
  refine va_put (D := (dC, dI)) (ci := 8) (v := .int (iI 0)) (ty := .int) (C := RX7) (T := TX7) (N := 15) hx hb hts (fun _ h => List.mem_cons_of_mem _ (inlX7 _ h)) tyX7 tyX7_ok nmX7 hown hK hP hD hS 0 rfl rfl 4 (by decide) (hts (.fieldLink RX7 66 "LoanServicing$Projection" "convention" "I") (List.mem_cons_of_mem _ (wl_10 (List.mem_of_getElem? (i := 15) rfl)))) (fun _ h9 => h9) rfl (by decide +kernel) rfl rfl (Nat.le_of_ble_eq_true rfl) dX7_startFrom_42 (fun H locs hP hD hS => ?_)
  have hP : va_P (dC, dI) vwCl [(h0, .inr (8, [.long (lI 0), .long (lI 0), .long (lI 0), .int (iI 0), .int (iI 0), .int (iI 0), .int (iI 0), .int (iI 0), .ref xd1, .ref xd2, .int (iI 0), .ref xd3, .ref xd4, .ref xd5, .ref xd6])), (h1, .inr (2, [.ref xa1, .ref xa2, .ref xa3, .ref xa5, .ref xa8, .int (iI 0), .int (iI 0), .int (iI 0)])), (xa1, .inl (k 0, 5, .inl (aI (upI (upI (upI (upI (upI aZ 0 0) 1 0) 2 10) 3 500) 4 0)))), (xa3, .inr (7, [.int (iI 0), .int (iI 0), .int (iI 0), .long (lI 0), .int (iI 0), .int (iI 0), .int (iI 0), .long (lI 0), .long (lI 0), .long (lI 0), .long (lI 0), .long (lI 0), .int (iI 0), .int (iI 0), .int (iI 0), .int (iI 0), .ref xa4]))] H := hP
  have hD : va_D A [(h0, .inr (8, [.long (lI 0), .long (lI 0), .long (lI 0), .int (iI 0), .int (iI 0), .int (iI 0), .int (iI 0), .int (iI 0), .ref xd1, .ref xd2, .int (iI 0), .ref xd3, .ref xd4, .ref xd5, .ref xd6])), (h1, .inr (2, [.ref xa1, .ref xa2, .ref xa3, .ref xa5, .ref xa8, .int (iI 0), .int (iI 0), .int (iI 0)])), (xa1, .inl (k 0, 5, .inl (aI (upI (upI (upI (upI (upI aZ 0 0) 1 0) 2 10) 3 500) 4 0)))), (xa3, .inr (7, [.int (iI 0), .int (iI 0), .int (iI 0), .long (lI 0), .int (iI 0), .int (iI 0), .int (iI 0), .long (lI 0), .long (lI 0), .long (lI 0), .long (lI 0), .long (lI 0), .int (iI 0), .int (iI 0), .int (iI 0), .int (iI 0), .ref xa4]))] := hD
  refine lv_aload_n hx hb dX7_startFrom_45 rfl (lv_at hl 1 rfl) ?_
  refine lv_aload_n hx hb dX7_startFrom_46 rfl (lv_at hl 0 rfl) ?_
  refine va_getN (D := (dC, dI)) (ci := 7) (v := .int (iI 0)) (C := RX6) (T := TX6) (N := 17) hx hb hts (fun _ h => List.mem_cons_of_mem _ (inlX6 _ h)) hown hK hP 3 rfl rfl 15 (by decide) (va_Nw.use rfl (hNw _ (List.mem_of_getElem? (i := 47) rfl))) (fun _ h9 => h9) rfl dX7_startFrom_47 ?_
  refine va_put (D := (dC, dI)) (ci := 8) (v := .int (iI 0)) (ty := .int) (C := RX7) (T := TX7) (N := 15) hx hb hts (fun _ h => List.mem_cons_of_mem _ (inlX7 _ h)) tyX7 tyX7_ok nmX7 hown hK hP hD hS 0 rfl rfl 5 (by decide) (hts (.fieldLink RX7 70 "LoanServicing$Projection" "holidays" "I") (List.mem_cons_of_mem _ (wl_10 (List.mem_of_getElem? (i := 16) rfl)))) (fun _ h9 => h9) rfl (by decide +kernel) rfl rfl (Nat.le_of_ble_eq_true rfl) dX7_startFrom_50 (fun H locs hP hD hS => ?_)
  have hP : va_P (dC, dI) vwCl [(h0, .inr (8, [.long (lI 0), .long (lI 0), .long (lI 0), .int (iI 0), .int (iI 0), .int (iI 0), .int (iI 0), .int (iI 0), .ref xd1, .ref xd2, .int (iI 0), .ref xd3, .ref xd4, .ref xd5, .ref xd6])), (h1, .inr (2, [.ref xa1, .ref xa2, .ref xa3, .ref xa5, .ref xa8, .int (iI 0), .int (iI 0), .int (iI 0)])), (xa1, .inl (k 0, 5, .inl (aI (upI (upI (upI (upI (upI aZ 0 0) 1 0) 2 10) 3 500) 4 0)))), (xa3, .inr (7, [.int (iI 0), .int (iI 0), .int (iI 0), .long (lI 0), .int (iI 0), .int (iI 0), .int (iI 0), .long (lI 0), .long (lI 0), .long (lI 0), .long (lI 0), .long (lI 0), .int (iI 0), .int (iI 0), .int (iI 0), .int (iI 0), .ref xa4]))] H := hP
  have hD : va_D A [(h0, .inr (8, [.long (lI 0), .long (lI 0), .long (lI 0), .int (iI 0), .int (iI 0), .int (iI 0), .int (iI 0), .int (iI 0), .ref xd1, .ref xd2, .int (iI 0), .ref xd3, .ref xd4, .ref xd5, .ref xd6])), (h1, .inr (2, [.ref xa1, .ref xa2, .ref xa3, .ref xa5, .ref xa8, .int (iI 0), .int (iI 0), .int (iI 0)])), (xa1, .inl (k 0, 5, .inl (aI (upI (upI (upI (upI (upI aZ 0 0) 1 0) 2 10) 3 500) 4 0)))), (xa3, .inr (7, [.int (iI 0), .int (iI 0), .int (iI 0), .long (lI 0), .int (iI 0), .int (iI 0), .int (iI 0), .long (lI 0), .long (lI 0), .long (lI 0), .long (lI 0), .long (lI 0), .int (iI 0), .int (iI 0), .int (iI 0), .int (iI 0), .ref xa4]))] := hD
  refine lv_aload_n hx hb dX7_startFrom_53 rfl (lv_at hl 1 rfl) ?_
  refine lv_aload_n hx hb dX7_startFrom_54 rfl (lv_at hl 2 rfl) ?_
  refine va_getN (D := (dC, dI)) (ci := 2) (v := .ref xa1) (C := RX0) (T := TX0) (N := 8) hx hb hts (fun _ h => List.mem_cons_of_mem _ (inlX0 _ h)) hown hK hP 1 rfl rfl 0 (by decide) (va_Nw.use rfl (hNw _ (List.mem_of_getElem? (i := 48) rfl))) (fun _ h9 => h9) rfl dX7_startFrom_55 ?_
  refine q_iconst hx hb dX7_startFrom_58 ?_
  refine q_iald (z := 0) hx hb hK hP 2 0 rfl rfl (by omega) rfl dX7_startFrom_59 ?_
  refine q_iconst hx hb dX7_startFrom_60 ?_
  refine q_icmp_ne (tgt := 68) hx hb dX7_startFrom_61 (by decide) (by omega) (fun _ => ?_) (fun q => absurd q (by omega))
  refine q_iconst hx hb dX7_startFrom_68 ?_
  refine va_put (D := (dC, dI)) (ci := 8) (v := .int (iI 0)) (ty := .boolean) (C := RX7) (T := TX7) (N := 15) hx hb hts (fun _ h => List.mem_cons_of_mem _ (inlX7 _ h)) tyX7 tyX7_ok nmX7 hown hK hP hD hS 0 rfl rfl 6 (by decide) (hts (.fieldLink RX7 74 "LoanServicing$Projection" "isCapitalizing" "Z") (List.mem_cons_of_mem _ (wl_10 (List.mem_of_getElem? (i := 17) rfl)))) (fun _ h9 => h9) rfl (by decide +kernel) (by decide) (by decide) (Nat.le_of_ble_eq_true rfl) dX7_startFrom_69 (fun H locs hP hD hS => ?_)
  have hP : va_P (dC, dI) vwCl [(h0, .inr (8, [.long (lI 0), .long (lI 0), .long (lI 0), .int (iI 0), .int (iI 0), .int (iI 0), .int (iI 0), .int (iI 0), .ref xd1, .ref xd2, .int (iI 0), .ref xd3, .ref xd4, .ref xd5, .ref xd6])), (h1, .inr (2, [.ref xa1, .ref xa2, .ref xa3, .ref xa5, .ref xa8, .int (iI 0), .int (iI 0), .int (iI 0)])), (xa1, .inl (k 0, 5, .inl (aI (upI (upI (upI (upI (upI aZ 0 0) 1 0) 2 10) 3 500) 4 0)))), (xa3, .inr (7, [.int (iI 0), .int (iI 0), .int (iI 0), .long (lI 0), .int (iI 0), .int (iI 0), .int (iI 0), .long (lI 0), .long (lI 0), .long (lI 0), .long (lI 0), .long (lI 0), .int (iI 0), .int (iI 0), .int (iI 0), .int (iI 0), .ref xa4]))] H := hP
  have hD : va_D A [(h0, .inr (8, [.long (lI 0), .long (lI 0), .long (lI 0), .int (iI 0), .int (iI 0), .int (iI 0), .int (iI 0), .int (iI 0), .ref xd1, .ref xd2, .int (iI 0), .ref xd3, .ref xd4, .ref xd5, .ref xd6])), (h1, .inr (2, [.ref xa1, .ref xa2, .ref xa3, .ref xa5, .ref xa8, .int (iI 0), .int (iI 0), .int (iI 0)])), (xa1, .inl (k 0, 5, .inl (aI (upI (upI (upI (upI (upI aZ 0 0) 1 0) 2 10) 3 500) 4 0)))), (xa3, .inr (7, [.int (iI 0), .int (iI 0), .int (iI 0), .long (lI 0), .int (iI 0), .int (iI 0), .int (iI 0), .long (lI 0), .long (lI 0), .long (lI 0), .long (lI 0), .long (lI 0), .int (iI 0), .int (iI 0), .int (iI 0), .int (iI 0), .ref xa4]))] := hD
  refine lv_aload_n hx hb dX7_startFrom_72 rfl (lv_at hl 1 rfl) ?_
  refine lv_iload_n hx hb dX7_startFrom_73 rfl (lv_at hl 3 rfl) ?_
  refine lv_aload_n hx hb dX7_startFrom_74 rfl (lv_at hl 1 rfl) ?_
  refine va_get (D := (dC, dI)) (ci := 8) (v := .int (iI 0)) (C := RX7) (T := TX7) (N := 15) hx hb hts (fun _ h => List.mem_cons_of_mem _ (inlX7 _ h)) hown hK hP 0 rfl rfl 5 (by decide) (hts (.fieldLink RX7 70 "LoanServicing$Projection" "holidays" "I") (List.mem_cons_of_mem _ (wl_10 (List.mem_of_getElem? (i := 16) rfl)))) (fun _ h9 => h9) rfl dX7_startFrom_75 ?_
  refine ki (va_runS (As := [.int (iI 0)]) (rest := [.int (iI 0), .ref h0]) hSF ((c_bitCount_0 l dC dI k ) H.size) (va_cwS 1 hts gX7_startFrom_J6_bitCount_0f7a4 rfl rfl rfl (by decide +kernel) ⟨Nat.le_of_ble_eq_true rfl, Nat.le_of_ble_eq_true rfl⟩) (preS hP hD hE hS hA [] rfl (by decide)) rfl rfl hl.1 rfl (lv_room (Nat.le_of_ble_eq_true rfl)) dX7_startFrom_78 ⟨Nat.le_of_ble_eq_true rfl, Nat.le_of_ble_eq_true rfl⟩) hP hD hS hA [] [0, 1, 2, 3] rfl (wr := [(h0, .inr (8, [.long (lI 0), .long (lI 0), .long (lI 0), .int (iI 0), .int (iI 0), .int (iI 0), .int (iI 0), .int (iI 0), .ref xd1, .ref xd2, .int (iI 0), .ref xd3, .ref xd4, .ref xd5, .ref xd6])), (h1, .inr (2, [.ref xa1, .ref xa2, .ref xa3, .ref xa5, .ref xa8, .int (iI 0), .int (iI 0), .int (iI 0)])), (xa1, .inl (k 0, 5, .inl (aI (upI (upI (upI (upI (upI aZ 0 0) 1 0) 2 10) 3 500) 4 0)))), (xa3, .inr (7, [.int (iI 0), .int (iI 0), .int (iI 0), .long (lI 0), .int (iI 0), .int (iI 0), .int (iI 0), .long (lI 0), .long (lI 0), .long (lI 0), .long (lI 0), .long (lI 0), .int (iI 0), .int (iI 0), .int (iI 0), .int (iI 0), .ref xa4]))]) rfl (by decide) (by decide) (fun r78 _ H locs hw hP hD hS => ?_)
  obtain rfl : r78 = (iI 0) := hw
  have hP : va_P (dC, dI) vwCl [(h0, .inr (8, [.long (lI 0), .long (lI 0), .long (lI 0), .int (iI 0), .int (iI 0), .int (iI 0), .int (iI 0), .int (iI 0), .ref xd1, .ref xd2, .int (iI 0), .ref xd3, .ref xd4, .ref xd5, .ref xd6])), (h1, .inr (2, [.ref xa1, .ref xa2, .ref xa3, .ref xa5, .ref xa8, .int (iI 0), .int (iI 0), .int (iI 0)])), (xa1, .inl (k 0, 5, .inl (aI (upI (upI (upI (upI (upI aZ 0 0) 1 0) 2 10) 3 500) 4 0)))), (xa3, .inr (7, [.int (iI 0), .int (iI 0), .int (iI 0), .long (lI 0), .int (iI 0), .int (iI 0), .int (iI 0), .long (lI 0), .long (lI 0), .long (lI 0), .long (lI 0), .long (lI 0), .int (iI 0), .int (iI 0), .int (iI 0), .int (iI 0), .ref xa4]))] H := hP
  have hD : va_D A [(h0, .inr (8, [.long (lI 0), .long (lI 0), .long (lI 0), .int (iI 0), .int (iI 0), .int (iI 0), .int (iI 0), .int (iI 0), .ref xd1, .ref xd2, .int (iI 0), .ref xd3, .ref xd4, .ref xd5, .ref xd6])), (h1, .inr (2, [.ref xa1, .ref xa2, .ref xa3, .ref xa5, .ref xa8, .int (iI 0), .int (iI 0), .int (iI 0)])), (xa1, .inl (k 0, 5, .inl (aI (upI (upI (upI (upI (upI aZ 0 0) 1 0) 2 10) 3 500) 4 0)))), (xa3, .inr (7, [.int (iI 0), .int (iI 0), .int (iI 0), .long (lI 0), .int (iI 0), .int (iI 0), .int (iI 0), .long (lI 0), .long (lI 0), .long (lI 0), .long (lI 0), .long (lI 0), .int (iI 0), .int (iI 0), .int (iI 0), .int (iI 0), .ref xa4]))] := hD
  refine q_iadd (z := 0) hx hb dX7_startFrom_81 (by omega) ?_
  refine q_bipush (z := 84) hx hb dX7_startFrom_82 (by decide) ?_
  refine va_mmin hx hb (hml.trans hl.1.symm) hown (hts (.methodLink RX7 84 Lib.Math.min.name) (List.mem_cons_of_mem _ (wl_10 (List.mem_of_getElem? (i := 18) rfl)))) (hts (.static Lib.Math.min.name) (List.mem_cons_of_mem _ (wl_6 (List.mem_of_getElem? (i := 21) rfl)))) (hts (.initialized "java/lang/Math") (List.mem_cons_of_mem _ (wl_6 (List.mem_of_getElem? (i := 22) rfl)))) (hts (.code Lib.Math.min.name Lib.Math.min.code 2 (some .int)) (List.mem_cons_of_mem _ (wl_6 (List.mem_of_getElem? (i := 23) rfl)))) (Nat.le_of_ble_eq_true rfl) (Nat.le_of_ble_eq_true rfl) (Nat.le_of_ble_eq_true rfl) (Nat.le_of_ble_eq_true rfl) dX7_startFrom_84 ?_
  rw [q_mmin (a := 0) (b := 84) (z := 0) (by omega) (by omega)]
  refine va_put (D := (dC, dI)) (ci := 8) (v := .int (iI 0)) (ty := .int) (C := RX7) (T := TX7) (N := 15) hx hb hts (fun _ h => List.mem_cons_of_mem _ (inlX7 _ h)) tyX7 tyX7_ok nmX7 hown hK hP hD hS 0 rfl rfl 7 (by decide) (hts (.fieldLink RX7 90 "LoanServicing$Projection" "dueDays" "I") (List.mem_cons_of_mem _ (wl_10 (List.mem_of_getElem? (i := 19) rfl)))) (fun _ h9 => h9) rfl (by decide +kernel) rfl rfl (Nat.le_of_ble_eq_true rfl) dX7_startFrom_87 (fun H locs hP hD hS => ?_)
  have hP : va_P (dC, dI) vwCl [(h0, .inr (8, [.long (lI 0), .long (lI 0), .long (lI 0), .int (iI 0), .int (iI 0), .int (iI 0), .int (iI 0), .int (iI 0), .ref xd1, .ref xd2, .int (iI 0), .ref xd3, .ref xd4, .ref xd5, .ref xd6])), (h1, .inr (2, [.ref xa1, .ref xa2, .ref xa3, .ref xa5, .ref xa8, .int (iI 0), .int (iI 0), .int (iI 0)])), (xa1, .inl (k 0, 5, .inl (aI (upI (upI (upI (upI (upI aZ 0 0) 1 0) 2 10) 3 500) 4 0)))), (xa3, .inr (7, [.int (iI 0), .int (iI 0), .int (iI 0), .long (lI 0), .int (iI 0), .int (iI 0), .int (iI 0), .long (lI 0), .long (lI 0), .long (lI 0), .long (lI 0), .long (lI 0), .int (iI 0), .int (iI 0), .int (iI 0), .int (iI 0), .ref xa4]))] H := hP
  have hD : va_D A [(h0, .inr (8, [.long (lI 0), .long (lI 0), .long (lI 0), .int (iI 0), .int (iI 0), .int (iI 0), .int (iI 0), .int (iI 0), .ref xd1, .ref xd2, .int (iI 0), .ref xd3, .ref xd4, .ref xd5, .ref xd6])), (h1, .inr (2, [.ref xa1, .ref xa2, .ref xa3, .ref xa5, .ref xa8, .int (iI 0), .int (iI 0), .int (iI 0)])), (xa1, .inl (k 0, 5, .inl (aI (upI (upI (upI (upI (upI aZ 0 0) 1 0) 2 10) 3 500) 4 0)))), (xa3, .inr (7, [.int (iI 0), .int (iI 0), .int (iI 0), .long (lI 0), .int (iI 0), .int (iI 0), .int (iI 0), .long (lI 0), .long (lI 0), .long (lI 0), .long (lI 0), .long (lI 0), .int (iI 0), .int (iI 0), .int (iI 0), .int (iI 0), .ref xa4]))] := hD
  refine lv_aload_n hx hb dX7_startFrom_90 rfl (lv_at hl 2 rfl) ?_
  refine va_getN (D := (dC, dI)) (ci := 2) (v := .int (iI 0)) (C := RX0) (T := TX0) (N := 8) hx hb hts (fun _ h => List.mem_cons_of_mem _ (inlX0 _ h)) hown hK hP 1 rfl rfl 5 (by decide) (va_Nw.use rfl (hNw _ (List.mem_of_getElem? (i := 49) rfl))) (fun _ h9 => h9) rfl dX7_startFrom_91 ?_
  refine lv_istore (lv' := [(4, .int (iI 0)), (3, .ref xa3), (0, .ref h0), (1, .ref h1), (2, .int (iI 0))]) hx hb dX7_startFrom_94 hl (by decide) rfl (fun ls hl => ?_)
  refine q_iconst hx hb dX7_startFrom_96 ?_
  refine lv_istore (lv' := [(5, .int (iI 0)), (4, .int (iI 0)), (3, .ref xa3), (0, .ref h0), (1, .ref h1), (2, .int (iI 0))]) hx hb dX7_startFrom_97 hl (by decide) rfl (fun ls hl => ?_)
  refine lv_iload hx hb dX7_startFrom_99 (lv_at hl 0 rfl) ?_
  refine lv_aload_n hx hb dX7_startFrom_101 rfl (lv_at hl 3 rfl) ?_
  refine va_get (D := (dC, dI)) (ci := 8) (v := .int (iI 0)) (C := RX7) (T := TX7) (N := 15) hx hb hts (fun _ h => List.mem_cons_of_mem _ (inlX7 _ h)) hown hK hP 0 rfl rfl 7 (by decide) (hts (.fieldLink RX7 90 "LoanServicing$Projection" "dueDays" "I") (List.mem_cons_of_mem _ (wl_10 (List.mem_of_getElem? (i := 19) rfl)))) (fun _ h9 => h9) rfl dX7_startFrom_102 ?_
  refine q_icmp_ge (tgt := 174) hx hb dX7_startFrom_105 (by decide) (by omega) (fun _ => ?_) (fun q => absurd q (by omega))
  rw [hQ]
  refine W.widen (k := 0) (n := 0) (Nat.le_of_ble_eq_true rfl) (Nat.le_of_ble_eq_true rfl) ?_
  exact W.vret hx hb hr (fun t ht hW => ⟨⟨(), rfl, trivial, by rw [ht]; exact hP.sub [0, 1, 2, 3] rfl, by rw [hAe]; exact hD.sub [0, 1, 2, 3] (by decide) rfl⟩, hS.F ht⟩) hS.2.2 dX7_startFrom_174
set_option maxHeartbeats 4000000 in
set_option maxRecDepth 100000 in
/-- project without a loan -/
theorem c_X7_project_0 (l : Launch) (dC : Nat → ClassId) (dI : Nat → Nat → Nat) (k : Nat → ClassId) (h0 xd1 xd2 xd3 xd4 xd5 xd6 : Nat) (sz : Nat) : Met l yX7_project woX7_project ({ frames := 0, cells := 0, slots := 0, locals := 0 } : Room) (PcW (dC, dI) k [.ref h0, .long (lI 0), .int (iI 0)] [(h0, .inr (8, [.long (lI 0), .long (lI 0), .long (lI 0), .int (iI 0), .int (iI 0), .int (iI 0), .int (iI 0), .int (iI 0), .ref xd1, .ref xd2, .int (iI 0), .ref xd3, .ref xd4, .ref xd5, .ref xd6]))] sz) (va_Qv (fun (_ : Unit) => True) (QB (dC, dI) [(h0, .inr (8, [.long (lI 0), .long (lI 0), .long (lI 0), .int (iI 0), .int (iI 0), .int (iI 0), .int (iI 0), .int (iI 0), .ref xd1, .ref xd2, .int (iI 0), .ref xd3, .ref xd4, .ref xd5, .ref xd6]))] (fun _ => [(h0, .inr (8, [.long (lI 0), .long (lI 0), .long (lI 0), .int (iI 0), .int (iI 0), .int (iI 0), .int (iI 0), .int (iI 0), .ref xd1, .ref xd2, .int (iI 0), .ref xd3, .ref xd4, .ref xd5, .ref xd6]))]) sz) (va_A [(h0, .inr (8, [.long (lI 0), .long (lI 0), .long (lI 0), .int (iI 0), .int (iI 0), .int (iI 0), .int (iI 0), .int (iI 0), .ref xd1, .ref xd2, .int (iI 0), .ref xd3, .ref xd4, .ref xd5, .ref xd6]))] sz)) 0 0 (va_A [(h0, .inr (8, [.long (lI 0), .long (lI 0), .long (lI 0), .int (iI 0), .int (iI 0), .int (iI 0), .int (iI 0), .int (iI 0), .ref xd1, .ref xd2, .int (iI 0), .ref xd3, .ref xd4, .ref xd5, .ref xd6]))] sz) := by
  refine Met.ofW (cc := cX7_project) (maxL := 18) (ret := none) (by decide) rfl ?_
  intro p e s mI args below meth cO s₁ B hml hv
  obtain ⟨rfl, rfl, hP, hD0, hE⟩ := hv
  have hx := B.exec
  have hb := B.bytes
  have hr := B.returns
  have hts := atoms_spec (ws := woX7_project) B.pre
  have hown : s.vm.findClass RX7 = some mI.cls := findClass_of_methodNamed B.named
  have hlocks := B.notSynchronized
  have hD := hD0.self (sz := s.heap.size)
  generalize hAe : va_A [(h0, .inr (8, [.long (lI 0), .long (lI 0), .long (lI 0), .int (iI 0), .int (iI 0), .int (iI 0), .int (iI 0), .int (iI 0), .ref xd1, .ref xd2, .int (iI 0), .ref xd3, .ref xd4, .ref xd5, .ref xd6]))] s.heap.size = A at hD hE ⊢
  have hA : ∀ q : Nat, s.heap.size ≤ q → A q := fun q h => by rw [← hAe]; exact Or.inr h
  have hS : va_S A s.heap s.heap [] := va_S.rf
  obtain ⟨hK, hNw, hNc, hZs, hAO1, hAO2⟩ := id hE
  have hSF : CallFix p mI cO cX7_project 18 s ([.ref h0, .long (lI 0), .int (iI 0)] : List Value).toArray woX7_project RX7 := ⟨hx, hb, hml, hown, hts⟩
  have hl := lv_entry ([.ref h0, .long (lI 0), .int (iI 0)] : List Value) (n := 18) (Nat.le_of_ble_eq_true rfl)
  rw [lg_entry_eq]
  generalize (lg_sl ([.ref h0, .long (lI 0), .int (iI 0)] : List Value) ++ List.replicate (18 - (lg_sl ([.ref h0, .long (lI 0), .int (iI 0)] : List Value)).length) Slot.unset).toArray = ls at hl ⊢
  have hl : lv_has ls 18 [(0, .ref h0), (1, .long (lI 0)), (3, .int (iI 0))] := hl
  refine W_gen (fun Q hQ => ?_)
  change W p l e ({ frames := 0, cells := 0, slots := 0, locals := 0 } : Room) s mI _ below meth cO s.heap [] 0 0 Q _
  have hP : va_P (dC, dI) vwCl [(h0, .inr (8, [.long (lI 0), .long (lI 0), .long (lI 0), .int (iI 0), .int (iI 0), .int (iI 0), .int (iI 0), .int (iI 0), .ref xd1, .ref xd2, .int (iI 0), .ref xd3, .ref xd4, .ref xd5, .ref xd6]))] s.heap := hP
  refine lv_aload_n hx hb dX7_project_0 rfl (lv_at hl 0 rfl) ?_
  refine va_get (D := (dC, dI)) (ci := 8) (v := .long (lI 0)) (C := RX7) (T := TX7) (N := 15) hx hb hts (fun _ h => List.mem_cons_of_mem _ (inlX7 _ h)) hown hK hP 0 rfl rfl 0 (by decide) (hts (.fieldLink RX7 43 "LoanServicing$Projection" "firstPrincipal" "J") (List.mem_cons_of_mem _ (wl_10 (List.mem_of_getElem? (i := 11) rfl)))) (fun _ h9 => h9) rfl dX7_project_1 ?_
  refine lv_lstore (lv' := [(4, .long (lI 0)), (0, .ref h0), (1, .long (lI 0)), (3, .int (iI 0))]) hx hb dX7_project_4 hl (by decide) rfl (fun ls hl => ?_)
  refine lv_aload_n hx hb dX7_project_6 rfl (lv_at hl 1 rfl) ?_
  refine va_get (D := (dC, dI)) (ci := 8) (v := .long (lI 0)) (C := RX7) (T := TX7) (N := 15) hx hb hts (fun _ h => List.mem_cons_of_mem _ (inlX7 _ h)) hown hK hP 0 rfl rfl 1 (by decide) (hts (.fieldLink RX7 49 "LoanServicing$Projection" "firstInterest" "J") (List.mem_cons_of_mem _ (wl_10 (List.mem_of_getElem? (i := 12) rfl)))) (fun _ h9 => h9) rfl dX7_project_7 ?_
  refine lv_lstore (lv' := [(6, .long (lI 0)), (4, .long (lI 0)), (0, .ref h0), (1, .long (lI 0)), (3, .int (iI 0))]) hx hb dX7_project_10 hl (by decide) rfl (fun ls hl => ?_)
  refine lv_aload_n hx hb dX7_project_12 rfl (lv_at hl 2 rfl) ?_
  refine va_get (D := (dC, dI)) (ci := 8) (v := .long (lI 0)) (C := RX7) (T := TX7) (N := 15) hx hb hts (fun _ h => List.mem_cons_of_mem _ (inlX7 _ h)) hown hK hP 0 rfl rfl 2 (by decide) (hts (.fieldLink RX7 55 "LoanServicing$Projection" "firstUnits" "J") (List.mem_cons_of_mem _ (wl_10 (List.mem_of_getElem? (i := 13) rfl)))) (fun _ h9 => h9) rfl dX7_project_13 ?_
  refine lv_lstore (lv' := [(8, .long (lI 0)), (6, .long (lI 0)), (4, .long (lI 0)), (0, .ref h0), (1, .long (lI 0)), (3, .int (iI 0))]) hx hb dX7_project_16 hl (by decide) rfl (fun ls hl => ?_)
  refine lv_aload_n hx hb dX7_project_18 rfl (lv_at hl 3 rfl) ?_
  refine q_iconst hx hb dX7_project_19 ?_
  refine va_put (D := (dC, dI)) (ci := 8) (v := .int (iI 0)) (ty := .int) (C := RX7) (T := TX7) (N := 15) hx hb hts (fun _ h => List.mem_cons_of_mem _ (inlX7 _ h)) tyX7 tyX7_ok nmX7 hown hK hP hD hS 0 rfl rfl 10 (by decide) (hts (.fieldLink RX7 110 "LoanServicing$Projection" "payments" "I") (List.mem_cons_of_mem _ (wl_11 (List.mem_of_getElem? (i := 22) rfl)))) (fun _ h9 => h9) rfl (by decide +kernel) rfl rfl (Nat.le_of_ble_eq_true rfl) dX7_project_20 (fun H locs hP hD hS => ?_)
  have hP : va_P (dC, dI) vwCl [(h0, .inr (8, [.long (lI 0), .long (lI 0), .long (lI 0), .int (iI 0), .int (iI 0), .int (iI 0), .int (iI 0), .int (iI 0), .ref xd1, .ref xd2, .int (iI 0), .ref xd3, .ref xd4, .ref xd5, .ref xd6]))] H := hP
  have hD : va_D A [(h0, .inr (8, [.long (lI 0), .long (lI 0), .long (lI 0), .int (iI 0), .int (iI 0), .int (iI 0), .int (iI 0), .int (iI 0), .ref xd1, .ref xd2, .int (iI 0), .ref xd3, .ref xd4, .ref xd5, .ref xd6]))] := hD
  refine q_iconst hx hb dX7_project_23 ?_
  refine lv_istore (lv' := [(10, .int (iI 0)), (8, .long (lI 0)), (6, .long (lI 0)), (4, .long (lI 0)), (0, .ref h0), (1, .long (lI 0)), (3, .int (iI 0))]) hx hb dX7_project_24 hl (by decide) rfl (fun ls hl => ?_)
  refine lv_iload hx hb dX7_project_26 (lv_at hl 0 rfl) ?_
  refine lv_aload_n hx hb dX7_project_28 rfl (lv_at hl 4 rfl) ?_
  refine va_get (D := (dC, dI)) (ci := 8) (v := .int (iI 0)) (C := RX7) (T := TX7) (N := 15) hx hb hts (fun _ h => List.mem_cons_of_mem _ (inlX7 _ h)) hown hK hP 0 rfl rfl 7 (by decide) (hts (.fieldLink RX7 90 "LoanServicing$Projection" "dueDays" "I") (List.mem_cons_of_mem _ (wl_10 (List.mem_of_getElem? (i := 19) rfl)))) (fun _ h9 => h9) rfl dX7_project_29 ?_
  refine q_icmp_ge (tgt := 246) hx hb dX7_project_32 (by decide) (by omega) (fun _ => ?_) (fun q => absurd q (by omega))
  rw [hQ]
  refine W.widen (k := 0) (n := 0) (Nat.le_of_ble_eq_true rfl) (Nat.le_of_ble_eq_true rfl) ?_
  exact W.vret hx hb hr (fun t ht hW => ⟨⟨(), rfl, trivial, by rw [ht]; exact hP.sub [0] rfl, by rw [hAe]; exact hD.sub [0] (by decide) rfl⟩, hS.F ht⟩) hS.2.2 dX7_project_246
