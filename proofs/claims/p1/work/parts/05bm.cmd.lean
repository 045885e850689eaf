theorem gX0_carryOut_X0_changeRule : GoodIn woX0_carryOut (wsV RX0 147 RX0 yX0_changeRule woX0_changeRule) := go_V (wl_22 (List.mem_of_getElem? (i := 2) rfl)) (wl_21 (List.mem_of_getElem? (i := 23) rfl)) (wl_22 (List.mem_of_getElem? (i := 0) rfl)) (wl_22 (List.mem_of_getElem? (i := 1) rfl)) (wl_1 (List.mem_of_getElem? (i := 16) rfl))
theorem gX0_carryOut_X0_passDays : GoodIn woX0_carryOut (wsV RX0 121 RX0 yX0_passDays woX0_passDays) := go_V (wl_18 (List.mem_of_getElem? (i := 4) rfl)) (wl_18 (List.mem_of_getElem? (i := 1) rfl)) (wl_18 (List.mem_of_getElem? (i := 2) rfl)) (wl_18 (List.mem_of_getElem? (i := 3) rfl)) (wl_1 (List.mem_of_getElem? (i := 16) rfl))
theorem gX0_chargeLateBills_X1_becomeLate : GoodIn woX0_chargeLateBills (wsV RX0 165 RX1 yX1_becomeLate woX1_becomeLate) := go_V (wl_18 (List.mem_of_getElem? (i := 12) rfl)) (wl_18 (List.mem_of_getElem? (i := 9) rfl)) (wl_18 (List.mem_of_getElem? (i := 10) rfl)) (wl_18 (List.mem_of_getElem? (i := 11) rfl)) (wl_3 (List.mem_of_getElem? (i := 4) rfl))
theorem gX0_passDays_X0_chargeLateBills : GoodIn woX0_passDays (wsV RX0 151 RX0 yX0_chargeLateBills woX0_chargeLateBills) := go_V (wl_18 (List.mem_of_getElem? (i := 8) rfl)) (wl_18 (List.mem_of_getElem? (i := 5) rfl)) (wl_18 (List.mem_of_getElem? (i := 6) rfl)) (wl_18 (List.mem_of_getElem? (i := 7) rfl)) (wl_1 (List.mem_of_getElem? (i := 16) rfl))
theorem gX0_passDays_X6_accrue : GoodIn woX0_passDays (wsV RX0 158 RX6 yX6_accrue woX6_accrue) := go_V (wl_19 (List.mem_of_getElem? (i := 0) rfl)) (wl_18 (List.mem_of_getElem? (i := 21) rfl)) (wl_18 (List.mem_of_getElem? (i := 22) rfl)) (wl_18 (List.mem_of_getElem? (i := 23) rfl)) (wl_3 (List.mem_of_getElem? (i := 0) rfl))
theorem gX10_command_X0_carryOut : GoodIn woX10_command (wsV RX10 132 RX0 yX0_carryOut woX0_carryOut) := go_V (wl_18 (List.mem_of_getElem? (i := 0) rfl)) (wl_17 (List.mem_of_getElem? (i := 21) rfl)) (wl_17 (List.mem_of_getElem? (i := 22) rfl)) (wl_17 (List.mem_of_getElem? (i := 23) rfl)) (wl_1 (List.mem_of_getElem? (i := 16) rfl))
theorem gX10_command_X0_refusal : GoodIn woX10_command (wsV RX10 121 RX0 yX0_refusal woX0_refusal) := go_V (wl_16 (List.mem_of_getElem? (i := 19) rfl)) (wl_16 (List.mem_of_getElem? (i := 16) rfl)) (wl_16 (List.mem_of_getElem? (i := 17) rfl)) (wl_16 (List.mem_of_getElem? (i := 18) rfl)) (wl_1 (List.mem_of_getElem? (i := 16) rfl))
theorem gX10_command_X10_refuse : GoodIn woX10_command (va_wsS RX10 124 yX10_refuse woX10_refuse) := go_S (wl_17 (List.mem_of_getElem? (i := 12) rfl)) (wl_17 (List.mem_of_getElem? (i := 10) rfl)) (wl_17 (List.mem_of_getElem? (i := 11) rfl)) (wl_1 (List.mem_of_getElem? (i := 2) rfl))
theorem gX10_command_X10_remember : GoodIn woX10_command (wsV RX10 72 RX10 yX10_remember woX10_remember) := go_V (wl_6 (List.mem_of_getElem? (i := 17) rfl)) (wl_6 (List.mem_of_getElem? (i := 14) rfl)) (wl_6 (List.mem_of_getElem? (i := 15) rfl)) (wl_6 (List.mem_of_getElem? (i := 16) rfl)) (wl_1 (List.mem_of_getElem? (i := 2) rfl))
theorem gX10_command_X3_note : GoodIn woX10_command (wsV RX10 257 RX3 yX3_note woX3_note) := go_V (wl_17 (List.mem_of_getElem? (i := 20) rfl)) (wl_17 (List.mem_of_getElem? (i := 17) rfl)) (wl_17 (List.mem_of_getElem? (i := 18) rfl)) (wl_17 (List.mem_of_getElem? (i := 19) rfl)) (wl_1 (List.mem_of_getElem? (i := 23) rfl))
theorem gX6_accrue_X2_counted : GoodIn woX6_accrue (va_wsS RX6 79 yX2_counted woX2_counted) := go_S (wl_11 (List.mem_of_getElem? (i := 6) rfl)) (wl_19 (List.mem_of_getElem? (i := 1) rfl)) (wl_11 (List.mem_of_getElem? (i := 5) rfl)) (wl_9 (List.mem_of_getElem? (i := 13) rfl))
set_option maxHeartbeats 4000000 in
set_option maxRecDepth 100000 in
/-- refusal of kind 10: 1 -/
theorem c_X0_refusal_10_1 (l : Launch) (dC : Nat → ClassId) (dI : Nat → Nat → Nat) (k : Nat → ClassId) (h0 xa1 xa2 xa3 xa4 xa5 xa6 xa7 xa8 xa9 xa10 xa11 : Nat) (xv : Int) (hv9 : -2147483648 ≤ xv ∧ xv ≤ 2147483647) (hv : ¬ (0 < xv)) (sz : Nat) : Met l yX0_refusal woX0_refusal ({ frames := 1, cells := 0, slots := 0, locals := 21 } : Room) (PcW (dC, dI) k [.ref h0, .int (iI 10), .int (iI xv)] [(h0, .inr (2, [.ref xa1, .ref xa2, .ref xa3, .ref xa5, .ref xa8, .int (iI 0), .int (iI 0), .int (iI 0)])), (xa3, .inr (7, [.int (iI 0), .int (iI 0), .int (iI 0), .long (lI 0), .int (iI 0), .int (iI 0), .int (iI 0), .long (lI 0), .long (lI 0), .long (lI 0), .long (lI 0), .long (lI 0), .int (iI 0), .int (iI 0), .int (iI 0), .int (iI 0), .ref xa4]))] sz) (va_Qi (fun (r : Int32) (_ : Unit) => r = iI 1) (QB (dC, dI) [(h0, .inr (2, [.ref xa1, .ref xa2, .ref xa3, .ref xa5, .ref xa8, .int (iI 0), .int (iI 0), .int (iI 0)])), (xa3, .inr (7, [.int (iI 0), .int (iI 0), .int (iI 0), .long (lI 0), .int (iI 0), .int (iI 0), .int (iI 0), .long (lI 0), .long (lI 0), .long (lI 0), .long (lI 0), .long (lI 0), .int (iI 0), .int (iI 0), .int (iI 0), .int (iI 0), .ref xa4]))] (fun _ => [(h0, .inr (2, [.ref xa1, .ref xa2, .ref xa3, .ref xa5, .ref xa8, .int (iI 0), .int (iI 0), .int (iI 0)])), (xa3, .inr (7, [.int (iI 0), .int (iI 0), .int (iI 0), .long (lI 0), .int (iI 0), .int (iI 0), .int (iI 0), .long (lI 0), .long (lI 0), .long (lI 0), .long (lI 0), .long (lI 0), .int (iI 0), .int (iI 0), .int (iI 0), .int (iI 0), .ref xa4]))]) sz) (va_A [(h0, .inr (2, [.ref xa1, .ref xa2, .ref xa3, .ref xa5, .ref xa8, .int (iI 0), .int (iI 0), .int (iI 0)])), (xa3, .inr (7, [.int (iI 0), .int (iI 0), .int (iI 0), .long (lI 0), .int (iI 0), .int (iI 0), .int (iI 0), .long (lI 0), .long (lI 0), .long (lI 0), .long (lI 0), .long (lI 0), .int (iI 0), .int (iI 0), .int (iI 0), .int (iI 0), .ref xa4]))] sz)) 0 0 (va_A [(h0, .inr (2, [.ref xa1, .ref xa2, .ref xa3, .ref xa5, .ref xa8, .int (iI 0), .int (iI 0), .int (iI 0)])), (xa3, .inr (7, [.int (iI 0), .int (iI 0), .int (iI 0), .long (lI 0), .int (iI 0), .int (iI 0), .int (iI 0), .long (lI 0), .long (lI 0), .long (lI 0), .long (lI 0), .long (lI 0), .int (iI 0), .int (iI 0), .int (iI 0), .int (iI 0), .ref xa4]))] sz) := by
  refine Met.ofW (cc := cX0_refusal) (maxL := 4) (ret := (some .int)) (by decide) rfl ?_
  intro p e s mI args below meth cO s₁ B hml hv
  obtain ⟨rfl, rfl, hP, hD0, hE⟩ := hv
  have hx := B.exec
  have hb := B.bytes
  have hr := B.returns
  have hts := atoms_spec (ws := woX0_refusal) B.pre
  have hown : s.vm.findClass RX0 = some mI.cls := findClass_of_methodNamed B.named
  have hlocks := B.notSynchronized
  have hD := hD0.self (sz := s.heap.size)
  generalize hAe : va_A [(h0, .inr (2, [.ref xa1, .ref xa2, .ref xa3, .ref xa5, .ref xa8, .int (iI 0), .int (iI 0), .int (iI 0)])), (xa3, .inr (7, [.int (iI 0), .int (iI 0), .int (iI 0), .long (lI 0), .int (iI 0), .int (iI 0), .int (iI 0), .long (lI 0), .long (lI 0), .long (lI 0), .long (lI 0), .long (lI 0), .int (iI 0), .int (iI 0), .int (iI 0), .int (iI 0), .ref xa4]))] s.heap.size = A at hD hE ⊢
  have hA : ∀ q : Nat, s.heap.size ≤ q → A q := fun q h => by rw [← hAe]; exact Or.inr h
  have hS : va_S A s.heap s.heap [] := va_S.rf
  obtain ⟨hK, hNw, hNc, hZs, hAO1, hAO2⟩ := id hE
  have hSF : CallFix p mI cO cX0_refusal 4 s ([.ref h0, .int (iI 10), .int (iI xv)] : List Value).toArray woX0_refusal RX0 := ⟨hx, hb, hml, hown, hts⟩
  have hl := lv_entry ([.ref h0, .int (iI 10), .int (iI xv)] : List Value) (n := 4) (Nat.le_of_ble_eq_true rfl)
  rw [lg_entry_eq]
  generalize (lg_sl ([.ref h0, .int (iI 10), .int (iI xv)] : List Value) ++ List.replicate (4 - (lg_sl ([.ref h0, .int (iI 10), .int (iI xv)] : List Value)).length) Slot.unset).toArray = ls at hl ⊢
  have hl : lv_has ls 4 [(0, .ref h0), (1, .int (iI 10)), (2, .int (iI xv))] := hl
  refine W_gen (fun Q hQ => ?_)
  change W p l e ({ frames := 1, cells := 0, slots := 0, locals := 21 } : Room) s mI _ below meth cO s.heap [] 0 0 Q _
  have hP : va_P (dC, dI) vwCl [(h0, .inr (2, [.ref xa1, .ref xa2, .ref xa3, .ref xa5, .ref xa8, .int (iI 0), .int (iI 0), .int (iI 0)])), (xa3, .inr (7, [.int (iI 0), .int (iI 0), .int (iI 0), .long (lI 0), .int (iI 0), .int (iI 0), .int (iI 0), .long (lI 0), .long (lI 0), .long (lI 0), .long (lI 0), .long (lI 0), .int (iI 0), .int (iI 0), .int (iI 0), .int (iI 0), .ref xa4]))] s.heap := hP
  refine lv_iload_n hx hb dX0_refusal_0 rfl (lv_at hl 1 rfl) ?_
  refine lv_tableIn (off := 200) (tgt := 201) hx hb dX0_refusal_1 (by rw [iI_toInt ⟨by omega, by omega⟩]; omega) (by rw [iI_toInt ⟨by omega, by omega⟩]; omega) (by rw [iI_toInt ⟨by omega, by omega⟩]; rfl) (by decide) ?_
  refine lv_iload_n hx hb dX0_refusal_201 rfl (lv_at hl 2 rfl) ?_
  refine q_if_gt (tgt := 209) hx hb dX0_refusal_202 (by decide) (by omega) (fun q => absurd q (by omega)) (fun _ => ?_)
  refine q_iconst hx hb dX0_refusal_205 ?_
  refine lv_goto (tgt := 210) hx hb dX0_refusal_206 (by decide) ?_
  refine lv_iload_n hx hb dX0_refusal_210 rfl (lv_at hl 2 rfl) ?_
  refine q_i2l hx hb dX0_refusal_211 (by omega) ?_
  refine lv_aload_n hx hb dX0_refusal_212 rfl (lv_at hl 0 rfl) ?_
  refine va_get (D := (dC, dI)) (ci := 2) (v := .ref xa3) (C := RX0) (T := TX0) (N := 8) hx hb hts (fun _ h => List.mem_cons_of_mem _ (inlX0 _ h)) hown hK hP 0 rfl rfl 2 (by decide) (hts (.fieldLink RX0 21 "LoanServicing$Account" "loan" "LLoanServicing$Loan;") (List.mem_cons_of_mem _ (wl_3 (List.mem_of_getElem? (i := 1) rfl)))) (fun _ h9 => h9) rfl dX0_refusal_213 ?_
  refine va_getN (D := (dC, dI)) (ci := 7) (v := .long (lI 0)) (C := RX6) (T := TX6) (N := 17) hx hb hts (fun _ h => List.mem_cons_of_mem _ (inlX6 _ h)) hown hK hP 1 rfl rfl 9 (by decide) (va_Nw.use rfl (hNw _ (List.mem_of_getElem? (i := 30) rfl))) (fun _ h9 => h9) rfl dX0_refusal_216 ?_
  refine q_lcmp hx hb dX0_refusal_219 ?_
  refine q_lif_le (tgt := 227) hx hb dX0_refusal_220 (by decide) (by omega) (fun _ => ?_) (fun q => absurd q (by omega))
  refine q_iconst hx hb dX0_refusal_227 ?_
  refine ki (va_runS (As := [.int (iI 1), .int (iI 0)]) (rest := []) hSF ((c_X0_refusalIf l dC dI k 1 0 (by omega)) s.heap.size) (va_cwS 2 hts gX0_refusal_X0_refusalIf rfl rfl rfl (by decide +kernel) ⟨Nat.le_of_ble_eq_true rfl, Nat.le_of_ble_eq_true rfl⟩) (preS hP hD hE hS hA [] rfl (by decide)) rfl rfl hl.1 rfl (lv_room (Nat.le_of_ble_eq_true rfl)) dX0_refusal_228 ⟨Nat.le_of_ble_eq_true rfl, Nat.le_of_ble_eq_true rfl⟩) hP hD hS hA [] [0, 1] rfl (wr := [(h0, .inr (2, [.ref xa1, .ref xa2, .ref xa3, .ref xa5, .ref xa8, .int (iI 0), .int (iI 0), .int (iI 0)])), (xa3, .inr (7, [.int (iI 0), .int (iI 0), .int (iI 0), .long (lI 0), .int (iI 0), .int (iI 0), .int (iI 0), .long (lI 0), .long (lI 0), .long (lI 0), .long (lI 0), .long (lI 0), .int (iI 0), .int (iI 0), .int (iI 0), .int (iI 0), .ref xa4]))]) rfl (by decide) (by decide) (fun r228 _ H locs hw hP hD hS => ?_)
  obtain rfl : r228 = iI 1 := hw.trans (by decide)
  have hP : va_P (dC, dI) vwCl [(h0, .inr (2, [.ref xa1, .ref xa2, .ref xa3, .ref xa5, .ref xa8, .int (iI 0), .int (iI 0), .int (iI 0)])), (xa3, .inr (7, [.int (iI 0), .int (iI 0), .int (iI 0), .long (lI 0), .int (iI 0), .int (iI 0), .int (iI 0), .long (lI 0), .long (lI 0), .long (lI 0), .long (lI 0), .long (lI 0), .int (iI 0), .int (iI 0), .int (iI 0), .int (iI 0), .ref xa4]))] H := hP
  have hD : va_D A [(h0, .inr (2, [.ref xa1, .ref xa2, .ref xa3, .ref xa5, .ref xa8, .int (iI 0), .int (iI 0), .int (iI 0)])), (xa3, .inr (7, [.int (iI 0), .int (iI 0), .int (iI 0), .long (lI 0), .int (iI 0), .int (iI 0), .int (iI 0), .long (lI 0), .long (lI 0), .long (lI 0), .long (lI 0), .long (lI 0), .int (iI 0), .int (iI 0), .int (iI 0), .int (iI 0), .ref xa4]))] := hD
  rw [hQ]
  refine W.widen (k := 0) (n := 0) (Nat.le_of_ble_eq_true rfl) (Nat.le_of_ble_eq_true rfl) ?_
  exact W.iret (v := (iI 1)) hx hb hr (fun t ht hW => ⟨⟨(iI 1), (), rfl, rfl, by rw [ht]; exact hP.sub [0, 1] rfl, by rw [hAe]; exact hD.sub [0, 1] (by decide) rfl⟩, hS.F ht⟩) hS.2.2 dX0_refusal_231
set_option maxHeartbeats 4000000 in
set_option maxRecDepth 100000 in
/-- refusal of kind 0: 0 -/
theorem c_X0_refusal_0_0 (l : Launch) (dC : Nat → ClassId) (dI : Nat → Nat → Nat) (k : Nat → ClassId) (h0 xa1 xa2 xa3 xa4 xa5 xa6 xa7 xa8 xa9 xa10 xa11 : Nat) (xv : Int) (hv9 : -2147483648 ≤ xv ∧ xv ≤ 2147483647) (hv : 0 ≤ xv ∧ xv ≤ 5) (sz : Nat) : Met l yX0_refusal woX0_refusal ({ frames := 1, cells := 0, slots := 0, locals := 22 } : Room) (PcW (dC, dI) k [.ref h0, .int (iI 0), .int (iI xv)] [(h0, .inr (2, [.ref xa1, .ref xa2, .ref xa3, .ref xa5, .ref xa8, .int (iI 0), .int (iI 0), .int (iI 0)])), (xa3, .inr (7, [.int (iI 0), .int (iI 0), .int (iI 0), .long (lI 0), .int (iI 0), .int (iI 0), .int (iI 0), .long (lI 0), .long (lI 0), .long (lI 0), .long (lI 0), .long (lI 0), .int (iI 0), .int (iI 0), .int (iI 0), .int (iI 0), .ref xa4]))] sz) (va_Qi (fun (r : Int32) (_ : Unit) => r = iI 0) (QB (dC, dI) [(h0, .inr (2, [.ref xa1, .ref xa2, .ref xa3, .ref xa5, .ref xa8, .int (iI 0), .int (iI 0), .int (iI 0)])), (xa3, .inr (7, [.int (iI 0), .int (iI 0), .int (iI 0), .long (lI 0), .int (iI 0), .int (iI 0), .int (iI 0), .long (lI 0), .long (lI 0), .long (lI 0), .long (lI 0), .long (lI 0), .int (iI 0), .int (iI 0), .int (iI 0), .int (iI 0), .ref xa4]))] (fun _ => [(h0, .inr (2, [.ref xa1, .ref xa2, .ref xa3, .ref xa5, .ref xa8, .int (iI 0), .int (iI 0), .int (iI 0)])), (xa3, .inr (7, [.int (iI 0), .int (iI 0), .int (iI 0), .long (lI 0), .int (iI 0), .int (iI 0), .int (iI 0), .long (lI 0), .long (lI 0), .long (lI 0), .long (lI 0), .long (lI 0), .int (iI 0), .int (iI 0), .int (iI 0), .int (iI 0), .ref xa4]))]) sz) (va_A [(h0, .inr (2, [.ref xa1, .ref xa2, .ref xa3, .ref xa5, .ref xa8, .int (iI 0), .int (iI 0), .int (iI 0)])), (xa3, .inr (7, [.int (iI 0), .int (iI 0), .int (iI 0), .long (lI 0), .int (iI 0), .int (iI 0), .int (iI 0), .long (lI 0), .long (lI 0), .long (lI 0), .long (lI 0), .long (lI 0), .int (iI 0), .int (iI 0), .int (iI 0), .int (iI 0), .ref xa4]))] sz)) 0 0 (va_A [(h0, .inr (2, [.ref xa1, .ref xa2, .ref xa3, .ref xa5, .ref xa8, .int (iI 0), .int (iI 0), .int (iI 0)])), (xa3, .inr (7, [.int (iI 0), .int (iI 0), .int (iI 0), .long (lI 0), .int (iI 0), .int (iI 0), .int (iI 0), .long (lI 0), .long (lI 0), .long (lI 0), .long (lI 0), .long (lI 0), .int (iI 0), .int (iI 0), .int (iI 0), .int (iI 0), .ref xa4]))] sz) := by
  refine Met.ofW (cc := cX0_refusal) (maxL := 4) (ret := (some .int)) (by decide) rfl ?_
  intro p e s mI args below meth cO s₁ B hml hv
  obtain ⟨rfl, rfl, hP, hD0, hE⟩ := hv
  have hx := B.exec
  have hb := B.bytes
  have hr := B.returns
  have hts := atoms_spec (ws := woX0_refusal) B.pre
  have hown : s.vm.findClass RX0 = some mI.cls := findClass_of_methodNamed B.named
  have hlocks := B.notSynchronized
  have hD := hD0.self (sz := s.heap.size)
  generalize hAe : va_A [(h0, .inr (2, [.ref xa1, .ref xa2, .ref xa3, .ref xa5, .ref xa8, .int (iI 0), .int (iI 0), .int (iI 0)])), (xa3, .inr (7, [.int (iI 0), .int (iI 0), .int (iI 0), .long (lI 0), .int (iI 0), .int (iI 0), .int (iI 0), .long (lI 0), .long (lI 0), .long (lI 0), .long (lI 0), .long (lI 0), .int (iI 0), .int (iI 0), .int (iI 0), .int (iI 0), .ref xa4]))] s.heap.size = A at hD hE ⊢
  have hA : ∀ q : Nat, s.heap.size ≤ q → A q := fun q h => by rw [← hAe]; exact Or.inr h
  have hS : va_S A s.heap s.heap [] := va_S.rf
  obtain ⟨hK, hNw, hNc, hZs, hAO1, hAO2⟩ := id hE
  have hSF : CallFix p mI cO cX0_refusal 4 s ([.ref h0, .int (iI 0), .int (iI xv)] : List Value).toArray woX0_refusal RX0 := ⟨hx, hb, hml, hown, hts⟩
  have hl := lv_entry ([.ref h0, .int (iI 0), .int (iI xv)] : List Value) (n := 4) (Nat.le_of_ble_eq_true rfl)
  rw [lg_entry_eq]
  generalize (lg_sl ([.ref h0, .int (iI 0), .int (iI xv)] : List Value) ++ List.replicate (4 - (lg_sl ([.ref h0, .int (iI 0), .int (iI xv)] : List Value)).length) Slot.unset).toArray = ls at hl ⊢
  have hl : lv_has ls 4 [(0, .ref h0), (1, .int (iI 0)), (2, .int (iI xv))] := hl
  refine W_gen (fun Q hQ => ?_)
  change W p l e ({ frames := 1, cells := 0, slots := 0, locals := 22 } : Room) s mI _ below meth cO s.heap [] 0 0 Q _
  have hP : va_P (dC, dI) vwCl [(h0, .inr (2, [.ref xa1, .ref xa2, .ref xa3, .ref xa5, .ref xa8, .int (iI 0), .int (iI 0), .int (iI 0)])), (xa3, .inr (7, [.int (iI 0), .int (iI 0), .int (iI 0), .long (lI 0), .int (iI 0), .int (iI 0), .int (iI 0), .long (lI 0), .long (lI 0), .long (lI 0), .long (lI 0), .long (lI 0), .int (iI 0), .int (iI 0), .int (iI 0), .int (iI 0), .ref xa4]))] s.heap := hP
  refine lv_iload_n hx hb dX0_refusal_0 rfl (lv_at hl 1 rfl) ?_
  refine lv_tableOut (tgt := 232) hx hb dX0_refusal_1 (by rw [iI_toInt ⟨by omega, by omega⟩]; omega) (by decide) ?_
  refine lv_iload_n hx hb dX0_refusal_232 rfl (lv_at hl 1 rfl) ?_
  refine q_if_lt (tgt := 257) hx hb dX0_refusal_233 (by decide) (by omega) (fun q => absurd q (by omega)) (fun _ => ?_)
  refine lv_iload_n hx hb dX0_refusal_236 rfl (lv_at hl 1 rfl) ?_
  obtain ⟨hmrt, hmrZ, hmrT⟩ := hZs.2.1
  refine va_gets hx hb hmrZ hS hown (hts (.fieldLink RX0 118 "LoanServicing$Account" "MOST_OF_RULES" "[I") (List.mem_cons_of_mem _ (wl_16 (List.mem_of_getElem? (i := 20) rfl)))) (fun _ h9 => h9) dX0_refusal_237 ?_
  refine va_tlen (v := iI 5) hx hb hmrT hS (by decide) dX0_refusal_240 ?_
  refine q_icmp_ge (tgt := 257) hx hb dX0_refusal_241 (by decide) (by omega) (fun q => absurd q (by omega)) (fun _ => ?_)
  refine lv_iload_n hx hb dX0_refusal_244 rfl (lv_at hl 2 rfl) ?_
  refine q_iconst hx hb dX0_refusal_245 ?_
  refine va_gets hx hb hmrZ hS hown (hts (.fieldLink RX0 118 "LoanServicing$Account" "MOST_OF_RULES" "[I") (List.mem_cons_of_mem _ (wl_16 (List.mem_of_getElem? (i := 20) rfl)))) (fun _ h9 => h9) dX0_refusal_246 ?_
  refine lv_iload_n hx hb dX0_refusal_249 rfl (lv_at hl 1 rfl) ?_
  refine q_sti (z := 5) hx hb hmrT hS (by omega) (by decide) dX0_refusal_250 ?_
  refine ki (va_runSN (As := [.int (iI xv), .int (iI 0), .int (iI 5)]) (rest := []) hSF ((c_X10_isWithin l dC dI k xv 0 5 (by omega)) s.heap.size) ⟨va_cnB 3 hts gX0_refusal_X10_isWithin_n97 rfl rfl rfl (hNw _ (List.mem_of_getElem? (i := 61) rfl)) (hts (.initialized RX10) (List.mem_cons_of_mem _ (wl_1 (List.mem_of_getElem? (i := 2) rfl)))) (by decide +kernel) ⟨Nat.le_of_ble_eq_true rfl, Nat.le_of_ble_eq_true rfl⟩, (hts (.static yX10_isWithin) (List.mem_cons_of_mem _ (wl_6 (List.mem_of_getElem? (i := 12) rfl)))), trivial⟩ (preS hP hD hE hS hA [] rfl (by decide)) rfl rfl hl.1 rfl (lv_room (Nat.le_of_ble_eq_true rfl)) dX0_refusal_251 ⟨Nat.le_of_ble_eq_true rfl, Nat.le_of_ble_eq_true rfl⟩) hP hD hS hA [] [0, 1] rfl (wr := [(h0, .inr (2, [.ref xa1, .ref xa2, .ref xa3, .ref xa5, .ref xa8, .int (iI 0), .int (iI 0), .int (iI 0)])), (xa3, .inr (7, [.int (iI 0), .int (iI 0), .int (iI 0), .long (lI 0), .int (iI 0), .int (iI 0), .int (iI 0), .long (lI 0), .long (lI 0), .long (lI 0), .long (lI 0), .long (lI 0), .int (iI 0), .int (iI 0), .int (iI 0), .int (iI 0), .ref xa4]))]) rfl (by decide) (by decide) (fun r251 _ H locs hw hP hD hS => ?_)
  obtain rfl : r251 = iI 1 := hw.trans (by rw [wi1 (by omega)])
  have hP : va_P (dC, dI) vwCl [(h0, .inr (2, [.ref xa1, .ref xa2, .ref xa3, .ref xa5, .ref xa8, .int (iI 0), .int (iI 0), .int (iI 0)])), (xa3, .inr (7, [.int (iI 0), .int (iI 0), .int (iI 0), .long (lI 0), .int (iI 0), .int (iI 0), .int (iI 0), .long (lI 0), .long (lI 0), .long (lI 0), .long (lI 0), .long (lI 0), .int (iI 0), .int (iI 0), .int (iI 0), .int (iI 0), .ref xa4]))] H := hP
  have hD : va_D A [(h0, .inr (2, [.ref xa1, .ref xa2, .ref xa3, .ref xa5, .ref xa8, .int (iI 0), .int (iI 0), .int (iI 0)])), (xa3, .inr (7, [.int (iI 0), .int (iI 0), .int (iI 0), .long (lI 0), .int (iI 0), .int (iI 0), .int (iI 0), .long (lI 0), .long (lI 0), .long (lI 0), .long (lI 0), .long (lI 0), .int (iI 0), .int (iI 0), .int (iI 0), .int (iI 0), .ref xa4]))] := hD
  refine q_if_ne (tgt := 261) hx hb dX0_refusal_254 (by decide) (by omega) (fun _ => ?_) (fun q => absurd q (by omega))
  refine q_iconst hx hb dX0_refusal_261 ?_
  refine q_iconst hx hb dX0_refusal_262 ?_
  refine ki (va_runS (As := [.int (iI 0), .int (iI 0)]) (rest := []) hSF ((c_X0_refusalIf l dC dI k 0 0 (by omega)) H.size) (va_cwS 2 hts gX0_refusal_X0_refusalIf rfl rfl rfl (by decide +kernel) ⟨Nat.le_of_ble_eq_true rfl, Nat.le_of_ble_eq_true rfl⟩) (preS hP hD hE hS hA [] rfl (by decide)) rfl rfl hl.1 rfl (lv_room (Nat.le_of_ble_eq_true rfl)) dX0_refusal_263 ⟨Nat.le_of_ble_eq_true rfl, Nat.le_of_ble_eq_true rfl⟩) hP hD hS hA [] [0, 1] rfl (wr := [(h0, .inr (2, [.ref xa1, .ref xa2, .ref xa3, .ref xa5, .ref xa8, .int (iI 0), .int (iI 0), .int (iI 0)])), (xa3, .inr (7, [.int (iI 0), .int (iI 0), .int (iI 0), .long (lI 0), .int (iI 0), .int (iI 0), .int (iI 0), .long (lI 0), .long (lI 0), .long (lI 0), .long (lI 0), .long (lI 0), .int (iI 0), .int (iI 0), .int (iI 0), .int (iI 0), .ref xa4]))]) rfl (by decide) (by decide) (fun r263 _ H locs hw hP hD hS => ?_)
  obtain rfl : r263 = iI 0 := hw.trans (by decide)
  have hP : va_P (dC, dI) vwCl [(h0, .inr (2, [.ref xa1, .ref xa2, .ref xa3, .ref xa5, .ref xa8, .int (iI 0), .int (iI 0), .int (iI 0)])), (xa3, .inr (7, [.int (iI 0), .int (iI 0), .int (iI 0), .long (lI 0), .int (iI 0), .int (iI 0), .int (iI 0), .long (lI 0), .long (lI 0), .long (lI 0), .long (lI 0), .long (lI 0), .int (iI 0), .int (iI 0), .int (iI 0), .int (iI 0), .ref xa4]))] H := hP
  have hD : va_D A [(h0, .inr (2, [.ref xa1, .ref xa2, .ref xa3, .ref xa5, .ref xa8, .int (iI 0), .int (iI 0), .int (iI 0)])), (xa3, .inr (7, [.int (iI 0), .int (iI 0), .int (iI 0), .long (lI 0), .int (iI 0), .int (iI 0), .int (iI 0), .long (lI 0), .long (lI 0), .long (lI 0), .long (lI 0), .long (lI 0), .int (iI 0), .int (iI 0), .int (iI 0), .int (iI 0), .ref xa4]))] := hD
  rw [hQ]
  refine W.widen (k := 0) (n := 0) (Nat.le_of_ble_eq_true rfl) (Nat.le_of_ble_eq_true rfl) ?_
  exact W.iret (v := (iI 0)) hx hb hr (fun t ht hW => ⟨⟨(iI 0), (), rfl, rfl, by rw [ht]; exact hP.sub [0, 1] rfl, by rw [hAe]; exact hD.sub [0, 1] (by decide) rfl⟩, hS.F ht⟩) hS.2.2 dX0_refusal_266
set_option maxHeartbeats 4000000 in
set_option maxRecDepth 100000 in
/-- refusal of kind 0: 1 -/
theorem c_X0_refusal_0_1 (l : Launch) (dC : Nat → ClassId) (dI : Nat → Nat → Nat) (k : Nat → ClassId) (h0 xa1 xa2 xa3 xa4 xa5 xa6 xa7 xa8 xa9 xa10 xa11 : Nat) (xv : Int) (hv9 : -2147483648 ≤ xv ∧ xv ≤ 2147483647) (hv : ¬ (0 ≤ xv ∧ xv ≤ 5)) (sz : Nat) : Met l yX0_refusal woX0_refusal ({ frames := 1, cells := 0, slots := 0, locals := 22 } : Room) (PcW (dC, dI) k [.ref h0, .int (iI 0), .int (iI xv)] [(h0, .inr (2, [.ref xa1, .ref xa2, .ref xa3, .ref xa5, .ref xa8, .int (iI 0), .int (iI 0), .int (iI 0)])), (xa3, .inr (7, [.int (iI 0), .int (iI 0), .int (iI 0), .long (lI 0), .int (iI 0), .int (iI 0), .int (iI 0), .long (lI 0), .long (lI 0), .long (lI 0), .long (lI 0), .long (lI 0), .int (iI 0), .int (iI 0), .int (iI 0), .int (iI 0), .ref xa4]))] sz) (va_Qi (fun (r : Int32) (_ : Unit) => r = iI 1) (QB (dC, dI) [(h0, .inr (2, [.ref xa1, .ref xa2, .ref xa3, .ref xa5, .ref xa8, .int (iI 0), .int (iI 0), .int (iI 0)])), (xa3, .inr (7, [.int (iI 0), .int (iI 0), .int (iI 0), .long (lI 0), .int (iI 0), .int (iI 0), .int (iI 0), .long (lI 0), .long (lI 0), .long (lI 0), .long (lI 0), .long (lI 0), .int (iI 0), .int (iI 0), .int (iI 0), .int (iI 0), .ref xa4]))] (fun _ => [(h0, .inr (2, [.ref xa1, .ref xa2, .ref xa3, .ref xa5, .ref xa8, .int (iI 0), .int (iI 0), .int (iI 0)])), (xa3, .inr (7, [.int (iI 0), .int (iI 0), .int (iI 0), .long (lI 0), .int (iI 0), .int (iI 0), .int (iI 0), .long (lI 0), .long (lI 0), .long (lI 0), .long (lI 0), .long (lI 0), .int (iI 0), .int (iI 0), .int (iI 0), .int (iI 0), .ref xa4]))]) sz) (va_A [(h0, .inr (2, [.ref xa1, .ref xa2, .ref xa3, .ref xa5, .ref xa8, .int (iI 0), .int (iI 0), .int (iI 0)])), (xa3, .inr (7, [.int (iI 0), .int (iI 0), .int (iI 0), .long (lI 0), .int (iI 0), .int (iI 0), .int (iI 0), .long (lI 0), .long (lI 0), .long (lI 0), .long (lI 0), .long (lI 0), .int (iI 0), .int (iI 0), .int (iI 0), .int (iI 0), .ref xa4]))] sz)) 0 0 (va_A [(h0, .inr (2, [.ref xa1, .ref xa2, .ref xa3, .ref xa5, .ref xa8, .int (iI 0), .int (iI 0), .int (iI 0)])), (xa3, .inr (7, [.int (iI 0), .int (iI 0), .int (iI 0), .long (lI 0), .int (iI 0), .int (iI 0), .int (iI 0), .long (lI 0), .long (lI 0), .long (lI 0), .long (lI 0), .long (lI 0), .int (iI 0), .int (iI 0), .int (iI 0), .int (iI 0), .ref xa4]))] sz) := by
  refine Met.ofW (cc := cX0_refusal) (maxL := 4) (ret := (some .int)) (by decide) rfl ?_
  intro p e s mI args below meth cO s₁ B hml hv
  obtain ⟨rfl, rfl, hP, hD0, hE⟩ := hv
  have hx := B.exec
  have hb := B.bytes
  have hr := B.returns
  have hts := atoms_spec (ws := woX0_refusal) B.pre
  have hown : s.vm.findClass RX0 = some mI.cls := findClass_of_methodNamed B.named
  have hlocks := B.notSynchronized
  have hD := hD0.self (sz := s.heap.size)
  generalize hAe : va_A [(h0, .inr (2, [.ref xa1, .ref xa2, .ref xa3, .ref xa5, .ref xa8, .int (iI 0), .int (iI 0), .int (iI 0)])), (xa3, .inr (7, [.int (iI 0), .int (iI 0), .int (iI 0), .long (lI 0), .int (iI 0), .int (iI 0), .int (iI 0), .long (lI 0), .long (lI 0), .long (lI 0), .long (lI 0), .long (lI 0), .int (iI 0), .int (iI 0), .int (iI 0), .int (iI 0), .ref xa4]))] s.heap.size = A at hD hE ⊢
  have hA : ∀ q : Nat, s.heap.size ≤ q → A q := fun q h => by rw [← hAe]; exact Or.inr h
  have hS : va_S A s.heap s.heap [] := va_S.rf
  obtain ⟨hK, hNw, hNc, hZs, hAO1, hAO2⟩ := id hE
  have hSF : CallFix p mI cO cX0_refusal 4 s ([.ref h0, .int (iI 0), .int (iI xv)] : List Value).toArray woX0_refusal RX0 := ⟨hx, hb, hml, hown, hts⟩
  have hl := lv_entry ([.ref h0, .int (iI 0), .int (iI xv)] : List Value) (n := 4) (Nat.le_of_ble_eq_true rfl)
  rw [lg_entry_eq]
  generalize (lg_sl ([.ref h0, .int (iI 0), .int (iI xv)] : List Value) ++ List.replicate (4 - (lg_sl ([.ref h0, .int (iI 0), .int (iI xv)] : List Value)).length) Slot.unset).toArray = ls at hl ⊢
  have hl : lv_has ls 4 [(0, .ref h0), (1, .int (iI 0)), (2, .int (iI xv))] := hl
  refine W_gen (fun Q hQ => ?_)
  change W p l e ({ frames := 1, cells := 0, slots := 0, locals := 22 } : Room) s mI _ below meth cO s.heap [] 0 0 Q _
  have hP : va_P (dC, dI) vwCl [(h0, .inr (2, [.ref xa1, .ref xa2, .ref xa3, .ref xa5, .ref xa8, .int (iI 0), .int (iI 0), .int (iI 0)])), (xa3, .inr (7, [.int (iI 0), .int (iI 0), .int (iI 0), .long (lI 0), .int (iI 0), .int (iI 0), .int (iI 0), .long (lI 0), .long (lI 0), .long (lI 0), .long (lI 0), .long (lI 0), .int (iI 0), .int (iI 0), .int (iI 0), .int (iI 0), .ref xa4]))] s.heap := hP
  refine lv_iload_n hx hb dX0_refusal_0 rfl (lv_at hl 1 rfl) ?_
  refine lv_tableOut (tgt := 232) hx hb dX0_refusal_1 (by rw [iI_toInt ⟨by omega, by omega⟩]; omega) (by decide) ?_
  refine lv_iload_n hx hb dX0_refusal_232 rfl (lv_at hl 1 rfl) ?_
  refine q_if_lt (tgt := 257) hx hb dX0_refusal_233 (by decide) (by omega) (fun q => absurd q (by omega)) (fun _ => ?_)
  refine lv_iload_n hx hb dX0_refusal_236 rfl (lv_at hl 1 rfl) ?_
  obtain ⟨hmrt, hmrZ, hmrT⟩ := hZs.2.1
  refine va_gets hx hb hmrZ hS hown (hts (.fieldLink RX0 118 "LoanServicing$Account" "MOST_OF_RULES" "[I") (List.mem_cons_of_mem _ (wl_16 (List.mem_of_getElem? (i := 20) rfl)))) (fun _ h9 => h9) dX0_refusal_237 ?_
  refine va_tlen (v := iI 5) hx hb hmrT hS (by decide) dX0_refusal_240 ?_
  refine q_icmp_ge (tgt := 257) hx hb dX0_refusal_241 (by decide) (by omega) (fun q => absurd q (by omega)) (fun _ => ?_)
  refine lv_iload_n hx hb dX0_refusal_244 rfl (lv_at hl 2 rfl) ?_
  refine q_iconst hx hb dX0_refusal_245 ?_
  refine va_gets hx hb hmrZ hS hown (hts (.fieldLink RX0 118 "LoanServicing$Account" "MOST_OF_RULES" "[I") (List.mem_cons_of_mem _ (wl_16 (List.mem_of_getElem? (i := 20) rfl)))) (fun _ h9 => h9) dX0_refusal_246 ?_
  refine lv_iload_n hx hb dX0_refusal_249 rfl (lv_at hl 1 rfl) ?_
  refine q_sti (z := 5) hx hb hmrT hS (by omega) (by decide) dX0_refusal_250 ?_
  refine ki (va_runSN (As := [.int (iI xv), .int (iI 0), .int (iI 5)]) (rest := []) hSF ((c_X10_isWithin l dC dI k xv 0 5 (by omega)) s.heap.size) ⟨va_cnB 3 hts gX0_refusal_X10_isWithin_n97 rfl rfl rfl (hNw _ (List.mem_of_getElem? (i := 61) rfl)) (hts (.initialized RX10) (List.mem_cons_of_mem _ (wl_1 (List.mem_of_getElem? (i := 2) rfl)))) (by decide +kernel) ⟨Nat.le_of_ble_eq_true rfl, Nat.le_of_ble_eq_true rfl⟩, (hts (.static yX10_isWithin) (List.mem_cons_of_mem _ (wl_6 (List.mem_of_getElem? (i := 12) rfl)))), trivial⟩ (preS hP hD hE hS hA [] rfl (by decide)) rfl rfl hl.1 rfl (lv_room (Nat.le_of_ble_eq_true rfl)) dX0_refusal_251 ⟨Nat.le_of_ble_eq_true rfl, Nat.le_of_ble_eq_true rfl⟩) hP hD hS hA [] [0, 1] rfl (wr := [(h0, .inr (2, [.ref xa1, .ref xa2, .ref xa3, .ref xa5, .ref xa8, .int (iI 0), .int (iI 0), .int (iI 0)])), (xa3, .inr (7, [.int (iI 0), .int (iI 0), .int (iI 0), .long (lI 0), .int (iI 0), .int (iI 0), .int (iI 0), .long (lI 0), .long (lI 0), .long (lI 0), .long (lI 0), .long (lI 0), .int (iI 0), .int (iI 0), .int (iI 0), .int (iI 0), .ref xa4]))]) rfl (by decide) (by decide) (fun r251 _ H locs hw hP hD hS => ?_)
  obtain rfl : r251 = iI 0 := hw.trans (by rw [wi0 (by omega)])
  have hP : va_P (dC, dI) vwCl [(h0, .inr (2, [.ref xa1, .ref xa2, .ref xa3, .ref xa5, .ref xa8, .int (iI 0), .int (iI 0), .int (iI 0)])), (xa3, .inr (7, [.int (iI 0), .int (iI 0), .int (iI 0), .long (lI 0), .int (iI 0), .int (iI 0), .int (iI 0), .long (lI 0), .long (lI 0), .long (lI 0), .long (lI 0), .long (lI 0), .int (iI 0), .int (iI 0), .int (iI 0), .int (iI 0), .ref xa4]))] H := hP
  have hD : va_D A [(h0, .inr (2, [.ref xa1, .ref xa2, .ref xa3, .ref xa5, .ref xa8, .int (iI 0), .int (iI 0), .int (iI 0)])), (xa3, .inr (7, [.int (iI 0), .int (iI 0), .int (iI 0), .long (lI 0), .int (iI 0), .int (iI 0), .int (iI 0), .long (lI 0), .long (lI 0), .long (lI 0), .long (lI 0), .long (lI 0), .int (iI 0), .int (iI 0), .int (iI 0), .int (iI 0), .ref xa4]))] := hD
  refine q_if_ne (tgt := 261) hx hb dX0_refusal_254 (by decide) (by omega) (fun q => absurd q (by omega)) (fun _ => ?_)
  refine q_iconst hx hb dX0_refusal_257 ?_
  refine lv_goto (tgt := 262) hx hb dX0_refusal_258 (by decide) ?_
  refine q_iconst hx hb dX0_refusal_262 ?_
  refine ki (va_runS (As := [.int (iI 1), .int (iI 0)]) (rest := []) hSF ((c_X0_refusalIf l dC dI k 1 0 (by omega)) H.size) (va_cwS 2 hts gX0_refusal_X0_refusalIf rfl rfl rfl (by decide +kernel) ⟨Nat.le_of_ble_eq_true rfl, Nat.le_of_ble_eq_true rfl⟩) (preS hP hD hE hS hA [] rfl (by decide)) rfl rfl hl.1 rfl (lv_room (Nat.le_of_ble_eq_true rfl)) dX0_refusal_263 ⟨Nat.le_of_ble_eq_true rfl, Nat.le_of_ble_eq_true rfl⟩) hP hD hS hA [] [0, 1] rfl (wr := [(h0, .inr (2, [.ref xa1, .ref xa2, .ref xa3, .ref xa5, .ref xa8, .int (iI 0), .int (iI 0), .int (iI 0)])), (xa3, .inr (7, [.int (iI 0), .int (iI 0), .int (iI 0), .long (lI 0), .int (iI 0), .int (iI 0), .int (iI 0), .long (lI 0), .long (lI 0), .long (lI 0), .long (lI 0), .long (lI 0), .int (iI 0), .int (iI 0), .int (iI 0), .int (iI 0), .ref xa4]))]) rfl (by decide) (by decide) (fun r263 _ H locs hw hP hD hS => ?_)
  obtain rfl : r263 = iI 1 := hw.trans (by decide)
  have hP : va_P (dC, dI) vwCl [(h0, .inr (2, [.ref xa1, .ref xa2, .ref xa3, .ref xa5, .ref xa8, .int (iI 0), .int (iI 0), .int (iI 0)])), (xa3, .inr (7, [.int (iI 0), .int (iI 0), .int (iI 0), .long (lI 0), .int (iI 0), .int (iI 0), .int (iI 0), .long (lI 0), .long (lI 0), .long (lI 0), .long (lI 0), .long (lI 0), .int (iI 0), .int (iI 0), .int (iI 0), .int (iI 0), .ref xa4]))] H := hP
  have hD : va_D A [(h0, .inr (2, [.ref xa1, .ref xa2, .ref xa3, .ref xa5, .ref xa8, .int (iI 0), .int (iI 0), .int (iI 0)])), (xa3, .inr (7, [.int (iI 0), .int (iI 0), .int (iI 0), .long (lI 0), .int (iI 0), .int (iI 0), .int (iI 0), .long (lI 0), .long (lI 0), .long (lI 0), .long (lI 0), .long (lI 0), .int (iI 0), .int (iI 0), .int (iI 0), .int (iI 0), .ref xa4]))] := hD
  rw [hQ]
  refine W.widen (k := 0) (n := 0) (Nat.le_of_ble_eq_true rfl) (Nat.le_of_ble_eq_true rfl) ?_
  exact W.iret (v := (iI 1)) hx hb hr (fun t ht hW => ⟨⟨(iI 1), (), rfl, rfl, by rw [ht]; exact hP.sub [0, 1] rfl, by rw [hAe]; exact hD.sub [0, 1] (by decide) rfl⟩, hS.F ht⟩) hS.2.2 dX0_refusal_266
set_option maxHeartbeats 4000000 in
set_option maxRecDepth 100000 in
/-- refusal of kind 1: 0 -/
theorem c_X0_refusal_1_0 (l : Launch) (dC : Nat → ClassId) (dI : Nat → Nat → Nat) (k : Nat → ClassId) (h0 xa1 xa2 xa3 xa4 xa5 xa6 xa7 xa8 xa9 xa10 xa11 : Nat) (xv : Int) (hv9 : -2147483648 ≤ xv ∧ xv ≤ 2147483647) (hv : 0 ≤ xv ∧ xv ≤ 1) (sz : Nat) : Met l yX0_refusal woX0_refusal ({ frames := 1, cells := 0, slots := 0, locals := 22 } : Room) (PcW (dC, dI) k [.ref h0, .int (iI 1), .int (iI xv)] [(h0, .inr (2, [.ref xa1, .ref xa2, .ref xa3, .ref xa5, .ref xa8, .int (iI 0), .int (iI 0), .int (iI 0)])), (xa3, .inr (7, [.int (iI 0), .int (iI 0), .int (iI 0), .long (lI 0), .int (iI 0), .int (iI 0), .int (iI 0), .long (lI 0), .long (lI 0), .long (lI 0), .long (lI 0), .long (lI 0), .int (iI 0), .int (iI 0), .int (iI 0), .int (iI 0), .ref xa4]))] sz) (va_Qi (fun (r : Int32) (_ : Unit) => r = iI 0) (QB (dC, dI) [(h0, .inr (2, [.ref xa1, .ref xa2, .ref xa3, .ref xa5, .ref xa8, .int (iI 0), .int (iI 0), .int (iI 0)])), (xa3, .inr (7, [.int (iI 0), .int (iI 0), .int (iI 0), .long (lI 0), .int (iI 0), .int (iI 0), .int (iI 0), .long (lI 0), .long (lI 0), .long (lI 0), .long (lI 0), .long (lI 0), .int (iI 0), .int (iI 0), .int (iI 0), .int (iI 0), .ref xa4]))] (fun _ => [(h0, .inr (2, [.ref xa1, .ref xa2, .ref xa3, .ref xa5, .ref xa8, .int (iI 0), .int (iI 0), .int (iI 0)])), (xa3, .inr (7, [.int (iI 0), .int (iI 0), .int (iI 0), .long (lI 0), .int (iI 0), .int (iI 0), .int (iI 0), .long (lI 0), .long (lI 0), .long (lI 0), .long (lI 0), .long (lI 0), .int (iI 0), .int (iI 0), .int (iI 0), .int (iI 0), .ref xa4]))]) sz) (va_A [(h0, .inr (2, [.ref xa1, .ref xa2, .ref xa3, .ref xa5, .ref xa8, .int (iI 0), .int (iI 0), .int (iI 0)])), (xa3, .inr (7, [.int (iI 0), .int (iI 0), .int (iI 0), .long (lI 0), .int (iI 0), .int (iI 0), .int (iI 0), .long (lI 0), .long (lI 0), .long (lI 0), .long (lI 0), .long (lI 0), .int (iI 0), .int (iI 0), .int (iI 0), .int (iI 0), .ref xa4]))] sz)) 0 0 (va_A [(h0, .inr (2, [.ref xa1, .ref xa2, .ref xa3, .ref xa5, .ref xa8, .int (iI 0), .int (iI 0), .int (iI 0)])), (xa3, .inr (7, [.int (iI 0), .int (iI 0), .int (iI 0), .long (lI 0), .int (iI 0), .int (iI 0), .int (iI 0), .long (lI 0), .long (lI 0), .long (lI 0), .long (lI 0), .long (lI 0), .int (iI 0), .int (iI 0), .int (iI 0), .int (iI 0), .ref xa4]))] sz) := by
  refine Met.ofW (cc := cX0_refusal) (maxL := 4) (ret := (some .int)) (by decide) rfl ?_
  intro p e s mI args below meth cO s₁ B hml hv
  obtain ⟨rfl, rfl, hP, hD0, hE⟩ := hv
  have hx := B.exec
  have hb := B.bytes
  have hr := B.returns
  have hts := atoms_spec (ws := woX0_refusal) B.pre
  have hown : s.vm.findClass RX0 = some mI.cls := findClass_of_methodNamed B.named
  have hlocks := B.notSynchronized
  have hD := hD0.self (sz := s.heap.size)
  generalize hAe : va_A [(h0, .inr (2, [.ref xa1, .ref xa2, .ref xa3, .ref xa5, .ref xa8, .int (iI 0), .int (iI 0), .int (iI 0)])), (xa3, .inr (7, [.int (iI 0), .int (iI 0), .int (iI 0), .long (lI 0), .int (iI 0), .int (iI 0), .int (iI 0), .long (lI 0), .long (lI 0), .long (lI 0), .long (lI 0), .long (lI 0), .int (iI 0), .int (iI 0), .int (iI 0), .int (iI 0), .ref xa4]))] s.heap.size = A at hD hE ⊢
  have hA : ∀ q : Nat, s.heap.size ≤ q → A q := fun q h => by rw [← hAe]; exact Or.inr h
  have hS : va_S A s.heap s.heap [] := va_S.rf
  obtain ⟨hK, hNw, hNc, hZs, hAO1, hAO2⟩ := id hE
  have hSF : CallFix p mI cO cX0_refusal 4 s ([.ref h0, .int (iI 1), .int (iI xv)] : List Value).toArray woX0_refusal RX0 := ⟨hx, hb, hml, hown, hts⟩
  have hl := lv_entry ([.ref h0, .int (iI 1), .int (iI xv)] : List Value) (n := 4) (Nat.le_of_ble_eq_true rfl)
  rw [lg_entry_eq]
  generalize (lg_sl ([.ref h0, .int (iI 1), .int (iI xv)] : List Value) ++ List.replicate (4 - (lg_sl ([.ref h0, .int (iI 1), .int (iI xv)] : List Value)).length) Slot.unset).toArray = ls at hl ⊢
  have hl : lv_has ls 4 [(0, .ref h0), (1, .int (iI 1)), (2, .int (iI xv))] := hl
  refine W_gen (fun Q hQ => ?_)
  change W p l e ({ frames := 1, cells := 0, slots := 0, locals := 22 } : Room) s mI _ below meth cO s.heap [] 0 0 Q _
  have hP : va_P (dC, dI) vwCl [(h0, .inr (2, [.ref xa1, .ref xa2, .ref xa3, .ref xa5, .ref xa8, .int (iI 0), .int (iI 0), .int (iI 0)])), (xa3, .inr (7, [.int (iI 0), .int (iI 0), .int (iI 0), .long (lI 0), .int (iI 0), .int (iI 0), .int (iI 0), .long (lI 0), .long (lI 0), .long (lI 0), .long (lI 0), .long (lI 0), .int (iI 0), .int (iI 0), .int (iI 0), .int (iI 0), .ref xa4]))] s.heap := hP
  refine lv_iload_n hx hb dX0_refusal_0 rfl (lv_at hl 1 rfl) ?_
  refine lv_tableOut (tgt := 232) hx hb dX0_refusal_1 (by rw [iI_toInt ⟨by omega, by omega⟩]; omega) (by decide) ?_
  refine lv_iload_n hx hb dX0_refusal_232 rfl (lv_at hl 1 rfl) ?_
  refine q_if_lt (tgt := 257) hx hb dX0_refusal_233 (by decide) (by omega) (fun q => absurd q (by omega)) (fun _ => ?_)
  refine lv_iload_n hx hb dX0_refusal_236 rfl (lv_at hl 1 rfl) ?_
  obtain ⟨hmrt, hmrZ, hmrT⟩ := hZs.2.1
  refine va_gets hx hb hmrZ hS hown (hts (.fieldLink RX0 118 "LoanServicing$Account" "MOST_OF_RULES" "[I") (List.mem_cons_of_mem _ (wl_16 (List.mem_of_getElem? (i := 20) rfl)))) (fun _ h9 => h9) dX0_refusal_237 ?_
  refine va_tlen (v := iI 5) hx hb hmrT hS (by decide) dX0_refusal_240 ?_
  refine q_icmp_ge (tgt := 257) hx hb dX0_refusal_241 (by decide) (by omega) (fun q => absurd q (by omega)) (fun _ => ?_)
  refine lv_iload_n hx hb dX0_refusal_244 rfl (lv_at hl 2 rfl) ?_
  refine q_iconst hx hb dX0_refusal_245 ?_
  refine va_gets hx hb hmrZ hS hown (hts (.fieldLink RX0 118 "LoanServicing$Account" "MOST_OF_RULES" "[I") (List.mem_cons_of_mem _ (wl_16 (List.mem_of_getElem? (i := 20) rfl)))) (fun _ h9 => h9) dX0_refusal_246 ?_
  refine lv_iload_n hx hb dX0_refusal_249 rfl (lv_at hl 1 rfl) ?_
  refine q_sti (z := 1) hx hb hmrT hS (by omega) (by decide) dX0_refusal_250 ?_
  refine ki (va_runSN (As := [.int (iI xv), .int (iI 0), .int (iI 1)]) (rest := []) hSF ((c_X10_isWithin l dC dI k xv 0 1 (by omega)) s.heap.size) ⟨va_cnB 3 hts gX0_refusal_X10_isWithin_n97 rfl rfl rfl (hNw _ (List.mem_of_getElem? (i := 61) rfl)) (hts (.initialized RX10) (List.mem_cons_of_mem _ (wl_1 (List.mem_of_getElem? (i := 2) rfl)))) (by decide +kernel) ⟨Nat.le_of_ble_eq_true rfl, Nat.le_of_ble_eq_true rfl⟩, (hts (.static yX10_isWithin) (List.mem_cons_of_mem _ (wl_6 (List.mem_of_getElem? (i := 12) rfl)))), trivial⟩ (preS hP hD hE hS hA [] rfl (by decide)) rfl rfl hl.1 rfl (lv_room (Nat.le_of_ble_eq_true rfl)) dX0_refusal_251 ⟨Nat.le_of_ble_eq_true rfl, Nat.le_of_ble_eq_true rfl⟩) hP hD hS hA [] [0, 1] rfl (wr := [(h0, .inr (2, [.ref xa1, .ref xa2, .ref xa3, .ref xa5, .ref xa8, .int (iI 0), .int (iI 0), .int (iI 0)])), (xa3, .inr (7, [.int (iI 0), .int (iI 0), .int (iI 0), .long (lI 0), .int (iI 0), .int (iI 0), .int (iI 0), .long (lI 0), .long (lI 0), .long (lI 0), .long (lI 0), .long (lI 0), .int (iI 0), .int (iI 0), .int (iI 0), .int (iI 0), .ref xa4]))]) rfl (by decide) (by decide) (fun r251 _ H locs hw hP hD hS => ?_)
  obtain rfl : r251 = iI 1 := hw.trans (by rw [wi1 (by omega)])
  have hP : va_P (dC, dI) vwCl [(h0, .inr (2, [.ref xa1, .ref xa2, .ref xa3, .ref xa5, .ref xa8, .int (iI 0), .int (iI 0), .int (iI 0)])), (xa3, .inr (7, [.int (iI 0), .int (iI 0), .int (iI 0), .long (lI 0), .int (iI 0), .int (iI 0), .int (iI 0), .long (lI 0), .long (lI 0), .long (lI 0), .long (lI 0), .long (lI 0), .int (iI 0), .int (iI 0), .int (iI 0), .int (iI 0), .ref xa4]))] H := hP
  have hD : va_D A [(h0, .inr (2, [.ref xa1, .ref xa2, .ref xa3, .ref xa5, .ref xa8, .int (iI 0), .int (iI 0), .int (iI 0)])), (xa3, .inr (7, [.int (iI 0), .int (iI 0), .int (iI 0), .long (lI 0), .int (iI 0), .int (iI 0), .int (iI 0), .long (lI 0), .long (lI 0), .long (lI 0), .long (lI 0), .long (lI 0), .int (iI 0), .int (iI 0), .int (iI 0), .int (iI 0), .ref xa4]))] := hD
  refine q_if_ne (tgt := 261) hx hb dX0_refusal_254 (by decide) (by omega) (fun _ => ?_) (fun q => absurd q (by omega))
  refine q_iconst hx hb dX0_refusal_261 ?_
  refine q_iconst hx hb dX0_refusal_262 ?_
  refine ki (va_runS (As := [.int (iI 0), .int (iI 0)]) (rest := []) hSF ((c_X0_refusalIf l dC dI k 0 0 (by omega)) H.size) (va_cwS 2 hts gX0_refusal_X0_refusalIf rfl rfl rfl (by decide +kernel) ⟨Nat.le_of_ble_eq_true rfl, Nat.le_of_ble_eq_true rfl⟩) (preS hP hD hE hS hA [] rfl (by decide)) rfl rfl hl.1 rfl (lv_room (Nat.le_of_ble_eq_true rfl)) dX0_refusal_263 ⟨Nat.le_of_ble_eq_true rfl, Nat.le_of_ble_eq_true rfl⟩) hP hD hS hA [] [0, 1] rfl (wr := [(h0, .inr (2, [.ref xa1, .ref xa2, .ref xa3, .ref xa5, .ref xa8, .int (iI 0), .int (iI 0), .int (iI 0)])), (xa3, .inr (7, [.int (iI 0), .int (iI 0), .int (iI 0), .long (lI 0), .int (iI 0), .int (iI 0), .int (iI 0), .long (lI 0), .long (lI 0), .long (lI 0), .long (lI 0), .long (lI 0), .int (iI 0), .int (iI 0), .int (iI 0), .int (iI 0), .ref xa4]))]) rfl (by decide) (by decide) (fun r263 _ H locs hw hP hD hS => ?_)
  obtain rfl : r263 = iI 0 := hw.trans (by decide)
  have hP : va_P (dC, dI) vwCl [(h0, .inr (2, [.ref xa1, .ref xa2, .ref xa3, .ref xa5, .ref xa8, .int (iI 0), .int (iI 0), .int (iI 0)])), (xa3, .inr (7, [.int (iI 0), .int (iI 0), .int (iI 0), .long (lI 0), .int (iI 0), .int (iI 0), .int (iI 0), .long (lI 0), .long (lI 0), .long (lI 0), .long (lI 0), .long (lI 0), .int (iI 0), .int (iI 0), .int (iI 0), .int (iI 0), .ref xa4]))] H := hP
  have hD : va_D A [(h0, .inr (2, [.ref xa1, .ref xa2, .ref xa3, .ref xa5, .ref xa8, .int (iI 0), .int (iI 0), .int (iI 0)])), (xa3, .inr (7, [.int (iI 0), .int (iI 0), .int (iI 0), .long (lI 0), .int (iI 0), .int (iI 0), .int (iI 0), .long (lI 0), .long (lI 0), .long (lI 0), .long (lI 0), .long (lI 0), .int (iI 0), .int (iI 0), .int (iI 0), .int (iI 0), .ref xa4]))] := hD
  rw [hQ]
  refine W.widen (k := 0) (n := 0) (Nat.le_of_ble_eq_true rfl) (Nat.le_of_ble_eq_true rfl) ?_
  exact W.iret (v := (iI 0)) hx hb hr (fun t ht hW => ⟨⟨(iI 0), (), rfl, rfl, by rw [ht]; exact hP.sub [0, 1] rfl, by rw [hAe]; exact hD.sub [0, 1] (by decide) rfl⟩, hS.F ht⟩) hS.2.2 dX0_refusal_266
set_option maxHeartbeats 4000000 in
set_option maxRecDepth 100000 in
/-- refusal of kind 1: 1 -/
theorem c_X0_refusal_1_1 (l : Launch) (dC : Nat → ClassId) (dI : Nat → Nat → Nat) (k : Nat → ClassId) (h0 xa1 xa2 xa3 xa4 xa5 xa6 xa7 xa8 xa9 xa10 xa11 : Nat) (xv : Int) (hv9 : -2147483648 ≤ xv ∧ xv ≤ 2147483647) (hv : ¬ (0 ≤ xv ∧ xv ≤ 1)) (sz : Nat) : Met l yX0_refusal woX0_refusal ({ frames := 1, cells := 0, slots := 0, locals := 22 } : Room) (PcW (dC, dI) k [.ref h0, .int (iI 1), .int (iI xv)] [(h0, .inr (2, [.ref xa1, .ref xa2, .ref xa3, .ref xa5, .ref xa8, .int (iI 0), .int (iI 0), .int (iI 0)])), (xa3, .inr (7, [.int (iI 0), .int (iI 0), .int (iI 0), .long (lI 0), .int (iI 0), .int (iI 0), .int (iI 0), .long (lI 0), .long (lI 0), .long (lI 0), .long (lI 0), .long (lI 0), .int (iI 0), .int (iI 0), .int (iI 0), .int (iI 0), .ref xa4]))] sz) (va_Qi (fun (r : Int32) (_ : Unit) => r = iI 1) (QB (dC, dI) [(h0, .inr (2, [.ref xa1, .ref xa2, .ref xa3, .ref xa5, .ref xa8, .int (iI 0), .int (iI 0), .int (iI 0)])), (xa3, .inr (7, [.int (iI 0), .int (iI 0), .int (iI 0), .long (lI 0), .int (iI 0), .int (iI 0), .int (iI 0), .long (lI 0), .long (lI 0), .long (lI 0), .long (lI 0), .long (lI 0), .int (iI 0), .int (iI 0), .int (iI 0), .int (iI 0), .ref xa4]))] (fun _ => [(h0, .inr (2, [.ref xa1, .ref xa2, .ref xa3, .ref xa5, .ref xa8, .int (iI 0), .int (iI 0), .int (iI 0)])), (xa3, .inr (7, [.int (iI 0), .int (iI 0), .int (iI 0), .long (lI 0), .int (iI 0), .int (iI 0), .int (iI 0), .long (lI 0), .long (lI 0), .long (lI 0), .long (lI 0), .long (lI 0), .int (iI 0), .int (iI 0), .int (iI 0), .int (iI 0), .ref xa4]))]) sz) (va_A [(h0, .inr (2, [.ref xa1, .ref xa2, .ref xa3, .ref xa5, .ref xa8, .int (iI 0), .int (iI 0), .int (iI 0)])), (xa3, .inr (7, [.int (iI 0), .int (iI 0), .int (iI 0), .long (lI 0), .int (iI 0), .int (iI 0), .int (iI 0), .long (lI 0), .long (lI 0), .long (lI 0), .long (lI 0), .long (lI 0), .int (iI 0), .int (iI 0), .int (iI 0), .int (iI 0), .ref xa4]))] sz)) 0 0 (va_A [(h0, .inr (2, [.ref xa1, .ref xa2, .ref xa3, .ref xa5, .ref xa8, .int (iI 0), .int (iI 0), .int (iI 0)])), (xa3, .inr (7, [.int (iI 0), .int (iI 0), .int (iI 0), .long (lI 0), .int (iI 0), .int (iI 0), .int (iI 0), .long (lI 0), .long (lI 0), .long (lI 0), .long (lI 0), .long (lI 0), .int (iI 0), .int (iI 0), .int (iI 0), .int (iI 0), .ref xa4]))] sz) := by
  refine Met.ofW (cc := cX0_refusal) (maxL := 4) (ret := (some .int)) (by decide) rfl ?_
  intro p e s mI args below meth cO s₁ B hml hv
  obtain ⟨rfl, rfl, hP, hD0, hE⟩ := hv
  have hx := B.exec
  have hb := B.bytes
  have hr := B.returns
  have hts := atoms_spec (ws := woX0_refusal) B.pre
  have hown : s.vm.findClass RX0 = some mI.cls := findClass_of_methodNamed B.named
  have hlocks := B.notSynchronized
  have hD := hD0.self (sz := s.heap.size)
  generalize hAe : va_A [(h0, .inr (2, [.ref xa1, .ref xa2, .ref xa3, .ref xa5, .ref xa8, .int (iI 0), .int (iI 0), .int (iI 0)])), (xa3, .inr (7, [.int (iI 0), .int (iI 0), .int (iI 0), .long (lI 0), .int (iI 0), .int (iI 0), .int (iI 0), .long (lI 0), .long (lI 0), .long (lI 0), .long (lI 0), .long (lI 0), .int (iI 0), .int (iI 0), .int (iI 0), .int (iI 0), .ref xa4]))] s.heap.size = A at hD hE ⊢
  have hA : ∀ q : Nat, s.heap.size ≤ q → A q := fun q h => by rw [← hAe]; exact Or.inr h
  have hS : va_S A s.heap s.heap [] := va_S.rf
  obtain ⟨hK, hNw, hNc, hZs, hAO1, hAO2⟩ := id hE
  have hSF : CallFix p mI cO cX0_refusal 4 s ([.ref h0, .int (iI 1), .int (iI xv)] : List Value).toArray woX0_refusal RX0 := ⟨hx, hb, hml, hown, hts⟩
  have hl := lv_entry ([.ref h0, .int (iI 1), .int (iI xv)] : List Value) (n := 4) (Nat.le_of_ble_eq_true rfl)
  rw [lg_entry_eq]
  generalize (lg_sl ([.ref h0, .int (iI 1), .int (iI xv)] : List Value) ++ List.replicate (4 - (lg_sl ([.ref h0, .int (iI 1), .int (iI xv)] : List Value)).length) Slot.unset).toArray = ls at hl ⊢
  have hl : lv_has ls 4 [(0, .ref h0), (1, .int (iI 1)), (2, .int (iI xv))] := hl
  refine W_gen (fun Q hQ => ?_)
  change W p l e ({ frames := 1, cells := 0, slots := 0, locals := 22 } : Room) s mI _ below meth cO s.heap [] 0 0 Q _
  have hP : va_P (dC, dI) vwCl [(h0, .inr (2, [.ref xa1, .ref xa2, .ref xa3, .ref xa5, .ref xa8, .int (iI 0), .int (iI 0), .int (iI 0)])), (xa3, .inr (7, [.int (iI 0), .int (iI 0), .int (iI 0), .long (lI 0), .int (iI 0), .int (iI 0), .int (iI 0), .long (lI 0), .long (lI 0), .long (lI 0), .long (lI 0), .long (lI 0), .int (iI 0), .int (iI 0), .int (iI 0), .int (iI 0), .ref xa4]))] s.heap := hP
  refine lv_iload_n hx hb dX0_refusal_0 rfl (lv_at hl 1 rfl) ?_
  refine lv_tableOut (tgt := 232) hx hb dX0_refusal_1 (by rw [iI_toInt ⟨by omega, by omega⟩]; omega) (by decide) ?_
  refine lv_iload_n hx hb dX0_refusal_232 rfl (lv_at hl 1 rfl) ?_
  refine q_if_lt (tgt := 257) hx hb dX0_refusal_233 (by decide) (by omega) (fun q => absurd q (by omega)) (fun _ => ?_)
  refine lv_iload_n hx hb dX0_refusal_236 rfl (lv_at hl 1 rfl) ?_
  obtain ⟨hmrt, hmrZ, hmrT⟩ := hZs.2.1
  refine va_gets hx hb hmrZ hS hown (hts (.fieldLink RX0 118 "LoanServicing$Account" "MOST_OF_RULES" "[I") (List.mem_cons_of_mem _ (wl_16 (List.mem_of_getElem? (i := 20) rfl)))) (fun _ h9 => h9) dX0_refusal_237 ?_
  refine va_tlen (v := iI 5) hx hb hmrT hS (by decide) dX0_refusal_240 ?_
  refine q_icmp_ge (tgt := 257) hx hb dX0_refusal_241 (by decide) (by omega) (fun q => absurd q (by omega)) (fun _ => ?_)
  refine lv_iload_n hx hb dX0_refusal_244 rfl (lv_at hl 2 rfl) ?_
  refine q_iconst hx hb dX0_refusal_245 ?_
  refine va_gets hx hb hmrZ hS hown (hts (.fieldLink RX0 118 "LoanServicing$Account" "MOST_OF_RULES" "[I") (List.mem_cons_of_mem _ (wl_16 (List.mem_of_getElem? (i := 20) rfl)))) (fun _ h9 => h9) dX0_refusal_246 ?_
  refine lv_iload_n hx hb dX0_refusal_249 rfl (lv_at hl 1 rfl) ?_
  refine q_sti (z := 1) hx hb hmrT hS (by omega) (by decide) dX0_refusal_250 ?_
  refine ki (va_runSN (As := [.int (iI xv), .int (iI 0), .int (iI 1)]) (rest := []) hSF ((c_X10_isWithin l dC dI k xv 0 1 (by omega)) s.heap.size) ⟨va_cnB 3 hts gX0_refusal_X10_isWithin_n97 rfl rfl rfl (hNw _ (List.mem_of_getElem? (i := 61) rfl)) (hts (.initialized RX10) (List.mem_cons_of_mem _ (wl_1 (List.mem_of_getElem? (i := 2) rfl)))) (by decide +kernel) ⟨Nat.le_of_ble_eq_true rfl, Nat.le_of_ble_eq_true rfl⟩, (hts (.static yX10_isWithin) (List.mem_cons_of_mem _ (wl_6 (List.mem_of_getElem? (i := 12) rfl)))), trivial⟩ (preS hP hD hE hS hA [] rfl (by decide)) rfl rfl hl.1 rfl (lv_room (Nat.le_of_ble_eq_true rfl)) dX0_refusal_251 ⟨Nat.le_of_ble_eq_true rfl, Nat.le_of_ble_eq_true rfl⟩) hP hD hS hA [] [0, 1] rfl (wr := [(h0, .inr (2, [.ref xa1, .ref xa2, .ref xa3, .ref xa5, .ref xa8, .int (iI 0), .int (iI 0), .int (iI 0)])), (xa3, .inr (7, [.int (iI 0), .int (iI 0), .int (iI 0), .long (lI 0), .int (iI 0), .int (iI 0), .int (iI 0), .long (lI 0), .long (lI 0), .long (lI 0), .long (lI 0), .long (lI 0), .int (iI 0), .int (iI 0), .int (iI 0), .int (iI 0), .ref xa4]))]) rfl (by decide) (by decide) (fun r251 _ H locs hw hP hD hS => ?_)
  obtain rfl : r251 = iI 0 := hw.trans (by rw [wi0 (by omega)])
  have hP : va_P (dC, dI) vwCl [(h0, .inr (2, [.ref xa1, .ref xa2, .ref xa3, .ref xa5, .ref xa8, .int (iI 0), .int (iI 0), .int (iI 0)])), (xa3, .inr (7, [.int (iI 0), .int (iI 0), .int (iI 0), .long (lI 0), .int (iI 0), .int (iI 0), .int (iI 0), .long (lI 0), .long (lI 0), .long (lI 0), .long (lI 0), .long (lI 0), .int (iI 0), .int (iI 0), .int (iI 0), .int (iI 0), .ref xa4]))] H := hP
  have hD : va_D A [(h0, .inr (2, [.ref xa1, .ref xa2, .ref xa3, .ref xa5, .ref xa8, .int (iI 0), .int (iI 0), .int (iI 0)])), (xa3, .inr (7, [.int (iI 0), .int (iI 0), .int (iI 0), .long (lI 0), .int (iI 0), .int (iI 0), .int (iI 0), .long (lI 0), .long (lI 0), .long (lI 0), .long (lI 0), .long (lI 0), .int (iI 0), .int (iI 0), .int (iI 0), .int (iI 0), .ref xa4]))] := hD
  refine q_if_ne (tgt := 261) hx hb dX0_refusal_254 (by decide) (by omega) (fun q => absurd q (by omega)) (fun _ => ?_)
  refine q_iconst hx hb dX0_refusal_257 ?_
  refine lv_goto (tgt := 262) hx hb dX0_refusal_258 (by decide) ?_
  refine q_iconst hx hb dX0_refusal_262 ?_
  refine ki (va_runS (As := [.int (iI 1), .int (iI 0)]) (rest := []) hSF ((c_X0_refusalIf l dC dI k 1 0 (by omega)) H.size) (va_cwS 2 hts gX0_refusal_X0_refusalIf rfl rfl rfl (by decide +kernel) ⟨Nat.le_of_ble_eq_true rfl, Nat.le_of_ble_eq_true rfl⟩) (preS hP hD hE hS hA [] rfl (by decide)) rfl rfl hl.1 rfl (lv_room (Nat.le_of_ble_eq_true rfl)) dX0_refusal_263 ⟨Nat.le_of_ble_eq_true rfl, Nat.le_of_ble_eq_true rfl⟩) hP hD hS hA [] [0, 1] rfl (wr := [(h0, .inr (2, [.ref xa1, .ref xa2, .ref xa3, .ref xa5, .ref xa8, .int (iI 0), .int (iI 0), .int (iI 0)])), (xa3, .inr (7, [.int (iI 0), .int (iI 0), .int (iI 0), .long (lI 0), .int (iI 0), .int (iI 0), .int (iI 0), .long (lI 0), .long (lI 0), .long (lI 0), .long (lI 0), .long (lI 0), .int (iI 0), .int (iI 0), .int (iI 0), .int (iI 0), .ref xa4]))]) rfl (by decide) (by decide) (fun r263 _ H locs hw hP hD hS => ?_)
  obtain rfl : r263 = iI 1 := hw.trans (by decide)
  have hP : va_P (dC, dI) vwCl [(h0, .inr (2, [.ref xa1, .ref xa2, .ref xa3, .ref xa5, .ref xa8, .int (iI 0), .int (iI 0), .int (iI 0)])), (xa3, .inr (7, [.int (iI 0), .int (iI 0), .int (iI 0), .long (lI 0), .int (iI 0), .int (iI 0), .int (iI 0), .long (lI 0), .long (lI 0), .long (lI 0), .long (lI 0), .long (lI 0), .int (iI 0), .int (iI 0), .int (iI 0), .int (iI 0), .ref xa4]))] H := hP
  have hD : va_D A [(h0, .inr (2, [.ref xa1, .ref xa2, .ref xa3, .ref xa5, .ref xa8, .int (iI 0), .int (iI 0), .int (iI 0)])), (xa3, .inr (7, [.int (iI 0), .int (iI 0), .int (iI 0), .long (lI 0), .int (iI 0), .int (iI 0), .int (iI 0), .long (lI 0), .long (lI 0), .long (lI 0), .long (lI 0), .long (lI 0), .int (iI 0), .int (iI 0), .int (iI 0), .int (iI 0), .ref xa4]))] := hD
  rw [hQ]
  refine W.widen (k := 0) (n := 0) (Nat.le_of_ble_eq_true rfl) (Nat.le_of_ble_eq_true rfl) ?_
  exact W.iret (v := (iI 1)) hx hb hr (fun t ht hW => ⟨⟨(iI 1), (), rfl, rfl, by rw [ht]; exact hP.sub [0, 1] rfl, by rw [hAe]; exact hD.sub [0, 1] (by decide) rfl⟩, hS.F ht⟩) hS.2.2 dX0_refusal_266
set_option maxHeartbeats 4000000 in
set_option maxRecDepth 100000 in
/-- refusal of kind 2: 0 -/
theorem c_X0_refusal_2_0 (l : Launch) (dC : Nat → ClassId) (dI : Nat → Nat → Nat) (k : Nat → ClassId) (h0 xa1 xa2 xa3 xa4 xa5 xa6 xa7 xa8 xa9 xa10 xa11 : Nat) (xv : Int) (hv9 : -2147483648 ≤ xv ∧ xv ≤ 2147483647) (hv : 0 ≤ xv ∧ xv ≤ 30) (sz : Nat) : Met l yX0_refusal woX0_refusal ({ frames := 1, cells := 0, slots := 0, locals := 22 } : Room) (PcW (dC, dI) k [.ref h0, .int (iI 2), .int (iI xv)] [(h0, .inr (2, [.ref xa1, .ref xa2, .ref xa3, .ref xa5, .ref xa8, .int (iI 0), .int (iI 0), .int (iI 0)])), (xa3, .inr (7, [.int (iI 0), .int (iI 0), .int (iI 0), .long (lI 0), .int (iI 0), .int (iI 0), .int (iI 0), .long (lI 0), .long (lI 0), .long (lI 0), .long (lI 0), .long (lI 0), .int (iI 0), .int (iI 0), .int (iI 0), .int (iI 0), .ref xa4]))] sz) (va_Qi (fun (r : Int32) (_ : Unit) => r = iI 0) (QB (dC, dI) [(h0, .inr (2, [.ref xa1, .ref xa2, .ref xa3, .ref xa5, .ref xa8, .int (iI 0), .int (iI 0), .int (iI 0)])), (xa3, .inr (7, [.int (iI 0), .int (iI 0), .int (iI 0), .long (lI 0), .int (iI 0), .int (iI 0), .int (iI 0), .long (lI 0), .long (lI 0), .long (lI 0), .long (lI 0), .long (lI 0), .int (iI 0), .int (iI 0), .int (iI 0), .int (iI 0), .ref xa4]))] (fun _ => [(h0, .inr (2, [.ref xa1, .ref xa2, .ref xa3, .ref xa5, .ref xa8, .int (iI 0), .int (iI 0), .int (iI 0)])), (xa3, .inr (7, [.int (iI 0), .int (iI 0), .int (iI 0), .long (lI 0), .int (iI 0), .int (iI 0), .int (iI 0), .long (lI 0), .long (lI 0), .long (lI 0), .long (lI 0), .long (lI 0), .int (iI 0), .int (iI 0), .int (iI 0), .int (iI 0), .ref xa4]))]) sz) (va_A [(h0, .inr (2, [.ref xa1, .ref xa2, .ref xa3, .ref xa5, .ref xa8, .int (iI 0), .int (iI 0), .int (iI 0)])), (xa3, .inr (7, [.int (iI 0), .int (iI 0), .int (iI 0), .long (lI 0), .int (iI 0), .int (iI 0), .int (iI 0), .long (lI 0), .long (lI 0), .long (lI 0), .long (lI 0), .long (lI 0), .int (iI 0), .int (iI 0), .int (iI 0), .int (iI 0), .ref xa4]))] sz)) 0 0 (va_A [(h0, .inr (2, [.ref xa1, .ref xa2, .ref xa3, .ref xa5, .ref xa8, .int (iI 0), .int (iI 0), .int (iI 0)])), (xa3, .inr (7, [.int (iI 0), .int (iI 0), .int (iI 0), .long (lI 0), .int (iI 0), .int (iI 0), .int (iI 0), .long (lI 0), .long (lI 0), .long (lI 0), .long (lI 0), .long (lI 0), .int (iI 0), .int (iI 0), .int (iI 0), .int (iI 0), .ref xa4]))] sz) := by
  refine Met.ofW (cc := cX0_refusal) (maxL := 4) (ret := (some .int)) (by decide) rfl ?_
  intro p e s mI args below meth cO s₁ B hml hv
  obtain ⟨rfl, rfl, hP, hD0, hE⟩ := hv
  have hx := B.exec
  have hb := B.bytes
  have hr := B.returns
  have hts := atoms_spec (ws := woX0_refusal) B.pre
  have hown : s.vm.findClass RX0 = some mI.cls := findClass_of_methodNamed B.named
  have hlocks := B.notSynchronized
  have hD := hD0.self (sz := s.heap.size)
  generalize hAe : va_A [(h0, .inr (2, [.ref xa1, .ref xa2, .ref xa3, .ref xa5, .ref xa8, .int (iI 0), .int (iI 0), .int (iI 0)])), (xa3, .inr (7, [.int (iI 0), .int (iI 0), .int (iI 0), .long (lI 0), .int (iI 0), .int (iI 0), .int (iI 0), .long (lI 0), .long (lI 0), .long (lI 0), .long (lI 0), .long (lI 0), .int (iI 0), .int (iI 0), .int (iI 0), .int (iI 0), .ref xa4]))] s.heap.size = A at hD hE ⊢
  have hA : ∀ q : Nat, s.heap.size ≤ q → A q := fun q h => by rw [← hAe]; exact Or.inr h
  have hS : va_S A s.heap s.heap [] := va_S.rf
  obtain ⟨hK, hNw, hNc, hZs, hAO1, hAO2⟩ := id hE
  have hSF : CallFix p mI cO cX0_refusal 4 s ([.ref h0, .int (iI 2), .int (iI xv)] : List Value).toArray woX0_refusal RX0 := ⟨hx, hb, hml, hown, hts⟩
  have hl := lv_entry ([.ref h0, .int (iI 2), .int (iI xv)] : List Value) (n := 4) (Nat.le_of_ble_eq_true rfl)
  rw [lg_entry_eq]
  generalize (lg_sl ([.ref h0, .int (iI 2), .int (iI xv)] : List Value) ++ List.replicate (4 - (lg_sl ([.ref h0, .int (iI 2), .int (iI xv)] : List Value)).length) Slot.unset).toArray = ls at hl ⊢
  have hl : lv_has ls 4 [(0, .ref h0), (1, .int (iI 2)), (2, .int (iI xv))] := hl
  refine W_gen (fun Q hQ => ?_)
  change W p l e ({ frames := 1, cells := 0, slots := 0, locals := 22 } : Room) s mI _ below meth cO s.heap [] 0 0 Q _
  have hP : va_P (dC, dI) vwCl [(h0, .inr (2, [.ref xa1, .ref xa2, .ref xa3, .ref xa5, .ref xa8, .int (iI 0), .int (iI 0), .int (iI 0)])), (xa3, .inr (7, [.int (iI 0), .int (iI 0), .int (iI 0), .long (lI 0), .int (iI 0), .int (iI 0), .int (iI 0), .long (lI 0), .long (lI 0), .long (lI 0), .long (lI 0), .long (lI 0), .int (iI 0), .int (iI 0), .int (iI 0), .int (iI 0), .ref xa4]))] s.heap := hP
  refine lv_iload_n hx hb dX0_refusal_0 rfl (lv_at hl 1 rfl) ?_
  refine lv_tableOut (tgt := 232) hx hb dX0_refusal_1 (by rw [iI_toInt ⟨by omega, by omega⟩]; omega) (by decide) ?_
  refine lv_iload_n hx hb dX0_refusal_232 rfl (lv_at hl 1 rfl) ?_
  refine q_if_lt (tgt := 257) hx hb dX0_refusal_233 (by decide) (by omega) (fun q => absurd q (by omega)) (fun _ => ?_)
  refine lv_iload_n hx hb dX0_refusal_236 rfl (lv_at hl 1 rfl) ?_
  obtain ⟨hmrt, hmrZ, hmrT⟩ := hZs.2.1
  refine va_gets hx hb hmrZ hS hown (hts (.fieldLink RX0 118 "LoanServicing$Account" "MOST_OF_RULES" "[I") (List.mem_cons_of_mem _ (wl_16 (List.mem_of_getElem? (i := 20) rfl)))) (fun _ h9 => h9) dX0_refusal_237 ?_
  refine va_tlen (v := iI 5) hx hb hmrT hS (by decide) dX0_refusal_240 ?_
  refine q_icmp_ge (tgt := 257) hx hb dX0_refusal_241 (by decide) (by omega) (fun q => absurd q (by omega)) (fun _ => ?_)
  refine lv_iload_n hx hb dX0_refusal_244 rfl (lv_at hl 2 rfl) ?_
  refine q_iconst hx hb dX0_refusal_245 ?_
  refine va_gets hx hb hmrZ hS hown (hts (.fieldLink RX0 118 "LoanServicing$Account" "MOST_OF_RULES" "[I") (List.mem_cons_of_mem _ (wl_16 (List.mem_of_getElem? (i := 20) rfl)))) (fun _ h9 => h9) dX0_refusal_246 ?_
  refine lv_iload_n hx hb dX0_refusal_249 rfl (lv_at hl 1 rfl) ?_
  refine q_sti (z := 30) hx hb hmrT hS (by omega) (by decide) dX0_refusal_250 ?_
  refine ki (va_runSN (As := [.int (iI xv), .int (iI 0), .int (iI 30)]) (rest := []) hSF ((c_X10_isWithin l dC dI k xv 0 30 (by omega)) s.heap.size) ⟨va_cnB 3 hts gX0_refusal_X10_isWithin_n97 rfl rfl rfl (hNw _ (List.mem_of_getElem? (i := 61) rfl)) (hts (.initialized RX10) (List.mem_cons_of_mem _ (wl_1 (List.mem_of_getElem? (i := 2) rfl)))) (by decide +kernel) ⟨Nat.le_of_ble_eq_true rfl, Nat.le_of_ble_eq_true rfl⟩, (hts (.static yX10_isWithin) (List.mem_cons_of_mem _ (wl_6 (List.mem_of_getElem? (i := 12) rfl)))), trivial⟩ (preS hP hD hE hS hA [] rfl (by decide)) rfl rfl hl.1 rfl (lv_room (Nat.le_of_ble_eq_true rfl)) dX0_refusal_251 ⟨Nat.le_of_ble_eq_true rfl, Nat.le_of_ble_eq_true rfl⟩) hP hD hS hA [] [0, 1] rfl (wr := [(h0, .inr (2, [.ref xa1, .ref xa2, .ref xa3, .ref xa5, .ref xa8, .int (iI 0), .int (iI 0), .int (iI 0)])), (xa3, .inr (7, [.int (iI 0), .int (iI 0), .int (iI 0), .long (lI 0), .int (iI 0), .int (iI 0), .int (iI 0), .long (lI 0), .long (lI 0), .long (lI 0), .long (lI 0), .long (lI 0), .int (iI 0), .int (iI 0), .int (iI 0), .int (iI 0), .ref xa4]))]) rfl (by decide) (by decide) (fun r251 _ H locs hw hP hD hS => ?_)
  obtain rfl : r251 = iI 1 := hw.trans (by rw [wi1 (by omega)])
  have hP : va_P (dC, dI) vwCl [(h0, .inr (2, [.ref xa1, .ref xa2, .ref xa3, .ref xa5, .ref xa8, .int (iI 0), .int (iI 0), .int (iI 0)])), (xa3, .inr (7, [.int (iI 0), .int (iI 0), .int (iI 0), .long (lI 0), .int (iI 0), .int (iI 0), .int (iI 0), .long (lI 0), .long (lI 0), .long (lI 0), .long (lI 0), .long (lI 0), .int (iI 0), .int (iI 0), .int (iI 0), .int (iI 0), .ref xa4]))] H := hP
  have hD : va_D A [(h0, .inr (2, [.ref xa1, .ref xa2, .ref xa3, .ref xa5, .ref xa8, .int (iI 0), .int (iI 0), .int (iI 0)])), (xa3, .inr (7, [.int (iI 0), .int (iI 0), .int (iI 0), .long (lI 0), .int (iI 0), .int (iI 0), .int (iI 0), .long (lI 0), .long (lI 0), .long (lI 0), .long (lI 0), .long (lI 0), .int (iI 0), .int (iI 0), .int (iI 0), .int (iI 0), .ref xa4]))] := hD
  refine q_if_ne (tgt := 261) hx hb dX0_refusal_254 (by decide) (by omega) (fun _ => ?_) (fun q => absurd q (by omega))
  refine q_iconst hx hb dX0_refusal_261 ?_
  refine q_iconst hx hb dX0_refusal_262 ?_
  refine ki (va_runS (As := [.int (iI 0), .int (iI 0)]) (rest := []) hSF ((c_X0_refusalIf l dC dI k 0 0 (by omega)) H.size) (va_cwS 2 hts gX0_refusal_X0_refusalIf rfl rfl rfl (by decide +kernel) ⟨Nat.le_of_ble_eq_true rfl, Nat.le_of_ble_eq_true rfl⟩) (preS hP hD hE hS hA [] rfl (by decide)) rfl rfl hl.1 rfl (lv_room (Nat.le_of_ble_eq_true rfl)) dX0_refusal_263 ⟨Nat.le_of_ble_eq_true rfl, Nat.le_of_ble_eq_true rfl⟩) hP hD hS hA [] [0, 1] rfl (wr := [(h0, .inr (2, [.ref xa1, .ref xa2, .ref xa3, .ref xa5, .ref xa8, .int (iI 0), .int (iI 0), .int (iI 0)])), (xa3, .inr (7, [.int (iI 0), .int (iI 0), .int (iI 0), .long (lI 0), .int (iI 0), .int (iI 0), .int (iI 0), .long (lI 0), .long (lI 0), .long (lI 0), .long (lI 0), .long (lI 0), .int (iI 0), .int (iI 0), .int (iI 0), .int (iI 0), .ref xa4]))]) rfl (by decide) (by decide) (fun r263 _ H locs hw hP hD hS => ?_)
  obtain rfl : r263 = iI 0 := hw.trans (by decide)
  have hP : va_P (dC, dI) vwCl [(h0, .inr (2, [.ref xa1, .ref xa2, .ref xa3, .ref xa5, .ref xa8, .int (iI 0), .int (iI 0), .int (iI 0)])), (xa3, .inr (7, [.int (iI 0), .int (iI 0), .int (iI 0), .long (lI 0), .int (iI 0), .int (iI 0), .int (iI 0), .long (lI 0), .long (lI 0), .long (lI 0), .long (lI 0), .long (lI 0), .int (iI 0), .int (iI 0), .int (iI 0), .int (iI 0), .ref xa4]))] H := hP
  have hD : va_D A [(h0, .inr (2, [.ref xa1, .ref xa2, .ref xa3, .ref xa5, .ref xa8, .int (iI 0), .int (iI 0), .int (iI 0)])), (xa3, .inr (7, [.int (iI 0), .int (iI 0), .int (iI 0), .long (lI 0), .int (iI 0), .int (iI 0), .int (iI 0), .long (lI 0), .long (lI 0), .long (lI 0), .long (lI 0), .long (lI 0), .int (iI 0), .int (iI 0), .int (iI 0), .int (iI 0), .ref xa4]))] := hD
  rw [hQ]
  refine W.widen (k := 0) (n := 0) (Nat.le_of_ble_eq_true rfl) (Nat.le_of_ble_eq_true rfl) ?_
  exact W.iret (v := (iI 0)) hx hb hr (fun t ht hW => ⟨⟨(iI 0), (), rfl, rfl, by rw [ht]; exact hP.sub [0, 1] rfl, by rw [hAe]; exact hD.sub [0, 1] (by decide) rfl⟩, hS.F ht⟩) hS.2.2 dX0_refusal_266
set_option maxHeartbeats 4000000 in
set_option maxRecDepth 100000 in
/-- refusal of kind 2: 1 -/
theorem c_X0_refusal_2_1 (l : Launch) (dC : Nat → ClassId) (dI : Nat → Nat → Nat) (k : Nat → ClassId) (h0 xa1 xa2 xa3 xa4 xa5 xa6 xa7 xa8 xa9 xa10 xa11 : Nat) (xv : Int) (hv9 : -2147483648 ≤ xv ∧ xv ≤ 2147483647) (hv : ¬ (0 ≤ xv ∧ xv ≤ 30)) (sz : Nat) : Met l yX0_refusal woX0_refusal ({ frames := 1, cells := 0, slots := 0, locals := 22 } : Room) (PcW (dC, dI) k [.ref h0, .int (iI 2), .int (iI xv)] [(h0, .inr (2, [.ref xa1, .ref xa2, .ref xa3, .ref xa5, .ref xa8, .int (iI 0), .int (iI 0), .int (iI 0)])), (xa3, .inr (7, [.int (iI 0), .int (iI 0), .int (iI 0), .long (lI 0), .int (iI 0), .int (iI 0), .int (iI 0), .long (lI 0), .long (lI 0), .long (lI 0), .long (lI 0), .long (lI 0), .int (iI 0), .int (iI 0), .int (iI 0), .int (iI 0), .ref xa4]))] sz) (va_Qi (fun (r : Int32) (_ : Unit) => r = iI 1) (QB (dC, dI) [(h0, .inr (2, [.ref xa1, .ref xa2, .ref xa3, .ref xa5, .ref xa8, .int (iI 0), .int (iI 0), .int (iI 0)])), (xa3, .inr (7, [.int (iI 0), .int (iI 0), .int (iI 0), .long (lI 0), .int (iI 0), .int (iI 0), .int (iI 0), .long (lI 0), .long (lI 0), .long (lI 0), .long (lI 0), .long (lI 0), .int (iI 0), .int (iI 0), .int (iI 0), .int (iI 0), .ref xa4]))] (fun _ => [(h0, .inr (2, [.ref xa1, .ref xa2, .ref xa3, .ref xa5, .ref xa8, .int (iI 0), .int (iI 0), .int (iI 0)])), (xa3, .inr (7, [.int (iI 0), .int (iI 0), .int (iI 0), .long (lI 0), .int (iI 0), .int (iI 0), .int (iI 0), .long (lI 0), .long (lI 0), .long (lI 0), .long (lI 0), .long (lI 0), .int (iI 0), .int (iI 0), .int (iI 0), .int (iI 0), .ref xa4]))]) sz) (va_A [(h0, .inr (2, [.ref xa1, .ref xa2, .ref xa3, .ref xa5, .ref xa8, .int (iI 0), .int (iI 0), .int (iI 0)])), (xa3, .inr (7, [.int (iI 0), .int (iI 0), .int (iI 0), .long (lI 0), .int (iI 0), .int (iI 0), .int (iI 0), .long (lI 0), .long (lI 0), .long (lI 0), .long (lI 0), .long (lI 0), .int (iI 0), .int (iI 0), .int (iI 0), .int (iI 0), .ref xa4]))] sz)) 0 0 (va_A [(h0, .inr (2, [.ref xa1, .ref xa2, .ref xa3, .ref xa5, .ref xa8, .int (iI 0), .int (iI 0), .int (iI 0)])), (xa3, .inr (7, [.int (iI 0), .int (iI 0), .int (iI 0), .long (lI 0), .int (iI 0), .int (iI 0), .int (iI 0), .long (lI 0), .long (lI 0), .long (lI 0), .long (lI 0), .long (lI 0), .int (iI 0), .int (iI 0), .int (iI 0), .int (iI 0), .ref xa4]))] sz) := by
  refine Met.ofW (cc := cX0_refusal) (maxL := 4) (ret := (some .int)) (by decide) rfl ?_
  intro p e s mI args below meth cO s₁ B hml hv
  obtain ⟨rfl, rfl, hP, hD0, hE⟩ := hv
  have hx := B.exec
  have hb := B.bytes
  have hr := B.returns
  have hts := atoms_spec (ws := woX0_refusal) B.pre
  have hown : s.vm.findClass RX0 = some mI.cls := findClass_of_methodNamed B.named
  have hlocks := B.notSynchronized
  have hD := hD0.self (sz := s.heap.size)
  generalize hAe : va_A [(h0, .inr (2, [.ref xa1, .ref xa2, .ref xa3, .ref xa5, .ref xa8, .int (iI 0), .int (iI 0), .int (iI 0)])), (xa3, .inr (7, [.int (iI 0), .int (iI 0), .int (iI 0), .long (lI 0), .int (iI 0), .int (iI 0), .int (iI 0), .long (lI 0), .long (lI 0), .long (lI 0), .long (lI 0), .long (lI 0), .int (iI 0), .int (iI 0), .int (iI 0), .int (iI 0), .ref xa4]))] s.heap.size = A at hD hE ⊢
  have hA : ∀ q : Nat, s.heap.size ≤ q → A q := fun q h => by rw [← hAe]; exact Or.inr h
  have hS : va_S A s.heap s.heap [] := va_S.rf
  obtain ⟨hK, hNw, hNc, hZs, hAO1, hAO2⟩ := id hE
  have hSF : CallFix p mI cO cX0_refusal 4 s ([.ref h0, .int (iI 2), .int (iI xv)] : List Value).toArray woX0_refusal RX0 := ⟨hx, hb, hml, hown, hts⟩
  have hl := lv_entry ([.ref h0, .int (iI 2), .int (iI xv)] : List Value) (n := 4) (Nat.le_of_ble_eq_true rfl)
  rw [lg_entry_eq]
  generalize (lg_sl ([.ref h0, .int (iI 2), .int (iI xv)] : List Value) ++ List.replicate (4 - (lg_sl ([.ref h0, .int (iI 2), .int (iI xv)] : List Value)).length) Slot.unset).toArray = ls at hl ⊢
  have hl : lv_has ls 4 [(0, .ref h0), (1, .int (iI 2)), (2, .int (iI xv))] := hl
  refine W_gen (fun Q hQ => ?_)
  change W p l e ({ frames := 1, cells := 0, slots := 0, locals := 22 } : Room) s mI _ below meth cO s.heap [] 0 0 Q _
  have hP : va_P (dC, dI) vwCl [(h0, .inr (2, [.ref xa1, .ref xa2, .ref xa3, .ref xa5, .ref xa8, .int (iI 0), .int (iI 0), .int (iI 0)])), (xa3, .inr (7, [.int (iI 0), .int (iI 0), .int (iI 0), .long (lI 0), .int (iI 0), .int (iI 0), .int (iI 0), .long (lI 0), .long (lI 0), .long (lI 0), .long (lI 0), .long (lI 0), .int (iI 0), .int (iI 0), .int (iI 0), .int (iI 0), .ref xa4]))] s.heap := hP
  refine lv_iload_n hx hb dX0_refusal_0 rfl (lv_at hl 1 rfl) ?_
  refine lv_tableOut (tgt := 232) hx hb dX0_refusal_1 (by rw [iI_toInt ⟨by omega, by omega⟩]; omega) (by decide) ?_
  refine lv_iload_n hx hb dX0_refusal_232 rfl (lv_at hl 1 rfl) ?_
  refine q_if_lt (tgt := 257) hx hb dX0_refusal_233 (by decide) (by omega) (fun q => absurd q (by omega)) (fun _ => ?_)
  refine lv_iload_n hx hb dX0_refusal_236 rfl (lv_at hl 1 rfl) ?_
  obtain ⟨hmrt, hmrZ, hmrT⟩ := hZs.2.1
  refine va_gets hx hb hmrZ hS hown (hts (.fieldLink RX0 118 "LoanServicing$Account" "MOST_OF_RULES" "[I") (List.mem_cons_of_mem _ (wl_16 (List.mem_of_getElem? (i := 20) rfl)))) (fun _ h9 => h9) dX0_refusal_237 ?_
  refine va_tlen (v := iI 5) hx hb hmrT hS (by decide) dX0_refusal_240 ?_
  refine q_icmp_ge (tgt := 257) hx hb dX0_refusal_241 (by decide) (by omega) (fun q => absurd q (by omega)) (fun _ => ?_)
  refine lv_iload_n hx hb dX0_refusal_244 rfl (lv_at hl 2 rfl) ?_
  refine q_iconst hx hb dX0_refusal_245 ?_
  refine va_gets hx hb hmrZ hS hown (hts (.fieldLink RX0 118 "LoanServicing$Account" "MOST_OF_RULES" "[I") (List.mem_cons_of_mem _ (wl_16 (List.mem_of_getElem? (i := 20) rfl)))) (fun _ h9 => h9) dX0_refusal_246 ?_
  refine lv_iload_n hx hb dX0_refusal_249 rfl (lv_at hl 1 rfl) ?_
  refine q_sti (z := 30) hx hb hmrT hS (by omega) (by decide) dX0_refusal_250 ?_
  refine ki (va_runSN (As := [.int (iI xv), .int (iI 0), .int (iI 30)]) (rest := []) hSF ((c_X10_isWithin l dC dI k xv 0 30 (by omega)) s.heap.size) ⟨va_cnB 3 hts gX0_refusal_X10_isWithin_n97 rfl rfl rfl (hNw _ (List.mem_of_getElem? (i := 61) rfl)) (hts (.initialized RX10) (List.mem_cons_of_mem _ (wl_1 (List.mem_of_getElem? (i := 2) rfl)))) (by decide +kernel) ⟨Nat.le_of_ble_eq_true rfl, Nat.le_of_ble_eq_true rfl⟩, (hts (.static yX10_isWithin) (List.mem_cons_of_mem _ (wl_6 (List.mem_of_getElem? (i := 12) rfl)))), trivial⟩ (preS hP hD hE hS hA [] rfl (by decide)) rfl rfl hl.1 rfl (lv_room (Nat.le_of_ble_eq_true rfl)) dX0_refusal_251 ⟨Nat.le_of_ble_eq_true rfl, Nat.le_of_ble_eq_true rfl⟩) hP hD hS hA [] [0, 1] rfl (wr := [(h0, .inr (2, [.ref xa1, .ref xa2, .ref xa3, .ref xa5, .ref xa8, .int (iI 0), .int (iI 0), .int (iI 0)])), (xa3, .inr (7, [.int (iI 0), .int (iI 0), .int (iI 0), .long (lI 0), .int (iI 0), .int (iI 0), .int (iI 0), .long (lI 0), .long (lI 0), .long (lI 0), .long (lI 0), .long (lI 0), .int (iI 0), .int (iI 0), .int (iI 0), .int (iI 0), .ref xa4]))]) rfl (by decide) (by decide) (fun r251 _ H locs hw hP hD hS => ?_)
  obtain rfl : r251 = iI 0 := hw.trans (by rw [wi0 (by omega)])
  have hP : va_P (dC, dI) vwCl [(h0, .inr (2, [.ref xa1, .ref xa2, .ref xa3, .ref xa5, .ref xa8, .int (iI 0), .int (iI 0), .int (iI 0)])), (xa3, .inr (7, [.int (iI 0), .int (iI 0), .int (iI 0), .long (lI 0), .int (iI 0), .int (iI 0), .int (iI 0), .long (lI 0), .long (lI 0), .long (lI 0), .long (lI 0), .long (lI 0), .int (iI 0), .int (iI 0), .int (iI 0), .int (iI 0), .ref xa4]))] H := hP
  have hD : va_D A [(h0, .inr (2, [.ref xa1, .ref xa2, .ref xa3, .ref xa5, .ref xa8, .int (iI 0), .int (iI 0), .int (iI 0)])), (xa3, .inr (7, [.int (iI 0), .int (iI 0), .int (iI 0), .long (lI 0), .int (iI 0), .int (iI 0), .int (iI 0), .long (lI 0), .long (lI 0), .long (lI 0), .long (lI 0), .long (lI 0), .int (iI 0), .int (iI 0), .int (iI 0), .int (iI 0), .ref xa4]))] := hD
  refine q_if_ne (tgt := 261) hx hb dX0_refusal_254 (by decide) (by omega) (fun q => absurd q (by omega)) (fun _ => ?_)
  refine q_iconst hx hb dX0_refusal_257 ?_
  refine lv_goto (tgt := 262) hx hb dX0_refusal_258 (by decide) ?_
  refine q_iconst hx hb dX0_refusal_262 ?_
  refine ki (va_runS (As := [.int (iI 1), .int (iI 0)]) (rest := []) hSF ((c_X0_refusalIf l dC dI k 1 0 (by omega)) H.size) (va_cwS 2 hts gX0_refusal_X0_refusalIf rfl rfl rfl (by decide +kernel) ⟨Nat.le_of_ble_eq_true rfl, Nat.le_of_ble_eq_true rfl⟩) (preS hP hD hE hS hA [] rfl (by decide)) rfl rfl hl.1 rfl (lv_room (Nat.le_of_ble_eq_true rfl)) dX0_refusal_263 ⟨Nat.le_of_ble_eq_true rfl, Nat.le_of_ble_eq_true rfl⟩) hP hD hS hA [] [0, 1] rfl (wr := [(h0, .inr (2, [.ref xa1, .ref xa2, .ref xa3, .ref xa5, .ref xa8, .int (iI 0), .int (iI 0), .int (iI 0)])), (xa3, .inr (7, [.int (iI 0), .int (iI 0), .int (iI 0), .long (lI 0), .int (iI 0), .int (iI 0), .int (iI 0), .long (lI 0), .long (lI 0), .long (lI 0), .long (lI 0), .long (lI 0), .int (iI 0), .int (iI 0), .int (iI 0), .int (iI 0), .ref xa4]))]) rfl (by decide) (by decide) (fun r263 _ H locs hw hP hD hS => ?_)
  obtain rfl : r263 = iI 1 := hw.trans (by decide)
  have hP : va_P (dC, dI) vwCl [(h0, .inr (2, [.ref xa1, .ref xa2, .ref xa3, .ref xa5, .ref xa8, .int (iI 0), .int (iI 0), .int (iI 0)])), (xa3, .inr (7, [.int (iI 0), .int (iI 0), .int (iI 0), .long (lI 0), .int (iI 0), .int (iI 0), .int (iI 0), .long (lI 0), .long (lI 0), .long (lI 0), .long (lI 0), .long (lI 0), .int (iI 0), .int (iI 0), .int (iI 0), .int (iI 0), .ref xa4]))] H := hP
  have hD : va_D A [(h0, .inr (2, [.ref xa1, .ref xa2, .ref xa3, .ref xa5, .ref xa8, .int (iI 0), .int (iI 0), .int (iI 0)])), (xa3, .inr (7, [.int (iI 0), .int (iI 0), .int (iI 0), .long (lI 0), .int (iI 0), .int (iI 0), .int (iI 0), .long (lI 0), .long (lI 0), .long (lI 0), .long (lI 0), .long (lI 0), .int (iI 0), .int (iI 0), .int (iI 0), .int (iI 0), .ref xa4]))] := hD
  rw [hQ]
  refine W.widen (k := 0) (n := 0) (Nat.le_of_ble_eq_true rfl) (Nat.le_of_ble_eq_true rfl) ?_
  exact W.iret (v := (iI 1)) hx hb hr (fun t ht hW => ⟨⟨(iI 1), (), rfl, rfl, by rw [ht]; exact hP.sub [0, 1] rfl, by rw [hAe]; exact hD.sub [0, 1] (by decide) rfl⟩, hS.F ht⟩) hS.2.2 dX0_refusal_266
set_option maxHeartbeats 4000000 in
set_option maxRecDepth 100000 in
/-- refusal of kind 3: 0 -/
theorem c_X0_refusal_3_0 (l : Launch) (dC : Nat → ClassId) (dI : Nat → Nat → Nat) (k : Nat → ClassId) (h0 xa1 xa2 xa3 xa4 xa5 xa6 xa7 xa8 xa9 xa10 xa11 : Nat) (xv : Int) (hv9 : -2147483648 ≤ xv ∧ xv ≤ 2147483647) (hv : 0 ≤ xv ∧ xv ≤ 100000) (sz : Nat) : Met l yX0_refusal woX0_refusal ({ frames := 1, cells := 0, slots := 0, locals := 22 } : Room) (PcW (dC, dI) k [.ref h0, .int (iI 3), .int (iI xv)] [(h0, .inr (2, [.ref xa1, .ref xa2, .ref xa3, .ref xa5, .ref xa8, .int (iI 0), .int (iI 0), .int (iI 0)])), (xa3, .inr (7, [.int (iI 0), .int (iI 0), .int (iI 0), .long (lI 0), .int (iI 0), .int (iI 0), .int (iI 0), .long (lI 0), .long (lI 0), .long (lI 0), .long (lI 0), .long (lI 0), .int (iI 0), .int (iI 0), .int (iI 0), .int (iI 0), .ref xa4]))] sz) (va_Qi (fun (r : Int32) (_ : Unit) => r = iI 0) (QB (dC, dI) [(h0, .inr (2, [.ref xa1, .ref xa2, .ref xa3, .ref xa5, .ref xa8, .int (iI 0), .int (iI 0), .int (iI 0)])), (xa3, .inr (7, [.int (iI 0), .int (iI 0), .int (iI 0), .long (lI 0), .int (iI 0), .int (iI 0), .int (iI 0), .long (lI 0), .long (lI 0), .long (lI 0), .long (lI 0), .long (lI 0), .int (iI 0), .int (iI 0), .int (iI 0), .int (iI 0), .ref xa4]))] (fun _ => [(h0, .inr (2, [.ref xa1, .ref xa2, .ref xa3, .ref xa5, .ref xa8, .int (iI 0), .int (iI 0), .int (iI 0)])), (xa3, .inr (7, [.int (iI 0), .int (iI 0), .int (iI 0), .long (lI 0), .int (iI 0), .int (iI 0), .int (iI 0), .long (lI 0), .long (lI 0), .long (lI 0), .long (lI 0), .long (lI 0), .int (iI 0), .int (iI 0), .int (iI 0), .int (iI 0), .ref xa4]))]) sz) (va_A [(h0, .inr (2, [.ref xa1, .ref xa2, .ref xa3, .ref xa5, .ref xa8, .int (iI 0), .int (iI 0), .int (iI 0)])), (xa3, .inr (7, [.int (iI 0), .int (iI 0), .int (iI 0), .long (lI 0), .int (iI 0), .int (iI 0), .int (iI 0), .long (lI 0), .long (lI 0), .long (lI 0), .long (lI 0), .long (lI 0), .int (iI 0), .int (iI 0), .int (iI 0), .int (iI 0), .ref xa4]))] sz)) 0 0 (va_A [(h0, .inr (2, [.ref xa1, .ref xa2, .ref xa3, .ref xa5, .ref xa8, .int (iI 0), .int (iI 0), .int (iI 0)])), (xa3, .inr (7, [.int (iI 0), .int (iI 0), .int (iI 0), .long (lI 0), .int (iI 0), .int (iI 0), .int (iI 0), .long (lI 0), .long (lI 0), .long (lI 0), .long (lI 0), .long (lI 0), .int (iI 0), .int (iI 0), .int (iI 0), .int (iI 0), .ref xa4]))] sz) := by
  refine Met.ofW (cc := cX0_refusal) (maxL := 4) (ret := (some .int)) (by decide) rfl ?_
  intro p e s mI args below meth cO s₁ B hml hv
  obtain ⟨rfl, rfl, hP, hD0, hE⟩ := hv
  have hx := B.exec
  have hb := B.bytes
  have hr := B.returns
  have hts := atoms_spec (ws := woX0_refusal) B.pre
  have hown : s.vm.findClass RX0 = some mI.cls := findClass_of_methodNamed B.named
  have hlocks := B.notSynchronized
  have hD := hD0.self (sz := s.heap.size)
  generalize hAe : va_A [(h0, .inr (2, [.ref xa1, .ref xa2, .ref xa3, .ref xa5, .ref xa8, .int (iI 0), .int (iI 0), .int (iI 0)])), (xa3, .inr (7, [.int (iI 0), .int (iI 0), .int (iI 0), .long (lI 0), .int (iI 0), .int (iI 0), .int (iI 0), .long (lI 0), .long (lI 0), .long (lI 0), .long (lI 0), .long (lI 0), .int (iI 0), .int (iI 0), .int (iI 0), .int (iI 0), .ref xa4]))] s.heap.size = A at hD hE ⊢
  have hA : ∀ q : Nat, s.heap.size ≤ q → A q := fun q h => by rw [← hAe]; exact Or.inr h
  have hS : va_S A s.heap s.heap [] := va_S.rf
  obtain ⟨hK, hNw, hNc, hZs, hAO1, hAO2⟩ := id hE
  have hSF : CallFix p mI cO cX0_refusal 4 s ([.ref h0, .int (iI 3), .int (iI xv)] : List Value).toArray woX0_refusal RX0 := ⟨hx, hb, hml, hown, hts⟩
  have hl := lv_entry ([.ref h0, .int (iI 3), .int (iI xv)] : List Value) (n := 4) (Nat.le_of_ble_eq_true rfl)
  rw [lg_entry_eq]
  generalize (lg_sl ([.ref h0, .int (iI 3), .int (iI xv)] : List Value) ++ List.replicate (4 - (lg_sl ([.ref h0, .int (iI 3), .int (iI xv)] : List Value)).length) Slot.unset).toArray = ls at hl ⊢
  have hl : lv_has ls 4 [(0, .ref h0), (1, .int (iI 3)), (2, .int (iI xv))] := hl
  refine W_gen (fun Q hQ => ?_)
  change W p l e ({ frames := 1, cells := 0, slots := 0, locals := 22 } : Room) s mI _ below meth cO s.heap [] 0 0 Q _
  have hP : va_P (dC, dI) vwCl [(h0, .inr (2, [.ref xa1, .ref xa2, .ref xa3, .ref xa5, .ref xa8, .int (iI 0), .int (iI 0), .int (iI 0)])), (xa3, .inr (7, [.int (iI 0), .int (iI 0), .int (iI 0), .long (lI 0), .int (iI 0), .int (iI 0), .int (iI 0), .long (lI 0), .long (lI 0), .long (lI 0), .long (lI 0), .long (lI 0), .int (iI 0), .int (iI 0), .int (iI 0), .int (iI 0), .ref xa4]))] s.heap := hP
  refine lv_iload_n hx hb dX0_refusal_0 rfl (lv_at hl 1 rfl) ?_
  refine lv_tableOut (tgt := 232) hx hb dX0_refusal_1 (by rw [iI_toInt ⟨by omega, by omega⟩]; omega) (by decide) ?_
  refine lv_iload_n hx hb dX0_refusal_232 rfl (lv_at hl 1 rfl) ?_
  refine q_if_lt (tgt := 257) hx hb dX0_refusal_233 (by decide) (by omega) (fun q => absurd q (by omega)) (fun _ => ?_)
  refine lv_iload_n hx hb dX0_refusal_236 rfl (lv_at hl 1 rfl) ?_
  obtain ⟨hmrt, hmrZ, hmrT⟩ := hZs.2.1
  refine va_gets hx hb hmrZ hS hown (hts (.fieldLink RX0 118 "LoanServicing$Account" "MOST_OF_RULES" "[I") (List.mem_cons_of_mem _ (wl_16 (List.mem_of_getElem? (i := 20) rfl)))) (fun _ h9 => h9) dX0_refusal_237 ?_
  refine va_tlen (v := iI 5) hx hb hmrT hS (by decide) dX0_refusal_240 ?_
  refine q_icmp_ge (tgt := 257) hx hb dX0_refusal_241 (by decide) (by omega) (fun q => absurd q (by omega)) (fun _ => ?_)
  refine lv_iload_n hx hb dX0_refusal_244 rfl (lv_at hl 2 rfl) ?_
  refine q_iconst hx hb dX0_refusal_245 ?_
  refine va_gets hx hb hmrZ hS hown (hts (.fieldLink RX0 118 "LoanServicing$Account" "MOST_OF_RULES" "[I") (List.mem_cons_of_mem _ (wl_16 (List.mem_of_getElem? (i := 20) rfl)))) (fun _ h9 => h9) dX0_refusal_246 ?_
  refine lv_iload_n hx hb dX0_refusal_249 rfl (lv_at hl 1 rfl) ?_
  refine q_sti (z := 100000) hx hb hmrT hS (by omega) (by decide) dX0_refusal_250 ?_
  refine ki (va_runSN (As := [.int (iI xv), .int (iI 0), .int (iI 100000)]) (rest := []) hSF ((c_X10_isWithin l dC dI k xv 0 100000 (by omega)) s.heap.size) ⟨va_cnB 3 hts gX0_refusal_X10_isWithin_n97 rfl rfl rfl (hNw _ (List.mem_of_getElem? (i := 61) rfl)) (hts (.initialized RX10) (List.mem_cons_of_mem _ (wl_1 (List.mem_of_getElem? (i := 2) rfl)))) (by decide +kernel) ⟨Nat.le_of_ble_eq_true rfl, Nat.le_of_ble_eq_true rfl⟩, (hts (.static yX10_isWithin) (List.mem_cons_of_mem _ (wl_6 (List.mem_of_getElem? (i := 12) rfl)))), trivial⟩ (preS hP hD hE hS hA [] rfl (by decide)) rfl rfl hl.1 rfl (lv_room (Nat.le_of_ble_eq_true rfl)) dX0_refusal_251 ⟨Nat.le_of_ble_eq_true rfl, Nat.le_of_ble_eq_true rfl⟩) hP hD hS hA [] [0, 1] rfl (wr := [(h0, .inr (2, [.ref xa1, .ref xa2, .ref xa3, .ref xa5, .ref xa8, .int (iI 0), .int (iI 0), .int (iI 0)])), (xa3, .inr (7, [.int (iI 0), .int (iI 0), .int (iI 0), .long (lI 0), .int (iI 0), .int (iI 0), .int (iI 0), .long (lI 0), .long (lI 0), .long (lI 0), .long (lI 0), .long (lI 0), .int (iI 0), .int (iI 0), .int (iI 0), .int (iI 0), .ref xa4]))]) rfl (by decide) (by decide) (fun r251 _ H locs hw hP hD hS => ?_)
  obtain rfl : r251 = iI 1 := hw.trans (by rw [wi1 (by omega)])
  have hP : va_P (dC, dI) vwCl [(h0, .inr (2, [.ref xa1, .ref xa2, .ref xa3, .ref xa5, .ref xa8, .int (iI 0), .int (iI 0), .int (iI 0)])), (xa3, .inr (7, [.int (iI 0), .int (iI 0), .int (iI 0), .long (lI 0), .int (iI 0), .int (iI 0), .int (iI 0), .long (lI 0), .long (lI 0), .long (lI 0), .long (lI 0), .long (lI 0), .int (iI 0), .int (iI 0), .int (iI 0), .int (iI 0), .ref xa4]))] H := hP
  have hD : va_D A [(h0, .inr (2, [.ref xa1, .ref xa2, .ref xa3, .ref xa5, .ref xa8, .int (iI 0), .int (iI 0), .int (iI 0)])), (xa3, .inr (7, [.int (iI 0), .int (iI 0), .int (iI 0), .long (lI 0), .int (iI 0), .int (iI 0), .int (iI 0), .long (lI 0), .long (lI 0), .long (lI 0), .long (lI 0), .long (lI 0), .int (iI 0), .int (iI 0), .int (iI 0), .int (iI 0), .ref xa4]))] := hD
  refine q_if_ne (tgt := 261) hx hb dX0_refusal_254 (by decide) (by omega) (fun _ => ?_) (fun q => absurd q (by omega))
  refine q_iconst hx hb dX0_refusal_261 ?_
  refine q_iconst hx hb dX0_refusal_262 ?_
  refine ki (va_runS (As := [.int (iI 0), .int (iI 0)]) (rest := []) hSF ((c_X0_refusalIf l dC dI k 0 0 (by omega)) H.size) (va_cwS 2 hts gX0_refusal_X0_refusalIf rfl rfl rfl (by decide +kernel) ⟨Nat.le_of_ble_eq_true rfl, Nat.le_of_ble_eq_true rfl⟩) (preS hP hD hE hS hA [] rfl (by decide)) rfl rfl hl.1 rfl (lv_room (Nat.le_of_ble_eq_true rfl)) dX0_refusal_263 ⟨Nat.le_of_ble_eq_true rfl, Nat.le_of_ble_eq_true rfl⟩) hP hD hS hA [] [0, 1] rfl (wr := [(h0, .inr (2, [.ref xa1, .ref xa2, .ref xa3, .ref xa5, .ref xa8, .int (iI 0), .int (iI 0), .int (iI 0)])), (xa3, .inr (7, [.int (iI 0), .int (iI 0), .int (iI 0), .long (lI 0), .int (iI 0), .int (iI 0), .int (iI 0), .long (lI 0), .long (lI 0), .long (lI 0), .long (lI 0), .long (lI 0), .int (iI 0), .int (iI 0), .int (iI 0), .int (iI 0), .ref xa4]))]) rfl (by decide) (by decide) (fun r263 _ H locs hw hP hD hS => ?_)
  obtain rfl : r263 = iI 0 := hw.trans (by decide)
  have hP : va_P (dC, dI) vwCl [(h0, .inr (2, [.ref xa1, .ref xa2, .ref xa3, .ref xa5, .ref xa8, .int (iI 0), .int (iI 0), .int (iI 0)])), (xa3, .inr (7, [.int (iI 0), .int (iI 0), .int (iI 0), .long (lI 0), .int (iI 0), .int (iI 0), .int (iI 0), .long (lI 0), .long (lI 0), .long (lI 0), .long (lI 0), .long (lI 0), .int (iI 0), .int (iI 0), .int (iI 0), .int (iI 0), .ref xa4]))] H := hP
  have hD : va_D A [(h0, .inr (2, [.ref xa1, .ref xa2, .ref xa3, .ref xa5, .ref xa8, .int (iI 0), .int (iI 0), .int (iI 0)])), (xa3, .inr (7, [.int (iI 0), .int (iI 0), .int (iI 0), .long (lI 0), .int (iI 0), .int (iI 0), .int (iI 0), .long (lI 0), .long (lI 0), .long (lI 0), .long (lI 0), .long (lI 0), .int (iI 0), .int (iI 0), .int (iI 0), .int (iI 0), .ref xa4]))] := hD
  rw [hQ]
  refine W.widen (k := 0) (n := 0) (Nat.le_of_ble_eq_true rfl) (Nat.le_of_ble_eq_true rfl) ?_
  exact W.iret (v := (iI 0)) hx hb hr (fun t ht hW => ⟨⟨(iI 0), (), rfl, rfl, by rw [ht]; exact hP.sub [0, 1] rfl, by rw [hAe]; exact hD.sub [0, 1] (by decide) rfl⟩, hS.F ht⟩) hS.2.2 dX0_refusal_266
set_option maxHeartbeats 4000000 in
set_option maxRecDepth 100000 in
/-- refusal of kind 3: 1 -/
theorem c_X0_refusal_3_1 (l : Launch) (dC : Nat → ClassId) (dI : Nat → Nat → Nat) (k : Nat → ClassId) (h0 xa1 xa2 xa3 xa4 xa5 xa6 xa7 xa8 xa9 xa10 xa11 : Nat) (xv : Int) (hv9 : -2147483648 ≤ xv ∧ xv ≤ 2147483647) (hv : ¬ (0 ≤ xv ∧ xv ≤ 100000)) (sz : Nat) : Met l yX0_refusal woX0_refusal ({ frames := 1, cells := 0, slots := 0, locals := 22 } : Room) (PcW (dC, dI) k [.ref h0, .int (iI 3), .int (iI xv)] [(h0, .inr (2, [.ref xa1, .ref xa2, .ref xa3, .ref xa5, .ref xa8, .int (iI 0), .int (iI 0), .int (iI 0)])), (xa3, .inr (7, [.int (iI 0), .int (iI 0), .int (iI 0), .long (lI 0), .int (iI 0), .int (iI 0), .int (iI 0), .long (lI 0), .long (lI 0), .long (lI 0), .long (lI 0), .long (lI 0), .int (iI 0), .int (iI 0), .int (iI 0), .int (iI 0), .ref xa4]))] sz) (va_Qi (fun (r : Int32) (_ : Unit) => r = iI 1) (QB (dC, dI) [(h0, .inr (2, [.ref xa1, .ref xa2, .ref xa3, .ref xa5, .ref xa8, .int (iI 0), .int (iI 0), .int (iI 0)])), (xa3, .inr (7, [.int (iI 0), .int (iI 0), .int (iI 0), .long (lI 0), .int (iI 0), .int (iI 0), .int (iI 0), .long (lI 0), .long (lI 0), .long (lI 0), .long (lI 0), .long (lI 0), .int (iI 0), .int (iI 0), .int (iI 0), .int (iI 0), .ref xa4]))] (fun _ => [(h0, .inr (2, [.ref xa1, .ref xa2, .ref xa3, .ref xa5, .ref xa8, .int (iI 0), .int (iI 0), .int (iI 0)])), (xa3, .inr (7, [.int (iI 0), .int (iI 0), .int (iI 0), .long (lI 0), .int (iI 0), .int (iI 0), .int (iI 0), .long (lI 0), .long (lI 0), .long (lI 0), .long (lI 0), .long (lI 0), .int (iI 0), .int (iI 0), .int (iI 0), .int (iI 0), .ref xa4]))]) sz) (va_A [(h0, .inr (2, [.ref xa1, .ref xa2, .ref xa3, .ref xa5, .ref xa8, .int (iI 0), .int (iI 0), .int (iI 0)])), (xa3, .inr (7, [.int (iI 0), .int (iI 0), .int (iI 0), .long (lI 0), .int (iI 0), .int (iI 0), .int (iI 0), .long (lI 0), .long (lI 0), .long (lI 0), .long (lI 0), .long (lI 0), .int (iI 0), .int (iI 0), .int (iI 0), .int (iI 0), .ref xa4]))] sz)) 0 0 (va_A [(h0, .inr (2, [.ref xa1, .ref xa2, .ref xa3, .ref xa5, .ref xa8, .int (iI 0), .int (iI 0), .int (iI 0)])), (xa3, .inr (7, [.int (iI 0), .int (iI 0), .int (iI 0), .long (lI 0), .int (iI 0), .int (iI 0), .int (iI 0), .long (lI 0), .long (lI 0), .long (lI 0), .long (lI 0), .long (lI 0), .int (iI 0), .int (iI 0), .int (iI 0), .int (iI 0), .ref xa4]))] sz) := by
  refine Met.ofW (cc := cX0_refusal) (maxL := 4) (ret := (some .int)) (by decide) rfl ?_
  intro p e s mI args below meth cO s₁ B hml hv
  obtain ⟨rfl, rfl, hP, hD0, hE⟩ := hv
  have hx := B.exec
  have hb := B.bytes
  have hr := B.returns
  have hts := atoms_spec (ws := woX0_refusal) B.pre
  have hown : s.vm.findClass RX0 = some mI.cls := findClass_of_methodNamed B.named
  have hlocks := B.notSynchronized
  have hD := hD0.self (sz := s.heap.size)
  generalize hAe : va_A [(h0, .inr (2, [.ref xa1, .ref xa2, .ref xa3, .ref xa5, .ref xa8, .int (iI 0), .int (iI 0), .int (iI 0)])), (xa3, .inr (7, [.int (iI 0), .int (iI 0), .int (iI 0), .long (lI 0), .int (iI 0), .int (iI 0), .int (iI 0), .long (lI 0), .long (lI 0), .long (lI 0), .long (lI 0), .long (lI 0), .int (iI 0), .int (iI 0), .int (iI 0), .int (iI 0), .ref xa4]))] s.heap.size = A at hD hE ⊢
  have hA : ∀ q : Nat, s.heap.size ≤ q → A q := fun q h => by rw [← hAe]; exact Or.inr h
  have hS : va_S A s.heap s.heap [] := va_S.rf
  obtain ⟨hK, hNw, hNc, hZs, hAO1, hAO2⟩ := id hE
  have hSF : CallFix p mI cO cX0_refusal 4 s ([.ref h0, .int (iI 3), .int (iI xv)] : List Value).toArray woX0_refusal RX0 := ⟨hx, hb, hml, hown, hts⟩
  have hl := lv_entry ([.ref h0, .int (iI 3), .int (iI xv)] : List Value) (n := 4) (Nat.le_of_ble_eq_true rfl)
  rw [lg_entry_eq]
  generalize (lg_sl ([.ref h0, .int (iI 3), .int (iI xv)] : List Value) ++ List.replicate (4 - (lg_sl ([.ref h0, .int (iI 3), .int (iI xv)] : List Value)).length) Slot.unset).toArray = ls at hl ⊢
  have hl : lv_has ls 4 [(0, .ref h0), (1, .int (iI 3)), (2, .int (iI xv))] := hl
  refine W_gen (fun Q hQ => ?_)
  change W p l e ({ frames := 1, cells := 0, slots := 0, locals := 22 } : Room) s mI _ below meth cO s.heap [] 0 0 Q _
  have hP : va_P (dC, dI) vwCl [(h0, .inr (2, [.ref xa1, .ref xa2, .ref xa3, .ref xa5, .ref xa8, .int (iI 0), .int (iI 0), .int (iI 0)])), (xa3, .inr (7, [.int (iI 0), .int (iI 0), .int (iI 0), .long (lI 0), .int (iI 0), .int (iI 0), .int (iI 0), .long (lI 0), .long (lI 0), .long (lI 0), .long (lI 0), .long (lI 0), .int (iI 0), .int (iI 0), .int (iI 0), .int (iI 0), .ref xa4]))] s.heap := hP
  refine lv_iload_n hx hb dX0_refusal_0 rfl (lv_at hl 1 rfl) ?_
  refine lv_tableOut (tgt := 232) hx hb dX0_refusal_1 (by rw [iI_toInt ⟨by omega, by omega⟩]; omega) (by decide) ?_
  refine lv_iload_n hx hb dX0_refusal_232 rfl (lv_at hl 1 rfl) ?_
  refine q_if_lt (tgt := 257) hx hb dX0_refusal_233 (by decide) (by omega) (fun q => absurd q (by omega)) (fun _ => ?_)
  refine lv_iload_n hx hb dX0_refusal_236 rfl (lv_at hl 1 rfl) ?_
  obtain ⟨hmrt, hmrZ, hmrT⟩ := hZs.2.1
  refine va_gets hx hb hmrZ hS hown (hts (.fieldLink RX0 118 "LoanServicing$Account" "MOST_OF_RULES" "[I") (List.mem_cons_of_mem _ (wl_16 (List.mem_of_getElem? (i := 20) rfl)))) (fun _ h9 => h9) dX0_refusal_237 ?_
  refine va_tlen (v := iI 5) hx hb hmrT hS (by decide) dX0_refusal_240 ?_
  refine q_icmp_ge (tgt := 257) hx hb dX0_refusal_241 (by decide) (by omega) (fun q => absurd q (by omega)) (fun _ => ?_)
  refine lv_iload_n hx hb dX0_refusal_244 rfl (lv_at hl 2 rfl) ?_
  refine q_iconst hx hb dX0_refusal_245 ?_
  refine va_gets hx hb hmrZ hS hown (hts (.fieldLink RX0 118 "LoanServicing$Account" "MOST_OF_RULES" "[I") (List.mem_cons_of_mem _ (wl_16 (List.mem_of_getElem? (i := 20) rfl)))) (fun _ h9 => h9) dX0_refusal_246 ?_
  refine lv_iload_n hx hb dX0_refusal_249 rfl (lv_at hl 1 rfl) ?_
  refine q_sti (z := 100000) hx hb hmrT hS (by omega) (by decide) dX0_refusal_250 ?_
  refine ki (va_runSN (As := [.int (iI xv), .int (iI 0), .int (iI 100000)]) (rest := []) hSF ((c_X10_isWithin l dC dI k xv 0 100000 (by omega)) s.heap.size) ⟨va_cnB 3 hts gX0_refusal_X10_isWithin_n97 rfl rfl rfl (hNw _ (List.mem_of_getElem? (i := 61) rfl)) (hts (.initialized RX10) (List.mem_cons_of_mem _ (wl_1 (List.mem_of_getElem? (i := 2) rfl)))) (by decide +kernel) ⟨Nat.le_of_ble_eq_true rfl, Nat.le_of_ble_eq_true rfl⟩, (hts (.static yX10_isWithin) (List.mem_cons_of_mem _ (wl_6 (List.mem_of_getElem? (i := 12) rfl)))), trivial⟩ (preS hP hD hE hS hA [] rfl (by decide)) rfl rfl hl.1 rfl (lv_room (Nat.le_of_ble_eq_true rfl)) dX0_refusal_251 ⟨Nat.le_of_ble_eq_true rfl, Nat.le_of_ble_eq_true rfl⟩) hP hD hS hA [] [0, 1] rfl (wr := [(h0, .inr (2, [.ref xa1, .ref xa2, .ref xa3, .ref xa5, .ref xa8, .int (iI 0), .int (iI 0), .int (iI 0)])), (xa3, .inr (7, [.int (iI 0), .int (iI 0), .int (iI 0), .long (lI 0), .int (iI 0), .int (iI 0), .int (iI 0), .long (lI 0), .long (lI 0), .long (lI 0), .long (lI 0), .long (lI 0), .int (iI 0), .int (iI 0), .int (iI 0), .int (iI 0), .ref xa4]))]) rfl (by decide) (by decide) (fun r251 _ H locs hw hP hD hS => ?_)
  obtain rfl : r251 = iI 0 := hw.trans (by rw [wi0 (by omega)])
  have hP : va_P (dC, dI) vwCl [(h0, .inr (2, [.ref xa1, .ref xa2, .ref xa3, .ref xa5, .ref xa8, .int (iI 0), .int (iI 0), .int (iI 0)])), (xa3, .inr (7, [.int (iI 0), .int (iI 0), .int (iI 0), .long (lI 0), .int (iI 0), .int (iI 0), .int (iI 0), .long (lI 0), .long (lI 0), .long (lI 0), .long (lI 0), .long (lI 0), .int (iI 0), .int (iI 0), .int (iI 0), .int (iI 0), .ref xa4]))] H := hP
  have hD : va_D A [(h0, .inr (2, [.ref xa1, .ref xa2, .ref xa3, .ref xa5, .ref xa8, .int (iI 0), .int (iI 0), .int (iI 0)])), (xa3, .inr (7, [.int (iI 0), .int (iI 0), .int (iI 0), .long (lI 0), .int (iI 0), .int (iI 0), .int (iI 0), .long (lI 0), .long (lI 0), .long (lI 0), .long (lI 0), .long (lI 0), .int (iI 0), .int (iI 0), .int (iI 0), .int (iI 0), .ref xa4]))] := hD
  refine q_if_ne (tgt := 261) hx hb dX0_refusal_254 (by decide) (by omega) (fun q => absurd q (by omega)) (fun _ => ?_)
  refine q_iconst hx hb dX0_refusal_257 ?_
  refine lv_goto (tgt := 262) hx hb dX0_refusal_258 (by decide) ?_
  refine q_iconst hx hb dX0_refusal_262 ?_
  refine ki (va_runS (As := [.int (iI 1), .int (iI 0)]) (rest := []) hSF ((c_X0_refusalIf l dC dI k 1 0 (by omega)) H.size) (va_cwS 2 hts gX0_refusal_X0_refusalIf rfl rfl rfl (by decide +kernel) ⟨Nat.le_of_ble_eq_true rfl, Nat.le_of_ble_eq_true rfl⟩) (preS hP hD hE hS hA [] rfl (by decide)) rfl rfl hl.1 rfl (lv_room (Nat.le_of_ble_eq_true rfl)) dX0_refusal_263 ⟨Nat.le_of_ble_eq_true rfl, Nat.le_of_ble_eq_true rfl⟩) hP hD hS hA [] [0, 1] rfl (wr := [(h0, .inr (2, [.ref xa1, .ref xa2, .ref xa3, .ref xa5, .ref xa8, .int (iI 0), .int (iI 0), .int (iI 0)])), (xa3, .inr (7, [.int (iI 0), .int (iI 0), .int (iI 0), .long (lI 0), .int (iI 0), .int (iI 0), .int (iI 0), .long (lI 0), .long (lI 0), .long (lI 0), .long (lI 0), .long (lI 0), .int (iI 0), .int (iI 0), .int (iI 0), .int (iI 0), .ref xa4]))]) rfl (by decide) (by decide) (fun r263 _ H locs hw hP hD hS => ?_)
  obtain rfl : r263 = iI 1 := hw.trans (by decide)
  have hP : va_P (dC, dI) vwCl [(h0, .inr (2, [.ref xa1, .ref xa2, .ref xa3, .ref xa5, .ref xa8, .int (iI 0), .int (iI 0), .int (iI 0)])), (xa3, .inr (7, [.int (iI 0), .int (iI 0), .int (iI 0), .long (lI 0), .int (iI 0), .int (iI 0), .int (iI 0), .long (lI 0), .long (lI 0), .long (lI 0), .long (lI 0), .long (lI 0), .int (iI 0), .int (iI 0), .int (iI 0), .int (iI 0), .ref xa4]))] H := hP
  have hD : va_D A [(h0, .inr (2, [.ref xa1, .ref xa2, .ref xa3, .ref xa5, .ref xa8, .int (iI 0), .int (iI 0), .int (iI 0)])), (xa3, .inr (7, [.int (iI 0), .int (iI 0), .int (iI 0), .long (lI 0), .int (iI 0), .int (iI 0), .int (iI 0), .long (lI 0), .long (lI 0), .long (lI 0), .long (lI 0), .long (lI 0), .int (iI 0), .int (iI 0), .int (iI 0), .int (iI 0), .ref xa4]))] := hD
  rw [hQ]
  refine W.widen (k := 0) (n := 0) (Nat.le_of_ble_eq_true rfl) (Nat.le_of_ble_eq_true rfl) ?_
  exact W.iret (v := (iI 1)) hx hb hr (fun t ht hW => ⟨⟨(iI 1), (), rfl, rfl, by rw [ht]; exact hP.sub [0, 1] rfl, by rw [hAe]; exact hD.sub [0, 1] (by decide) rfl⟩, hS.F ht⟩) hS.2.2 dX0_refusal_266
set_option maxHeartbeats 4000000 in
set_option maxRecDepth 100000 in
/-- refusal of kind 4: 0 -/
theorem c_X0_refusal_4_0 (l : Launch) (dC : Nat → ClassId) (dI : Nat → Nat → Nat) (k : Nat → ClassId) (h0 xa1 xa2 xa3 xa4 xa5 xa6 xa7 xa8 xa9 xa10 xa11 : Nat) (xv : Int) (hv9 : -2147483648 ≤ xv ∧ xv ≤ 2147483647) (hv : 0 ≤ xv ∧ xv ≤ 1) (sz : Nat) : Met l yX0_refusal woX0_refusal ({ frames := 1, cells := 0, slots := 0, locals := 22 } : Room) (PcW (dC, dI) k [.ref h0, .int (iI 4), .int (iI xv)] [(h0, .inr (2, [.ref xa1, .ref xa2, .ref xa3, .ref xa5, .ref xa8, .int (iI 0), .int (iI 0), .int (iI 0)])), (xa3, .inr (7, [.int (iI 0), .int (iI 0), .int (iI 0), .long (lI 0), .int (iI 0), .int (iI 0), .int (iI 0), .long (lI 0), .long (lI 0), .long (lI 0), .long (lI 0), .long (lI 0), .int (iI 0), .int (iI 0), .int (iI 0), .int (iI 0), .ref xa4]))] sz) (va_Qi (fun (r : Int32) (_ : Unit) => r = iI 0) (QB (dC, dI) [(h0, .inr (2, [.ref xa1, .ref xa2, .ref xa3, .ref xa5, .ref xa8, .int (iI 0), .int (iI 0), .int (iI 0)])), (xa3, .inr (7, [.int (iI 0), .int (iI 0), .int (iI 0), .long (lI 0), .int (iI 0), .int (iI 0), .int (iI 0), .long (lI 0), .long (lI 0), .long (lI 0), .long (lI 0), .long (lI 0), .int (iI 0), .int (iI 0), .int (iI 0), .int (iI 0), .ref xa4]))] (fun _ => [(h0, .inr (2, [.ref xa1, .ref xa2, .ref xa3, .ref xa5, .ref xa8, .int (iI 0), .int (iI 0), .int (iI 0)])), (xa3, .inr (7, [.int (iI 0), .int (iI 0), .int (iI 0), .long (lI 0), .int (iI 0), .int (iI 0), .int (iI 0), .long (lI 0), .long (lI 0), .long (lI 0), .long (lI 0), .long (lI 0), .int (iI 0), .int (iI 0), .int (iI 0), .int (iI 0), .ref xa4]))]) sz) (va_A [(h0, .inr (2, [.ref xa1, .ref xa2, .ref xa3, .ref xa5, .ref xa8, .int (iI 0), .int (iI 0), .int (iI 0)])), (xa3, .inr (7, [.int (iI 0), .int (iI 0), .int (iI 0), .long (lI 0), .int (iI 0), .int (iI 0), .int (iI 0), .long (lI 0), .long (lI 0), .long (lI 0), .long (lI 0), .long (lI 0), .int (iI 0), .int (iI 0), .int (iI 0), .int (iI 0), .ref xa4]))] sz)) 0 0 (va_A [(h0, .inr (2, [.ref xa1, .ref xa2, .ref xa3, .ref xa5, .ref xa8, .int (iI 0), .int (iI 0), .int (iI 0)])), (xa3, .inr (7, [.int (iI 0), .int (iI 0), .int (iI 0), .long (lI 0), .int (iI 0), .int (iI 0), .int (iI 0), .long (lI 0), .long (lI 0), .long (lI 0), .long (lI 0), .long (lI 0), .int (iI 0), .int (iI 0), .int (iI 0), .int (iI 0), .ref xa4]))] sz) := by
  refine Met.ofW (cc := cX0_refusal) (maxL := 4) (ret := (some .int)) (by decide) rfl ?_
  intro p e s mI args below meth cO s₁ B hml hv
  obtain ⟨rfl, rfl, hP, hD0, hE⟩ := hv
  have hx := B.exec
  have hb := B.bytes
  have hr := B.returns
  have hts := atoms_spec (ws := woX0_refusal) B.pre
  have hown : s.vm.findClass RX0 = some mI.cls := findClass_of_methodNamed B.named
  have hlocks := B.notSynchronized
  have hD := hD0.self (sz := s.heap.size)
  generalize hAe : va_A [(h0, .inr (2, [.ref xa1, .ref xa2, .ref xa3, .ref xa5, .ref xa8, .int (iI 0), .int (iI 0), .int (iI 0)])), (xa3, .inr (7, [.int (iI 0), .int (iI 0), .int (iI 0), .long (lI 0), .int (iI 0), .int (iI 0), .int (iI 0), .long (lI 0), .long (lI 0), .long (lI 0), .long (lI 0), .long (lI 0), .int (iI 0), .int (iI 0), .int (iI 0), .int (iI 0), .ref xa4]))] s.heap.size = A at hD hE ⊢
  have hA : ∀ q : Nat, s.heap.size ≤ q → A q := fun q h => by rw [← hAe]; exact Or.inr h
  have hS : va_S A s.heap s.heap [] := va_S.rf
  obtain ⟨hK, hNw, hNc, hZs, hAO1, hAO2⟩ := id hE
  have hSF : CallFix p mI cO cX0_refusal 4 s ([.ref h0, .int (iI 4), .int (iI xv)] : List Value).toArray woX0_refusal RX0 := ⟨hx, hb, hml, hown, hts⟩
  have hl := lv_entry ([.ref h0, .int (iI 4), .int (iI xv)] : List Value) (n := 4) (Nat.le_of_ble_eq_true rfl)
  rw [lg_entry_eq]
  generalize (lg_sl ([.ref h0, .int (iI 4), .int (iI xv)] : List Value) ++ List.replicate (4 - (lg_sl ([.ref h0, .int (iI 4), .int (iI xv)] : List Value)).length) Slot.unset).toArray = ls at hl ⊢
  have hl : lv_has ls 4 [(0, .ref h0), (1, .int (iI 4)), (2, .int (iI xv))] := hl
  refine W_gen (fun Q hQ => ?_)
  change W p l e ({ frames := 1, cells := 0, slots := 0, locals := 22 } : Room) s mI _ below meth cO s.heap [] 0 0 Q _
  have hP : va_P (dC, dI) vwCl [(h0, .inr (2, [.ref xa1, .ref xa2, .ref xa3, .ref xa5, .ref xa8, .int (iI 0), .int (iI 0), .int (iI 0)])), (xa3, .inr (7, [.int (iI 0), .int (iI 0), .int (iI 0), .long (lI 0), .int (iI 0), .int (iI 0), .int (iI 0), .long (lI 0), .long (lI 0), .long (lI 0), .long (lI 0), .long (lI 0), .int (iI 0), .int (iI 0), .int (iI 0), .int (iI 0), .ref xa4]))] s.heap := hP
  refine lv_iload_n hx hb dX0_refusal_0 rfl (lv_at hl 1 rfl) ?_
  refine lv_tableOut (tgt := 232) hx hb dX0_refusal_1 (by rw [iI_toInt ⟨by omega, by omega⟩]; omega) (by decide) ?_
  refine lv_iload_n hx hb dX0_refusal_232 rfl (lv_at hl 1 rfl) ?_
  refine q_if_lt (tgt := 257) hx hb dX0_refusal_233 (by decide) (by omega) (fun q => absurd q (by omega)) (fun _ => ?_)
  refine lv_iload_n hx hb dX0_refusal_236 rfl (lv_at hl 1 rfl) ?_
  obtain ⟨hmrt, hmrZ, hmrT⟩ := hZs.2.1
  refine va_gets hx hb hmrZ hS hown (hts (.fieldLink RX0 118 "LoanServicing$Account" "MOST_OF_RULES" "[I") (List.mem_cons_of_mem _ (wl_16 (List.mem_of_getElem? (i := 20) rfl)))) (fun _ h9 => h9) dX0_refusal_237 ?_
  refine va_tlen (v := iI 5) hx hb hmrT hS (by decide) dX0_refusal_240 ?_
  refine q_icmp_ge (tgt := 257) hx hb dX0_refusal_241 (by decide) (by omega) (fun q => absurd q (by omega)) (fun _ => ?_)
  refine lv_iload_n hx hb dX0_refusal_244 rfl (lv_at hl 2 rfl) ?_
  refine q_iconst hx hb dX0_refusal_245 ?_
  refine va_gets hx hb hmrZ hS hown (hts (.fieldLink RX0 118 "LoanServicing$Account" "MOST_OF_RULES" "[I") (List.mem_cons_of_mem _ (wl_16 (List.mem_of_getElem? (i := 20) rfl)))) (fun _ h9 => h9) dX0_refusal_246 ?_
  refine lv_iload_n hx hb dX0_refusal_249 rfl (lv_at hl 1 rfl) ?_
  refine q_sti (z := 1) hx hb hmrT hS (by omega) (by decide) dX0_refusal_250 ?_
  refine ki (va_runSN (As := [.int (iI xv), .int (iI 0), .int (iI 1)]) (rest := []) hSF ((c_X10_isWithin l dC dI k xv 0 1 (by omega)) s.heap.size) ⟨va_cnB 3 hts gX0_refusal_X10_isWithin_n97 rfl rfl rfl (hNw _ (List.mem_of_getElem? (i := 61) rfl)) (hts (.initialized RX10) (List.mem_cons_of_mem _ (wl_1 (List.mem_of_getElem? (i := 2) rfl)))) (by decide +kernel) ⟨Nat.le_of_ble_eq_true rfl, Nat.le_of_ble_eq_true rfl⟩, (hts (.static yX10_isWithin) (List.mem_cons_of_mem _ (wl_6 (List.mem_of_getElem? (i := 12) rfl)))), trivial⟩ (preS hP hD hE hS hA [] rfl (by decide)) rfl rfl hl.1 rfl (lv_room (Nat.le_of_ble_eq_true rfl)) dX0_refusal_251 ⟨Nat.le_of_ble_eq_true rfl, Nat.le_of_ble_eq_true rfl⟩) hP hD hS hA [] [0, 1] rfl (wr := [(h0, .inr (2, [.ref xa1, .ref xa2, .ref xa3, .ref xa5, .ref xa8, .int (iI 0), .int (iI 0), .int (iI 0)])), (xa3, .inr (7, [.int (iI 0), .int (iI 0), .int (iI 0), .long (lI 0), .int (iI 0), .int (iI 0), .int (iI 0), .long (lI 0), .long (lI 0), .long (lI 0), .long (lI 0), .long (lI 0), .int (iI 0), .int (iI 0), .int (iI 0), .int (iI 0), .ref xa4]))]) rfl (by decide) (by decide) (fun r251 _ H locs hw hP hD hS => ?_)
  obtain rfl : r251 = iI 1 := hw.trans (by rw [wi1 (by omega)])
  have hP : va_P (dC, dI) vwCl [(h0, .inr (2, [.ref xa1, .ref xa2, .ref xa3, .ref xa5, .ref xa8, .int (iI 0), .int (iI 0), .int (iI 0)])), (xa3, .inr (7, [.int (iI 0), .int (iI 0), .int (iI 0), .long (lI 0), .int (iI 0), .int (iI 0), .int (iI 0), .long (lI 0), .long (lI 0), .long (lI 0), .long (lI 0), .long (lI 0), .int (iI 0), .int (iI 0), .int (iI 0), .int (iI 0), .ref xa4]))] H := hP
  have hD : va_D A [(h0, .inr (2, [.ref xa1, .ref xa2, .ref xa3, .ref xa5, .ref xa8, .int (iI 0), .int (iI 0), .int (iI 0)])), (xa3, .inr (7, [.int (iI 0), .int (iI 0), .int (iI 0), .long (lI 0), .int (iI 0), .int (iI 0), .int (iI 0), .long (lI 0), .long (lI 0), .long (lI 0), .long (lI 0), .long (lI 0), .int (iI 0), .int (iI 0), .int (iI 0), .int (iI 0), .ref xa4]))] := hD
  refine q_if_ne (tgt := 261) hx hb dX0_refusal_254 (by decide) (by omega) (fun _ => ?_) (fun q => absurd q (by omega))
  refine q_iconst hx hb dX0_refusal_261 ?_
  refine q_iconst hx hb dX0_refusal_262 ?_
  refine ki (va_runS (As := [.int (iI 0), .int (iI 0)]) (rest := []) hSF ((c_X0_refusalIf l dC dI k 0 0 (by omega)) H.size) (va_cwS 2 hts gX0_refusal_X0_refusalIf rfl rfl rfl (by decide +kernel) ⟨Nat.le_of_ble_eq_true rfl, Nat.le_of_ble_eq_true rfl⟩) (preS hP hD hE hS hA [] rfl (by decide)) rfl rfl hl.1 rfl (lv_room (Nat.le_of_ble_eq_true rfl)) dX0_refusal_263 ⟨Nat.le_of_ble_eq_true rfl, Nat.le_of_ble_eq_true rfl⟩) hP hD hS hA [] [0, 1] rfl (wr := [(h0, .inr (2, [.ref xa1, .ref xa2, .ref xa3, .ref xa5, .ref xa8, .int (iI 0), .int (iI 0), .int (iI 0)])), (xa3, .inr (7, [.int (iI 0), .int (iI 0), .int (iI 0), .long (lI 0), .int (iI 0), .int (iI 0), .int (iI 0), .long (lI 0), .long (lI 0), .long (lI 0), .long (lI 0), .long (lI 0), .int (iI 0), .int (iI 0), .int (iI 0), .int (iI 0), .ref xa4]))]) rfl (by decide) (by decide) (fun r263 _ H locs hw hP hD hS => ?_)
  obtain rfl : r263 = iI 0 := hw.trans (by decide)
  have hP : va_P (dC, dI) vwCl [(h0, .inr (2, [.ref xa1, .ref xa2, .ref xa3, .ref xa5, .ref xa8, .int (iI 0), .int (iI 0), .int (iI 0)])), (xa3, .inr (7, [.int (iI 0), .int (iI 0), .int (iI 0), .long (lI 0), .int (iI 0), .int (iI 0), .int (iI 0), .long (lI 0), .long (lI 0), .long (lI 0), .long (lI 0), .long (lI 0), .int (iI 0), .int (iI 0), .int (iI 0), .int (iI 0), .ref xa4]))] H := hP
  have hD : va_D A [(h0, .inr (2, [.ref xa1, .ref xa2, .ref xa3, .ref xa5, .ref xa8, .int (iI 0), .int (iI 0), .int (iI 0)])), (xa3, .inr (7, [.int (iI 0), .int (iI 0), .int (iI 0), .long (lI 0), .int (iI 0), .int (iI 0), .int (iI 0), .long (lI 0), .long (lI 0), .long (lI 0), .long (lI 0), .long (lI 0), .int (iI 0), .int (iI 0), .int (iI 0), .int (iI 0), .ref xa4]))] := hD
  rw [hQ]
  refine W.widen (k := 0) (n := 0) (Nat.le_of_ble_eq_true rfl) (Nat.le_of_ble_eq_true rfl) ?_
  exact W.iret (v := (iI 0)) hx hb hr (fun t ht hW => ⟨⟨(iI 0), (), rfl, rfl, by rw [ht]; exact hP.sub [0, 1] rfl, by rw [hAe]; exact hD.sub [0, 1] (by decide) rfl⟩, hS.F ht⟩) hS.2.2 dX0_refusal_266
set_option maxHeartbeats 4000000 in
set_option maxRecDepth 100000 in
/-- refusal of kind 4: 1 -/
theorem c_X0_refusal_4_1 (l : Launch) (dC : Nat → ClassId) (dI : Nat → Nat → Nat) (k : Nat → ClassId) (h0 xa1 xa2 xa3 xa4 xa5 xa6 xa7 xa8 xa9 xa10 xa11 : Nat) (xv : Int) (hv9 : -2147483648 ≤ xv ∧ xv ≤ 2147483647) (hv : ¬ (0 ≤ xv ∧ xv ≤ 1)) (sz : Nat) : Met l yX0_refusal woX0_refusal ({ frames := 1, cells := 0, slots := 0, locals := 22 } : Room) (PcW (dC, dI) k [.ref h0, .int (iI 4), .int (iI xv)] [(h0, .inr (2, [.ref xa1, .ref xa2, .ref xa3, .ref xa5, .ref xa8, .int (iI 0), .int (iI 0), .int (iI 0)])), (xa3, .inr (7, [.int (iI 0), .int (iI 0), .int (iI 0), .long (lI 0), .int (iI 0), .int (iI 0), .int (iI 0), .long (lI 0), .long (lI 0), .long (lI 0), .long (lI 0), .long (lI 0), .int (iI 0), .int (iI 0), .int (iI 0), .int (iI 0), .ref xa4]))] sz) (va_Qi (fun (r : Int32) (_ : Unit) => r = iI 1) (QB (dC, dI) [(h0, .inr (2, [.ref xa1, .ref xa2, .ref xa3, .ref xa5, .ref xa8, .int (iI 0), .int (iI 0), .int (iI 0)])), (xa3, .inr (7, [.int (iI 0), .int (iI 0), .int (iI 0), .long (lI 0), .int (iI 0), .int (iI 0), .int (iI 0), .long (lI 0), .long (lI 0), .long (lI 0), .long (lI 0), .long (lI 0), .int (iI 0), .int (iI 0), .int (iI 0), .int (iI 0), .ref xa4]))] (fun _ => [(h0, .inr (2, [.ref xa1, .ref xa2, .ref xa3, .ref xa5, .ref xa8, .int (iI 0), .int (iI 0), .int (iI 0)])), (xa3, .inr (7, [.int (iI 0), .int (iI 0), .int (iI 0), .long (lI 0), .int (iI 0), .int (iI 0), .int (iI 0), .long (lI 0), .long (lI 0), .long (lI 0), .long (lI 0), .long (lI 0), .int (iI 0), .int (iI 0), .int (iI 0), .int (iI 0), .ref xa4]))]) sz) (va_A [(h0, .inr (2, [.ref xa1, .ref xa2, .ref xa3, .ref xa5, .ref xa8, .int (iI 0), .int (iI 0), .int (iI 0)])), (xa3, .inr (7, [.int (iI 0), .int (iI 0), .int (iI 0), .long (lI 0), .int (iI 0), .int (iI 0), .int (iI 0), .long (lI 0), .long (lI 0), .long (lI 0), .long (lI 0), .long (lI 0), .int (iI 0), .int (iI 0), .int (iI 0), .int (iI 0), .ref xa4]))] sz)) 0 0 (va_A [(h0, .inr (2, [.ref xa1, .ref xa2, .ref xa3, .ref xa5, .ref xa8, .int (iI 0), .int (iI 0), .int (iI 0)])), (xa3, .inr (7, [.int (iI 0), .int (iI 0), .int (iI 0), .long (lI 0), .int (iI 0), .int (iI 0), .int (iI 0), .long (lI 0), .long (lI 0), .long (lI 0), .long (lI 0), .long (lI 0), .int (iI 0), .int (iI 0), .int (iI 0), .int (iI 0), .ref xa4]))] sz) := by
  refine Met.ofW (cc := cX0_refusal) (maxL := 4) (ret := (some .int)) (by decide) rfl ?_
  intro p e s mI args below meth cO s₁ B hml hv
  obtain ⟨rfl, rfl, hP, hD0, hE⟩ := hv
  have hx := B.exec
  have hb := B.bytes
  have hr := B.returns
  have hts := atoms_spec (ws := woX0_refusal) B.pre
  have hown : s.vm.findClass RX0 = some mI.cls := findClass_of_methodNamed B.named
  have hlocks := B.notSynchronized
  have hD := hD0.self (sz := s.heap.size)
  generalize hAe : va_A [(h0, .inr (2, [.ref xa1, .ref xa2, .ref xa3, .ref xa5, .ref xa8, .int (iI 0), .int (iI 0), .int (iI 0)])), (xa3, .inr (7, [.int (iI 0), .int (iI 0), .int (iI 0), .long (lI 0), .int (iI 0), .int (iI 0), .int (iI 0), .long (lI 0), .long (lI 0), .long (lI 0), .long (lI 0), .long (lI 0), .int (iI 0), .int (iI 0), .int (iI 0), .int (iI 0), .ref xa4]))] s.heap.size = A at hD hE ⊢
  have hA : ∀ q : Nat, s.heap.size ≤ q → A q := fun q h => by rw [← hAe]; exact Or.inr h
  have hS : va_S A s.heap s.heap [] := va_S.rf
  obtain ⟨hK, hNw, hNc, hZs, hAO1, hAO2⟩ := id hE
  have hSF : CallFix p mI cO cX0_refusal 4 s ([.ref h0, .int (iI 4), .int (iI xv)] : List Value).toArray woX0_refusal RX0 := ⟨hx, hb, hml, hown, hts⟩
  have hl := lv_entry ([.ref h0, .int (iI 4), .int (iI xv)] : List Value) (n := 4) (Nat.le_of_ble_eq_true rfl)
  rw [lg_entry_eq]
  generalize (lg_sl ([.ref h0, .int (iI 4), .int (iI xv)] : List Value) ++ List.replicate (4 - (lg_sl ([.ref h0, .int (iI 4), .int (iI xv)] : List Value)).length) Slot.unset).toArray = ls at hl ⊢
  have hl : lv_has ls 4 [(0, .ref h0), (1, .int (iI 4)), (2, .int (iI xv))] := hl
  refine W_gen (fun Q hQ => ?_)
  change W p l e ({ frames := 1, cells := 0, slots := 0, locals := 22 } : Room) s mI _ below meth cO s.heap [] 0 0 Q _
  have hP : va_P (dC, dI) vwCl [(h0, .inr (2, [.ref xa1, .ref xa2, .ref xa3, .ref xa5, .ref xa8, .int (iI 0), .int (iI 0), .int (iI 0)])), (xa3, .inr (7, [.int (iI 0), .int (iI 0), .int (iI 0), .long (lI 0), .int (iI 0), .int (iI 0), .int (iI 0), .long (lI 0), .long (lI 0), .long (lI 0), .long (lI 0), .long (lI 0), .int (iI 0), .int (iI 0), .int (iI 0), .int (iI 0), .ref xa4]))] s.heap := hP
  refine lv_iload_n hx hb dX0_refusal_0 rfl (lv_at hl 1 rfl) ?_
  refine lv_tableOut (tgt := 232) hx hb dX0_refusal_1 (by rw [iI_toInt ⟨by omega, by omega⟩]; omega) (by decide) ?_
  refine lv_iload_n hx hb dX0_refusal_232 rfl (lv_at hl 1 rfl) ?_
  refine q_if_lt (tgt := 257) hx hb dX0_refusal_233 (by decide) (by omega) (fun q => absurd q (by omega)) (fun _ => ?_)
  refine lv_iload_n hx hb dX0_refusal_236 rfl (lv_at hl 1 rfl) ?_
  obtain ⟨hmrt, hmrZ, hmrT⟩ := hZs.2.1
  refine va_gets hx hb hmrZ hS hown (hts (.fieldLink RX0 118 "LoanServicing$Account" "MOST_OF_RULES" "[I") (List.mem_cons_of_mem _ (wl_16 (List.mem_of_getElem? (i := 20) rfl)))) (fun _ h9 => h9) dX0_refusal_237 ?_
  refine va_tlen (v := iI 5) hx hb hmrT hS (by decide) dX0_refusal_240 ?_
  refine q_icmp_ge (tgt := 257) hx hb dX0_refusal_241 (by decide) (by omega) (fun q => absurd q (by omega)) (fun _ => ?_)
  refine lv_iload_n hx hb dX0_refusal_244 rfl (lv_at hl 2 rfl) ?_
  refine q_iconst hx hb dX0_refusal_245 ?_
  refine va_gets hx hb hmrZ hS hown (hts (.fieldLink RX0 118 "LoanServicing$Account" "MOST_OF_RULES" "[I") (List.mem_cons_of_mem _ (wl_16 (List.mem_of_getElem? (i := 20) rfl)))) (fun _ h9 => h9) dX0_refusal_246 ?_
  refine lv_iload_n hx hb dX0_refusal_249 rfl (lv_at hl 1 rfl) ?_
  refine q_sti (z := 1) hx hb hmrT hS (by omega) (by decide) dX0_refusal_250 ?_
  refine ki (va_runSN (As := [.int (iI xv), .int (iI 0), .int (iI 1)]) (rest := []) hSF ((c_X10_isWithin l dC dI k xv 0 1 (by omega)) s.heap.size) ⟨va_cnB 3 hts gX0_refusal_X10_isWithin_n97 rfl rfl rfl (hNw _ (List.mem_of_getElem? (i := 61) rfl)) (hts (.initialized RX10) (List.mem_cons_of_mem _ (wl_1 (List.mem_of_getElem? (i := 2) rfl)))) (by decide +kernel) ⟨Nat.le_of_ble_eq_true rfl, Nat.le_of_ble_eq_true rfl⟩, (hts (.static yX10_isWithin) (List.mem_cons_of_mem _ (wl_6 (List.mem_of_getElem? (i := 12) rfl)))), trivial⟩ (preS hP hD hE hS hA [] rfl (by decide)) rfl rfl hl.1 rfl (lv_room (Nat.le_of_ble_eq_true rfl)) dX0_refusal_251 ⟨Nat.le_of_ble_eq_true rfl, Nat.le_of_ble_eq_true rfl⟩) hP hD hS hA [] [0, 1] rfl (wr := [(h0, .inr (2, [.ref xa1, .ref xa2, .ref xa3, .ref xa5, .ref xa8, .int (iI 0), .int (iI 0), .int (iI 0)])), (xa3, .inr (7, [.int (iI 0), .int (iI 0), .int (iI 0), .long (lI 0), .int (iI 0), .int (iI 0), .int (iI 0), .long (lI 0), .long (lI 0), .long (lI 0), .long (lI 0), .long (lI 0), .int (iI 0), .int (iI 0), .int (iI 0), .int (iI 0), .ref xa4]))]) rfl (by decide) (by decide) (fun r251 _ H locs hw hP hD hS => ?_)
  obtain rfl : r251 = iI 0 := hw.trans (by rw [wi0 (by omega)])
  have hP : va_P (dC, dI) vwCl [(h0, .inr (2, [.ref xa1, .ref xa2, .ref xa3, .ref xa5, .ref xa8, .int (iI 0), .int (iI 0), .int (iI 0)])), (xa3, .inr (7, [.int (iI 0), .int (iI 0), .int (iI 0), .long (lI 0), .int (iI 0), .int (iI 0), .int (iI 0), .long (lI 0), .long (lI 0), .long (lI 0), .long (lI 0), .long (lI 0), .int (iI 0), .int (iI 0), .int (iI 0), .int (iI 0), .ref xa4]))] H := hP
  have hD : va_D A [(h0, .inr (2, [.ref xa1, .ref xa2, .ref xa3, .ref xa5, .ref xa8, .int (iI 0), .int (iI 0), .int (iI 0)])), (xa3, .inr (7, [.int (iI 0), .int (iI 0), .int (iI 0), .long (lI 0), .int (iI 0), .int (iI 0), .int (iI 0), .long (lI 0), .long (lI 0), .long (lI 0), .long (lI 0), .long (lI 0), .int (iI 0), .int (iI 0), .int (iI 0), .int (iI 0), .ref xa4]))] := hD
  refine q_if_ne (tgt := 261) hx hb dX0_refusal_254 (by decide) (by omega) (fun q => absurd q (by omega)) (fun _ => ?_)
  refine q_iconst hx hb dX0_refusal_257 ?_
  refine lv_goto (tgt := 262) hx hb dX0_refusal_258 (by decide) ?_
  refine q_iconst hx hb dX0_refusal_262 ?_
  refine ki (va_runS (As := [.int (iI 1), .int (iI 0)]) (rest := []) hSF ((c_X0_refusalIf l dC dI k 1 0 (by omega)) H.size) (va_cwS 2 hts gX0_refusal_X0_refusalIf rfl rfl rfl (by decide +kernel) ⟨Nat.le_of_ble_eq_true rfl, Nat.le_of_ble_eq_true rfl⟩) (preS hP hD hE hS hA [] rfl (by decide)) rfl rfl hl.1 rfl (lv_room (Nat.le_of_ble_eq_true rfl)) dX0_refusal_263 ⟨Nat.le_of_ble_eq_true rfl, Nat.le_of_ble_eq_true rfl⟩) hP hD hS hA [] [0, 1] rfl (wr := [(h0, .inr (2, [.ref xa1, .ref xa2, .ref xa3, .ref xa5, .ref xa8, .int (iI 0), .int (iI 0), .int (iI 0)])), (xa3, .inr (7, [.int (iI 0), .int (iI 0), .int (iI 0), .long (lI 0), .int (iI 0), .int (iI 0), .int (iI 0), .long (lI 0), .long (lI 0), .long (lI 0), .long (lI 0), .long (lI 0), .int (iI 0), .int (iI 0), .int (iI 0), .int (iI 0), .ref xa4]))]) rfl (by decide) (by decide) (fun r263 _ H locs hw hP hD hS => ?_)
  obtain rfl : r263 = iI 1 := hw.trans (by decide)
  have hP : va_P (dC, dI) vwCl [(h0, .inr (2, [.ref xa1, .ref xa2, .ref xa3, .ref xa5, .ref xa8, .int (iI 0), .int (iI 0), .int (iI 0)])), (xa3, .inr (7, [.int (iI 0), .int (iI 0), .int (iI 0), .long (lI 0), .int (iI 0), .int (iI 0), .int (iI 0), .long (lI 0), .long (lI 0), .long (lI 0), .long (lI 0), .long (lI 0), .int (iI 0), .int (iI 0), .int (iI 0), .int (iI 0), .ref xa4]))] H := hP
  have hD : va_D A [(h0, .inr (2, [.ref xa1, .ref xa2, .ref xa3, .ref xa5, .ref xa8, .int (iI 0), .int (iI 0), .int (iI 0)])), (xa3, .inr (7, [.int (iI 0), .int (iI 0), .int (iI 0), .long (lI 0), .int (iI 0), .int (iI 0), .int (iI 0), .long (lI 0), .long (lI 0), .long (lI 0), .long (lI 0), .long (lI 0), .int (iI 0), .int (iI 0), .int (iI 0), .int (iI 0), .ref xa4]))] := hD
  rw [hQ]
  refine W.widen (k := 0) (n := 0) (Nat.le_of_ble_eq_true rfl) (Nat.le_of_ble_eq_true rfl) ?_
  exact W.iret (v := (iI 1)) hx hb hr (fun t ht hW => ⟨⟨(iI 1), (), rfl, rfl, by rw [ht]; exact hP.sub [0, 1] rfl, by rw [hAe]; exact hD.sub [0, 1] (by decide) rfl⟩, hS.F ht⟩) hS.2.2 dX0_refusal_266
set_option maxHeartbeats 4000000 in
set_option maxRecDepth 100000 in
/-- note, at first -/
theorem c_X3_note (l : Launch) (dC : Nat → ClassId) (dI : Nat → Nat → Nat) (k : Nat → ClassId) (h0 xk xw h1 xa1 xa2 xa3 xa4 xa5 xa6 xa7 xa8 xa9 xa10 xa11 : Nat) (xq xv : Int) (sz : Nat) : Met l yX3_note woX3_note ({ frames := 0, cells := 0, slots := 0, locals := 0 } : Room) (PcW (dC, dI) k [.ref h0, .ref h1, .int (iI xq), .int (iI xv)] [(h0, .inr (4, [.ref xk, .ref xw])), (xk, .inl (k 0, 512, .inl (aI aZ))), (xw, .inl (k 0, 512, .inl (aI aZ))), (h1, .inr (2, [.ref xa1, .ref xa2, .ref xa3, .ref xa5, .ref xa8, .int (iI 0), .int (iI 0), .int (iI 0)]))] sz) (va_Qv (fun (_ : Unit) => True) (QB (dC, dI) [(h0, .inr (4, [.ref xk, .ref xw])), (xk, .inl (k 0, 512, .inl (aI aZ))), (xw, .inl (k 0, 512, .inl (aI aZ))), (h1, .inr (2, [.ref xa1, .ref xa2, .ref xa3, .ref xa5, .ref xa8, .int (iI 0), .int (iI 0), .int (iI 0)]))] (fun _ => [(h1, .inr (2, [.ref xa1, .ref xa2, .ref xa3, .ref xa5, .ref xa8, .int (iI 0), .int (iI 0), .int (iI 1)]))]) sz) (va_A [(h0, .inr (4, [.ref xk, .ref xw])), (xk, .inl (k 0, 512, .inl (aI aZ))), (xw, .inl (k 0, 512, .inl (aI aZ))), (h1, .inr (2, [.ref xa1, .ref xa2, .ref xa3, .ref xa5, .ref xa8, .int (iI 0), .int (iI 0), .int (iI 0)]))] sz)) 0 0 (va_A [(h0, .inr (4, [.ref xk, .ref xw])), (xk, .inl (k 0, 512, .inl (aI aZ))), (xw, .inl (k 0, 512, .inl (aI aZ))), (h1, .inr (2, [.ref xa1, .ref xa2, .ref xa3, .ref xa5, .ref xa8, .int (iI 0), .int (iI 0), .int (iI 0)]))] sz) := by
  refine Met.ofW (cc := cX3_note) (maxL := 5) (ret := none) (by decide) rfl ?_
  intro p e s mI args below meth cO s₁ B hml hv
  obtain ⟨rfl, rfl, hP, hD0, hE⟩ := hv
  have hx := B.exec
  have hb := B.bytes
  have hr := B.returns
  have hts := atoms_spec (ws := woX3_note) B.pre
  have hown : s.vm.findClass RX3 = some mI.cls := findClass_of_methodNamed B.named
  have hlocks := B.notSynchronized
  have hD := hD0.self (sz := s.heap.size)
  generalize hAe : va_A [(h0, .inr (4, [.ref xk, .ref xw])), (xk, .inl (k 0, 512, .inl (aI aZ))), (xw, .inl (k 0, 512, .inl (aI aZ))), (h1, .inr (2, [.ref xa1, .ref xa2, .ref xa3, .ref xa5, .ref xa8, .int (iI 0), .int (iI 0), .int (iI 0)]))] s.heap.size = A at hD hE ⊢
  have hA : ∀ q : Nat, s.heap.size ≤ q → A q := fun q h => by rw [← hAe]; exact Or.inr h
  have hS : va_S A s.heap s.heap [] := va_S.rf
  obtain ⟨hK, hNw, hNc, hZs, hAO1, hAO2⟩ := id hE
  have hSF : CallFix p mI cO cX3_note 5 s ([.ref h0, .ref h1, .int (iI xq), .int (iI xv)] : List Value).toArray woX3_note RX3 := ⟨hx, hb, hml, hown, hts⟩
  have hl := lv_entry ([.ref h0, .ref h1, .int (iI xq), .int (iI xv)] : List Value) (n := 5) (Nat.le_of_ble_eq_true rfl)
  rw [lg_entry_eq]
  generalize (lg_sl ([.ref h0, .ref h1, .int (iI xq), .int (iI xv)] : List Value) ++ List.replicate (5 - (lg_sl ([.ref h0, .ref h1, .int (iI xq), .int (iI xv)] : List Value)).length) Slot.unset).toArray = ls at hl ⊢
  have hl : lv_has ls 5 [(0, .ref h0), (1, .ref h1), (2, .int (iI xq)), (3, .int (iI xv))] := hl
  refine W_gen (fun Q hQ => ?_)
  change W p l e ({ frames := 0, cells := 0, slots := 0, locals := 0 } : Room) s mI _ below meth cO s.heap [] 0 0 Q _
  have hP : va_P (dC, dI) vwCl [(h0, .inr (4, [.ref xk, .ref xw])), (xk, .inl (k 0, 512, .inl (aI aZ))), (xw, .inl (k 0, 512, .inl (aI aZ))), (h1, .inr (2, [.ref xa1, .ref xa2, .ref xa3, .ref xa5, .ref xa8, .int (iI 0), .int (iI 0), .int (iI 0)]))] s.heap := hP
  refine lv_aload_n hx hb dX3_note_0 rfl (lv_at hl 1 rfl) ?_
  refine va_getN (D := (dC, dI)) (ci := 2) (v := .int (iI 0)) (C := RX0) (T := TX0) (N := 8) hx hb hts (fun _ h => List.mem_cons_of_mem _ (inlX0 _ h)) hown hK hP 3 rfl rfl 7 (by decide) (va_Nw.use rfl (hNw _ (List.mem_of_getElem? (i := 40) rfl))) (fun _ h9 => h9) rfl dX3_note_1 ?_
  refine lv_istore (lv' := [(4, .int (iI 0)), (0, .ref h0), (1, .ref h1), (2, .int (iI xq)), (3, .int (iI xv))]) hx hb dX3_note_4 hl (by decide) rfl (fun ls hl => ?_)
  refine lv_iload hx hb dX3_note_6 (lv_at hl 0 rfl) ?_
  refine q_if_lt (tgt := 45) hx hb dX3_note_8 (by decide) (by omega) (fun q => absurd q (by omega)) (fun _ => ?_)
  refine lv_iload hx hb dX3_note_11 (lv_at hl 0 rfl) ?_
  refine q_sipush (z := 512) hx hb dX3_note_13 (by decide) ?_
  refine q_icmp_ge (tgt := 45) hx hb dX3_note_16 (by decide) (by omega) (fun q => absurd q (by omega)) (fun _ => ?_)
  refine lv_aload_n hx hb dX3_note_19 rfl (lv_at hl 1 rfl) ?_
  refine va_get (D := (dC, dI)) (ci := 4) (v := .ref xk) (C := RX3) (T := TX3) (N := 2) hx hb hts (fun _ h => List.mem_cons_of_mem _ (inlX3 _ h)) hown hK hP 0 rfl rfl 0 (by decide) (hts (.fieldLink RX3 9 "LoanServicing$History" "kinds" "[I") (List.mem_cons_of_mem _ (wl_4 (List.mem_of_getElem? (i := 4) rfl)))) (fun _ h9 => h9) rfl dX3_note_20 ?_
  refine lv_iload hx hb dX3_note_23 (lv_at hl 0 rfl) ?_
  refine lv_iload_n hx hb dX3_note_25 rfl (lv_at hl 3 rfl) ?_
  refine q_iast (G := (upI aZ 0 xq)) hx hb hK hP hD hS 1 0 rfl rfl (by omega) rfl dX3_note_26 (fun H locs hP hD hS => ?_)
  have hP : va_P (dC, dI) vwCl [(h0, .inr (4, [.ref xk, .ref xw])), (xk, .inl (k 0, 512, .inl (aI (upI aZ 0 xq)))), (xw, .inl (k 0, 512, .inl (aI aZ))), (h1, .inr (2, [.ref xa1, .ref xa2, .ref xa3, .ref xa5, .ref xa8, .int (iI 0), .int (iI 0), .int (iI 0)]))] H := hP
  have hD : va_D A [(h0, .inr (4, [.ref xk, .ref xw])), (xk, .inl (k 0, 512, .inl (aI (upI aZ 0 xq)))), (xw, .inl (k 0, 512, .inl (aI aZ))), (h1, .inr (2, [.ref xa1, .ref xa2, .ref xa3, .ref xa5, .ref xa8, .int (iI 0), .int (iI 0), .int (iI 0)]))] := hD
  refine lv_aload_n hx hb dX3_note_27 rfl (lv_at hl 1 rfl) ?_
  refine va_get (D := (dC, dI)) (ci := 4) (v := .ref xw) (C := RX3) (T := TX3) (N := 2) hx hb hts (fun _ h => List.mem_cons_of_mem _ (inlX3 _ h)) hown hK hP 0 rfl rfl 1 (by decide) (hts (.fieldLink RX3 13 "LoanServicing$History" "values" "[I") (List.mem_cons_of_mem _ (wl_4 (List.mem_of_getElem? (i := 5) rfl)))) (fun _ h9 => h9) rfl dX3_note_28 ?_
  refine lv_iload hx hb dX3_note_31 (lv_at hl 0 rfl) ?_
  refine lv_iload_n hx hb dX3_note_33 rfl (lv_at hl 4 rfl) ?_
  refine q_iast (G := (upI aZ 0 xv)) hx hb hK hP hD hS 2 0 rfl rfl (by omega) rfl dX3_note_34 (fun H locs hP hD hS => ?_)
  have hP : va_P (dC, dI) vwCl [(h0, .inr (4, [.ref xk, .ref xw])), (xk, .inl (k 0, 512, .inl (aI (upI aZ 0 xq)))), (xw, .inl (k 0, 512, .inl (aI (upI aZ 0 xv)))), (h1, .inr (2, [.ref xa1, .ref xa2, .ref xa3, .ref xa5, .ref xa8, .int (iI 0), .int (iI 0), .int (iI 0)]))] H := hP
  have hD : va_D A [(h0, .inr (4, [.ref xk, .ref xw])), (xk, .inl (k 0, 512, .inl (aI (upI aZ 0 xq)))), (xw, .inl (k 0, 512, .inl (aI (upI aZ 0 xv)))), (h1, .inr (2, [.ref xa1, .ref xa2, .ref xa3, .ref xa5, .ref xa8, .int (iI 0), .int (iI 0), .int (iI 0)]))] := hD
  refine lv_aload_n hx hb dX3_note_35 rfl (lv_at hl 2 rfl) ?_
  refine lv_dup hx hb dX3_note_36 rfl ?_
  refine va_getN (D := (dC, dI)) (ci := 2) (v := .int (iI 0)) (C := RX0) (T := TX0) (N := 8) hx hb hts (fun _ h => List.mem_cons_of_mem _ (inlX0 _ h)) hown hK hP 3 rfl rfl 7 (by decide) (va_Nw.use rfl (hNw _ (List.mem_of_getElem? (i := 40) rfl))) (fun _ h9 => h9) rfl dX3_note_37 ?_
  refine q_iconst hx hb dX3_note_40 ?_
  refine q_iadd (z := 1) hx hb dX3_note_41 (by omega) ?_
  refine va_putN (D := (dC, dI)) (ci := 2) (v := .int (iI 1)) (ty := .int) (C := RX0) (T := TX0) (N := 8) hx hb hts (fun _ h => List.mem_cons_of_mem _ (inlX0 _ h)) tyX0 tyX0_ok nmX0 hown hK hP hD hS 3 rfl rfl 7 (by decide) (va_Nw.use rfl (hNw _ (List.mem_of_getElem? (i := 40) rfl))) (fun _ h9 => h9) rfl (by decide +kernel) rfl rfl (Nat.le_of_ble_eq_true rfl) dX3_note_42 (fun H locs hP hD hS => ?_)
  have hP : va_P (dC, dI) vwCl [(h0, .inr (4, [.ref xk, .ref xw])), (xk, .inl (k 0, 512, .inl (aI (upI aZ 0 xq)))), (xw, .inl (k 0, 512, .inl (aI (upI aZ 0 xv)))), (h1, .inr (2, [.ref xa1, .ref xa2, .ref xa3, .ref xa5, .ref xa8, .int (iI 0), .int (iI 0), .int (iI 1)]))] H := hP
  have hD : va_D A [(h0, .inr (4, [.ref xk, .ref xw])), (xk, .inl (k 0, 512, .inl (aI (upI aZ 0 xq)))), (xw, .inl (k 0, 512, .inl (aI (upI aZ 0 xv)))), (h1, .inr (2, [.ref xa1, .ref xa2, .ref xa3, .ref xa5, .ref xa8, .int (iI 0), .int (iI 0), .int (iI 1)]))] := hD
  rw [hQ]
  refine W.widen (k := 0) (n := 0) (Nat.le_of_ble_eq_true rfl) (Nat.le_of_ble_eq_true rfl) ?_
  exact W.vret hx hb hr (fun t ht hW => ⟨⟨(), rfl, trivial, by rw [ht]; exact hP.sub [3] rfl, by rw [hAe]; exact hD.sub [3] (by decide) rfl⟩, hS.F ht⟩) hS.2.2 dX3_note_45
set_option maxHeartbeats 4000000 in
set_option maxRecDepth 100000 in
/-- becomeLate, of no bills -/
theorem c_X1_becomeLate (l : Launch) (dC : Nat → ClassId) (dI : Nat → Nat → Nat) (k : Nat → ClassId) (h0 xu xm : Nat) (xd xg : Int) (sz : Nat) : Met l yX1_becomeLate woX1_becomeLate ({ frames := 1, cells := 0, slots := 0, locals := 13 } : Room) (PcW (dC, dI) k [.ref h0, .int (iI xd), .int (iI xg)] [(h0, .inr (3, [.ref xu, .ref xm, .int (iI 0), .int (iI 0), .int (iI 0)]))] sz) (va_Qi (fun (r : Int32) (_ : Unit) => r = iI 0) (QB (dC, dI) [(h0, .inr (3, [.ref xu, .ref xm, .int (iI 0), .int (iI 0), .int (iI 0)]))] (fun _ => [(h0, .inr (3, [.ref xu, .ref xm, .int (iI 0), .int (iI 0), .int (iI 0)]))]) sz) (va_A [(h0, .inr (3, [.ref xu, .ref xm, .int (iI 0), .int (iI 0), .int (iI 0)]))] sz)) 0 0 (va_A [(h0, .inr (3, [.ref xu, .ref xm, .int (iI 0), .int (iI 0), .int (iI 0)]))] sz) := by
  refine Met.ofW (cc := cX1_becomeLate) (maxL := 5) (ret := (some .int)) (by decide) rfl ?_
  intro p e s mI args below meth cO s₁ B hml hv
  obtain ⟨rfl, rfl, hP, hD0, hE⟩ := hv
  have hx := B.exec
  have hb := B.bytes
  have hr := B.returns
  have hts := atoms_spec (ws := woX1_becomeLate) B.pre
  have hown : s.vm.findClass RX1 = some mI.cls := findClass_of_methodNamed B.named
  have hlocks := B.notSynchronized
  have hD := hD0.self (sz := s.heap.size)
  generalize hAe : va_A [(h0, .inr (3, [.ref xu, .ref xm, .int (iI 0), .int (iI 0), .int (iI 0)]))] s.heap.size = A at hD hE ⊢
  have hA : ∀ q : Nat, s.heap.size ≤ q → A q := fun q h => by rw [← hAe]; exact Or.inr h
  have hS : va_S A s.heap s.heap [] := va_S.rf
  obtain ⟨hK, hNw, hNc, hZs, hAO1, hAO2⟩ := id hE
  have hSF : CallFix p mI cO cX1_becomeLate 5 s ([.ref h0, .int (iI xd), .int (iI xg)] : List Value).toArray woX1_becomeLate RX1 := ⟨hx, hb, hml, hown, hts⟩
  have hl := lv_entry ([.ref h0, .int (iI xd), .int (iI xg)] : List Value) (n := 5) (Nat.le_of_ble_eq_true rfl)
  rw [lg_entry_eq]
  generalize (lg_sl ([.ref h0, .int (iI xd), .int (iI xg)] : List Value) ++ List.replicate (5 - (lg_sl ([.ref h0, .int (iI xd), .int (iI xg)] : List Value)).length) Slot.unset).toArray = ls at hl ⊢
  have hl : lv_has ls 5 [(0, .ref h0), (1, .int (iI xd)), (2, .int (iI xg))] := hl
  refine W_gen (fun Q hQ => ?_)
  change W p l e ({ frames := 1, cells := 0, slots := 0, locals := 13 } : Room) s mI _ below meth cO s.heap [] 0 0 Q _
  have hP : va_P (dC, dI) vwCl [(h0, .inr (3, [.ref xu, .ref xm, .int (iI 0), .int (iI 0), .int (iI 0)]))] s.heap := hP
  refine q_iconst hx hb dX1_becomeLate_0 ?_
  refine lv_istore_n (lv' := [(3, .int (iI 0)), (0, .ref h0), (1, .int (iI xd)), (2, .int (iI xg))]) hx hb dX1_becomeLate_1 rfl hl (by decide) rfl (fun ls hl => ?_)
  refine lv_aload_n hx hb dX1_becomeLate_2 rfl (lv_at hl 1 rfl) ?_
  refine va_get (D := (dC, dI)) (ci := 3) (v := .int (iI 0)) (C := RX1) (T := TX1) (N := 5) hx hb hts (fun _ h => List.mem_cons_of_mem _ (inlX1 _ h)) hown hK hP 0 rfl rfl 3 (by decide) (hts (.fieldLink RX1 21 "LoanServicing$Bills" "paidEnd" "I") (List.mem_cons_of_mem _ (wl_8 (List.mem_of_getElem? (i := 17) rfl)))) (fun _ h9 => h9) rfl dX1_becomeLate_3 ?_
  refine lv_aload_n hx hb dX1_becomeLate_6 rfl (lv_at hl 1 rfl) ?_
  refine va_get (D := (dC, dI)) (ci := 3) (v := .int (iI 0)) (C := RX1) (T := TX1) (N := 5) hx hb hts (fun _ h => List.mem_cons_of_mem _ (inlX1 _ h)) hown hK hP 0 rfl rfl 4 (by decide) (hts (.fieldLink RX1 24 "LoanServicing$Bills" "lateEnd" "I") (List.mem_cons_of_mem _ (wl_8 (List.mem_of_getElem? (i := 18) rfl)))) (fun _ h9 => h9) rfl dX1_becomeLate_7 ?_
  refine va_mmax hx hb (hml.trans hl.1.symm) hown (hts (.methodLink RX1 27 Lib.Math.max.name) (List.mem_cons_of_mem _ (wl_18 (List.mem_of_getElem? (i := 13) rfl)))) (hts (.static Lib.Math.max.name) (List.mem_cons_of_mem _ (wl_18 (List.mem_of_getElem? (i := 14) rfl)))) (hts (.initialized "java/lang/Math") (List.mem_cons_of_mem _ (wl_6 (List.mem_of_getElem? (i := 22) rfl)))) (hts (.code Lib.Math.max.name Lib.Math.max.code 2 (some .int)) (List.mem_cons_of_mem _ (wl_18 (List.mem_of_getElem? (i := 15) rfl)))) (Nat.le_of_ble_eq_true rfl) (Nat.le_of_ble_eq_true rfl) (Nat.le_of_ble_eq_true rfl) (Nat.le_of_ble_eq_true rfl) dX1_becomeLate_10 ?_
  rw [q_mmax (a := 0) (b := 0) (z := 0) (by omega) (by omega)]
  refine q_iconst hx hb dX1_becomeLate_13 ?_
  refine va_mmax hx hb (hml.trans hl.1.symm) hown (hts (.methodLink RX1 27 Lib.Math.max.name) (List.mem_cons_of_mem _ (wl_18 (List.mem_of_getElem? (i := 13) rfl)))) (hts (.static Lib.Math.max.name) (List.mem_cons_of_mem _ (wl_18 (List.mem_of_getElem? (i := 14) rfl)))) (hts (.initialized "java/lang/Math") (List.mem_cons_of_mem _ (wl_6 (List.mem_of_getElem? (i := 22) rfl)))) (hts (.code Lib.Math.max.name Lib.Math.max.code 2 (some .int)) (List.mem_cons_of_mem _ (wl_18 (List.mem_of_getElem? (i := 15) rfl)))) (Nat.le_of_ble_eq_true rfl) (Nat.le_of_ble_eq_true rfl) (Nat.le_of_ble_eq_true rfl) (Nat.le_of_ble_eq_true rfl) dX1_becomeLate_14 ?_
  rw [q_mmax (a := 0) (b := 0) (z := 0) (by omega) (by omega)]
  refine lv_istore (lv' := [(4, .int (iI 0)), (3, .int (iI 0)), (0, .ref h0), (1, .int (iI xd)), (2, .int (iI xg))]) hx hb dX1_becomeLate_17 hl (by decide) rfl (fun ls hl => ?_)
  refine lv_iload hx hb dX1_becomeLate_19 (lv_at hl 0 rfl) ?_
  refine lv_aload_n hx hb dX1_becomeLate_21 rfl (lv_at hl 2 rfl) ?_
  refine va_get (D := (dC, dI)) (ci := 3) (v := .int (iI 0)) (C := RX1) (T := TX1) (N := 5) hx hb hts (fun _ h => List.mem_cons_of_mem _ (inlX1 _ h)) hown hK hP 0 rfl rfl 2 (by decide) (hts (.fieldLink RX1 17 "LoanServicing$Bills" "count" "I") (List.mem_cons_of_mem _ (wl_8 (List.mem_of_getElem? (i := 16) rfl)))) (fun _ h9 => h9) rfl dX1_becomeLate_22 ?_
  refine q_icmp_ge (tgt := 71) hx hb dX1_becomeLate_25 (by decide) (by omega) (fun _ => ?_) (fun q => absurd q (by omega))
  refine lv_iload_n hx hb dX1_becomeLate_71 rfl (lv_at hl 1 rfl) ?_
  rw [hQ]
  refine W.widen (k := 0) (n := 0) (Nat.le_of_ble_eq_true rfl) (Nat.le_of_ble_eq_true rfl) ?_
  exact W.iret (v := (iI 0)) hx hb hr (fun t ht hW => ⟨⟨(iI 0), (), rfl, rfl, by rw [ht]; exact hP.sub [0] rfl, by rw [hAe]; exact hD.sub [0] (by decide) rfl⟩, hS.F ht⟩) hS.2.2 dX1_becomeLate_72
set_option maxHeartbeats 4000000 in
set_option maxRecDepth 100000 in
/-- chargeLateBills, of no bills -/
theorem c_X0_chargeLateBills (l : Launch) (dC : Nat → ClassId) (dI : Nat → Nat → Nat) (k : Nat → ClassId) (h0 xa1 xa2 xa3 xa4 xa5 xa6 xa7 xa8 xa9 xa10 xa11 : Nat) (xd xe : Int) (sz : Nat) : Met l yX0_chargeLateBills woX0_chargeLateBills ({ frames := 2, cells := 0, slots := 0, locals := 37 } : Room) (PcW (dC, dI) k [.ref h0] [(h0, .inr (2, [.ref xa1, .ref xa2, .ref xa3, .ref xa5, .ref xa8, .int (iI xd), .int (iI 0), .int (iI xe)])), (xa1, .inl (k 0, 5, .inl (aI (upI (upI (upI (upI (upI aZ 0 0) 1 0) 2 10) 3 500) 4 0)))), (xa5, .inr (3, [.ref xa6, .ref xa7, .int (iI 0), .int (iI 0), .int (iI 0)]))] sz) (va_Qi (fun (r : Int32) (_ : Unit) => r = iI 0) (QB (dC, dI) [(h0, .inr (2, [.ref xa1, .ref xa2, .ref xa3, .ref xa5, .ref xa8, .int (iI xd), .int (iI 0), .int (iI xe)])), (xa1, .inl (k 0, 5, .inl (aI (upI (upI (upI (upI (upI aZ 0 0) 1 0) 2 10) 3 500) 4 0)))), (xa5, .inr (3, [.ref xa6, .ref xa7, .int (iI 0), .int (iI 0), .int (iI 0)]))] (fun _ => [(h0, .inr (2, [.ref xa1, .ref xa2, .ref xa3, .ref xa5, .ref xa8, .int (iI xd), .int (iI 0), .int (iI xe)])), (xa1, .inl (k 0, 5, .inl (aI (upI (upI (upI (upI (upI aZ 0 0) 1 0) 2 10) 3 500) 4 0)))), (xa5, .inr (3, [.ref xa6, .ref xa7, .int (iI 0), .int (iI 0), .int (iI 0)]))]) sz) (va_A [(h0, .inr (2, [.ref xa1, .ref xa2, .ref xa3, .ref xa5, .ref xa8, .int (iI xd), .int (iI 0), .int (iI xe)])), (xa1, .inl (k 0, 5, .inl (aI (upI (upI (upI (upI (upI aZ 0 0) 1 0) 2 10) 3 500) 4 0)))), (xa5, .inr (3, [.ref xa6, .ref xa7, .int (iI 0), .int (iI 0), .int (iI 0)]))] sz)) 0 0 (va_A [(h0, .inr (2, [.ref xa1, .ref xa2, .ref xa3, .ref xa5, .ref xa8, .int (iI xd), .int (iI 0), .int (iI xe)])), (xa1, .inl (k 0, 5, .inl (aI (upI (upI (upI (upI (upI aZ 0 0) 1 0) 2 10) 3 500) 4 0)))), (xa5, .inr (3, [.ref xa6, .ref xa7, .int (iI 0), .int (iI 0), .int (iI 0)]))] sz) := by
  refine Met.ofW (cc := cX0_chargeLateBills) (maxL := 3) (ret := (some .int)) (by decide) rfl ?_
  intro p e s mI args below meth cO s₁ B hml hv
  obtain ⟨rfl, rfl, hP, hD0, hE⟩ := hv
  have hx := B.exec
  have hb := B.bytes
  have hr := B.returns
  have hts := atoms_spec (ws := woX0_chargeLateBills) B.pre
  have hown : s.vm.findClass RX0 = some mI.cls := findClass_of_methodNamed B.named
  have hlocks := B.notSynchronized
  have hD := hD0.self (sz := s.heap.size)
  generalize hAe : va_A [(h0, .inr (2, [.ref xa1, .ref xa2, .ref xa3, .ref xa5, .ref xa8, .int (iI xd), .int (iI 0), .int (iI xe)])), (xa1, .inl (k 0, 5, .inl (aI (upI (upI (upI (upI (upI aZ 0 0) 1 0) 2 10) 3 500) 4 0)))), (xa5, .inr (3, [.ref xa6, .ref xa7, .int (iI 0), .int (iI 0), .int (iI 0)]))] s.heap.size = A at hD hE ⊢
  have hA : ∀ q : Nat, s.heap.size ≤ q → A q := fun q h => by rw [← hAe]; exact Or.inr h
  have hS : va_S A s.heap s.heap [] := va_S.rf
  obtain ⟨hK, hNw, hNc, hZs, hAO1, hAO2⟩ := id hE
  have hSF : CallFix p mI cO cX0_chargeLateBills 3 s ([.ref h0] : List Value).toArray woX0_chargeLateBills RX0 := ⟨hx, hb, hml, hown, hts⟩
  have hl := lv_entry ([.ref h0] : List Value) (n := 3) (Nat.le_of_ble_eq_true rfl)
  rw [lg_entry_eq]
  generalize (lg_sl ([.ref h0] : List Value) ++ List.replicate (3 - (lg_sl ([.ref h0] : List Value)).length) Slot.unset).toArray = ls at hl ⊢
  have hl : lv_has ls 3 [(0, .ref h0)] := hl
  refine W_gen (fun Q hQ => ?_)
  change W p l e ({ frames := 2, cells := 0, slots := 0, locals := 37 } : Room) s mI _ below meth cO s.heap [] 0 0 Q _
  have hP : va_P (dC, dI) vwCl [(h0, .inr (2, [.ref xa1, .ref xa2, .ref xa3, .ref xa5, .ref xa8, .int (iI xd), .int (iI 0), .int (iI xe)])), (xa1, .inl (k 0, 5, .inl (aI (upI (upI (upI (upI (upI aZ 0 0) 1 0) 2 10) 3 500) 4 0)))), (xa5, .inr (3, [.ref xa6, .ref xa7, .int (iI 0), .int (iI 0), .int (iI 0)]))] s.heap := hP
  refine lv_aload_n hx hb dX0_chargeLateBills_0 rfl (lv_at hl 0 rfl) ?_
  refine va_get (D := (dC, dI)) (ci := 2) (v := .ref xa5) (C := RX0) (T := TX0) (N := 8) hx hb hts (fun _ h => List.mem_cons_of_mem _ (inlX0 _ h)) hown hK hP 0 rfl rfl 3 (by decide) (hts (.fieldLink RX0 28 "LoanServicing$Account" "bills" "LLoanServicing$Bills;") (List.mem_cons_of_mem _ (wl_3 (List.mem_of_getElem? (i := 5) rfl)))) (fun _ h9 => h9) rfl dX0_chargeLateBills_1 ?_
  refine lv_aload_n hx hb dX0_chargeLateBills_4 rfl (lv_at hl 0 rfl) ?_
  refine va_get (D := (dC, dI)) (ci := 2) (v := .int (iI xd)) (C := RX0) (T := TX0) (N := 8) hx hb hts (fun _ h => List.mem_cons_of_mem _ (inlX0 _ h)) hown hK hP 0 rfl rfl 5 (by decide) (hts (.fieldLink RX0 39 "LoanServicing$Account" "day" "I") (List.mem_cons_of_mem _ (wl_7 (List.mem_of_getElem? (i := 8) rfl)))) (fun _ h9 => h9) rfl dX0_chargeLateBills_5 ?_
  refine lv_aload_n hx hb dX0_chargeLateBills_8 rfl (lv_at hl 0 rfl) ?_
  refine va_get (D := (dC, dI)) (ci := 2) (v := .ref xa1) (C := RX0) (T := TX0) (N := 8) hx hb hts (fun _ h => List.mem_cons_of_mem _ (inlX0 _ h)) hown hK hP 0 rfl rfl 0 (by decide) (hts (.fieldLink RX0 9 "LoanServicing$Account" "rules" "[I") (List.mem_cons_of_mem _ (wl_2 (List.mem_of_getElem? (i := 20) rfl)))) (fun _ h9 => h9) rfl dX0_chargeLateBills_9 ?_
  refine q_iconst hx hb dX0_chargeLateBills_12 ?_
  refine q_iald (z := 10) hx hb hK hP 1 0 rfl rfl (by omega) rfl dX0_chargeLateBills_13 ?_
  refine ki (va_runV (As := [.int (iI xd), .int (iI 10)]) (rest := []) hSF ((c_X1_becomeLate l dC dI k xa5 xa6 xa7 xd 10) s.heap.size) (cwV 2 hts gX0_chargeLateBills_X1_becomeLate rfl rfl rfl (by decide +kernel) ⟨Nat.le_of_ble_eq_true rfl, Nat.le_of_ble_eq_true rfl⟩) (preV hP hD hE hS hA [2] rfl (by decide) (ci := 3) (q0 := 2) rfl rfl) rfl rfl hl.1 rfl (lv_room (Nat.le_of_ble_eq_true rfl)) dX0_chargeLateBills_14 ⟨Nat.le_of_ble_eq_true rfl, Nat.le_of_ble_eq_true rfl⟩) hP hD hS hA [2] [0, 1] rfl (wr := [(h0, .inr (2, [.ref xa1, .ref xa2, .ref xa3, .ref xa5, .ref xa8, .int (iI xd), .int (iI 0), .int (iI xe)])), (xa1, .inl (k 0, 5, .inl (aI (upI (upI (upI (upI (upI aZ 0 0) 1 0) 2 10) 3 500) 4 0))))]) rfl (by decide) (by decide) (fun r14 _ H locs hw hP hD hS => ?_)
  obtain rfl : r14 = (iI 0) := hw
  have hP : va_P (dC, dI) vwCl [(h0, .inr (2, [.ref xa1, .ref xa2, .ref xa3, .ref xa5, .ref xa8, .int (iI xd), .int (iI 0), .int (iI xe)])), (xa1, .inl (k 0, 5, .inl (aI (upI (upI (upI (upI (upI aZ 0 0) 1 0) 2 10) 3 500) 4 0)))), (xa5, .inr (3, [.ref xa6, .ref xa7, .int (iI 0), .int (iI 0), .int (iI 0)]))] H := hP
  have hD : va_D A [(h0, .inr (2, [.ref xa1, .ref xa2, .ref xa3, .ref xa5, .ref xa8, .int (iI xd), .int (iI 0), .int (iI xe)])), (xa1, .inl (k 0, 5, .inl (aI (upI (upI (upI (upI (upI aZ 0 0) 1 0) 2 10) 3 500) 4 0)))), (xa5, .inr (3, [.ref xa6, .ref xa7, .int (iI 0), .int (iI 0), .int (iI 0)]))] := hD
  refine lv_istore_n (lv' := [(1, .int (iI 0)), (0, .ref h0)]) hx hb dX0_chargeLateBills_17 rfl hl (by decide) rfl (fun ls hl => ?_)
  refine q_iconst hx hb dX0_chargeLateBills_18 ?_
  refine lv_istore_n (lv' := [(2, .int (iI 0)), (1, .int (iI 0)), (0, .ref h0)]) hx hb dX0_chargeLateBills_19 rfl hl (by decide) rfl (fun ls hl => ?_)
  refine lv_iload_n hx hb dX0_chargeLateBills_20 rfl (lv_at hl 0 rfl) ?_
  refine lv_iload_n hx hb dX0_chargeLateBills_21 rfl (lv_at hl 1 rfl) ?_
  refine q_icmp_ge (tgt := 88) hx hb dX0_chargeLateBills_22 (by decide) (by omega) (fun _ => ?_) (fun q => absurd q (by omega))
  refine lv_iload_n hx hb dX0_chargeLateBills_88 rfl (lv_at hl 1 rfl) ?_
  rw [hQ]
  refine W.widen (k := 0) (n := 0) (Nat.le_of_ble_eq_true rfl) (Nat.le_of_ble_eq_true rfl) ?_
  exact W.iret (v := (iI 0)) hx hb hr (fun t ht hW => ⟨⟨(iI 0), (), rfl, rfl, by rw [ht]; exact hP.sub [0, 1, 2] rfl, by rw [hAe]; exact hD.sub [0, 1, 2] (by decide) rfl⟩, hS.F ht⟩) hS.2.2 dX0_chargeLateBills_89
set_option maxHeartbeats 4000000 in
set_option maxRecDepth 100000 in
/-- accrue, of a fresh loan -/
theorem c_X6_accrue (l : Launch) (dC : Nat → ClassId) (dI : Nat → Nat → Nat) (k : Nat → ClassId) (h0 xs : Nat) (xf xt : Int) (hd : 0 ≤ xf ∧ xf ≤ 100000 ∧ 0 ≤ xt ∧ xt ≤ 100000) (sz : Nat) : Met l yX6_accrue woX6_accrue ({ frames := 3, cells := 0, slots := 0, locals := 66 } : Room) (PcW (dC, dI) k [.ref h0, .int (iI xf), .int (iI xt)] [(h0, .inr (7, [.int (iI 0), .int (iI 0), .int (iI 0), .long (lI 0), .int (iI 0), .int (iI 0), .int (iI 0), .long (lI 0), .long (lI 0), .long (lI 0), .long (lI 0), .long (lI 0), .int (iI 0), .int (iI 0), .int (iI 0), .int (iI 0), .ref xs]))] sz) (va_Qv (fun (_ : Unit) => True) (QB (dC, dI) [(h0, .inr (7, [.int (iI 0), .int (iI 0), .int (iI 0), .long (lI 0), .int (iI 0), .int (iI 0), .int (iI 0), .long (lI 0), .long (lI 0), .long (lI 0), .long (lI 0), .long (lI 0), .int (iI 0), .int (iI 0), .int (iI 0), .int (iI 0), .ref xs]))] (fun _ => [(h0, .inr (7, [.int (iI 0), .int (iI 0), .int (iI 0), .long (lI 0), .int (iI 0), .int (iI 0), .int (iI 0), .long (lI 0), .long (lI 0), .long (lI 0), .long (lI 0), .long (lI 0), .int (iI 0), .int (iI 0), .int (iI 0), .int (iI 0), .ref xs]))]) sz) (va_A [(h0, .inr (7, [.int (iI 0), .int (iI 0), .int (iI 0), .long (lI 0), .int (iI 0), .int (iI 0), .int (iI 0), .long (lI 0), .long (lI 0), .long (lI 0), .long (lI 0), .long (lI 0), .int (iI 0), .int (iI 0), .int (iI 0), .int (iI 0), .ref xs]))] sz)) 0 0 (va_A [(h0, .inr (7, [.int (iI 0), .int (iI 0), .int (iI 0), .long (lI 0), .int (iI 0), .int (iI 0), .int (iI 0), .long (lI 0), .long (lI 0), .long (lI 0), .long (lI 0), .long (lI 0), .int (iI 0), .int (iI 0), .int (iI 0), .int (iI 0), .ref xs]))] sz) := by
  refine Met.ofW (cc := cX6_accrue) (maxL := 3) (ret := none) (by decide) rfl ?_
  intro p e s mI args below meth cO s₁ B hml hv
  obtain ⟨rfl, rfl, hP, hD0, hE⟩ := hv
  have hx := B.exec
  have hb := B.bytes
  have hr := B.returns
  have hts := atoms_spec (ws := woX6_accrue) B.pre
  have hown : s.vm.findClass RX6 = some mI.cls := findClass_of_methodNamed B.named
  have hlocks := B.notSynchronized
  have hD := hD0.self (sz := s.heap.size)
  generalize hAe : va_A [(h0, .inr (7, [.int (iI 0), .int (iI 0), .int (iI 0), .long (lI 0), .int (iI 0), .int (iI 0), .int (iI 0), .long (lI 0), .long (lI 0), .long (lI 0), .long (lI 0), .long (lI 0), .int (iI 0), .int (iI 0), .int (iI 0), .int (iI 0), .ref xs]))] s.heap.size = A at hD hE ⊢
  have hA : ∀ q : Nat, s.heap.size ≤ q → A q := fun q h => by rw [← hAe]; exact Or.inr h
  have hS : va_S A s.heap s.heap [] := va_S.rf
  obtain ⟨hK, hNw, hNc, hZs, hAO1, hAO2⟩ := id hE
  have hSF : CallFix p mI cO cX6_accrue 3 s ([.ref h0, .int (iI xf), .int (iI xt)] : List Value).toArray woX6_accrue RX6 := ⟨hx, hb, hml, hown, hts⟩
  have hl := lv_entry ([.ref h0, .int (iI xf), .int (iI xt)] : List Value) (n := 3) (Nat.le_of_ble_eq_true rfl)
  rw [lg_entry_eq]
  generalize (lg_sl ([.ref h0, .int (iI xf), .int (iI xt)] : List Value) ++ List.replicate (3 - (lg_sl ([.ref h0, .int (iI xf), .int (iI xt)] : List Value)).length) Slot.unset).toArray = ls at hl ⊢
  have hl : lv_has ls 3 [(0, .ref h0), (1, .int (iI xf)), (2, .int (iI xt))] := hl
  refine W_gen (fun Q hQ => ?_)
  change W p l e ({ frames := 3, cells := 0, slots := 0, locals := 66 } : Room) s mI _ below meth cO s.heap [] 0 0 Q _
  have hP : va_P (dC, dI) vwCl [(h0, .inr (7, [.int (iI 0), .int (iI 0), .int (iI 0), .long (lI 0), .int (iI 0), .int (iI 0), .int (iI 0), .long (lI 0), .long (lI 0), .long (lI 0), .long (lI 0), .long (lI 0), .int (iI 0), .int (iI 0), .int (iI 0), .int (iI 0), .ref xs]))] s.heap := hP
  refine lv_aload_n hx hb dX6_accrue_0 rfl (lv_at hl 0 rfl) ?_
  refine lv_dup hx hb dX6_accrue_1 rfl ?_
  refine va_get (D := (dC, dI)) (ci := 7) (v := .long (lI 0)) (C := RX6) (T := TX6) (N := 17) hx hb hts (fun _ h => List.mem_cons_of_mem _ (inlX6 _ h)) hown hK hP 0 rfl rfl 10 (by decide) (hts (.fieldLink RX6 48 "LoanServicing$Loan" "units" "J") (List.mem_cons_of_mem _ (wl_8 (List.mem_of_getElem? (i := 5) rfl)))) (fun _ h9 => h9) rfl dX6_accrue_2 ?_
  refine lv_aload_n hx hb dX6_accrue_5 rfl (lv_at hl 0 rfl) ?_
  refine va_get (D := (dC, dI)) (ci := 7) (v := .long (lI 0)) (C := RX6) (T := TX6) (N := 17) hx hb hts (fun _ h => List.mem_cons_of_mem _ (inlX6 _ h)) hown hK hP 0 rfl rfl 7 (by decide) (hts (.fieldLink RX6 39 "LoanServicing$Loan" "principal" "J") (List.mem_cons_of_mem _ (wl_8 (List.mem_of_getElem? (i := 2) rfl)))) (fun _ h9 => h9) rfl dX6_accrue_6 ?_
  refine lv_aload_n hx hb dX6_accrue_9 rfl (lv_at hl 0 rfl) ?_
  refine va_get (D := (dC, dI)) (ci := 7) (v := .int (iI 0)) (C := RX6) (T := TX6) (N := 17) hx hb hts (fun _ h => List.mem_cons_of_mem _ (inlX6 _ h)) hown hK hP 0 rfl rfl 6 (by decide) (hts (.fieldLink RX6 36 "LoanServicing$Loan" "rate" "I") (List.mem_cons_of_mem _ (wl_8 (List.mem_of_getElem? (i := 1) rfl)))) (fun _ h9 => h9) rfl dX6_accrue_10 ?_
  refine q_i2l hx hb dX6_accrue_13 (by omega) ?_
  refine q_lmul (z := 0) hx hb dX6_accrue_14 (Int.zero_mul _) ?_
  refine lv_iload_n hx hb dX6_accrue_15 rfl (lv_at hl 1 rfl) ?_
  refine lv_iload_n hx hb dX6_accrue_16 rfl (lv_at hl 2 rfl) ?_
  refine lv_aload_n hx hb dX6_accrue_17 rfl (lv_at hl 0 rfl) ?_
  refine va_get (D := (dC, dI)) (ci := 7) (v := .int (iI 0)) (C := RX6) (T := TX6) (N := 17) hx hb hts (fun _ h => List.mem_cons_of_mem _ (inlX6 _ h)) hown hK hP 0 rfl rfl 1 (by decide) (hts (.fieldLink RX6 19 "LoanServicing$Loan" "convention" "I") (List.mem_cons_of_mem _ (wl_7 (List.mem_of_getElem? (i := 20) rfl)))) (fun _ h9 => h9) rfl dX6_accrue_18 ?_
  refine ki (va_runS (As := [.int (iI xf), .int (iI xt), .int (iI 0)]) (rest := [.long (lI 0), .long (lI 0), .ref h0]) hSF ((c_X2_counted l dC dI k xf xt 0 (by omega)) s.heap.size) (va_cwS 3 hts gX6_accrue_X2_counted rfl rfl rfl (by decide +kernel) ⟨Nat.le_of_ble_eq_true rfl, Nat.le_of_ble_eq_true rfl⟩) (preS hP hD hE hS hA [] rfl (by decide)) rfl rfl hl.1 rfl (lv_room (Nat.le_of_ble_eq_true rfl)) dX6_accrue_21 ⟨Nat.le_of_ble_eq_true rfl, Nat.le_of_ble_eq_true rfl⟩) hP hD hS hA [] [0] rfl (wr := [(h0, .inr (7, [.int (iI 0), .int (iI 0), .int (iI 0), .long (lI 0), .int (iI 0), .int (iI 0), .int (iI 0), .long (lI 0), .long (lI 0), .long (lI 0), .long (lI 0), .long (lI 0), .int (iI 0), .int (iI 0), .int (iI 0), .int (iI 0), .ref xs]))]) rfl (by decide) (by decide) (fun r21 _ H locs hw hP hD hS => ?_)
  obtain rfl : r21 = iI (xt - xf) := hw.trans (by unfold cntE; rw [if_neg (by decide)]; try (congr 1; omega))
  have hP : va_P (dC, dI) vwCl [(h0, .inr (7, [.int (iI 0), .int (iI 0), .int (iI 0), .long (lI 0), .int (iI 0), .int (iI 0), .int (iI 0), .long (lI 0), .long (lI 0), .long (lI 0), .long (lI 0), .long (lI 0), .int (iI 0), .int (iI 0), .int (iI 0), .int (iI 0), .ref xs]))] H := hP
  have hD : va_D A [(h0, .inr (7, [.int (iI 0), .int (iI 0), .int (iI 0), .long (lI 0), .int (iI 0), .int (iI 0), .int (iI 0), .long (lI 0), .long (lI 0), .long (lI 0), .long (lI 0), .long (lI 0), .int (iI 0), .int (iI 0), .int (iI 0), .int (iI 0), .ref xs]))] := hD
  refine q_i2l hx hb dX6_accrue_24 (by omega) ?_
  refine q_lmul (z := 0) hx hb dX6_accrue_25 (Int.zero_mul _) ?_
  refine q_ladd (z := 0) hx hb dX6_accrue_26 (by omega) ?_
  refine va_put (D := (dC, dI)) (ci := 7) (v := .long (lI 0)) (ty := .long) (C := RX6) (T := TX6) (N := 17) hx hb hts (fun _ h => List.mem_cons_of_mem _ (inlX6 _ h)) tyX6 tyX6_ok nmX6 hown hK hP hD hS 0 rfl rfl 10 (by decide) (hts (.fieldLink RX6 48 "LoanServicing$Loan" "units" "J") (List.mem_cons_of_mem _ (wl_8 (List.mem_of_getElem? (i := 5) rfl)))) (fun _ h9 => h9) rfl (by decide +kernel) rfl rfl (Nat.le_of_ble_eq_true rfl) dX6_accrue_27 (fun H locs hP hD hS => ?_)
  have hP : va_P (dC, dI) vwCl [(h0, .inr (7, [.int (iI 0), .int (iI 0), .int (iI 0), .long (lI 0), .int (iI 0), .int (iI 0), .int (iI 0), .long (lI 0), .long (lI 0), .long (lI 0), .long (lI 0), .long (lI 0), .int (iI 0), .int (iI 0), .int (iI 0), .int (iI 0), .ref xs]))] H := hP
  have hD : va_D A [(h0, .inr (7, [.int (iI 0), .int (iI 0), .int (iI 0), .long (lI 0), .int (iI 0), .int (iI 0), .int (iI 0), .long (lI 0), .long (lI 0), .long (lI 0), .long (lI 0), .long (lI 0), .int (iI 0), .int (iI 0), .int (iI 0), .int (iI 0), .ref xs]))] := hD
  rw [hQ]
  refine W.widen (k := 0) (n := 0) (Nat.le_of_ble_eq_true rfl) (Nat.le_of_ble_eq_true rfl) ?_
  exact W.vret hx hb hr (fun t ht hW => ⟨⟨(), rfl, trivial, by rw [ht]; exact hP.sub [0] rfl, by rw [hAe]; exact hD.sub [0] (by decide) rfl⟩, hS.F ht⟩) hS.2.2 dX6_accrue_30
set_option maxHeartbeats 4000000 in
set_option maxRecDepth 100000 in
/-- passDays, without a loan -/
theorem c_X0_passDays (l : Launch) (dC : Nat → ClassId) (dI : Nat → Nat → Nat) (k : Nat → ClassId) (h0 xa1 xa2 xa3 xa4 xa5 xa6 xa7 xa8 xa9 xa10 xa11 : Nat) (xv : Int) (hv : 1 ≤ xv ∧ xv ≤ 1000) (sz : Nat) : Met l yX0_passDays woX0_passDays ({ frames := 4, cells := 0, slots := 0, locals := 88 } : Room) (PcW (dC, dI) k [.ref h0, .int (iI xv), .int (iI 0)] [(h0, .inr (2, [.ref xa1, .ref xa2, .ref xa3, .ref xa5, .ref xa8, .int (iI 0), .int (iI 0), .int (iI 1)])), (xa1, .inl (k 0, 5, .inl (aI (upI (upI (upI (upI (upI aZ 0 0) 1 0) 2 10) 3 500) 4 0)))), (xa3, .inr (7, [.int (iI 0), .int (iI 0), .int (iI 0), .long (lI 0), .int (iI 0), .int (iI 0), .int (iI 0), .long (lI 0), .long (lI 0), .long (lI 0), .long (lI 0), .long (lI 0), .int (iI 0), .int (iI 0), .int (iI 0), .int (iI 0), .ref xa4])), (xa5, .inr (3, [.ref xa6, .ref xa7, .int (iI 0), .int (iI 0), .int (iI 0)]))] sz) (va_Qi (fun (r : Int32) (_ : Unit) => r = iI 0) (QB (dC, dI) [(h0, .inr (2, [.ref xa1, .ref xa2, .ref xa3, .ref xa5, .ref xa8, .int (iI 0), .int (iI 0), .int (iI 1)])), (xa1, .inl (k 0, 5, .inl (aI (upI (upI (upI (upI (upI aZ 0 0) 1 0) 2 10) 3 500) 4 0)))), (xa3, .inr (7, [.int (iI 0), .int (iI 0), .int (iI 0), .long (lI 0), .int (iI 0), .int (iI 0), .int (iI 0), .long (lI 0), .long (lI 0), .long (lI 0), .long (lI 0), .long (lI 0), .int (iI 0), .int (iI 0), .int (iI 0), .int (iI 0), .ref xa4])), (xa5, .inr (3, [.ref xa6, .ref xa7, .int (iI 0), .int (iI 0), .int (iI 0)]))] (fun _ => []) sz) (va_A [(h0, .inr (2, [.ref xa1, .ref xa2, .ref xa3, .ref xa5, .ref xa8, .int (iI 0), .int (iI 0), .int (iI 1)])), (xa1, .inl (k 0, 5, .inl (aI (upI (upI (upI (upI (upI aZ 0 0) 1 0) 2 10) 3 500) 4 0)))), (xa3, .inr (7, [.int (iI 0), .int (iI 0), .int (iI 0), .long (lI 0), .int (iI 0), .int (iI 0), .int (iI 0), .long (lI 0), .long (lI 0), .long (lI 0), .long (lI 0), .long (lI 0), .int (iI 0), .int (iI 0), .int (iI 0), .int (iI 0), .ref xa4])), (xa5, .inr (3, [.ref xa6, .ref xa7, .int (iI 0), .int (iI 0), .int (iI 0)]))] sz)) 0 0 (va_A [(h0, .inr (2, [.ref xa1, .ref xa2, .ref xa3, .ref xa5, .ref xa8, .int (iI 0), .int (iI 0), .int (iI 1)])), (xa1, .inl (k 0, 5, .inl (aI (upI (upI (upI (upI (upI aZ 0 0) 1 0) 2 10) 3 500) 4 0)))), (xa3, .inr (7, [.int (iI 0), .int (iI 0), .int (iI 0), .long (lI 0), .int (iI 0), .int (iI 0), .int (iI 0), .long (lI 0), .long (lI 0), .long (lI 0), .long (lI 0), .long (lI 0), .int (iI 0), .int (iI 0), .int (iI 0), .int (iI 0), .ref xa4])), (xa5, .inr (3, [.ref xa6, .ref xa7, .int (iI 0), .int (iI 0), .int (iI 0)]))] sz) := by
  refine Met.ofW (cc := cX0_passDays) (maxL := 7) (ret := (some .int)) (by decide) rfl ?_
  intro p e s mI args below meth cO s₁ B hml hv
  obtain ⟨rfl, rfl, hP, hD0, hE⟩ := hv
  have hx := B.exec
  have hb := B.bytes
  have hr := B.returns
  have hts := atoms_spec (ws := woX0_passDays) B.pre
  have hown : s.vm.findClass RX0 = some mI.cls := findClass_of_methodNamed B.named
  have hlocks := B.notSynchronized
  have hD := hD0.self (sz := s.heap.size)
  generalize hAe : va_A [(h0, .inr (2, [.ref xa1, .ref xa2, .ref xa3, .ref xa5, .ref xa8, .int (iI 0), .int (iI 0), .int (iI 1)])), (xa1, .inl (k 0, 5, .inl (aI (upI (upI (upI (upI (upI aZ 0 0) 1 0) 2 10) 3 500) 4 0)))), (xa3, .inr (7, [.int (iI 0), .int (iI 0), .int (iI 0), .long (lI 0), .int (iI 0), .int (iI 0), .int (iI 0), .long (lI 0), .long (lI 0), .long (lI 0), .long (lI 0), .long (lI 0), .int (iI 0), .int (iI 0), .int (iI 0), .int (iI 0), .ref xa4])), (xa5, .inr (3, [.ref xa6, .ref xa7, .int (iI 0), .int (iI 0), .int (iI 0)]))] s.heap.size = A at hD hE ⊢
  have hA : ∀ q : Nat, s.heap.size ≤ q → A q := fun q h => by rw [← hAe]; exact Or.inr h
  have hS : va_S A s.heap s.heap [] := va_S.rf
  obtain ⟨hK, hNw, hNc, hZs, hAO1, hAO2⟩ := id hE
  have hSF : CallFix p mI cO cX0_passDays 7 s ([.ref h0, .int (iI xv), .int (iI 0)] : List Value).toArray woX0_passDays RX0 := ⟨hx, hb, hml, hown, hts⟩
  have hl := lv_entry ([.ref h0, .int (iI xv), .int (iI 0)] : List Value) (n := 7) (Nat.le_of_ble_eq_true rfl)
  rw [lg_entry_eq]
  generalize (lg_sl ([.ref h0, .int (iI xv), .int (iI 0)] : List Value) ++ List.replicate (7 - (lg_sl ([.ref h0, .int (iI xv), .int (iI 0)] : List Value)).length) Slot.unset).toArray = ls at hl ⊢
  have hl : lv_has ls 7 [(0, .ref h0), (1, .int (iI xv)), (2, .int (iI 0))] := hl
  refine W_gen (fun Q hQ => ?_)
  change W p l e ({ frames := 4, cells := 0, slots := 0, locals := 88 } : Room) s mI _ below meth cO s.heap [] 0 0 Q _
  have hP : va_P (dC, dI) vwCl [(h0, .inr (2, [.ref xa1, .ref xa2, .ref xa3, .ref xa5, .ref xa8, .int (iI 0), .int (iI 0), .int (iI 1)])), (xa1, .inl (k 0, 5, .inl (aI (upI (upI (upI (upI (upI aZ 0 0) 1 0) 2 10) 3 500) 4 0)))), (xa3, .inr (7, [.int (iI 0), .int (iI 0), .int (iI 0), .long (lI 0), .int (iI 0), .int (iI 0), .int (iI 0), .long (lI 0), .long (lI 0), .long (lI 0), .long (lI 0), .long (lI 0), .int (iI 0), .int (iI 0), .int (iI 0), .int (iI 0), .ref xa4])), (xa5, .inr (3, [.ref xa6, .ref xa7, .int (iI 0), .int (iI 0), .int (iI 0)]))] s.heap := hP
  refine q_iconst hx hb dX0_passDays_0 ?_
  refine lv_istore_n (lv' := [(3, .int (iI 0)), (0, .ref h0), (1, .int (iI xv)), (2, .int (iI 0))]) hx hb dX0_passDays_1 rfl hl (by decide) rfl (fun ls hl => ?_)
  refine lv_aload_n hx hb dX0_passDays_2 rfl (lv_at hl 1 rfl) ?_
  refine va_get (D := (dC, dI)) (ci := 2) (v := .int (iI 0)) (C := RX0) (T := TX0) (N := 8) hx hb hts (fun _ h => List.mem_cons_of_mem _ (inlX0 _ h)) hown hK hP 0 rfl rfl 5 (by decide) (hts (.fieldLink RX0 39 "LoanServicing$Account" "day" "I") (List.mem_cons_of_mem _ (wl_7 (List.mem_of_getElem? (i := 8) rfl)))) (fun _ h9 => h9) rfl dX0_passDays_3 ?_
  refine lv_istore (lv' := [(4, .int (iI 0)), (3, .int (iI 0)), (0, .ref h0), (1, .int (iI xv)), (2, .int (iI 0))]) hx hb dX0_passDays_6 hl (by decide) rfl (fun ls hl => ?_)
  refine q_iconst hx hb dX0_passDays_8 ?_
  refine lv_istore (lv' := [(5, .int (iI 1)), (4, .int (iI 0)), (3, .int (iI 0)), (0, .ref h0), (1, .int (iI xv)), (2, .int (iI 0))]) hx hb dX0_passDays_9 hl (by decide) rfl (fun ls hl => ?_)
  have LOOP_11 : ∀ (n : Nat) (i xc xy : Int), (xv + 1 - i < (n : Int)) → (1 ≤ i ∧ i ≤ xv + 1 ∧ 0 ≤ xc ∧ xc ≤ 1000 ∧ xy = i - 1) → ∀ (H : Heap) (locs : List Loc), va_P (dC, dI) vwCl [(h0, .inr (2, [.ref xa1, .ref xa2, .ref xa3, .ref xa5, .ref xa8, .int (iI xy), .int (iI 0), .int (iI 1)])), (xa1, .inl (k 0, 5, .inl (aI (upI (upI (upI (upI (upI aZ 0 0) 1 0) 2 10) 3 500) 4 0)))), (xa3, .inr (7, [.int (iI 0), .int (iI 0), .int (iI 0), .long (lI 0), .int (iI 0), .int (iI 0), .int (iI 0), .long (lI 0), .long (lI 0), .long (lI 0), .long (lI 0), .long (lI 0), .int (iI 0), .int (iI 0), .int (iI 0), .int (iI 0), .ref xa4])), (xa5, .inr (3, [.ref xa6, .ref xa7, .int (iI 0), .int (iI 0), .int (iI 0)]))] H → va_D A [(h0, .inr (2, [.ref xa1, .ref xa2, .ref xa3, .ref xa5, .ref xa8, .int (iI xy), .int (iI 0), .int (iI 1)])), (xa1, .inl (k 0, 5, .inl (aI (upI (upI (upI (upI (upI aZ 0 0) 1 0) 2 10) 3 500) 4 0)))), (xa3, .inr (7, [.int (iI 0), .int (iI 0), .int (iI 0), .long (lI 0), .int (iI 0), .int (iI 0), .int (iI 0), .long (lI 0), .long (lI 0), .long (lI 0), .long (lI 0), .long (lI 0), .int (iI 0), .int (iI 0), .int (iI 0), .int (iI 0), .ref xa4])), (xa5, .inr (3, [.ref xa6, .ref xa7, .int (iI 0), .int (iI 0), .int (iI 0)]))] → va_S A s.heap H locs → ∀ ls : Array Slot, lv_has ls 7 [(5, .int (iI i)), (4, .int (iI xc)), (3, .int (iI 0)), (0, .ref h0), (1, .int (iI xv)), (2, .int (iI 0))] → W p l e ({ frames := 4, cells := 0, slots := 0, locals := 88 } : Room) s mI ([.ref h0, .int (iI xv), .int (iI 0)] : List Value).toArray below meth cO H locs 0 0 Q (F0 mI 11 ls []) := by
    intro n
    induction n with
    | zero => intro i xc xy hn hi; exact absurd hn (by omega)
    | succ n ih_11 =>
      intro i xc xy hn hi H locs hP hD hS ls hl
      refine lv_iload hx hb dX0_passDays_11 (lv_at hl 0 rfl) ?_
      refine lv_iload_n hx hb dX0_passDays_13 rfl (lv_at hl 4 rfl) ?_
      refine q_icmp_gt (tgt := 117) hx hb dX0_passDays_14 (by decide) (by omega) (fun c14 => ?_) (fun c14 => ?_)
      · refine lv_iload_n hx hb dX0_passDays_117 rfl (lv_at hl 2 rfl) ?_
        rw [hQ]
        refine W.widen (k := 0) (n := 0) (Nat.le_of_ble_eq_true rfl) (Nat.le_of_ble_eq_true rfl) ?_
        exact W.iret (v := (iI 0)) hx hb hr (fun t ht hW => ⟨⟨(iI 0), (), rfl, rfl, by rw [ht]; exact hP.sub [] rfl, by rw [hAe]; exact hD.sub [] (by decide) rfl⟩, hS.F ht⟩) hS.2.2 dX0_passDays_118
      · refine lv_aload_n hx hb dX0_passDays_17 rfl (lv_at hl 3 rfl) ?_
        refine lv_dup hx hb dX0_passDays_18 rfl ?_
        refine va_get (D := (dC, dI)) (ci := 2) (v := .int (iI xy)) (C := RX0) (T := TX0) (N := 8) hx hb hts (fun _ h => List.mem_cons_of_mem _ (inlX0 _ h)) hown hK hP 0 rfl rfl 5 (by decide) (hts (.fieldLink RX0 39 "LoanServicing$Account" "day" "I") (List.mem_cons_of_mem _ (wl_7 (List.mem_of_getElem? (i := 8) rfl)))) (fun _ h9 => h9) rfl dX0_passDays_19 ?_
        refine q_iconst hx hb dX0_passDays_22 ?_
        refine q_iadd (z := xy + 1) hx hb dX0_passDays_23 (by omega) ?_
        refine va_put (D := (dC, dI)) (ci := 2) (v := .int (iI (xy + 1))) (ty := .int) (C := RX0) (T := TX0) (N := 8) hx hb hts (fun _ h => List.mem_cons_of_mem _ (inlX0 _ h)) tyX0 tyX0_ok nmX0 hown hK hP hD hS 0 rfl rfl 5 (by decide) (hts (.fieldLink RX0 39 "LoanServicing$Account" "day" "I") (List.mem_cons_of_mem _ (wl_7 (List.mem_of_getElem? (i := 8) rfl)))) (fun _ h9 => h9) rfl (by decide +kernel) rfl rfl (Nat.le_of_ble_eq_true rfl) dX0_passDays_24 (fun H locs hP hD hS => ?_)
        have hP : va_P (dC, dI) vwCl [(h0, .inr (2, [.ref xa1, .ref xa2, .ref xa3, .ref xa5, .ref xa8, .int (iI (xy + 1)), .int (iI 0), .int (iI 1)])), (xa1, .inl (k 0, 5, .inl (aI (upI (upI (upI (upI (upI aZ 0 0) 1 0) 2 10) 3 500) 4 0)))), (xa3, .inr (7, [.int (iI 0), .int (iI 0), .int (iI 0), .long (lI 0), .int (iI 0), .int (iI 0), .int (iI 0), .long (lI 0), .long (lI 0), .long (lI 0), .long (lI 0), .long (lI 0), .int (iI 0), .int (iI 0), .int (iI 0), .int (iI 0), .ref xa4])), (xa5, .inr (3, [.ref xa6, .ref xa7, .int (iI 0), .int (iI 0), .int (iI 0)]))] H := hP
        have hD : va_D A [(h0, .inr (2, [.ref xa1, .ref xa2, .ref xa3, .ref xa5, .ref xa8, .int (iI (xy + 1)), .int (iI 0), .int (iI 1)])), (xa1, .inl (k 0, 5, .inl (aI (upI (upI (upI (upI (upI aZ 0 0) 1 0) 2 10) 3 500) 4 0)))), (xa3, .inr (7, [.int (iI 0), .int (iI 0), .int (iI 0), .long (lI 0), .int (iI 0), .int (iI 0), .int (iI 0), .long (lI 0), .long (lI 0), .long (lI 0), .long (lI 0), .long (lI 0), .int (iI 0), .int (iI 0), .int (iI 0), .int (iI 0), .ref xa4])), (xa5, .inr (3, [.ref xa6, .ref xa7, .int (iI 0), .int (iI 0), .int (iI 0)]))] := hD
        refine lv_iload_n hx hb dX0_passDays_27 rfl (lv_at hl 2 rfl) ?_
        refine lv_aload_n hx hb dX0_passDays_28 rfl (lv_at hl 3 rfl) ?_
        refine ki (va_runV (As := []) (rest := [.int (iI 0)]) hSF ((c_X0_chargeLateBills l dC dI k h0 xa1 xa2 xa3 0 xa5 xa6 xa7 xa8 0 0 0 (xy + 1) 1) H.size) (cwV 0 hts gX0_passDays_X0_chargeLateBills rfl rfl rfl (by decide +kernel) ⟨Nat.le_of_ble_eq_true rfl, Nat.le_of_ble_eq_true rfl⟩) (preV hP hD hE hS hA [0, 1, 3] rfl (by decide) (ci := 2) (q0 := 0) rfl rfl) rfl rfl hl.1 rfl (lv_room (Nat.le_of_ble_eq_true rfl)) dX0_passDays_29 ⟨Nat.le_of_ble_eq_true rfl, Nat.le_of_ble_eq_true rfl⟩) hP hD hS hA [0, 1, 3] [2] rfl (wr := [(xa3, .inr (7, [.int (iI 0), .int (iI 0), .int (iI 0), .long (lI 0), .int (iI 0), .int (iI 0), .int (iI 0), .long (lI 0), .long (lI 0), .long (lI 0), .long (lI 0), .long (lI 0), .int (iI 0), .int (iI 0), .int (iI 0), .int (iI 0), .ref xa4]))]) rfl (by decide) (by decide) (fun r29 _ H locs hw hP hD hS => ?_)
        obtain rfl : r29 = (iI 0) := hw
        have hP : va_P (dC, dI) vwCl [(xa3, .inr (7, [.int (iI 0), .int (iI 0), .int (iI 0), .long (lI 0), .int (iI 0), .int (iI 0), .int (iI 0), .long (lI 0), .long (lI 0), .long (lI 0), .long (lI 0), .long (lI 0), .int (iI 0), .int (iI 0), .int (iI 0), .int (iI 0), .ref xa4])), (h0, .inr (2, [.ref xa1, .ref xa2, .ref xa3, .ref xa5, .ref xa8, .int (iI (xy + 1)), .int (iI 0), .int (iI 1)])), (xa1, .inl (k 0, 5, .inl (aI (upI (upI (upI (upI (upI aZ 0 0) 1 0) 2 10) 3 500) 4 0)))), (xa5, .inr (3, [.ref xa6, .ref xa7, .int (iI 0), .int (iI 0), .int (iI 0)]))] H := hP
        have hD : va_D A [(xa3, .inr (7, [.int (iI 0), .int (iI 0), .int (iI 0), .long (lI 0), .int (iI 0), .int (iI 0), .int (iI 0), .long (lI 0), .long (lI 0), .long (lI 0), .long (lI 0), .long (lI 0), .int (iI 0), .int (iI 0), .int (iI 0), .int (iI 0), .ref xa4])), (h0, .inr (2, [.ref xa1, .ref xa2, .ref xa3, .ref xa5, .ref xa8, .int (iI (xy + 1)), .int (iI 0), .int (iI 1)])), (xa1, .inl (k 0, 5, .inl (aI (upI (upI (upI (upI (upI aZ 0 0) 1 0) 2 10) 3 500) 4 0)))), (xa5, .inr (3, [.ref xa6, .ref xa7, .int (iI 0), .int (iI 0), .int (iI 0)]))] := hD
        refine q_iadd (z := 0) hx hb dX0_passDays_32 (by omega) ?_
        refine lv_istore_n (lv' := [(3, .int (iI 0)), (5, .int (iI i)), (4, .int (iI xc)), (0, .ref h0), (1, .int (iI xv)), (2, .int (iI 0))]) hx hb dX0_passDays_33 rfl hl (by decide) rfl (fun ls hl => ?_)
        refine lv_aload_n hx hb dX0_passDays_34 rfl (lv_at hl 3 rfl) ?_
        refine va_get (D := (dC, dI)) (ci := 2) (v := .ref xa3) (C := RX0) (T := TX0) (N := 8) hx hb hts (fun _ h => List.mem_cons_of_mem _ (inlX0 _ h)) hown hK hP 1 rfl rfl 2 (by decide) (hts (.fieldLink RX0 21 "LoanServicing$Account" "loan" "LLoanServicing$Loan;") (List.mem_cons_of_mem _ (wl_3 (List.mem_of_getElem? (i := 1) rfl)))) (fun _ h9 => h9) rfl dX0_passDays_35 ?_
        refine va_getN (D := (dC, dI)) (ci := 7) (v := .int (iI 0)) (C := RX6) (T := TX6) (N := 17) hx hb hts (fun _ h => List.mem_cons_of_mem _ (inlX6 _ h)) hown hK hP 0 rfl rfl 12 (by decide) (va_Nw.use rfl (hNw _ (List.mem_of_getElem? (i := 29) rfl))) (fun _ h9 => h9) rfl dX0_passDays_38 ?_
        refine q_if_le (tgt := 62) hx hb dX0_passDays_41 (by decide) (by omega) (fun _ => ?_) (fun q => absurd q (by omega))
        refine q_iconst hx hb dX0_passDays_62 ?_
        refine lv_istore (lv' := [(6, .int (iI 0)), (3, .int (iI 0)), (5, .int (iI i)), (4, .int (iI xc)), (0, .ref h0), (1, .int (iI xv)), (2, .int (iI 0))]) hx hb dX0_passDays_63 hl (by decide) rfl (fun ls hl => ?_)
        refine lv_iload hx hb dX0_passDays_65 (lv_at hl 0 rfl) ?_
        refine q_if_ne (tgt := 80) hx hb dX0_passDays_67 (by decide) (by omega) (fun q => absurd q (by omega)) (fun _ => ?_)
        refine lv_iload_n hx hb dX0_passDays_70 rfl (lv_at hl 6 rfl) ?_
        refine q_if_ne (tgt := 80) hx hb dX0_passDays_71 (by decide) (by omega) (fun q => absurd q (by omega)) (fun _ => ?_)
        refine lv_iload hx hb dX0_passDays_74 (lv_at hl 2 rfl) ?_
        refine lv_iload_n hx hb dX0_passDays_76 rfl (lv_at hl 5 rfl) ?_
        refine q_icmp_ne (tgt := 99) hx hb dX0_passDays_77 (by decide) (by omega) (fun c77 => ?_) (fun c77 => ?_)
        · refine lv_iload hx hb dX0_passDays_99 (lv_at hl 0 rfl) ?_
          refine q_if_eq (tgt := 111) hx hb dX0_passDays_101 (by decide) (by omega) (fun _ => ?_) (fun q => absurd q (by omega))
          refine lv_iinc (v := iI (i + 1)) (lv' := [(5, .int (iI (i + 1))), (6, .int (iI 0)), (3, .int (iI 0)), (4, .int (iI xc)), (0, .ref h0), (1, .int (iI xv)), (2, .int (iI 0))]) hx hb dX0_passDays_111 hl (k := 2) rfl (by show iI _ + iI _ = _; rw [iI_add]; try (first | rfl | (congr 1; omega))) (by decide) rfl (fun ls hl => ?_)
          refine lv_goto (tgt := 11) hx hb dX0_passDays_114 (by decide) ?_
          exact ih_11 (i + 1) (xc) (xy + 1) (by omega) (by omega) _ _ (hP.sub [1, 2, 0, 3] rfl) (hD.sub [1, 2, 0, 3] (by decide) rfl) hS ls (lv_sub hl [0, 3, 2, 4, 5, 6] rfl)
        · refine lv_aload_n hx hb dX0_passDays_80 rfl (lv_at hl 4 rfl) ?_
          refine va_get (D := (dC, dI)) (ci := 2) (v := .ref xa3) (C := RX0) (T := TX0) (N := 8) hx hb hts (fun _ h => List.mem_cons_of_mem _ (inlX0 _ h)) hown hK hP 1 rfl rfl 2 (by decide) (hts (.fieldLink RX0 21 "LoanServicing$Account" "loan" "LLoanServicing$Loan;") (List.mem_cons_of_mem _ (wl_3 (List.mem_of_getElem? (i := 1) rfl)))) (fun _ h9 => h9) rfl dX0_passDays_81 ?_
          refine lv_iload hx hb dX0_passDays_84 (lv_at hl 3 rfl) ?_
          refine lv_aload_n hx hb dX0_passDays_86 rfl (lv_at hl 4 rfl) ?_
          refine va_get (D := (dC, dI)) (ci := 2) (v := .int (iI (xy + 1))) (C := RX0) (T := TX0) (N := 8) hx hb hts (fun _ h => List.mem_cons_of_mem _ (inlX0 _ h)) hown hK hP 1 rfl rfl 5 (by decide) (hts (.fieldLink RX0 39 "LoanServicing$Account" "day" "I") (List.mem_cons_of_mem _ (wl_7 (List.mem_of_getElem? (i := 8) rfl)))) (fun _ h9 => h9) rfl dX0_passDays_87 ?_
          refine kv (va_runV (As := [.int (iI xc), .int (iI (xy + 1))]) (rest := []) hSF ((c_X6_accrue l dC dI k xa3 xa4 xc (xy + 1) (by omega)) H.size) (cwV 2 hts gX0_passDays_X6_accrue rfl rfl rfl (by decide +kernel) ⟨Nat.le_of_ble_eq_true rfl, Nat.le_of_ble_eq_true rfl⟩) (preV hP hD hE hS hA [0] rfl (by decide) (ci := 7) (q0 := 0) rfl rfl) rfl rfl hl.1 rfl (lv_room (Nat.le_of_ble_eq_true rfl)) dX0_passDays_90 ⟨Nat.le_of_ble_eq_true rfl, Nat.le_of_ble_eq_true rfl⟩) hP hD hS hA [0] [1, 2, 3] rfl (wr := [(h0, .inr (2, [.ref xa1, .ref xa2, .ref xa3, .ref xa5, .ref xa8, .int (iI (xy + 1)), .int (iI 0), .int (iI 1)])), (xa1, .inl (k 0, 5, .inl (aI (upI (upI (upI (upI (upI aZ 0 0) 1 0) 2 10) 3 500) 4 0)))), (xa5, .inr (3, [.ref xa6, .ref xa7, .int (iI 0), .int (iI 0), .int (iI 0)]))]) rfl (by decide) (by decide) (fun _ H locs hw hP hD hS => ?_)
          have hP : va_P (dC, dI) vwCl [(h0, .inr (2, [.ref xa1, .ref xa2, .ref xa3, .ref xa5, .ref xa8, .int (iI (xy + 1)), .int (iI 0), .int (iI 1)])), (xa1, .inl (k 0, 5, .inl (aI (upI (upI (upI (upI (upI aZ 0 0) 1 0) 2 10) 3 500) 4 0)))), (xa5, .inr (3, [.ref xa6, .ref xa7, .int (iI 0), .int (iI 0), .int (iI 0)])), (xa3, .inr (7, [.int (iI 0), .int (iI 0), .int (iI 0), .long (lI 0), .int (iI 0), .int (iI 0), .int (iI 0), .long (lI 0), .long (lI 0), .long (lI 0), .long (lI 0), .long (lI 0), .int (iI 0), .int (iI 0), .int (iI 0), .int (iI 0), .ref xa4]))] H := hP
          have hD : va_D A [(h0, .inr (2, [.ref xa1, .ref xa2, .ref xa3, .ref xa5, .ref xa8, .int (iI (xy + 1)), .int (iI 0), .int (iI 1)])), (xa1, .inl (k 0, 5, .inl (aI (upI (upI (upI (upI (upI aZ 0 0) 1 0) 2 10) 3 500) 4 0)))), (xa5, .inr (3, [.ref xa6, .ref xa7, .int (iI 0), .int (iI 0), .int (iI 0)])), (xa3, .inr (7, [.int (iI 0), .int (iI 0), .int (iI 0), .long (lI 0), .int (iI 0), .int (iI 0), .int (iI 0), .long (lI 0), .long (lI 0), .long (lI 0), .long (lI 0), .long (lI 0), .int (iI 0), .int (iI 0), .int (iI 0), .int (iI 0), .ref xa4]))] := hD
          refine lv_aload_n hx hb dX0_passDays_93 rfl (lv_at hl 4 rfl) ?_
          refine va_get (D := (dC, dI)) (ci := 2) (v := .int (iI (xy + 1))) (C := RX0) (T := TX0) (N := 8) hx hb hts (fun _ h => List.mem_cons_of_mem _ (inlX0 _ h)) hown hK hP 0 rfl rfl 5 (by decide) (hts (.fieldLink RX0 39 "LoanServicing$Account" "day" "I") (List.mem_cons_of_mem _ (wl_7 (List.mem_of_getElem? (i := 8) rfl)))) (fun _ h9 => h9) rfl dX0_passDays_94 ?_
          refine lv_istore (lv' := [(4, .int (iI (xy + 1))), (6, .int (iI 0)), (3, .int (iI 0)), (5, .int (iI i)), (0, .ref h0), (1, .int (iI xv)), (2, .int (iI 0))]) hx hb dX0_passDays_97 hl (by decide) rfl (fun ls hl => ?_)
          refine lv_iload hx hb dX0_passDays_99 (lv_at hl 1 rfl) ?_
          refine q_if_eq (tgt := 111) hx hb dX0_passDays_101 (by decide) (by omega) (fun _ => ?_) (fun q => absurd q (by omega))
          refine lv_iinc (v := iI (i + 1)) (lv' := [(5, .int (iI (i + 1))), (4, .int (iI (xy + 1))), (6, .int (iI 0)), (3, .int (iI 0)), (0, .ref h0), (1, .int (iI xv)), (2, .int (iI 0))]) hx hb dX0_passDays_111 hl (k := 3) rfl (by show iI _ + iI _ = _; rw [iI_add]; try (first | rfl | (congr 1; omega))) (by decide) rfl (fun ls hl => ?_)
          refine lv_goto (tgt := 11) hx hb dX0_passDays_114 (by decide) ?_
          exact ih_11 (i + 1) (xy + 1) (xy + 1) (by omega) (by omega) _ _ (hP.sub [0, 1, 3, 2] rfl) (hD.sub [0, 1, 3, 2] (by decide) rfl) hS ls (lv_sub hl [0, 1, 3, 4, 5, 6] rfl)
  exact LOOP_11 (xv.toNat + 1) (1) (0) (0) (by omega) (by omega) _ _ (hP.sub [0, 1, 2, 3] rfl) (hD.sub [0, 1, 2, 3] (by decide) rfl) hS ls (lv_sub hl [0, 1, 2, 3, 4, 5] rfl)
set_option maxHeartbeats 4000000 in
set_option maxRecDepth 100000 in
/-- changeRule 0, at first -/
theorem c_X0_changeRule_0 (l : Launch) (dC : Nat → ClassId) (dI : Nat → Nat → Nat) (k : Nat → ClassId) (h0 xa1 xa2 xa3 xa4 xa5 xa6 xa7 xa8 xa9 xa10 xa11 : Nat) (xv : Int) (sz : Nat) : Met l yX0_changeRule woX0_changeRule ({ frames := 0, cells := 0, slots := 0, locals := 0 } : Room) (PcW (dC, dI) k [.ref h0, .int (iI 0), .int (iI xv)] [(h0, .inr (2, [.ref xa1, .ref xa2, .ref xa3, .ref xa5, .ref xa8, .int (iI 0), .int (iI 0), .int (iI 1)])), (xa1, .inl (k 0, 5, .inl (aI (upI (upI (upI (upI (upI aZ 0 0) 1 0) 2 10) 3 500) 4 0))))] sz) (va_Qi (fun (r : Int32) (_ : Unit) => r = iI 0) (QB (dC, dI) [(h0, .inr (2, [.ref xa1, .ref xa2, .ref xa3, .ref xa5, .ref xa8, .int (iI 0), .int (iI 0), .int (iI 1)])), (xa1, .inl (k 0, 5, .inl (aI (upI (upI (upI (upI (upI aZ 0 0) 1 0) 2 10) 3 500) 4 0))))] (fun _ => []) sz) (va_A [(h0, .inr (2, [.ref xa1, .ref xa2, .ref xa3, .ref xa5, .ref xa8, .int (iI 0), .int (iI 0), .int (iI 1)])), (xa1, .inl (k 0, 5, .inl (aI (upI (upI (upI (upI (upI aZ 0 0) 1 0) 2 10) 3 500) 4 0))))] sz)) 0 0 (va_A [(h0, .inr (2, [.ref xa1, .ref xa2, .ref xa3, .ref xa5, .ref xa8, .int (iI 0), .int (iI 0), .int (iI 1)])), (xa1, .inl (k 0, 5, .inl (aI (upI (upI (upI (upI (upI aZ 0 0) 1 0) 2 10) 3 500) 4 0))))] sz) := by
  refine Met.ofW (cc := cX0_changeRule) (maxL := 4) (ret := (some .int)) (by decide) rfl ?_
  intro p e s mI args below meth cO s₁ B hml hv
  obtain ⟨rfl, rfl, hP, hD0, hE⟩ := hv
  have hx := B.exec
  have hb := B.bytes
  have hr := B.returns
  have hts := atoms_spec (ws := woX0_changeRule) B.pre
  have hown : s.vm.findClass RX0 = some mI.cls := findClass_of_methodNamed B.named
  have hlocks := B.notSynchronized
  have hD := hD0.self (sz := s.heap.size)
  generalize hAe : va_A [(h0, .inr (2, [.ref xa1, .ref xa2, .ref xa3, .ref xa5, .ref xa8, .int (iI 0), .int (iI 0), .int (iI 1)])), (xa1, .inl (k 0, 5, .inl (aI (upI (upI (upI (upI (upI aZ 0 0) 1 0) 2 10) 3 500) 4 0))))] s.heap.size = A at hD hE ⊢
  have hA : ∀ q : Nat, s.heap.size ≤ q → A q := fun q h => by rw [← hAe]; exact Or.inr h
  have hS : va_S A s.heap s.heap [] := va_S.rf
  obtain ⟨hK, hNw, hNc, hZs, hAO1, hAO2⟩ := id hE
  have hSF : CallFix p mI cO cX0_changeRule 4 s ([.ref h0, .int (iI 0), .int (iI xv)] : List Value).toArray woX0_changeRule RX0 := ⟨hx, hb, hml, hown, hts⟩
  have hl := lv_entry ([.ref h0, .int (iI 0), .int (iI xv)] : List Value) (n := 4) (Nat.le_of_ble_eq_true rfl)
  rw [lg_entry_eq]
  generalize (lg_sl ([.ref h0, .int (iI 0), .int (iI xv)] : List Value) ++ List.replicate (4 - (lg_sl ([.ref h0, .int (iI 0), .int (iI xv)] : List Value)).length) Slot.unset).toArray = ls at hl ⊢
  have hl : lv_has ls 4 [(0, .ref h0), (1, .int (iI 0)), (2, .int (iI xv))] := hl
  refine W_gen (fun Q hQ => ?_)
  change W p l e ({ frames := 0, cells := 0, slots := 0, locals := 0 } : Room) s mI _ below meth cO s.heap [] 0 0 Q _
  have hP : va_P (dC, dI) vwCl [(h0, .inr (2, [.ref xa1, .ref xa2, .ref xa3, .ref xa5, .ref xa8, .int (iI 0), .int (iI 0), .int (iI 1)])), (xa1, .inl (k 0, 5, .inl (aI (upI (upI (upI (upI (upI aZ 0 0) 1 0) 2 10) 3 500) 4 0))))] s.heap := hP
  refine lv_iload_n hx hb dX0_changeRule_0 rfl (lv_at hl 1 rfl) ?_
  refine q_if_lt (tgt := 13) hx hb dX0_changeRule_1 (by decide) (by omega) (fun q => absurd q (by omega)) (fun _ => ?_)
  refine lv_iload_n hx hb dX0_changeRule_4 rfl (lv_at hl 1 rfl) ?_
  refine lv_aload_n hx hb dX0_changeRule_5 rfl (lv_at hl 0 rfl) ?_
  refine va_get (D := (dC, dI)) (ci := 2) (v := .ref xa1) (C := RX0) (T := TX0) (N := 8) hx hb hts (fun _ h => List.mem_cons_of_mem _ (inlX0 _ h)) hown hK hP 0 rfl rfl 0 (by decide) (hts (.fieldLink RX0 9 "LoanServicing$Account" "rules" "[I") (List.mem_cons_of_mem _ (wl_2 (List.mem_of_getElem? (i := 20) rfl)))) (fun _ h9 => h9) rfl dX0_changeRule_6 ?_
  refine va_alen (v := iI 5) hx hb hK hP 1 0 rfl rfl (show Int32.ofNat 5 = iI 5 from by decide) dX0_changeRule_9 ?_
  refine q_icmp_lt (tgt := 15) hx hb dX0_changeRule_10 (by decide) (by omega) (fun _ => ?_) (fun q => absurd q (by omega))
  refine lv_aload_n hx hb dX0_changeRule_15 rfl (lv_at hl 0 rfl) ?_
  refine va_get (D := (dC, dI)) (ci := 2) (v := .ref xa1) (C := RX0) (T := TX0) (N := 8) hx hb hts (fun _ h => List.mem_cons_of_mem _ (inlX0 _ h)) hown hK hP 0 rfl rfl 0 (by decide) (hts (.fieldLink RX0 9 "LoanServicing$Account" "rules" "[I") (List.mem_cons_of_mem _ (wl_2 (List.mem_of_getElem? (i := 20) rfl)))) (fun _ h9 => h9) rfl dX0_changeRule_16 ?_
  refine lv_iload_n hx hb dX0_changeRule_19 rfl (lv_at hl 1 rfl) ?_
  refine q_iald (z := 0) hx hb hK hP 1 0 rfl rfl (by omega) rfl dX0_changeRule_20 ?_
  refine lv_istore_n (lv' := [(3, .int (iI 0)), (0, .ref h0), (1, .int (iI 0)), (2, .int (iI xv))]) hx hb dX0_changeRule_21 rfl hl (by decide) rfl (fun ls hl => ?_)
  refine lv_aload_n hx hb dX0_changeRule_22 rfl (lv_at hl 1 rfl) ?_
  refine va_get (D := (dC, dI)) (ci := 2) (v := .ref xa1) (C := RX0) (T := TX0) (N := 8) hx hb hts (fun _ h => List.mem_cons_of_mem _ (inlX0 _ h)) hown hK hP 0 rfl rfl 0 (by decide) (hts (.fieldLink RX0 9 "LoanServicing$Account" "rules" "[I") (List.mem_cons_of_mem _ (wl_2 (List.mem_of_getElem? (i := 20) rfl)))) (fun _ h9 => h9) rfl dX0_changeRule_23 ?_
  refine lv_iload_n hx hb dX0_changeRule_26 rfl (lv_at hl 2 rfl) ?_
  refine lv_iload_n hx hb dX0_changeRule_27 rfl (lv_at hl 3 rfl) ?_
  refine q_iast (G := (upI (upI (upI (upI (upI (upI aZ 0 0) 1 0) 2 10) 3 500) 4 0) 0 xv)) hx hb hK hP hD hS 1 0 rfl rfl (by omega) rfl dX0_changeRule_28 (fun H locs hP hD hS => ?_)
  have hP : va_P (dC, dI) vwCl [(h0, .inr (2, [.ref xa1, .ref xa2, .ref xa3, .ref xa5, .ref xa8, .int (iI 0), .int (iI 0), .int (iI 1)])), (xa1, .inl (k 0, 5, .inl (aI (upI (upI (upI (upI (upI (upI aZ 0 0) 1 0) 2 10) 3 500) 4 0) 0 xv))))] H := hP
  have hD : va_D A [(h0, .inr (2, [.ref xa1, .ref xa2, .ref xa3, .ref xa5, .ref xa8, .int (iI 0), .int (iI 0), .int (iI 1)])), (xa1, .inl (k 0, 5, .inl (aI (upI (upI (upI (upI (upI (upI aZ 0 0) 1 0) 2 10) 3 500) 4 0) 0 xv))))] := hD
  refine lv_iload_n hx hb dX0_changeRule_29 rfl (lv_at hl 0 rfl) ?_
  rw [hQ]
  refine W.widen (k := 0) (n := 0) (Nat.le_of_ble_eq_true rfl) (Nat.le_of_ble_eq_true rfl) ?_
  exact W.iret (v := (iI 0)) hx hb hr (fun t ht hW => ⟨⟨(iI 0), (), rfl, rfl, by rw [ht]; exact hP.sub [] rfl, by rw [hAe]; exact hD.sub [] (by decide) rfl⟩, hS.F ht⟩) hS.2.2 dX0_changeRule_30
set_option maxHeartbeats 4000000 in
set_option maxRecDepth 100000 in
/-- changeRule 1, at first -/
theorem c_X0_changeRule_1 (l : Launch) (dC : Nat → ClassId) (dI : Nat → Nat → Nat) (k : Nat → ClassId) (h0 xa1 xa2 xa3 xa4 xa5 xa6 xa7 xa8 xa9 xa10 xa11 : Nat) (xv : Int) (sz : Nat) : Met l yX0_changeRule woX0_changeRule ({ frames := 0, cells := 0, slots := 0, locals := 0 } : Room) (PcW (dC, dI) k [.ref h0, .int (iI 1), .int (iI xv)] [(h0, .inr (2, [.ref xa1, .ref xa2, .ref xa3, .ref xa5, .ref xa8, .int (iI 0), .int (iI 0), .int (iI 1)])), (xa1, .inl (k 0, 5, .inl (aI (upI (upI (upI (upI (upI aZ 0 0) 1 0) 2 10) 3 500) 4 0))))] sz) (va_Qi (fun (r : Int32) (_ : Unit) => r = iI 0) (QB (dC, dI) [(h0, .inr (2, [.ref xa1, .ref xa2, .ref xa3, .ref xa5, .ref xa8, .int (iI 0), .int (iI 0), .int (iI 1)])), (xa1, .inl (k 0, 5, .inl (aI (upI (upI (upI (upI (upI aZ 0 0) 1 0) 2 10) 3 500) 4 0))))] (fun _ => []) sz) (va_A [(h0, .inr (2, [.ref xa1, .ref xa2, .ref xa3, .ref xa5, .ref xa8, .int (iI 0), .int (iI 0), .int (iI 1)])), (xa1, .inl (k 0, 5, .inl (aI (upI (upI (upI (upI (upI aZ 0 0) 1 0) 2 10) 3 500) 4 0))))] sz)) 0 0 (va_A [(h0, .inr (2, [.ref xa1, .ref xa2, .ref xa3, .ref xa5, .ref xa8, .int (iI 0), .int (iI 0), .int (iI 1)])), (xa1, .inl (k 0, 5, .inl (aI (upI (upI (upI (upI (upI aZ 0 0) 1 0) 2 10) 3 500) 4 0))))] sz) := by
  refine Met.ofW (cc := cX0_changeRule) (maxL := 4) (ret := (some .int)) (by decide) rfl ?_
  intro p e s mI args below meth cO s₁ B hml hv
  obtain ⟨rfl, rfl, hP, hD0, hE⟩ := hv
  have hx := B.exec
  have hb := B.bytes
  have hr := B.returns
  have hts := atoms_spec (ws := woX0_changeRule) B.pre
  have hown : s.vm.findClass RX0 = some mI.cls := findClass_of_methodNamed B.named
  have hlocks := B.notSynchronized
  have hD := hD0.self (sz := s.heap.size)
  generalize hAe : va_A [(h0, .inr (2, [.ref xa1, .ref xa2, .ref xa3, .ref xa5, .ref xa8, .int (iI 0), .int (iI 0), .int (iI 1)])), (xa1, .inl (k 0, 5, .inl (aI (upI (upI (upI (upI (upI aZ 0 0) 1 0) 2 10) 3 500) 4 0))))] s.heap.size = A at hD hE ⊢
  have hA : ∀ q : Nat, s.heap.size ≤ q → A q := fun q h => by rw [← hAe]; exact Or.inr h
  have hS : va_S A s.heap s.heap [] := va_S.rf
  obtain ⟨hK, hNw, hNc, hZs, hAO1, hAO2⟩ := id hE
  have hSF : CallFix p mI cO cX0_changeRule 4 s ([.ref h0, .int (iI 1), .int (iI xv)] : List Value).toArray woX0_changeRule RX0 := ⟨hx, hb, hml, hown, hts⟩
  have hl := lv_entry ([.ref h0, .int (iI 1), .int (iI xv)] : List Value) (n := 4) (Nat.le_of_ble_eq_true rfl)
  rw [lg_entry_eq]
  generalize (lg_sl ([.ref h0, .int (iI 1), .int (iI xv)] : List Value) ++ List.replicate (4 - (lg_sl ([.ref h0, .int (iI 1), .int (iI xv)] : List Value)).length) Slot.unset).toArray = ls at hl ⊢
  have hl : lv_has ls 4 [(0, .ref h0), (1, .int (iI 1)), (2, .int (iI xv))] := hl
  refine W_gen (fun Q hQ => ?_)
  change W p l e ({ frames := 0, cells := 0, slots := 0, locals := 0 } : Room) s mI _ below meth cO s.heap [] 0 0 Q _
  have hP : va_P (dC, dI) vwCl [(h0, .inr (2, [.ref xa1, .ref xa2, .ref xa3, .ref xa5, .ref xa8, .int (iI 0), .int (iI 0), .int (iI 1)])), (xa1, .inl (k 0, 5, .inl (aI (upI (upI (upI (upI (upI aZ 0 0) 1 0) 2 10) 3 500) 4 0))))] s.heap := hP
  refine lv_iload_n hx hb dX0_changeRule_0 rfl (lv_at hl 1 rfl) ?_
  refine q_if_lt (tgt := 13) hx hb dX0_changeRule_1 (by decide) (by omega) (fun q => absurd q (by omega)) (fun _ => ?_)
  refine lv_iload_n hx hb dX0_changeRule_4 rfl (lv_at hl 1 rfl) ?_
  refine lv_aload_n hx hb dX0_changeRule_5 rfl (lv_at hl 0 rfl) ?_
  refine va_get (D := (dC, dI)) (ci := 2) (v := .ref xa1) (C := RX0) (T := TX0) (N := 8) hx hb hts (fun _ h => List.mem_cons_of_mem _ (inlX0 _ h)) hown hK hP 0 rfl rfl 0 (by decide) (hts (.fieldLink RX0 9 "LoanServicing$Account" "rules" "[I") (List.mem_cons_of_mem _ (wl_2 (List.mem_of_getElem? (i := 20) rfl)))) (fun _ h9 => h9) rfl dX0_changeRule_6 ?_
  refine va_alen (v := iI 5) hx hb hK hP 1 0 rfl rfl (show Int32.ofNat 5 = iI 5 from by decide) dX0_changeRule_9 ?_
  refine q_icmp_lt (tgt := 15) hx hb dX0_changeRule_10 (by decide) (by omega) (fun _ => ?_) (fun q => absurd q (by omega))
  refine lv_aload_n hx hb dX0_changeRule_15 rfl (lv_at hl 0 rfl) ?_
  refine va_get (D := (dC, dI)) (ci := 2) (v := .ref xa1) (C := RX0) (T := TX0) (N := 8) hx hb hts (fun _ h => List.mem_cons_of_mem _ (inlX0 _ h)) hown hK hP 0 rfl rfl 0 (by decide) (hts (.fieldLink RX0 9 "LoanServicing$Account" "rules" "[I") (List.mem_cons_of_mem _ (wl_2 (List.mem_of_getElem? (i := 20) rfl)))) (fun _ h9 => h9) rfl dX0_changeRule_16 ?_
  refine lv_iload_n hx hb dX0_changeRule_19 rfl (lv_at hl 1 rfl) ?_
  refine q_iald (z := 0) hx hb hK hP 1 0 rfl rfl (by omega) rfl dX0_changeRule_20 ?_
  refine lv_istore_n (lv' := [(3, .int (iI 0)), (0, .ref h0), (1, .int (iI 1)), (2, .int (iI xv))]) hx hb dX0_changeRule_21 rfl hl (by decide) rfl (fun ls hl => ?_)
  refine lv_aload_n hx hb dX0_changeRule_22 rfl (lv_at hl 1 rfl) ?_
  refine va_get (D := (dC, dI)) (ci := 2) (v := .ref xa1) (C := RX0) (T := TX0) (N := 8) hx hb hts (fun _ h => List.mem_cons_of_mem _ (inlX0 _ h)) hown hK hP 0 rfl rfl 0 (by decide) (hts (.fieldLink RX0 9 "LoanServicing$Account" "rules" "[I") (List.mem_cons_of_mem _ (wl_2 (List.mem_of_getElem? (i := 20) rfl)))) (fun _ h9 => h9) rfl dX0_changeRule_23 ?_
  refine lv_iload_n hx hb dX0_changeRule_26 rfl (lv_at hl 2 rfl) ?_
  refine lv_iload_n hx hb dX0_changeRule_27 rfl (lv_at hl 3 rfl) ?_
  refine q_iast (G := (upI (upI (upI (upI (upI (upI aZ 0 0) 1 0) 2 10) 3 500) 4 0) 1 xv)) hx hb hK hP hD hS 1 0 rfl rfl (by omega) rfl dX0_changeRule_28 (fun H locs hP hD hS => ?_)
  have hP : va_P (dC, dI) vwCl [(h0, .inr (2, [.ref xa1, .ref xa2, .ref xa3, .ref xa5, .ref xa8, .int (iI 0), .int (iI 0), .int (iI 1)])), (xa1, .inl (k 0, 5, .inl (aI (upI (upI (upI (upI (upI (upI aZ 0 0) 1 0) 2 10) 3 500) 4 0) 1 xv))))] H := hP
  have hD : va_D A [(h0, .inr (2, [.ref xa1, .ref xa2, .ref xa3, .ref xa5, .ref xa8, .int (iI 0), .int (iI 0), .int (iI 1)])), (xa1, .inl (k 0, 5, .inl (aI (upI (upI (upI (upI (upI (upI aZ 0 0) 1 0) 2 10) 3 500) 4 0) 1 xv))))] := hD
  refine lv_iload_n hx hb dX0_changeRule_29 rfl (lv_at hl 0 rfl) ?_
  rw [hQ]
  refine W.widen (k := 0) (n := 0) (Nat.le_of_ble_eq_true rfl) (Nat.le_of_ble_eq_true rfl) ?_
  exact W.iret (v := (iI 0)) hx hb hr (fun t ht hW => ⟨⟨(iI 0), (), rfl, rfl, by rw [ht]; exact hP.sub [] rfl, by rw [hAe]; exact hD.sub [] (by decide) rfl⟩, hS.F ht⟩) hS.2.2 dX0_changeRule_30
set_option maxHeartbeats 4000000 in
set_option maxRecDepth 100000 in
/-- changeRule 2, at first -/
theorem c_X0_changeRule_2 (l : Launch) (dC : Nat → ClassId) (dI : Nat → Nat → Nat) (k : Nat → ClassId) (h0 xa1 xa2 xa3 xa4 xa5 xa6 xa7 xa8 xa9 xa10 xa11 : Nat) (xv : Int) (sz : Nat) : Met l yX0_changeRule woX0_changeRule ({ frames := 0, cells := 0, slots := 0, locals := 0 } : Room) (PcW (dC, dI) k [.ref h0, .int (iI 2), .int (iI xv)] [(h0, .inr (2, [.ref xa1, .ref xa2, .ref xa3, .ref xa5, .ref xa8, .int (iI 0), .int (iI 0), .int (iI 1)])), (xa1, .inl (k 0, 5, .inl (aI (upI (upI (upI (upI (upI aZ 0 0) 1 0) 2 10) 3 500) 4 0))))] sz) (va_Qi (fun (r : Int32) (_ : Unit) => r = iI 10) (QB (dC, dI) [(h0, .inr (2, [.ref xa1, .ref xa2, .ref xa3, .ref xa5, .ref xa8, .int (iI 0), .int (iI 0), .int (iI 1)])), (xa1, .inl (k 0, 5, .inl (aI (upI (upI (upI (upI (upI aZ 0 0) 1 0) 2 10) 3 500) 4 0))))] (fun _ => []) sz) (va_A [(h0, .inr (2, [.ref xa1, .ref xa2, .ref xa3, .ref xa5, .ref xa8, .int (iI 0), .int (iI 0), .int (iI 1)])), (xa1, .inl (k 0, 5, .inl (aI (upI (upI (upI (upI (upI aZ 0 0) 1 0) 2 10) 3 500) 4 0))))] sz)) 0 0 (va_A [(h0, .inr (2, [.ref xa1, .ref xa2, .ref xa3, .ref xa5, .ref xa8, .int (iI 0), .int (iI 0), .int (iI 1)])), (xa1, .inl (k 0, 5, .inl (aI (upI (upI (upI (upI (upI aZ 0 0) 1 0) 2 10) 3 500) 4 0))))] sz) := by
  refine Met.ofW (cc := cX0_changeRule) (maxL := 4) (ret := (some .int)) (by decide) rfl ?_
  intro p e s mI args below meth cO s₁ B hml hv
  obtain ⟨rfl, rfl, hP, hD0, hE⟩ := hv
  have hx := B.exec
  have hb := B.bytes
  have hr := B.returns
  have hts := atoms_spec (ws := woX0_changeRule) B.pre
  have hown : s.vm.findClass RX0 = some mI.cls := findClass_of_methodNamed B.named
  have hlocks := B.notSynchronized
  have hD := hD0.self (sz := s.heap.size)
  generalize hAe : va_A [(h0, .inr (2, [.ref xa1, .ref xa2, .ref xa3, .ref xa5, .ref xa8, .int (iI 0), .int (iI 0), .int (iI 1)])), (xa1, .inl (k 0, 5, .inl (aI (upI (upI (upI (upI (upI aZ 0 0) 1 0) 2 10) 3 500) 4 0))))] s.heap.size = A at hD hE ⊢
  have hA : ∀ q : Nat, s.heap.size ≤ q → A q := fun q h => by rw [← hAe]; exact Or.inr h
  have hS : va_S A s.heap s.heap [] := va_S.rf
  obtain ⟨hK, hNw, hNc, hZs, hAO1, hAO2⟩ := id hE
  have hSF : CallFix p mI cO cX0_changeRule 4 s ([.ref h0, .int (iI 2), .int (iI xv)] : List Value).toArray woX0_changeRule RX0 := ⟨hx, hb, hml, hown, hts⟩
  have hl := lv_entry ([.ref h0, .int (iI 2), .int (iI xv)] : List Value) (n := 4) (Nat.le_of_ble_eq_true rfl)
  rw [lg_entry_eq]
  generalize (lg_sl ([.ref h0, .int (iI 2), .int (iI xv)] : List Value) ++ List.replicate (4 - (lg_sl ([.ref h0, .int (iI 2), .int (iI xv)] : List Value)).length) Slot.unset).toArray = ls at hl ⊢
  have hl : lv_has ls 4 [(0, .ref h0), (1, .int (iI 2)), (2, .int (iI xv))] := hl
  refine W_gen (fun Q hQ => ?_)
  change W p l e ({ frames := 0, cells := 0, slots := 0, locals := 0 } : Room) s mI _ below meth cO s.heap [] 0 0 Q _
  have hP : va_P (dC, dI) vwCl [(h0, .inr (2, [.ref xa1, .ref xa2, .ref xa3, .ref xa5, .ref xa8, .int (iI 0), .int (iI 0), .int (iI 1)])), (xa1, .inl (k 0, 5, .inl (aI (upI (upI (upI (upI (upI aZ 0 0) 1 0) 2 10) 3 500) 4 0))))] s.heap := hP
  refine lv_iload_n hx hb dX0_changeRule_0 rfl (lv_at hl 1 rfl) ?_
  refine q_if_lt (tgt := 13) hx hb dX0_changeRule_1 (by decide) (by omega) (fun q => absurd q (by omega)) (fun _ => ?_)
  refine lv_iload_n hx hb dX0_changeRule_4 rfl (lv_at hl 1 rfl) ?_
  refine lv_aload_n hx hb dX0_changeRule_5 rfl (lv_at hl 0 rfl) ?_
  refine va_get (D := (dC, dI)) (ci := 2) (v := .ref xa1) (C := RX0) (T := TX0) (N := 8) hx hb hts (fun _ h => List.mem_cons_of_mem _ (inlX0 _ h)) hown hK hP 0 rfl rfl 0 (by decide) (hts (.fieldLink RX0 9 "LoanServicing$Account" "rules" "[I") (List.mem_cons_of_mem _ (wl_2 (List.mem_of_getElem? (i := 20) rfl)))) (fun _ h9 => h9) rfl dX0_changeRule_6 ?_
  refine va_alen (v := iI 5) hx hb hK hP 1 0 rfl rfl (show Int32.ofNat 5 = iI 5 from by decide) dX0_changeRule_9 ?_
  refine q_icmp_lt (tgt := 15) hx hb dX0_changeRule_10 (by decide) (by omega) (fun _ => ?_) (fun q => absurd q (by omega))
  refine lv_aload_n hx hb dX0_changeRule_15 rfl (lv_at hl 0 rfl) ?_
  refine va_get (D := (dC, dI)) (ci := 2) (v := .ref xa1) (C := RX0) (T := TX0) (N := 8) hx hb hts (fun _ h => List.mem_cons_of_mem _ (inlX0 _ h)) hown hK hP 0 rfl rfl 0 (by decide) (hts (.fieldLink RX0 9 "LoanServicing$Account" "rules" "[I") (List.mem_cons_of_mem _ (wl_2 (List.mem_of_getElem? (i := 20) rfl)))) (fun _ h9 => h9) rfl dX0_changeRule_16 ?_
  refine lv_iload_n hx hb dX0_changeRule_19 rfl (lv_at hl 1 rfl) ?_
  refine q_iald (z := 10) hx hb hK hP 1 0 rfl rfl (by omega) rfl dX0_changeRule_20 ?_
  refine lv_istore_n (lv' := [(3, .int (iI 10)), (0, .ref h0), (1, .int (iI 2)), (2, .int (iI xv))]) hx hb dX0_changeRule_21 rfl hl (by decide) rfl (fun ls hl => ?_)
  refine lv_aload_n hx hb dX0_changeRule_22 rfl (lv_at hl 1 rfl) ?_
  refine va_get (D := (dC, dI)) (ci := 2) (v := .ref xa1) (C := RX0) (T := TX0) (N := 8) hx hb hts (fun _ h => List.mem_cons_of_mem _ (inlX0 _ h)) hown hK hP 0 rfl rfl 0 (by decide) (hts (.fieldLink RX0 9 "LoanServicing$Account" "rules" "[I") (List.mem_cons_of_mem _ (wl_2 (List.mem_of_getElem? (i := 20) rfl)))) (fun _ h9 => h9) rfl dX0_changeRule_23 ?_
  refine lv_iload_n hx hb dX0_changeRule_26 rfl (lv_at hl 2 rfl) ?_
  refine lv_iload_n hx hb dX0_changeRule_27 rfl (lv_at hl 3 rfl) ?_
  refine q_iast (G := (upI (upI (upI (upI (upI (upI aZ 0 0) 1 0) 2 10) 3 500) 4 0) 2 xv)) hx hb hK hP hD hS 1 0 rfl rfl (by omega) rfl dX0_changeRule_28 (fun H locs hP hD hS => ?_)
  have hP : va_P (dC, dI) vwCl [(h0, .inr (2, [.ref xa1, .ref xa2, .ref xa3, .ref xa5, .ref xa8, .int (iI 0), .int (iI 0), .int (iI 1)])), (xa1, .inl (k 0, 5, .inl (aI (upI (upI (upI (upI (upI (upI aZ 0 0) 1 0) 2 10) 3 500) 4 0) 2 xv))))] H := hP
  have hD : va_D A [(h0, .inr (2, [.ref xa1, .ref xa2, .ref xa3, .ref xa5, .ref xa8, .int (iI 0), .int (iI 0), .int (iI 1)])), (xa1, .inl (k 0, 5, .inl (aI (upI (upI (upI (upI (upI (upI aZ 0 0) 1 0) 2 10) 3 500) 4 0) 2 xv))))] := hD
  refine lv_iload_n hx hb dX0_changeRule_29 rfl (lv_at hl 0 rfl) ?_
  rw [hQ]
  refine W.widen (k := 0) (n := 0) (Nat.le_of_ble_eq_true rfl) (Nat.le_of_ble_eq_true rfl) ?_
  exact W.iret (v := (iI 10)) hx hb hr (fun t ht hW => ⟨⟨(iI 10), (), rfl, rfl, by rw [ht]; exact hP.sub [] rfl, by rw [hAe]; exact hD.sub [] (by decide) rfl⟩, hS.F ht⟩) hS.2.2 dX0_changeRule_30
set_option maxHeartbeats 4000000 in
set_option maxRecDepth 100000 in
/-- changeRule 3, at first -/
theorem c_X0_changeRule_3 (l : Launch) (dC : Nat → ClassId) (dI : Nat → Nat → Nat) (k : Nat → ClassId) (h0 xa1 xa2 xa3 xa4 xa5 xa6 xa7 xa8 xa9 xa10 xa11 : Nat) (xv : Int) (sz : Nat) : Met l yX0_changeRule woX0_changeRule ({ frames := 0, cells := 0, slots := 0, locals := 0 } : Room) (PcW (dC, dI) k [.ref h0, .int (iI 3), .int (iI xv)] [(h0, .inr (2, [.ref xa1, .ref xa2, .ref xa3, .ref xa5, .ref xa8, .int (iI 0), .int (iI 0), .int (iI 1)])), (xa1, .inl (k 0, 5, .inl (aI (upI (upI (upI (upI (upI aZ 0 0) 1 0) 2 10) 3 500) 4 0))))] sz) (va_Qi (fun (r : Int32) (_ : Unit) => r = iI 500) (QB (dC, dI) [(h0, .inr (2, [.ref xa1, .ref xa2, .ref xa3, .ref xa5, .ref xa8, .int (iI 0), .int (iI 0), .int (iI 1)])), (xa1, .inl (k 0, 5, .inl (aI (upI (upI (upI (upI (upI aZ 0 0) 1 0) 2 10) 3 500) 4 0))))] (fun _ => []) sz) (va_A [(h0, .inr (2, [.ref xa1, .ref xa2, .ref xa3, .ref xa5, .ref xa8, .int (iI 0), .int (iI 0), .int (iI 1)])), (xa1, .inl (k 0, 5, .inl (aI (upI (upI (upI (upI (upI aZ 0 0) 1 0) 2 10) 3 500) 4 0))))] sz)) 0 0 (va_A [(h0, .inr (2, [.ref xa1, .ref xa2, .ref xa3, .ref xa5, .ref xa8, .int (iI 0), .int (iI 0), .int (iI 1)])), (xa1, .inl (k 0, 5, .inl (aI (upI (upI (upI (upI (upI aZ 0 0) 1 0) 2 10) 3 500) 4 0))))] sz) := by
  refine Met.ofW (cc := cX0_changeRule) (maxL := 4) (ret := (some .int)) (by decide) rfl ?_
  intro p e s mI args below meth cO s₁ B hml hv
  obtain ⟨rfl, rfl, hP, hD0, hE⟩ := hv
  have hx := B.exec
  have hb := B.bytes
  have hr := B.returns
  have hts := atoms_spec (ws := woX0_changeRule) B.pre
  have hown : s.vm.findClass RX0 = some mI.cls := findClass_of_methodNamed B.named
  have hlocks := B.notSynchronized
  have hD := hD0.self (sz := s.heap.size)
  generalize hAe : va_A [(h0, .inr (2, [.ref xa1, .ref xa2, .ref xa3, .ref xa5, .ref xa8, .int (iI 0), .int (iI 0), .int (iI 1)])), (xa1, .inl (k 0, 5, .inl (aI (upI (upI (upI (upI (upI aZ 0 0) 1 0) 2 10) 3 500) 4 0))))] s.heap.size = A at hD hE ⊢
  have hA : ∀ q : Nat, s.heap.size ≤ q → A q := fun q h => by rw [← hAe]; exact Or.inr h
  have hS : va_S A s.heap s.heap [] := va_S.rf
  obtain ⟨hK, hNw, hNc, hZs, hAO1, hAO2⟩ := id hE
  have hSF : CallFix p mI cO cX0_changeRule 4 s ([.ref h0, .int (iI 3), .int (iI xv)] : List Value).toArray woX0_changeRule RX0 := ⟨hx, hb, hml, hown, hts⟩
  have hl := lv_entry ([.ref h0, .int (iI 3), .int (iI xv)] : List Value) (n := 4) (Nat.le_of_ble_eq_true rfl)
  rw [lg_entry_eq]
  generalize (lg_sl ([.ref h0, .int (iI 3), .int (iI xv)] : List Value) ++ List.replicate (4 - (lg_sl ([.ref h0, .int (iI 3), .int (iI xv)] : List Value)).length) Slot.unset).toArray = ls at hl ⊢
  have hl : lv_has ls 4 [(0, .ref h0), (1, .int (iI 3)), (2, .int (iI xv))] := hl
  refine W_gen (fun Q hQ => ?_)
  change W p l e ({ frames := 0, cells := 0, slots := 0, locals := 0 } : Room) s mI _ below meth cO s.heap [] 0 0 Q _
  have hP : va_P (dC, dI) vwCl [(h0, .inr (2, [.ref xa1, .ref xa2, .ref xa3, .ref xa5, .ref xa8, .int (iI 0), .int (iI 0), .int (iI 1)])), (xa1, .inl (k 0, 5, .inl (aI (upI (upI (upI (upI (upI aZ 0 0) 1 0) 2 10) 3 500) 4 0))))] s.heap := hP
  refine lv_iload_n hx hb dX0_changeRule_0 rfl (lv_at hl 1 rfl) ?_
  refine q_if_lt (tgt := 13) hx hb dX0_changeRule_1 (by decide) (by omega) (fun q => absurd q (by omega)) (fun _ => ?_)
  refine lv_iload_n hx hb dX0_changeRule_4 rfl (lv_at hl 1 rfl) ?_
  refine lv_aload_n hx hb dX0_changeRule_5 rfl (lv_at hl 0 rfl) ?_
  refine va_get (D := (dC, dI)) (ci := 2) (v := .ref xa1) (C := RX0) (T := TX0) (N := 8) hx hb hts (fun _ h => List.mem_cons_of_mem _ (inlX0 _ h)) hown hK hP 0 rfl rfl 0 (by decide) (hts (.fieldLink RX0 9 "LoanServicing$Account" "rules" "[I") (List.mem_cons_of_mem _ (wl_2 (List.mem_of_getElem? (i := 20) rfl)))) (fun _ h9 => h9) rfl dX0_changeRule_6 ?_
  refine va_alen (v := iI 5) hx hb hK hP 1 0 rfl rfl (show Int32.ofNat 5 = iI 5 from by decide) dX0_changeRule_9 ?_
  refine q_icmp_lt (tgt := 15) hx hb dX0_changeRule_10 (by decide) (by omega) (fun _ => ?_) (fun q => absurd q (by omega))
  refine lv_aload_n hx hb dX0_changeRule_15 rfl (lv_at hl 0 rfl) ?_
  refine va_get (D := (dC, dI)) (ci := 2) (v := .ref xa1) (C := RX0) (T := TX0) (N := 8) hx hb hts (fun _ h => List.mem_cons_of_mem _ (inlX0 _ h)) hown hK hP 0 rfl rfl 0 (by decide) (hts (.fieldLink RX0 9 "LoanServicing$Account" "rules" "[I") (List.mem_cons_of_mem _ (wl_2 (List.mem_of_getElem? (i := 20) rfl)))) (fun _ h9 => h9) rfl dX0_changeRule_16 ?_
  refine lv_iload_n hx hb dX0_changeRule_19 rfl (lv_at hl 1 rfl) ?_
  refine q_iald (z := 500) hx hb hK hP 1 0 rfl rfl (by omega) rfl dX0_changeRule_20 ?_
  refine lv_istore_n (lv' := [(3, .int (iI 500)), (0, .ref h0), (1, .int (iI 3)), (2, .int (iI xv))]) hx hb dX0_changeRule_21 rfl hl (by decide) rfl (fun ls hl => ?_)
  refine lv_aload_n hx hb dX0_changeRule_22 rfl (lv_at hl 1 rfl) ?_
  refine va_get (D := (dC, dI)) (ci := 2) (v := .ref xa1) (C := RX0) (T := TX0) (N := 8) hx hb hts (fun _ h => List.mem_cons_of_mem _ (inlX0 _ h)) hown hK hP 0 rfl rfl 0 (by decide) (hts (.fieldLink RX0 9 "LoanServicing$Account" "rules" "[I") (List.mem_cons_of_mem _ (wl_2 (List.mem_of_getElem? (i := 20) rfl)))) (fun _ h9 => h9) rfl dX0_changeRule_23 ?_
  refine lv_iload_n hx hb dX0_changeRule_26 rfl (lv_at hl 2 rfl) ?_
  refine lv_iload_n hx hb dX0_changeRule_27 rfl (lv_at hl 3 rfl) ?_
  refine q_iast (G := (upI (upI (upI (upI (upI (upI aZ 0 0) 1 0) 2 10) 3 500) 4 0) 3 xv)) hx hb hK hP hD hS 1 0 rfl rfl (by omega) rfl dX0_changeRule_28 (fun H locs hP hD hS => ?_)
  have hP : va_P (dC, dI) vwCl [(h0, .inr (2, [.ref xa1, .ref xa2, .ref xa3, .ref xa5, .ref xa8, .int (iI 0), .int (iI 0), .int (iI 1)])), (xa1, .inl (k 0, 5, .inl (aI (upI (upI (upI (upI (upI (upI aZ 0 0) 1 0) 2 10) 3 500) 4 0) 3 xv))))] H := hP
  have hD : va_D A [(h0, .inr (2, [.ref xa1, .ref xa2, .ref xa3, .ref xa5, .ref xa8, .int (iI 0), .int (iI 0), .int (iI 1)])), (xa1, .inl (k 0, 5, .inl (aI (upI (upI (upI (upI (upI (upI aZ 0 0) 1 0) 2 10) 3 500) 4 0) 3 xv))))] := hD
  refine lv_iload_n hx hb dX0_changeRule_29 rfl (lv_at hl 0 rfl) ?_
  rw [hQ]
  refine W.widen (k := 0) (n := 0) (Nat.le_of_ble_eq_true rfl) (Nat.le_of_ble_eq_true rfl) ?_
  exact W.iret (v := (iI 500)) hx hb hr (fun t ht hW => ⟨⟨(iI 500), (), rfl, rfl, by rw [ht]; exact hP.sub [] rfl, by rw [hAe]; exact hD.sub [] (by decide) rfl⟩, hS.F ht⟩) hS.2.2 dX0_changeRule_30
set_option maxHeartbeats 4000000 in
set_option maxRecDepth 100000 in
/-- changeRule 4, at first -/
theorem c_X0_changeRule_4 (l : Launch) (dC : Nat → ClassId) (dI : Nat → Nat → Nat) (k : Nat → ClassId) (h0 xa1 xa2 xa3 xa4 xa5 xa6 xa7 xa8 xa9 xa10 xa11 : Nat) (xv : Int) (sz : Nat) : Met l yX0_changeRule woX0_changeRule ({ frames := 0, cells := 0, slots := 0, locals := 0 } : Room) (PcW (dC, dI) k [.ref h0, .int (iI 4), .int (iI xv)] [(h0, .inr (2, [.ref xa1, .ref xa2, .ref xa3, .ref xa5, .ref xa8, .int (iI 0), .int (iI 0), .int (iI 1)])), (xa1, .inl (k 0, 5, .inl (aI (upI (upI (upI (upI (upI aZ 0 0) 1 0) 2 10) 3 500) 4 0))))] sz) (va_Qi (fun (r : Int32) (_ : Unit) => r = iI 0) (QB (dC, dI) [(h0, .inr (2, [.ref xa1, .ref xa2, .ref xa3, .ref xa5, .ref xa8, .int (iI 0), .int (iI 0), .int (iI 1)])), (xa1, .inl (k 0, 5, .inl (aI (upI (upI (upI (upI (upI aZ 0 0) 1 0) 2 10) 3 500) 4 0))))] (fun _ => []) sz) (va_A [(h0, .inr (2, [.ref xa1, .ref xa2, .ref xa3, .ref xa5, .ref xa8, .int (iI 0), .int (iI 0), .int (iI 1)])), (xa1, .inl (k 0, 5, .inl (aI (upI (upI (upI (upI (upI aZ 0 0) 1 0) 2 10) 3 500) 4 0))))] sz)) 0 0 (va_A [(h0, .inr (2, [.ref xa1, .ref xa2, .ref xa3, .ref xa5, .ref xa8, .int (iI 0), .int (iI 0), .int (iI 1)])), (xa1, .inl (k 0, 5, .inl (aI (upI (upI (upI (upI (upI aZ 0 0) 1 0) 2 10) 3 500) 4 0))))] sz) := by
  refine Met.ofW (cc := cX0_changeRule) (maxL := 4) (ret := (some .int)) (by decide) rfl ?_
  intro p e s mI args below meth cO s₁ B hml hv
  obtain ⟨rfl, rfl, hP, hD0, hE⟩ := hv
  have hx := B.exec
  have hb := B.bytes
  have hr := B.returns
  have hts := atoms_spec (ws := woX0_changeRule) B.pre
  have hown : s.vm.findClass RX0 = some mI.cls := findClass_of_methodNamed B.named
  have hlocks := B.notSynchronized
  have hD := hD0.self (sz := s.heap.size)
  generalize hAe : va_A [(h0, .inr (2, [.ref xa1, .ref xa2, .ref xa3, .ref xa5, .ref xa8, .int (iI 0), .int (iI 0), .int (iI 1)])), (xa1, .inl (k 0, 5, .inl (aI (upI (upI (upI (upI (upI aZ 0 0) 1 0) 2 10) 3 500) 4 0))))] s.heap.size = A at hD hE ⊢
  have hA : ∀ q : Nat, s.heap.size ≤ q → A q := fun q h => by rw [← hAe]; exact Or.inr h
  have hS : va_S A s.heap s.heap [] := va_S.rf
  obtain ⟨hK, hNw, hNc, hZs, hAO1, hAO2⟩ := id hE
  have hSF : CallFix p mI cO cX0_changeRule 4 s ([.ref h0, .int (iI 4), .int (iI xv)] : List Value).toArray woX0_changeRule RX0 := ⟨hx, hb, hml, hown, hts⟩
  have hl := lv_entry ([.ref h0, .int (iI 4), .int (iI xv)] : List Value) (n := 4) (Nat.le_of_ble_eq_true rfl)
  rw [lg_entry_eq]
  generalize (lg_sl ([.ref h0, .int (iI 4), .int (iI xv)] : List Value) ++ List.replicate (4 - (lg_sl ([.ref h0, .int (iI 4), .int (iI xv)] : List Value)).length) Slot.unset).toArray = ls at hl ⊢
  have hl : lv_has ls 4 [(0, .ref h0), (1, .int (iI 4)), (2, .int (iI xv))] := hl
  refine W_gen (fun Q hQ => ?_)
  change W p l e ({ frames := 0, cells := 0, slots := 0, locals := 0 } : Room) s mI _ below meth cO s.heap [] 0 0 Q _
  have hP : va_P (dC, dI) vwCl [(h0, .inr (2, [.ref xa1, .ref xa2, .ref xa3, .ref xa5, .ref xa8, .int (iI 0), .int (iI 0), .int (iI 1)])), (xa1, .inl (k 0, 5, .inl (aI (upI (upI (upI (upI (upI aZ 0 0) 1 0) 2 10) 3 500) 4 0))))] s.heap := hP
  refine lv_iload_n hx hb dX0_changeRule_0 rfl (lv_at hl 1 rfl) ?_
  refine q_if_lt (tgt := 13) hx hb dX0_changeRule_1 (by decide) (by omega) (fun q => absurd q (by omega)) (fun _ => ?_)
  refine lv_iload_n hx hb dX0_changeRule_4 rfl (lv_at hl 1 rfl) ?_
  refine lv_aload_n hx hb dX0_changeRule_5 rfl (lv_at hl 0 rfl) ?_
  refine va_get (D := (dC, dI)) (ci := 2) (v := .ref xa1) (C := RX0) (T := TX0) (N := 8) hx hb hts (fun _ h => List.mem_cons_of_mem _ (inlX0 _ h)) hown hK hP 0 rfl rfl 0 (by decide) (hts (.fieldLink RX0 9 "LoanServicing$Account" "rules" "[I") (List.mem_cons_of_mem _ (wl_2 (List.mem_of_getElem? (i := 20) rfl)))) (fun _ h9 => h9) rfl dX0_changeRule_6 ?_
  refine va_alen (v := iI 5) hx hb hK hP 1 0 rfl rfl (show Int32.ofNat 5 = iI 5 from by decide) dX0_changeRule_9 ?_
  refine q_icmp_lt (tgt := 15) hx hb dX0_changeRule_10 (by decide) (by omega) (fun _ => ?_) (fun q => absurd q (by omega))
  refine lv_aload_n hx hb dX0_changeRule_15 rfl (lv_at hl 0 rfl) ?_
  refine va_get (D := (dC, dI)) (ci := 2) (v := .ref xa1) (C := RX0) (T := TX0) (N := 8) hx hb hts (fun _ h => List.mem_cons_of_mem _ (inlX0 _ h)) hown hK hP 0 rfl rfl 0 (by decide) (hts (.fieldLink RX0 9 "LoanServicing$Account" "rules" "[I") (List.mem_cons_of_mem _ (wl_2 (List.mem_of_getElem? (i := 20) rfl)))) (fun _ h9 => h9) rfl dX0_changeRule_16 ?_
  refine lv_iload_n hx hb dX0_changeRule_19 rfl (lv_at hl 1 rfl) ?_
  refine q_iald (z := 0) hx hb hK hP 1 0 rfl rfl (by omega) rfl dX0_changeRule_20 ?_
  refine lv_istore_n (lv' := [(3, .int (iI 0)), (0, .ref h0), (1, .int (iI 4)), (2, .int (iI xv))]) hx hb dX0_changeRule_21 rfl hl (by decide) rfl (fun ls hl => ?_)
  refine lv_aload_n hx hb dX0_changeRule_22 rfl (lv_at hl 1 rfl) ?_
  refine va_get (D := (dC, dI)) (ci := 2) (v := .ref xa1) (C := RX0) (T := TX0) (N := 8) hx hb hts (fun _ h => List.mem_cons_of_mem _ (inlX0 _ h)) hown hK hP 0 rfl rfl 0 (by decide) (hts (.fieldLink RX0 9 "LoanServicing$Account" "rules" "[I") (List.mem_cons_of_mem _ (wl_2 (List.mem_of_getElem? (i := 20) rfl)))) (fun _ h9 => h9) rfl dX0_changeRule_23 ?_
  refine lv_iload_n hx hb dX0_changeRule_26 rfl (lv_at hl 2 rfl) ?_
  refine lv_iload_n hx hb dX0_changeRule_27 rfl (lv_at hl 3 rfl) ?_
  refine q_iast (G := (upI (upI (upI (upI (upI (upI aZ 0 0) 1 0) 2 10) 3 500) 4 0) 4 xv)) hx hb hK hP hD hS 1 0 rfl rfl (by omega) rfl dX0_changeRule_28 (fun H locs hP hD hS => ?_)
  have hP : va_P (dC, dI) vwCl [(h0, .inr (2, [.ref xa1, .ref xa2, .ref xa3, .ref xa5, .ref xa8, .int (iI 0), .int (iI 0), .int (iI 1)])), (xa1, .inl (k 0, 5, .inl (aI (upI (upI (upI (upI (upI (upI aZ 0 0) 1 0) 2 10) 3 500) 4 0) 4 xv))))] H := hP
  have hD : va_D A [(h0, .inr (2, [.ref xa1, .ref xa2, .ref xa3, .ref xa5, .ref xa8, .int (iI 0), .int (iI 0), .int (iI 1)])), (xa1, .inl (k 0, 5, .inl (aI (upI (upI (upI (upI (upI (upI aZ 0 0) 1 0) 2 10) 3 500) 4 0) 4 xv))))] := hD
  refine lv_iload_n hx hb dX0_changeRule_29 rfl (lv_at hl 0 rfl) ?_
  rw [hQ]
  refine W.widen (k := 0) (n := 0) (Nat.le_of_ble_eq_true rfl) (Nat.le_of_ble_eq_true rfl) ?_
  exact W.iret (v := (iI 0)) hx hb hr (fun t ht hW => ⟨⟨(iI 0), (), rfl, rfl, by rw [ht]; exact hP.sub [] rfl, by rw [hAe]; exact hD.sub [] (by decide) rfl⟩, hS.F ht⟩) hS.2.2 dX0_changeRule_30
set_option maxHeartbeats 4000000 in
set_option maxRecDepth 100000 in
/-- carryOut 0, at first -/
theorem c_X0_carryOut_0 (l : Launch) (dC : Nat → ClassId) (dI : Nat → Nat → Nat) (k : Nat → ClassId) (h0 hp xa1 xa2 xa3 xa4 xa5 xa6 xa7 xa8 xa9 xa10 xa11 : Nat) (xv : Int) (sz : Nat) : Met l yX0_carryOut woX0_carryOut ({ frames := 1, cells := 0, slots := 0, locals := 23 } : Room) (PcW (dC, dI) k [.ref h0, .int (iI 0), .int (iI xv), .ref hp, .int (iI 0)] [(h0, .inr (2, [.ref xa1, .ref xa2, .ref xa3, .ref xa5, .ref xa8, .int (iI 0), .int (iI 0), .int (iI 1)])), (xa1, .inl (k 0, 5, .inl (aI (upI (upI (upI (upI (upI aZ 0 0) 1 0) 2 10) 3 500) 4 0))))] sz) (va_Qi (fun (r : Int32) (_ : Unit) => r = iI 0) (QB (dC, dI) [(h0, .inr (2, [.ref xa1, .ref xa2, .ref xa3, .ref xa5, .ref xa8, .int (iI 0), .int (iI 0), .int (iI 1)])), (xa1, .inl (k 0, 5, .inl (aI (upI (upI (upI (upI (upI aZ 0 0) 1 0) 2 10) 3 500) 4 0))))] (fun _ => []) sz) (va_A [(h0, .inr (2, [.ref xa1, .ref xa2, .ref xa3, .ref xa5, .ref xa8, .int (iI 0), .int (iI 0), .int (iI 1)])), (xa1, .inl (k 0, 5, .inl (aI (upI (upI (upI (upI (upI aZ 0 0) 1 0) 2 10) 3 500) 4 0))))] sz)) 0 0 (va_A [(h0, .inr (2, [.ref xa1, .ref xa2, .ref xa3, .ref xa5, .ref xa8, .int (iI 0), .int (iI 0), .int (iI 1)])), (xa1, .inl (k 0, 5, .inl (aI (upI (upI (upI (upI (upI aZ 0 0) 1 0) 2 10) 3 500) 4 0))))] sz) := by
  refine Met.ofW (cc := cX0_carryOut) (maxL := 7) (ret := (some .int)) (by decide) rfl ?_
  intro p e s mI args below meth cO s₁ B hml hv
  obtain ⟨rfl, rfl, hP, hD0, hE⟩ := hv
  have hx := B.exec
  have hb := B.bytes
  have hr := B.returns
  have hts := atoms_spec (ws := woX0_carryOut) B.pre
  have hown : s.vm.findClass RX0 = some mI.cls := findClass_of_methodNamed B.named
  have hlocks := B.notSynchronized
  have hD := hD0.self (sz := s.heap.size)
  generalize hAe : va_A [(h0, .inr (2, [.ref xa1, .ref xa2, .ref xa3, .ref xa5, .ref xa8, .int (iI 0), .int (iI 0), .int (iI 1)])), (xa1, .inl (k 0, 5, .inl (aI (upI (upI (upI (upI (upI aZ 0 0) 1 0) 2 10) 3 500) 4 0))))] s.heap.size = A at hD hE ⊢
  have hA : ∀ q : Nat, s.heap.size ≤ q → A q := fun q h => by rw [← hAe]; exact Or.inr h
  have hS : va_S A s.heap s.heap [] := va_S.rf
  obtain ⟨hK, hNw, hNc, hZs, hAO1, hAO2⟩ := id hE
  have hSF : CallFix p mI cO cX0_carryOut 7 s ([.ref h0, .int (iI 0), .int (iI xv), .ref hp, .int (iI 0)] : List Value).toArray woX0_carryOut RX0 := ⟨hx, hb, hml, hown, hts⟩
  have hl := lv_entry ([.ref h0, .int (iI 0), .int (iI xv), .ref hp, .int (iI 0)] : List Value) (n := 7) (Nat.le_of_ble_eq_true rfl)
  rw [lg_entry_eq]
  generalize (lg_sl ([.ref h0, .int (iI 0), .int (iI xv), .ref hp, .int (iI 0)] : List Value) ++ List.replicate (7 - (lg_sl ([.ref h0, .int (iI 0), .int (iI xv), .ref hp, .int (iI 0)] : List Value)).length) Slot.unset).toArray = ls at hl ⊢
  have hl : lv_has ls 7 [(0, .ref h0), (1, .int (iI 0)), (2, .int (iI xv)), (3, .ref hp), (4, .int (iI 0))] := hl
  refine W_gen (fun Q hQ => ?_)
  change W p l e ({ frames := 1, cells := 0, slots := 0, locals := 23 } : Room) s mI _ below meth cO s.heap [] 0 0 Q _
  have hP : va_P (dC, dI) vwCl [(h0, .inr (2, [.ref xa1, .ref xa2, .ref xa3, .ref xa5, .ref xa8, .int (iI 0), .int (iI 0), .int (iI 1)])), (xa1, .inl (k 0, 5, .inl (aI (upI (upI (upI (upI (upI aZ 0 0) 1 0) 2 10) 3 500) 4 0))))] s.heap := hP
  refine lv_iload_n hx hb dX0_carryOut_0 rfl (lv_at hl 1 rfl) ?_
  refine lv_tableOut (tgt := 179) hx hb dX0_carryOut_1 (by rw [iI_toInt ⟨by omega, by omega⟩]; omega) (by decide) ?_
  refine lv_aload_n hx hb dX0_carryOut_179 rfl (lv_at hl 0 rfl) ?_
  refine lv_iload_n hx hb dX0_carryOut_180 rfl (lv_at hl 1 rfl) ?_
  refine lv_iload_n hx hb dX0_carryOut_181 rfl (lv_at hl 2 rfl) ?_
  refine ki (va_runV (As := [.int (iI 0), .int (iI xv)]) (rest := []) hSF ((c_X0_changeRule_0 l dC dI k h0 xa1 xa2 xa3 0 xa5 0 0 xa8 0 0 0 xv) s.heap.size) (cwV 2 hts gX0_carryOut_X0_changeRule rfl rfl rfl (by decide +kernel) ⟨Nat.le_of_ble_eq_true rfl, Nat.le_of_ble_eq_true rfl⟩) (preV hP hD hE hS hA [0, 1] rfl (by decide) (ci := 2) (q0 := 0) rfl rfl) rfl rfl hl.1 rfl (lv_room (Nat.le_of_ble_eq_true rfl)) dX0_carryOut_182 ⟨Nat.le_of_ble_eq_true rfl, Nat.le_of_ble_eq_true rfl⟩) hP hD hS hA [0, 1] [] rfl (wr := []) rfl (by decide) (by decide) (fun r182 _ H locs hw hP hD hS => ?_)
  obtain rfl : r182 = (iI 0) := hw
  have hP : va_P (dC, dI) vwCl [] H := hP
  have hD : va_D A [] := hD
  rw [hQ]
  refine W.widen (k := 0) (n := 0) (Nat.le_of_ble_eq_true rfl) (Nat.le_of_ble_eq_true rfl) ?_
  exact W.iret (v := (iI 0)) hx hb hr (fun t ht hW => ⟨⟨(iI 0), (), rfl, rfl, by rw [ht]; exact hP.sub [] rfl, by rw [hAe]; exact hD.sub [] (by decide) rfl⟩, hS.F ht⟩) hS.2.2 dX0_carryOut_185
set_option maxHeartbeats 4000000 in
set_option maxRecDepth 100000 in
/-- carryOut 1, at first -/
theorem c_X0_carryOut_1 (l : Launch) (dC : Nat → ClassId) (dI : Nat → Nat → Nat) (k : Nat → ClassId) (h0 hp xa1 xa2 xa3 xa4 xa5 xa6 xa7 xa8 xa9 xa10 xa11 : Nat) (xv : Int) (sz : Nat) : Met l yX0_carryOut woX0_carryOut ({ frames := 1, cells := 0, slots := 0, locals := 23 } : Room) (PcW (dC, dI) k [.ref h0, .int (iI 1), .int (iI xv), .ref hp, .int (iI 0)] [(h0, .inr (2, [.ref xa1, .ref xa2, .ref xa3, .ref xa5, .ref xa8, .int (iI 0), .int (iI 0), .int (iI 1)])), (xa1, .inl (k 0, 5, .inl (aI (upI (upI (upI (upI (upI aZ 0 0) 1 0) 2 10) 3 500) 4 0))))] sz) (va_Qi (fun (r : Int32) (_ : Unit) => r = iI 0) (QB (dC, dI) [(h0, .inr (2, [.ref xa1, .ref xa2, .ref xa3, .ref xa5, .ref xa8, .int (iI 0), .int (iI 0), .int (iI 1)])), (xa1, .inl (k 0, 5, .inl (aI (upI (upI (upI (upI (upI aZ 0 0) 1 0) 2 10) 3 500) 4 0))))] (fun _ => []) sz) (va_A [(h0, .inr (2, [.ref xa1, .ref xa2, .ref xa3, .ref xa5, .ref xa8, .int (iI 0), .int (iI 0), .int (iI 1)])), (xa1, .inl (k 0, 5, .inl (aI (upI (upI (upI (upI (upI aZ 0 0) 1 0) 2 10) 3 500) 4 0))))] sz)) 0 0 (va_A [(h0, .inr (2, [.ref xa1, .ref xa2, .ref xa3, .ref xa5, .ref xa8, .int (iI 0), .int (iI 0), .int (iI 1)])), (xa1, .inl (k 0, 5, .inl (aI (upI (upI (upI (upI (upI aZ 0 0) 1 0) 2 10) 3 500) 4 0))))] sz) := by
  refine Met.ofW (cc := cX0_carryOut) (maxL := 7) (ret := (some .int)) (by decide) rfl ?_
  intro p e s mI args below meth cO s₁ B hml hv
  obtain ⟨rfl, rfl, hP, hD0, hE⟩ := hv
  have hx := B.exec
  have hb := B.bytes
  have hr := B.returns
  have hts := atoms_spec (ws := woX0_carryOut) B.pre
  have hown : s.vm.findClass RX0 = some mI.cls := findClass_of_methodNamed B.named
  have hlocks := B.notSynchronized
  have hD := hD0.self (sz := s.heap.size)
  generalize hAe : va_A [(h0, .inr (2, [.ref xa1, .ref xa2, .ref xa3, .ref xa5, .ref xa8, .int (iI 0), .int (iI 0), .int (iI 1)])), (xa1, .inl (k 0, 5, .inl (aI (upI (upI (upI (upI (upI aZ 0 0) 1 0) 2 10) 3 500) 4 0))))] s.heap.size = A at hD hE ⊢
  have hA : ∀ q : Nat, s.heap.size ≤ q → A q := fun q h => by rw [← hAe]; exact Or.inr h
  have hS : va_S A s.heap s.heap [] := va_S.rf
  obtain ⟨hK, hNw, hNc, hZs, hAO1, hAO2⟩ := id hE
  have hSF : CallFix p mI cO cX0_carryOut 7 s ([.ref h0, .int (iI 1), .int (iI xv), .ref hp, .int (iI 0)] : List Value).toArray woX0_carryOut RX0 := ⟨hx, hb, hml, hown, hts⟩
  have hl := lv_entry ([.ref h0, .int (iI 1), .int (iI xv), .ref hp, .int (iI 0)] : List Value) (n := 7) (Nat.le_of_ble_eq_true rfl)
  rw [lg_entry_eq]
  generalize (lg_sl ([.ref h0, .int (iI 1), .int (iI xv), .ref hp, .int (iI 0)] : List Value) ++ List.replicate (7 - (lg_sl ([.ref h0, .int (iI 1), .int (iI xv), .ref hp, .int (iI 0)] : List Value)).length) Slot.unset).toArray = ls at hl ⊢
  have hl : lv_has ls 7 [(0, .ref h0), (1, .int (iI 1)), (2, .int (iI xv)), (3, .ref hp), (4, .int (iI 0))] := hl
  refine W_gen (fun Q hQ => ?_)
  change W p l e ({ frames := 1, cells := 0, slots := 0, locals := 23 } : Room) s mI _ below meth cO s.heap [] 0 0 Q _
  have hP : va_P (dC, dI) vwCl [(h0, .inr (2, [.ref xa1, .ref xa2, .ref xa3, .ref xa5, .ref xa8, .int (iI 0), .int (iI 0), .int (iI 1)])), (xa1, .inl (k 0, 5, .inl (aI (upI (upI (upI (upI (upI aZ 0 0) 1 0) 2 10) 3 500) 4 0))))] s.heap := hP
  refine lv_iload_n hx hb dX0_carryOut_0 rfl (lv_at hl 1 rfl) ?_
  refine lv_tableOut (tgt := 179) hx hb dX0_carryOut_1 (by rw [iI_toInt ⟨by omega, by omega⟩]; omega) (by decide) ?_
  refine lv_aload_n hx hb dX0_carryOut_179 rfl (lv_at hl 0 rfl) ?_
  refine lv_iload_n hx hb dX0_carryOut_180 rfl (lv_at hl 1 rfl) ?_
  refine lv_iload_n hx hb dX0_carryOut_181 rfl (lv_at hl 2 rfl) ?_
  refine ki (va_runV (As := [.int (iI 1), .int (iI xv)]) (rest := []) hSF ((c_X0_changeRule_1 l dC dI k h0 xa1 xa2 xa3 0 xa5 0 0 xa8 0 0 0 xv) s.heap.size) (cwV 2 hts gX0_carryOut_X0_changeRule rfl rfl rfl (by decide +kernel) ⟨Nat.le_of_ble_eq_true rfl, Nat.le_of_ble_eq_true rfl⟩) (preV hP hD hE hS hA [0, 1] rfl (by decide) (ci := 2) (q0 := 0) rfl rfl) rfl rfl hl.1 rfl (lv_room (Nat.le_of_ble_eq_true rfl)) dX0_carryOut_182 ⟨Nat.le_of_ble_eq_true rfl, Nat.le_of_ble_eq_true rfl⟩) hP hD hS hA [0, 1] [] rfl (wr := []) rfl (by decide) (by decide) (fun r182 _ H locs hw hP hD hS => ?_)
  obtain rfl : r182 = (iI 0) := hw
  have hP : va_P (dC, dI) vwCl [] H := hP
  have hD : va_D A [] := hD
  rw [hQ]
  refine W.widen (k := 0) (n := 0) (Nat.le_of_ble_eq_true rfl) (Nat.le_of_ble_eq_true rfl) ?_
  exact W.iret (v := (iI 0)) hx hb hr (fun t ht hW => ⟨⟨(iI 0), (), rfl, rfl, by rw [ht]; exact hP.sub [] rfl, by rw [hAe]; exact hD.sub [] (by decide) rfl⟩, hS.F ht⟩) hS.2.2 dX0_carryOut_185
set_option maxHeartbeats 4000000 in
set_option maxRecDepth 100000 in
/-- carryOut 2, at first -/
theorem c_X0_carryOut_2 (l : Launch) (dC : Nat → ClassId) (dI : Nat → Nat → Nat) (k : Nat → ClassId) (h0 hp xa1 xa2 xa3 xa4 xa5 xa6 xa7 xa8 xa9 xa10 xa11 : Nat) (xv : Int) (sz : Nat) : Met l yX0_carryOut woX0_carryOut ({ frames := 1, cells := 0, slots := 0, locals := 23 } : Room) (PcW (dC, dI) k [.ref h0, .int (iI 2), .int (iI xv), .ref hp, .int (iI 0)] [(h0, .inr (2, [.ref xa1, .ref xa2, .ref xa3, .ref xa5, .ref xa8, .int (iI 0), .int (iI 0), .int (iI 1)])), (xa1, .inl (k 0, 5, .inl (aI (upI (upI (upI (upI (upI aZ 0 0) 1 0) 2 10) 3 500) 4 0))))] sz) (va_Qi (fun (r : Int32) (_ : Unit) => r = iI 10) (QB (dC, dI) [(h0, .inr (2, [.ref xa1, .ref xa2, .ref xa3, .ref xa5, .ref xa8, .int (iI 0), .int (iI 0), .int (iI 1)])), (xa1, .inl (k 0, 5, .inl (aI (upI (upI (upI (upI (upI aZ 0 0) 1 0) 2 10) 3 500) 4 0))))] (fun _ => []) sz) (va_A [(h0, .inr (2, [.ref xa1, .ref xa2, .ref xa3, .ref xa5, .ref xa8, .int (iI 0), .int (iI 0), .int (iI 1)])), (xa1, .inl (k 0, 5, .inl (aI (upI (upI (upI (upI (upI aZ 0 0) 1 0) 2 10) 3 500) 4 0))))] sz)) 0 0 (va_A [(h0, .inr (2, [.ref xa1, .ref xa2, .ref xa3, .ref xa5, .ref xa8, .int (iI 0), .int (iI 0), .int (iI 1)])), (xa1, .inl (k 0, 5, .inl (aI (upI (upI (upI (upI (upI aZ 0 0) 1 0) 2 10) 3 500) 4 0))))] sz) := by
  refine Met.ofW (cc := cX0_carryOut) (maxL := 7) (ret := (some .int)) (by decide) rfl ?_
  intro p e s mI args below meth cO s₁ B hml hv
  obtain ⟨rfl, rfl, hP, hD0, hE⟩ := hv
  have hx := B.exec
  have hb := B.bytes
  have hr := B.returns
  have hts := atoms_spec (ws := woX0_carryOut) B.pre
  have hown : s.vm.findClass RX0 = some mI.cls := findClass_of_methodNamed B.named
  have hlocks := B.notSynchronized
  have hD := hD0.self (sz := s.heap.size)
  generalize hAe : va_A [(h0, .inr (2, [.ref xa1, .ref xa2, .ref xa3, .ref xa5, .ref xa8, .int (iI 0), .int (iI 0), .int (iI 1)])), (xa1, .inl (k 0, 5, .inl (aI (upI (upI (upI (upI (upI aZ 0 0) 1 0) 2 10) 3 500) 4 0))))] s.heap.size = A at hD hE ⊢
  have hA : ∀ q : Nat, s.heap.size ≤ q → A q := fun q h => by rw [← hAe]; exact Or.inr h
  have hS : va_S A s.heap s.heap [] := va_S.rf
  obtain ⟨hK, hNw, hNc, hZs, hAO1, hAO2⟩ := id hE
  have hSF : CallFix p mI cO cX0_carryOut 7 s ([.ref h0, .int (iI 2), .int (iI xv), .ref hp, .int (iI 0)] : List Value).toArray woX0_carryOut RX0 := ⟨hx, hb, hml, hown, hts⟩
  have hl := lv_entry ([.ref h0, .int (iI 2), .int (iI xv), .ref hp, .int (iI 0)] : List Value) (n := 7) (Nat.le_of_ble_eq_true rfl)
  rw [lg_entry_eq]
  generalize (lg_sl ([.ref h0, .int (iI 2), .int (iI xv), .ref hp, .int (iI 0)] : List Value) ++ List.replicate (7 - (lg_sl ([.ref h0, .int (iI 2), .int (iI xv), .ref hp, .int (iI 0)] : List Value)).length) Slot.unset).toArray = ls at hl ⊢
  have hl : lv_has ls 7 [(0, .ref h0), (1, .int (iI 2)), (2, .int (iI xv)), (3, .ref hp), (4, .int (iI 0))] := hl
  refine W_gen (fun Q hQ => ?_)
  change W p l e ({ frames := 1, cells := 0, slots := 0, locals := 23 } : Room) s mI _ below meth cO s.heap [] 0 0 Q _
  have hP : va_P (dC, dI) vwCl [(h0, .inr (2, [.ref xa1, .ref xa2, .ref xa3, .ref xa5, .ref xa8, .int (iI 0), .int (iI 0), .int (iI 1)])), (xa1, .inl (k 0, 5, .inl (aI (upI (upI (upI (upI (upI aZ 0 0) 1 0) 2 10) 3 500) 4 0))))] s.heap := hP
  refine lv_iload_n hx hb dX0_carryOut_0 rfl (lv_at hl 1 rfl) ?_
  refine lv_tableOut (tgt := 179) hx hb dX0_carryOut_1 (by rw [iI_toInt ⟨by omega, by omega⟩]; omega) (by decide) ?_
  refine lv_aload_n hx hb dX0_carryOut_179 rfl (lv_at hl 0 rfl) ?_
  refine lv_iload_n hx hb dX0_carryOut_180 rfl (lv_at hl 1 rfl) ?_
  refine lv_iload_n hx hb dX0_carryOut_181 rfl (lv_at hl 2 rfl) ?_
  refine ki (va_runV (As := [.int (iI 2), .int (iI xv)]) (rest := []) hSF ((c_X0_changeRule_2 l dC dI k h0 xa1 xa2 xa3 0 xa5 0 0 xa8 0 0 0 xv) s.heap.size) (cwV 2 hts gX0_carryOut_X0_changeRule rfl rfl rfl (by decide +kernel) ⟨Nat.le_of_ble_eq_true rfl, Nat.le_of_ble_eq_true rfl⟩) (preV hP hD hE hS hA [0, 1] rfl (by decide) (ci := 2) (q0 := 0) rfl rfl) rfl rfl hl.1 rfl (lv_room (Nat.le_of_ble_eq_true rfl)) dX0_carryOut_182 ⟨Nat.le_of_ble_eq_true rfl, Nat.le_of_ble_eq_true rfl⟩) hP hD hS hA [0, 1] [] rfl (wr := []) rfl (by decide) (by decide) (fun r182 _ H locs hw hP hD hS => ?_)
  obtain rfl : r182 = (iI 10) := hw
  have hP : va_P (dC, dI) vwCl [] H := hP
  have hD : va_D A [] := hD
  rw [hQ]
  refine W.widen (k := 0) (n := 0) (Nat.le_of_ble_eq_true rfl) (Nat.le_of_ble_eq_true rfl) ?_
  exact W.iret (v := (iI 10)) hx hb hr (fun t ht hW => ⟨⟨(iI 10), (), rfl, rfl, by rw [ht]; exact hP.sub [] rfl, by rw [hAe]; exact hD.sub [] (by decide) rfl⟩, hS.F ht⟩) hS.2.2 dX0_carryOut_185
set_option maxHeartbeats 4000000 in
set_option maxRecDepth 100000 in
/-- carryOut 3, at first -/
theorem c_X0_carryOut_3 (l : Launch) (dC : Nat → ClassId) (dI : Nat → Nat → Nat) (k : Nat → ClassId) (h0 hp xa1 xa2 xa3 xa4 xa5 xa6 xa7 xa8 xa9 xa10 xa11 : Nat) (xv : Int) (sz : Nat) : Met l yX0_carryOut woX0_carryOut ({ frames := 1, cells := 0, slots := 0, locals := 23 } : Room) (PcW (dC, dI) k [.ref h0, .int (iI 3), .int (iI xv), .ref hp, .int (iI 0)] [(h0, .inr (2, [.ref xa1, .ref xa2, .ref xa3, .ref xa5, .ref xa8, .int (iI 0), .int (iI 0), .int (iI 1)])), (xa1, .inl (k 0, 5, .inl (aI (upI (upI (upI (upI (upI aZ 0 0) 1 0) 2 10) 3 500) 4 0))))] sz) (va_Qi (fun (r : Int32) (_ : Unit) => r = iI 500) (QB (dC, dI) [(h0, .inr (2, [.ref xa1, .ref xa2, .ref xa3, .ref xa5, .ref xa8, .int (iI 0), .int (iI 0), .int (iI 1)])), (xa1, .inl (k 0, 5, .inl (aI (upI (upI (upI (upI (upI aZ 0 0) 1 0) 2 10) 3 500) 4 0))))] (fun _ => []) sz) (va_A [(h0, .inr (2, [.ref xa1, .ref xa2, .ref xa3, .ref xa5, .ref xa8, .int (iI 0), .int (iI 0), .int (iI 1)])), (xa1, .inl (k 0, 5, .inl (aI (upI (upI (upI (upI (upI aZ 0 0) 1 0) 2 10) 3 500) 4 0))))] sz)) 0 0 (va_A [(h0, .inr (2, [.ref xa1, .ref xa2, .ref xa3, .ref xa5, .ref xa8, .int (iI 0), .int (iI 0), .int (iI 1)])), (xa1, .inl (k 0, 5, .inl (aI (upI (upI (upI (upI (upI aZ 0 0) 1 0) 2 10) 3 500) 4 0))))] sz) := by
  refine Met.ofW (cc := cX0_carryOut) (maxL := 7) (ret := (some .int)) (by decide) rfl ?_
  intro p e s mI args below meth cO s₁ B hml hv
  obtain ⟨rfl, rfl, hP, hD0, hE⟩ := hv
  have hx := B.exec
  have hb := B.bytes
  have hr := B.returns
  have hts := atoms_spec (ws := woX0_carryOut) B.pre
  have hown : s.vm.findClass RX0 = some mI.cls := findClass_of_methodNamed B.named
  have hlocks := B.notSynchronized
  have hD := hD0.self (sz := s.heap.size)
  generalize hAe : va_A [(h0, .inr (2, [.ref xa1, .ref xa2, .ref xa3, .ref xa5, .ref xa8, .int (iI 0), .int (iI 0), .int (iI 1)])), (xa1, .inl (k 0, 5, .inl (aI (upI (upI (upI (upI (upI aZ 0 0) 1 0) 2 10) 3 500) 4 0))))] s.heap.size = A at hD hE ⊢
  have hA : ∀ q : Nat, s.heap.size ≤ q → A q := fun q h => by rw [← hAe]; exact Or.inr h
  have hS : va_S A s.heap s.heap [] := va_S.rf
  obtain ⟨hK, hNw, hNc, hZs, hAO1, hAO2⟩ := id hE
  have hSF : CallFix p mI cO cX0_carryOut 7 s ([.ref h0, .int (iI 3), .int (iI xv), .ref hp, .int (iI 0)] : List Value).toArray woX0_carryOut RX0 := ⟨hx, hb, hml, hown, hts⟩
  have hl := lv_entry ([.ref h0, .int (iI 3), .int (iI xv), .ref hp, .int (iI 0)] : List Value) (n := 7) (Nat.le_of_ble_eq_true rfl)
  rw [lg_entry_eq]
  generalize (lg_sl ([.ref h0, .int (iI 3), .int (iI xv), .ref hp, .int (iI 0)] : List Value) ++ List.replicate (7 - (lg_sl ([.ref h0, .int (iI 3), .int (iI xv), .ref hp, .int (iI 0)] : List Value)).length) Slot.unset).toArray = ls at hl ⊢
  have hl : lv_has ls 7 [(0, .ref h0), (1, .int (iI 3)), (2, .int (iI xv)), (3, .ref hp), (4, .int (iI 0))] := hl
  refine W_gen (fun Q hQ => ?_)
  change W p l e ({ frames := 1, cells := 0, slots := 0, locals := 23 } : Room) s mI _ below meth cO s.heap [] 0 0 Q _
  have hP : va_P (dC, dI) vwCl [(h0, .inr (2, [.ref xa1, .ref xa2, .ref xa3, .ref xa5, .ref xa8, .int (iI 0), .int (iI 0), .int (iI 1)])), (xa1, .inl (k 0, 5, .inl (aI (upI (upI (upI (upI (upI aZ 0 0) 1 0) 2 10) 3 500) 4 0))))] s.heap := hP
  refine lv_iload_n hx hb dX0_carryOut_0 rfl (lv_at hl 1 rfl) ?_
  refine lv_tableOut (tgt := 179) hx hb dX0_carryOut_1 (by rw [iI_toInt ⟨by omega, by omega⟩]; omega) (by decide) ?_
  refine lv_aload_n hx hb dX0_carryOut_179 rfl (lv_at hl 0 rfl) ?_
  refine lv_iload_n hx hb dX0_carryOut_180 rfl (lv_at hl 1 rfl) ?_
  refine lv_iload_n hx hb dX0_carryOut_181 rfl (lv_at hl 2 rfl) ?_
  refine ki (va_runV (As := [.int (iI 3), .int (iI xv)]) (rest := []) hSF ((c_X0_changeRule_3 l dC dI k h0 xa1 xa2 xa3 0 xa5 0 0 xa8 0 0 0 xv) s.heap.size) (cwV 2 hts gX0_carryOut_X0_changeRule rfl rfl rfl (by decide +kernel) ⟨Nat.le_of_ble_eq_true rfl, Nat.le_of_ble_eq_true rfl⟩) (preV hP hD hE hS hA [0, 1] rfl (by decide) (ci := 2) (q0 := 0) rfl rfl) rfl rfl hl.1 rfl (lv_room (Nat.le_of_ble_eq_true rfl)) dX0_carryOut_182 ⟨Nat.le_of_ble_eq_true rfl, Nat.le_of_ble_eq_true rfl⟩) hP hD hS hA [0, 1] [] rfl (wr := []) rfl (by decide) (by decide) (fun r182 _ H locs hw hP hD hS => ?_)
  obtain rfl : r182 = (iI 500) := hw
  have hP : va_P (dC, dI) vwCl [] H := hP
  have hD : va_D A [] := hD
  rw [hQ]
  refine W.widen (k := 0) (n := 0) (Nat.le_of_ble_eq_true rfl) (Nat.le_of_ble_eq_true rfl) ?_
  exact W.iret (v := (iI 500)) hx hb hr (fun t ht hW => ⟨⟨(iI 500), (), rfl, rfl, by rw [ht]; exact hP.sub [] rfl, by rw [hAe]; exact hD.sub [] (by decide) rfl⟩, hS.F ht⟩) hS.2.2 dX0_carryOut_185
set_option maxHeartbeats 4000000 in
set_option maxRecDepth 100000 in
/-- carryOut 4, at first -/
theorem c_X0_carryOut_4 (l : Launch) (dC : Nat → ClassId) (dI : Nat → Nat → Nat) (k : Nat → ClassId) (h0 hp xa1 xa2 xa3 xa4 xa5 xa6 xa7 xa8 xa9 xa10 xa11 : Nat) (xv : Int) (sz : Nat) : Met l yX0_carryOut woX0_carryOut ({ frames := 1, cells := 0, slots := 0, locals := 23 } : Room) (PcW (dC, dI) k [.ref h0, .int (iI 4), .int (iI xv), .ref hp, .int (iI 0)] [(h0, .inr (2, [.ref xa1, .ref xa2, .ref xa3, .ref xa5, .ref xa8, .int (iI 0), .int (iI 0), .int (iI 1)])), (xa1, .inl (k 0, 5, .inl (aI (upI (upI (upI (upI (upI aZ 0 0) 1 0) 2 10) 3 500) 4 0))))] sz) (va_Qi (fun (r : Int32) (_ : Unit) => r = iI 0) (QB (dC, dI) [(h0, .inr (2, [.ref xa1, .ref xa2, .ref xa3, .ref xa5, .ref xa8, .int (iI 0), .int (iI 0), .int (iI 1)])), (xa1, .inl (k 0, 5, .inl (aI (upI (upI (upI (upI (upI aZ 0 0) 1 0) 2 10) 3 500) 4 0))))] (fun _ => []) sz) (va_A [(h0, .inr (2, [.ref xa1, .ref xa2, .ref xa3, .ref xa5, .ref xa8, .int (iI 0), .int (iI 0), .int (iI 1)])), (xa1, .inl (k 0, 5, .inl (aI (upI (upI (upI (upI (upI aZ 0 0) 1 0) 2 10) 3 500) 4 0))))] sz)) 0 0 (va_A [(h0, .inr (2, [.ref xa1, .ref xa2, .ref xa3, .ref xa5, .ref xa8, .int (iI 0), .int (iI 0), .int (iI 1)])), (xa1, .inl (k 0, 5, .inl (aI (upI (upI (upI (upI (upI aZ 0 0) 1 0) 2 10) 3 500) 4 0))))] sz) := by
  refine Met.ofW (cc := cX0_carryOut) (maxL := 7) (ret := (some .int)) (by decide) rfl ?_
  intro p e s mI args below meth cO s₁ B hml hv
  obtain ⟨rfl, rfl, hP, hD0, hE⟩ := hv
  have hx := B.exec
  have hb := B.bytes
  have hr := B.returns
  have hts := atoms_spec (ws := woX0_carryOut) B.pre
  have hown : s.vm.findClass RX0 = some mI.cls := findClass_of_methodNamed B.named
  have hlocks := B.notSynchronized
  have hD := hD0.self (sz := s.heap.size)
  generalize hAe : va_A [(h0, .inr (2, [.ref xa1, .ref xa2, .ref xa3, .ref xa5, .ref xa8, .int (iI 0), .int (iI 0), .int (iI 1)])), (xa1, .inl (k 0, 5, .inl (aI (upI (upI (upI (upI (upI aZ 0 0) 1 0) 2 10) 3 500) 4 0))))] s.heap.size = A at hD hE ⊢
  have hA : ∀ q : Nat, s.heap.size ≤ q → A q := fun q h => by rw [← hAe]; exact Or.inr h
  have hS : va_S A s.heap s.heap [] := va_S.rf
  obtain ⟨hK, hNw, hNc, hZs, hAO1, hAO2⟩ := id hE
  have hSF : CallFix p mI cO cX0_carryOut 7 s ([.ref h0, .int (iI 4), .int (iI xv), .ref hp, .int (iI 0)] : List Value).toArray woX0_carryOut RX0 := ⟨hx, hb, hml, hown, hts⟩
  have hl := lv_entry ([.ref h0, .int (iI 4), .int (iI xv), .ref hp, .int (iI 0)] : List Value) (n := 7) (Nat.le_of_ble_eq_true rfl)
  rw [lg_entry_eq]
  generalize (lg_sl ([.ref h0, .int (iI 4), .int (iI xv), .ref hp, .int (iI 0)] : List Value) ++ List.replicate (7 - (lg_sl ([.ref h0, .int (iI 4), .int (iI xv), .ref hp, .int (iI 0)] : List Value)).length) Slot.unset).toArray = ls at hl ⊢
  have hl : lv_has ls 7 [(0, .ref h0), (1, .int (iI 4)), (2, .int (iI xv)), (3, .ref hp), (4, .int (iI 0))] := hl
  refine W_gen (fun Q hQ => ?_)
  change W p l e ({ frames := 1, cells := 0, slots := 0, locals := 23 } : Room) s mI _ below meth cO s.heap [] 0 0 Q _
  have hP : va_P (dC, dI) vwCl [(h0, .inr (2, [.ref xa1, .ref xa2, .ref xa3, .ref xa5, .ref xa8, .int (iI 0), .int (iI 0), .int (iI 1)])), (xa1, .inl (k 0, 5, .inl (aI (upI (upI (upI (upI (upI aZ 0 0) 1 0) 2 10) 3 500) 4 0))))] s.heap := hP
  refine lv_iload_n hx hb dX0_carryOut_0 rfl (lv_at hl 1 rfl) ?_
  refine lv_tableOut (tgt := 179) hx hb dX0_carryOut_1 (by rw [iI_toInt ⟨by omega, by omega⟩]; omega) (by decide) ?_
  refine lv_aload_n hx hb dX0_carryOut_179 rfl (lv_at hl 0 rfl) ?_
  refine lv_iload_n hx hb dX0_carryOut_180 rfl (lv_at hl 1 rfl) ?_
  refine lv_iload_n hx hb dX0_carryOut_181 rfl (lv_at hl 2 rfl) ?_
  refine ki (va_runV (As := [.int (iI 4), .int (iI xv)]) (rest := []) hSF ((c_X0_changeRule_4 l dC dI k h0 xa1 xa2 xa3 0 xa5 0 0 xa8 0 0 0 xv) s.heap.size) (cwV 2 hts gX0_carryOut_X0_changeRule rfl rfl rfl (by decide +kernel) ⟨Nat.le_of_ble_eq_true rfl, Nat.le_of_ble_eq_true rfl⟩) (preV hP hD hE hS hA [0, 1] rfl (by decide) (ci := 2) (q0 := 0) rfl rfl) rfl rfl hl.1 rfl (lv_room (Nat.le_of_ble_eq_true rfl)) dX0_carryOut_182 ⟨Nat.le_of_ble_eq_true rfl, Nat.le_of_ble_eq_true rfl⟩) hP hD hS hA [0, 1] [] rfl (wr := []) rfl (by decide) (by decide) (fun r182 _ H locs hw hP hD hS => ?_)
  obtain rfl : r182 = (iI 0) := hw
  have hP : va_P (dC, dI) vwCl [] H := hP
  have hD : va_D A [] := hD
  rw [hQ]
  refine W.widen (k := 0) (n := 0) (Nat.le_of_ble_eq_true rfl) (Nat.le_of_ble_eq_true rfl) ?_
  exact W.iret (v := (iI 0)) hx hb hr (fun t ht hW => ⟨⟨(iI 0), (), rfl, rfl, by rw [ht]; exact hP.sub [] rfl, by rw [hAe]; exact hD.sub [] (by decide) rfl⟩, hS.F ht⟩) hS.2.2 dX0_carryOut_185
set_option maxHeartbeats 4000000 in
set_option maxRecDepth 100000 in
/-- carryOut 5, at first -/
theorem c_X0_carryOut_5 (l : Launch) (dC : Nat → ClassId) (dI : Nat → Nat → Nat) (k : Nat → ClassId) (h0 hp xa1 xa2 xa3 xa4 xa5 xa6 xa7 xa8 xa9 xa10 xa11 : Nat) (xv : Int) (hv : 1 ≤ xv ∧ xv ≤ 1000) (sz : Nat) : Met l yX0_carryOut woX0_carryOut ({ frames := 5, cells := 0, slots := 0, locals := 114 } : Room) (PcW (dC, dI) k [.ref h0, .int (iI 5), .int (iI xv), .ref hp, .int (iI 0)] [(h0, .inr (2, [.ref xa1, .ref xa2, .ref xa3, .ref xa5, .ref xa8, .int (iI 0), .int (iI 0), .int (iI 1)])), (xa1, .inl (k 0, 5, .inl (aI (upI (upI (upI (upI (upI aZ 0 0) 1 0) 2 10) 3 500) 4 0)))), (xa3, .inr (7, [.int (iI 0), .int (iI 0), .int (iI 0), .long (lI 0), .int (iI 0), .int (iI 0), .int (iI 0), .long (lI 0), .long (lI 0), .long (lI 0), .long (lI 0), .long (lI 0), .int (iI 0), .int (iI 0), .int (iI 0), .int (iI 0), .ref xa4])), (xa5, .inr (3, [.ref xa6, .ref xa7, .int (iI 0), .int (iI 0), .int (iI 0)]))] sz) (va_Qi (fun (r : Int32) (_ : Unit) => r = iI 0) (QB (dC, dI) [(h0, .inr (2, [.ref xa1, .ref xa2, .ref xa3, .ref xa5, .ref xa8, .int (iI 0), .int (iI 0), .int (iI 1)])), (xa1, .inl (k 0, 5, .inl (aI (upI (upI (upI (upI (upI aZ 0 0) 1 0) 2 10) 3 500) 4 0)))), (xa3, .inr (7, [.int (iI 0), .int (iI 0), .int (iI 0), .long (lI 0), .int (iI 0), .int (iI 0), .int (iI 0), .long (lI 0), .long (lI 0), .long (lI 0), .long (lI 0), .long (lI 0), .int (iI 0), .int (iI 0), .int (iI 0), .int (iI 0), .ref xa4])), (xa5, .inr (3, [.ref xa6, .ref xa7, .int (iI 0), .int (iI 0), .int (iI 0)]))] (fun _ => []) sz) (va_A [(h0, .inr (2, [.ref xa1, .ref xa2, .ref xa3, .ref xa5, .ref xa8, .int (iI 0), .int (iI 0), .int (iI 1)])), (xa1, .inl (k 0, 5, .inl (aI (upI (upI (upI (upI (upI aZ 0 0) 1 0) 2 10) 3 500) 4 0)))), (xa3, .inr (7, [.int (iI 0), .int (iI 0), .int (iI 0), .long (lI 0), .int (iI 0), .int (iI 0), .int (iI 0), .long (lI 0), .long (lI 0), .long (lI 0), .long (lI 0), .long (lI 0), .int (iI 0), .int (iI 0), .int (iI 0), .int (iI 0), .ref xa4])), (xa5, .inr (3, [.ref xa6, .ref xa7, .int (iI 0), .int (iI 0), .int (iI 0)]))] sz)) 0 0 (va_A [(h0, .inr (2, [.ref xa1, .ref xa2, .ref xa3, .ref xa5, .ref xa8, .int (iI 0), .int (iI 0), .int (iI 1)])), (xa1, .inl (k 0, 5, .inl (aI (upI (upI (upI (upI (upI aZ 0 0) 1 0) 2 10) 3 500) 4 0)))), (xa3, .inr (7, [.int (iI 0), .int (iI 0), .int (iI 0), .long (lI 0), .int (iI 0), .int (iI 0), .int (iI 0), .long (lI 0), .long (lI 0), .long (lI 0), .long (lI 0), .long (lI 0), .int (iI 0), .int (iI 0), .int (iI 0), .int (iI 0), .ref xa4])), (xa5, .inr (3, [.ref xa6, .ref xa7, .int (iI 0), .int (iI 0), .int (iI 0)]))] sz) := by
  refine Met.ofW (cc := cX0_carryOut) (maxL := 7) (ret := (some .int)) (by decide) rfl ?_
  intro p e s mI args below meth cO s₁ B hml hv
  obtain ⟨rfl, rfl, hP, hD0, hE⟩ := hv
  have hx := B.exec
  have hb := B.bytes
  have hr := B.returns
  have hts := atoms_spec (ws := woX0_carryOut) B.pre
  have hown : s.vm.findClass RX0 = some mI.cls := findClass_of_methodNamed B.named
  have hlocks := B.notSynchronized
  have hD := hD0.self (sz := s.heap.size)
  generalize hAe : va_A [(h0, .inr (2, [.ref xa1, .ref xa2, .ref xa3, .ref xa5, .ref xa8, .int (iI 0), .int (iI 0), .int (iI 1)])), (xa1, .inl (k 0, 5, .inl (aI (upI (upI (upI (upI (upI aZ 0 0) 1 0) 2 10) 3 500) 4 0)))), (xa3, .inr (7, [.int (iI 0), .int (iI 0), .int (iI 0), .long (lI 0), .int (iI 0), .int (iI 0), .int (iI 0), .long (lI 0), .long (lI 0), .long (lI 0), .long (lI 0), .long (lI 0), .int (iI 0), .int (iI 0), .int (iI 0), .int (iI 0), .ref xa4])), (xa5, .inr (3, [.ref xa6, .ref xa7, .int (iI 0), .int (iI 0), .int (iI 0)]))] s.heap.size = A at hD hE ⊢
  have hA : ∀ q : Nat, s.heap.size ≤ q → A q := fun q h => by rw [← hAe]; exact Or.inr h
  have hS : va_S A s.heap s.heap [] := va_S.rf
  obtain ⟨hK, hNw, hNc, hZs, hAO1, hAO2⟩ := id hE
  have hSF : CallFix p mI cO cX0_carryOut 7 s ([.ref h0, .int (iI 5), .int (iI xv), .ref hp, .int (iI 0)] : List Value).toArray woX0_carryOut RX0 := ⟨hx, hb, hml, hown, hts⟩
  have hl := lv_entry ([.ref h0, .int (iI 5), .int (iI xv), .ref hp, .int (iI 0)] : List Value) (n := 7) (Nat.le_of_ble_eq_true rfl)
  rw [lg_entry_eq]
  generalize (lg_sl ([.ref h0, .int (iI 5), .int (iI xv), .ref hp, .int (iI 0)] : List Value) ++ List.replicate (7 - (lg_sl ([.ref h0, .int (iI 5), .int (iI xv), .ref hp, .int (iI 0)] : List Value)).length) Slot.unset).toArray = ls at hl ⊢
  have hl : lv_has ls 7 [(0, .ref h0), (1, .int (iI 5)), (2, .int (iI xv)), (3, .ref hp), (4, .int (iI 0))] := hl
  refine W_gen (fun Q hQ => ?_)
  change W p l e ({ frames := 5, cells := 0, slots := 0, locals := 114 } : Room) s mI _ below meth cO s.heap [] 0 0 Q _
  have hP : va_P (dC, dI) vwCl [(h0, .inr (2, [.ref xa1, .ref xa2, .ref xa3, .ref xa5, .ref xa8, .int (iI 0), .int (iI 0), .int (iI 1)])), (xa1, .inl (k 0, 5, .inl (aI (upI (upI (upI (upI (upI aZ 0 0) 1 0) 2 10) 3 500) 4 0)))), (xa3, .inr (7, [.int (iI 0), .int (iI 0), .int (iI 0), .long (lI 0), .int (iI 0), .int (iI 0), .int (iI 0), .long (lI 0), .long (lI 0), .long (lI 0), .long (lI 0), .long (lI 0), .int (iI 0), .int (iI 0), .int (iI 0), .int (iI 0), .ref xa4])), (xa5, .inr (3, [.ref xa6, .ref xa7, .int (iI 0), .int (iI 0), .int (iI 0)]))] s.heap := hP
  refine lv_iload_n hx hb dX0_carryOut_0 rfl (lv_at hl 1 rfl) ?_
  refine lv_tableIn (off := 39) (tgt := 40) hx hb dX0_carryOut_1 (by rw [iI_toInt ⟨by omega, by omega⟩]; omega) (by rw [iI_toInt ⟨by omega, by omega⟩]; omega) (by rw [iI_toInt ⟨by omega, by omega⟩]; rfl) (by decide) ?_
  refine lv_aload_n hx hb dX0_carryOut_40 rfl (lv_at hl 0 rfl) ?_
  refine lv_iload_n hx hb dX0_carryOut_41 rfl (lv_at hl 2 rfl) ?_
  refine lv_iload hx hb dX0_carryOut_42 (lv_at hl 4 rfl) ?_
  refine ki (va_runV (As := [.int (iI xv), .int (iI 0)]) (rest := []) hSF ((c_X0_passDays l dC dI k h0 xa1 xa2 xa3 xa4 xa5 xa6 xa7 xa8 0 0 0 xv (by omega)) s.heap.size) (cwV 2 hts gX0_carryOut_X0_passDays rfl rfl rfl (by decide +kernel) ⟨Nat.le_of_ble_eq_true rfl, Nat.le_of_ble_eq_true rfl⟩) (preV hP hD hE hS hA [0, 1, 2, 3] rfl (by decide) (ci := 2) (q0 := 0) rfl rfl) rfl rfl hl.1 rfl (lv_room (Nat.le_of_ble_eq_true rfl)) dX0_carryOut_44 ⟨Nat.le_of_ble_eq_true rfl, Nat.le_of_ble_eq_true rfl⟩) hP hD hS hA [0, 1, 2, 3] [] rfl (wr := []) rfl (by decide) (by decide) (fun r44 _ H locs hw hP hD hS => ?_)
  obtain rfl : r44 = (iI 0) := hw
  have hP : va_P (dC, dI) vwCl [] H := hP
  have hD : va_D A [] := hD
  rw [hQ]
  refine W.widen (k := 0) (n := 0) (Nat.le_of_ble_eq_true rfl) (Nat.le_of_ble_eq_true rfl) ?_
  exact W.iret (v := (iI 0)) hx hb hr (fun t ht hW => ⟨⟨(iI 0), (), rfl, rfl, by rw [ht]; exact hP.sub [] rfl, by rw [hAe]; exact hD.sub [] (by decide) rfl⟩, hS.F ht⟩) hS.2.2 dX0_carryOut_47
set_option maxHeartbeats 4000000 in
set_option maxRecDepth 100000 in
/-- command 0, carried out at first -/
theorem c_X10_command_0_0 (l : Launch) (dC : Nat → ClassId) (dI : Nat → Nat → Nat) (k : Nat → ClassId) (h0 hn g1 g2 hea g3 g4 g5 g6 g7 he0 xk xw xa1 xa2 xa3 xa4 xa5 xa6 xa7 xa8 xa9 xa10 xa11 ya1 ya2 ya3 ya4 ya5 ya6 ya7 ya8 ya9 ya10 ya11 : Nat) (xeF : Nat → Option Nat) (xv : Int) (hea0 : xeF 0 = some he0) (hv9 : -2147483648 ≤ xv ∧ xv ≤ 2147483647) (hv : 0 ≤ xv ∧ xv ≤ 5) (sz : Nat) : Met l yX10_command woX10_command ({ frames := 4, cells := 0, slots := 0, locals := 93 } : Room) (PcW (dC, dI) k [.ref h0, .int (iI 0), .int (iI xv)] [(h0, .inr (10, [.ref hn, .ref g1, .ref g2, .ref hea, .ref g3, .ref g4, .ref g5, .ref g6, .ref g7, .int (iI 0), .int (iI 0), .int (iI 0), .int (iI (-1)), .int (iI (-1)), .int (iI 0)])), (hea, .inl (k 6, 8, .inr (.inr (.inr (.inr xeF))))), (hn, .inr (2, [.ref xa1, .ref xa2, .ref xa3, .ref xa5, .ref xa8, .int (iI 0), .int (iI 0), .int (iI 0)])), (xa1, .inl (k 0, 5, .inl (aI (upI (upI (upI (upI (upI aZ 0 0) 1 0) 2 10) 3 500) 4 0)))), (xa2, .inl (k 0, 5, .inl (aI aZ))), (xa3, .inr (7, [.int (iI 0), .int (iI 0), .int (iI 0), .long (lI 0), .int (iI 0), .int (iI 0), .int (iI 0), .long (lI 0), .long (lI 0), .long (lI 0), .long (lI 0), .long (lI 0), .int (iI 0), .int (iI 0), .int (iI 0), .int (iI 0), .ref xa4])), (xa4, .inl (k 1, 8, .inr (.inl (aL aZ)))), (xa5, .inr (3, [.ref xa6, .ref xa7, .int (iI 0), .int (iI 0), .int (iI 0)])), (xa6, .inl (k 1, 264, .inr (.inl (aL aZ)))), (xa7, .inl (k 0, 264, .inl (aI aZ))), (xa8, .inr (6, [.ref xa9, .ref xa10, .ref xa11, .int (iI 0), .int (iI 0)])), (xa9, .inl (k 0, 60, .inl (aI aZ))), (xa10, .inl (k 0, 60, .inl (aI aZ))), (xa11, .inl (k 1, 60, .inr (.inl (aL aZ)))), (he0, .inr (2, [.ref ya1, .ref ya2, .ref ya3, .ref ya5, .ref ya8, .int (iI 0), .int (iI 0), .int (iI 0)])), (ya1, .inl (k 0, 5, .inl (aI (upI (upI (upI (upI (upI aZ 0 0) 1 0) 2 10) 3 500) 4 0)))), (ya2, .inl (k 0, 5, .inl (aI aZ))), (ya3, .inr (7, [.int (iI 0), .int (iI 0), .int (iI 0), .long (lI 0), .int (iI 0), .int (iI 0), .int (iI 0), .long (lI 0), .long (lI 0), .long (lI 0), .long (lI 0), .long (lI 0), .int (iI 0), .int (iI 0), .int (iI 0), .int (iI 0), .ref ya4])), (ya4, .inl (k 1, 8, .inr (.inl (aL aZ)))), (ya5, .inr (3, [.ref ya6, .ref ya7, .int (iI 0), .int (iI 0), .int (iI 0)])), (ya6, .inl (k 1, 264, .inr (.inl (aL aZ)))), (ya7, .inl (k 0, 264, .inl (aI aZ))), (ya8, .inr (6, [.ref ya9, .ref ya10, .ref ya11, .int (iI 0), .int (iI 0)])), (ya9, .inl (k 0, 60, .inl (aI aZ))), (ya10, .inl (k 0, 60, .inl (aI aZ))), (ya11, .inl (k 1, 60, .inr (.inl (aL aZ)))), (g3, .inr (4, [.ref xk, .ref xw])), (xk, .inl (k 0, 512, .inl (aI aZ))), (xw, .inl (k 0, 512, .inl (aI aZ)))] sz) (va_Qi (fun (r : Int32) (_ : Unit) => r = iI 0) (QB (dC, dI) [(h0, .inr (10, [.ref hn, .ref g1, .ref g2, .ref hea, .ref g3, .ref g4, .ref g5, .ref g6, .ref g7, .int (iI 0), .int (iI 0), .int (iI 0), .int (iI (-1)), .int (iI (-1)), .int (iI 0)])), (hea, .inl (k 6, 8, .inr (.inr (.inr (.inr xeF))))), (hn, .inr (2, [.ref xa1, .ref xa2, .ref xa3, .ref xa5, .ref xa8, .int (iI 0), .int (iI 0), .int (iI 0)])), (xa1, .inl (k 0, 5, .inl (aI (upI (upI (upI (upI (upI aZ 0 0) 1 0) 2 10) 3 500) 4 0)))), (xa2, .inl (k 0, 5, .inl (aI aZ))), (xa3, .inr (7, [.int (iI 0), .int (iI 0), .int (iI 0), .long (lI 0), .int (iI 0), .int (iI 0), .int (iI 0), .long (lI 0), .long (lI 0), .long (lI 0), .long (lI 0), .long (lI 0), .int (iI 0), .int (iI 0), .int (iI 0), .int (iI 0), .ref xa4])), (xa4, .inl (k 1, 8, .inr (.inl (aL aZ)))), (xa5, .inr (3, [.ref xa6, .ref xa7, .int (iI 0), .int (iI 0), .int (iI 0)])), (xa6, .inl (k 1, 264, .inr (.inl (aL aZ)))), (xa7, .inl (k 0, 264, .inl (aI aZ))), (xa8, .inr (6, [.ref xa9, .ref xa10, .ref xa11, .int (iI 0), .int (iI 0)])), (xa9, .inl (k 0, 60, .inl (aI aZ))), (xa10, .inl (k 0, 60, .inl (aI aZ))), (xa11, .inl (k 1, 60, .inr (.inl (aL aZ)))), (he0, .inr (2, [.ref ya1, .ref ya2, .ref ya3, .ref ya5, .ref ya8, .int (iI 0), .int (iI 0), .int (iI 0)])), (ya1, .inl (k 0, 5, .inl (aI (upI (upI (upI (upI (upI aZ 0 0) 1 0) 2 10) 3 500) 4 0)))), (ya2, .inl (k 0, 5, .inl (aI aZ))), (ya3, .inr (7, [.int (iI 0), .int (iI 0), .int (iI 0), .long (lI 0), .int (iI 0), .int (iI 0), .int (iI 0), .long (lI 0), .long (lI 0), .long (lI 0), .long (lI 0), .long (lI 0), .int (iI 0), .int (iI 0), .int (iI 0), .int (iI 0), .ref ya4])), (ya4, .inl (k 1, 8, .inr (.inl (aL aZ)))), (ya5, .inr (3, [.ref ya6, .ref ya7, .int (iI 0), .int (iI 0), .int (iI 0)])), (ya6, .inl (k 1, 264, .inr (.inl (aL aZ)))), (ya7, .inl (k 0, 264, .inl (aI aZ))), (ya8, .inr (6, [.ref ya9, .ref ya10, .ref ya11, .int (iI 0), .int (iI 0)])), (ya9, .inl (k 0, 60, .inl (aI aZ))), (ya10, .inl (k 0, 60, .inl (aI aZ))), (ya11, .inl (k 1, 60, .inr (.inl (aL aZ)))), (g3, .inr (4, [.ref xk, .ref xw])), (xk, .inl (k 0, 512, .inl (aI aZ))), (xw, .inl (k 0, 512, .inl (aI aZ)))] (fun _ => []) sz) (va_A [(h0, .inr (10, [.ref hn, .ref g1, .ref g2, .ref hea, .ref g3, .ref g4, .ref g5, .ref g6, .ref g7, .int (iI 0), .int (iI 0), .int (iI 0), .int (iI (-1)), .int (iI (-1)), .int (iI 0)])), (hea, .inl (k 6, 8, .inr (.inr (.inr (.inr xeF))))), (hn, .inr (2, [.ref xa1, .ref xa2, .ref xa3, .ref xa5, .ref xa8, .int (iI 0), .int (iI 0), .int (iI 0)])), (xa1, .inl (k 0, 5, .inl (aI (upI (upI (upI (upI (upI aZ 0 0) 1 0) 2 10) 3 500) 4 0)))), (xa2, .inl (k 0, 5, .inl (aI aZ))), (xa3, .inr (7, [.int (iI 0), .int (iI 0), .int (iI 0), .long (lI 0), .int (iI 0), .int (iI 0), .int (iI 0), .long (lI 0), .long (lI 0), .long (lI 0), .long (lI 0), .long (lI 0), .int (iI 0), .int (iI 0), .int (iI 0), .int (iI 0), .ref xa4])), (xa4, .inl (k 1, 8, .inr (.inl (aL aZ)))), (xa5, .inr (3, [.ref xa6, .ref xa7, .int (iI 0), .int (iI 0), .int (iI 0)])), (xa6, .inl (k 1, 264, .inr (.inl (aL aZ)))), (xa7, .inl (k 0, 264, .inl (aI aZ))), (xa8, .inr (6, [.ref xa9, .ref xa10, .ref xa11, .int (iI 0), .int (iI 0)])), (xa9, .inl (k 0, 60, .inl (aI aZ))), (xa10, .inl (k 0, 60, .inl (aI aZ))), (xa11, .inl (k 1, 60, .inr (.inl (aL aZ)))), (he0, .inr (2, [.ref ya1, .ref ya2, .ref ya3, .ref ya5, .ref ya8, .int (iI 0), .int (iI 0), .int (iI 0)])), (ya1, .inl (k 0, 5, .inl (aI (upI (upI (upI (upI (upI aZ 0 0) 1 0) 2 10) 3 500) 4 0)))), (ya2, .inl (k 0, 5, .inl (aI aZ))), (ya3, .inr (7, [.int (iI 0), .int (iI 0), .int (iI 0), .long (lI 0), .int (iI 0), .int (iI 0), .int (iI 0), .long (lI 0), .long (lI 0), .long (lI 0), .long (lI 0), .long (lI 0), .int (iI 0), .int (iI 0), .int (iI 0), .int (iI 0), .ref ya4])), (ya4, .inl (k 1, 8, .inr (.inl (aL aZ)))), (ya5, .inr (3, [.ref ya6, .ref ya7, .int (iI 0), .int (iI 0), .int (iI 0)])), (ya6, .inl (k 1, 264, .inr (.inl (aL aZ)))), (ya7, .inl (k 0, 264, .inl (aI aZ))), (ya8, .inr (6, [.ref ya9, .ref ya10, .ref ya11, .int (iI 0), .int (iI 0)])), (ya9, .inl (k 0, 60, .inl (aI aZ))), (ya10, .inl (k 0, 60, .inl (aI aZ))), (ya11, .inl (k 1, 60, .inr (.inl (aL aZ)))), (g3, .inr (4, [.ref xk, .ref xw])), (xk, .inl (k 0, 512, .inl (aI aZ))), (xw, .inl (k 0, 512, .inl (aI aZ)))] sz)) 0 0 (va_A [(h0, .inr (10, [.ref hn, .ref g1, .ref g2, .ref hea, .ref g3, .ref g4, .ref g5, .ref g6, .ref g7, .int (iI 0), .int (iI 0), .int (iI 0), .int (iI (-1)), .int (iI (-1)), .int (iI 0)])), (hea, .inl (k 6, 8, .inr (.inr (.inr (.inr xeF))))), (hn, .inr (2, [.ref xa1, .ref xa2, .ref xa3, .ref xa5, .ref xa8, .int (iI 0), .int (iI 0), .int (iI 0)])), (xa1, .inl (k 0, 5, .inl (aI (upI (upI (upI (upI (upI aZ 0 0) 1 0) 2 10) 3 500) 4 0)))), (xa2, .inl (k 0, 5, .inl (aI aZ))), (xa3, .inr (7, [.int (iI 0), .int (iI 0), .int (iI 0), .long (lI 0), .int (iI 0), .int (iI 0), .int (iI 0), .long (lI 0), .long (lI 0), .long (lI 0), .long (lI 0), .long (lI 0), .int (iI 0), .int (iI 0), .int (iI 0), .int (iI 0), .ref xa4])), (xa4, .inl (k 1, 8, .inr (.inl (aL aZ)))), (xa5, .inr (3, [.ref xa6, .ref xa7, .int (iI 0), .int (iI 0), .int (iI 0)])), (xa6, .inl (k 1, 264, .inr (.inl (aL aZ)))), (xa7, .inl (k 0, 264, .inl (aI aZ))), (xa8, .inr (6, [.ref xa9, .ref xa10, .ref xa11, .int (iI 0), .int (iI 0)])), (xa9, .inl (k 0, 60, .inl (aI aZ))), (xa10, .inl (k 0, 60, .inl (aI aZ))), (xa11, .inl (k 1, 60, .inr (.inl (aL aZ)))), (he0, .inr (2, [.ref ya1, .ref ya2, .ref ya3, .ref ya5, .ref ya8, .int (iI 0), .int (iI 0), .int (iI 0)])), (ya1, .inl (k 0, 5, .inl (aI (upI (upI (upI (upI (upI aZ 0 0) 1 0) 2 10) 3 500) 4 0)))), (ya2, .inl (k 0, 5, .inl (aI aZ))), (ya3, .inr (7, [.int (iI 0), .int (iI 0), .int (iI 0), .long (lI 0), .int (iI 0), .int (iI 0), .int (iI 0), .long (lI 0), .long (lI 0), .long (lI 0), .long (lI 0), .long (lI 0), .int (iI 0), .int (iI 0), .int (iI 0), .int (iI 0), .ref ya4])), (ya4, .inl (k 1, 8, .inr (.inl (aL aZ)))), (ya5, .inr (3, [.ref ya6, .ref ya7, .int (iI 0), .int (iI 0), .int (iI 0)])), (ya6, .inl (k 1, 264, .inr (.inl (aL aZ)))), (ya7, .inl (k 0, 264, .inl (aI aZ))), (ya8, .inr (6, [.ref ya9, .ref ya10, .ref ya11, .int (iI 0), .int (iI 0)])), (ya9, .inl (k 0, 60, .inl (aI aZ))), (ya10, .inl (k 0, 60, .inl (aI aZ))), (ya11, .inl (k 1, 60, .inr (.inl (aL aZ)))), (g3, .inr (4, [.ref xk, .ref xw])), (xk, .inl (k 0, 512, .inl (aI aZ))), (xw, .inl (k 0, 512, .inl (aI aZ)))] sz) := by
  refine Met.ofW (cc := cX10_command) (maxL := 3) (ret := (some .int)) (by decide) rfl ?_
  intro p e s mI args below meth cO s₁ B hml hv
  obtain ⟨rfl, rfl, hP, hD0, hE⟩ := hv
  have hx := B.exec
  have hb := B.bytes
  have hr := B.returns
  have hts := atoms_spec (ws := woX10_command) B.pre
  have hown : s.vm.findClass RX10 = some mI.cls := findClass_of_methodNamed B.named
  have hlocks := B.notSynchronized
  have hD := hD0.self (sz := s.heap.size)
  generalize hAe : va_A [(h0, .inr (10, [.ref hn, .ref g1, .ref g2, .ref hea, .ref g3, .ref g4, .ref g5, .ref g6, .ref g7, .int (iI 0), .int (iI 0), .int (iI 0), .int (iI (-1)), .int (iI (-1)), .int (iI 0)])), (hea, .inl (k 6, 8, .inr (.inr (.inr (.inr xeF))))), (hn, .inr (2, [.ref xa1, .ref xa2, .ref xa3, .ref xa5, .ref xa8, .int (iI 0), .int (iI 0), .int (iI 0)])), (xa1, .inl (k 0, 5, .inl (aI (upI (upI (upI (upI (upI aZ 0 0) 1 0) 2 10) 3 500) 4 0)))), (xa2, .inl (k 0, 5, .inl (aI aZ))), (xa3, .inr (7, [.int (iI 0), .int (iI 0), .int (iI 0), .long (lI 0), .int (iI 0), .int (iI 0), .int (iI 0), .long (lI 0), .long (lI 0), .long (lI 0), .long (lI 0), .long (lI 0), .int (iI 0), .int (iI 0), .int (iI 0), .int (iI 0), .ref xa4])), (xa4, .inl (k 1, 8, .inr (.inl (aL aZ)))), (xa5, .inr (3, [.ref xa6, .ref xa7, .int (iI 0), .int (iI 0), .int (iI 0)])), (xa6, .inl (k 1, 264, .inr (.inl (aL aZ)))), (xa7, .inl (k 0, 264, .inl (aI aZ))), (xa8, .inr (6, [.ref xa9, .ref xa10, .ref xa11, .int (iI 0), .int (iI 0)])), (xa9, .inl (k 0, 60, .inl (aI aZ))), (xa10, .inl (k 0, 60, .inl (aI aZ))), (xa11, .inl (k 1, 60, .inr (.inl (aL aZ)))), (he0, .inr (2, [.ref ya1, .ref ya2, .ref ya3, .ref ya5, .ref ya8, .int (iI 0), .int (iI 0), .int (iI 0)])), (ya1, .inl (k 0, 5, .inl (aI (upI (upI (upI (upI (upI aZ 0 0) 1 0) 2 10) 3 500) 4 0)))), (ya2, .inl (k 0, 5, .inl (aI aZ))), (ya3, .inr (7, [.int (iI 0), .int (iI 0), .int (iI 0), .long (lI 0), .int (iI 0), .int (iI 0), .int (iI 0), .long (lI 0), .long (lI 0), .long (lI 0), .long (lI 0), .long (lI 0), .int (iI 0), .int (iI 0), .int (iI 0), .int (iI 0), .ref ya4])), (ya4, .inl (k 1, 8, .inr (.inl (aL aZ)))), (ya5, .inr (3, [.ref ya6, .ref ya7, .int (iI 0), .int (iI 0), .int (iI 0)])), (ya6, .inl (k 1, 264, .inr (.inl (aL aZ)))), (ya7, .inl (k 0, 264, .inl (aI aZ))), (ya8, .inr (6, [.ref ya9, .ref ya10, .ref ya11, .int (iI 0), .int (iI 0)])), (ya9, .inl (k 0, 60, .inl (aI aZ))), (ya10, .inl (k 0, 60, .inl (aI aZ))), (ya11, .inl (k 1, 60, .inr (.inl (aL aZ)))), (g3, .inr (4, [.ref xk, .ref xw])), (xk, .inl (k 0, 512, .inl (aI aZ))), (xw, .inl (k 0, 512, .inl (aI aZ)))] s.heap.size = A at hD hE ⊢
  have hA : ∀ q : Nat, s.heap.size ≤ q → A q := fun q h => by rw [← hAe]; exact Or.inr h
  have hS : va_S A s.heap s.heap [] := va_S.rf
  obtain ⟨hK, hNw, hNc, hZs, hAO1, hAO2⟩ := id hE
  have hSF : CallFix p mI cO cX10_command 3 s ([.ref h0, .int (iI 0), .int (iI xv)] : List Value).toArray woX10_command RX10 := ⟨hx, hb, hml, hown, hts⟩
  have hl := lv_entry ([.ref h0, .int (iI 0), .int (iI xv)] : List Value) (n := 3) (Nat.le_of_ble_eq_true rfl)
  rw [lg_entry_eq]
  generalize (lg_sl ([.ref h0, .int (iI 0), .int (iI xv)] : List Value) ++ List.replicate (3 - (lg_sl ([.ref h0, .int (iI 0), .int (iI xv)] : List Value)).length) Slot.unset).toArray = ls at hl ⊢
  have hl : lv_has ls 3 [(0, .ref h0), (1, .int (iI 0)), (2, .int (iI xv))] := hl
  refine W_gen (fun Q hQ => ?_)
  change W p l e ({ frames := 4, cells := 0, slots := 0, locals := 93 } : Room) s mI _ below meth cO s.heap [] 0 0 Q _
  have hP : va_P (dC, dI) vwCl [(h0, .inr (10, [.ref hn, .ref g1, .ref g2, .ref hea, .ref g3, .ref g4, .ref g5, .ref g6, .ref g7, .int (iI 0), .int (iI 0), .int (iI 0), .int (iI (-1)), .int (iI (-1)), .int (iI 0)])), (hea, .inl (k 6, 8, .inr (.inr (.inr (.inr xeF))))), (hn, .inr (2, [.ref xa1, .ref xa2, .ref xa3, .ref xa5, .ref xa8, .int (iI 0), .int (iI 0), .int (iI 0)])), (xa1, .inl (k 0, 5, .inl (aI (upI (upI (upI (upI (upI aZ 0 0) 1 0) 2 10) 3 500) 4 0)))), (xa2, .inl (k 0, 5, .inl (aI aZ))), (xa3, .inr (7, [.int (iI 0), .int (iI 0), .int (iI 0), .long (lI 0), .int (iI 0), .int (iI 0), .int (iI 0), .long (lI 0), .long (lI 0), .long (lI 0), .long (lI 0), .long (lI 0), .int (iI 0), .int (iI 0), .int (iI 0), .int (iI 0), .ref xa4])), (xa4, .inl (k 1, 8, .inr (.inl (aL aZ)))), (xa5, .inr (3, [.ref xa6, .ref xa7, .int (iI 0), .int (iI 0), .int (iI 0)])), (xa6, .inl (k 1, 264, .inr (.inl (aL aZ)))), (xa7, .inl (k 0, 264, .inl (aI aZ))), (xa8, .inr (6, [.ref xa9, .ref xa10, .ref xa11, .int (iI 0), .int (iI 0)])), (xa9, .inl (k 0, 60, .inl (aI aZ))), (xa10, .inl (k 0, 60, .inl (aI aZ))), (xa11, .inl (k 1, 60, .inr (.inl (aL aZ)))), (he0, .inr (2, [.ref ya1, .ref ya2, .ref ya3, .ref ya5, .ref ya8, .int (iI 0), .int (iI 0), .int (iI 0)])), (ya1, .inl (k 0, 5, .inl (aI (upI (upI (upI (upI (upI aZ 0 0) 1 0) 2 10) 3 500) 4 0)))), (ya2, .inl (k 0, 5, .inl (aI aZ))), (ya3, .inr (7, [.int (iI 0), .int (iI 0), .int (iI 0), .long (lI 0), .int (iI 0), .int (iI 0), .int (iI 0), .long (lI 0), .long (lI 0), .long (lI 0), .long (lI 0), .long (lI 0), .int (iI 0), .int (iI 0), .int (iI 0), .int (iI 0), .ref ya4])), (ya4, .inl (k 1, 8, .inr (.inl (aL aZ)))), (ya5, .inr (3, [.ref ya6, .ref ya7, .int (iI 0), .int (iI 0), .int (iI 0)])), (ya6, .inl (k 1, 264, .inr (.inl (aL aZ)))), (ya7, .inl (k 0, 264, .inl (aI aZ))), (ya8, .inr (6, [.ref ya9, .ref ya10, .ref ya11, .int (iI 0), .int (iI 0)])), (ya9, .inl (k 0, 60, .inl (aI aZ))), (ya10, .inl (k 0, 60, .inl (aI aZ))), (ya11, .inl (k 1, 60, .inr (.inl (aL aZ)))), (g3, .inr (4, [.ref xk, .ref xw])), (xk, .inl (k 0, 512, .inl (aI aZ))), (xw, .inl (k 0, 512, .inl (aI aZ)))] s.heap := hP
  refine lv_aload_n hx hb dX10_command_0 rfl (lv_at hl 0 rfl) ?_
  refine va_get (D := (dC, dI)) (ci := 10) (v := .ref hn) (C := RX10) (T := TX10) (N := 15) hx hb hts (fun _ h => List.mem_cons_of_mem _ (inlX10 _ h)) hown hK hP 0 rfl rfl 0 (by decide) (hts (.fieldLink RX10 10 "LoanServicing" "now" "LLoanServicing$Account;") (List.mem_cons_of_mem _ (wl_1 (List.mem_of_getElem? (i := 17) rfl)))) (fun _ h9 => h9) rfl dX10_command_1 ?_
  refine lv_iload_n hx hb dX10_command_4 rfl (lv_at hl 1 rfl) ?_
  refine lv_iload_n hx hb dX10_command_5 rfl (lv_at hl 2 rfl) ?_
  refine ki (va_runV (As := [.int (iI 0), .int (iI xv)]) (rest := []) hSF ((c_X0_refusal_0_0 l dC dI k hn xa1 xa2 xa3 xa4 xa5 0 0 xa8 0 0 0 xv (by omega) (by omega)) s.heap.size) (cwV 2 hts gX10_command_X0_refusal rfl rfl rfl (by decide +kernel) ⟨Nat.le_of_ble_eq_true rfl, Nat.le_of_ble_eq_true rfl⟩) (preV hP hD hE hS hA [2, 5] rfl (by decide) (ci := 2) (q0 := 2) rfl rfl) rfl rfl hl.1 rfl (lv_room (Nat.le_of_ble_eq_true rfl)) dX10_command_6 ⟨Nat.le_of_ble_eq_true rfl, Nat.le_of_ble_eq_true rfl⟩) hP hD hS hA [2, 5] [0, 1, 3, 4, 6, 7, 8, 9, 10, 11, 12, 13, 14, 15, 16, 17, 18, 19, 20, 21, 22, 23, 24, 25, 26, 27, 28] rfl (wr := [(h0, .inr (10, [.ref hn, .ref g1, .ref g2, .ref hea, .ref g3, .ref g4, .ref g5, .ref g6, .ref g7, .int (iI 0), .int (iI 0), .int (iI 0), .int (iI (-1)), .int (iI (-1)), .int (iI 0)])), (hea, .inl (k 6, 8, .inr (.inr (.inr (.inr xeF))))), (xa1, .inl (k 0, 5, .inl (aI (upI (upI (upI (upI (upI aZ 0 0) 1 0) 2 10) 3 500) 4 0)))), (xa2, .inl (k 0, 5, .inl (aI aZ))), (xa4, .inl (k 1, 8, .inr (.inl (aL aZ)))), (xa5, .inr (3, [.ref xa6, .ref xa7, .int (iI 0), .int (iI 0), .int (iI 0)])), (xa6, .inl (k 1, 264, .inr (.inl (aL aZ)))), (xa7, .inl (k 0, 264, .inl (aI aZ))), (xa8, .inr (6, [.ref xa9, .ref xa10, .ref xa11, .int (iI 0), .int (iI 0)])), (xa9, .inl (k 0, 60, .inl (aI aZ))), (xa10, .inl (k 0, 60, .inl (aI aZ))), (xa11, .inl (k 1, 60, .inr (.inl (aL aZ)))), (he0, .inr (2, [.ref ya1, .ref ya2, .ref ya3, .ref ya5, .ref ya8, .int (iI 0), .int (iI 0), .int (iI 0)])), (ya1, .inl (k 0, 5, .inl (aI (upI (upI (upI (upI (upI aZ 0 0) 1 0) 2 10) 3 500) 4 0)))), (ya2, .inl (k 0, 5, .inl (aI aZ))), (ya3, .inr (7, [.int (iI 0), .int (iI 0), .int (iI 0), .long (lI 0), .int (iI 0), .int (iI 0), .int (iI 0), .long (lI 0), .long (lI 0), .long (lI 0), .long (lI 0), .long (lI 0), .int (iI 0), .int (iI 0), .int (iI 0), .int (iI 0), .ref ya4])), (ya4, .inl (k 1, 8, .inr (.inl (aL aZ)))), (ya5, .inr (3, [.ref ya6, .ref ya7, .int (iI 0), .int (iI 0), .int (iI 0)])), (ya6, .inl (k 1, 264, .inr (.inl (aL aZ)))), (ya7, .inl (k 0, 264, .inl (aI aZ))), (ya8, .inr (6, [.ref ya9, .ref ya10, .ref ya11, .int (iI 0), .int (iI 0)])), (ya9, .inl (k 0, 60, .inl (aI aZ))), (ya10, .inl (k 0, 60, .inl (aI aZ))), (ya11, .inl (k 1, 60, .inr (.inl (aL aZ)))), (g3, .inr (4, [.ref xk, .ref xw])), (xk, .inl (k 0, 512, .inl (aI aZ))), (xw, .inl (k 0, 512, .inl (aI aZ)))]) rfl (by decide) (by decide) (fun r6 _ H locs hw hP hD hS => ?_)
  obtain rfl : r6 = (iI 0) := hw
  have hP : va_P (dC, dI) vwCl [(h0, .inr (10, [.ref hn, .ref g1, .ref g2, .ref hea, .ref g3, .ref g4, .ref g5, .ref g6, .ref g7, .int (iI 0), .int (iI 0), .int (iI 0), .int (iI (-1)), .int (iI (-1)), .int (iI 0)])), (hea, .inl (k 6, 8, .inr (.inr (.inr (.inr xeF))))), (xa1, .inl (k 0, 5, .inl (aI (upI (upI (upI (upI (upI aZ 0 0) 1 0) 2 10) 3 500) 4 0)))), (xa2, .inl (k 0, 5, .inl (aI aZ))), (xa4, .inl (k 1, 8, .inr (.inl (aL aZ)))), (xa5, .inr (3, [.ref xa6, .ref xa7, .int (iI 0), .int (iI 0), .int (iI 0)])), (xa6, .inl (k 1, 264, .inr (.inl (aL aZ)))), (xa7, .inl (k 0, 264, .inl (aI aZ))), (xa8, .inr (6, [.ref xa9, .ref xa10, .ref xa11, .int (iI 0), .int (iI 0)])), (xa9, .inl (k 0, 60, .inl (aI aZ))), (xa10, .inl (k 0, 60, .inl (aI aZ))), (xa11, .inl (k 1, 60, .inr (.inl (aL aZ)))), (he0, .inr (2, [.ref ya1, .ref ya2, .ref ya3, .ref ya5, .ref ya8, .int (iI 0), .int (iI 0), .int (iI 0)])), (ya1, .inl (k 0, 5, .inl (aI (upI (upI (upI (upI (upI aZ 0 0) 1 0) 2 10) 3 500) 4 0)))), (ya2, .inl (k 0, 5, .inl (aI aZ))), (ya3, .inr (7, [.int (iI 0), .int (iI 0), .int (iI 0), .long (lI 0), .int (iI 0), .int (iI 0), .int (iI 0), .long (lI 0), .long (lI 0), .long (lI 0), .long (lI 0), .long (lI 0), .int (iI 0), .int (iI 0), .int (iI 0), .int (iI 0), .ref ya4])), (ya4, .inl (k 1, 8, .inr (.inl (aL aZ)))), (ya5, .inr (3, [.ref ya6, .ref ya7, .int (iI 0), .int (iI 0), .int (iI 0)])), (ya6, .inl (k 1, 264, .inr (.inl (aL aZ)))), (ya7, .inl (k 0, 264, .inl (aI aZ))), (ya8, .inr (6, [.ref ya9, .ref ya10, .ref ya11, .int (iI 0), .int (iI 0)])), (ya9, .inl (k 0, 60, .inl (aI aZ))), (ya10, .inl (k 0, 60, .inl (aI aZ))), (ya11, .inl (k 1, 60, .inr (.inl (aL aZ)))), (g3, .inr (4, [.ref xk, .ref xw])), (xk, .inl (k 0, 512, .inl (aI aZ))), (xw, .inl (k 0, 512, .inl (aI aZ))), (hn, .inr (2, [.ref xa1, .ref xa2, .ref xa3, .ref xa5, .ref xa8, .int (iI 0), .int (iI 0), .int (iI 0)])), (xa3, .inr (7, [.int (iI 0), .int (iI 0), .int (iI 0), .long (lI 0), .int (iI 0), .int (iI 0), .int (iI 0), .long (lI 0), .long (lI 0), .long (lI 0), .long (lI 0), .long (lI 0), .int (iI 0), .int (iI 0), .int (iI 0), .int (iI 0), .ref xa4]))] H := hP
  have hD : va_D A [(h0, .inr (10, [.ref hn, .ref g1, .ref g2, .ref hea, .ref g3, .ref g4, .ref g5, .ref g6, .ref g7, .int (iI 0), .int (iI 0), .int (iI 0), .int (iI (-1)), .int (iI (-1)), .int (iI 0)])), (hea, .inl (k 6, 8, .inr (.inr (.inr (.inr xeF))))), (xa1, .inl (k 0, 5, .inl (aI (upI (upI (upI (upI (upI aZ 0 0) 1 0) 2 10) 3 500) 4 0)))), (xa2, .inl (k 0, 5, .inl (aI aZ))), (xa4, .inl (k 1, 8, .inr (.inl (aL aZ)))), (xa5, .inr (3, [.ref xa6, .ref xa7, .int (iI 0), .int (iI 0), .int (iI 0)])), (xa6, .inl (k 1, 264, .inr (.inl (aL aZ)))), (xa7, .inl (k 0, 264, .inl (aI aZ))), (xa8, .inr (6, [.ref xa9, .ref xa10, .ref xa11, .int (iI 0), .int (iI 0)])), (xa9, .inl (k 0, 60, .inl (aI aZ))), (xa10, .inl (k 0, 60, .inl (aI aZ))), (xa11, .inl (k 1, 60, .inr (.inl (aL aZ)))), (he0, .inr (2, [.ref ya1, .ref ya2, .ref ya3, .ref ya5, .ref ya8, .int (iI 0), .int (iI 0), .int (iI 0)])), (ya1, .inl (k 0, 5, .inl (aI (upI (upI (upI (upI (upI aZ 0 0) 1 0) 2 10) 3 500) 4 0)))), (ya2, .inl (k 0, 5, .inl (aI aZ))), (ya3, .inr (7, [.int (iI 0), .int (iI 0), .int (iI 0), .long (lI 0), .int (iI 0), .int (iI 0), .int (iI 0), .long (lI 0), .long (lI 0), .long (lI 0), .long (lI 0), .long (lI 0), .int (iI 0), .int (iI 0), .int (iI 0), .int (iI 0), .ref ya4])), (ya4, .inl (k 1, 8, .inr (.inl (aL aZ)))), (ya5, .inr (3, [.ref ya6, .ref ya7, .int (iI 0), .int (iI 0), .int (iI 0)])), (ya6, .inl (k 1, 264, .inr (.inl (aL aZ)))), (ya7, .inl (k 0, 264, .inl (aI aZ))), (ya8, .inr (6, [.ref ya9, .ref ya10, .ref ya11, .int (iI 0), .int (iI 0)])), (ya9, .inl (k 0, 60, .inl (aI aZ))), (ya10, .inl (k 0, 60, .inl (aI aZ))), (ya11, .inl (k 1, 60, .inr (.inl (aL aZ)))), (g3, .inr (4, [.ref xk, .ref xw])), (xk, .inl (k 0, 512, .inl (aI aZ))), (xw, .inl (k 0, 512, .inl (aI aZ))), (hn, .inr (2, [.ref xa1, .ref xa2, .ref xa3, .ref xa5, .ref xa8, .int (iI 0), .int (iI 0), .int (iI 0)])), (xa3, .inr (7, [.int (iI 0), .int (iI 0), .int (iI 0), .long (lI 0), .int (iI 0), .int (iI 0), .int (iI 0), .long (lI 0), .long (lI 0), .long (lI 0), .long (lI 0), .long (lI 0), .int (iI 0), .int (iI 0), .int (iI 0), .int (iI 0), .ref xa4]))] := hD
  refine kv (va_runS (As := [.int (iI 0)]) (rest := []) hSF ((c_X10_refuse_0 l dC dI k ) H.size) (va_cwS 1 hts gX10_command_X10_refuse rfl rfl rfl (by decide +kernel) ⟨Nat.le_of_ble_eq_true rfl, Nat.le_of_ble_eq_true rfl⟩) (preS hP hD hE hS hA [] rfl (by decide)) rfl rfl hl.1 rfl (lv_room (Nat.le_of_ble_eq_true rfl)) dX10_command_9 ⟨Nat.le_of_ble_eq_true rfl, Nat.le_of_ble_eq_true rfl⟩) hP hD hS hA [] [0, 1, 2, 3, 4, 5, 6, 7, 8, 9, 10, 11, 12, 13, 14, 15, 16, 17, 18, 19, 20, 21, 22, 23, 24, 25, 26, 27, 28] rfl (wr := [(h0, .inr (10, [.ref hn, .ref g1, .ref g2, .ref hea, .ref g3, .ref g4, .ref g5, .ref g6, .ref g7, .int (iI 0), .int (iI 0), .int (iI 0), .int (iI (-1)), .int (iI (-1)), .int (iI 0)])), (hea, .inl (k 6, 8, .inr (.inr (.inr (.inr xeF))))), (xa1, .inl (k 0, 5, .inl (aI (upI (upI (upI (upI (upI aZ 0 0) 1 0) 2 10) 3 500) 4 0)))), (xa2, .inl (k 0, 5, .inl (aI aZ))), (xa4, .inl (k 1, 8, .inr (.inl (aL aZ)))), (xa5, .inr (3, [.ref xa6, .ref xa7, .int (iI 0), .int (iI 0), .int (iI 0)])), (xa6, .inl (k 1, 264, .inr (.inl (aL aZ)))), (xa7, .inl (k 0, 264, .inl (aI aZ))), (xa8, .inr (6, [.ref xa9, .ref xa10, .ref xa11, .int (iI 0), .int (iI 0)])), (xa9, .inl (k 0, 60, .inl (aI aZ))), (xa10, .inl (k 0, 60, .inl (aI aZ))), (xa11, .inl (k 1, 60, .inr (.inl (aL aZ)))), (he0, .inr (2, [.ref ya1, .ref ya2, .ref ya3, .ref ya5, .ref ya8, .int (iI 0), .int (iI 0), .int (iI 0)])), (ya1, .inl (k 0, 5, .inl (aI (upI (upI (upI (upI (upI aZ 0 0) 1 0) 2 10) 3 500) 4 0)))), (ya2, .inl (k 0, 5, .inl (aI aZ))), (ya3, .inr (7, [.int (iI 0), .int (iI 0), .int (iI 0), .long (lI 0), .int (iI 0), .int (iI 0), .int (iI 0), .long (lI 0), .long (lI 0), .long (lI 0), .long (lI 0), .long (lI 0), .int (iI 0), .int (iI 0), .int (iI 0), .int (iI 0), .ref ya4])), (ya4, .inl (k 1, 8, .inr (.inl (aL aZ)))), (ya5, .inr (3, [.ref ya6, .ref ya7, .int (iI 0), .int (iI 0), .int (iI 0)])), (ya6, .inl (k 1, 264, .inr (.inl (aL aZ)))), (ya7, .inl (k 0, 264, .inl (aI aZ))), (ya8, .inr (6, [.ref ya9, .ref ya10, .ref ya11, .int (iI 0), .int (iI 0)])), (ya9, .inl (k 0, 60, .inl (aI aZ))), (ya10, .inl (k 0, 60, .inl (aI aZ))), (ya11, .inl (k 1, 60, .inr (.inl (aL aZ)))), (g3, .inr (4, [.ref xk, .ref xw])), (xk, .inl (k 0, 512, .inl (aI aZ))), (xw, .inl (k 0, 512, .inl (aI aZ))), (hn, .inr (2, [.ref xa1, .ref xa2, .ref xa3, .ref xa5, .ref xa8, .int (iI 0), .int (iI 0), .int (iI 0)])), (xa3, .inr (7, [.int (iI 0), .int (iI 0), .int (iI 0), .long (lI 0), .int (iI 0), .int (iI 0), .int (iI 0), .long (lI 0), .long (lI 0), .long (lI 0), .long (lI 0), .long (lI 0), .int (iI 0), .int (iI 0), .int (iI 0), .int (iI 0), .ref xa4]))]) rfl (by decide) (by decide) (fun _ H locs hw hP hD hS => ?_)
  have hP : va_P (dC, dI) vwCl [(h0, .inr (10, [.ref hn, .ref g1, .ref g2, .ref hea, .ref g3, .ref g4, .ref g5, .ref g6, .ref g7, .int (iI 0), .int (iI 0), .int (iI 0), .int (iI (-1)), .int (iI (-1)), .int (iI 0)])), (hea, .inl (k 6, 8, .inr (.inr (.inr (.inr xeF))))), (xa1, .inl (k 0, 5, .inl (aI (upI (upI (upI (upI (upI aZ 0 0) 1 0) 2 10) 3 500) 4 0)))), (xa2, .inl (k 0, 5, .inl (aI aZ))), (xa4, .inl (k 1, 8, .inr (.inl (aL aZ)))), (xa5, .inr (3, [.ref xa6, .ref xa7, .int (iI 0), .int (iI 0), .int (iI 0)])), (xa6, .inl (k 1, 264, .inr (.inl (aL aZ)))), (xa7, .inl (k 0, 264, .inl (aI aZ))), (xa8, .inr (6, [.ref xa9, .ref xa10, .ref xa11, .int (iI 0), .int (iI 0)])), (xa9, .inl (k 0, 60, .inl (aI aZ))), (xa10, .inl (k 0, 60, .inl (aI aZ))), (xa11, .inl (k 1, 60, .inr (.inl (aL aZ)))), (he0, .inr (2, [.ref ya1, .ref ya2, .ref ya3, .ref ya5, .ref ya8, .int (iI 0), .int (iI 0), .int (iI 0)])), (ya1, .inl (k 0, 5, .inl (aI (upI (upI (upI (upI (upI aZ 0 0) 1 0) 2 10) 3 500) 4 0)))), (ya2, .inl (k 0, 5, .inl (aI aZ))), (ya3, .inr (7, [.int (iI 0), .int (iI 0), .int (iI 0), .long (lI 0), .int (iI 0), .int (iI 0), .int (iI 0), .long (lI 0), .long (lI 0), .long (lI 0), .long (lI 0), .long (lI 0), .int (iI 0), .int (iI 0), .int (iI 0), .int (iI 0), .ref ya4])), (ya4, .inl (k 1, 8, .inr (.inl (aL aZ)))), (ya5, .inr (3, [.ref ya6, .ref ya7, .int (iI 0), .int (iI 0), .int (iI 0)])), (ya6, .inl (k 1, 264, .inr (.inl (aL aZ)))), (ya7, .inl (k 0, 264, .inl (aI aZ))), (ya8, .inr (6, [.ref ya9, .ref ya10, .ref ya11, .int (iI 0), .int (iI 0)])), (ya9, .inl (k 0, 60, .inl (aI aZ))), (ya10, .inl (k 0, 60, .inl (aI aZ))), (ya11, .inl (k 1, 60, .inr (.inl (aL aZ)))), (g3, .inr (4, [.ref xk, .ref xw])), (xk, .inl (k 0, 512, .inl (aI aZ))), (xw, .inl (k 0, 512, .inl (aI aZ))), (hn, .inr (2, [.ref xa1, .ref xa2, .ref xa3, .ref xa5, .ref xa8, .int (iI 0), .int (iI 0), .int (iI 0)])), (xa3, .inr (7, [.int (iI 0), .int (iI 0), .int (iI 0), .long (lI 0), .int (iI 0), .int (iI 0), .int (iI 0), .long (lI 0), .long (lI 0), .long (lI 0), .long (lI 0), .long (lI 0), .int (iI 0), .int (iI 0), .int (iI 0), .int (iI 0), .ref xa4]))] H := hP
  have hD : va_D A [(h0, .inr (10, [.ref hn, .ref g1, .ref g2, .ref hea, .ref g3, .ref g4, .ref g5, .ref g6, .ref g7, .int (iI 0), .int (iI 0), .int (iI 0), .int (iI (-1)), .int (iI (-1)), .int (iI 0)])), (hea, .inl (k 6, 8, .inr (.inr (.inr (.inr xeF))))), (xa1, .inl (k 0, 5, .inl (aI (upI (upI (upI (upI (upI aZ 0 0) 1 0) 2 10) 3 500) 4 0)))), (xa2, .inl (k 0, 5, .inl (aI aZ))), (xa4, .inl (k 1, 8, .inr (.inl (aL aZ)))), (xa5, .inr (3, [.ref xa6, .ref xa7, .int (iI 0), .int (iI 0), .int (iI 0)])), (xa6, .inl (k 1, 264, .inr (.inl (aL aZ)))), (xa7, .inl (k 0, 264, .inl (aI aZ))), (xa8, .inr (6, [.ref xa9, .ref xa10, .ref xa11, .int (iI 0), .int (iI 0)])), (xa9, .inl (k 0, 60, .inl (aI aZ))), (xa10, .inl (k 0, 60, .inl (aI aZ))), (xa11, .inl (k 1, 60, .inr (.inl (aL aZ)))), (he0, .inr (2, [.ref ya1, .ref ya2, .ref ya3, .ref ya5, .ref ya8, .int (iI 0), .int (iI 0), .int (iI 0)])), (ya1, .inl (k 0, 5, .inl (aI (upI (upI (upI (upI (upI aZ 0 0) 1 0) 2 10) 3 500) 4 0)))), (ya2, .inl (k 0, 5, .inl (aI aZ))), (ya3, .inr (7, [.int (iI 0), .int (iI 0), .int (iI 0), .long (lI 0), .int (iI 0), .int (iI 0), .int (iI 0), .long (lI 0), .long (lI 0), .long (lI 0), .long (lI 0), .long (lI 0), .int (iI 0), .int (iI 0), .int (iI 0), .int (iI 0), .ref ya4])), (ya4, .inl (k 1, 8, .inr (.inl (aL aZ)))), (ya5, .inr (3, [.ref ya6, .ref ya7, .int (iI 0), .int (iI 0), .int (iI 0)])), (ya6, .inl (k 1, 264, .inr (.inl (aL aZ)))), (ya7, .inl (k 0, 264, .inl (aI aZ))), (ya8, .inr (6, [.ref ya9, .ref ya10, .ref ya11, .int (iI 0), .int (iI 0)])), (ya9, .inl (k 0, 60, .inl (aI aZ))), (ya10, .inl (k 0, 60, .inl (aI aZ))), (ya11, .inl (k 1, 60, .inr (.inl (aL aZ)))), (g3, .inr (4, [.ref xk, .ref xw])), (xk, .inl (k 0, 512, .inl (aI aZ))), (xw, .inl (k 0, 512, .inl (aI aZ))), (hn, .inr (2, [.ref xa1, .ref xa2, .ref xa3, .ref xa5, .ref xa8, .int (iI 0), .int (iI 0), .int (iI 0)])), (xa3, .inr (7, [.int (iI 0), .int (iI 0), .int (iI 0), .long (lI 0), .int (iI 0), .int (iI 0), .int (iI 0), .long (lI 0), .long (lI 0), .long (lI 0), .long (lI 0), .long (lI 0), .int (iI 0), .int (iI 0), .int (iI 0), .int (iI 0), .ref xa4]))] := hD
  refine lv_aload_n hx hb dX10_command_12 rfl (lv_at hl 0 rfl) ?_
  refine kv (va_runV (As := []) (rest := []) hSF ((c_X10_remember l dC dI k h0 hn g1 g2 hea g3 g4 g5 g6 g7 he0 xa1 xa2 xa3 xa4 xa5 xa6 xa7 xa8 xa9 xa10 xa11 ya1 ya2 ya3 ya4 ya5 ya6 ya7 ya8 ya9 ya10 ya11 xeF hea0) H.size) (cwV 0 hts gX10_command_X10_remember rfl rfl rfl (by decide +kernel) ⟨Nat.le_of_ble_eq_true rfl, Nat.le_of_ble_eq_true rfl⟩) (preV hP hD hE hS hA [0, 1, 27, 2, 3, 28, 4, 5, 6, 7, 8, 9, 10, 11, 12, 13, 14, 15, 16, 17, 18, 19, 20, 21, 22, 23] rfl (by decide) (ci := 10) (q0 := 0) rfl rfl) rfl rfl hl.1 rfl (lv_room (Nat.le_of_ble_eq_true rfl)) dX10_command_13 ⟨Nat.le_of_ble_eq_true rfl, Nat.le_of_ble_eq_true rfl⟩) hP hD hS hA [0, 1, 27, 2, 3, 28, 4, 5, 6, 7, 8, 9, 10, 11, 12, 13, 14, 15, 16, 17, 18, 19, 20, 21, 22, 23] [24, 25, 26] rfl (wr := [(g3, .inr (4, [.ref xk, .ref xw])), (xk, .inl (k 0, 512, .inl (aI aZ))), (xw, .inl (k 0, 512, .inl (aI aZ)))]) rfl (by decide) (by decide) (fun _ H locs hw hP hD hS => ?_)
  have hP : va_P (dC, dI) vwCl [(g3, .inr (4, [.ref xk, .ref xw])), (xk, .inl (k 0, 512, .inl (aI aZ))), (xw, .inl (k 0, 512, .inl (aI aZ))), (h0, .inr (10, [.ref hn, .ref g1, .ref g2, .ref hea, .ref g3, .ref g4, .ref g5, .ref g6, .ref g7, .int (iI 1), .int (iI 1), .int (iI 0), .int (iI (-1)), .int (iI (-1)), .int (iI 0)])), (hn, .inr (2, [.ref xa1, .ref xa2, .ref xa3, .ref xa5, .ref xa8, .int (iI 0), .int (iI 0), .int (iI 0)])), (xa1, .inl (k 0, 5, .inl (aI (upI (upI (upI (upI (upI aZ 0 0) 1 0) 2 10) 3 500) 4 0)))), (xa2, .inl (k 0, 5, .inl (aI aZ))), (xa3, .inr (7, [.int (iI 0), .int (iI 0), .int (iI 0), .long (lI 0), .int (iI 0), .int (iI 0), .int (iI 0), .long (lI 0), .long (lI 0), .long (lI 0), .long (lI 0), .long (lI 0), .int (iI 0), .int (iI 0), .int (iI 0), .int (iI 0), .ref xa4])), (xa4, .inl (k 1, 8, .inr (.inl (aL aZ)))), (xa5, .inr (3, [.ref xa6, .ref xa7, .int (iI 0), .int (iI 0), .int (iI 0)])), (xa6, .inl (k 1, 264, .inr (.inl (aL aZ)))), (xa7, .inl (k 0, 264, .inl (aI aZ))), (xa8, .inr (6, [.ref xa9, .ref xa10, .ref xa11, .int (iI 0), .int (iI 0)])), (xa9, .inl (k 0, 60, .inl (aI aZ))), (xa10, .inl (k 0, 60, .inl (aI aZ))), (xa11, .inl (k 1, 60, .inr (.inl (aL aZ))))] H := hP
  have hD : va_D A [(g3, .inr (4, [.ref xk, .ref xw])), (xk, .inl (k 0, 512, .inl (aI aZ))), (xw, .inl (k 0, 512, .inl (aI aZ))), (h0, .inr (10, [.ref hn, .ref g1, .ref g2, .ref hea, .ref g3, .ref g4, .ref g5, .ref g6, .ref g7, .int (iI 1), .int (iI 1), .int (iI 0), .int (iI (-1)), .int (iI (-1)), .int (iI 0)])), (hn, .inr (2, [.ref xa1, .ref xa2, .ref xa3, .ref xa5, .ref xa8, .int (iI 0), .int (iI 0), .int (iI 0)])), (xa1, .inl (k 0, 5, .inl (aI (upI (upI (upI (upI (upI aZ 0 0) 1 0) 2 10) 3 500) 4 0)))), (xa2, .inl (k 0, 5, .inl (aI aZ))), (xa3, .inr (7, [.int (iI 0), .int (iI 0), .int (iI 0), .long (lI 0), .int (iI 0), .int (iI 0), .int (iI 0), .long (lI 0), .long (lI 0), .long (lI 0), .long (lI 0), .long (lI 0), .int (iI 0), .int (iI 0), .int (iI 0), .int (iI 0), .ref xa4])), (xa4, .inl (k 1, 8, .inr (.inl (aL aZ)))), (xa5, .inr (3, [.ref xa6, .ref xa7, .int (iI 0), .int (iI 0), .int (iI 0)])), (xa6, .inl (k 1, 264, .inr (.inl (aL aZ)))), (xa7, .inl (k 0, 264, .inl (aI aZ))), (xa8, .inr (6, [.ref xa9, .ref xa10, .ref xa11, .int (iI 0), .int (iI 0)])), (xa9, .inl (k 0, 60, .inl (aI aZ))), (xa10, .inl (k 0, 60, .inl (aI aZ))), (xa11, .inl (k 1, 60, .inr (.inl (aL aZ))))] := hD
  refine lv_aload_n hx hb dX10_command_16 rfl (lv_at hl 0 rfl) ?_
  refine va_get (D := (dC, dI)) (ci := 10) (v := .ref g3) (C := RX10) (T := TX10) (N := 15) hx hb hts (fun _ h => List.mem_cons_of_mem _ (inlX10 _ h)) hown hK hP 3 rfl rfl 4 (by decide) (hts (.fieldLink RX10 29 "LoanServicing" "history" "LLoanServicing$History;") (List.mem_cons_of_mem _ (wl_2 (List.mem_of_getElem? (i := 0) rfl)))) (fun _ h9 => h9) rfl dX10_command_17 ?_
  refine lv_aload_n hx hb dX10_command_20 rfl (lv_at hl 0 rfl) ?_
  refine va_get (D := (dC, dI)) (ci := 10) (v := .ref hn) (C := RX10) (T := TX10) (N := 15) hx hb hts (fun _ h => List.mem_cons_of_mem _ (inlX10 _ h)) hown hK hP 3 rfl rfl 0 (by decide) (hts (.fieldLink RX10 10 "LoanServicing" "now" "LLoanServicing$Account;") (List.mem_cons_of_mem _ (wl_1 (List.mem_of_getElem? (i := 17) rfl)))) (fun _ h9 => h9) rfl dX10_command_21 ?_
  refine lv_iload_n hx hb dX10_command_24 rfl (lv_at hl 1 rfl) ?_
  refine lv_iload_n hx hb dX10_command_25 rfl (lv_at hl 2 rfl) ?_
  refine kv (va_runV (As := [.ref hn, .int (iI 0), .int (iI xv)]) (rest := []) hSF ((c_X3_note l dC dI k g3 xk xw hn xa1 xa2 xa3 0 xa5 0 0 xa8 0 0 0 0 xv) H.size) (cwV 3 hts gX10_command_X3_note rfl rfl rfl (by decide +kernel) ⟨Nat.le_of_ble_eq_true rfl, Nat.le_of_ble_eq_true rfl⟩) (preV hP hD hE hS hA [0, 1, 2, 4] rfl (by decide) (ci := 4) (q0 := 0) rfl rfl) rfl rfl hl.1 rfl (lv_room (Nat.le_of_ble_eq_true rfl)) dX10_command_26 ⟨Nat.le_of_ble_eq_true rfl, Nat.le_of_ble_eq_true rfl⟩) hP hD hS hA [0, 1, 2, 4] [3, 5, 6, 7, 8, 9, 10, 11, 12, 13, 14, 15] rfl (wr := [(h0, .inr (10, [.ref hn, .ref g1, .ref g2, .ref hea, .ref g3, .ref g4, .ref g5, .ref g6, .ref g7, .int (iI 1), .int (iI 1), .int (iI 0), .int (iI (-1)), .int (iI (-1)), .int (iI 0)])), (xa1, .inl (k 0, 5, .inl (aI (upI (upI (upI (upI (upI aZ 0 0) 1 0) 2 10) 3 500) 4 0)))), (xa2, .inl (k 0, 5, .inl (aI aZ))), (xa3, .inr (7, [.int (iI 0), .int (iI 0), .int (iI 0), .long (lI 0), .int (iI 0), .int (iI 0), .int (iI 0), .long (lI 0), .long (lI 0), .long (lI 0), .long (lI 0), .long (lI 0), .int (iI 0), .int (iI 0), .int (iI 0), .int (iI 0), .ref xa4])), (xa4, .inl (k 1, 8, .inr (.inl (aL aZ)))), (xa5, .inr (3, [.ref xa6, .ref xa7, .int (iI 0), .int (iI 0), .int (iI 0)])), (xa6, .inl (k 1, 264, .inr (.inl (aL aZ)))), (xa7, .inl (k 0, 264, .inl (aI aZ))), (xa8, .inr (6, [.ref xa9, .ref xa10, .ref xa11, .int (iI 0), .int (iI 0)])), (xa9, .inl (k 0, 60, .inl (aI aZ))), (xa10, .inl (k 0, 60, .inl (aI aZ))), (xa11, .inl (k 1, 60, .inr (.inl (aL aZ))))]) rfl (by decide) (by decide) (fun _ H locs hw hP hD hS => ?_)
  have hP : va_P (dC, dI) vwCl [(h0, .inr (10, [.ref hn, .ref g1, .ref g2, .ref hea, .ref g3, .ref g4, .ref g5, .ref g6, .ref g7, .int (iI 1), .int (iI 1), .int (iI 0), .int (iI (-1)), .int (iI (-1)), .int (iI 0)])), (xa1, .inl (k 0, 5, .inl (aI (upI (upI (upI (upI (upI aZ 0 0) 1 0) 2 10) 3 500) 4 0)))), (xa2, .inl (k 0, 5, .inl (aI aZ))), (xa3, .inr (7, [.int (iI 0), .int (iI 0), .int (iI 0), .long (lI 0), .int (iI 0), .int (iI 0), .int (iI 0), .long (lI 0), .long (lI 0), .long (lI 0), .long (lI 0), .long (lI 0), .int (iI 0), .int (iI 0), .int (iI 0), .int (iI 0), .ref xa4])), (xa4, .inl (k 1, 8, .inr (.inl (aL aZ)))), (xa5, .inr (3, [.ref xa6, .ref xa7, .int (iI 0), .int (iI 0), .int (iI 0)])), (xa6, .inl (k 1, 264, .inr (.inl (aL aZ)))), (xa7, .inl (k 0, 264, .inl (aI aZ))), (xa8, .inr (6, [.ref xa9, .ref xa10, .ref xa11, .int (iI 0), .int (iI 0)])), (xa9, .inl (k 0, 60, .inl (aI aZ))), (xa10, .inl (k 0, 60, .inl (aI aZ))), (xa11, .inl (k 1, 60, .inr (.inl (aL aZ)))), (hn, .inr (2, [.ref xa1, .ref xa2, .ref xa3, .ref xa5, .ref xa8, .int (iI 0), .int (iI 0), .int (iI 1)]))] H := hP
  have hD : va_D A [(h0, .inr (10, [.ref hn, .ref g1, .ref g2, .ref hea, .ref g3, .ref g4, .ref g5, .ref g6, .ref g7, .int (iI 1), .int (iI 1), .int (iI 0), .int (iI (-1)), .int (iI (-1)), .int (iI 0)])), (xa1, .inl (k 0, 5, .inl (aI (upI (upI (upI (upI (upI aZ 0 0) 1 0) 2 10) 3 500) 4 0)))), (xa2, .inl (k 0, 5, .inl (aI aZ))), (xa3, .inr (7, [.int (iI 0), .int (iI 0), .int (iI 0), .long (lI 0), .int (iI 0), .int (iI 0), .int (iI 0), .long (lI 0), .long (lI 0), .long (lI 0), .long (lI 0), .long (lI 0), .int (iI 0), .int (iI 0), .int (iI 0), .int (iI 0), .ref xa4])), (xa4, .inl (k 1, 8, .inr (.inl (aL aZ)))), (xa5, .inr (3, [.ref xa6, .ref xa7, .int (iI 0), .int (iI 0), .int (iI 0)])), (xa6, .inl (k 1, 264, .inr (.inl (aL aZ)))), (xa7, .inl (k 0, 264, .inl (aI aZ))), (xa8, .inr (6, [.ref xa9, .ref xa10, .ref xa11, .int (iI 0), .int (iI 0)])), (xa9, .inl (k 0, 60, .inl (aI aZ))), (xa10, .inl (k 0, 60, .inl (aI aZ))), (xa11, .inl (k 1, 60, .inr (.inl (aL aZ)))), (hn, .inr (2, [.ref xa1, .ref xa2, .ref xa3, .ref xa5, .ref xa8, .int (iI 0), .int (iI 0), .int (iI 1)]))] := hD
  refine lv_aload_n hx hb dX10_command_29 rfl (lv_at hl 0 rfl) ?_
  refine va_get (D := (dC, dI)) (ci := 10) (v := .ref hn) (C := RX10) (T := TX10) (N := 15) hx hb hts (fun _ h => List.mem_cons_of_mem _ (inlX10 _ h)) hown hK hP 0 rfl rfl 0 (by decide) (hts (.fieldLink RX10 10 "LoanServicing" "now" "LLoanServicing$Account;") (List.mem_cons_of_mem _ (wl_1 (List.mem_of_getElem? (i := 17) rfl)))) (fun _ h9 => h9) rfl dX10_command_30 ?_
  refine lv_iload_n hx hb dX10_command_33 rfl (lv_at hl 1 rfl) ?_
  refine lv_iload_n hx hb dX10_command_34 rfl (lv_at hl 2 rfl) ?_
  refine lv_aload_n hx hb dX10_command_35 rfl (lv_at hl 0 rfl) ?_
  refine va_get (D := (dC, dI)) (ci := 10) (v := .ref g5) (C := RX10) (T := TX10) (N := 15) hx hb hts (fun _ h => List.mem_cons_of_mem _ (inlX10 _ h)) hown hK hP 0 rfl rfl 6 (by decide) (hts (.fieldLink RX10 39 "LoanServicing" "projection" "LLoanServicing$Projection;") (List.mem_cons_of_mem _ (wl_2 (List.mem_of_getElem? (i := 5) rfl)))) (fun _ h9 => h9) rfl dX10_command_36 ?_
  refine q_iconst hx hb dX10_command_39 ?_
  refine ki (va_runV (As := [.int (iI 0), .int (iI xv), .ref g5, .int (iI 0)]) (rest := []) hSF ((c_X0_carryOut_0 l dC dI k hn g5 xa1 xa2 xa3 0 xa5 0 0 xa8 0 0 0 xv) H.size) (cwV 4 hts gX10_command_X0_carryOut rfl rfl rfl (by decide +kernel) ⟨Nat.le_of_ble_eq_true rfl, Nat.le_of_ble_eq_true rfl⟩) (preV hP hD hE hS hA [12, 1] rfl (by decide) (ci := 2) (q0 := 12) rfl rfl) rfl rfl hl.1 rfl (lv_room (Nat.le_of_ble_eq_true rfl)) dX10_command_40 ⟨Nat.le_of_ble_eq_true rfl, Nat.le_of_ble_eq_true rfl⟩) hP hD hS hA [12, 1] [0, 2, 3, 4, 5, 6, 7, 8, 9, 10, 11] rfl (wr := [(h0, .inr (10, [.ref hn, .ref g1, .ref g2, .ref hea, .ref g3, .ref g4, .ref g5, .ref g6, .ref g7, .int (iI 1), .int (iI 1), .int (iI 0), .int (iI (-1)), .int (iI (-1)), .int (iI 0)])), (xa2, .inl (k 0, 5, .inl (aI aZ))), (xa3, .inr (7, [.int (iI 0), .int (iI 0), .int (iI 0), .long (lI 0), .int (iI 0), .int (iI 0), .int (iI 0), .long (lI 0), .long (lI 0), .long (lI 0), .long (lI 0), .long (lI 0), .int (iI 0), .int (iI 0), .int (iI 0), .int (iI 0), .ref xa4])), (xa4, .inl (k 1, 8, .inr (.inl (aL aZ)))), (xa5, .inr (3, [.ref xa6, .ref xa7, .int (iI 0), .int (iI 0), .int (iI 0)])), (xa6, .inl (k 1, 264, .inr (.inl (aL aZ)))), (xa7, .inl (k 0, 264, .inl (aI aZ))), (xa8, .inr (6, [.ref xa9, .ref xa10, .ref xa11, .int (iI 0), .int (iI 0)])), (xa9, .inl (k 0, 60, .inl (aI aZ))), (xa10, .inl (k 0, 60, .inl (aI aZ))), (xa11, .inl (k 1, 60, .inr (.inl (aL aZ))))]) rfl (by decide) (by decide) (fun r40 _ H locs hw hP hD hS => ?_)
  obtain rfl : r40 = (iI 0) := hw
  have hP : va_P (dC, dI) vwCl [(h0, .inr (10, [.ref hn, .ref g1, .ref g2, .ref hea, .ref g3, .ref g4, .ref g5, .ref g6, .ref g7, .int (iI 1), .int (iI 1), .int (iI 0), .int (iI (-1)), .int (iI (-1)), .int (iI 0)])), (xa2, .inl (k 0, 5, .inl (aI aZ))), (xa3, .inr (7, [.int (iI 0), .int (iI 0), .int (iI 0), .long (lI 0), .int (iI 0), .int (iI 0), .int (iI 0), .long (lI 0), .long (lI 0), .long (lI 0), .long (lI 0), .long (lI 0), .int (iI 0), .int (iI 0), .int (iI 0), .int (iI 0), .ref xa4])), (xa4, .inl (k 1, 8, .inr (.inl (aL aZ)))), (xa5, .inr (3, [.ref xa6, .ref xa7, .int (iI 0), .int (iI 0), .int (iI 0)])), (xa6, .inl (k 1, 264, .inr (.inl (aL aZ)))), (xa7, .inl (k 0, 264, .inl (aI aZ))), (xa8, .inr (6, [.ref xa9, .ref xa10, .ref xa11, .int (iI 0), .int (iI 0)])), (xa9, .inl (k 0, 60, .inl (aI aZ))), (xa10, .inl (k 0, 60, .inl (aI aZ))), (xa11, .inl (k 1, 60, .inr (.inl (aL aZ))))] H := hP
  have hD : va_D A [(h0, .inr (10, [.ref hn, .ref g1, .ref g2, .ref hea, .ref g3, .ref g4, .ref g5, .ref g6, .ref g7, .int (iI 1), .int (iI 1), .int (iI 0), .int (iI (-1)), .int (iI (-1)), .int (iI 0)])), (xa2, .inl (k 0, 5, .inl (aI aZ))), (xa3, .inr (7, [.int (iI 0), .int (iI 0), .int (iI 0), .long (lI 0), .int (iI 0), .int (iI 0), .int (iI 0), .long (lI 0), .long (lI 0), .long (lI 0), .long (lI 0), .long (lI 0), .int (iI 0), .int (iI 0), .int (iI 0), .int (iI 0), .ref xa4])), (xa4, .inl (k 1, 8, .inr (.inl (aL aZ)))), (xa5, .inr (3, [.ref xa6, .ref xa7, .int (iI 0), .int (iI 0), .int (iI 0)])), (xa6, .inl (k 1, 264, .inr (.inl (aL aZ)))), (xa7, .inl (k 0, 264, .inl (aI aZ))), (xa8, .inr (6, [.ref xa9, .ref xa10, .ref xa11, .int (iI 0), .int (iI 0)])), (xa9, .inl (k 0, 60, .inl (aI aZ))), (xa10, .inl (k 0, 60, .inl (aI aZ))), (xa11, .inl (k 1, 60, .inr (.inl (aL aZ))))] := hD
  rw [hQ]
  refine W.widen (k := 0) (n := 0) (Nat.le_of_ble_eq_true rfl) (Nat.le_of_ble_eq_true rfl) ?_
  exact W.iret (v := (iI 0)) hx hb hr (fun t ht hW => ⟨⟨(iI 0), (), rfl, rfl, by rw [ht]; exact hP.sub [] rfl, by rw [hAe]; exact hD.sub [] (by decide) rfl⟩, hS.F ht⟩) hS.2.2 dX10_command_43
