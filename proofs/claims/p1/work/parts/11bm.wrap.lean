theorem gL_append_X10_append : GoodIn woL_append (wsV RL 74 RX10 yX10_append woX10_append) := go_V (wl_36 (List.mem_of_getElem? (i := 2) rfl)) (wl_35 (List.mem_of_getElem? (i := 23) rfl)) (wl_36 (List.mem_of_getElem? (i := 0) rfl)) (wl_36 (List.mem_of_getElem? (i := 1) rfl)) (wl_1 (List.mem_of_getElem? (i := 2) rfl))
theorem gL_copyRow_X10_copyRow : GoodIn woL_copyRow (wsV RL 101 RX10 yX10_copyRow woX10_copyRow) := go_V (wl_44 (List.mem_of_getElem? (i := 13) rfl)) (wl_44 (List.mem_of_getElem? (i := 10) rfl)) (wl_44 (List.mem_of_getElem? (i := 11) rfl)) (wl_44 (List.mem_of_getElem? (i := 12) rfl)) (wl_1 (List.mem_of_getElem? (i := 2) rfl))
theorem gL_errorPosition_X10_errorPosition : GoodIn woL_errorPosition (wsV RL 82 RX10 yX10_errorPosition woX10_errorPosition) := go_V (wl_39 (List.mem_of_getElem? (i := 14) rfl)) (wl_39 (List.mem_of_getElem? (i := 11) rfl)) (wl_39 (List.mem_of_getElem? (i := 12) rfl)) (wl_39 (List.mem_of_getElem? (i := 13) rfl)) (wl_1 (List.mem_of_getElem? (i := 2) rfl))
theorem gL_execute_X10_execute : GoodIn woL_execute (wsV RL 78 RX10 yX10_execute woX10_execute) := go_V (wl_36 (List.mem_of_getElem? (i := 23) rfl)) (wl_36 (List.mem_of_getElem? (i := 20) rfl)) (wl_36 (List.mem_of_getElem? (i := 21) rfl)) (wl_36 (List.mem_of_getElem? (i := 22) rfl)) (wl_1 (List.mem_of_getElem? (i := 2) rfl))
theorem gL_explain_X10_explain : GoodIn woL_explain (wsV RL 49 RX10 yX10_explain woX10_explain) := go_V (wl_29 (List.mem_of_getElem? (i := 21) rfl)) (wl_29 (List.mem_of_getElem? (i := 18) rfl)) (wl_29 (List.mem_of_getElem? (i := 19) rfl)) (wl_29 (List.mem_of_getElem? (i := 20) rfl)) (wl_1 (List.mem_of_getElem? (i := 2) rfl))
theorem gL_installmentFor_X10_installmentFor : GoodIn woL_installmentFor (wsV RL 71 RX10 yX10_installmentFor woX10_installmentFor) := go_V (wl_35 (List.mem_of_getElem? (i := 14) rfl)) (wl_35 (List.mem_of_getElem? (i := 11) rfl)) (wl_35 (List.mem_of_getElem? (i := 12) rfl)) (wl_35 (List.mem_of_getElem? (i := 13) rfl)) (wl_1 (List.mem_of_getElem? (i := 2) rfl))
theorem gL_interestShare_X10_interestShare : GoodIn woL_interestShare (wsV RL 58 RX10 yX10_interestShare woX10_interestShare) := go_V (wl_33 (List.mem_of_getElem? (i := 4) rfl)) (wl_33 (List.mem_of_getElem? (i := 1) rfl)) (wl_33 (List.mem_of_getElem? (i := 2) rfl)) (wl_33 (List.mem_of_getElem? (i := 3) rfl)) (wl_1 (List.mem_of_getElem? (i := 2) rfl))
theorem gL_ledger_X10_ledger : GoodIn woL_ledger (wsV RL 91 RX10 yX10_ledger woX10_ledger) := go_V (wl_40 (List.mem_of_getElem? (i := 22) rfl)) (wl_40 (List.mem_of_getElem? (i := 19) rfl)) (wl_40 (List.mem_of_getElem? (i := 20) rfl)) (wl_40 (List.mem_of_getElem? (i := 21) rfl)) (wl_1 (List.mem_of_getElem? (i := 2) rfl))
theorem gL_number_X10_number : GoodIn woL_number (wsV RL 52 RX10 yX10_number woX10_number) := go_V (wl_30 (List.mem_of_getElem? (i := 19) rfl)) (wl_30 (List.mem_of_getElem? (i := 16) rfl)) (wl_30 (List.mem_of_getElem? (i := 17) rfl)) (wl_30 (List.mem_of_getElem? (i := 18) rfl)) (wl_1 (List.mem_of_getElem? (i := 2) rfl))
theorem gL_progress_X10_progress : GoodIn woL_progress (wsV RL 64 RX10 yX10_progress woX10_progress) := go_V (wl_33 (List.mem_of_getElem? (i := 17) rfl)) (wl_33 (List.mem_of_getElem? (i := 14) rfl)) (wl_33 (List.mem_of_getElem? (i := 15) rfl)) (wl_33 (List.mem_of_getElem? (i := 16) rfl)) (wl_1 (List.mem_of_getElem? (i := 2) rfl))
theorem gL_refusedCommand_X10_refusedCommand : GoodIn woL_refusedCommand (wsV RL 87 RX10 yX10_refusedCommand woX10_refusedCommand) := go_V (wl_40 (List.mem_of_getElem? (i := 3) rfl)) (wl_40 (List.mem_of_getElem? (i := 0) rfl)) (wl_40 (List.mem_of_getElem? (i := 1) rfl)) (wl_40 (List.mem_of_getElem? (i := 2) rfl)) (wl_1 (List.mem_of_getElem? (i := 2) rfl))
theorem gL_schedule_X10_schedule : GoodIn woL_schedule (wsV RL 68 RX10 yX10_schedule woX10_schedule) := go_V (wl_34 (List.mem_of_getElem? (i := 22) rfl)) (wl_34 (List.mem_of_getElem? (i := 19) rfl)) (wl_34 (List.mem_of_getElem? (i := 20) rfl)) (wl_34 (List.mem_of_getElem? (i := 21) rfl)) (wl_1 (List.mem_of_getElem? (i := 2) rfl))
theorem gL_storeSchedule_X10_storeSchedule : GoodIn woL_storeSchedule (wsV RL 97 RX10 yX10_storeSchedule woX10_storeSchedule) := go_V (wl_43 (List.mem_of_getElem? (i := 13) rfl)) (wl_43 (List.mem_of_getElem? (i := 10) rfl)) (wl_43 (List.mem_of_getElem? (i := 11) rfl)) (wl_43 (List.mem_of_getElem? (i := 12) rfl)) (wl_1 (List.mem_of_getElem? (i := 2) rfl))
theorem gL_stored_X10_stored : GoodIn woL_stored (wsV RL 105 RX10 yX10_stored woX10_stored) := go_V (wl_45 (List.mem_of_getElem? (i := 12) rfl)) (wl_45 (List.mem_of_getElem? (i := 9) rfl)) (wl_45 (List.mem_of_getElem? (i := 10) rfl)) (wl_45 (List.mem_of_getElem? (i := 11) rfl)) (wl_1 (List.mem_of_getElem? (i := 2) rfl))
theorem gL_total_X10_total : GoodIn woL_total (wsV RL 55 RX10 yX10_total woX10_total) := go_V (wl_32 (List.mem_of_getElem? (i := 3) rfl)) (wl_32 (List.mem_of_getElem? (i := 0) rfl)) (wl_32 (List.mem_of_getElem? (i := 1) rfl)) (wl_32 (List.mem_of_getElem? (i := 2) rfl)) (wl_1 (List.mem_of_getElem? (i := 2) rfl))
theorem gL_undo_X10_undo : GoodIn woL_undo (wsV RL 94 RX10 yX10_undo woX10_undo) := go_V (wl_41 (List.mem_of_getElem? (i := 13) rfl)) (wl_41 (List.mem_of_getElem? (i := 10) rfl)) (wl_41 (List.mem_of_getElem? (i := 11) rfl)) (wl_41 (List.mem_of_getElem? (i := 12) rfl)) (wl_1 (List.mem_of_getElem? (i := 2) rfl))
set_option maxHeartbeats 4000000 in
set_option maxRecDepth 100000 in
/-- the law: waive, refused -/
theorem c_L_waive_2 (l : Launch) (hl0 : l.stackTraces = false) (dC : Nat → ClassId) (dI : Nat → Nat → Nat) (k : Nat → ClassId) (hout : Nat) (h0 hn g1 g2 hea g3 g4 g5 g6 g7 xa1 xa2 xa3 xa4 xa5 xa6 xa7 xa8 xa9 xa10 xa11 : Nat) (xv : Int) (hv9 : -2147483648 ≤ xv ∧ xv ≤ 2147483647) (hv : 0 < xv) (sz : Nat) : Met l yL_waive woL_waive ({ frames := 9, cells := 1, slots := 6, locals := 144 } : Room) (PcW (dC, dI) k [.ref h0, .int (iI xv), .ref hout] [(h0, .inr (10, [.ref hn, .ref g1, .ref g2, .ref hea, .ref g3, .ref g4, .ref g5, .ref g6, .ref g7, .int (iI 0), .int (iI 0), .int (iI 0), .int (iI (-1)), .int (iI (-1)), .int (iI 0)])), (hn, .inr (2, [.ref xa1, .ref xa2, .ref xa3, .ref xa5, .ref xa8, .int (iI 0), .int (iI 0), .int (iI 0)])), (xa3, .inr (7, [.int (iI 0), .int (iI 0), .int (iI 0), .long (lI 0), .int (iI 0), .int (iI 0), .int (iI 0), .long (lI 0), .long (lI 0), .long (lI 0), .long (lI 0), .long (lI 0), .int (iI 0), .int (iI 0), .int (iI 0), .int (iI 0), .ref xa4])), (hout, .inl (k 1, 1, .inr (.inl (aL aZ))))] sz) (va_Qi (fun (r : Int32) (_ : Unit) => r = iI 2) (QB (dC, dI) [(h0, .inr (10, [.ref hn, .ref g1, .ref g2, .ref hea, .ref g3, .ref g4, .ref g5, .ref g6, .ref g7, .int (iI 0), .int (iI 0), .int (iI 0), .int (iI (-1)), .int (iI (-1)), .int (iI 0)])), (hn, .inr (2, [.ref xa1, .ref xa2, .ref xa3, .ref xa5, .ref xa8, .int (iI 0), .int (iI 0), .int (iI 0)])), (xa3, .inr (7, [.int (iI 0), .int (iI 0), .int (iI 0), .long (lI 0), .int (iI 0), .int (iI 0), .int (iI 0), .long (lI 0), .long (lI 0), .long (lI 0), .long (lI 0), .long (lI 0), .int (iI 0), .int (iI 0), .int (iI 0), .int (iI 0), .ref xa4])), (hout, .inl (k 1, 1, .inr (.inl (aL aZ))))] (fun _ => []) sz) (va_A [(h0, .inr (10, [.ref hn, .ref g1, .ref g2, .ref hea, .ref g3, .ref g4, .ref g5, .ref g6, .ref g7, .int (iI 0), .int (iI 0), .int (iI 0), .int (iI (-1)), .int (iI (-1)), .int (iI 0)])), (hn, .inr (2, [.ref xa1, .ref xa2, .ref xa3, .ref xa5, .ref xa8, .int (iI 0), .int (iI 0), .int (iI 0)])), (xa3, .inr (7, [.int (iI 0), .int (iI 0), .int (iI 0), .long (lI 0), .int (iI 0), .int (iI 0), .int (iI 0), .long (lI 0), .long (lI 0), .long (lI 0), .long (lI 0), .long (lI 0), .int (iI 0), .int (iI 0), .int (iI 0), .int (iI 0), .ref xa4])), (hout, .inl (k 1, 1, .inr (.inl (aL aZ))))] sz)) 1 6 (va_A [(h0, .inr (10, [.ref hn, .ref g1, .ref g2, .ref hea, .ref g3, .ref g4, .ref g5, .ref g6, .ref g7, .int (iI 0), .int (iI 0), .int (iI 0), .int (iI (-1)), .int (iI (-1)), .int (iI 0)])), (hn, .inr (2, [.ref xa1, .ref xa2, .ref xa3, .ref xa5, .ref xa8, .int (iI 0), .int (iI 0), .int (iI 0)])), (xa3, .inr (7, [.int (iI 0), .int (iI 0), .int (iI 0), .long (lI 0), .int (iI 0), .int (iI 0), .int (iI 0), .long (lI 0), .long (lI 0), .long (lI 0), .long (lI 0), .long (lI 0), .int (iI 0), .int (iI 0), .int (iI 0), .int (iI 0), .ref xa4])), (hout, .inl (k 1, 1, .inr (.inl (aL aZ))))] sz) := by
  refine Met_ofWH (cc := cL_waive) (maxL := 4) (ret := (some .int)) (by decide) rfl ?_
  intro p e s mI args below meth cO s₁ B hml hv
  obtain ⟨rfl, rfl, hP, hD0, hE⟩ := hv
  have hx := B.exec
  have hb := B.bytes
  have hr := B.returns
  have hts := atoms_spec (ws := woL_waive) B.pre
  have hown : s.vm.findClass RL = some mI.cls := findClass_of_methodNamed B.named
  have hlocks := B.notSynchronized
  have htab := vx_table (x := yL_waive) B (hts (.codeWith yL_waive cL_waive 4 (some .int) [(0, 9, 12, 13), (0, 9, 15, 19)]) List.mem_cons_self)
  have hD := hD0.self (sz := s.heap.size)
  generalize hAe : va_A [(h0, .inr (10, [.ref hn, .ref g1, .ref g2, .ref hea, .ref g3, .ref g4, .ref g5, .ref g6, .ref g7, .int (iI 0), .int (iI 0), .int (iI 0), .int (iI (-1)), .int (iI (-1)), .int (iI 0)])), (hn, .inr (2, [.ref xa1, .ref xa2, .ref xa3, .ref xa5, .ref xa8, .int (iI 0), .int (iI 0), .int (iI 0)])), (xa3, .inr (7, [.int (iI 0), .int (iI 0), .int (iI 0), .long (lI 0), .int (iI 0), .int (iI 0), .int (iI 0), .long (lI 0), .long (lI 0), .long (lI 0), .long (lI 0), .long (lI 0), .int (iI 0), .int (iI 0), .int (iI 0), .int (iI 0), .ref xa4])), (hout, .inl (k 1, 1, .inr (.inl (aL aZ))))] s.heap.size = A at hD hE ⊢
  have hA : ∀ q : Nat, s.heap.size ≤ q → A q := fun q h => by rw [← hAe]; exact Or.inr h
  have hS : va_S A s.heap s.heap [] := va_S.rf
  obtain ⟨hK, hNw, hNc, hZs, hAO1, hAO2⟩ := id hE
  have hSF : CallFix p mI cO cL_waive 4 s ([.ref h0, .int (iI xv), .ref hout] : List Value).toArray woL_waive RL := ⟨hx, hb, hml, hown, hts⟩
  have hl := lv_entry ([.ref h0, .int (iI xv), .ref hout] : List Value) (n := 4) (Nat.le_of_ble_eq_true rfl)
  rw [lg_entry_eq]
  generalize (lg_sl ([.ref h0, .int (iI xv), .ref hout] : List Value) ++ List.replicate (4 - (lg_sl ([.ref h0, .int (iI xv), .ref hout] : List Value)).length) Slot.unset).toArray = ls at hl ⊢
  have hl : lv_has ls 4 [(0, .ref h0), (1, .int (iI xv)), (2, .ref hout)] := hl
  refine W_gen (fun Q hQ => ?_)
  change W p l e ({ frames := 9, cells := 1, slots := 6, locals := 144 } : Room) s mI _ below meth cO s.heap [] 0 0 Q _
  have hP : va_P (dC, dI) vwCl [(h0, .inr (10, [.ref hn, .ref g1, .ref g2, .ref hea, .ref g3, .ref g4, .ref g5, .ref g6, .ref g7, .int (iI 0), .int (iI 0), .int (iI 0), .int (iI (-1)), .int (iI (-1)), .int (iI 0)])), (hn, .inr (2, [.ref xa1, .ref xa2, .ref xa3, .ref xa5, .ref xa8, .int (iI 0), .int (iI 0), .int (iI 0)])), (xa3, .inr (7, [.int (iI 0), .int (iI 0), .int (iI 0), .long (lI 0), .int (iI 0), .int (iI 0), .int (iI 0), .long (lI 0), .long (lI 0), .long (lI 0), .long (lI 0), .long (lI 0), .int (iI 0), .int (iI 0), .int (iI 0), .int (iI 0), .ref xa4])), (hout, .inl (k 1, 1, .inr (.inl (aL aZ))))] s.heap := hP
  refine lv_aload_n hx hb dL_waive_0 rfl (lv_at hl 2 rfl) ?_
  refine q_iconst hx hb dL_waive_1 ?_
  refine lv_aload_n hx hb dL_waive_2 rfl (lv_at hl 0 rfl) ?_
  refine lv_iload_n hx hb dL_waive_3 rfl (lv_at hl 1 rfl) ?_
  refine kxi (vx_runV (As := [.int (iI xv)]) (rest := [.int (iI 0), .ref hout]) hSF ((c_X10_waive_2 l hl0 dC dI k h0 hn g1 g2 hea g3 g4 g5 g6 g7 xa1 xa2 xa3 xa4 xa5 0 0 xa8 0 0 0 xv (by omega) (by omega)) s.heap.size) (cwV 1 hts gL_waive_X10_waive rfl rfl rfl (by decide +kernel) ⟨Nat.le_of_ble_eq_true rfl, Nat.le_of_ble_eq_true rfl⟩) (preV hP hD hE hS hA [0, 1, 2] rfl (by decide) (ci := 10) (q0 := 0) rfl rfl) rfl rfl hl.1 rfl (lv_room (Nat.le_of_ble_eq_true rfl)) dL_waive_4 ⟨Nat.le_of_ble_eq_true rfl, Nat.le_of_ble_eq_true rfl⟩) hP hD hS hA [0, 1, 2] [3] rfl (wr := [(hout, .inl (k 1, 1, .inr (.inl (aL aZ))))]) rfl (by decide) (by decide) (fun ce q9 H locs hP hD hS hc9 hv9 hcl => ?_)
  refine vx_catch (own := RL) (name := "java/lang/IllegalStateException") (E := "java/lang/IllegalStateException") hown [⟨0, 9, 12, 13⟩] ⟨0, 9, 15, 19⟩ [] (by rw [htab]; rfl) (fun z hz => by
      simp only [List.mem_cons, List.not_mem_nil, or_false] at hz
      subst hz
      exact Or.inr ⟨by decide, "java/lang/IllegalArgumentException", (hts (.classLink RL 13 "java/lang/IllegalArgumentException") (List.mem_cons_of_mem _ (wl_6 (List.mem_of_getElem? (i := 3) rfl)))), hNc ("java/lang/IllegalStateException", "java/lang/IllegalArgumentException") (List.mem_of_getElem? (i := 5) rfl)⟩) (by decide) (by decide) (hts (.classLink RL 19 "java/lang/IllegalStateException") (List.mem_cons_of_mem _ (wl_16 (List.mem_of_getElem? (i := 7) rfl)))) (va_Nw.use rfl (hNw _ (List.mem_of_getElem? (i := 67) rfl))) hc9 hv9 hcl ?_
  change W p l e _ s mI _ below meth cO H locs _ _ Q (F0 mI 15 ls [.ref q9])
  refine lv_astore_n (lv' := [(3, .ref q9), (0, .ref h0), (1, .int (iI xv)), (2, .ref hout)]) hx hb dL_waive_15 rfl hl (by decide) rfl (fun ls hl => ?_)
  refine q_iconst hx hb dL_waive_16 ?_
  rw [hQ]
  refine W.widen (k := 1) (n := 6) (Nat.le_of_ble_eq_true rfl) (Nat.le_of_ble_eq_true rfl) ?_
  exact W.iret (v := (iI 2)) hx hb hr (fun t ht hW => ⟨⟨(iI 2), (), rfl, rfl, by rw [ht]; exact hP.sub [] rfl, by rw [hAe]; exact hD.sub [] (by decide) rfl⟩, hS.F ht⟩) hS.2.2 dL_waive_17
set_option maxHeartbeats 4000000 in
set_option maxRecDepth 100000 in
/-- the law: explain, refused -/
theorem c_L_explain_x (l : Launch) (hl0 : l.stackTraces = false) (dC : Nat → ClassId) (dI : Nat → Nat → Nat) (k : Nat → ClassId) (hout : Nat) (h0 hn g1 g2 hea g3 g4 g5 g6 g7 xa1 xa2 xa3 xa4 xa5 xa6 xa7 xa8 xa9 xa10 xa11 : Nat) (xv xw9 : Int) (hv9 : -2147483648 ≤ xv ∧ xv ≤ 2147483647 ∧ -2147483648 ≤ xw9 ∧ xw9 ≤ 2147483647) (hv : ¬ (0 ≤ xw9 ∧ xw9 ≤ 5)) (sz : Nat) : Met l yL_explain woL_explain ({ frames := 7, cells := 1, slots := 6, locals := 103 } : Room) (PcW (dC, dI) k [.ref h0, .int (iI xv), .int (iI xw9), .ref hout] [(h0, .inr (10, [.ref hn, .ref g1, .ref g2, .ref hea, .ref g3, .ref g4, .ref g5, .ref g6, .ref g7, .int (iI 0), .int (iI 0), .int (iI 0), .int (iI (-1)), .int (iI (-1)), .int (iI 0)])), (hout, .inl (k 1, 1, .inr (.inl (aL aZ))))] sz) (va_Qi (fun (r : Int32) (_ : Unit) => r = iI 1) (QB (dC, dI) [(h0, .inr (10, [.ref hn, .ref g1, .ref g2, .ref hea, .ref g3, .ref g4, .ref g5, .ref g6, .ref g7, .int (iI 0), .int (iI 0), .int (iI 0), .int (iI (-1)), .int (iI (-1)), .int (iI 0)])), (hout, .inl (k 1, 1, .inr (.inl (aL aZ))))] (fun _ => []) sz) (va_A [(h0, .inr (10, [.ref hn, .ref g1, .ref g2, .ref hea, .ref g3, .ref g4, .ref g5, .ref g6, .ref g7, .int (iI 0), .int (iI 0), .int (iI 0), .int (iI (-1)), .int (iI (-1)), .int (iI 0)])), (hout, .inl (k 1, 1, .inr (.inl (aL aZ))))] sz)) 1 6 (va_A [(h0, .inr (10, [.ref hn, .ref g1, .ref g2, .ref hea, .ref g3, .ref g4, .ref g5, .ref g6, .ref g7, .int (iI 0), .int (iI 0), .int (iI 0), .int (iI (-1)), .int (iI (-1)), .int (iI 0)])), (hout, .inl (k 1, 1, .inr (.inl (aL aZ))))] sz) := by
  refine Met_ofWH (cc := cL_explain) (maxL := 5) (ret := (some .int)) (by decide) rfl ?_
  intro p e s mI args below meth cO s₁ B hml hv
  obtain ⟨rfl, rfl, hP, hD0, hE⟩ := hv
  have hx := B.exec
  have hb := B.bytes
  have hr := B.returns
  have hts := atoms_spec (ws := woL_explain) B.pre
  have hown : s.vm.findClass RL = some mI.cls := findClass_of_methodNamed B.named
  have hlocks := B.notSynchronized
  have htab := vx_table (x := yL_explain) B (hts (.codeWith yL_explain cL_explain 5 (some .int) [(0, 10, 13, 13), (0, 10, 17, 19), (0, 10, 21, 44)]) List.mem_cons_self)
  have hD := hD0.self (sz := s.heap.size)
  generalize hAe : va_A [(h0, .inr (10, [.ref hn, .ref g1, .ref g2, .ref hea, .ref g3, .ref g4, .ref g5, .ref g6, .ref g7, .int (iI 0), .int (iI 0), .int (iI 0), .int (iI (-1)), .int (iI (-1)), .int (iI 0)])), (hout, .inl (k 1, 1, .inr (.inl (aL aZ))))] s.heap.size = A at hD hE ⊢
  have hA : ∀ q : Nat, s.heap.size ≤ q → A q := fun q h => by rw [← hAe]; exact Or.inr h
  have hS : va_S A s.heap s.heap [] := va_S.rf
  obtain ⟨hK, hNw, hNc, hZs, hAO1, hAO2⟩ := id hE
  have hSF : CallFix p mI cO cL_explain 5 s ([.ref h0, .int (iI xv), .int (iI xw9), .ref hout] : List Value).toArray woL_explain RL := ⟨hx, hb, hml, hown, hts⟩
  have hl := lv_entry ([.ref h0, .int (iI xv), .int (iI xw9), .ref hout] : List Value) (n := 5) (Nat.le_of_ble_eq_true rfl)
  rw [lg_entry_eq]
  generalize (lg_sl ([.ref h0, .int (iI xv), .int (iI xw9), .ref hout] : List Value) ++ List.replicate (5 - (lg_sl ([.ref h0, .int (iI xv), .int (iI xw9), .ref hout] : List Value)).length) Slot.unset).toArray = ls at hl ⊢
  have hl : lv_has ls 5 [(0, .ref h0), (1, .int (iI xv)), (2, .int (iI xw9)), (3, .ref hout)] := hl
  refine W_gen (fun Q hQ => ?_)
  change W p l e ({ frames := 7, cells := 1, slots := 6, locals := 103 } : Room) s mI _ below meth cO s.heap [] 0 0 Q _
  have hP : va_P (dC, dI) vwCl [(h0, .inr (10, [.ref hn, .ref g1, .ref g2, .ref hea, .ref g3, .ref g4, .ref g5, .ref g6, .ref g7, .int (iI 0), .int (iI 0), .int (iI 0), .int (iI (-1)), .int (iI (-1)), .int (iI 0)])), (hout, .inl (k 1, 1, .inr (.inl (aL aZ))))] s.heap := hP
  refine lv_aload_n hx hb dL_explain_0 rfl (lv_at hl 3 rfl) ?_
  refine q_iconst hx hb dL_explain_1 ?_
  refine lv_aload_n hx hb dL_explain_2 rfl (lv_at hl 0 rfl) ?_
  refine lv_iload_n hx hb dL_explain_3 rfl (lv_at hl 1 rfl) ?_
  refine lv_iload_n hx hb dL_explain_4 rfl (lv_at hl 2 rfl) ?_
  refine kxi (vx_runV (As := [.int (iI xv), .int (iI xw9)]) (rest := [.int (iI 0), .ref hout]) hSF ((c_X10_explain_x l hl0 dC dI k h0 hn g1 g2 hea g3 g4 g5 g6 g7 0 0 0 0 0 0 0 0 0 0 0 xv xw9 (by omega) (by omega)) s.heap.size) (cwV 2 hts gL_explain_X10_explain rfl rfl rfl (by decide +kernel) ⟨Nat.le_of_ble_eq_true rfl, Nat.le_of_ble_eq_true rfl⟩) (preV hP hD hE hS hA [0] rfl (by decide) (ci := 10) (q0 := 0) rfl rfl) rfl rfl hl.1 rfl (lv_room (Nat.le_of_ble_eq_true rfl)) dL_explain_5 ⟨Nat.le_of_ble_eq_true rfl, Nat.le_of_ble_eq_true rfl⟩) hP hD hS hA [0] [1] rfl (wr := [(hout, .inl (k 1, 1, .inr (.inl (aL aZ))))]) rfl (by decide) (by decide) (fun ce q9 H locs hP hD hS hc9 hv9 hcl => ?_)
  refine vx_catch (own := RL) (name := "java/lang/IllegalArgumentException") (E := "java/lang/IllegalArgumentException") hown [] ⟨0, 10, 13, 13⟩ [⟨0, 10, 17, 19⟩, ⟨0, 10, 21, 44⟩] (by rw [htab]; rfl) (fun z hz => by cases hz) (by decide) (by decide) (hts (.classLink RL 13 "java/lang/IllegalArgumentException") (List.mem_cons_of_mem _ (wl_6 (List.mem_of_getElem? (i := 3) rfl)))) (va_Nw.use rfl (hNw _ (List.mem_of_getElem? (i := 66) rfl))) hc9 hv9 hcl ?_
  change W p l e _ s mI _ below meth cO H locs _ _ Q (F0 mI 13 ls [.ref q9])
  refine lv_astore (lv' := [(4, .ref q9), (0, .ref h0), (1, .int (iI xv)), (2, .int (iI xw9)), (3, .ref hout)]) hx hb dL_explain_13 hl (by decide) rfl (fun ls hl => ?_)
  refine q_iconst hx hb dL_explain_15 ?_
  rw [hQ]
  refine W.widen (k := 1) (n := 6) (Nat.le_of_ble_eq_true rfl) (Nat.le_of_ble_eq_true rfl) ?_
  exact W.iret (v := (iI 1)) hx hb hr (fun t ht hW => ⟨⟨(iI 1), (), rfl, rfl, by rw [ht]; exact hP.sub [] rfl, by rw [hAe]; exact hD.sub [] (by decide) rfl⟩, hS.F ht⟩) hS.2.2 dL_explain_16
set_option maxHeartbeats 4000000 in
set_option maxRecDepth 100000 in
/-- the law: explain, refused -/
theorem c_L_explain_1 (l : Launch) (hl0 : l.stackTraces = false) (dC : Nat → ClassId) (dI : Nat → Nat → Nat) (k : Nat → ClassId) (hout : Nat) (h0 hn g1 g2 hea g3 g4 g5 g6 g7 xa1 xa2 xa3 xa4 xa5 xa6 xa7 xa8 xa9 xa10 xa11 : Nat) (xv xw9 : Int) (hv9 : -2147483648 ≤ xv ∧ xv ≤ 2147483647 ∧ -2147483648 ≤ xw9 ∧ xw9 ≤ 2147483647) (hv : (0 ≤ xw9 ∧ xw9 ≤ 5) ∧ ¬ (0 < xv)) (sz : Nat) : Met l yL_explain woL_explain ({ frames := 8, cells := 1, slots := 6, locals := 123 } : Room) (PcW (dC, dI) k [.ref h0, .int (iI xv), .int (iI xw9), .ref hout] [(h0, .inr (10, [.ref hn, .ref g1, .ref g2, .ref hea, .ref g3, .ref g4, .ref g5, .ref g6, .ref g7, .int (iI 0), .int (iI 0), .int (iI 0), .int (iI (-1)), .int (iI (-1)), .int (iI 0)])), (hn, .inr (2, [.ref xa1, .ref xa2, .ref xa3, .ref xa5, .ref xa8, .int (iI 0), .int (iI 0), .int (iI 0)])), (xa3, .inr (7, [.int (iI 0), .int (iI 0), .int (iI 0), .long (lI 0), .int (iI 0), .int (iI 0), .int (iI 0), .long (lI 0), .long (lI 0), .long (lI 0), .long (lI 0), .long (lI 0), .int (iI 0), .int (iI 0), .int (iI 0), .int (iI 0), .ref xa4])), (hout, .inl (k 1, 1, .inr (.inl (aL aZ))))] sz) (va_Qi (fun (r : Int32) (_ : Unit) => r = iI 1) (QB (dC, dI) [(h0, .inr (10, [.ref hn, .ref g1, .ref g2, .ref hea, .ref g3, .ref g4, .ref g5, .ref g6, .ref g7, .int (iI 0), .int (iI 0), .int (iI 0), .int (iI (-1)), .int (iI (-1)), .int (iI 0)])), (hn, .inr (2, [.ref xa1, .ref xa2, .ref xa3, .ref xa5, .ref xa8, .int (iI 0), .int (iI 0), .int (iI 0)])), (xa3, .inr (7, [.int (iI 0), .int (iI 0), .int (iI 0), .long (lI 0), .int (iI 0), .int (iI 0), .int (iI 0), .long (lI 0), .long (lI 0), .long (lI 0), .long (lI 0), .long (lI 0), .int (iI 0), .int (iI 0), .int (iI 0), .int (iI 0), .ref xa4])), (hout, .inl (k 1, 1, .inr (.inl (aL aZ))))] (fun _ => []) sz) (va_A [(h0, .inr (10, [.ref hn, .ref g1, .ref g2, .ref hea, .ref g3, .ref g4, .ref g5, .ref g6, .ref g7, .int (iI 0), .int (iI 0), .int (iI 0), .int (iI (-1)), .int (iI (-1)), .int (iI 0)])), (hn, .inr (2, [.ref xa1, .ref xa2, .ref xa3, .ref xa5, .ref xa8, .int (iI 0), .int (iI 0), .int (iI 0)])), (xa3, .inr (7, [.int (iI 0), .int (iI 0), .int (iI 0), .long (lI 0), .int (iI 0), .int (iI 0), .int (iI 0), .long (lI 0), .long (lI 0), .long (lI 0), .long (lI 0), .long (lI 0), .int (iI 0), .int (iI 0), .int (iI 0), .int (iI 0), .ref xa4])), (hout, .inl (k 1, 1, .inr (.inl (aL aZ))))] sz)) 1 6 (va_A [(h0, .inr (10, [.ref hn, .ref g1, .ref g2, .ref hea, .ref g3, .ref g4, .ref g5, .ref g6, .ref g7, .int (iI 0), .int (iI 0), .int (iI 0), .int (iI (-1)), .int (iI (-1)), .int (iI 0)])), (hn, .inr (2, [.ref xa1, .ref xa2, .ref xa3, .ref xa5, .ref xa8, .int (iI 0), .int (iI 0), .int (iI 0)])), (xa3, .inr (7, [.int (iI 0), .int (iI 0), .int (iI 0), .long (lI 0), .int (iI 0), .int (iI 0), .int (iI 0), .long (lI 0), .long (lI 0), .long (lI 0), .long (lI 0), .long (lI 0), .int (iI 0), .int (iI 0), .int (iI 0), .int (iI 0), .ref xa4])), (hout, .inl (k 1, 1, .inr (.inl (aL aZ))))] sz) := by
  refine Met_ofWH (cc := cL_explain) (maxL := 5) (ret := (some .int)) (by decide) rfl ?_
  intro p e s mI args below meth cO s₁ B hml hv
  obtain ⟨rfl, rfl, hP, hD0, hE⟩ := hv
  have hx := B.exec
  have hb := B.bytes
  have hr := B.returns
  have hts := atoms_spec (ws := woL_explain) B.pre
  have hown : s.vm.findClass RL = some mI.cls := findClass_of_methodNamed B.named
  have hlocks := B.notSynchronized
  have htab := vx_table (x := yL_explain) B (hts (.codeWith yL_explain cL_explain 5 (some .int) [(0, 10, 13, 13), (0, 10, 17, 19), (0, 10, 21, 44)]) List.mem_cons_self)
  have hD := hD0.self (sz := s.heap.size)
  generalize hAe : va_A [(h0, .inr (10, [.ref hn, .ref g1, .ref g2, .ref hea, .ref g3, .ref g4, .ref g5, .ref g6, .ref g7, .int (iI 0), .int (iI 0), .int (iI 0), .int (iI (-1)), .int (iI (-1)), .int (iI 0)])), (hn, .inr (2, [.ref xa1, .ref xa2, .ref xa3, .ref xa5, .ref xa8, .int (iI 0), .int (iI 0), .int (iI 0)])), (xa3, .inr (7, [.int (iI 0), .int (iI 0), .int (iI 0), .long (lI 0), .int (iI 0), .int (iI 0), .int (iI 0), .long (lI 0), .long (lI 0), .long (lI 0), .long (lI 0), .long (lI 0), .int (iI 0), .int (iI 0), .int (iI 0), .int (iI 0), .ref xa4])), (hout, .inl (k 1, 1, .inr (.inl (aL aZ))))] s.heap.size = A at hD hE ⊢
  have hA : ∀ q : Nat, s.heap.size ≤ q → A q := fun q h => by rw [← hAe]; exact Or.inr h
  have hS : va_S A s.heap s.heap [] := va_S.rf
  obtain ⟨hK, hNw, hNc, hZs, hAO1, hAO2⟩ := id hE
  have hSF : CallFix p mI cO cL_explain 5 s ([.ref h0, .int (iI xv), .int (iI xw9), .ref hout] : List Value).toArray woL_explain RL := ⟨hx, hb, hml, hown, hts⟩
  have hl := lv_entry ([.ref h0, .int (iI xv), .int (iI xw9), .ref hout] : List Value) (n := 5) (Nat.le_of_ble_eq_true rfl)
  rw [lg_entry_eq]
  generalize (lg_sl ([.ref h0, .int (iI xv), .int (iI xw9), .ref hout] : List Value) ++ List.replicate (5 - (lg_sl ([.ref h0, .int (iI xv), .int (iI xw9), .ref hout] : List Value)).length) Slot.unset).toArray = ls at hl ⊢
  have hl : lv_has ls 5 [(0, .ref h0), (1, .int (iI xv)), (2, .int (iI xw9)), (3, .ref hout)] := hl
  refine W_gen (fun Q hQ => ?_)
  change W p l e ({ frames := 8, cells := 1, slots := 6, locals := 123 } : Room) s mI _ below meth cO s.heap [] 0 0 Q _
  have hP : va_P (dC, dI) vwCl [(h0, .inr (10, [.ref hn, .ref g1, .ref g2, .ref hea, .ref g3, .ref g4, .ref g5, .ref g6, .ref g7, .int (iI 0), .int (iI 0), .int (iI 0), .int (iI (-1)), .int (iI (-1)), .int (iI 0)])), (hn, .inr (2, [.ref xa1, .ref xa2, .ref xa3, .ref xa5, .ref xa8, .int (iI 0), .int (iI 0), .int (iI 0)])), (xa3, .inr (7, [.int (iI 0), .int (iI 0), .int (iI 0), .long (lI 0), .int (iI 0), .int (iI 0), .int (iI 0), .long (lI 0), .long (lI 0), .long (lI 0), .long (lI 0), .long (lI 0), .int (iI 0), .int (iI 0), .int (iI 0), .int (iI 0), .ref xa4])), (hout, .inl (k 1, 1, .inr (.inl (aL aZ))))] s.heap := hP
  refine lv_aload_n hx hb dL_explain_0 rfl (lv_at hl 3 rfl) ?_
  refine q_iconst hx hb dL_explain_1 ?_
  refine lv_aload_n hx hb dL_explain_2 rfl (lv_at hl 0 rfl) ?_
  refine lv_iload_n hx hb dL_explain_3 rfl (lv_at hl 1 rfl) ?_
  refine lv_iload_n hx hb dL_explain_4 rfl (lv_at hl 2 rfl) ?_
  refine kxi (vx_runV (As := [.int (iI xv), .int (iI xw9)]) (rest := [.int (iI 0), .ref hout]) hSF ((c_X10_explain_1 l hl0 dC dI k h0 hn g1 g2 hea g3 g4 g5 g6 g7 xa1 xa2 xa3 xa4 xa5 0 0 xa8 0 0 0 xv xw9 (by omega) (by omega)) s.heap.size) (cwV 2 hts gL_explain_X10_explain rfl rfl rfl (by decide +kernel) ⟨Nat.le_of_ble_eq_true rfl, Nat.le_of_ble_eq_true rfl⟩) (preV hP hD hE hS hA [0, 1, 2] rfl (by decide) (ci := 10) (q0 := 0) rfl rfl) rfl rfl hl.1 rfl (lv_room (Nat.le_of_ble_eq_true rfl)) dL_explain_5 ⟨Nat.le_of_ble_eq_true rfl, Nat.le_of_ble_eq_true rfl⟩) hP hD hS hA [0, 1, 2] [3] rfl (wr := [(hout, .inl (k 1, 1, .inr (.inl (aL aZ))))]) rfl (by decide) (by decide) (fun ce q9 H locs hP hD hS hc9 hv9 hcl => ?_)
  refine vx_catch (own := RL) (name := "java/lang/IllegalArgumentException") (E := "java/lang/IllegalArgumentException") hown [] ⟨0, 10, 13, 13⟩ [⟨0, 10, 17, 19⟩, ⟨0, 10, 21, 44⟩] (by rw [htab]; rfl) (fun z hz => by cases hz) (by decide) (by decide) (hts (.classLink RL 13 "java/lang/IllegalArgumentException") (List.mem_cons_of_mem _ (wl_6 (List.mem_of_getElem? (i := 3) rfl)))) (va_Nw.use rfl (hNw _ (List.mem_of_getElem? (i := 66) rfl))) hc9 hv9 hcl ?_
  change W p l e _ s mI _ below meth cO H locs _ _ Q (F0 mI 13 ls [.ref q9])
  refine lv_astore (lv' := [(4, .ref q9), (0, .ref h0), (1, .int (iI xv)), (2, .int (iI xw9)), (3, .ref hout)]) hx hb dL_explain_13 hl (by decide) rfl (fun ls hl => ?_)
  refine q_iconst hx hb dL_explain_15 ?_
  rw [hQ]
  refine W.widen (k := 1) (n := 6) (Nat.le_of_ble_eq_true rfl) (Nat.le_of_ble_eq_true rfl) ?_
  exact W.iret (v := (iI 1)) hx hb hr (fun t ht hW => ⟨⟨(iI 1), (), rfl, rfl, by rw [ht]; exact hP.sub [] rfl, by rw [hAe]; exact hD.sub [] (by decide) rfl⟩, hS.F ht⟩) hS.2.2 dL_explain_16
set_option maxHeartbeats 4000000 in
set_option maxRecDepth 100000 in
/-- the law: explain, refused -/
theorem c_L_explain_2 (l : Launch) (hl0 : l.stackTraces = false) (dC : Nat → ClassId) (dI : Nat → Nat → Nat) (k : Nat → ClassId) (hout : Nat) (h0 hn g1 g2 hea g3 g4 g5 g6 g7 xa1 xa2 xa3 xa4 xa5 xa6 xa7 xa8 xa9 xa10 xa11 : Nat) (xv xw9 : Int) (hv9 : -2147483648 ≤ xv ∧ xv ≤ 2147483647 ∧ -2147483648 ≤ xw9 ∧ xw9 ≤ 2147483647) (hv : (0 ≤ xw9 ∧ xw9 ≤ 5) ∧ 0 < xv) (sz : Nat) : Met l yL_explain woL_explain ({ frames := 8, cells := 1, slots := 6, locals := 123 } : Room) (PcW (dC, dI) k [.ref h0, .int (iI xv), .int (iI xw9), .ref hout] [(h0, .inr (10, [.ref hn, .ref g1, .ref g2, .ref hea, .ref g3, .ref g4, .ref g5, .ref g6, .ref g7, .int (iI 0), .int (iI 0), .int (iI 0), .int (iI (-1)), .int (iI (-1)), .int (iI 0)])), (hn, .inr (2, [.ref xa1, .ref xa2, .ref xa3, .ref xa5, .ref xa8, .int (iI 0), .int (iI 0), .int (iI 0)])), (xa3, .inr (7, [.int (iI 0), .int (iI 0), .int (iI 0), .long (lI 0), .int (iI 0), .int (iI 0), .int (iI 0), .long (lI 0), .long (lI 0), .long (lI 0), .long (lI 0), .long (lI 0), .int (iI 0), .int (iI 0), .int (iI 0), .int (iI 0), .ref xa4])), (hout, .inl (k 1, 1, .inr (.inl (aL aZ))))] sz) (va_Qi (fun (r : Int32) (_ : Unit) => r = iI 2) (QB (dC, dI) [(h0, .inr (10, [.ref hn, .ref g1, .ref g2, .ref hea, .ref g3, .ref g4, .ref g5, .ref g6, .ref g7, .int (iI 0), .int (iI 0), .int (iI 0), .int (iI (-1)), .int (iI (-1)), .int (iI 0)])), (hn, .inr (2, [.ref xa1, .ref xa2, .ref xa3, .ref xa5, .ref xa8, .int (iI 0), .int (iI 0), .int (iI 0)])), (xa3, .inr (7, [.int (iI 0), .int (iI 0), .int (iI 0), .long (lI 0), .int (iI 0), .int (iI 0), .int (iI 0), .long (lI 0), .long (lI 0), .long (lI 0), .long (lI 0), .long (lI 0), .int (iI 0), .int (iI 0), .int (iI 0), .int (iI 0), .ref xa4])), (hout, .inl (k 1, 1, .inr (.inl (aL aZ))))] (fun _ => []) sz) (va_A [(h0, .inr (10, [.ref hn, .ref g1, .ref g2, .ref hea, .ref g3, .ref g4, .ref g5, .ref g6, .ref g7, .int (iI 0), .int (iI 0), .int (iI 0), .int (iI (-1)), .int (iI (-1)), .int (iI 0)])), (hn, .inr (2, [.ref xa1, .ref xa2, .ref xa3, .ref xa5, .ref xa8, .int (iI 0), .int (iI 0), .int (iI 0)])), (xa3, .inr (7, [.int (iI 0), .int (iI 0), .int (iI 0), .long (lI 0), .int (iI 0), .int (iI 0), .int (iI 0), .long (lI 0), .long (lI 0), .long (lI 0), .long (lI 0), .long (lI 0), .int (iI 0), .int (iI 0), .int (iI 0), .int (iI 0), .ref xa4])), (hout, .inl (k 1, 1, .inr (.inl (aL aZ))))] sz)) 1 6 (va_A [(h0, .inr (10, [.ref hn, .ref g1, .ref g2, .ref hea, .ref g3, .ref g4, .ref g5, .ref g6, .ref g7, .int (iI 0), .int (iI 0), .int (iI 0), .int (iI (-1)), .int (iI (-1)), .int (iI 0)])), (hn, .inr (2, [.ref xa1, .ref xa2, .ref xa3, .ref xa5, .ref xa8, .int (iI 0), .int (iI 0), .int (iI 0)])), (xa3, .inr (7, [.int (iI 0), .int (iI 0), .int (iI 0), .long (lI 0), .int (iI 0), .int (iI 0), .int (iI 0), .long (lI 0), .long (lI 0), .long (lI 0), .long (lI 0), .long (lI 0), .int (iI 0), .int (iI 0), .int (iI 0), .int (iI 0), .ref xa4])), (hout, .inl (k 1, 1, .inr (.inl (aL aZ))))] sz) := by
  refine Met_ofWH (cc := cL_explain) (maxL := 5) (ret := (some .int)) (by decide) rfl ?_
  intro p e s mI args below meth cO s₁ B hml hv
  obtain ⟨rfl, rfl, hP, hD0, hE⟩ := hv
  have hx := B.exec
  have hb := B.bytes
  have hr := B.returns
  have hts := atoms_spec (ws := woL_explain) B.pre
  have hown : s.vm.findClass RL = some mI.cls := findClass_of_methodNamed B.named
  have hlocks := B.notSynchronized
  have htab := vx_table (x := yL_explain) B (hts (.codeWith yL_explain cL_explain 5 (some .int) [(0, 10, 13, 13), (0, 10, 17, 19), (0, 10, 21, 44)]) List.mem_cons_self)
  have hD := hD0.self (sz := s.heap.size)
  generalize hAe : va_A [(h0, .inr (10, [.ref hn, .ref g1, .ref g2, .ref hea, .ref g3, .ref g4, .ref g5, .ref g6, .ref g7, .int (iI 0), .int (iI 0), .int (iI 0), .int (iI (-1)), .int (iI (-1)), .int (iI 0)])), (hn, .inr (2, [.ref xa1, .ref xa2, .ref xa3, .ref xa5, .ref xa8, .int (iI 0), .int (iI 0), .int (iI 0)])), (xa3, .inr (7, [.int (iI 0), .int (iI 0), .int (iI 0), .long (lI 0), .int (iI 0), .int (iI 0), .int (iI 0), .long (lI 0), .long (lI 0), .long (lI 0), .long (lI 0), .long (lI 0), .int (iI 0), .int (iI 0), .int (iI 0), .int (iI 0), .ref xa4])), (hout, .inl (k 1, 1, .inr (.inl (aL aZ))))] s.heap.size = A at hD hE ⊢
  have hA : ∀ q : Nat, s.heap.size ≤ q → A q := fun q h => by rw [← hAe]; exact Or.inr h
  have hS : va_S A s.heap s.heap [] := va_S.rf
  obtain ⟨hK, hNw, hNc, hZs, hAO1, hAO2⟩ := id hE
  have hSF : CallFix p mI cO cL_explain 5 s ([.ref h0, .int (iI xv), .int (iI xw9), .ref hout] : List Value).toArray woL_explain RL := ⟨hx, hb, hml, hown, hts⟩
  have hl := lv_entry ([.ref h0, .int (iI xv), .int (iI xw9), .ref hout] : List Value) (n := 5) (Nat.le_of_ble_eq_true rfl)
  rw [lg_entry_eq]
  generalize (lg_sl ([.ref h0, .int (iI xv), .int (iI xw9), .ref hout] : List Value) ++ List.replicate (5 - (lg_sl ([.ref h0, .int (iI xv), .int (iI xw9), .ref hout] : List Value)).length) Slot.unset).toArray = ls at hl ⊢
  have hl : lv_has ls 5 [(0, .ref h0), (1, .int (iI xv)), (2, .int (iI xw9)), (3, .ref hout)] := hl
  refine W_gen (fun Q hQ => ?_)
  change W p l e ({ frames := 8, cells := 1, slots := 6, locals := 123 } : Room) s mI _ below meth cO s.heap [] 0 0 Q _
  have hP : va_P (dC, dI) vwCl [(h0, .inr (10, [.ref hn, .ref g1, .ref g2, .ref hea, .ref g3, .ref g4, .ref g5, .ref g6, .ref g7, .int (iI 0), .int (iI 0), .int (iI 0), .int (iI (-1)), .int (iI (-1)), .int (iI 0)])), (hn, .inr (2, [.ref xa1, .ref xa2, .ref xa3, .ref xa5, .ref xa8, .int (iI 0), .int (iI 0), .int (iI 0)])), (xa3, .inr (7, [.int (iI 0), .int (iI 0), .int (iI 0), .long (lI 0), .int (iI 0), .int (iI 0), .int (iI 0), .long (lI 0), .long (lI 0), .long (lI 0), .long (lI 0), .long (lI 0), .int (iI 0), .int (iI 0), .int (iI 0), .int (iI 0), .ref xa4])), (hout, .inl (k 1, 1, .inr (.inl (aL aZ))))] s.heap := hP
  refine lv_aload_n hx hb dL_explain_0 rfl (lv_at hl 3 rfl) ?_
  refine q_iconst hx hb dL_explain_1 ?_
  refine lv_aload_n hx hb dL_explain_2 rfl (lv_at hl 0 rfl) ?_
  refine lv_iload_n hx hb dL_explain_3 rfl (lv_at hl 1 rfl) ?_
  refine lv_iload_n hx hb dL_explain_4 rfl (lv_at hl 2 rfl) ?_
  refine kxi (vx_runV (As := [.int (iI xv), .int (iI xw9)]) (rest := [.int (iI 0), .ref hout]) hSF ((c_X10_explain_2 l hl0 dC dI k h0 hn g1 g2 hea g3 g4 g5 g6 g7 xa1 xa2 xa3 xa4 xa5 0 0 xa8 0 0 0 xv xw9 (by omega) (by omega)) s.heap.size) (cwV 2 hts gL_explain_X10_explain rfl rfl rfl (by decide +kernel) ⟨Nat.le_of_ble_eq_true rfl, Nat.le_of_ble_eq_true rfl⟩) (preV hP hD hE hS hA [0, 1, 2] rfl (by decide) (ci := 10) (q0 := 0) rfl rfl) rfl rfl hl.1 rfl (lv_room (Nat.le_of_ble_eq_true rfl)) dL_explain_5 ⟨Nat.le_of_ble_eq_true rfl, Nat.le_of_ble_eq_true rfl⟩) hP hD hS hA [0, 1, 2] [3] rfl (wr := [(hout, .inl (k 1, 1, .inr (.inl (aL aZ))))]) rfl (by decide) (by decide) (fun ce q9 H locs hP hD hS hc9 hv9 hcl => ?_)
  refine vx_catch (own := RL) (name := "java/lang/IllegalStateException") (E := "java/lang/IllegalStateException") hown [⟨0, 10, 13, 13⟩] ⟨0, 10, 17, 19⟩ [⟨0, 10, 21, 44⟩] (by rw [htab]; rfl) (fun z hz => by
      simp only [List.mem_cons, List.not_mem_nil, or_false] at hz
      subst hz
      exact Or.inr ⟨by decide, "java/lang/IllegalArgumentException", (hts (.classLink RL 13 "java/lang/IllegalArgumentException") (List.mem_cons_of_mem _ (wl_6 (List.mem_of_getElem? (i := 3) rfl)))), hNc ("java/lang/IllegalStateException", "java/lang/IllegalArgumentException") (List.mem_of_getElem? (i := 5) rfl)⟩) (by decide) (by decide) (hts (.classLink RL 19 "java/lang/IllegalStateException") (List.mem_cons_of_mem _ (wl_16 (List.mem_of_getElem? (i := 7) rfl)))) (va_Nw.use rfl (hNw _ (List.mem_of_getElem? (i := 67) rfl))) hc9 hv9 hcl ?_
  change W p l e _ s mI _ below meth cO H locs _ _ Q (F0 mI 17 ls [.ref q9])
  refine lv_astore (lv' := [(4, .ref q9), (0, .ref h0), (1, .int (iI xv)), (2, .int (iI xw9)), (3, .ref hout)]) hx hb dL_explain_17 hl (by decide) rfl (fun ls hl => ?_)
  refine q_iconst hx hb dL_explain_19 ?_
  rw [hQ]
  refine W.widen (k := 1) (n := 6) (Nat.le_of_ble_eq_true rfl) (Nat.le_of_ble_eq_true rfl) ?_
  exact W.iret (v := (iI 2)) hx hb hr (fun t ht hW => ⟨⟨(iI 2), (), rfl, rfl, by rw [ht]; exact hP.sub [] rfl, by rw [hAe]; exact hD.sub [] (by decide) rfl⟩, hS.F ht⟩) hS.2.2 dL_explain_20
set_option maxHeartbeats 4000000 in
set_option maxRecDepth 100000 in
/-- the law: number, answered -/
theorem c_L_number_0 (l : Launch) (dC : Nat → ClassId) (dI : Nat → Nat → Nat) (k : Nat → ClassId) (hout : Nat) (h0 hn g1 g2 hea g3 g4 g5 g6 g7 xa1 xa2 xa3 xa4 xa5 xa6 xa7 xa8 xa9 xa10 xa11 : Nat) (sz : Nat) : Met l yL_number woL_number ({ frames := 1, cells := 0, slots := 0, locals := 22 } : Room) (PcW (dC, dI) k [.ref h0, .int (iI 0), .ref hout] [(h0, .inr (10, [.ref hn, .ref g1, .ref g2, .ref hea, .ref g3, .ref g4, .ref g5, .ref g6, .ref g7, .int (iI 0), .int (iI 0), .int (iI 0), .int (iI (-1)), .int (iI (-1)), .int (iI 0)])), (hn, .inr (2, [.ref xa1, .ref xa2, .ref xa3, .ref xa5, .ref xa8, .int (iI 0), .int (iI 0), .int (iI 0)])), (xa3, .inr (7, [.int (iI 0), .int (iI 0), .int (iI 0), .long (lI 0), .int (iI 0), .int (iI 0), .int (iI 0), .long (lI 0), .long (lI 0), .long (lI 0), .long (lI 0), .long (lI 0), .int (iI 0), .int (iI 0), .int (iI 0), .int (iI 0), .ref xa4])), (hout, .inl (k 1, 1, .inr (.inl (aL aZ))))] sz) (va_Qi (fun (r : Int32) (_ : Unit) => r = iI 0) (QB (dC, dI) [(h0, .inr (10, [.ref hn, .ref g1, .ref g2, .ref hea, .ref g3, .ref g4, .ref g5, .ref g6, .ref g7, .int (iI 0), .int (iI 0), .int (iI 0), .int (iI (-1)), .int (iI (-1)), .int (iI 0)])), (hn, .inr (2, [.ref xa1, .ref xa2, .ref xa3, .ref xa5, .ref xa8, .int (iI 0), .int (iI 0), .int (iI 0)])), (xa3, .inr (7, [.int (iI 0), .int (iI 0), .int (iI 0), .long (lI 0), .int (iI 0), .int (iI 0), .int (iI 0), .long (lI 0), .long (lI 0), .long (lI 0), .long (lI 0), .long (lI 0), .int (iI 0), .int (iI 0), .int (iI 0), .int (iI 0), .ref xa4])), (hout, .inl (k 1, 1, .inr (.inl (aL aZ))))] (fun _ => [(hout, .inl (k 1, 1, .inr (.inl (aL (upI aZ 0 0)))))]) sz) (va_A [(h0, .inr (10, [.ref hn, .ref g1, .ref g2, .ref hea, .ref g3, .ref g4, .ref g5, .ref g6, .ref g7, .int (iI 0), .int (iI 0), .int (iI 0), .int (iI (-1)), .int (iI (-1)), .int (iI 0)])), (hn, .inr (2, [.ref xa1, .ref xa2, .ref xa3, .ref xa5, .ref xa8, .int (iI 0), .int (iI 0), .int (iI 0)])), (xa3, .inr (7, [.int (iI 0), .int (iI 0), .int (iI 0), .long (lI 0), .int (iI 0), .int (iI 0), .int (iI 0), .long (lI 0), .long (lI 0), .long (lI 0), .long (lI 0), .long (lI 0), .int (iI 0), .int (iI 0), .int (iI 0), .int (iI 0), .ref xa4])), (hout, .inl (k 1, 1, .inr (.inl (aL aZ))))] sz)) 0 0 (va_A [(h0, .inr (10, [.ref hn, .ref g1, .ref g2, .ref hea, .ref g3, .ref g4, .ref g5, .ref g6, .ref g7, .int (iI 0), .int (iI 0), .int (iI 0), .int (iI (-1)), .int (iI (-1)), .int (iI 0)])), (hn, .inr (2, [.ref xa1, .ref xa2, .ref xa3, .ref xa5, .ref xa8, .int (iI 0), .int (iI 0), .int (iI 0)])), (xa3, .inr (7, [.int (iI 0), .int (iI 0), .int (iI 0), .long (lI 0), .int (iI 0), .int (iI 0), .int (iI 0), .long (lI 0), .long (lI 0), .long (lI 0), .long (lI 0), .long (lI 0), .int (iI 0), .int (iI 0), .int (iI 0), .int (iI 0), .ref xa4])), (hout, .inl (k 1, 1, .inr (.inl (aL aZ))))] sz) := by
  refine Met_ofWH (cc := cL_number) (maxL := 4) (ret := (some .int)) (by decide) rfl ?_
  intro p e s mI args below meth cO s₁ B hml hv
  obtain ⟨rfl, rfl, hP, hD0, hE⟩ := hv
  have hx := B.exec
  have hb := B.bytes
  have hr := B.returns
  have hts := atoms_spec (ws := woL_number) B.pre
  have hown : s.vm.findClass RL = some mI.cls := findClass_of_methodNamed B.named
  have hlocks := B.notSynchronized
  have htab := vx_table (x := yL_number) B (hts (.codeWith yL_number cL_number 4 (some .int) [(0, 9, 12, 13)]) List.mem_cons_self)
  have hD := hD0.self (sz := s.heap.size)
  generalize hAe : va_A [(h0, .inr (10, [.ref hn, .ref g1, .ref g2, .ref hea, .ref g3, .ref g4, .ref g5, .ref g6, .ref g7, .int (iI 0), .int (iI 0), .int (iI 0), .int (iI (-1)), .int (iI (-1)), .int (iI 0)])), (hn, .inr (2, [.ref xa1, .ref xa2, .ref xa3, .ref xa5, .ref xa8, .int (iI 0), .int (iI 0), .int (iI 0)])), (xa3, .inr (7, [.int (iI 0), .int (iI 0), .int (iI 0), .long (lI 0), .int (iI 0), .int (iI 0), .int (iI 0), .long (lI 0), .long (lI 0), .long (lI 0), .long (lI 0), .long (lI 0), .int (iI 0), .int (iI 0), .int (iI 0), .int (iI 0), .ref xa4])), (hout, .inl (k 1, 1, .inr (.inl (aL aZ))))] s.heap.size = A at hD hE ⊢
  have hA : ∀ q : Nat, s.heap.size ≤ q → A q := fun q h => by rw [← hAe]; exact Or.inr h
  have hS : va_S A s.heap s.heap [] := va_S.rf
  obtain ⟨hK, hNw, hNc, hZs, hAO1, hAO2⟩ := id hE
  have hSF : CallFix p mI cO cL_number 4 s ([.ref h0, .int (iI 0), .ref hout] : List Value).toArray woL_number RL := ⟨hx, hb, hml, hown, hts⟩
  have hl := lv_entry ([.ref h0, .int (iI 0), .ref hout] : List Value) (n := 4) (Nat.le_of_ble_eq_true rfl)
  rw [lg_entry_eq]
  generalize (lg_sl ([.ref h0, .int (iI 0), .ref hout] : List Value) ++ List.replicate (4 - (lg_sl ([.ref h0, .int (iI 0), .ref hout] : List Value)).length) Slot.unset).toArray = ls at hl ⊢
  have hl : lv_has ls 4 [(0, .ref h0), (1, .int (iI 0)), (2, .ref hout)] := hl
  refine W_gen (fun Q hQ => ?_)
  change W p l e ({ frames := 1, cells := 0, slots := 0, locals := 22 } : Room) s mI _ below meth cO s.heap [] 0 0 Q _
  have hP : va_P (dC, dI) vwCl [(h0, .inr (10, [.ref hn, .ref g1, .ref g2, .ref hea, .ref g3, .ref g4, .ref g5, .ref g6, .ref g7, .int (iI 0), .int (iI 0), .int (iI 0), .int (iI (-1)), .int (iI (-1)), .int (iI 0)])), (hn, .inr (2, [.ref xa1, .ref xa2, .ref xa3, .ref xa5, .ref xa8, .int (iI 0), .int (iI 0), .int (iI 0)])), (xa3, .inr (7, [.int (iI 0), .int (iI 0), .int (iI 0), .long (lI 0), .int (iI 0), .int (iI 0), .int (iI 0), .long (lI 0), .long (lI 0), .long (lI 0), .long (lI 0), .long (lI 0), .int (iI 0), .int (iI 0), .int (iI 0), .int (iI 0), .ref xa4])), (hout, .inl (k 1, 1, .inr (.inl (aL aZ))))] s.heap := hP
  refine lv_aload_n hx hb dL_number_0 rfl (lv_at hl 2 rfl) ?_
  refine q_iconst hx hb dL_number_1 ?_
  refine lv_aload_n hx hb dL_number_2 rfl (lv_at hl 0 rfl) ?_
  refine lv_iload_n hx hb dL_number_3 rfl (lv_at hl 1 rfl) ?_
  refine ki (va_runV (As := [.int (iI 0)]) (rest := [.int (iI 0), .ref hout]) hSF ((c_X10_number_0 l dC dI k h0 hn g1 g2 hea g3 g4 g5 g6 g7 xa1 xa2 xa3 xa4 xa5 0 0 xa8 0 0 0) s.heap.size) (cwV 1 hts gL_number_X10_number rfl rfl rfl (by decide +kernel) ⟨Nat.le_of_ble_eq_true rfl, Nat.le_of_ble_eq_true rfl⟩) (preV hP hD hE hS hA [0, 1, 2] rfl (by decide) (ci := 10) (q0 := 0) rfl rfl) rfl rfl hl.1 rfl (lv_room (Nat.le_of_ble_eq_true rfl)) dL_number_4 ⟨Nat.le_of_ble_eq_true rfl, Nat.le_of_ble_eq_true rfl⟩) hP hD hS hA [0, 1, 2] [3] rfl (wr := [(hout, .inl (k 1, 1, .inr (.inl (aL aZ))))]) rfl (by decide) (by decide) (fun r4 _ H locs hw hP hD hS => ?_)
  obtain rfl : r4 = (iI 0) := hw
  have hP : va_P (dC, dI) vwCl [(hout, .inl (k 1, 1, .inr (.inl (aL aZ))))] H := hP
  have hD : va_D A [(hout, .inl (k 1, 1, .inr (.inl (aL aZ))))] := hD
  refine q_i2l hx hb dL_number_7 (by omega) ?_
  refine q_last (G := (upI aZ 0 0)) hx hb hK hP hD hS 0 1 rfl rfl (by omega) rfl dL_number_8 (fun H locs hP hD hS => ?_)
  have hP : va_P (dC, dI) vwCl [(hout, .inl (k 1, 1, .inr (.inl (aL (upI aZ 0 0)))))] H := hP
  have hD : va_D A [(hout, .inl (k 1, 1, .inr (.inl (aL (upI aZ 0 0)))))] := hD
  refine lv_goto (tgt := 15) hx hb dL_number_9 (by decide) ?_
  refine q_iconst hx hb dL_number_15 ?_
  rw [hQ]
  refine W.widen (k := 0) (n := 0) (Nat.le_of_ble_eq_true rfl) (Nat.le_of_ble_eq_true rfl) ?_
  exact W.iret (v := (iI 0)) hx hb hr (fun t ht hW => ⟨⟨(iI 0), (), rfl, rfl, by rw [ht]; exact hP.sub [0] rfl, by rw [hAe]; exact hD.sub [0] (by decide) rfl⟩, hS.F ht⟩) hS.2.2 dL_number_16
set_option maxHeartbeats 4000000 in
set_option maxRecDepth 100000 in
/-- the law: number, answered -/
theorem c_L_number_1 (l : Launch) (dC : Nat → ClassId) (dI : Nat → Nat → Nat) (k : Nat → ClassId) (hout : Nat) (h0 hn g1 g2 hea g3 g4 g5 g6 g7 xa1 xa2 xa3 xa4 xa5 xa6 xa7 xa8 xa9 xa10 xa11 : Nat) (sz : Nat) : Met l yL_number woL_number ({ frames := 1, cells := 0, slots := 0, locals := 22 } : Room) (PcW (dC, dI) k [.ref h0, .int (iI 1), .ref hout] [(h0, .inr (10, [.ref hn, .ref g1, .ref g2, .ref hea, .ref g3, .ref g4, .ref g5, .ref g6, .ref g7, .int (iI 0), .int (iI 0), .int (iI 0), .int (iI (-1)), .int (iI (-1)), .int (iI 0)])), (hn, .inr (2, [.ref xa1, .ref xa2, .ref xa3, .ref xa5, .ref xa8, .int (iI 0), .int (iI 0), .int (iI 0)])), (xa3, .inr (7, [.int (iI 0), .int (iI 0), .int (iI 0), .long (lI 0), .int (iI 0), .int (iI 0), .int (iI 0), .long (lI 0), .long (lI 0), .long (lI 0), .long (lI 0), .long (lI 0), .int (iI 0), .int (iI 0), .int (iI 0), .int (iI 0), .ref xa4])), (hout, .inl (k 1, 1, .inr (.inl (aL aZ))))] sz) (va_Qi (fun (r : Int32) (_ : Unit) => r = iI 0) (QB (dC, dI) [(h0, .inr (10, [.ref hn, .ref g1, .ref g2, .ref hea, .ref g3, .ref g4, .ref g5, .ref g6, .ref g7, .int (iI 0), .int (iI 0), .int (iI 0), .int (iI (-1)), .int (iI (-1)), .int (iI 0)])), (hn, .inr (2, [.ref xa1, .ref xa2, .ref xa3, .ref xa5, .ref xa8, .int (iI 0), .int (iI 0), .int (iI 0)])), (xa3, .inr (7, [.int (iI 0), .int (iI 0), .int (iI 0), .long (lI 0), .int (iI 0), .int (iI 0), .int (iI 0), .long (lI 0), .long (lI 0), .long (lI 0), .long (lI 0), .long (lI 0), .int (iI 0), .int (iI 0), .int (iI 0), .int (iI 0), .ref xa4])), (hout, .inl (k 1, 1, .inr (.inl (aL aZ))))] (fun _ => [(hout, .inl (k 1, 1, .inr (.inl (aL (upI aZ 0 0)))))]) sz) (va_A [(h0, .inr (10, [.ref hn, .ref g1, .ref g2, .ref hea, .ref g3, .ref g4, .ref g5, .ref g6, .ref g7, .int (iI 0), .int (iI 0), .int (iI 0), .int (iI (-1)), .int (iI (-1)), .int (iI 0)])), (hn, .inr (2, [.ref xa1, .ref xa2, .ref xa3, .ref xa5, .ref xa8, .int (iI 0), .int (iI 0), .int (iI 0)])), (xa3, .inr (7, [.int (iI 0), .int (iI 0), .int (iI 0), .long (lI 0), .int (iI 0), .int (iI 0), .int (iI 0), .long (lI 0), .long (lI 0), .long (lI 0), .long (lI 0), .long (lI 0), .int (iI 0), .int (iI 0), .int (iI 0), .int (iI 0), .ref xa4])), (hout, .inl (k 1, 1, .inr (.inl (aL aZ))))] sz)) 0 0 (va_A [(h0, .inr (10, [.ref hn, .ref g1, .ref g2, .ref hea, .ref g3, .ref g4, .ref g5, .ref g6, .ref g7, .int (iI 0), .int (iI 0), .int (iI 0), .int (iI (-1)), .int (iI (-1)), .int (iI 0)])), (hn, .inr (2, [.ref xa1, .ref xa2, .ref xa3, .ref xa5, .ref xa8, .int (iI 0), .int (iI 0), .int (iI 0)])), (xa3, .inr (7, [.int (iI 0), .int (iI 0), .int (iI 0), .long (lI 0), .int (iI 0), .int (iI 0), .int (iI 0), .long (lI 0), .long (lI 0), .long (lI 0), .long (lI 0), .long (lI 0), .int (iI 0), .int (iI 0), .int (iI 0), .int (iI 0), .ref xa4])), (hout, .inl (k 1, 1, .inr (.inl (aL aZ))))] sz) := by
  refine Met_ofWH (cc := cL_number) (maxL := 4) (ret := (some .int)) (by decide) rfl ?_
  intro p e s mI args below meth cO s₁ B hml hv
  obtain ⟨rfl, rfl, hP, hD0, hE⟩ := hv
  have hx := B.exec
  have hb := B.bytes
  have hr := B.returns
  have hts := atoms_spec (ws := woL_number) B.pre
  have hown : s.vm.findClass RL = some mI.cls := findClass_of_methodNamed B.named
  have hlocks := B.notSynchronized
  have htab := vx_table (x := yL_number) B (hts (.codeWith yL_number cL_number 4 (some .int) [(0, 9, 12, 13)]) List.mem_cons_self)
  have hD := hD0.self (sz := s.heap.size)
  generalize hAe : va_A [(h0, .inr (10, [.ref hn, .ref g1, .ref g2, .ref hea, .ref g3, .ref g4, .ref g5, .ref g6, .ref g7, .int (iI 0), .int (iI 0), .int (iI 0), .int (iI (-1)), .int (iI (-1)), .int (iI 0)])), (hn, .inr (2, [.ref xa1, .ref xa2, .ref xa3, .ref xa5, .ref xa8, .int (iI 0), .int (iI 0), .int (iI 0)])), (xa3, .inr (7, [.int (iI 0), .int (iI 0), .int (iI 0), .long (lI 0), .int (iI 0), .int (iI 0), .int (iI 0), .long (lI 0), .long (lI 0), .long (lI 0), .long (lI 0), .long (lI 0), .int (iI 0), .int (iI 0), .int (iI 0), .int (iI 0), .ref xa4])), (hout, .inl (k 1, 1, .inr (.inl (aL aZ))))] s.heap.size = A at hD hE ⊢
  have hA : ∀ q : Nat, s.heap.size ≤ q → A q := fun q h => by rw [← hAe]; exact Or.inr h
  have hS : va_S A s.heap s.heap [] := va_S.rf
  obtain ⟨hK, hNw, hNc, hZs, hAO1, hAO2⟩ := id hE
  have hSF : CallFix p mI cO cL_number 4 s ([.ref h0, .int (iI 1), .ref hout] : List Value).toArray woL_number RL := ⟨hx, hb, hml, hown, hts⟩
  have hl := lv_entry ([.ref h0, .int (iI 1), .ref hout] : List Value) (n := 4) (Nat.le_of_ble_eq_true rfl)
  rw [lg_entry_eq]
  generalize (lg_sl ([.ref h0, .int (iI 1), .ref hout] : List Value) ++ List.replicate (4 - (lg_sl ([.ref h0, .int (iI 1), .ref hout] : List Value)).length) Slot.unset).toArray = ls at hl ⊢
  have hl : lv_has ls 4 [(0, .ref h0), (1, .int (iI 1)), (2, .ref hout)] := hl
  refine W_gen (fun Q hQ => ?_)
  change W p l e ({ frames := 1, cells := 0, slots := 0, locals := 22 } : Room) s mI _ below meth cO s.heap [] 0 0 Q _
  have hP : va_P (dC, dI) vwCl [(h0, .inr (10, [.ref hn, .ref g1, .ref g2, .ref hea, .ref g3, .ref g4, .ref g5, .ref g6, .ref g7, .int (iI 0), .int (iI 0), .int (iI 0), .int (iI (-1)), .int (iI (-1)), .int (iI 0)])), (hn, .inr (2, [.ref xa1, .ref xa2, .ref xa3, .ref xa5, .ref xa8, .int (iI 0), .int (iI 0), .int (iI 0)])), (xa3, .inr (7, [.int (iI 0), .int (iI 0), .int (iI 0), .long (lI 0), .int (iI 0), .int (iI 0), .int (iI 0), .long (lI 0), .long (lI 0), .long (lI 0), .long (lI 0), .long (lI 0), .int (iI 0), .int (iI 0), .int (iI 0), .int (iI 0), .ref xa4])), (hout, .inl (k 1, 1, .inr (.inl (aL aZ))))] s.heap := hP
  refine lv_aload_n hx hb dL_number_0 rfl (lv_at hl 2 rfl) ?_
  refine q_iconst hx hb dL_number_1 ?_
  refine lv_aload_n hx hb dL_number_2 rfl (lv_at hl 0 rfl) ?_
  refine lv_iload_n hx hb dL_number_3 rfl (lv_at hl 1 rfl) ?_
  refine ki (va_runV (As := [.int (iI 1)]) (rest := [.int (iI 0), .ref hout]) hSF ((c_X10_number_1 l dC dI k h0 hn g1 g2 hea g3 g4 g5 g6 g7 xa1 xa2 xa3 xa4 xa5 0 0 xa8 0 0 0) s.heap.size) (cwV 1 hts gL_number_X10_number rfl rfl rfl (by decide +kernel) ⟨Nat.le_of_ble_eq_true rfl, Nat.le_of_ble_eq_true rfl⟩) (preV hP hD hE hS hA [0, 1, 2] rfl (by decide) (ci := 10) (q0 := 0) rfl rfl) rfl rfl hl.1 rfl (lv_room (Nat.le_of_ble_eq_true rfl)) dL_number_4 ⟨Nat.le_of_ble_eq_true rfl, Nat.le_of_ble_eq_true rfl⟩) hP hD hS hA [0, 1, 2] [3] rfl (wr := [(hout, .inl (k 1, 1, .inr (.inl (aL aZ))))]) rfl (by decide) (by decide) (fun r4 _ H locs hw hP hD hS => ?_)
  obtain rfl : r4 = (iI 0) := hw
  have hP : va_P (dC, dI) vwCl [(hout, .inl (k 1, 1, .inr (.inl (aL aZ))))] H := hP
  have hD : va_D A [(hout, .inl (k 1, 1, .inr (.inl (aL aZ))))] := hD
  refine q_i2l hx hb dL_number_7 (by omega) ?_
  refine q_last (G := (upI aZ 0 0)) hx hb hK hP hD hS 0 1 rfl rfl (by omega) rfl dL_number_8 (fun H locs hP hD hS => ?_)
  have hP : va_P (dC, dI) vwCl [(hout, .inl (k 1, 1, .inr (.inl (aL (upI aZ 0 0)))))] H := hP
  have hD : va_D A [(hout, .inl (k 1, 1, .inr (.inl (aL (upI aZ 0 0)))))] := hD
  refine lv_goto (tgt := 15) hx hb dL_number_9 (by decide) ?_
  refine q_iconst hx hb dL_number_15 ?_
  rw [hQ]
  refine W.widen (k := 0) (n := 0) (Nat.le_of_ble_eq_true rfl) (Nat.le_of_ble_eq_true rfl) ?_
  exact W.iret (v := (iI 0)) hx hb hr (fun t ht hW => ⟨⟨(iI 0), (), rfl, rfl, by rw [ht]; exact hP.sub [0] rfl, by rw [hAe]; exact hD.sub [0] (by decide) rfl⟩, hS.F ht⟩) hS.2.2 dL_number_16
set_option maxHeartbeats 4000000 in
set_option maxRecDepth 100000 in
/-- the law: number, answered -/
theorem c_L_number_2 (l : Launch) (dC : Nat → ClassId) (dI : Nat → Nat → Nat) (k : Nat → ClassId) (hout : Nat) (h0 hn g1 g2 hea g3 g4 g5 g6 g7 xa1 xa2 xa3 xa4 xa5 xa6 xa7 xa8 xa9 xa10 xa11 : Nat) (sz : Nat) : Met l yL_number woL_number ({ frames := 1, cells := 0, slots := 0, locals := 22 } : Room) (PcW (dC, dI) k [.ref h0, .int (iI 2), .ref hout] [(h0, .inr (10, [.ref hn, .ref g1, .ref g2, .ref hea, .ref g3, .ref g4, .ref g5, .ref g6, .ref g7, .int (iI 0), .int (iI 0), .int (iI 0), .int (iI (-1)), .int (iI (-1)), .int (iI 0)])), (hn, .inr (2, [.ref xa1, .ref xa2, .ref xa3, .ref xa5, .ref xa8, .int (iI 0), .int (iI 0), .int (iI 0)])), (xa3, .inr (7, [.int (iI 0), .int (iI 0), .int (iI 0), .long (lI 0), .int (iI 0), .int (iI 0), .int (iI 0), .long (lI 0), .long (lI 0), .long (lI 0), .long (lI 0), .long (lI 0), .int (iI 0), .int (iI 0), .int (iI 0), .int (iI 0), .ref xa4])), (hout, .inl (k 1, 1, .inr (.inl (aL aZ))))] sz) (va_Qi (fun (r : Int32) (_ : Unit) => r = iI 0) (QB (dC, dI) [(h0, .inr (10, [.ref hn, .ref g1, .ref g2, .ref hea, .ref g3, .ref g4, .ref g5, .ref g6, .ref g7, .int (iI 0), .int (iI 0), .int (iI 0), .int (iI (-1)), .int (iI (-1)), .int (iI 0)])), (hn, .inr (2, [.ref xa1, .ref xa2, .ref xa3, .ref xa5, .ref xa8, .int (iI 0), .int (iI 0), .int (iI 0)])), (xa3, .inr (7, [.int (iI 0), .int (iI 0), .int (iI 0), .long (lI 0), .int (iI 0), .int (iI 0), .int (iI 0), .long (lI 0), .long (lI 0), .long (lI 0), .long (lI 0), .long (lI 0), .int (iI 0), .int (iI 0), .int (iI 0), .int (iI 0), .ref xa4])), (hout, .inl (k 1, 1, .inr (.inl (aL aZ))))] (fun _ => [(hout, .inl (k 1, 1, .inr (.inl (aL (upI aZ 0 0)))))]) sz) (va_A [(h0, .inr (10, [.ref hn, .ref g1, .ref g2, .ref hea, .ref g3, .ref g4, .ref g5, .ref g6, .ref g7, .int (iI 0), .int (iI 0), .int (iI 0), .int (iI (-1)), .int (iI (-1)), .int (iI 0)])), (hn, .inr (2, [.ref xa1, .ref xa2, .ref xa3, .ref xa5, .ref xa8, .int (iI 0), .int (iI 0), .int (iI 0)])), (xa3, .inr (7, [.int (iI 0), .int (iI 0), .int (iI 0), .long (lI 0), .int (iI 0), .int (iI 0), .int (iI 0), .long (lI 0), .long (lI 0), .long (lI 0), .long (lI 0), .long (lI 0), .int (iI 0), .int (iI 0), .int (iI 0), .int (iI 0), .ref xa4])), (hout, .inl (k 1, 1, .inr (.inl (aL aZ))))] sz)) 0 0 (va_A [(h0, .inr (10, [.ref hn, .ref g1, .ref g2, .ref hea, .ref g3, .ref g4, .ref g5, .ref g6, .ref g7, .int (iI 0), .int (iI 0), .int (iI 0), .int (iI (-1)), .int (iI (-1)), .int (iI 0)])), (hn, .inr (2, [.ref xa1, .ref xa2, .ref xa3, .ref xa5, .ref xa8, .int (iI 0), .int (iI 0), .int (iI 0)])), (xa3, .inr (7, [.int (iI 0), .int (iI 0), .int (iI 0), .long (lI 0), .int (iI 0), .int (iI 0), .int (iI 0), .long (lI 0), .long (lI 0), .long (lI 0), .long (lI 0), .long (lI 0), .int (iI 0), .int (iI 0), .int (iI 0), .int (iI 0), .ref xa4])), (hout, .inl (k 1, 1, .inr (.inl (aL aZ))))] sz) := by
  refine Met_ofWH (cc := cL_number) (maxL := 4) (ret := (some .int)) (by decide) rfl ?_
  intro p e s mI args below meth cO s₁ B hml hv
  obtain ⟨rfl, rfl, hP, hD0, hE⟩ := hv
  have hx := B.exec
  have hb := B.bytes
  have hr := B.returns
  have hts := atoms_spec (ws := woL_number) B.pre
  have hown : s.vm.findClass RL = some mI.cls := findClass_of_methodNamed B.named
  have hlocks := B.notSynchronized
  have htab := vx_table (x := yL_number) B (hts (.codeWith yL_number cL_number 4 (some .int) [(0, 9, 12, 13)]) List.mem_cons_self)
  have hD := hD0.self (sz := s.heap.size)
  generalize hAe : va_A [(h0, .inr (10, [.ref hn, .ref g1, .ref g2, .ref hea, .ref g3, .ref g4, .ref g5, .ref g6, .ref g7, .int (iI 0), .int (iI 0), .int (iI 0), .int (iI (-1)), .int (iI (-1)), .int (iI 0)])), (hn, .inr (2, [.ref xa1, .ref xa2, .ref xa3, .ref xa5, .ref xa8, .int (iI 0), .int (iI 0), .int (iI 0)])), (xa3, .inr (7, [.int (iI 0), .int (iI 0), .int (iI 0), .long (lI 0), .int (iI 0), .int (iI 0), .int (iI 0), .long (lI 0), .long (lI 0), .long (lI 0), .long (lI 0), .long (lI 0), .int (iI 0), .int (iI 0), .int (iI 0), .int (iI 0), .ref xa4])), (hout, .inl (k 1, 1, .inr (.inl (aL aZ))))] s.heap.size = A at hD hE ⊢
  have hA : ∀ q : Nat, s.heap.size ≤ q → A q := fun q h => by rw [← hAe]; exact Or.inr h
  have hS : va_S A s.heap s.heap [] := va_S.rf
  obtain ⟨hK, hNw, hNc, hZs, hAO1, hAO2⟩ := id hE
  have hSF : CallFix p mI cO cL_number 4 s ([.ref h0, .int (iI 2), .ref hout] : List Value).toArray woL_number RL := ⟨hx, hb, hml, hown, hts⟩
  have hl := lv_entry ([.ref h0, .int (iI 2), .ref hout] : List Value) (n := 4) (Nat.le_of_ble_eq_true rfl)
  rw [lg_entry_eq]
  generalize (lg_sl ([.ref h0, .int (iI 2), .ref hout] : List Value) ++ List.replicate (4 - (lg_sl ([.ref h0, .int (iI 2), .ref hout] : List Value)).length) Slot.unset).toArray = ls at hl ⊢
  have hl : lv_has ls 4 [(0, .ref h0), (1, .int (iI 2)), (2, .ref hout)] := hl
  refine W_gen (fun Q hQ => ?_)
  change W p l e ({ frames := 1, cells := 0, slots := 0, locals := 22 } : Room) s mI _ below meth cO s.heap [] 0 0 Q _
  have hP : va_P (dC, dI) vwCl [(h0, .inr (10, [.ref hn, .ref g1, .ref g2, .ref hea, .ref g3, .ref g4, .ref g5, .ref g6, .ref g7, .int (iI 0), .int (iI 0), .int (iI 0), .int (iI (-1)), .int (iI (-1)), .int (iI 0)])), (hn, .inr (2, [.ref xa1, .ref xa2, .ref xa3, .ref xa5, .ref xa8, .int (iI 0), .int (iI 0), .int (iI 0)])), (xa3, .inr (7, [.int (iI 0), .int (iI 0), .int (iI 0), .long (lI 0), .int (iI 0), .int (iI 0), .int (iI 0), .long (lI 0), .long (lI 0), .long (lI 0), .long (lI 0), .long (lI 0), .int (iI 0), .int (iI 0), .int (iI 0), .int (iI 0), .ref xa4])), (hout, .inl (k 1, 1, .inr (.inl (aL aZ))))] s.heap := hP
  refine lv_aload_n hx hb dL_number_0 rfl (lv_at hl 2 rfl) ?_
  refine q_iconst hx hb dL_number_1 ?_
  refine lv_aload_n hx hb dL_number_2 rfl (lv_at hl 0 rfl) ?_
  refine lv_iload_n hx hb dL_number_3 rfl (lv_at hl 1 rfl) ?_
  refine ki (va_runV (As := [.int (iI 2)]) (rest := [.int (iI 0), .ref hout]) hSF ((c_X10_number_2 l dC dI k h0 hn g1 g2 hea g3 g4 g5 g6 g7 xa1 xa2 xa3 xa4 xa5 0 0 xa8 0 0 0) s.heap.size) (cwV 1 hts gL_number_X10_number rfl rfl rfl (by decide +kernel) ⟨Nat.le_of_ble_eq_true rfl, Nat.le_of_ble_eq_true rfl⟩) (preV hP hD hE hS hA [0, 1, 2] rfl (by decide) (ci := 10) (q0 := 0) rfl rfl) rfl rfl hl.1 rfl (lv_room (Nat.le_of_ble_eq_true rfl)) dL_number_4 ⟨Nat.le_of_ble_eq_true rfl, Nat.le_of_ble_eq_true rfl⟩) hP hD hS hA [0, 1, 2] [3] rfl (wr := [(hout, .inl (k 1, 1, .inr (.inl (aL aZ))))]) rfl (by decide) (by decide) (fun r4 _ H locs hw hP hD hS => ?_)
  obtain rfl : r4 = (iI 0) := hw
  have hP : va_P (dC, dI) vwCl [(hout, .inl (k 1, 1, .inr (.inl (aL aZ))))] H := hP
  have hD : va_D A [(hout, .inl (k 1, 1, .inr (.inl (aL aZ))))] := hD
  refine q_i2l hx hb dL_number_7 (by omega) ?_
  refine q_last (G := (upI aZ 0 0)) hx hb hK hP hD hS 0 1 rfl rfl (by omega) rfl dL_number_8 (fun H locs hP hD hS => ?_)
  have hP : va_P (dC, dI) vwCl [(hout, .inl (k 1, 1, .inr (.inl (aL (upI aZ 0 0)))))] H := hP
  have hD : va_D A [(hout, .inl (k 1, 1, .inr (.inl (aL (upI aZ 0 0)))))] := hD
  refine lv_goto (tgt := 15) hx hb dL_number_9 (by decide) ?_
  refine q_iconst hx hb dL_number_15 ?_
  rw [hQ]
  refine W.widen (k := 0) (n := 0) (Nat.le_of_ble_eq_true rfl) (Nat.le_of_ble_eq_true rfl) ?_
  exact W.iret (v := (iI 0)) hx hb hr (fun t ht hW => ⟨⟨(iI 0), (), rfl, rfl, by rw [ht]; exact hP.sub [0] rfl, by rw [hAe]; exact hD.sub [0] (by decide) rfl⟩, hS.F ht⟩) hS.2.2 dL_number_16
set_option maxHeartbeats 4000000 in
set_option maxRecDepth 100000 in
/-- the law: number, answered -/
theorem c_L_number_3 (l : Launch) (dC : Nat → ClassId) (dI : Nat → Nat → Nat) (k : Nat → ClassId) (hout : Nat) (h0 hn g1 g2 hea g3 g4 g5 g6 g7 xa1 xa2 xa3 xa4 xa5 xa6 xa7 xa8 xa9 xa10 xa11 : Nat) (sz : Nat) : Met l yL_number woL_number ({ frames := 4, cells := 0, slots := 0, locals := 89 } : Room) (PcW (dC, dI) k [.ref h0, .int (iI 3), .ref hout] [(h0, .inr (10, [.ref hn, .ref g1, .ref g2, .ref hea, .ref g3, .ref g4, .ref g5, .ref g6, .ref g7, .int (iI 0), .int (iI 0), .int (iI 0), .int (iI (-1)), .int (iI (-1)), .int (iI 0)])), (hn, .inr (2, [.ref xa1, .ref xa2, .ref xa3, .ref xa5, .ref xa8, .int (iI 0), .int (iI 0), .int (iI 0)])), (xa3, .inr (7, [.int (iI 0), .int (iI 0), .int (iI 0), .long (lI 0), .int (iI 0), .int (iI 0), .int (iI 0), .long (lI 0), .long (lI 0), .long (lI 0), .long (lI 0), .long (lI 0), .int (iI 0), .int (iI 0), .int (iI 0), .int (iI 0), .ref xa4])), (hout, .inl (k 1, 1, .inr (.inl (aL aZ))))] sz) (va_Qi (fun (r : Int32) (_ : Unit) => r = iI 0) (QB (dC, dI) [(h0, .inr (10, [.ref hn, .ref g1, .ref g2, .ref hea, .ref g3, .ref g4, .ref g5, .ref g6, .ref g7, .int (iI 0), .int (iI 0), .int (iI 0), .int (iI (-1)), .int (iI (-1)), .int (iI 0)])), (hn, .inr (2, [.ref xa1, .ref xa2, .ref xa3, .ref xa5, .ref xa8, .int (iI 0), .int (iI 0), .int (iI 0)])), (xa3, .inr (7, [.int (iI 0), .int (iI 0), .int (iI 0), .long (lI 0), .int (iI 0), .int (iI 0), .int (iI 0), .long (lI 0), .long (lI 0), .long (lI 0), .long (lI 0), .long (lI 0), .int (iI 0), .int (iI 0), .int (iI 0), .int (iI 0), .ref xa4])), (hout, .inl (k 1, 1, .inr (.inl (aL aZ))))] (fun _ => [(hout, .inl (k 1, 1, .inr (.inl (aL (upI aZ 0 0)))))]) sz) (va_A [(h0, .inr (10, [.ref hn, .ref g1, .ref g2, .ref hea, .ref g3, .ref g4, .ref g5, .ref g6, .ref g7, .int (iI 0), .int (iI 0), .int (iI 0), .int (iI (-1)), .int (iI (-1)), .int (iI 0)])), (hn, .inr (2, [.ref xa1, .ref xa2, .ref xa3, .ref xa5, .ref xa8, .int (iI 0), .int (iI 0), .int (iI 0)])), (xa3, .inr (7, [.int (iI 0), .int (iI 0), .int (iI 0), .long (lI 0), .int (iI 0), .int (iI 0), .int (iI 0), .long (lI 0), .long (lI 0), .long (lI 0), .long (lI 0), .long (lI 0), .int (iI 0), .int (iI 0), .int (iI 0), .int (iI 0), .ref xa4])), (hout, .inl (k 1, 1, .inr (.inl (aL aZ))))] sz)) 0 0 (va_A [(h0, .inr (10, [.ref hn, .ref g1, .ref g2, .ref hea, .ref g3, .ref g4, .ref g5, .ref g6, .ref g7, .int (iI 0), .int (iI 0), .int (iI 0), .int (iI (-1)), .int (iI (-1)), .int (iI 0)])), (hn, .inr (2, [.ref xa1, .ref xa2, .ref xa3, .ref xa5, .ref xa8, .int (iI 0), .int (iI 0), .int (iI 0)])), (xa3, .inr (7, [.int (iI 0), .int (iI 0), .int (iI 0), .long (lI 0), .int (iI 0), .int (iI 0), .int (iI 0), .long (lI 0), .long (lI 0), .long (lI 0), .long (lI 0), .long (lI 0), .int (iI 0), .int (iI 0), .int (iI 0), .int (iI 0), .ref xa4])), (hout, .inl (k 1, 1, .inr (.inl (aL aZ))))] sz) := by
  refine Met_ofWH (cc := cL_number) (maxL := 4) (ret := (some .int)) (by decide) rfl ?_
  intro p e s mI args below meth cO s₁ B hml hv
  obtain ⟨rfl, rfl, hP, hD0, hE⟩ := hv
  have hx := B.exec
  have hb := B.bytes
  have hr := B.returns
  have hts := atoms_spec (ws := woL_number) B.pre
  have hown : s.vm.findClass RL = some mI.cls := findClass_of_methodNamed B.named
  have hlocks := B.notSynchronized
  have htab := vx_table (x := yL_number) B (hts (.codeWith yL_number cL_number 4 (some .int) [(0, 9, 12, 13)]) List.mem_cons_self)
  have hD := hD0.self (sz := s.heap.size)
  generalize hAe : va_A [(h0, .inr (10, [.ref hn, .ref g1, .ref g2, .ref hea, .ref g3, .ref g4, .ref g5, .ref g6, .ref g7, .int (iI 0), .int (iI 0), .int (iI 0), .int (iI (-1)), .int (iI (-1)), .int (iI 0)])), (hn, .inr (2, [.ref xa1, .ref xa2, .ref xa3, .ref xa5, .ref xa8, .int (iI 0), .int (iI 0), .int (iI 0)])), (xa3, .inr (7, [.int (iI 0), .int (iI 0), .int (iI 0), .long (lI 0), .int (iI 0), .int (iI 0), .int (iI 0), .long (lI 0), .long (lI 0), .long (lI 0), .long (lI 0), .long (lI 0), .int (iI 0), .int (iI 0), .int (iI 0), .int (iI 0), .ref xa4])), (hout, .inl (k 1, 1, .inr (.inl (aL aZ))))] s.heap.size = A at hD hE ⊢
  have hA : ∀ q : Nat, s.heap.size ≤ q → A q := fun q h => by rw [← hAe]; exact Or.inr h
  have hS : va_S A s.heap s.heap [] := va_S.rf
  obtain ⟨hK, hNw, hNc, hZs, hAO1, hAO2⟩ := id hE
  have hSF : CallFix p mI cO cL_number 4 s ([.ref h0, .int (iI 3), .ref hout] : List Value).toArray woL_number RL := ⟨hx, hb, hml, hown, hts⟩
  have hl := lv_entry ([.ref h0, .int (iI 3), .ref hout] : List Value) (n := 4) (Nat.le_of_ble_eq_true rfl)
  rw [lg_entry_eq]
  generalize (lg_sl ([.ref h0, .int (iI 3), .ref hout] : List Value) ++ List.replicate (4 - (lg_sl ([.ref h0, .int (iI 3), .ref hout] : List Value)).length) Slot.unset).toArray = ls at hl ⊢
  have hl : lv_has ls 4 [(0, .ref h0), (1, .int (iI 3)), (2, .ref hout)] := hl
  refine W_gen (fun Q hQ => ?_)
  change W p l e ({ frames := 4, cells := 0, slots := 0, locals := 89 } : Room) s mI _ below meth cO s.heap [] 0 0 Q _
  have hP : va_P (dC, dI) vwCl [(h0, .inr (10, [.ref hn, .ref g1, .ref g2, .ref hea, .ref g3, .ref g4, .ref g5, .ref g6, .ref g7, .int (iI 0), .int (iI 0), .int (iI 0), .int (iI (-1)), .int (iI (-1)), .int (iI 0)])), (hn, .inr (2, [.ref xa1, .ref xa2, .ref xa3, .ref xa5, .ref xa8, .int (iI 0), .int (iI 0), .int (iI 0)])), (xa3, .inr (7, [.int (iI 0), .int (iI 0), .int (iI 0), .long (lI 0), .int (iI 0), .int (iI 0), .int (iI 0), .long (lI 0), .long (lI 0), .long (lI 0), .long (lI 0), .long (lI 0), .int (iI 0), .int (iI 0), .int (iI 0), .int (iI 0), .ref xa4])), (hout, .inl (k 1, 1, .inr (.inl (aL aZ))))] s.heap := hP
  refine lv_aload_n hx hb dL_number_0 rfl (lv_at hl 2 rfl) ?_
  refine q_iconst hx hb dL_number_1 ?_
  refine lv_aload_n hx hb dL_number_2 rfl (lv_at hl 0 rfl) ?_
  refine lv_iload_n hx hb dL_number_3 rfl (lv_at hl 1 rfl) ?_
  refine ki (va_runV (As := [.int (iI 3)]) (rest := [.int (iI 0), .ref hout]) hSF ((c_X10_number_3 l dC dI k h0 hn g1 g2 hea g3 g4 g5 g6 g7 xa1 xa2 xa3 xa4 xa5 0 0 xa8 0 0 0) s.heap.size) (cwV 1 hts gL_number_X10_number rfl rfl rfl (by decide +kernel) ⟨Nat.le_of_ble_eq_true rfl, Nat.le_of_ble_eq_true rfl⟩) (preV hP hD hE hS hA [0, 1, 2] rfl (by decide) (ci := 10) (q0 := 0) rfl rfl) rfl rfl hl.1 rfl (lv_room (Nat.le_of_ble_eq_true rfl)) dL_number_4 ⟨Nat.le_of_ble_eq_true rfl, Nat.le_of_ble_eq_true rfl⟩) hP hD hS hA [0, 1, 2] [3] rfl (wr := [(hout, .inl (k 1, 1, .inr (.inl (aL aZ))))]) rfl (by decide) (by decide) (fun r4 _ H locs hw hP hD hS => ?_)
  obtain rfl : r4 = (iI 0) := hw
  have hP : va_P (dC, dI) vwCl [(hout, .inl (k 1, 1, .inr (.inl (aL aZ))))] H := hP
  have hD : va_D A [(hout, .inl (k 1, 1, .inr (.inl (aL aZ))))] := hD
  refine q_i2l hx hb dL_number_7 (by omega) ?_
  refine q_last (G := (upI aZ 0 0)) hx hb hK hP hD hS 0 1 rfl rfl (by omega) rfl dL_number_8 (fun H locs hP hD hS => ?_)
  have hP : va_P (dC, dI) vwCl [(hout, .inl (k 1, 1, .inr (.inl (aL (upI aZ 0 0)))))] H := hP
  have hD : va_D A [(hout, .inl (k 1, 1, .inr (.inl (aL (upI aZ 0 0)))))] := hD
  refine lv_goto (tgt := 15) hx hb dL_number_9 (by decide) ?_
  refine q_iconst hx hb dL_number_15 ?_
  rw [hQ]
  refine W.widen (k := 0) (n := 0) (Nat.le_of_ble_eq_true rfl) (Nat.le_of_ble_eq_true rfl) ?_
  exact W.iret (v := (iI 0)) hx hb hr (fun t ht hW => ⟨⟨(iI 0), (), rfl, rfl, by rw [ht]; exact hP.sub [0] rfl, by rw [hAe]; exact hD.sub [0] (by decide) rfl⟩, hS.F ht⟩) hS.2.2 dL_number_16
set_option maxHeartbeats 4000000 in
set_option maxRecDepth 100000 in
/-- the law: number, answered -/
theorem c_L_number_4 (l : Launch) (dC : Nat → ClassId) (dI : Nat → Nat → Nat) (k : Nat → ClassId) (hout : Nat) (h0 hn g1 g2 hea g3 g4 g5 g6 g7 xa1 xa2 xa3 xa4 xa5 xa6 xa7 xa8 xa9 xa10 xa11 : Nat) (sz : Nat) : Met l yL_number woL_number ({ frames := 1, cells := 0, slots := 0, locals := 22 } : Room) (PcW (dC, dI) k [.ref h0, .int (iI 4), .ref hout] [(h0, .inr (10, [.ref hn, .ref g1, .ref g2, .ref hea, .ref g3, .ref g4, .ref g5, .ref g6, .ref g7, .int (iI 0), .int (iI 0), .int (iI 0), .int (iI (-1)), .int (iI (-1)), .int (iI 0)])), (hn, .inr (2, [.ref xa1, .ref xa2, .ref xa3, .ref xa5, .ref xa8, .int (iI 0), .int (iI 0), .int (iI 0)])), (xa3, .inr (7, [.int (iI 0), .int (iI 0), .int (iI 0), .long (lI 0), .int (iI 0), .int (iI 0), .int (iI 0), .long (lI 0), .long (lI 0), .long (lI 0), .long (lI 0), .long (lI 0), .int (iI 0), .int (iI 0), .int (iI 0), .int (iI 0), .ref xa4])), (hout, .inl (k 1, 1, .inr (.inl (aL aZ))))] sz) (va_Qi (fun (r : Int32) (_ : Unit) => r = iI 0) (QB (dC, dI) [(h0, .inr (10, [.ref hn, .ref g1, .ref g2, .ref hea, .ref g3, .ref g4, .ref g5, .ref g6, .ref g7, .int (iI 0), .int (iI 0), .int (iI 0), .int (iI (-1)), .int (iI (-1)), .int (iI 0)])), (hn, .inr (2, [.ref xa1, .ref xa2, .ref xa3, .ref xa5, .ref xa8, .int (iI 0), .int (iI 0), .int (iI 0)])), (xa3, .inr (7, [.int (iI 0), .int (iI 0), .int (iI 0), .long (lI 0), .int (iI 0), .int (iI 0), .int (iI 0), .long (lI 0), .long (lI 0), .long (lI 0), .long (lI 0), .long (lI 0), .int (iI 0), .int (iI 0), .int (iI 0), .int (iI 0), .ref xa4])), (hout, .inl (k 1, 1, .inr (.inl (aL aZ))))] (fun _ => [(hout, .inl (k 1, 1, .inr (.inl (aL (upI aZ 0 0)))))]) sz) (va_A [(h0, .inr (10, [.ref hn, .ref g1, .ref g2, .ref hea, .ref g3, .ref g4, .ref g5, .ref g6, .ref g7, .int (iI 0), .int (iI 0), .int (iI 0), .int (iI (-1)), .int (iI (-1)), .int (iI 0)])), (hn, .inr (2, [.ref xa1, .ref xa2, .ref xa3, .ref xa5, .ref xa8, .int (iI 0), .int (iI 0), .int (iI 0)])), (xa3, .inr (7, [.int (iI 0), .int (iI 0), .int (iI 0), .long (lI 0), .int (iI 0), .int (iI 0), .int (iI 0), .long (lI 0), .long (lI 0), .long (lI 0), .long (lI 0), .long (lI 0), .int (iI 0), .int (iI 0), .int (iI 0), .int (iI 0), .ref xa4])), (hout, .inl (k 1, 1, .inr (.inl (aL aZ))))] sz)) 0 0 (va_A [(h0, .inr (10, [.ref hn, .ref g1, .ref g2, .ref hea, .ref g3, .ref g4, .ref g5, .ref g6, .ref g7, .int (iI 0), .int (iI 0), .int (iI 0), .int (iI (-1)), .int (iI (-1)), .int (iI 0)])), (hn, .inr (2, [.ref xa1, .ref xa2, .ref xa3, .ref xa5, .ref xa8, .int (iI 0), .int (iI 0), .int (iI 0)])), (xa3, .inr (7, [.int (iI 0), .int (iI 0), .int (iI 0), .long (lI 0), .int (iI 0), .int (iI 0), .int (iI 0), .long (lI 0), .long (lI 0), .long (lI 0), .long (lI 0), .long (lI 0), .int (iI 0), .int (iI 0), .int (iI 0), .int (iI 0), .ref xa4])), (hout, .inl (k 1, 1, .inr (.inl (aL aZ))))] sz) := by
  refine Met_ofWH (cc := cL_number) (maxL := 4) (ret := (some .int)) (by decide) rfl ?_
  intro p e s mI args below meth cO s₁ B hml hv
  obtain ⟨rfl, rfl, hP, hD0, hE⟩ := hv
  have hx := B.exec
  have hb := B.bytes
  have hr := B.returns
  have hts := atoms_spec (ws := woL_number) B.pre
  have hown : s.vm.findClass RL = some mI.cls := findClass_of_methodNamed B.named
  have hlocks := B.notSynchronized
  have htab := vx_table (x := yL_number) B (hts (.codeWith yL_number cL_number 4 (some .int) [(0, 9, 12, 13)]) List.mem_cons_self)
  have hD := hD0.self (sz := s.heap.size)
  generalize hAe : va_A [(h0, .inr (10, [.ref hn, .ref g1, .ref g2, .ref hea, .ref g3, .ref g4, .ref g5, .ref g6, .ref g7, .int (iI 0), .int (iI 0), .int (iI 0), .int (iI (-1)), .int (iI (-1)), .int (iI 0)])), (hn, .inr (2, [.ref xa1, .ref xa2, .ref xa3, .ref xa5, .ref xa8, .int (iI 0), .int (iI 0), .int (iI 0)])), (xa3, .inr (7, [.int (iI 0), .int (iI 0), .int (iI 0), .long (lI 0), .int (iI 0), .int (iI 0), .int (iI 0), .long (lI 0), .long (lI 0), .long (lI 0), .long (lI 0), .long (lI 0), .int (iI 0), .int (iI 0), .int (iI 0), .int (iI 0), .ref xa4])), (hout, .inl (k 1, 1, .inr (.inl (aL aZ))))] s.heap.size = A at hD hE ⊢
  have hA : ∀ q : Nat, s.heap.size ≤ q → A q := fun q h => by rw [← hAe]; exact Or.inr h
  have hS : va_S A s.heap s.heap [] := va_S.rf
  obtain ⟨hK, hNw, hNc, hZs, hAO1, hAO2⟩ := id hE
  have hSF : CallFix p mI cO cL_number 4 s ([.ref h0, .int (iI 4), .ref hout] : List Value).toArray woL_number RL := ⟨hx, hb, hml, hown, hts⟩
  have hl := lv_entry ([.ref h0, .int (iI 4), .ref hout] : List Value) (n := 4) (Nat.le_of_ble_eq_true rfl)
  rw [lg_entry_eq]
  generalize (lg_sl ([.ref h0, .int (iI 4), .ref hout] : List Value) ++ List.replicate (4 - (lg_sl ([.ref h0, .int (iI 4), .ref hout] : List Value)).length) Slot.unset).toArray = ls at hl ⊢
  have hl : lv_has ls 4 [(0, .ref h0), (1, .int (iI 4)), (2, .ref hout)] := hl
  refine W_gen (fun Q hQ => ?_)
  change W p l e ({ frames := 1, cells := 0, slots := 0, locals := 22 } : Room) s mI _ below meth cO s.heap [] 0 0 Q _
  have hP : va_P (dC, dI) vwCl [(h0, .inr (10, [.ref hn, .ref g1, .ref g2, .ref hea, .ref g3, .ref g4, .ref g5, .ref g6, .ref g7, .int (iI 0), .int (iI 0), .int (iI 0), .int (iI (-1)), .int (iI (-1)), .int (iI 0)])), (hn, .inr (2, [.ref xa1, .ref xa2, .ref xa3, .ref xa5, .ref xa8, .int (iI 0), .int (iI 0), .int (iI 0)])), (xa3, .inr (7, [.int (iI 0), .int (iI 0), .int (iI 0), .long (lI 0), .int (iI 0), .int (iI 0), .int (iI 0), .long (lI 0), .long (lI 0), .long (lI 0), .long (lI 0), .long (lI 0), .int (iI 0), .int (iI 0), .int (iI 0), .int (iI 0), .ref xa4])), (hout, .inl (k 1, 1, .inr (.inl (aL aZ))))] s.heap := hP
  refine lv_aload_n hx hb dL_number_0 rfl (lv_at hl 2 rfl) ?_
  refine q_iconst hx hb dL_number_1 ?_
  refine lv_aload_n hx hb dL_number_2 rfl (lv_at hl 0 rfl) ?_
  refine lv_iload_n hx hb dL_number_3 rfl (lv_at hl 1 rfl) ?_
  refine ki (va_runV (As := [.int (iI 4)]) (rest := [.int (iI 0), .ref hout]) hSF ((c_X10_number_4 l dC dI k h0 hn g1 g2 hea g3 g4 g5 g6 g7 xa1 xa2 xa3 xa4 xa5 0 0 xa8 0 0 0) s.heap.size) (cwV 1 hts gL_number_X10_number rfl rfl rfl (by decide +kernel) ⟨Nat.le_of_ble_eq_true rfl, Nat.le_of_ble_eq_true rfl⟩) (preV hP hD hE hS hA [0, 1, 2] rfl (by decide) (ci := 10) (q0 := 0) rfl rfl) rfl rfl hl.1 rfl (lv_room (Nat.le_of_ble_eq_true rfl)) dL_number_4 ⟨Nat.le_of_ble_eq_true rfl, Nat.le_of_ble_eq_true rfl⟩) hP hD hS hA [0, 1, 2] [3] rfl (wr := [(hout, .inl (k 1, 1, .inr (.inl (aL aZ))))]) rfl (by decide) (by decide) (fun r4 _ H locs hw hP hD hS => ?_)
  obtain rfl : r4 = (iI 0) := hw
  have hP : va_P (dC, dI) vwCl [(hout, .inl (k 1, 1, .inr (.inl (aL aZ))))] H := hP
  have hD : va_D A [(hout, .inl (k 1, 1, .inr (.inl (aL aZ))))] := hD
  refine q_i2l hx hb dL_number_7 (by omega) ?_
  refine q_last (G := (upI aZ 0 0)) hx hb hK hP hD hS 0 1 rfl rfl (by omega) rfl dL_number_8 (fun H locs hP hD hS => ?_)
  have hP : va_P (dC, dI) vwCl [(hout, .inl (k 1, 1, .inr (.inl (aL (upI aZ 0 0)))))] H := hP
  have hD : va_D A [(hout, .inl (k 1, 1, .inr (.inl (aL (upI aZ 0 0)))))] := hD
  refine lv_goto (tgt := 15) hx hb dL_number_9 (by decide) ?_
  refine q_iconst hx hb dL_number_15 ?_
  rw [hQ]
  refine W.widen (k := 0) (n := 0) (Nat.le_of_ble_eq_true rfl) (Nat.le_of_ble_eq_true rfl) ?_
  exact W.iret (v := (iI 0)) hx hb hr (fun t ht hW => ⟨⟨(iI 0), (), rfl, rfl, by rw [ht]; exact hP.sub [0] rfl, by rw [hAe]; exact hD.sub [0] (by decide) rfl⟩, hS.F ht⟩) hS.2.2 dL_number_16
set_option maxHeartbeats 4000000 in
set_option maxRecDepth 100000 in
/-- the law: number, answered -/
theorem c_L_number_5 (l : Launch) (dC : Nat → ClassId) (dI : Nat → Nat → Nat) (k : Nat → ClassId) (hout : Nat) (h0 hn g1 g2 hea g3 g4 g5 g6 g7 xa1 xa2 xa3 xa4 xa5 xa6 xa7 xa8 xa9 xa10 xa11 : Nat) (sz : Nat) : Met l yL_number woL_number ({ frames := 1, cells := 0, slots := 0, locals := 22 } : Room) (PcW (dC, dI) k [.ref h0, .int (iI 5), .ref hout] [(h0, .inr (10, [.ref hn, .ref g1, .ref g2, .ref hea, .ref g3, .ref g4, .ref g5, .ref g6, .ref g7, .int (iI 0), .int (iI 0), .int (iI 0), .int (iI (-1)), .int (iI (-1)), .int (iI 0)])), (hn, .inr (2, [.ref xa1, .ref xa2, .ref xa3, .ref xa5, .ref xa8, .int (iI 0), .int (iI 0), .int (iI 0)])), (xa3, .inr (7, [.int (iI 0), .int (iI 0), .int (iI 0), .long (lI 0), .int (iI 0), .int (iI 0), .int (iI 0), .long (lI 0), .long (lI 0), .long (lI 0), .long (lI 0), .long (lI 0), .int (iI 0), .int (iI 0), .int (iI 0), .int (iI 0), .ref xa4])), (hout, .inl (k 1, 1, .inr (.inl (aL aZ))))] sz) (va_Qi (fun (r : Int32) (_ : Unit) => r = iI 0) (QB (dC, dI) [(h0, .inr (10, [.ref hn, .ref g1, .ref g2, .ref hea, .ref g3, .ref g4, .ref g5, .ref g6, .ref g7, .int (iI 0), .int (iI 0), .int (iI 0), .int (iI (-1)), .int (iI (-1)), .int (iI 0)])), (hn, .inr (2, [.ref xa1, .ref xa2, .ref xa3, .ref xa5, .ref xa8, .int (iI 0), .int (iI 0), .int (iI 0)])), (xa3, .inr (7, [.int (iI 0), .int (iI 0), .int (iI 0), .long (lI 0), .int (iI 0), .int (iI 0), .int (iI 0), .long (lI 0), .long (lI 0), .long (lI 0), .long (lI 0), .long (lI 0), .int (iI 0), .int (iI 0), .int (iI 0), .int (iI 0), .ref xa4])), (hout, .inl (k 1, 1, .inr (.inl (aL aZ))))] (fun _ => [(hout, .inl (k 1, 1, .inr (.inl (aL (upI aZ 0 0)))))]) sz) (va_A [(h0, .inr (10, [.ref hn, .ref g1, .ref g2, .ref hea, .ref g3, .ref g4, .ref g5, .ref g6, .ref g7, .int (iI 0), .int (iI 0), .int (iI 0), .int (iI (-1)), .int (iI (-1)), .int (iI 0)])), (hn, .inr (2, [.ref xa1, .ref xa2, .ref xa3, .ref xa5, .ref xa8, .int (iI 0), .int (iI 0), .int (iI 0)])), (xa3, .inr (7, [.int (iI 0), .int (iI 0), .int (iI 0), .long (lI 0), .int (iI 0), .int (iI 0), .int (iI 0), .long (lI 0), .long (lI 0), .long (lI 0), .long (lI 0), .long (lI 0), .int (iI 0), .int (iI 0), .int (iI 0), .int (iI 0), .ref xa4])), (hout, .inl (k 1, 1, .inr (.inl (aL aZ))))] sz)) 0 0 (va_A [(h0, .inr (10, [.ref hn, .ref g1, .ref g2, .ref hea, .ref g3, .ref g4, .ref g5, .ref g6, .ref g7, .int (iI 0), .int (iI 0), .int (iI 0), .int (iI (-1)), .int (iI (-1)), .int (iI 0)])), (hn, .inr (2, [.ref xa1, .ref xa2, .ref xa3, .ref xa5, .ref xa8, .int (iI 0), .int (iI 0), .int (iI 0)])), (xa3, .inr (7, [.int (iI 0), .int (iI 0), .int (iI 0), .long (lI 0), .int (iI 0), .int (iI 0), .int (iI 0), .long (lI 0), .long (lI 0), .long (lI 0), .long (lI 0), .long (lI 0), .int (iI 0), .int (iI 0), .int (iI 0), .int (iI 0), .ref xa4])), (hout, .inl (k 1, 1, .inr (.inl (aL aZ))))] sz) := by
  refine Met_ofWH (cc := cL_number) (maxL := 4) (ret := (some .int)) (by decide) rfl ?_
  intro p e s mI args below meth cO s₁ B hml hv
  obtain ⟨rfl, rfl, hP, hD0, hE⟩ := hv
  have hx := B.exec
  have hb := B.bytes
  have hr := B.returns
  have hts := atoms_spec (ws := woL_number) B.pre
  have hown : s.vm.findClass RL = some mI.cls := findClass_of_methodNamed B.named
  have hlocks := B.notSynchronized
  have htab := vx_table (x := yL_number) B (hts (.codeWith yL_number cL_number 4 (some .int) [(0, 9, 12, 13)]) List.mem_cons_self)
  have hD := hD0.self (sz := s.heap.size)
  generalize hAe : va_A [(h0, .inr (10, [.ref hn, .ref g1, .ref g2, .ref hea, .ref g3, .ref g4, .ref g5, .ref g6, .ref g7, .int (iI 0), .int (iI 0), .int (iI 0), .int (iI (-1)), .int (iI (-1)), .int (iI 0)])), (hn, .inr (2, [.ref xa1, .ref xa2, .ref xa3, .ref xa5, .ref xa8, .int (iI 0), .int (iI 0), .int (iI 0)])), (xa3, .inr (7, [.int (iI 0), .int (iI 0), .int (iI 0), .long (lI 0), .int (iI 0), .int (iI 0), .int (iI 0), .long (lI 0), .long (lI 0), .long (lI 0), .long (lI 0), .long (lI 0), .int (iI 0), .int (iI 0), .int (iI 0), .int (iI 0), .ref xa4])), (hout, .inl (k 1, 1, .inr (.inl (aL aZ))))] s.heap.size = A at hD hE ⊢
  have hA : ∀ q : Nat, s.heap.size ≤ q → A q := fun q h => by rw [← hAe]; exact Or.inr h
  have hS : va_S A s.heap s.heap [] := va_S.rf
  obtain ⟨hK, hNw, hNc, hZs, hAO1, hAO2⟩ := id hE
  have hSF : CallFix p mI cO cL_number 4 s ([.ref h0, .int (iI 5), .ref hout] : List Value).toArray woL_number RL := ⟨hx, hb, hml, hown, hts⟩
  have hl := lv_entry ([.ref h0, .int (iI 5), .ref hout] : List Value) (n := 4) (Nat.le_of_ble_eq_true rfl)
  rw [lg_entry_eq]
  generalize (lg_sl ([.ref h0, .int (iI 5), .ref hout] : List Value) ++ List.replicate (4 - (lg_sl ([.ref h0, .int (iI 5), .ref hout] : List Value)).length) Slot.unset).toArray = ls at hl ⊢
  have hl : lv_has ls 4 [(0, .ref h0), (1, .int (iI 5)), (2, .ref hout)] := hl
  refine W_gen (fun Q hQ => ?_)
  change W p l e ({ frames := 1, cells := 0, slots := 0, locals := 22 } : Room) s mI _ below meth cO s.heap [] 0 0 Q _
  have hP : va_P (dC, dI) vwCl [(h0, .inr (10, [.ref hn, .ref g1, .ref g2, .ref hea, .ref g3, .ref g4, .ref g5, .ref g6, .ref g7, .int (iI 0), .int (iI 0), .int (iI 0), .int (iI (-1)), .int (iI (-1)), .int (iI 0)])), (hn, .inr (2, [.ref xa1, .ref xa2, .ref xa3, .ref xa5, .ref xa8, .int (iI 0), .int (iI 0), .int (iI 0)])), (xa3, .inr (7, [.int (iI 0), .int (iI 0), .int (iI 0), .long (lI 0), .int (iI 0), .int (iI 0), .int (iI 0), .long (lI 0), .long (lI 0), .long (lI 0), .long (lI 0), .long (lI 0), .int (iI 0), .int (iI 0), .int (iI 0), .int (iI 0), .ref xa4])), (hout, .inl (k 1, 1, .inr (.inl (aL aZ))))] s.heap := hP
  refine lv_aload_n hx hb dL_number_0 rfl (lv_at hl 2 rfl) ?_
  refine q_iconst hx hb dL_number_1 ?_
  refine lv_aload_n hx hb dL_number_2 rfl (lv_at hl 0 rfl) ?_
  refine lv_iload_n hx hb dL_number_3 rfl (lv_at hl 1 rfl) ?_
  refine ki (va_runV (As := [.int (iI 5)]) (rest := [.int (iI 0), .ref hout]) hSF ((c_X10_number_5 l dC dI k h0 hn g1 g2 hea g3 g4 g5 g6 g7 xa1 xa2 xa3 xa4 xa5 0 0 xa8 0 0 0) s.heap.size) (cwV 1 hts gL_number_X10_number rfl rfl rfl (by decide +kernel) ⟨Nat.le_of_ble_eq_true rfl, Nat.le_of_ble_eq_true rfl⟩) (preV hP hD hE hS hA [0, 1, 2] rfl (by decide) (ci := 10) (q0 := 0) rfl rfl) rfl rfl hl.1 rfl (lv_room (Nat.le_of_ble_eq_true rfl)) dL_number_4 ⟨Nat.le_of_ble_eq_true rfl, Nat.le_of_ble_eq_true rfl⟩) hP hD hS hA [0, 1, 2] [3] rfl (wr := [(hout, .inl (k 1, 1, .inr (.inl (aL aZ))))]) rfl (by decide) (by decide) (fun r4 _ H locs hw hP hD hS => ?_)
  obtain rfl : r4 = (iI 0) := hw
  have hP : va_P (dC, dI) vwCl [(hout, .inl (k 1, 1, .inr (.inl (aL aZ))))] H := hP
  have hD : va_D A [(hout, .inl (k 1, 1, .inr (.inl (aL aZ))))] := hD
  refine q_i2l hx hb dL_number_7 (by omega) ?_
  refine q_last (G := (upI aZ 0 0)) hx hb hK hP hD hS 0 1 rfl rfl (by omega) rfl dL_number_8 (fun H locs hP hD hS => ?_)
  have hP : va_P (dC, dI) vwCl [(hout, .inl (k 1, 1, .inr (.inl (aL (upI aZ 0 0)))))] H := hP
  have hD : va_D A [(hout, .inl (k 1, 1, .inr (.inl (aL (upI aZ 0 0)))))] := hD
  refine lv_goto (tgt := 15) hx hb dL_number_9 (by decide) ?_
  refine q_iconst hx hb dL_number_15 ?_
  rw [hQ]
  refine W.widen (k := 0) (n := 0) (Nat.le_of_ble_eq_true rfl) (Nat.le_of_ble_eq_true rfl) ?_
  exact W.iret (v := (iI 0)) hx hb hr (fun t ht hW => ⟨⟨(iI 0), (), rfl, rfl, by rw [ht]; exact hP.sub [0] rfl, by rw [hAe]; exact hD.sub [0] (by decide) rfl⟩, hS.F ht⟩) hS.2.2 dL_number_16
set_option maxHeartbeats 4000000 in
set_option maxRecDepth 100000 in
/-- the law: number, answered -/
theorem c_L_number_6 (l : Launch) (dC : Nat → ClassId) (dI : Nat → Nat → Nat) (k : Nat → ClassId) (hout : Nat) (h0 hn g1 g2 hea g3 g4 g5 g6 g7 xa1 xa2 xa3 xa4 xa5 xa6 xa7 xa8 xa9 xa10 xa11 : Nat) (sz : Nat) : Met l yL_number woL_number ({ frames := 1, cells := 0, slots := 0, locals := 22 } : Room) (PcW (dC, dI) k [.ref h0, .int (iI 6), .ref hout] [(h0, .inr (10, [.ref hn, .ref g1, .ref g2, .ref hea, .ref g3, .ref g4, .ref g5, .ref g6, .ref g7, .int (iI 0), .int (iI 0), .int (iI 0), .int (iI (-1)), .int (iI (-1)), .int (iI 0)])), (hn, .inr (2, [.ref xa1, .ref xa2, .ref xa3, .ref xa5, .ref xa8, .int (iI 0), .int (iI 0), .int (iI 0)])), (xa3, .inr (7, [.int (iI 0), .int (iI 0), .int (iI 0), .long (lI 0), .int (iI 0), .int (iI 0), .int (iI 0), .long (lI 0), .long (lI 0), .long (lI 0), .long (lI 0), .long (lI 0), .int (iI 0), .int (iI 0), .int (iI 0), .int (iI 0), .ref xa4])), (hout, .inl (k 1, 1, .inr (.inl (aL aZ))))] sz) (va_Qi (fun (r : Int32) (_ : Unit) => r = iI 0) (QB (dC, dI) [(h0, .inr (10, [.ref hn, .ref g1, .ref g2, .ref hea, .ref g3, .ref g4, .ref g5, .ref g6, .ref g7, .int (iI 0), .int (iI 0), .int (iI 0), .int (iI (-1)), .int (iI (-1)), .int (iI 0)])), (hn, .inr (2, [.ref xa1, .ref xa2, .ref xa3, .ref xa5, .ref xa8, .int (iI 0), .int (iI 0), .int (iI 0)])), (xa3, .inr (7, [.int (iI 0), .int (iI 0), .int (iI 0), .long (lI 0), .int (iI 0), .int (iI 0), .int (iI 0), .long (lI 0), .long (lI 0), .long (lI 0), .long (lI 0), .long (lI 0), .int (iI 0), .int (iI 0), .int (iI 0), .int (iI 0), .ref xa4])), (hout, .inl (k 1, 1, .inr (.inl (aL aZ))))] (fun _ => [(hout, .inl (k 1, 1, .inr (.inl (aL (upI aZ 0 (-1))))))]) sz) (va_A [(h0, .inr (10, [.ref hn, .ref g1, .ref g2, .ref hea, .ref g3, .ref g4, .ref g5, .ref g6, .ref g7, .int (iI 0), .int (iI 0), .int (iI 0), .int (iI (-1)), .int (iI (-1)), .int (iI 0)])), (hn, .inr (2, [.ref xa1, .ref xa2, .ref xa3, .ref xa5, .ref xa8, .int (iI 0), .int (iI 0), .int (iI 0)])), (xa3, .inr (7, [.int (iI 0), .int (iI 0), .int (iI 0), .long (lI 0), .int (iI 0), .int (iI 0), .int (iI 0), .long (lI 0), .long (lI 0), .long (lI 0), .long (lI 0), .long (lI 0), .int (iI 0), .int (iI 0), .int (iI 0), .int (iI 0), .ref xa4])), (hout, .inl (k 1, 1, .inr (.inl (aL aZ))))] sz)) 0 0 (va_A [(h0, .inr (10, [.ref hn, .ref g1, .ref g2, .ref hea, .ref g3, .ref g4, .ref g5, .ref g6, .ref g7, .int (iI 0), .int (iI 0), .int (iI 0), .int (iI (-1)), .int (iI (-1)), .int (iI 0)])), (hn, .inr (2, [.ref xa1, .ref xa2, .ref xa3, .ref xa5, .ref xa8, .int (iI 0), .int (iI 0), .int (iI 0)])), (xa3, .inr (7, [.int (iI 0), .int (iI 0), .int (iI 0), .long (lI 0), .int (iI 0), .int (iI 0), .int (iI 0), .long (lI 0), .long (lI 0), .long (lI 0), .long (lI 0), .long (lI 0), .int (iI 0), .int (iI 0), .int (iI 0), .int (iI 0), .ref xa4])), (hout, .inl (k 1, 1, .inr (.inl (aL aZ))))] sz) := by
  refine Met_ofWH (cc := cL_number) (maxL := 4) (ret := (some .int)) (by decide) rfl ?_
  intro p e s mI args below meth cO s₁ B hml hv
  obtain ⟨rfl, rfl, hP, hD0, hE⟩ := hv
  have hx := B.exec
  have hb := B.bytes
  have hr := B.returns
  have hts := atoms_spec (ws := woL_number) B.pre
  have hown : s.vm.findClass RL = some mI.cls := findClass_of_methodNamed B.named
  have hlocks := B.notSynchronized
  have htab := vx_table (x := yL_number) B (hts (.codeWith yL_number cL_number 4 (some .int) [(0, 9, 12, 13)]) List.mem_cons_self)
  have hD := hD0.self (sz := s.heap.size)
  generalize hAe : va_A [(h0, .inr (10, [.ref hn, .ref g1, .ref g2, .ref hea, .ref g3, .ref g4, .ref g5, .ref g6, .ref g7, .int (iI 0), .int (iI 0), .int (iI 0), .int (iI (-1)), .int (iI (-1)), .int (iI 0)])), (hn, .inr (2, [.ref xa1, .ref xa2, .ref xa3, .ref xa5, .ref xa8, .int (iI 0), .int (iI 0), .int (iI 0)])), (xa3, .inr (7, [.int (iI 0), .int (iI 0), .int (iI 0), .long (lI 0), .int (iI 0), .int (iI 0), .int (iI 0), .long (lI 0), .long (lI 0), .long (lI 0), .long (lI 0), .long (lI 0), .int (iI 0), .int (iI 0), .int (iI 0), .int (iI 0), .ref xa4])), (hout, .inl (k 1, 1, .inr (.inl (aL aZ))))] s.heap.size = A at hD hE ⊢
  have hA : ∀ q : Nat, s.heap.size ≤ q → A q := fun q h => by rw [← hAe]; exact Or.inr h
  have hS : va_S A s.heap s.heap [] := va_S.rf
  obtain ⟨hK, hNw, hNc, hZs, hAO1, hAO2⟩ := id hE
  have hSF : CallFix p mI cO cL_number 4 s ([.ref h0, .int (iI 6), .ref hout] : List Value).toArray woL_number RL := ⟨hx, hb, hml, hown, hts⟩
  have hl := lv_entry ([.ref h0, .int (iI 6), .ref hout] : List Value) (n := 4) (Nat.le_of_ble_eq_true rfl)
  rw [lg_entry_eq]
  generalize (lg_sl ([.ref h0, .int (iI 6), .ref hout] : List Value) ++ List.replicate (4 - (lg_sl ([.ref h0, .int (iI 6), .ref hout] : List Value)).length) Slot.unset).toArray = ls at hl ⊢
  have hl : lv_has ls 4 [(0, .ref h0), (1, .int (iI 6)), (2, .ref hout)] := hl
  refine W_gen (fun Q hQ => ?_)
  change W p l e ({ frames := 1, cells := 0, slots := 0, locals := 22 } : Room) s mI _ below meth cO s.heap [] 0 0 Q _
  have hP : va_P (dC, dI) vwCl [(h0, .inr (10, [.ref hn, .ref g1, .ref g2, .ref hea, .ref g3, .ref g4, .ref g5, .ref g6, .ref g7, .int (iI 0), .int (iI 0), .int (iI 0), .int (iI (-1)), .int (iI (-1)), .int (iI 0)])), (hn, .inr (2, [.ref xa1, .ref xa2, .ref xa3, .ref xa5, .ref xa8, .int (iI 0), .int (iI 0), .int (iI 0)])), (xa3, .inr (7, [.int (iI 0), .int (iI 0), .int (iI 0), .long (lI 0), .int (iI 0), .int (iI 0), .int (iI 0), .long (lI 0), .long (lI 0), .long (lI 0), .long (lI 0), .long (lI 0), .int (iI 0), .int (iI 0), .int (iI 0), .int (iI 0), .ref xa4])), (hout, .inl (k 1, 1, .inr (.inl (aL aZ))))] s.heap := hP
  refine lv_aload_n hx hb dL_number_0 rfl (lv_at hl 2 rfl) ?_
  refine q_iconst hx hb dL_number_1 ?_
  refine lv_aload_n hx hb dL_number_2 rfl (lv_at hl 0 rfl) ?_
  refine lv_iload_n hx hb dL_number_3 rfl (lv_at hl 1 rfl) ?_
  refine ki (va_runV (As := [.int (iI 6)]) (rest := [.int (iI 0), .ref hout]) hSF ((c_X10_number_6 l dC dI k h0 hn g1 g2 hea g3 g4 g5 g6 g7 xa1 xa2 xa3 xa4 xa5 0 0 xa8 0 0 0) s.heap.size) (cwV 1 hts gL_number_X10_number rfl rfl rfl (by decide +kernel) ⟨Nat.le_of_ble_eq_true rfl, Nat.le_of_ble_eq_true rfl⟩) (preV hP hD hE hS hA [0, 1, 2] rfl (by decide) (ci := 10) (q0 := 0) rfl rfl) rfl rfl hl.1 rfl (lv_room (Nat.le_of_ble_eq_true rfl)) dL_number_4 ⟨Nat.le_of_ble_eq_true rfl, Nat.le_of_ble_eq_true rfl⟩) hP hD hS hA [0, 1, 2] [3] rfl (wr := [(hout, .inl (k 1, 1, .inr (.inl (aL aZ))))]) rfl (by decide) (by decide) (fun r4 _ H locs hw hP hD hS => ?_)
  obtain rfl : r4 = (iI (-1)) := hw
  have hP : va_P (dC, dI) vwCl [(hout, .inl (k 1, 1, .inr (.inl (aL aZ))))] H := hP
  have hD : va_D A [(hout, .inl (k 1, 1, .inr (.inl (aL aZ))))] := hD
  refine q_i2l hx hb dL_number_7 (by omega) ?_
  refine q_last (G := (upI aZ 0 (-1))) hx hb hK hP hD hS 0 1 rfl rfl (by omega) rfl dL_number_8 (fun H locs hP hD hS => ?_)
  have hP : va_P (dC, dI) vwCl [(hout, .inl (k 1, 1, .inr (.inl (aL (upI aZ 0 (-1))))))] H := hP
  have hD : va_D A [(hout, .inl (k 1, 1, .inr (.inl (aL (upI aZ 0 (-1))))))] := hD
  refine lv_goto (tgt := 15) hx hb dL_number_9 (by decide) ?_
  refine q_iconst hx hb dL_number_15 ?_
  rw [hQ]
  refine W.widen (k := 0) (n := 0) (Nat.le_of_ble_eq_true rfl) (Nat.le_of_ble_eq_true rfl) ?_
  exact W.iret (v := (iI 0)) hx hb hr (fun t ht hW => ⟨⟨(iI 0), (), rfl, rfl, by rw [ht]; exact hP.sub [0] rfl, by rw [hAe]; exact hD.sub [0] (by decide) rfl⟩, hS.F ht⟩) hS.2.2 dL_number_16
set_option maxHeartbeats 4000000 in
set_option maxRecDepth 100000 in
/-- the law: number, answered -/
theorem c_L_number_7 (l : Launch) (dC : Nat → ClassId) (dI : Nat → Nat → Nat) (k : Nat → ClassId) (hout : Nat) (h0 hn g1 g2 hea g3 g4 g5 g6 g7 xa1 xa2 xa3 xa4 xa5 xa6 xa7 xa8 xa9 xa10 xa11 : Nat) (sz : Nat) : Met l yL_number woL_number ({ frames := 3, cells := 0, slots := 0, locals := 58 } : Room) (PcW (dC, dI) k [.ref h0, .int (iI 7), .ref hout] [(h0, .inr (10, [.ref hn, .ref g1, .ref g2, .ref hea, .ref g3, .ref g4, .ref g5, .ref g6, .ref g7, .int (iI 0), .int (iI 0), .int (iI 0), .int (iI (-1)), .int (iI (-1)), .int (iI 0)])), (hn, .inr (2, [.ref xa1, .ref xa2, .ref xa3, .ref xa5, .ref xa8, .int (iI 0), .int (iI 0), .int (iI 0)])), (xa3, .inr (7, [.int (iI 0), .int (iI 0), .int (iI 0), .long (lI 0), .int (iI 0), .int (iI 0), .int (iI 0), .long (lI 0), .long (lI 0), .long (lI 0), .long (lI 0), .long (lI 0), .int (iI 0), .int (iI 0), .int (iI 0), .int (iI 0), .ref xa4])), (xa5, .inr (3, [.ref xa6, .ref xa7, .int (iI 0), .int (iI 0), .int (iI 0)])), (hout, .inl (k 1, 1, .inr (.inl (aL aZ))))] sz) (va_Qi (fun (r : Int32) (_ : Unit) => r = iI 0) (QB (dC, dI) [(h0, .inr (10, [.ref hn, .ref g1, .ref g2, .ref hea, .ref g3, .ref g4, .ref g5, .ref g6, .ref g7, .int (iI 0), .int (iI 0), .int (iI 0), .int (iI (-1)), .int (iI (-1)), .int (iI 0)])), (hn, .inr (2, [.ref xa1, .ref xa2, .ref xa3, .ref xa5, .ref xa8, .int (iI 0), .int (iI 0), .int (iI 0)])), (xa3, .inr (7, [.int (iI 0), .int (iI 0), .int (iI 0), .long (lI 0), .int (iI 0), .int (iI 0), .int (iI 0), .long (lI 0), .long (lI 0), .long (lI 0), .long (lI 0), .long (lI 0), .int (iI 0), .int (iI 0), .int (iI 0), .int (iI 0), .ref xa4])), (xa5, .inr (3, [.ref xa6, .ref xa7, .int (iI 0), .int (iI 0), .int (iI 0)])), (hout, .inl (k 1, 1, .inr (.inl (aL aZ))))] (fun _ => [(hout, .inl (k 1, 1, .inr (.inl (aL (upI aZ 0 0)))))]) sz) (va_A [(h0, .inr (10, [.ref hn, .ref g1, .ref g2, .ref hea, .ref g3, .ref g4, .ref g5, .ref g6, .ref g7, .int (iI 0), .int (iI 0), .int (iI 0), .int (iI (-1)), .int (iI (-1)), .int (iI 0)])), (hn, .inr (2, [.ref xa1, .ref xa2, .ref xa3, .ref xa5, .ref xa8, .int (iI 0), .int (iI 0), .int (iI 0)])), (xa3, .inr (7, [.int (iI 0), .int (iI 0), .int (iI 0), .long (lI 0), .int (iI 0), .int (iI 0), .int (iI 0), .long (lI 0), .long (lI 0), .long (lI 0), .long (lI 0), .long (lI 0), .int (iI 0), .int (iI 0), .int (iI 0), .int (iI 0), .ref xa4])), (xa5, .inr (3, [.ref xa6, .ref xa7, .int (iI 0), .int (iI 0), .int (iI 0)])), (hout, .inl (k 1, 1, .inr (.inl (aL aZ))))] sz)) 0 0 (va_A [(h0, .inr (10, [.ref hn, .ref g1, .ref g2, .ref hea, .ref g3, .ref g4, .ref g5, .ref g6, .ref g7, .int (iI 0), .int (iI 0), .int (iI 0), .int (iI (-1)), .int (iI (-1)), .int (iI 0)])), (hn, .inr (2, [.ref xa1, .ref xa2, .ref xa3, .ref xa5, .ref xa8, .int (iI 0), .int (iI 0), .int (iI 0)])), (xa3, .inr (7, [.int (iI 0), .int (iI 0), .int (iI 0), .long (lI 0), .int (iI 0), .int (iI 0), .int (iI 0), .long (lI 0), .long (lI 0), .long (lI 0), .long (lI 0), .long (lI 0), .int (iI 0), .int (iI 0), .int (iI 0), .int (iI 0), .ref xa4])), (xa5, .inr (3, [.ref xa6, .ref xa7, .int (iI 0), .int (iI 0), .int (iI 0)])), (hout, .inl (k 1, 1, .inr (.inl (aL aZ))))] sz) := by
  refine Met_ofWH (cc := cL_number) (maxL := 4) (ret := (some .int)) (by decide) rfl ?_
  intro p e s mI args below meth cO s₁ B hml hv
  obtain ⟨rfl, rfl, hP, hD0, hE⟩ := hv
  have hx := B.exec
  have hb := B.bytes
  have hr := B.returns
  have hts := atoms_spec (ws := woL_number) B.pre
  have hown : s.vm.findClass RL = some mI.cls := findClass_of_methodNamed B.named
  have hlocks := B.notSynchronized
  have htab := vx_table (x := yL_number) B (hts (.codeWith yL_number cL_number 4 (some .int) [(0, 9, 12, 13)]) List.mem_cons_self)
  have hD := hD0.self (sz := s.heap.size)
  generalize hAe : va_A [(h0, .inr (10, [.ref hn, .ref g1, .ref g2, .ref hea, .ref g3, .ref g4, .ref g5, .ref g6, .ref g7, .int (iI 0), .int (iI 0), .int (iI 0), .int (iI (-1)), .int (iI (-1)), .int (iI 0)])), (hn, .inr (2, [.ref xa1, .ref xa2, .ref xa3, .ref xa5, .ref xa8, .int (iI 0), .int (iI 0), .int (iI 0)])), (xa3, .inr (7, [.int (iI 0), .int (iI 0), .int (iI 0), .long (lI 0), .int (iI 0), .int (iI 0), .int (iI 0), .long (lI 0), .long (lI 0), .long (lI 0), .long (lI 0), .long (lI 0), .int (iI 0), .int (iI 0), .int (iI 0), .int (iI 0), .ref xa4])), (xa5, .inr (3, [.ref xa6, .ref xa7, .int (iI 0), .int (iI 0), .int (iI 0)])), (hout, .inl (k 1, 1, .inr (.inl (aL aZ))))] s.heap.size = A at hD hE ⊢
  have hA : ∀ q : Nat, s.heap.size ≤ q → A q := fun q h => by rw [← hAe]; exact Or.inr h
  have hS : va_S A s.heap s.heap [] := va_S.rf
  obtain ⟨hK, hNw, hNc, hZs, hAO1, hAO2⟩ := id hE
  have hSF : CallFix p mI cO cL_number 4 s ([.ref h0, .int (iI 7), .ref hout] : List Value).toArray woL_number RL := ⟨hx, hb, hml, hown, hts⟩
  have hl := lv_entry ([.ref h0, .int (iI 7), .ref hout] : List Value) (n := 4) (Nat.le_of_ble_eq_true rfl)
  rw [lg_entry_eq]
  generalize (lg_sl ([.ref h0, .int (iI 7), .ref hout] : List Value) ++ List.replicate (4 - (lg_sl ([.ref h0, .int (iI 7), .ref hout] : List Value)).length) Slot.unset).toArray = ls at hl ⊢
  have hl : lv_has ls 4 [(0, .ref h0), (1, .int (iI 7)), (2, .ref hout)] := hl
  refine W_gen (fun Q hQ => ?_)
  change W p l e ({ frames := 3, cells := 0, slots := 0, locals := 58 } : Room) s mI _ below meth cO s.heap [] 0 0 Q _
  have hP : va_P (dC, dI) vwCl [(h0, .inr (10, [.ref hn, .ref g1, .ref g2, .ref hea, .ref g3, .ref g4, .ref g5, .ref g6, .ref g7, .int (iI 0), .int (iI 0), .int (iI 0), .int (iI (-1)), .int (iI (-1)), .int (iI 0)])), (hn, .inr (2, [.ref xa1, .ref xa2, .ref xa3, .ref xa5, .ref xa8, .int (iI 0), .int (iI 0), .int (iI 0)])), (xa3, .inr (7, [.int (iI 0), .int (iI 0), .int (iI 0), .long (lI 0), .int (iI 0), .int (iI 0), .int (iI 0), .long (lI 0), .long (lI 0), .long (lI 0), .long (lI 0), .long (lI 0), .int (iI 0), .int (iI 0), .int (iI 0), .int (iI 0), .ref xa4])), (xa5, .inr (3, [.ref xa6, .ref xa7, .int (iI 0), .int (iI 0), .int (iI 0)])), (hout, .inl (k 1, 1, .inr (.inl (aL aZ))))] s.heap := hP
  refine lv_aload_n hx hb dL_number_0 rfl (lv_at hl 2 rfl) ?_
  refine q_iconst hx hb dL_number_1 ?_
  refine lv_aload_n hx hb dL_number_2 rfl (lv_at hl 0 rfl) ?_
  refine lv_iload_n hx hb dL_number_3 rfl (lv_at hl 1 rfl) ?_
  refine ki (va_runV (As := [.int (iI 7)]) (rest := [.int (iI 0), .ref hout]) hSF ((c_X10_number_7 l dC dI k h0 hn g1 g2 hea g3 g4 g5 g6 g7 xa1 xa2 xa3 xa4 xa5 xa6 xa7 xa8 0 0 0) s.heap.size) (cwV 1 hts gL_number_X10_number rfl rfl rfl (by decide +kernel) ⟨Nat.le_of_ble_eq_true rfl, Nat.le_of_ble_eq_true rfl⟩) (preV hP hD hE hS hA [0, 1, 2, 3] rfl (by decide) (ci := 10) (q0 := 0) rfl rfl) rfl rfl hl.1 rfl (lv_room (Nat.le_of_ble_eq_true rfl)) dL_number_4 ⟨Nat.le_of_ble_eq_true rfl, Nat.le_of_ble_eq_true rfl⟩) hP hD hS hA [0, 1, 2, 3] [4] rfl (wr := [(hout, .inl (k 1, 1, .inr (.inl (aL aZ))))]) rfl (by decide) (by decide) (fun r4 _ H locs hw hP hD hS => ?_)
  obtain rfl : r4 = (iI 0) := hw
  have hP : va_P (dC, dI) vwCl [(hout, .inl (k 1, 1, .inr (.inl (aL aZ))))] H := hP
  have hD : va_D A [(hout, .inl (k 1, 1, .inr (.inl (aL aZ))))] := hD
  refine q_i2l hx hb dL_number_7 (by omega) ?_
  refine q_last (G := (upI aZ 0 0)) hx hb hK hP hD hS 0 1 rfl rfl (by omega) rfl dL_number_8 (fun H locs hP hD hS => ?_)
  have hP : va_P (dC, dI) vwCl [(hout, .inl (k 1, 1, .inr (.inl (aL (upI aZ 0 0)))))] H := hP
  have hD : va_D A [(hout, .inl (k 1, 1, .inr (.inl (aL (upI aZ 0 0)))))] := hD
  refine lv_goto (tgt := 15) hx hb dL_number_9 (by decide) ?_
  refine q_iconst hx hb dL_number_15 ?_
  rw [hQ]
  refine W.widen (k := 0) (n := 0) (Nat.le_of_ble_eq_true rfl) (Nat.le_of_ble_eq_true rfl) ?_
  exact W.iret (v := (iI 0)) hx hb hr (fun t ht hW => ⟨⟨(iI 0), (), rfl, rfl, by rw [ht]; exact hP.sub [0] rfl, by rw [hAe]; exact hD.sub [0] (by decide) rfl⟩, hS.F ht⟩) hS.2.2 dL_number_16
set_option maxHeartbeats 4000000 in
set_option maxRecDepth 100000 in
/-- the law: number, answered -/
theorem c_L_number_8 (l : Launch) (dC : Nat → ClassId) (dI : Nat → Nat → Nat) (k : Nat → ClassId) (hout : Nat) (h0 hn g1 g2 hea g3 g4 g5 g6 g7 xa1 xa2 xa3 xa4 xa5 xa6 xa7 xa8 xa9 xa10 xa11 : Nat) (sz : Nat) : Met l yL_number woL_number ({ frames := 2, cells := 0, slots := 0, locals := 42 } : Room) (PcW (dC, dI) k [.ref h0, .int (iI 8), .ref hout] [(h0, .inr (10, [.ref hn, .ref g1, .ref g2, .ref hea, .ref g3, .ref g4, .ref g5, .ref g6, .ref g7, .int (iI 0), .int (iI 0), .int (iI 0), .int (iI (-1)), .int (iI (-1)), .int (iI 0)])), (hn, .inr (2, [.ref xa1, .ref xa2, .ref xa3, .ref xa5, .ref xa8, .int (iI 0), .int (iI 0), .int (iI 0)])), (xa3, .inr (7, [.int (iI 0), .int (iI 0), .int (iI 0), .long (lI 0), .int (iI 0), .int (iI 0), .int (iI 0), .long (lI 0), .long (lI 0), .long (lI 0), .long (lI 0), .long (lI 0), .int (iI 0), .int (iI 0), .int (iI 0), .int (iI 0), .ref xa4])), (xa5, .inr (3, [.ref xa6, .ref xa7, .int (iI 0), .int (iI 0), .int (iI 0)])), (hout, .inl (k 1, 1, .inr (.inl (aL aZ))))] sz) (va_Qi (fun (r : Int32) (_ : Unit) => r = iI 0) (QB (dC, dI) [(h0, .inr (10, [.ref hn, .ref g1, .ref g2, .ref hea, .ref g3, .ref g4, .ref g5, .ref g6, .ref g7, .int (iI 0), .int (iI 0), .int (iI 0), .int (iI (-1)), .int (iI (-1)), .int (iI 0)])), (hn, .inr (2, [.ref xa1, .ref xa2, .ref xa3, .ref xa5, .ref xa8, .int (iI 0), .int (iI 0), .int (iI 0)])), (xa3, .inr (7, [.int (iI 0), .int (iI 0), .int (iI 0), .long (lI 0), .int (iI 0), .int (iI 0), .int (iI 0), .long (lI 0), .long (lI 0), .long (lI 0), .long (lI 0), .long (lI 0), .int (iI 0), .int (iI 0), .int (iI 0), .int (iI 0), .ref xa4])), (xa5, .inr (3, [.ref xa6, .ref xa7, .int (iI 0), .int (iI 0), .int (iI 0)])), (hout, .inl (k 1, 1, .inr (.inl (aL aZ))))] (fun _ => [(hout, .inl (k 1, 1, .inr (.inl (aL (upI aZ 0 0)))))]) sz) (va_A [(h0, .inr (10, [.ref hn, .ref g1, .ref g2, .ref hea, .ref g3, .ref g4, .ref g5, .ref g6, .ref g7, .int (iI 0), .int (iI 0), .int (iI 0), .int (iI (-1)), .int (iI (-1)), .int (iI 0)])), (hn, .inr (2, [.ref xa1, .ref xa2, .ref xa3, .ref xa5, .ref xa8, .int (iI 0), .int (iI 0), .int (iI 0)])), (xa3, .inr (7, [.int (iI 0), .int (iI 0), .int (iI 0), .long (lI 0), .int (iI 0), .int (iI 0), .int (iI 0), .long (lI 0), .long (lI 0), .long (lI 0), .long (lI 0), .long (lI 0), .int (iI 0), .int (iI 0), .int (iI 0), .int (iI 0), .ref xa4])), (xa5, .inr (3, [.ref xa6, .ref xa7, .int (iI 0), .int (iI 0), .int (iI 0)])), (hout, .inl (k 1, 1, .inr (.inl (aL aZ))))] sz)) 0 0 (va_A [(h0, .inr (10, [.ref hn, .ref g1, .ref g2, .ref hea, .ref g3, .ref g4, .ref g5, .ref g6, .ref g7, .int (iI 0), .int (iI 0), .int (iI 0), .int (iI (-1)), .int (iI (-1)), .int (iI 0)])), (hn, .inr (2, [.ref xa1, .ref xa2, .ref xa3, .ref xa5, .ref xa8, .int (iI 0), .int (iI 0), .int (iI 0)])), (xa3, .inr (7, [.int (iI 0), .int (iI 0), .int (iI 0), .long (lI 0), .int (iI 0), .int (iI 0), .int (iI 0), .long (lI 0), .long (lI 0), .long (lI 0), .long (lI 0), .long (lI 0), .int (iI 0), .int (iI 0), .int (iI 0), .int (iI 0), .ref xa4])), (xa5, .inr (3, [.ref xa6, .ref xa7, .int (iI 0), .int (iI 0), .int (iI 0)])), (hout, .inl (k 1, 1, .inr (.inl (aL aZ))))] sz) := by
  refine Met_ofWH (cc := cL_number) (maxL := 4) (ret := (some .int)) (by decide) rfl ?_
  intro p e s mI args below meth cO s₁ B hml hv
  obtain ⟨rfl, rfl, hP, hD0, hE⟩ := hv
  have hx := B.exec
  have hb := B.bytes
  have hr := B.returns
  have hts := atoms_spec (ws := woL_number) B.pre
  have hown : s.vm.findClass RL = some mI.cls := findClass_of_methodNamed B.named
  have hlocks := B.notSynchronized
  have htab := vx_table (x := yL_number) B (hts (.codeWith yL_number cL_number 4 (some .int) [(0, 9, 12, 13)]) List.mem_cons_self)
  have hD := hD0.self (sz := s.heap.size)
  generalize hAe : va_A [(h0, .inr (10, [.ref hn, .ref g1, .ref g2, .ref hea, .ref g3, .ref g4, .ref g5, .ref g6, .ref g7, .int (iI 0), .int (iI 0), .int (iI 0), .int (iI (-1)), .int (iI (-1)), .int (iI 0)])), (hn, .inr (2, [.ref xa1, .ref xa2, .ref xa3, .ref xa5, .ref xa8, .int (iI 0), .int (iI 0), .int (iI 0)])), (xa3, .inr (7, [.int (iI 0), .int (iI 0), .int (iI 0), .long (lI 0), .int (iI 0), .int (iI 0), .int (iI 0), .long (lI 0), .long (lI 0), .long (lI 0), .long (lI 0), .long (lI 0), .int (iI 0), .int (iI 0), .int (iI 0), .int (iI 0), .ref xa4])), (xa5, .inr (3, [.ref xa6, .ref xa7, .int (iI 0), .int (iI 0), .int (iI 0)])), (hout, .inl (k 1, 1, .inr (.inl (aL aZ))))] s.heap.size = A at hD hE ⊢
  have hA : ∀ q : Nat, s.heap.size ≤ q → A q := fun q h => by rw [← hAe]; exact Or.inr h
  have hS : va_S A s.heap s.heap [] := va_S.rf
  obtain ⟨hK, hNw, hNc, hZs, hAO1, hAO2⟩ := id hE
  have hSF : CallFix p mI cO cL_number 4 s ([.ref h0, .int (iI 8), .ref hout] : List Value).toArray woL_number RL := ⟨hx, hb, hml, hown, hts⟩
  have hl := lv_entry ([.ref h0, .int (iI 8), .ref hout] : List Value) (n := 4) (Nat.le_of_ble_eq_true rfl)
  rw [lg_entry_eq]
  generalize (lg_sl ([.ref h0, .int (iI 8), .ref hout] : List Value) ++ List.replicate (4 - (lg_sl ([.ref h0, .int (iI 8), .ref hout] : List Value)).length) Slot.unset).toArray = ls at hl ⊢
  have hl : lv_has ls 4 [(0, .ref h0), (1, .int (iI 8)), (2, .ref hout)] := hl
  refine W_gen (fun Q hQ => ?_)
  change W p l e ({ frames := 2, cells := 0, slots := 0, locals := 42 } : Room) s mI _ below meth cO s.heap [] 0 0 Q _
  have hP : va_P (dC, dI) vwCl [(h0, .inr (10, [.ref hn, .ref g1, .ref g2, .ref hea, .ref g3, .ref g4, .ref g5, .ref g6, .ref g7, .int (iI 0), .int (iI 0), .int (iI 0), .int (iI (-1)), .int (iI (-1)), .int (iI 0)])), (hn, .inr (2, [.ref xa1, .ref xa2, .ref xa3, .ref xa5, .ref xa8, .int (iI 0), .int (iI 0), .int (iI 0)])), (xa3, .inr (7, [.int (iI 0), .int (iI 0), .int (iI 0), .long (lI 0), .int (iI 0), .int (iI 0), .int (iI 0), .long (lI 0), .long (lI 0), .long (lI 0), .long (lI 0), .long (lI 0), .int (iI 0), .int (iI 0), .int (iI 0), .int (iI 0), .ref xa4])), (xa5, .inr (3, [.ref xa6, .ref xa7, .int (iI 0), .int (iI 0), .int (iI 0)])), (hout, .inl (k 1, 1, .inr (.inl (aL aZ))))] s.heap := hP
  refine lv_aload_n hx hb dL_number_0 rfl (lv_at hl 2 rfl) ?_
  refine q_iconst hx hb dL_number_1 ?_
  refine lv_aload_n hx hb dL_number_2 rfl (lv_at hl 0 rfl) ?_
  refine lv_iload_n hx hb dL_number_3 rfl (lv_at hl 1 rfl) ?_
  refine ki (va_runV (As := [.int (iI 8)]) (rest := [.int (iI 0), .ref hout]) hSF ((c_X10_number_8 l dC dI k h0 hn g1 g2 hea g3 g4 g5 g6 g7 xa1 xa2 xa3 xa4 xa5 xa6 xa7 xa8 0 0 0) s.heap.size) (cwV 1 hts gL_number_X10_number rfl rfl rfl (by decide +kernel) ⟨Nat.le_of_ble_eq_true rfl, Nat.le_of_ble_eq_true rfl⟩) (preV hP hD hE hS hA [0, 1, 2, 3] rfl (by decide) (ci := 10) (q0 := 0) rfl rfl) rfl rfl hl.1 rfl (lv_room (Nat.le_of_ble_eq_true rfl)) dL_number_4 ⟨Nat.le_of_ble_eq_true rfl, Nat.le_of_ble_eq_true rfl⟩) hP hD hS hA [0, 1, 2, 3] [4] rfl (wr := [(hout, .inl (k 1, 1, .inr (.inl (aL aZ))))]) rfl (by decide) (by decide) (fun r4 _ H locs hw hP hD hS => ?_)
  obtain rfl : r4 = (iI 0) := hw
  have hP : va_P (dC, dI) vwCl [(hout, .inl (k 1, 1, .inr (.inl (aL aZ))))] H := hP
  have hD : va_D A [(hout, .inl (k 1, 1, .inr (.inl (aL aZ))))] := hD
  refine q_i2l hx hb dL_number_7 (by omega) ?_
  refine q_last (G := (upI aZ 0 0)) hx hb hK hP hD hS 0 1 rfl rfl (by omega) rfl dL_number_8 (fun H locs hP hD hS => ?_)
  have hP : va_P (dC, dI) vwCl [(hout, .inl (k 1, 1, .inr (.inl (aL (upI aZ 0 0)))))] H := hP
  have hD : va_D A [(hout, .inl (k 1, 1, .inr (.inl (aL (upI aZ 0 0)))))] := hD
  refine lv_goto (tgt := 15) hx hb dL_number_9 (by decide) ?_
  refine q_iconst hx hb dL_number_15 ?_
  rw [hQ]
  refine W.widen (k := 0) (n := 0) (Nat.le_of_ble_eq_true rfl) (Nat.le_of_ble_eq_true rfl) ?_
  exact W.iret (v := (iI 0)) hx hb hr (fun t ht hW => ⟨⟨(iI 0), (), rfl, rfl, by rw [ht]; exact hP.sub [0] rfl, by rw [hAe]; exact hD.sub [0] (by decide) rfl⟩, hS.F ht⟩) hS.2.2 dL_number_16
set_option maxHeartbeats 4000000 in
set_option maxRecDepth 100000 in
/-- the law: number, answered -/
theorem c_L_number_9 (l : Launch) (dC : Nat → ClassId) (dI : Nat → Nat → Nat) (k : Nat → ClassId) (hout : Nat) (h0 hn g1 g2 hea g3 g4 g5 g6 g7 xa1 xa2 xa3 xa4 xa5 xa6 xa7 xa8 xa9 xa10 xa11 : Nat) (sz : Nat) : Met l yL_number woL_number ({ frames := 1, cells := 0, slots := 0, locals := 22 } : Room) (PcW (dC, dI) k [.ref h0, .int (iI 9), .ref hout] [(h0, .inr (10, [.ref hn, .ref g1, .ref g2, .ref hea, .ref g3, .ref g4, .ref g5, .ref g6, .ref g7, .int (iI 0), .int (iI 0), .int (iI 0), .int (iI (-1)), .int (iI (-1)), .int (iI 0)])), (hn, .inr (2, [.ref xa1, .ref xa2, .ref xa3, .ref xa5, .ref xa8, .int (iI 0), .int (iI 0), .int (iI 0)])), (xa3, .inr (7, [.int (iI 0), .int (iI 0), .int (iI 0), .long (lI 0), .int (iI 0), .int (iI 0), .int (iI 0), .long (lI 0), .long (lI 0), .long (lI 0), .long (lI 0), .long (lI 0), .int (iI 0), .int (iI 0), .int (iI 0), .int (iI 0), .ref xa4])), (hout, .inl (k 1, 1, .inr (.inl (aL aZ))))] sz) (va_Qi (fun (r : Int32) (_ : Unit) => r = iI 0) (QB (dC, dI) [(h0, .inr (10, [.ref hn, .ref g1, .ref g2, .ref hea, .ref g3, .ref g4, .ref g5, .ref g6, .ref g7, .int (iI 0), .int (iI 0), .int (iI 0), .int (iI (-1)), .int (iI (-1)), .int (iI 0)])), (hn, .inr (2, [.ref xa1, .ref xa2, .ref xa3, .ref xa5, .ref xa8, .int (iI 0), .int (iI 0), .int (iI 0)])), (xa3, .inr (7, [.int (iI 0), .int (iI 0), .int (iI 0), .long (lI 0), .int (iI 0), .int (iI 0), .int (iI 0), .long (lI 0), .long (lI 0), .long (lI 0), .long (lI 0), .long (lI 0), .int (iI 0), .int (iI 0), .int (iI 0), .int (iI 0), .ref xa4])), (hout, .inl (k 1, 1, .inr (.inl (aL aZ))))] (fun _ => [(hout, .inl (k 1, 1, .inr (.inl (aL (upI aZ 0 0)))))]) sz) (va_A [(h0, .inr (10, [.ref hn, .ref g1, .ref g2, .ref hea, .ref g3, .ref g4, .ref g5, .ref g6, .ref g7, .int (iI 0), .int (iI 0), .int (iI 0), .int (iI (-1)), .int (iI (-1)), .int (iI 0)])), (hn, .inr (2, [.ref xa1, .ref xa2, .ref xa3, .ref xa5, .ref xa8, .int (iI 0), .int (iI 0), .int (iI 0)])), (xa3, .inr (7, [.int (iI 0), .int (iI 0), .int (iI 0), .long (lI 0), .int (iI 0), .int (iI 0), .int (iI 0), .long (lI 0), .long (lI 0), .long (lI 0), .long (lI 0), .long (lI 0), .int (iI 0), .int (iI 0), .int (iI 0), .int (iI 0), .ref xa4])), (hout, .inl (k 1, 1, .inr (.inl (aL aZ))))] sz)) 0 0 (va_A [(h0, .inr (10, [.ref hn, .ref g1, .ref g2, .ref hea, .ref g3, .ref g4, .ref g5, .ref g6, .ref g7, .int (iI 0), .int (iI 0), .int (iI 0), .int (iI (-1)), .int (iI (-1)), .int (iI 0)])), (hn, .inr (2, [.ref xa1, .ref xa2, .ref xa3, .ref xa5, .ref xa8, .int (iI 0), .int (iI 0), .int (iI 0)])), (xa3, .inr (7, [.int (iI 0), .int (iI 0), .int (iI 0), .long (lI 0), .int (iI 0), .int (iI 0), .int (iI 0), .long (lI 0), .long (lI 0), .long (lI 0), .long (lI 0), .long (lI 0), .int (iI 0), .int (iI 0), .int (iI 0), .int (iI 0), .ref xa4])), (hout, .inl (k 1, 1, .inr (.inl (aL aZ))))] sz) := by
  refine Met_ofWH (cc := cL_number) (maxL := 4) (ret := (some .int)) (by decide) rfl ?_
  intro p e s mI args below meth cO s₁ B hml hv
  obtain ⟨rfl, rfl, hP, hD0, hE⟩ := hv
  have hx := B.exec
  have hb := B.bytes
  have hr := B.returns
  have hts := atoms_spec (ws := woL_number) B.pre
  have hown : s.vm.findClass RL = some mI.cls := findClass_of_methodNamed B.named
  have hlocks := B.notSynchronized
  have htab := vx_table (x := yL_number) B (hts (.codeWith yL_number cL_number 4 (some .int) [(0, 9, 12, 13)]) List.mem_cons_self)
  have hD := hD0.self (sz := s.heap.size)
  generalize hAe : va_A [(h0, .inr (10, [.ref hn, .ref g1, .ref g2, .ref hea, .ref g3, .ref g4, .ref g5, .ref g6, .ref g7, .int (iI 0), .int (iI 0), .int (iI 0), .int (iI (-1)), .int (iI (-1)), .int (iI 0)])), (hn, .inr (2, [.ref xa1, .ref xa2, .ref xa3, .ref xa5, .ref xa8, .int (iI 0), .int (iI 0), .int (iI 0)])), (xa3, .inr (7, [.int (iI 0), .int (iI 0), .int (iI 0), .long (lI 0), .int (iI 0), .int (iI 0), .int (iI 0), .long (lI 0), .long (lI 0), .long (lI 0), .long (lI 0), .long (lI 0), .int (iI 0), .int (iI 0), .int (iI 0), .int (iI 0), .ref xa4])), (hout, .inl (k 1, 1, .inr (.inl (aL aZ))))] s.heap.size = A at hD hE ⊢
  have hA : ∀ q : Nat, s.heap.size ≤ q → A q := fun q h => by rw [← hAe]; exact Or.inr h
  have hS : va_S A s.heap s.heap [] := va_S.rf
  obtain ⟨hK, hNw, hNc, hZs, hAO1, hAO2⟩ := id hE
  have hSF : CallFix p mI cO cL_number 4 s ([.ref h0, .int (iI 9), .ref hout] : List Value).toArray woL_number RL := ⟨hx, hb, hml, hown, hts⟩
  have hl := lv_entry ([.ref h0, .int (iI 9), .ref hout] : List Value) (n := 4) (Nat.le_of_ble_eq_true rfl)
  rw [lg_entry_eq]
  generalize (lg_sl ([.ref h0, .int (iI 9), .ref hout] : List Value) ++ List.replicate (4 - (lg_sl ([.ref h0, .int (iI 9), .ref hout] : List Value)).length) Slot.unset).toArray = ls at hl ⊢
  have hl : lv_has ls 4 [(0, .ref h0), (1, .int (iI 9)), (2, .ref hout)] := hl
  refine W_gen (fun Q hQ => ?_)
  change W p l e ({ frames := 1, cells := 0, slots := 0, locals := 22 } : Room) s mI _ below meth cO s.heap [] 0 0 Q _
  have hP : va_P (dC, dI) vwCl [(h0, .inr (10, [.ref hn, .ref g1, .ref g2, .ref hea, .ref g3, .ref g4, .ref g5, .ref g6, .ref g7, .int (iI 0), .int (iI 0), .int (iI 0), .int (iI (-1)), .int (iI (-1)), .int (iI 0)])), (hn, .inr (2, [.ref xa1, .ref xa2, .ref xa3, .ref xa5, .ref xa8, .int (iI 0), .int (iI 0), .int (iI 0)])), (xa3, .inr (7, [.int (iI 0), .int (iI 0), .int (iI 0), .long (lI 0), .int (iI 0), .int (iI 0), .int (iI 0), .long (lI 0), .long (lI 0), .long (lI 0), .long (lI 0), .long (lI 0), .int (iI 0), .int (iI 0), .int (iI 0), .int (iI 0), .ref xa4])), (hout, .inl (k 1, 1, .inr (.inl (aL aZ))))] s.heap := hP
  refine lv_aload_n hx hb dL_number_0 rfl (lv_at hl 2 rfl) ?_
  refine q_iconst hx hb dL_number_1 ?_
  refine lv_aload_n hx hb dL_number_2 rfl (lv_at hl 0 rfl) ?_
  refine lv_iload_n hx hb dL_number_3 rfl (lv_at hl 1 rfl) ?_
  refine ki (va_runV (As := [.int (iI 9)]) (rest := [.int (iI 0), .ref hout]) hSF ((c_X10_number_9 l dC dI k h0 hn g1 g2 hea g3 g4 g5 g6 g7 xa1 xa2 xa3 xa4 xa5 0 0 xa8 0 0 0) s.heap.size) (cwV 1 hts gL_number_X10_number rfl rfl rfl (by decide +kernel) ⟨Nat.le_of_ble_eq_true rfl, Nat.le_of_ble_eq_true rfl⟩) (preV hP hD hE hS hA [0, 1, 2] rfl (by decide) (ci := 10) (q0 := 0) rfl rfl) rfl rfl hl.1 rfl (lv_room (Nat.le_of_ble_eq_true rfl)) dL_number_4 ⟨Nat.le_of_ble_eq_true rfl, Nat.le_of_ble_eq_true rfl⟩) hP hD hS hA [0, 1, 2] [3] rfl (wr := [(hout, .inl (k 1, 1, .inr (.inl (aL aZ))))]) rfl (by decide) (by decide) (fun r4 _ H locs hw hP hD hS => ?_)
  obtain rfl : r4 = (iI 0) := hw
  have hP : va_P (dC, dI) vwCl [(hout, .inl (k 1, 1, .inr (.inl (aL aZ))))] H := hP
  have hD : va_D A [(hout, .inl (k 1, 1, .inr (.inl (aL aZ))))] := hD
  refine q_i2l hx hb dL_number_7 (by omega) ?_
  refine q_last (G := (upI aZ 0 0)) hx hb hK hP hD hS 0 1 rfl rfl (by omega) rfl dL_number_8 (fun H locs hP hD hS => ?_)
  have hP : va_P (dC, dI) vwCl [(hout, .inl (k 1, 1, .inr (.inl (aL (upI aZ 0 0)))))] H := hP
  have hD : va_D A [(hout, .inl (k 1, 1, .inr (.inl (aL (upI aZ 0 0)))))] := hD
  refine lv_goto (tgt := 15) hx hb dL_number_9 (by decide) ?_
  refine q_iconst hx hb dL_number_15 ?_
  rw [hQ]
  refine W.widen (k := 0) (n := 0) (Nat.le_of_ble_eq_true rfl) (Nat.le_of_ble_eq_true rfl) ?_
  exact W.iret (v := (iI 0)) hx hb hr (fun t ht hW => ⟨⟨(iI 0), (), rfl, rfl, by rw [ht]; exact hP.sub [0] rfl, by rw [hAe]; exact hD.sub [0] (by decide) rfl⟩, hS.F ht⟩) hS.2.2 dL_number_16
set_option maxHeartbeats 4000000 in
set_option maxRecDepth 100000 in
/-- the law: number, refused -/
theorem c_L_number_x (l : Launch) (hl0 : l.stackTraces = false) (dC : Nat → ClassId) (dI : Nat → Nat → Nat) (k : Nat → ClassId) (hout : Nat) (h0 hn g1 g2 hea g3 g4 g5 g6 g7 xa1 xa2 xa3 xa4 xa5 xa6 xa7 xa8 xa9 xa10 xa11 : Nat) (xv : Int) (hv9 : -2147483648 ≤ xv ∧ xv ≤ 2147483647) (hv : ¬ (0 ≤ xv ∧ xv ≤ 9)) (sz : Nat) : Met l yL_number woL_number ({ frames := 7, cells := 1, slots := 6, locals := 103 } : Room) (PcW (dC, dI) k [.ref h0, .int (iI xv), .ref hout] [(h0, .inr (10, [.ref hn, .ref g1, .ref g2, .ref hea, .ref g3, .ref g4, .ref g5, .ref g6, .ref g7, .int (iI 0), .int (iI 0), .int (iI 0), .int (iI (-1)), .int (iI (-1)), .int (iI 0)])), (hn, .inr (2, [.ref xa1, .ref xa2, .ref xa3, .ref xa5, .ref xa8, .int (iI 0), .int (iI 0), .int (iI 0)])), (hout, .inl (k 1, 1, .inr (.inl (aL aZ))))] sz) (va_Qi (fun (r : Int32) (_ : Unit) => r = iI 1) (QB (dC, dI) [(h0, .inr (10, [.ref hn, .ref g1, .ref g2, .ref hea, .ref g3, .ref g4, .ref g5, .ref g6, .ref g7, .int (iI 0), .int (iI 0), .int (iI 0), .int (iI (-1)), .int (iI (-1)), .int (iI 0)])), (hn, .inr (2, [.ref xa1, .ref xa2, .ref xa3, .ref xa5, .ref xa8, .int (iI 0), .int (iI 0), .int (iI 0)])), (hout, .inl (k 1, 1, .inr (.inl (aL aZ))))] (fun _ => []) sz) (va_A [(h0, .inr (10, [.ref hn, .ref g1, .ref g2, .ref hea, .ref g3, .ref g4, .ref g5, .ref g6, .ref g7, .int (iI 0), .int (iI 0), .int (iI 0), .int (iI (-1)), .int (iI (-1)), .int (iI 0)])), (hn, .inr (2, [.ref xa1, .ref xa2, .ref xa3, .ref xa5, .ref xa8, .int (iI 0), .int (iI 0), .int (iI 0)])), (hout, .inl (k 1, 1, .inr (.inl (aL aZ))))] sz)) 1 6 (va_A [(h0, .inr (10, [.ref hn, .ref g1, .ref g2, .ref hea, .ref g3, .ref g4, .ref g5, .ref g6, .ref g7, .int (iI 0), .int (iI 0), .int (iI 0), .int (iI (-1)), .int (iI (-1)), .int (iI 0)])), (hn, .inr (2, [.ref xa1, .ref xa2, .ref xa3, .ref xa5, .ref xa8, .int (iI 0), .int (iI 0), .int (iI 0)])), (hout, .inl (k 1, 1, .inr (.inl (aL aZ))))] sz) := by
  refine Met_ofWH (cc := cL_number) (maxL := 4) (ret := (some .int)) (by decide) rfl ?_
  intro p e s mI args below meth cO s₁ B hml hv
  obtain ⟨rfl, rfl, hP, hD0, hE⟩ := hv
  have hx := B.exec
  have hb := B.bytes
  have hr := B.returns
  have hts := atoms_spec (ws := woL_number) B.pre
  have hown : s.vm.findClass RL = some mI.cls := findClass_of_methodNamed B.named
  have hlocks := B.notSynchronized
  have htab := vx_table (x := yL_number) B (hts (.codeWith yL_number cL_number 4 (some .int) [(0, 9, 12, 13)]) List.mem_cons_self)
  have hD := hD0.self (sz := s.heap.size)
  generalize hAe : va_A [(h0, .inr (10, [.ref hn, .ref g1, .ref g2, .ref hea, .ref g3, .ref g4, .ref g5, .ref g6, .ref g7, .int (iI 0), .int (iI 0), .int (iI 0), .int (iI (-1)), .int (iI (-1)), .int (iI 0)])), (hn, .inr (2, [.ref xa1, .ref xa2, .ref xa3, .ref xa5, .ref xa8, .int (iI 0), .int (iI 0), .int (iI 0)])), (hout, .inl (k 1, 1, .inr (.inl (aL aZ))))] s.heap.size = A at hD hE ⊢
  have hA : ∀ q : Nat, s.heap.size ≤ q → A q := fun q h => by rw [← hAe]; exact Or.inr h
  have hS : va_S A s.heap s.heap [] := va_S.rf
  obtain ⟨hK, hNw, hNc, hZs, hAO1, hAO2⟩ := id hE
  have hSF : CallFix p mI cO cL_number 4 s ([.ref h0, .int (iI xv), .ref hout] : List Value).toArray woL_number RL := ⟨hx, hb, hml, hown, hts⟩
  have hl := lv_entry ([.ref h0, .int (iI xv), .ref hout] : List Value) (n := 4) (Nat.le_of_ble_eq_true rfl)
  rw [lg_entry_eq]
  generalize (lg_sl ([.ref h0, .int (iI xv), .ref hout] : List Value) ++ List.replicate (4 - (lg_sl ([.ref h0, .int (iI xv), .ref hout] : List Value)).length) Slot.unset).toArray = ls at hl ⊢
  have hl : lv_has ls 4 [(0, .ref h0), (1, .int (iI xv)), (2, .ref hout)] := hl
  refine W_gen (fun Q hQ => ?_)
  change W p l e ({ frames := 7, cells := 1, slots := 6, locals := 103 } : Room) s mI _ below meth cO s.heap [] 0 0 Q _
  have hP : va_P (dC, dI) vwCl [(h0, .inr (10, [.ref hn, .ref g1, .ref g2, .ref hea, .ref g3, .ref g4, .ref g5, .ref g6, .ref g7, .int (iI 0), .int (iI 0), .int (iI 0), .int (iI (-1)), .int (iI (-1)), .int (iI 0)])), (hn, .inr (2, [.ref xa1, .ref xa2, .ref xa3, .ref xa5, .ref xa8, .int (iI 0), .int (iI 0), .int (iI 0)])), (hout, .inl (k 1, 1, .inr (.inl (aL aZ))))] s.heap := hP
  refine lv_aload_n hx hb dL_number_0 rfl (lv_at hl 2 rfl) ?_
  refine q_iconst hx hb dL_number_1 ?_
  refine lv_aload_n hx hb dL_number_2 rfl (lv_at hl 0 rfl) ?_
  refine lv_iload_n hx hb dL_number_3 rfl (lv_at hl 1 rfl) ?_
  refine kxi (vx_runV (As := [.int (iI xv)]) (rest := [.int (iI 0), .ref hout]) hSF ((c_X10_number_x l hl0 dC dI k h0 hn g1 g2 hea g3 g4 g5 g6 g7 xa1 xa2 xa3 0 xa5 0 0 xa8 0 0 0 xv (by omega) (by omega)) s.heap.size) (cwV 1 hts gL_number_X10_number rfl rfl rfl (by decide +kernel) ⟨Nat.le_of_ble_eq_true rfl, Nat.le_of_ble_eq_true rfl⟩) (preV hP hD hE hS hA [0, 1] rfl (by decide) (ci := 10) (q0 := 0) rfl rfl) rfl rfl hl.1 rfl (lv_room (Nat.le_of_ble_eq_true rfl)) dL_number_4 ⟨Nat.le_of_ble_eq_true rfl, Nat.le_of_ble_eq_true rfl⟩) hP hD hS hA [0, 1] [2] rfl (wr := [(hout, .inl (k 1, 1, .inr (.inl (aL aZ))))]) rfl (by decide) (by decide) (fun ce q9 H locs hP hD hS hc9 hv9 hcl => ?_)
  refine vx_catch (own := RL) (name := "java/lang/IllegalArgumentException") (E := "java/lang/IllegalArgumentException") hown [] ⟨0, 9, 12, 13⟩ [] (by rw [htab]; rfl) (fun z hz => by cases hz) (by decide) (by decide) (hts (.classLink RL 13 "java/lang/IllegalArgumentException") (List.mem_cons_of_mem _ (wl_6 (List.mem_of_getElem? (i := 3) rfl)))) (va_Nw.use rfl (hNw _ (List.mem_of_getElem? (i := 66) rfl))) hc9 hv9 hcl ?_
  change W p l e _ s mI _ below meth cO H locs _ _ Q (F0 mI 12 ls [.ref q9])
  refine lv_astore_n (lv' := [(3, .ref q9), (0, .ref h0), (1, .int (iI xv)), (2, .ref hout)]) hx hb dL_number_12 rfl hl (by decide) rfl (fun ls hl => ?_)
  refine q_iconst hx hb dL_number_13 ?_
  rw [hQ]
  refine W.widen (k := 1) (n := 6) (Nat.le_of_ble_eq_true rfl) (Nat.le_of_ble_eq_true rfl) ?_
  exact W.iret (v := (iI 1)) hx hb hr (fun t ht hW => ⟨⟨(iI 1), (), rfl, rfl, by rw [ht]; exact hP.sub [] rfl, by rw [hAe]; exact hD.sub [] (by decide) rfl⟩, hS.F ht⟩) hS.2.2 dL_number_14
set_option maxHeartbeats 4000000 in
set_option maxRecDepth 100000 in
/-- the law: total, answered -/
theorem c_L_total_ok (l : Launch) (dC : Nat → ClassId) (dI : Nat → Nat → Nat) (k : Nat → ClassId) (hout : Nat) (h0 hn g1 g2 hea g3 g4 g5 g6 g7 xa1 xa2 xa3 xa4 xa5 xa6 xa7 xa8 xa9 xa10 xa11 : Nat) (xv : Int) (hv9 : -2147483648 ≤ xv ∧ xv ≤ 2147483647) (hv : 0 ≤ xv ∧ xv ≤ 7) (sz : Nat) : Met l yL_total woL_total ({ frames := 1, cells := 0, slots := 0, locals := 22 } : Room) (PcW (dC, dI) k [.ref h0, .int (iI xv), .ref hout] [(h0, .inr (10, [.ref hn, .ref g1, .ref g2, .ref hea, .ref g3, .ref g4, .ref g5, .ref g6, .ref g7, .int (iI 0), .int (iI 0), .int (iI 0), .int (iI (-1)), .int (iI (-1)), .int (iI 0)])), (hn, .inr (2, [.ref xa1, .ref xa2, .ref xa3, .ref xa5, .ref xa8, .int (iI 0), .int (iI 0), .int (iI 0)])), (xa3, .inr (7, [.int (iI 0), .int (iI 0), .int (iI 0), .long (lI 0), .int (iI 0), .int (iI 0), .int (iI 0), .long (lI 0), .long (lI 0), .long (lI 0), .long (lI 0), .long (lI 0), .int (iI 0), .int (iI 0), .int (iI 0), .int (iI 0), .ref xa4])), (xa4, .inl (k 1, 8, .inr (.inl (aL aZ)))), (hout, .inl (k 1, 1, .inr (.inl (aL aZ))))] sz) (va_Qi (fun (r : Int32) (_ : Unit) => r = iI 0) (QB (dC, dI) [(h0, .inr (10, [.ref hn, .ref g1, .ref g2, .ref hea, .ref g3, .ref g4, .ref g5, .ref g6, .ref g7, .int (iI 0), .int (iI 0), .int (iI 0), .int (iI (-1)), .int (iI (-1)), .int (iI 0)])), (hn, .inr (2, [.ref xa1, .ref xa2, .ref xa3, .ref xa5, .ref xa8, .int (iI 0), .int (iI 0), .int (iI 0)])), (xa3, .inr (7, [.int (iI 0), .int (iI 0), .int (iI 0), .long (lI 0), .int (iI 0), .int (iI 0), .int (iI 0), .long (lI 0), .long (lI 0), .long (lI 0), .long (lI 0), .long (lI 0), .int (iI 0), .int (iI 0), .int (iI 0), .int (iI 0), .ref xa4])), (xa4, .inl (k 1, 8, .inr (.inl (aL aZ)))), (hout, .inl (k 1, 1, .inr (.inl (aL aZ))))] (fun _ => [(hout, .inl (k 1, 1, .inr (.inl (aL (upI aZ 0 0)))))]) sz) (va_A [(h0, .inr (10, [.ref hn, .ref g1, .ref g2, .ref hea, .ref g3, .ref g4, .ref g5, .ref g6, .ref g7, .int (iI 0), .int (iI 0), .int (iI 0), .int (iI (-1)), .int (iI (-1)), .int (iI 0)])), (hn, .inr (2, [.ref xa1, .ref xa2, .ref xa3, .ref xa5, .ref xa8, .int (iI 0), .int (iI 0), .int (iI 0)])), (xa3, .inr (7, [.int (iI 0), .int (iI 0), .int (iI 0), .long (lI 0), .int (iI 0), .int (iI 0), .int (iI 0), .long (lI 0), .long (lI 0), .long (lI 0), .long (lI 0), .long (lI 0), .int (iI 0), .int (iI 0), .int (iI 0), .int (iI 0), .ref xa4])), (xa4, .inl (k 1, 8, .inr (.inl (aL aZ)))), (hout, .inl (k 1, 1, .inr (.inl (aL aZ))))] sz)) 0 0 (va_A [(h0, .inr (10, [.ref hn, .ref g1, .ref g2, .ref hea, .ref g3, .ref g4, .ref g5, .ref g6, .ref g7, .int (iI 0), .int (iI 0), .int (iI 0), .int (iI (-1)), .int (iI (-1)), .int (iI 0)])), (hn, .inr (2, [.ref xa1, .ref xa2, .ref xa3, .ref xa5, .ref xa8, .int (iI 0), .int (iI 0), .int (iI 0)])), (xa3, .inr (7, [.int (iI 0), .int (iI 0), .int (iI 0), .long (lI 0), .int (iI 0), .int (iI 0), .int (iI 0), .long (lI 0), .long (lI 0), .long (lI 0), .long (lI 0), .long (lI 0), .int (iI 0), .int (iI 0), .int (iI 0), .int (iI 0), .ref xa4])), (xa4, .inl (k 1, 8, .inr (.inl (aL aZ)))), (hout, .inl (k 1, 1, .inr (.inl (aL aZ))))] sz) := by
  refine Met_ofWH (cc := cL_total) (maxL := 4) (ret := (some .int)) (by decide) rfl ?_
  intro p e s mI args below meth cO s₁ B hml hv
  obtain ⟨rfl, rfl, hP, hD0, hE⟩ := hv
  have hx := B.exec
  have hb := B.bytes
  have hr := B.returns
  have hts := atoms_spec (ws := woL_total) B.pre
  have hown : s.vm.findClass RL = some mI.cls := findClass_of_methodNamed B.named
  have hlocks := B.notSynchronized
  have htab := vx_table (x := yL_total) B (hts (.codeWith yL_total cL_total 4 (some .int) [(0, 9, 12, 13)]) List.mem_cons_self)
  have hD := hD0.self (sz := s.heap.size)
  generalize hAe : va_A [(h0, .inr (10, [.ref hn, .ref g1, .ref g2, .ref hea, .ref g3, .ref g4, .ref g5, .ref g6, .ref g7, .int (iI 0), .int (iI 0), .int (iI 0), .int (iI (-1)), .int (iI (-1)), .int (iI 0)])), (hn, .inr (2, [.ref xa1, .ref xa2, .ref xa3, .ref xa5, .ref xa8, .int (iI 0), .int (iI 0), .int (iI 0)])), (xa3, .inr (7, [.int (iI 0), .int (iI 0), .int (iI 0), .long (lI 0), .int (iI 0), .int (iI 0), .int (iI 0), .long (lI 0), .long (lI 0), .long (lI 0), .long (lI 0), .long (lI 0), .int (iI 0), .int (iI 0), .int (iI 0), .int (iI 0), .ref xa4])), (xa4, .inl (k 1, 8, .inr (.inl (aL aZ)))), (hout, .inl (k 1, 1, .inr (.inl (aL aZ))))] s.heap.size = A at hD hE ⊢
  have hA : ∀ q : Nat, s.heap.size ≤ q → A q := fun q h => by rw [← hAe]; exact Or.inr h
  have hS : va_S A s.heap s.heap [] := va_S.rf
  obtain ⟨hK, hNw, hNc, hZs, hAO1, hAO2⟩ := id hE
  have hSF : CallFix p mI cO cL_total 4 s ([.ref h0, .int (iI xv), .ref hout] : List Value).toArray woL_total RL := ⟨hx, hb, hml, hown, hts⟩
  have hl := lv_entry ([.ref h0, .int (iI xv), .ref hout] : List Value) (n := 4) (Nat.le_of_ble_eq_true rfl)
  rw [lg_entry_eq]
  generalize (lg_sl ([.ref h0, .int (iI xv), .ref hout] : List Value) ++ List.replicate (4 - (lg_sl ([.ref h0, .int (iI xv), .ref hout] : List Value)).length) Slot.unset).toArray = ls at hl ⊢
  have hl : lv_has ls 4 [(0, .ref h0), (1, .int (iI xv)), (2, .ref hout)] := hl
  refine W_gen (fun Q hQ => ?_)
  change W p l e ({ frames := 1, cells := 0, slots := 0, locals := 22 } : Room) s mI _ below meth cO s.heap [] 0 0 Q _
  have hP : va_P (dC, dI) vwCl [(h0, .inr (10, [.ref hn, .ref g1, .ref g2, .ref hea, .ref g3, .ref g4, .ref g5, .ref g6, .ref g7, .int (iI 0), .int (iI 0), .int (iI 0), .int (iI (-1)), .int (iI (-1)), .int (iI 0)])), (hn, .inr (2, [.ref xa1, .ref xa2, .ref xa3, .ref xa5, .ref xa8, .int (iI 0), .int (iI 0), .int (iI 0)])), (xa3, .inr (7, [.int (iI 0), .int (iI 0), .int (iI 0), .long (lI 0), .int (iI 0), .int (iI 0), .int (iI 0), .long (lI 0), .long (lI 0), .long (lI 0), .long (lI 0), .long (lI 0), .int (iI 0), .int (iI 0), .int (iI 0), .int (iI 0), .ref xa4])), (xa4, .inl (k 1, 8, .inr (.inl (aL aZ)))), (hout, .inl (k 1, 1, .inr (.inl (aL aZ))))] s.heap := hP
  refine lv_aload_n hx hb dL_total_0 rfl (lv_at hl 2 rfl) ?_
  refine q_iconst hx hb dL_total_1 ?_
  refine lv_aload_n hx hb dL_total_2 rfl (lv_at hl 0 rfl) ?_
  refine lv_iload_n hx hb dL_total_3 rfl (lv_at hl 1 rfl) ?_
  refine ki (va_runV (As := [.int (iI xv)]) (rest := [.int (iI 0), .ref hout]) hSF ((c_X10_total_ok l dC dI k h0 hn g1 g2 hea g3 g4 g5 g6 g7 xa1 xa2 xa3 xa4 xa5 0 0 xa8 0 0 0 xv (by omega) (by omega)) s.heap.size) (cwV 1 hts gL_total_X10_total rfl rfl rfl (by decide +kernel) ⟨Nat.le_of_ble_eq_true rfl, Nat.le_of_ble_eq_true rfl⟩) (preV hP hD hE hS hA [0, 1, 2, 3] rfl (by decide) (ci := 10) (q0 := 0) rfl rfl) rfl rfl hl.1 rfl (lv_room (Nat.le_of_ble_eq_true rfl)) dL_total_4 ⟨Nat.le_of_ble_eq_true rfl, Nat.le_of_ble_eq_true rfl⟩) hP hD hS hA [0, 1, 2, 3] [4] rfl (wr := [(hout, .inl (k 1, 1, .inr (.inl (aL aZ))))]) rfl (by decide) (by decide) (fun r4 _ H locs hw hP hD hS => ?_)
  obtain rfl : r4 = (iI 0) := hw
  have hP : va_P (dC, dI) vwCl [(hout, .inl (k 1, 1, .inr (.inl (aL aZ))))] H := hP
  have hD : va_D A [(hout, .inl (k 1, 1, .inr (.inl (aL aZ))))] := hD
  refine q_i2l hx hb dL_total_7 (by omega) ?_
  refine q_last (G := (upI aZ 0 0)) hx hb hK hP hD hS 0 1 rfl rfl (by omega) rfl dL_total_8 (fun H locs hP hD hS => ?_)
  have hP : va_P (dC, dI) vwCl [(hout, .inl (k 1, 1, .inr (.inl (aL (upI aZ 0 0)))))] H := hP
  have hD : va_D A [(hout, .inl (k 1, 1, .inr (.inl (aL (upI aZ 0 0)))))] := hD
  refine lv_goto (tgt := 15) hx hb dL_total_9 (by decide) ?_
  refine q_iconst hx hb dL_total_15 ?_
  rw [hQ]
  refine W.widen (k := 0) (n := 0) (Nat.le_of_ble_eq_true rfl) (Nat.le_of_ble_eq_true rfl) ?_
  exact W.iret (v := (iI 0)) hx hb hr (fun t ht hW => ⟨⟨(iI 0), (), rfl, rfl, by rw [ht]; exact hP.sub [0] rfl, by rw [hAe]; exact hD.sub [0] (by decide) rfl⟩, hS.F ht⟩) hS.2.2 dL_total_16
set_option maxHeartbeats 4000000 in
set_option maxRecDepth 100000 in
/-- the law: total, refused -/
theorem c_L_total_x (l : Launch) (hl0 : l.stackTraces = false) (dC : Nat → ClassId) (dI : Nat → Nat → Nat) (k : Nat → ClassId) (hout : Nat) (h0 hn g1 g2 hea g3 g4 g5 g6 g7 xa1 xa2 xa3 xa4 xa5 xa6 xa7 xa8 xa9 xa10 xa11 : Nat) (xv : Int) (hv9 : -2147483648 ≤ xv ∧ xv ≤ 2147483647) (hv : ¬ (0 ≤ xv ∧ xv ≤ 7)) (sz : Nat) : Met l yL_total woL_total ({ frames := 7, cells := 1, slots := 6, locals := 103 } : Room) (PcW (dC, dI) k [.ref h0, .int (iI xv), .ref hout] [(h0, .inr (10, [.ref hn, .ref g1, .ref g2, .ref hea, .ref g3, .ref g4, .ref g5, .ref g6, .ref g7, .int (iI 0), .int (iI 0), .int (iI 0), .int (iI (-1)), .int (iI (-1)), .int (iI 0)])), (hn, .inr (2, [.ref xa1, .ref xa2, .ref xa3, .ref xa5, .ref xa8, .int (iI 0), .int (iI 0), .int (iI 0)])), (xa3, .inr (7, [.int (iI 0), .int (iI 0), .int (iI 0), .long (lI 0), .int (iI 0), .int (iI 0), .int (iI 0), .long (lI 0), .long (lI 0), .long (lI 0), .long (lI 0), .long (lI 0), .int (iI 0), .int (iI 0), .int (iI 0), .int (iI 0), .ref xa4])), (xa4, .inl (k 1, 8, .inr (.inl (aL aZ)))), (hout, .inl (k 1, 1, .inr (.inl (aL aZ))))] sz) (va_Qi (fun (r : Int32) (_ : Unit) => r = iI 1) (QB (dC, dI) [(h0, .inr (10, [.ref hn, .ref g1, .ref g2, .ref hea, .ref g3, .ref g4, .ref g5, .ref g6, .ref g7, .int (iI 0), .int (iI 0), .int (iI 0), .int (iI (-1)), .int (iI (-1)), .int (iI 0)])), (hn, .inr (2, [.ref xa1, .ref xa2, .ref xa3, .ref xa5, .ref xa8, .int (iI 0), .int (iI 0), .int (iI 0)])), (xa3, .inr (7, [.int (iI 0), .int (iI 0), .int (iI 0), .long (lI 0), .int (iI 0), .int (iI 0), .int (iI 0), .long (lI 0), .long (lI 0), .long (lI 0), .long (lI 0), .long (lI 0), .int (iI 0), .int (iI 0), .int (iI 0), .int (iI 0), .ref xa4])), (xa4, .inl (k 1, 8, .inr (.inl (aL aZ)))), (hout, .inl (k 1, 1, .inr (.inl (aL aZ))))] (fun _ => []) sz) (va_A [(h0, .inr (10, [.ref hn, .ref g1, .ref g2, .ref hea, .ref g3, .ref g4, .ref g5, .ref g6, .ref g7, .int (iI 0), .int (iI 0), .int (iI 0), .int (iI (-1)), .int (iI (-1)), .int (iI 0)])), (hn, .inr (2, [.ref xa1, .ref xa2, .ref xa3, .ref xa5, .ref xa8, .int (iI 0), .int (iI 0), .int (iI 0)])), (xa3, .inr (7, [.int (iI 0), .int (iI 0), .int (iI 0), .long (lI 0), .int (iI 0), .int (iI 0), .int (iI 0), .long (lI 0), .long (lI 0), .long (lI 0), .long (lI 0), .long (lI 0), .int (iI 0), .int (iI 0), .int (iI 0), .int (iI 0), .ref xa4])), (xa4, .inl (k 1, 8, .inr (.inl (aL aZ)))), (hout, .inl (k 1, 1, .inr (.inl (aL aZ))))] sz)) 1 6 (va_A [(h0, .inr (10, [.ref hn, .ref g1, .ref g2, .ref hea, .ref g3, .ref g4, .ref g5, .ref g6, .ref g7, .int (iI 0), .int (iI 0), .int (iI 0), .int (iI (-1)), .int (iI (-1)), .int (iI 0)])), (hn, .inr (2, [.ref xa1, .ref xa2, .ref xa3, .ref xa5, .ref xa8, .int (iI 0), .int (iI 0), .int (iI 0)])), (xa3, .inr (7, [.int (iI 0), .int (iI 0), .int (iI 0), .long (lI 0), .int (iI 0), .int (iI 0), .int (iI 0), .long (lI 0), .long (lI 0), .long (lI 0), .long (lI 0), .long (lI 0), .int (iI 0), .int (iI 0), .int (iI 0), .int (iI 0), .ref xa4])), (xa4, .inl (k 1, 8, .inr (.inl (aL aZ)))), (hout, .inl (k 1, 1, .inr (.inl (aL aZ))))] sz) := by
  refine Met_ofWH (cc := cL_total) (maxL := 4) (ret := (some .int)) (by decide) rfl ?_
  intro p e s mI args below meth cO s₁ B hml hv
  obtain ⟨rfl, rfl, hP, hD0, hE⟩ := hv
  have hx := B.exec
  have hb := B.bytes
  have hr := B.returns
  have hts := atoms_spec (ws := woL_total) B.pre
  have hown : s.vm.findClass RL = some mI.cls := findClass_of_methodNamed B.named
  have hlocks := B.notSynchronized
  have htab := vx_table (x := yL_total) B (hts (.codeWith yL_total cL_total 4 (some .int) [(0, 9, 12, 13)]) List.mem_cons_self)
  have hD := hD0.self (sz := s.heap.size)
  generalize hAe : va_A [(h0, .inr (10, [.ref hn, .ref g1, .ref g2, .ref hea, .ref g3, .ref g4, .ref g5, .ref g6, .ref g7, .int (iI 0), .int (iI 0), .int (iI 0), .int (iI (-1)), .int (iI (-1)), .int (iI 0)])), (hn, .inr (2, [.ref xa1, .ref xa2, .ref xa3, .ref xa5, .ref xa8, .int (iI 0), .int (iI 0), .int (iI 0)])), (xa3, .inr (7, [.int (iI 0), .int (iI 0), .int (iI 0), .long (lI 0), .int (iI 0), .int (iI 0), .int (iI 0), .long (lI 0), .long (lI 0), .long (lI 0), .long (lI 0), .long (lI 0), .int (iI 0), .int (iI 0), .int (iI 0), .int (iI 0), .ref xa4])), (xa4, .inl (k 1, 8, .inr (.inl (aL aZ)))), (hout, .inl (k 1, 1, .inr (.inl (aL aZ))))] s.heap.size = A at hD hE ⊢
  have hA : ∀ q : Nat, s.heap.size ≤ q → A q := fun q h => by rw [← hAe]; exact Or.inr h
  have hS : va_S A s.heap s.heap [] := va_S.rf
  obtain ⟨hK, hNw, hNc, hZs, hAO1, hAO2⟩ := id hE
  have hSF : CallFix p mI cO cL_total 4 s ([.ref h0, .int (iI xv), .ref hout] : List Value).toArray woL_total RL := ⟨hx, hb, hml, hown, hts⟩
  have hl := lv_entry ([.ref h0, .int (iI xv), .ref hout] : List Value) (n := 4) (Nat.le_of_ble_eq_true rfl)
  rw [lg_entry_eq]
  generalize (lg_sl ([.ref h0, .int (iI xv), .ref hout] : List Value) ++ List.replicate (4 - (lg_sl ([.ref h0, .int (iI xv), .ref hout] : List Value)).length) Slot.unset).toArray = ls at hl ⊢
  have hl : lv_has ls 4 [(0, .ref h0), (1, .int (iI xv)), (2, .ref hout)] := hl
  refine W_gen (fun Q hQ => ?_)
  change W p l e ({ frames := 7, cells := 1, slots := 6, locals := 103 } : Room) s mI _ below meth cO s.heap [] 0 0 Q _
  have hP : va_P (dC, dI) vwCl [(h0, .inr (10, [.ref hn, .ref g1, .ref g2, .ref hea, .ref g3, .ref g4, .ref g5, .ref g6, .ref g7, .int (iI 0), .int (iI 0), .int (iI 0), .int (iI (-1)), .int (iI (-1)), .int (iI 0)])), (hn, .inr (2, [.ref xa1, .ref xa2, .ref xa3, .ref xa5, .ref xa8, .int (iI 0), .int (iI 0), .int (iI 0)])), (xa3, .inr (7, [.int (iI 0), .int (iI 0), .int (iI 0), .long (lI 0), .int (iI 0), .int (iI 0), .int (iI 0), .long (lI 0), .long (lI 0), .long (lI 0), .long (lI 0), .long (lI 0), .int (iI 0), .int (iI 0), .int (iI 0), .int (iI 0), .ref xa4])), (xa4, .inl (k 1, 8, .inr (.inl (aL aZ)))), (hout, .inl (k 1, 1, .inr (.inl (aL aZ))))] s.heap := hP
  refine lv_aload_n hx hb dL_total_0 rfl (lv_at hl 2 rfl) ?_
  refine q_iconst hx hb dL_total_1 ?_
  refine lv_aload_n hx hb dL_total_2 rfl (lv_at hl 0 rfl) ?_
  refine lv_iload_n hx hb dL_total_3 rfl (lv_at hl 1 rfl) ?_
  refine kxi (vx_runV (As := [.int (iI xv)]) (rest := [.int (iI 0), .ref hout]) hSF ((c_X10_total_x l hl0 dC dI k h0 hn g1 g2 hea g3 g4 g5 g6 g7 xa1 xa2 xa3 xa4 xa5 0 0 xa8 0 0 0 xv (by omega) (by omega)) s.heap.size) (cwV 1 hts gL_total_X10_total rfl rfl rfl (by decide +kernel) ⟨Nat.le_of_ble_eq_true rfl, Nat.le_of_ble_eq_true rfl⟩) (preV hP hD hE hS hA [0, 1, 2, 3] rfl (by decide) (ci := 10) (q0 := 0) rfl rfl) rfl rfl hl.1 rfl (lv_room (Nat.le_of_ble_eq_true rfl)) dL_total_4 ⟨Nat.le_of_ble_eq_true rfl, Nat.le_of_ble_eq_true rfl⟩) hP hD hS hA [0, 1, 2, 3] [4] rfl (wr := [(hout, .inl (k 1, 1, .inr (.inl (aL aZ))))]) rfl (by decide) (by decide) (fun ce q9 H locs hP hD hS hc9 hv9 hcl => ?_)
  refine vx_catch (own := RL) (name := "java/lang/IllegalArgumentException") (E := "java/lang/IllegalArgumentException") hown [] ⟨0, 9, 12, 13⟩ [] (by rw [htab]; rfl) (fun z hz => by cases hz) (by decide) (by decide) (hts (.classLink RL 13 "java/lang/IllegalArgumentException") (List.mem_cons_of_mem _ (wl_6 (List.mem_of_getElem? (i := 3) rfl)))) (va_Nw.use rfl (hNw _ (List.mem_of_getElem? (i := 66) rfl))) hc9 hv9 hcl ?_
  change W p l e _ s mI _ below meth cO H locs _ _ Q (F0 mI 12 ls [.ref q9])
  refine lv_astore_n (lv' := [(3, .ref q9), (0, .ref h0), (1, .int (iI xv)), (2, .ref hout)]) hx hb dL_total_12 rfl hl (by decide) rfl (fun ls hl => ?_)
  refine q_iconst hx hb dL_total_13 ?_
  rw [hQ]
  refine W.widen (k := 1) (n := 6) (Nat.le_of_ble_eq_true rfl) (Nat.le_of_ble_eq_true rfl) ?_
  exact W.iret (v := (iI 1)) hx hb hr (fun t ht hW => ⟨⟨(iI 1), (), rfl, rfl, by rw [ht]; exact hP.sub [] rfl, by rw [hAe]; exact hD.sub [] (by decide) rfl⟩, hS.F ht⟩) hS.2.2 dL_total_14
set_option maxHeartbeats 4000000 in
set_option maxRecDepth 100000 in
/-- the law: interestShare, refused -/
theorem c_L_interestShare (l : Launch) (hl0 : l.stackTraces = false) (dC : Nat → ClassId) (dI : Nat → Nat → Nat) (k : Nat → ClassId) (hout : Nat) (h0 hn g1 g2 hea g3 g4 g5 g6 g7 xa1 xa2 xa3 xa4 xa5 xa6 xa7 xa8 xa9 xa10 xa11 : Nat) (sz : Nat) : Met l yL_interestShare woL_interestShare ({ frames := 7, cells := 1, slots := 6, locals := 103 } : Room) (PcW (dC, dI) k [.ref h0, .ref hout] [(h0, .inr (10, [.ref hn, .ref g1, .ref g2, .ref hea, .ref g3, .ref g4, .ref g5, .ref g6, .ref g7, .int (iI 0), .int (iI 0), .int (iI 0), .int (iI (-1)), .int (iI (-1)), .int (iI 0)])), (hn, .inr (2, [.ref xa1, .ref xa2, .ref xa3, .ref xa5, .ref xa8, .int (iI 0), .int (iI 0), .int (iI 0)])), (xa3, .inr (7, [.int (iI 0), .int (iI 0), .int (iI 0), .long (lI 0), .int (iI 0), .int (iI 0), .int (iI 0), .long (lI 0), .long (lI 0), .long (lI 0), .long (lI 0), .long (lI 0), .int (iI 0), .int (iI 0), .int (iI 0), .int (iI 0), .ref xa4])), (xa4, .inl (k 1, 8, .inr (.inl (aL aZ)))), (hout, .inl (k 3, 1, .inr (.inr (.inr (.inl (fun _ => FP.dconst0))))))] sz) (va_Qi (fun (r : Int32) (_ : Unit) => r = iI 1) (QB (dC, dI) [(h0, .inr (10, [.ref hn, .ref g1, .ref g2, .ref hea, .ref g3, .ref g4, .ref g5, .ref g6, .ref g7, .int (iI 0), .int (iI 0), .int (iI 0), .int (iI (-1)), .int (iI (-1)), .int (iI 0)])), (hn, .inr (2, [.ref xa1, .ref xa2, .ref xa3, .ref xa5, .ref xa8, .int (iI 0), .int (iI 0), .int (iI 0)])), (xa3, .inr (7, [.int (iI 0), .int (iI 0), .int (iI 0), .long (lI 0), .int (iI 0), .int (iI 0), .int (iI 0), .long (lI 0), .long (lI 0), .long (lI 0), .long (lI 0), .long (lI 0), .int (iI 0), .int (iI 0), .int (iI 0), .int (iI 0), .ref xa4])), (xa4, .inl (k 1, 8, .inr (.inl (aL aZ)))), (hout, .inl (k 3, 1, .inr (.inr (.inr (.inl (fun _ => FP.dconst0))))))] (fun _ => []) sz) (va_A [(h0, .inr (10, [.ref hn, .ref g1, .ref g2, .ref hea, .ref g3, .ref g4, .ref g5, .ref g6, .ref g7, .int (iI 0), .int (iI 0), .int (iI 0), .int (iI (-1)), .int (iI (-1)), .int (iI 0)])), (hn, .inr (2, [.ref xa1, .ref xa2, .ref xa3, .ref xa5, .ref xa8, .int (iI 0), .int (iI 0), .int (iI 0)])), (xa3, .inr (7, [.int (iI 0), .int (iI 0), .int (iI 0), .long (lI 0), .int (iI 0), .int (iI 0), .int (iI 0), .long (lI 0), .long (lI 0), .long (lI 0), .long (lI 0), .long (lI 0), .int (iI 0), .int (iI 0), .int (iI 0), .int (iI 0), .ref xa4])), (xa4, .inl (k 1, 8, .inr (.inl (aL aZ)))), (hout, .inl (k 3, 1, .inr (.inr (.inr (.inl (fun _ => FP.dconst0))))))] sz)) 1 6 (va_A [(h0, .inr (10, [.ref hn, .ref g1, .ref g2, .ref hea, .ref g3, .ref g4, .ref g5, .ref g6, .ref g7, .int (iI 0), .int (iI 0), .int (iI 0), .int (iI (-1)), .int (iI (-1)), .int (iI 0)])), (hn, .inr (2, [.ref xa1, .ref xa2, .ref xa3, .ref xa5, .ref xa8, .int (iI 0), .int (iI 0), .int (iI 0)])), (xa3, .inr (7, [.int (iI 0), .int (iI 0), .int (iI 0), .long (lI 0), .int (iI 0), .int (iI 0), .int (iI 0), .long (lI 0), .long (lI 0), .long (lI 0), .long (lI 0), .long (lI 0), .int (iI 0), .int (iI 0), .int (iI 0), .int (iI 0), .ref xa4])), (xa4, .inl (k 1, 8, .inr (.inl (aL aZ)))), (hout, .inl (k 3, 1, .inr (.inr (.inr (.inl (fun _ => FP.dconst0))))))] sz) := by
  refine Met_ofWH (cc := cL_interestShare) (maxL := 3) (ret := (some .int)) (by decide) rfl ?_
  intro p e s mI args below meth cO s₁ B hml hv
  obtain ⟨rfl, rfl, hP, hD0, hE⟩ := hv
  have hx := B.exec
  have hb := B.bytes
  have hr := B.returns
  have hts := atoms_spec (ws := woL_interestShare) B.pre
  have hown : s.vm.findClass RL = some mI.cls := findClass_of_methodNamed B.named
  have hlocks := B.notSynchronized
  have htab := vx_table (x := yL_interestShare) B (hts (.codeWith yL_interestShare cL_interestShare 3 (some .int) [(0, 7, 10, 62)]) List.mem_cons_self)
  have hD := hD0.self (sz := s.heap.size)
  generalize hAe : va_A [(h0, .inr (10, [.ref hn, .ref g1, .ref g2, .ref hea, .ref g3, .ref g4, .ref g5, .ref g6, .ref g7, .int (iI 0), .int (iI 0), .int (iI 0), .int (iI (-1)), .int (iI (-1)), .int (iI 0)])), (hn, .inr (2, [.ref xa1, .ref xa2, .ref xa3, .ref xa5, .ref xa8, .int (iI 0), .int (iI 0), .int (iI 0)])), (xa3, .inr (7, [.int (iI 0), .int (iI 0), .int (iI 0), .long (lI 0), .int (iI 0), .int (iI 0), .int (iI 0), .long (lI 0), .long (lI 0), .long (lI 0), .long (lI 0), .long (lI 0), .int (iI 0), .int (iI 0), .int (iI 0), .int (iI 0), .ref xa4])), (xa4, .inl (k 1, 8, .inr (.inl (aL aZ)))), (hout, .inl (k 3, 1, .inr (.inr (.inr (.inl (fun _ => FP.dconst0))))))] s.heap.size = A at hD hE ⊢
  have hA : ∀ q : Nat, s.heap.size ≤ q → A q := fun q h => by rw [← hAe]; exact Or.inr h
  have hS : va_S A s.heap s.heap [] := va_S.rf
  obtain ⟨hK, hNw, hNc, hZs, hAO1, hAO2⟩ := id hE
  have hSF : CallFix p mI cO cL_interestShare 3 s ([.ref h0, .ref hout] : List Value).toArray woL_interestShare RL := ⟨hx, hb, hml, hown, hts⟩
  have hl := lv_entry ([.ref h0, .ref hout] : List Value) (n := 3) (Nat.le_of_ble_eq_true rfl)
  rw [lg_entry_eq]
  generalize (lg_sl ([.ref h0, .ref hout] : List Value) ++ List.replicate (3 - (lg_sl ([.ref h0, .ref hout] : List Value)).length) Slot.unset).toArray = ls at hl ⊢
  have hl : lv_has ls 3 [(0, .ref h0), (1, .ref hout)] := hl
  refine W_gen (fun Q hQ => ?_)
  change W p l e ({ frames := 7, cells := 1, slots := 6, locals := 103 } : Room) s mI _ below meth cO s.heap [] 0 0 Q _
  have hP : va_P (dC, dI) vwCl [(h0, .inr (10, [.ref hn, .ref g1, .ref g2, .ref hea, .ref g3, .ref g4, .ref g5, .ref g6, .ref g7, .int (iI 0), .int (iI 0), .int (iI 0), .int (iI (-1)), .int (iI (-1)), .int (iI 0)])), (hn, .inr (2, [.ref xa1, .ref xa2, .ref xa3, .ref xa5, .ref xa8, .int (iI 0), .int (iI 0), .int (iI 0)])), (xa3, .inr (7, [.int (iI 0), .int (iI 0), .int (iI 0), .long (lI 0), .int (iI 0), .int (iI 0), .int (iI 0), .long (lI 0), .long (lI 0), .long (lI 0), .long (lI 0), .long (lI 0), .int (iI 0), .int (iI 0), .int (iI 0), .int (iI 0), .ref xa4])), (xa4, .inl (k 1, 8, .inr (.inl (aL aZ)))), (hout, .inl (k 3, 1, .inr (.inr (.inr (.inl (fun _ => FP.dconst0))))))] s.heap := hP
  refine lv_aload_n hx hb dL_interestShare_0 rfl (lv_at hl 1 rfl) ?_
  refine q_iconst hx hb dL_interestShare_1 ?_
  refine lv_aload_n hx hb dL_interestShare_2 rfl (lv_at hl 0 rfl) ?_
  refine kxd (vx_runV (As := []) (rest := [.int (iI 0), .ref hout]) hSF ((c_X10_interestShare l hl0 dC dI k h0 hn g1 g2 hea g3 g4 g5 g6 g7 xa1 xa2 xa3 xa4 xa5 0 0 xa8 0 0 0) s.heap.size) (cwV 0 hts gL_interestShare_X10_interestShare rfl rfl rfl (by decide +kernel) ⟨Nat.le_of_ble_eq_true rfl, Nat.le_of_ble_eq_true rfl⟩) (preV hP hD hE hS hA [0, 1, 2, 3] rfl (by decide) (ci := 10) (q0 := 0) rfl rfl) rfl rfl hl.1 rfl (lv_room (Nat.le_of_ble_eq_true rfl)) dL_interestShare_3 ⟨Nat.le_of_ble_eq_true rfl, Nat.le_of_ble_eq_true rfl⟩) hP hD hS hA [0, 1, 2, 3] [4] rfl (wr := [(hout, .inl (k 3, 1, .inr (.inr (.inr (.inl (fun _ => FP.dconst0))))))]) rfl (by decide) (by decide) (fun ce q9 H locs hP hD hS hc9 hv9 hcl => ?_)
  refine vx_catch (own := RL) (name := "java/lang/ArithmeticException") (E := "java/lang/ArithmeticException") hown [] ⟨0, 7, 10, 62⟩ [] (by rw [htab]; rfl) (fun z hz => by cases hz) (by decide) (by decide) (hts (.classLink RL 62 "java/lang/ArithmeticException") (List.mem_cons_of_mem _ (wl_33 (List.mem_of_getElem? (i := 0) rfl)))) (va_Nw.use rfl (hNw _ (List.mem_of_getElem? (i := 70) rfl))) hc9 hv9 hcl ?_
  change W p l e _ s mI _ below meth cO H locs _ _ Q (F0 mI 10 ls [.ref q9])
  refine lv_astore_n (lv' := [(2, .ref q9), (0, .ref h0), (1, .ref hout)]) hx hb dL_interestShare_10 rfl hl (by decide) rfl (fun ls hl => ?_)
  refine q_iconst hx hb dL_interestShare_11 ?_
  rw [hQ]
  refine W.widen (k := 1) (n := 6) (Nat.le_of_ble_eq_true rfl) (Nat.le_of_ble_eq_true rfl) ?_
  exact W.iret (v := (iI 1)) hx hb hr (fun t ht hW => ⟨⟨(iI 1), (), rfl, rfl, by rw [ht]; exact hP.sub [] rfl, by rw [hAe]; exact hD.sub [] (by decide) rfl⟩, hS.F ht⟩) hS.2.2 dL_interestShare_12
set_option maxHeartbeats 4000000 in
set_option maxRecDepth 100000 in
/-- the law: progress, refused -/
theorem c_L_progress (l : Launch) (hl0 : l.stackTraces = false) (dC : Nat → ClassId) (dI : Nat → Nat → Nat) (k : Nat → ClassId) (hout : Nat) (h0 hn g1 g2 hea g3 g4 g5 g6 g7 xa1 xa2 xa3 xa4 xa5 xa6 xa7 xa8 xa9 xa10 xa11 : Nat) (sz : Nat) : Met l yL_progress woL_progress ({ frames := 7, cells := 1, slots := 6, locals := 103 } : Room) (PcW (dC, dI) k [.ref h0, .ref hout] [(h0, .inr (10, [.ref hn, .ref g1, .ref g2, .ref hea, .ref g3, .ref g4, .ref g5, .ref g6, .ref g7, .int (iI 0), .int (iI 0), .int (iI 0), .int (iI (-1)), .int (iI (-1)), .int (iI 0)])), (hn, .inr (2, [.ref xa1, .ref xa2, .ref xa3, .ref xa5, .ref xa8, .int (iI 0), .int (iI 0), .int (iI 0)])), (xa3, .inr (7, [.int (iI 0), .int (iI 0), .int (iI 0), .long (lI 0), .int (iI 0), .int (iI 0), .int (iI 0), .long (lI 0), .long (lI 0), .long (lI 0), .long (lI 0), .long (lI 0), .int (iI 0), .int (iI 0), .int (iI 0), .int (iI 0), .ref xa4])), (xa4, .inl (k 1, 8, .inr (.inl (aL aZ)))), (hout, .inl (k 3, 1, .inr (.inr (.inr (.inl (fun _ => FP.dconst0))))))] sz) (va_Qi (fun (r : Int32) (_ : Unit) => r = iI 1) (QB (dC, dI) [(h0, .inr (10, [.ref hn, .ref g1, .ref g2, .ref hea, .ref g3, .ref g4, .ref g5, .ref g6, .ref g7, .int (iI 0), .int (iI 0), .int (iI 0), .int (iI (-1)), .int (iI (-1)), .int (iI 0)])), (hn, .inr (2, [.ref xa1, .ref xa2, .ref xa3, .ref xa5, .ref xa8, .int (iI 0), .int (iI 0), .int (iI 0)])), (xa3, .inr (7, [.int (iI 0), .int (iI 0), .int (iI 0), .long (lI 0), .int (iI 0), .int (iI 0), .int (iI 0), .long (lI 0), .long (lI 0), .long (lI 0), .long (lI 0), .long (lI 0), .int (iI 0), .int (iI 0), .int (iI 0), .int (iI 0), .ref xa4])), (xa4, .inl (k 1, 8, .inr (.inl (aL aZ)))), (hout, .inl (k 3, 1, .inr (.inr (.inr (.inl (fun _ => FP.dconst0))))))] (fun _ => []) sz) (va_A [(h0, .inr (10, [.ref hn, .ref g1, .ref g2, .ref hea, .ref g3, .ref g4, .ref g5, .ref g6, .ref g7, .int (iI 0), .int (iI 0), .int (iI 0), .int (iI (-1)), .int (iI (-1)), .int (iI 0)])), (hn, .inr (2, [.ref xa1, .ref xa2, .ref xa3, .ref xa5, .ref xa8, .int (iI 0), .int (iI 0), .int (iI 0)])), (xa3, .inr (7, [.int (iI 0), .int (iI 0), .int (iI 0), .long (lI 0), .int (iI 0), .int (iI 0), .int (iI 0), .long (lI 0), .long (lI 0), .long (lI 0), .long (lI 0), .long (lI 0), .int (iI 0), .int (iI 0), .int (iI 0), .int (iI 0), .ref xa4])), (xa4, .inl (k 1, 8, .inr (.inl (aL aZ)))), (hout, .inl (k 3, 1, .inr (.inr (.inr (.inl (fun _ => FP.dconst0))))))] sz)) 1 6 (va_A [(h0, .inr (10, [.ref hn, .ref g1, .ref g2, .ref hea, .ref g3, .ref g4, .ref g5, .ref g6, .ref g7, .int (iI 0), .int (iI 0), .int (iI 0), .int (iI (-1)), .int (iI (-1)), .int (iI 0)])), (hn, .inr (2, [.ref xa1, .ref xa2, .ref xa3, .ref xa5, .ref xa8, .int (iI 0), .int (iI 0), .int (iI 0)])), (xa3, .inr (7, [.int (iI 0), .int (iI 0), .int (iI 0), .long (lI 0), .int (iI 0), .int (iI 0), .int (iI 0), .long (lI 0), .long (lI 0), .long (lI 0), .long (lI 0), .long (lI 0), .int (iI 0), .int (iI 0), .int (iI 0), .int (iI 0), .ref xa4])), (xa4, .inl (k 1, 8, .inr (.inl (aL aZ)))), (hout, .inl (k 3, 1, .inr (.inr (.inr (.inl (fun _ => FP.dconst0))))))] sz) := by
  refine Met_ofWH (cc := cL_progress) (maxL := 3) (ret := (some .int)) (by decide) rfl ?_
  intro p e s mI args below meth cO s₁ B hml hv
  obtain ⟨rfl, rfl, hP, hD0, hE⟩ := hv
  have hx := B.exec
  have hb := B.bytes
  have hr := B.returns
  have hts := atoms_spec (ws := woL_progress) B.pre
  have hown : s.vm.findClass RL = some mI.cls := findClass_of_methodNamed B.named
  have hlocks := B.notSynchronized
  have htab := vx_table (x := yL_progress) B (hts (.codeWith yL_progress cL_progress 3 (some .int) [(0, 8, 11, 19)]) List.mem_cons_self)
  have hD := hD0.self (sz := s.heap.size)
  generalize hAe : va_A [(h0, .inr (10, [.ref hn, .ref g1, .ref g2, .ref hea, .ref g3, .ref g4, .ref g5, .ref g6, .ref g7, .int (iI 0), .int (iI 0), .int (iI 0), .int (iI (-1)), .int (iI (-1)), .int (iI 0)])), (hn, .inr (2, [.ref xa1, .ref xa2, .ref xa3, .ref xa5, .ref xa8, .int (iI 0), .int (iI 0), .int (iI 0)])), (xa3, .inr (7, [.int (iI 0), .int (iI 0), .int (iI 0), .long (lI 0), .int (iI 0), .int (iI 0), .int (iI 0), .long (lI 0), .long (lI 0), .long (lI 0), .long (lI 0), .long (lI 0), .int (iI 0), .int (iI 0), .int (iI 0), .int (iI 0), .ref xa4])), (xa4, .inl (k 1, 8, .inr (.inl (aL aZ)))), (hout, .inl (k 3, 1, .inr (.inr (.inr (.inl (fun _ => FP.dconst0))))))] s.heap.size = A at hD hE ⊢
  have hA : ∀ q : Nat, s.heap.size ≤ q → A q := fun q h => by rw [← hAe]; exact Or.inr h
  have hS : va_S A s.heap s.heap [] := va_S.rf
  obtain ⟨hK, hNw, hNc, hZs, hAO1, hAO2⟩ := id hE
  have hSF : CallFix p mI cO cL_progress 3 s ([.ref h0, .ref hout] : List Value).toArray woL_progress RL := ⟨hx, hb, hml, hown, hts⟩
  have hl := lv_entry ([.ref h0, .ref hout] : List Value) (n := 3) (Nat.le_of_ble_eq_true rfl)
  rw [lg_entry_eq]
  generalize (lg_sl ([.ref h0, .ref hout] : List Value) ++ List.replicate (3 - (lg_sl ([.ref h0, .ref hout] : List Value)).length) Slot.unset).toArray = ls at hl ⊢
  have hl : lv_has ls 3 [(0, .ref h0), (1, .ref hout)] := hl
  refine W_gen (fun Q hQ => ?_)
  change W p l e ({ frames := 7, cells := 1, slots := 6, locals := 103 } : Room) s mI _ below meth cO s.heap [] 0 0 Q _
  have hP : va_P (dC, dI) vwCl [(h0, .inr (10, [.ref hn, .ref g1, .ref g2, .ref hea, .ref g3, .ref g4, .ref g5, .ref g6, .ref g7, .int (iI 0), .int (iI 0), .int (iI 0), .int (iI (-1)), .int (iI (-1)), .int (iI 0)])), (hn, .inr (2, [.ref xa1, .ref xa2, .ref xa3, .ref xa5, .ref xa8, .int (iI 0), .int (iI 0), .int (iI 0)])), (xa3, .inr (7, [.int (iI 0), .int (iI 0), .int (iI 0), .long (lI 0), .int (iI 0), .int (iI 0), .int (iI 0), .long (lI 0), .long (lI 0), .long (lI 0), .long (lI 0), .long (lI 0), .int (iI 0), .int (iI 0), .int (iI 0), .int (iI 0), .ref xa4])), (xa4, .inl (k 1, 8, .inr (.inl (aL aZ)))), (hout, .inl (k 3, 1, .inr (.inr (.inr (.inl (fun _ => FP.dconst0))))))] s.heap := hP
  refine lv_aload_n hx hb dL_progress_0 rfl (lv_at hl 1 rfl) ?_
  refine q_iconst hx hb dL_progress_1 ?_
  refine lv_aload_n hx hb dL_progress_2 rfl (lv_at hl 0 rfl) ?_
  refine kxf (vx_runV (As := []) (rest := [.int (iI 0), .ref hout]) hSF ((c_X10_progress l hl0 dC dI k h0 hn g1 g2 hea g3 g4 g5 g6 g7 xa1 xa2 xa3 xa4 xa5 0 0 xa8 0 0 0) s.heap.size) (cwV 0 hts gL_progress_X10_progress rfl rfl rfl (by decide +kernel) ⟨Nat.le_of_ble_eq_true rfl, Nat.le_of_ble_eq_true rfl⟩) (preV hP hD hE hS hA [0, 1, 2, 3] rfl (by decide) (ci := 10) (q0 := 0) rfl rfl) rfl rfl hl.1 rfl (lv_room (Nat.le_of_ble_eq_true rfl)) dL_progress_3 ⟨Nat.le_of_ble_eq_true rfl, Nat.le_of_ble_eq_true rfl⟩) hP hD hS hA [0, 1, 2, 3] [4] rfl (wr := [(hout, .inl (k 3, 1, .inr (.inr (.inr (.inl (fun _ => FP.dconst0))))))]) rfl (by decide) (by decide) (fun ce q9 H locs hP hD hS hc9 hv9 hcl => ?_)
  refine vx_catch (own := RL) (name := "java/lang/IllegalStateException") (E := "java/lang/IllegalStateException") hown [] ⟨0, 8, 11, 19⟩ [] (by rw [htab]; rfl) (fun z hz => by cases hz) (by decide) (by decide) (hts (.classLink RL 19 "java/lang/IllegalStateException") (List.mem_cons_of_mem _ (wl_16 (List.mem_of_getElem? (i := 7) rfl)))) (va_Nw.use rfl (hNw _ (List.mem_of_getElem? (i := 67) rfl))) hc9 hv9 hcl ?_
  change W p l e _ s mI _ below meth cO H locs _ _ Q (F0 mI 11 ls [.ref q9])
  refine lv_astore_n (lv' := [(2, .ref q9), (0, .ref h0), (1, .ref hout)]) hx hb dL_progress_11 rfl hl (by decide) rfl (fun ls hl => ?_)
  refine q_iconst hx hb dL_progress_12 ?_
  rw [hQ]
  refine W.widen (k := 1) (n := 6) (Nat.le_of_ble_eq_true rfl) (Nat.le_of_ble_eq_true rfl) ?_
  exact W.iret (v := (iI 1)) hx hb hr (fun t ht hW => ⟨⟨(iI 1), (), rfl, rfl, by rw [ht]; exact hP.sub [] rfl, by rw [hAe]; exact hD.sub [] (by decide) rfl⟩, hS.F ht⟩) hS.2.2 dL_progress_13
set_option maxHeartbeats 4000000 in
set_option maxRecDepth 100000 in
/-- the law: schedule, refused -/
theorem c_L_schedule (l : Launch) (hl0 : l.stackTraces = false) (dC : Nat → ClassId) (dI : Nat → Nat → Nat) (k : Nat → ClassId) (hout : Nat) (h0 hn g1 g2 hea g3 g4 g5 g6 g7 xa1 xa2 xa3 xa4 xa5 xa6 xa7 xa8 xa9 xa10 xa11 xd1 xd2 xd3 xd4 xd5 xd6 : Nat) (xv xw9 : Int) (hv9 : -2147483648 ≤ xv ∧ xv ≤ 2147483647 ∧ -2147483648 ≤ xw9 ∧ xw9 ≤ 2147483647) (sz : Nat) : Met l yL_schedule woL_schedule ({ frames := 7, cells := 1, slots := 6, locals := 103 } : Room) (PcW (dC, dI) k [.ref h0, .int (iI xv), .int (iI xw9), .ref hout] [(h0, .inr (10, [.ref hn, .ref g1, .ref g2, .ref hea, .ref g3, .ref g4, .ref g5, .ref g6, .ref g7, .int (iI 0), .int (iI 0), .int (iI 0), .int (iI (-1)), .int (iI (-1)), .int (iI 0)])), (hn, .inr (2, [.ref xa1, .ref xa2, .ref xa3, .ref xa5, .ref xa8, .int (iI 0), .int (iI 0), .int (iI 0)])), (xa1, .inl (k 0, 5, .inl (aI (upI (upI (upI (upI (upI aZ 0 0) 1 0) 2 10) 3 500) 4 0)))), (xa3, .inr (7, [.int (iI 0), .int (iI 0), .int (iI 0), .long (lI 0), .int (iI 0), .int (iI 0), .int (iI 0), .long (lI 0), .long (lI 0), .long (lI 0), .long (lI 0), .long (lI 0), .int (iI 0), .int (iI 0), .int (iI 0), .int (iI 0), .ref xa4])), (g5, .inr (8, [.long (lI 0), .long (lI 0), .long (lI 0), .int (iI 0), .int (iI 0), .int (iI 0), .int (iI 0), .int (iI 0), .ref xd1, .ref xd2, .int (iI 0), .ref xd3, .ref xd4, .ref xd5, .ref xd6])), (hout, .inl (k 1, 1, .inr (.inl (aL aZ))))] sz) (va_Qi (fun (r : Int32) (_ : Unit) => r = iI 1) (QB (dC, dI) [(h0, .inr (10, [.ref hn, .ref g1, .ref g2, .ref hea, .ref g3, .ref g4, .ref g5, .ref g6, .ref g7, .int (iI 0), .int (iI 0), .int (iI 0), .int (iI (-1)), .int (iI (-1)), .int (iI 0)])), (hn, .inr (2, [.ref xa1, .ref xa2, .ref xa3, .ref xa5, .ref xa8, .int (iI 0), .int (iI 0), .int (iI 0)])), (xa1, .inl (k 0, 5, .inl (aI (upI (upI (upI (upI (upI aZ 0 0) 1 0) 2 10) 3 500) 4 0)))), (xa3, .inr (7, [.int (iI 0), .int (iI 0), .int (iI 0), .long (lI 0), .int (iI 0), .int (iI 0), .int (iI 0), .long (lI 0), .long (lI 0), .long (lI 0), .long (lI 0), .long (lI 0), .int (iI 0), .int (iI 0), .int (iI 0), .int (iI 0), .ref xa4])), (g5, .inr (8, [.long (lI 0), .long (lI 0), .long (lI 0), .int (iI 0), .int (iI 0), .int (iI 0), .int (iI 0), .int (iI 0), .ref xd1, .ref xd2, .int (iI 0), .ref xd3, .ref xd4, .ref xd5, .ref xd6])), (hout, .inl (k 1, 1, .inr (.inl (aL aZ))))] (fun _ => []) sz) (va_A [(h0, .inr (10, [.ref hn, .ref g1, .ref g2, .ref hea, .ref g3, .ref g4, .ref g5, .ref g6, .ref g7, .int (iI 0), .int (iI 0), .int (iI 0), .int (iI (-1)), .int (iI (-1)), .int (iI 0)])), (hn, .inr (2, [.ref xa1, .ref xa2, .ref xa3, .ref xa5, .ref xa8, .int (iI 0), .int (iI 0), .int (iI 0)])), (xa1, .inl (k 0, 5, .inl (aI (upI (upI (upI (upI (upI aZ 0 0) 1 0) 2 10) 3 500) 4 0)))), (xa3, .inr (7, [.int (iI 0), .int (iI 0), .int (iI 0), .long (lI 0), .int (iI 0), .int (iI 0), .int (iI 0), .long (lI 0), .long (lI 0), .long (lI 0), .long (lI 0), .long (lI 0), .int (iI 0), .int (iI 0), .int (iI 0), .int (iI 0), .ref xa4])), (g5, .inr (8, [.long (lI 0), .long (lI 0), .long (lI 0), .int (iI 0), .int (iI 0), .int (iI 0), .int (iI 0), .int (iI 0), .ref xd1, .ref xd2, .int (iI 0), .ref xd3, .ref xd4, .ref xd5, .ref xd6])), (hout, .inl (k 1, 1, .inr (.inl (aL aZ))))] sz)) 1 6 (va_A [(h0, .inr (10, [.ref hn, .ref g1, .ref g2, .ref hea, .ref g3, .ref g4, .ref g5, .ref g6, .ref g7, .int (iI 0), .int (iI 0), .int (iI 0), .int (iI (-1)), .int (iI (-1)), .int (iI 0)])), (hn, .inr (2, [.ref xa1, .ref xa2, .ref xa3, .ref xa5, .ref xa8, .int (iI 0), .int (iI 0), .int (iI 0)])), (xa1, .inl (k 0, 5, .inl (aI (upI (upI (upI (upI (upI aZ 0 0) 1 0) 2 10) 3 500) 4 0)))), (xa3, .inr (7, [.int (iI 0), .int (iI 0), .int (iI 0), .long (lI 0), .int (iI 0), .int (iI 0), .int (iI 0), .long (lI 0), .long (lI 0), .long (lI 0), .long (lI 0), .long (lI 0), .int (iI 0), .int (iI 0), .int (iI 0), .int (iI 0), .ref xa4])), (g5, .inr (8, [.long (lI 0), .long (lI 0), .long (lI 0), .int (iI 0), .int (iI 0), .int (iI 0), .int (iI 0), .int (iI 0), .ref xd1, .ref xd2, .int (iI 0), .ref xd3, .ref xd4, .ref xd5, .ref xd6])), (hout, .inl (k 1, 1, .inr (.inl (aL aZ))))] sz) := by
  refine Met_ofWH (cc := cL_schedule) (maxL := 5) (ret := (some .int)) (by decide) rfl ?_
  intro p e s mI args below meth cO s₁ B hml hv
  obtain ⟨rfl, rfl, hP, hD0, hE⟩ := hv
  have hx := B.exec
  have hb := B.bytes
  have hr := B.returns
  have hts := atoms_spec (ws := woL_schedule) B.pre
  have hown : s.vm.findClass RL = some mI.cls := findClass_of_methodNamed B.named
  have hlocks := B.notSynchronized
  have htab := vx_table (x := yL_schedule) B (hts (.codeWith yL_schedule cL_schedule 5 (some .int) [(0, 10, 13, 32), (0, 10, 17, 13)]) List.mem_cons_self)
  have hD := hD0.self (sz := s.heap.size)
  generalize hAe : va_A [(h0, .inr (10, [.ref hn, .ref g1, .ref g2, .ref hea, .ref g3, .ref g4, .ref g5, .ref g6, .ref g7, .int (iI 0), .int (iI 0), .int (iI 0), .int (iI (-1)), .int (iI (-1)), .int (iI 0)])), (hn, .inr (2, [.ref xa1, .ref xa2, .ref xa3, .ref xa5, .ref xa8, .int (iI 0), .int (iI 0), .int (iI 0)])), (xa1, .inl (k 0, 5, .inl (aI (upI (upI (upI (upI (upI aZ 0 0) 1 0) 2 10) 3 500) 4 0)))), (xa3, .inr (7, [.int (iI 0), .int (iI 0), .int (iI 0), .long (lI 0), .int (iI 0), .int (iI 0), .int (iI 0), .long (lI 0), .long (lI 0), .long (lI 0), .long (lI 0), .long (lI 0), .int (iI 0), .int (iI 0), .int (iI 0), .int (iI 0), .ref xa4])), (g5, .inr (8, [.long (lI 0), .long (lI 0), .long (lI 0), .int (iI 0), .int (iI 0), .int (iI 0), .int (iI 0), .int (iI 0), .ref xd1, .ref xd2, .int (iI 0), .ref xd3, .ref xd4, .ref xd5, .ref xd6])), (hout, .inl (k 1, 1, .inr (.inl (aL aZ))))] s.heap.size = A at hD hE ⊢
  have hA : ∀ q : Nat, s.heap.size ≤ q → A q := fun q h => by rw [← hAe]; exact Or.inr h
  have hS : va_S A s.heap s.heap [] := va_S.rf
  obtain ⟨hK, hNw, hNc, hZs, hAO1, hAO2⟩ := id hE
  have hSF : CallFix p mI cO cL_schedule 5 s ([.ref h0, .int (iI xv), .int (iI xw9), .ref hout] : List Value).toArray woL_schedule RL := ⟨hx, hb, hml, hown, hts⟩
  have hl := lv_entry ([.ref h0, .int (iI xv), .int (iI xw9), .ref hout] : List Value) (n := 5) (Nat.le_of_ble_eq_true rfl)
  rw [lg_entry_eq]
  generalize (lg_sl ([.ref h0, .int (iI xv), .int (iI xw9), .ref hout] : List Value) ++ List.replicate (5 - (lg_sl ([.ref h0, .int (iI xv), .int (iI xw9), .ref hout] : List Value)).length) Slot.unset).toArray = ls at hl ⊢
  have hl : lv_has ls 5 [(0, .ref h0), (1, .int (iI xv)), (2, .int (iI xw9)), (3, .ref hout)] := hl
  refine W_gen (fun Q hQ => ?_)
  change W p l e ({ frames := 7, cells := 1, slots := 6, locals := 103 } : Room) s mI _ below meth cO s.heap [] 0 0 Q _
  have hP : va_P (dC, dI) vwCl [(h0, .inr (10, [.ref hn, .ref g1, .ref g2, .ref hea, .ref g3, .ref g4, .ref g5, .ref g6, .ref g7, .int (iI 0), .int (iI 0), .int (iI 0), .int (iI (-1)), .int (iI (-1)), .int (iI 0)])), (hn, .inr (2, [.ref xa1, .ref xa2, .ref xa3, .ref xa5, .ref xa8, .int (iI 0), .int (iI 0), .int (iI 0)])), (xa1, .inl (k 0, 5, .inl (aI (upI (upI (upI (upI (upI aZ 0 0) 1 0) 2 10) 3 500) 4 0)))), (xa3, .inr (7, [.int (iI 0), .int (iI 0), .int (iI 0), .long (lI 0), .int (iI 0), .int (iI 0), .int (iI 0), .long (lI 0), .long (lI 0), .long (lI 0), .long (lI 0), .long (lI 0), .int (iI 0), .int (iI 0), .int (iI 0), .int (iI 0), .ref xa4])), (g5, .inr (8, [.long (lI 0), .long (lI 0), .long (lI 0), .int (iI 0), .int (iI 0), .int (iI 0), .int (iI 0), .int (iI 0), .ref xd1, .ref xd2, .int (iI 0), .ref xd3, .ref xd4, .ref xd5, .ref xd6])), (hout, .inl (k 1, 1, .inr (.inl (aL aZ))))] s.heap := hP
  refine lv_aload_n hx hb dL_schedule_0 rfl (lv_at hl 3 rfl) ?_
  refine q_iconst hx hb dL_schedule_1 ?_
  refine lv_aload_n hx hb dL_schedule_2 rfl (lv_at hl 0 rfl) ?_
  refine lv_iload_n hx hb dL_schedule_3 rfl (lv_at hl 1 rfl) ?_
  refine lv_iload_n hx hb dL_schedule_4 rfl (lv_at hl 2 rfl) ?_
  refine kxi (vx_runV (As := [.int (iI xv), .int (iI xw9)]) (rest := [.int (iI 0), .ref hout]) hSF ((c_X10_schedule l hl0 dC dI k h0 hn g1 g2 hea g3 g4 g5 g6 g7 xa1 xa2 xa3 xa4 xa5 0 0 xa8 0 0 0 xd1 xd2 xd3 xd4 xd5 xd6 xv xw9 (by omega)) s.heap.size) (cwV 2 hts gL_schedule_X10_schedule rfl rfl rfl (by decide +kernel) ⟨Nat.le_of_ble_eq_true rfl, Nat.le_of_ble_eq_true rfl⟩) (preV hP hD hE hS hA [0, 1, 2, 3, 4] rfl (by decide) (ci := 10) (q0 := 0) rfl rfl) rfl rfl hl.1 rfl (lv_room (Nat.le_of_ble_eq_true rfl)) dL_schedule_5 ⟨Nat.le_of_ble_eq_true rfl, Nat.le_of_ble_eq_true rfl⟩) hP hD hS hA [0, 1, 2, 3, 4] [5] rfl (wr := [(hout, .inl (k 1, 1, .inr (.inl (aL aZ))))]) rfl (by decide) (by decide) (fun ce q9 H locs hP hD hS hc9 hv9 hcl => ?_)
  refine vx_catch (own := RL) (name := "java/lang/IndexOutOfBoundsException") (E := "java/lang/IndexOutOfBoundsException") hown [] ⟨0, 10, 13, 32⟩ [⟨0, 10, 17, 13⟩] (by rw [htab]; rfl) (fun z hz => by cases hz) (by decide) (by decide) (hts (.classLink RL 32 "java/lang/IndexOutOfBoundsException") (List.mem_cons_of_mem _ (wl_24 (List.mem_of_getElem? (i := 23) rfl)))) (va_Nw.use rfl (hNw _ (List.mem_of_getElem? (i := 68) rfl))) hc9 hv9 hcl ?_
  change W p l e _ s mI _ below meth cO H locs _ _ Q (F0 mI 13 ls [.ref q9])
  refine lv_astore (lv' := [(4, .ref q9), (0, .ref h0), (1, .int (iI xv)), (2, .int (iI xw9)), (3, .ref hout)]) hx hb dL_schedule_13 hl (by decide) rfl (fun ls hl => ?_)
  refine q_iconst hx hb dL_schedule_15 ?_
  rw [hQ]
  refine W.widen (k := 1) (n := 6) (Nat.le_of_ble_eq_true rfl) (Nat.le_of_ble_eq_true rfl) ?_
  exact W.iret (v := (iI 1)) hx hb hr (fun t ht hW => ⟨⟨(iI 1), (), rfl, rfl, by rw [ht]; exact hP.sub [] rfl, by rw [hAe]; exact hD.sub [] (by decide) rfl⟩, hS.F ht⟩) hS.2.2 dL_schedule_16
set_option maxHeartbeats 4000000 in
set_option maxRecDepth 100000 in
/-- the law: installmentFor, refused -/
theorem c_L_installmentFor_1 (l : Launch) (hl0 : l.stackTraces = false) (dC : Nat → ClassId) (dI : Nat → Nat → Nat) (k : Nat → ClassId) (hout : Nat) (h0 hn g1 g2 hea g3 g4 g5 g6 g7 xa1 xa2 xa3 xa4 xa5 xa6 xa7 xa8 xa9 xa10 xa11 : Nat) (xv : Int) (hv9 : -2147483648 ≤ xv ∧ xv ≤ 2147483647) (hv : ¬ (1 ≤ xv ∧ xv ≤ 60)) (sz : Nat) : Met l yL_installmentFor woL_installmentFor ({ frames := 7, cells := 1, slots := 6, locals := 102 } : Room) (PcW (dC, dI) k [.ref h0, .int (iI xv), .ref hout] [(h0, .inr (10, [.ref hn, .ref g1, .ref g2, .ref hea, .ref g3, .ref g4, .ref g5, .ref g6, .ref g7, .int (iI 0), .int (iI 0), .int (iI 0), .int (iI (-1)), .int (iI (-1)), .int (iI 0)])), (hout, .inl (k 1, 1, .inr (.inl (aL aZ))))] sz) (va_Qi (fun (r : Int32) (_ : Unit) => r = iI 1) (QB (dC, dI) [(h0, .inr (10, [.ref hn, .ref g1, .ref g2, .ref hea, .ref g3, .ref g4, .ref g5, .ref g6, .ref g7, .int (iI 0), .int (iI 0), .int (iI 0), .int (iI (-1)), .int (iI (-1)), .int (iI 0)])), (hout, .inl (k 1, 1, .inr (.inl (aL aZ))))] (fun _ => []) sz) (va_A [(h0, .inr (10, [.ref hn, .ref g1, .ref g2, .ref hea, .ref g3, .ref g4, .ref g5, .ref g6, .ref g7, .int (iI 0), .int (iI 0), .int (iI 0), .int (iI (-1)), .int (iI (-1)), .int (iI 0)])), (hout, .inl (k 1, 1, .inr (.inl (aL aZ))))] sz)) 1 6 (va_A [(h0, .inr (10, [.ref hn, .ref g1, .ref g2, .ref hea, .ref g3, .ref g4, .ref g5, .ref g6, .ref g7, .int (iI 0), .int (iI 0), .int (iI 0), .int (iI (-1)), .int (iI (-1)), .int (iI 0)])), (hout, .inl (k 1, 1, .inr (.inl (aL aZ))))] sz) := by
  refine Met_ofWH (cc := cL_installmentFor) (maxL := 4) (ret := (some .int)) (by decide) rfl ?_
  intro p e s mI args below meth cO s₁ B hml hv
  obtain ⟨rfl, rfl, hP, hD0, hE⟩ := hv
  have hx := B.exec
  have hb := B.bytes
  have hr := B.returns
  have hts := atoms_spec (ws := woL_installmentFor) B.pre
  have hown : s.vm.findClass RL = some mI.cls := findClass_of_methodNamed B.named
  have hlocks := B.notSynchronized
  have htab := vx_table (x := yL_installmentFor) B (hts (.codeWith yL_installmentFor cL_installmentFor 4 (some .int) [(0, 9, 12, 13), (0, 9, 15, 19)]) List.mem_cons_self)
  have hD := hD0.self (sz := s.heap.size)
  generalize hAe : va_A [(h0, .inr (10, [.ref hn, .ref g1, .ref g2, .ref hea, .ref g3, .ref g4, .ref g5, .ref g6, .ref g7, .int (iI 0), .int (iI 0), .int (iI 0), .int (iI (-1)), .int (iI (-1)), .int (iI 0)])), (hout, .inl (k 1, 1, .inr (.inl (aL aZ))))] s.heap.size = A at hD hE ⊢
  have hA : ∀ q : Nat, s.heap.size ≤ q → A q := fun q h => by rw [← hAe]; exact Or.inr h
  have hS : va_S A s.heap s.heap [] := va_S.rf
  obtain ⟨hK, hNw, hNc, hZs, hAO1, hAO2⟩ := id hE
  have hSF : CallFix p mI cO cL_installmentFor 4 s ([.ref h0, .int (iI xv), .ref hout] : List Value).toArray woL_installmentFor RL := ⟨hx, hb, hml, hown, hts⟩
  have hl := lv_entry ([.ref h0, .int (iI xv), .ref hout] : List Value) (n := 4) (Nat.le_of_ble_eq_true rfl)
  rw [lg_entry_eq]
  generalize (lg_sl ([.ref h0, .int (iI xv), .ref hout] : List Value) ++ List.replicate (4 - (lg_sl ([.ref h0, .int (iI xv), .ref hout] : List Value)).length) Slot.unset).toArray = ls at hl ⊢
  have hl : lv_has ls 4 [(0, .ref h0), (1, .int (iI xv)), (2, .ref hout)] := hl
  refine W_gen (fun Q hQ => ?_)
  change W p l e ({ frames := 7, cells := 1, slots := 6, locals := 102 } : Room) s mI _ below meth cO s.heap [] 0 0 Q _
  have hP : va_P (dC, dI) vwCl [(h0, .inr (10, [.ref hn, .ref g1, .ref g2, .ref hea, .ref g3, .ref g4, .ref g5, .ref g6, .ref g7, .int (iI 0), .int (iI 0), .int (iI 0), .int (iI (-1)), .int (iI (-1)), .int (iI 0)])), (hout, .inl (k 1, 1, .inr (.inl (aL aZ))))] s.heap := hP
  refine lv_aload_n hx hb dL_installmentFor_0 rfl (lv_at hl 2 rfl) ?_
  refine q_iconst hx hb dL_installmentFor_1 ?_
  refine lv_aload_n hx hb dL_installmentFor_2 rfl (lv_at hl 0 rfl) ?_
  refine lv_iload_n hx hb dL_installmentFor_3 rfl (lv_at hl 1 rfl) ?_
  refine kxi (vx_runV (As := [.int (iI xv)]) (rest := [.int (iI 0), .ref hout]) hSF ((c_X10_installmentFor_1 l hl0 dC dI k h0 hn g1 g2 hea g3 g4 g5 g6 g7 0 0 0 0 0 0 0 0 0 0 0 xv (by omega) (by omega)) s.heap.size) (cwV 1 hts gL_installmentFor_X10_installmentFor rfl rfl rfl (by decide +kernel) ⟨Nat.le_of_ble_eq_true rfl, Nat.le_of_ble_eq_true rfl⟩) (preV hP hD hE hS hA [0] rfl (by decide) (ci := 10) (q0 := 0) rfl rfl) rfl rfl hl.1 rfl (lv_room (Nat.le_of_ble_eq_true rfl)) dL_installmentFor_4 ⟨Nat.le_of_ble_eq_true rfl, Nat.le_of_ble_eq_true rfl⟩) hP hD hS hA [0] [1] rfl (wr := [(hout, .inl (k 1, 1, .inr (.inl (aL aZ))))]) rfl (by decide) (by decide) (fun ce q9 H locs hP hD hS hc9 hv9 hcl => ?_)
  refine vx_catch (own := RL) (name := "java/lang/IllegalArgumentException") (E := "java/lang/IllegalArgumentException") hown [] ⟨0, 9, 12, 13⟩ [⟨0, 9, 15, 19⟩] (by rw [htab]; rfl) (fun z hz => by cases hz) (by decide) (by decide) (hts (.classLink RL 13 "java/lang/IllegalArgumentException") (List.mem_cons_of_mem _ (wl_6 (List.mem_of_getElem? (i := 3) rfl)))) (va_Nw.use rfl (hNw _ (List.mem_of_getElem? (i := 66) rfl))) hc9 hv9 hcl ?_
  change W p l e _ s mI _ below meth cO H locs _ _ Q (F0 mI 12 ls [.ref q9])
  refine lv_astore_n (lv' := [(3, .ref q9), (0, .ref h0), (1, .int (iI xv)), (2, .ref hout)]) hx hb dL_installmentFor_12 rfl hl (by decide) rfl (fun ls hl => ?_)
  refine q_iconst hx hb dL_installmentFor_13 ?_
  rw [hQ]
  refine W.widen (k := 1) (n := 6) (Nat.le_of_ble_eq_true rfl) (Nat.le_of_ble_eq_true rfl) ?_
  exact W.iret (v := (iI 1)) hx hb hr (fun t ht hW => ⟨⟨(iI 1), (), rfl, rfl, by rw [ht]; exact hP.sub [] rfl, by rw [hAe]; exact hD.sub [] (by decide) rfl⟩, hS.F ht⟩) hS.2.2 dL_installmentFor_14
set_option maxHeartbeats 4000000 in
set_option maxRecDepth 100000 in
/-- the law: installmentFor, refused -/
theorem c_L_installmentFor_2 (l : Launch) (hl0 : l.stackTraces = false) (dC : Nat → ClassId) (dI : Nat → Nat → Nat) (k : Nat → ClassId) (hout : Nat) (h0 hn g1 g2 hea g3 g4 g5 g6 g7 xa1 xa2 xa3 xa4 xa5 xa6 xa7 xa8 xa9 xa10 xa11 : Nat) (xv : Int) (hv9 : -2147483648 ≤ xv ∧ xv ≤ 2147483647) (hv : 1 ≤ xv ∧ xv ≤ 60) (sz : Nat) : Met l yL_installmentFor woL_installmentFor ({ frames := 7, cells := 1, slots := 6, locals := 102 } : Room) (PcW (dC, dI) k [.ref h0, .int (iI xv), .ref hout] [(h0, .inr (10, [.ref hn, .ref g1, .ref g2, .ref hea, .ref g3, .ref g4, .ref g5, .ref g6, .ref g7, .int (iI 0), .int (iI 0), .int (iI 0), .int (iI (-1)), .int (iI (-1)), .int (iI 0)])), (hn, .inr (2, [.ref xa1, .ref xa2, .ref xa3, .ref xa5, .ref xa8, .int (iI 0), .int (iI 0), .int (iI 0)])), (xa3, .inr (7, [.int (iI 0), .int (iI 0), .int (iI 0), .long (lI 0), .int (iI 0), .int (iI 0), .int (iI 0), .long (lI 0), .long (lI 0), .long (lI 0), .long (lI 0), .long (lI 0), .int (iI 0), .int (iI 0), .int (iI 0), .int (iI 0), .ref xa4])), (hout, .inl (k 1, 1, .inr (.inl (aL aZ))))] sz) (va_Qi (fun (r : Int32) (_ : Unit) => r = iI 2) (QB (dC, dI) [(h0, .inr (10, [.ref hn, .ref g1, .ref g2, .ref hea, .ref g3, .ref g4, .ref g5, .ref g6, .ref g7, .int (iI 0), .int (iI 0), .int (iI 0), .int (iI (-1)), .int (iI (-1)), .int (iI 0)])), (hn, .inr (2, [.ref xa1, .ref xa2, .ref xa3, .ref xa5, .ref xa8, .int (iI 0), .int (iI 0), .int (iI 0)])), (xa3, .inr (7, [.int (iI 0), .int (iI 0), .int (iI 0), .long (lI 0), .int (iI 0), .int (iI 0), .int (iI 0), .long (lI 0), .long (lI 0), .long (lI 0), .long (lI 0), .long (lI 0), .int (iI 0), .int (iI 0), .int (iI 0), .int (iI 0), .ref xa4])), (hout, .inl (k 1, 1, .inr (.inl (aL aZ))))] (fun _ => []) sz) (va_A [(h0, .inr (10, [.ref hn, .ref g1, .ref g2, .ref hea, .ref g3, .ref g4, .ref g5, .ref g6, .ref g7, .int (iI 0), .int (iI 0), .int (iI 0), .int (iI (-1)), .int (iI (-1)), .int (iI 0)])), (hn, .inr (2, [.ref xa1, .ref xa2, .ref xa3, .ref xa5, .ref xa8, .int (iI 0), .int (iI 0), .int (iI 0)])), (xa3, .inr (7, [.int (iI 0), .int (iI 0), .int (iI 0), .long (lI 0), .int (iI 0), .int (iI 0), .int (iI 0), .long (lI 0), .long (lI 0), .long (lI 0), .long (lI 0), .long (lI 0), .int (iI 0), .int (iI 0), .int (iI 0), .int (iI 0), .ref xa4])), (hout, .inl (k 1, 1, .inr (.inl (aL aZ))))] sz)) 1 6 (va_A [(h0, .inr (10, [.ref hn, .ref g1, .ref g2, .ref hea, .ref g3, .ref g4, .ref g5, .ref g6, .ref g7, .int (iI 0), .int (iI 0), .int (iI 0), .int (iI (-1)), .int (iI (-1)), .int (iI 0)])), (hn, .inr (2, [.ref xa1, .ref xa2, .ref xa3, .ref xa5, .ref xa8, .int (iI 0), .int (iI 0), .int (iI 0)])), (xa3, .inr (7, [.int (iI 0), .int (iI 0), .int (iI 0), .long (lI 0), .int (iI 0), .int (iI 0), .int (iI 0), .long (lI 0), .long (lI 0), .long (lI 0), .long (lI 0), .long (lI 0), .int (iI 0), .int (iI 0), .int (iI 0), .int (iI 0), .ref xa4])), (hout, .inl (k 1, 1, .inr (.inl (aL aZ))))] sz) := by
  refine Met_ofWH (cc := cL_installmentFor) (maxL := 4) (ret := (some .int)) (by decide) rfl ?_
  intro p e s mI args below meth cO s₁ B hml hv
  obtain ⟨rfl, rfl, hP, hD0, hE⟩ := hv
  have hx := B.exec
  have hb := B.bytes
  have hr := B.returns
  have hts := atoms_spec (ws := woL_installmentFor) B.pre
  have hown : s.vm.findClass RL = some mI.cls := findClass_of_methodNamed B.named
  have hlocks := B.notSynchronized
  have htab := vx_table (x := yL_installmentFor) B (hts (.codeWith yL_installmentFor cL_installmentFor 4 (some .int) [(0, 9, 12, 13), (0, 9, 15, 19)]) List.mem_cons_self)
  have hD := hD0.self (sz := s.heap.size)
  generalize hAe : va_A [(h0, .inr (10, [.ref hn, .ref g1, .ref g2, .ref hea, .ref g3, .ref g4, .ref g5, .ref g6, .ref g7, .int (iI 0), .int (iI 0), .int (iI 0), .int (iI (-1)), .int (iI (-1)), .int (iI 0)])), (hn, .inr (2, [.ref xa1, .ref xa2, .ref xa3, .ref xa5, .ref xa8, .int (iI 0), .int (iI 0), .int (iI 0)])), (xa3, .inr (7, [.int (iI 0), .int (iI 0), .int (iI 0), .long (lI 0), .int (iI 0), .int (iI 0), .int (iI 0), .long (lI 0), .long (lI 0), .long (lI 0), .long (lI 0), .long (lI 0), .int (iI 0), .int (iI 0), .int (iI 0), .int (iI 0), .ref xa4])), (hout, .inl (k 1, 1, .inr (.inl (aL aZ))))] s.heap.size = A at hD hE ⊢
  have hA : ∀ q : Nat, s.heap.size ≤ q → A q := fun q h => by rw [← hAe]; exact Or.inr h
  have hS : va_S A s.heap s.heap [] := va_S.rf
  obtain ⟨hK, hNw, hNc, hZs, hAO1, hAO2⟩ := id hE
  have hSF : CallFix p mI cO cL_installmentFor 4 s ([.ref h0, .int (iI xv), .ref hout] : List Value).toArray woL_installmentFor RL := ⟨hx, hb, hml, hown, hts⟩
  have hl := lv_entry ([.ref h0, .int (iI xv), .ref hout] : List Value) (n := 4) (Nat.le_of_ble_eq_true rfl)
  rw [lg_entry_eq]
  generalize (lg_sl ([.ref h0, .int (iI xv), .ref hout] : List Value) ++ List.replicate (4 - (lg_sl ([.ref h0, .int (iI xv), .ref hout] : List Value)).length) Slot.unset).toArray = ls at hl ⊢
  have hl : lv_has ls 4 [(0, .ref h0), (1, .int (iI xv)), (2, .ref hout)] := hl
  refine W_gen (fun Q hQ => ?_)
  change W p l e ({ frames := 7, cells := 1, slots := 6, locals := 102 } : Room) s mI _ below meth cO s.heap [] 0 0 Q _
  have hP : va_P (dC, dI) vwCl [(h0, .inr (10, [.ref hn, .ref g1, .ref g2, .ref hea, .ref g3, .ref g4, .ref g5, .ref g6, .ref g7, .int (iI 0), .int (iI 0), .int (iI 0), .int (iI (-1)), .int (iI (-1)), .int (iI 0)])), (hn, .inr (2, [.ref xa1, .ref xa2, .ref xa3, .ref xa5, .ref xa8, .int (iI 0), .int (iI 0), .int (iI 0)])), (xa3, .inr (7, [.int (iI 0), .int (iI 0), .int (iI 0), .long (lI 0), .int (iI 0), .int (iI 0), .int (iI 0), .long (lI 0), .long (lI 0), .long (lI 0), .long (lI 0), .long (lI 0), .int (iI 0), .int (iI 0), .int (iI 0), .int (iI 0), .ref xa4])), (hout, .inl (k 1, 1, .inr (.inl (aL aZ))))] s.heap := hP
  refine lv_aload_n hx hb dL_installmentFor_0 rfl (lv_at hl 2 rfl) ?_
  refine q_iconst hx hb dL_installmentFor_1 ?_
  refine lv_aload_n hx hb dL_installmentFor_2 rfl (lv_at hl 0 rfl) ?_
  refine lv_iload_n hx hb dL_installmentFor_3 rfl (lv_at hl 1 rfl) ?_
  refine kxi (vx_runV (As := [.int (iI xv)]) (rest := [.int (iI 0), .ref hout]) hSF ((c_X10_installmentFor_2 l hl0 dC dI k h0 hn g1 g2 hea g3 g4 g5 g6 g7 xa1 xa2 xa3 xa4 xa5 0 0 xa8 0 0 0 xv (by omega) (by omega)) s.heap.size) (cwV 1 hts gL_installmentFor_X10_installmentFor rfl rfl rfl (by decide +kernel) ⟨Nat.le_of_ble_eq_true rfl, Nat.le_of_ble_eq_true rfl⟩) (preV hP hD hE hS hA [0, 1, 2] rfl (by decide) (ci := 10) (q0 := 0) rfl rfl) rfl rfl hl.1 rfl (lv_room (Nat.le_of_ble_eq_true rfl)) dL_installmentFor_4 ⟨Nat.le_of_ble_eq_true rfl, Nat.le_of_ble_eq_true rfl⟩) hP hD hS hA [0, 1, 2] [3] rfl (wr := [(hout, .inl (k 1, 1, .inr (.inl (aL aZ))))]) rfl (by decide) (by decide) (fun ce q9 H locs hP hD hS hc9 hv9 hcl => ?_)
  refine vx_catch (own := RL) (name := "java/lang/IllegalStateException") (E := "java/lang/IllegalStateException") hown [⟨0, 9, 12, 13⟩] ⟨0, 9, 15, 19⟩ [] (by rw [htab]; rfl) (fun z hz => by
      simp only [List.mem_cons, List.not_mem_nil, or_false] at hz
      subst hz
      exact Or.inr ⟨by decide, "java/lang/IllegalArgumentException", (hts (.classLink RL 13 "java/lang/IllegalArgumentException") (List.mem_cons_of_mem _ (wl_6 (List.mem_of_getElem? (i := 3) rfl)))), hNc ("java/lang/IllegalStateException", "java/lang/IllegalArgumentException") (List.mem_of_getElem? (i := 5) rfl)⟩) (by decide) (by decide) (hts (.classLink RL 19 "java/lang/IllegalStateException") (List.mem_cons_of_mem _ (wl_16 (List.mem_of_getElem? (i := 7) rfl)))) (va_Nw.use rfl (hNw _ (List.mem_of_getElem? (i := 67) rfl))) hc9 hv9 hcl ?_
  change W p l e _ s mI _ below meth cO H locs _ _ Q (F0 mI 15 ls [.ref q9])
  refine lv_astore_n (lv' := [(3, .ref q9), (0, .ref h0), (1, .int (iI xv)), (2, .ref hout)]) hx hb dL_installmentFor_15 rfl hl (by decide) rfl (fun ls hl => ?_)
  refine q_iconst hx hb dL_installmentFor_16 ?_
  rw [hQ]
  refine W.widen (k := 1) (n := 6) (Nat.le_of_ble_eq_true rfl) (Nat.le_of_ble_eq_true rfl) ?_
  exact W.iret (v := (iI 2)) hx hb hr (fun t ht hW => ⟨⟨(iI 2), (), rfl, rfl, by rw [ht]; exact hP.sub [] rfl, by rw [hAe]; exact hD.sub [] (by decide) rfl⟩, hS.F ht⟩) hS.2.2 dL_installmentFor_17
set_option maxHeartbeats 4000000 in
set_option maxRecDepth 100000 in
/-- the law: append, answered -/
theorem c_L_append_ok (l : Launch) (dC : Nat → ClassId) (dI : Nat → Nat → Nat) (k : Nat → ClassId) (hout : Nat) (h0 hn g1 g2 hea g3 g4 g5 g6 g7 xa1 xa2 xa3 xa4 xa5 xa6 xa7 xa8 xa9 xa10 xa11 xt1 xt2 xt3 : Nat) (xv : Int) (hv : 32 ≤ xv ∧ xv ≤ 126) (sz : Nat) : Met l yL_append woL_append ({ frames := 2, cells := 0, slots := 0, locals := 43 } : Room) (PcW (dC, dI) k [.ref h0, .int (iI xv), .ref hout] [(h0, .inr (10, [.ref hn, .ref g1, .ref g2, .ref hea, .ref g3, .ref g4, .ref g5, .ref g6, .ref g7, .int (iI 0), .int (iI 0), .int (iI 0), .int (iI (-1)), .int (iI (-1)), .int (iI 0)])), (g6, .inr (5, [.ref xt1, .int (iI 0), .ref xt2, .ref xt3, .int (iI 0)])), (xt1, .inl (k 2, 60, .inl (aI aZ))), (hout, .inl (k 1, 1, .inr (.inl (aL aZ))))] sz) (va_Qi (fun (r : Int32) (_ : Unit) => r = iI 0) (QB (dC, dI) [(h0, .inr (10, [.ref hn, .ref g1, .ref g2, .ref hea, .ref g3, .ref g4, .ref g5, .ref g6, .ref g7, .int (iI 0), .int (iI 0), .int (iI 0), .int (iI (-1)), .int (iI (-1)), .int (iI 0)])), (g6, .inr (5, [.ref xt1, .int (iI 0), .ref xt2, .ref xt3, .int (iI 0)])), (xt1, .inl (k 2, 60, .inl (aI aZ))), (hout, .inl (k 1, 1, .inr (.inl (aL aZ))))] (fun _ => [(hout, .inl (k 1, 1, .inr (.inl (aL (upI aZ 0 1)))))]) sz) (va_A [(h0, .inr (10, [.ref hn, .ref g1, .ref g2, .ref hea, .ref g3, .ref g4, .ref g5, .ref g6, .ref g7, .int (iI 0), .int (iI 0), .int (iI 0), .int (iI (-1)), .int (iI (-1)), .int (iI 0)])), (g6, .inr (5, [.ref xt1, .int (iI 0), .ref xt2, .ref xt3, .int (iI 0)])), (xt1, .inl (k 2, 60, .inl (aI aZ))), (hout, .inl (k 1, 1, .inr (.inl (aL aZ))))] sz)) 0 0 (va_A [(h0, .inr (10, [.ref hn, .ref g1, .ref g2, .ref hea, .ref g3, .ref g4, .ref g5, .ref g6, .ref g7, .int (iI 0), .int (iI 0), .int (iI 0), .int (iI (-1)), .int (iI (-1)), .int (iI 0)])), (g6, .inr (5, [.ref xt1, .int (iI 0), .ref xt2, .ref xt3, .int (iI 0)])), (xt1, .inl (k 2, 60, .inl (aI aZ))), (hout, .inl (k 1, 1, .inr (.inl (aL aZ))))] sz) := by
  refine Met_ofWH (cc := cL_append) (maxL := 4) (ret := (some .int)) (by decide) rfl ?_
  intro p e s mI args below meth cO s₁ B hml hv
  obtain ⟨rfl, rfl, hP, hD0, hE⟩ := hv
  have hx := B.exec
  have hb := B.bytes
  have hr := B.returns
  have hts := atoms_spec (ws := woL_append) B.pre
  have hown : s.vm.findClass RL = some mI.cls := findClass_of_methodNamed B.named
  have hlocks := B.notSynchronized
  have htab := vx_table (x := yL_append) B (hts (.codeWith yL_append cL_append 4 (some .int) [(0, 9, 12, 13), (0, 9, 15, 19)]) List.mem_cons_self)
  have hD := hD0.self (sz := s.heap.size)
  generalize hAe : va_A [(h0, .inr (10, [.ref hn, .ref g1, .ref g2, .ref hea, .ref g3, .ref g4, .ref g5, .ref g6, .ref g7, .int (iI 0), .int (iI 0), .int (iI 0), .int (iI (-1)), .int (iI (-1)), .int (iI 0)])), (g6, .inr (5, [.ref xt1, .int (iI 0), .ref xt2, .ref xt3, .int (iI 0)])), (xt1, .inl (k 2, 60, .inl (aI aZ))), (hout, .inl (k 1, 1, .inr (.inl (aL aZ))))] s.heap.size = A at hD hE ⊢
  have hA : ∀ q : Nat, s.heap.size ≤ q → A q := fun q h => by rw [← hAe]; exact Or.inr h
  have hS : va_S A s.heap s.heap [] := va_S.rf
  obtain ⟨hK, hNw, hNc, hZs, hAO1, hAO2⟩ := id hE
  have hSF : CallFix p mI cO cL_append 4 s ([.ref h0, .int (iI xv), .ref hout] : List Value).toArray woL_append RL := ⟨hx, hb, hml, hown, hts⟩
  have hl := lv_entry ([.ref h0, .int (iI xv), .ref hout] : List Value) (n := 4) (Nat.le_of_ble_eq_true rfl)
  rw [lg_entry_eq]
  generalize (lg_sl ([.ref h0, .int (iI xv), .ref hout] : List Value) ++ List.replicate (4 - (lg_sl ([.ref h0, .int (iI xv), .ref hout] : List Value)).length) Slot.unset).toArray = ls at hl ⊢
  have hl : lv_has ls 4 [(0, .ref h0), (1, .int (iI xv)), (2, .ref hout)] := hl
  refine W_gen (fun Q hQ => ?_)
  change W p l e ({ frames := 2, cells := 0, slots := 0, locals := 43 } : Room) s mI _ below meth cO s.heap [] 0 0 Q _
  have hP : va_P (dC, dI) vwCl [(h0, .inr (10, [.ref hn, .ref g1, .ref g2, .ref hea, .ref g3, .ref g4, .ref g5, .ref g6, .ref g7, .int (iI 0), .int (iI 0), .int (iI 0), .int (iI (-1)), .int (iI (-1)), .int (iI 0)])), (g6, .inr (5, [.ref xt1, .int (iI 0), .ref xt2, .ref xt3, .int (iI 0)])), (xt1, .inl (k 2, 60, .inl (aI aZ))), (hout, .inl (k 1, 1, .inr (.inl (aL aZ))))] s.heap := hP
  refine lv_aload_n hx hb dL_append_0 rfl (lv_at hl 2 rfl) ?_
  refine q_iconst hx hb dL_append_1 ?_
  refine lv_aload_n hx hb dL_append_2 rfl (lv_at hl 0 rfl) ?_
  refine lv_iload_n hx hb dL_append_3 rfl (lv_at hl 1 rfl) ?_
  refine ki (va_runV (As := [.int (iI xv)]) (rest := [.int (iI 0), .ref hout]) hSF ((c_X10_append_ok l dC dI k h0 hn g1 g2 hea g3 g4 g5 g6 g7 0 0 0 0 0 0 0 0 0 0 0 xt1 xt2 xt3 xv (by omega)) s.heap.size) (cwV 1 hts gL_append_X10_append rfl rfl rfl (by decide +kernel) ⟨Nat.le_of_ble_eq_true rfl, Nat.le_of_ble_eq_true rfl⟩) (preV hP hD hE hS hA [0, 1, 2] rfl (by decide) (ci := 10) (q0 := 0) rfl rfl) rfl rfl hl.1 rfl (lv_room (Nat.le_of_ble_eq_true rfl)) dL_append_4 ⟨Nat.le_of_ble_eq_true rfl, Nat.le_of_ble_eq_true rfl⟩) hP hD hS hA [0, 1, 2] [3] rfl (wr := [(hout, .inl (k 1, 1, .inr (.inl (aL aZ))))]) rfl (by decide) (by decide) (fun r4 _ H locs hw hP hD hS => ?_)
  obtain rfl : r4 = (iI 1) := hw
  have hP : va_P (dC, dI) vwCl [(hout, .inl (k 1, 1, .inr (.inl (aL aZ))))] H := hP
  have hD : va_D A [(hout, .inl (k 1, 1, .inr (.inl (aL aZ))))] := hD
  refine q_i2l hx hb dL_append_7 (by omega) ?_
  refine q_last (G := (upI aZ 0 1)) hx hb hK hP hD hS 0 1 rfl rfl (by omega) rfl dL_append_8 (fun H locs hP hD hS => ?_)
  have hP : va_P (dC, dI) vwCl [(hout, .inl (k 1, 1, .inr (.inl (aL (upI aZ 0 1)))))] H := hP
  have hD : va_D A [(hout, .inl (k 1, 1, .inr (.inl (aL (upI aZ 0 1)))))] := hD
  refine lv_goto (tgt := 18) hx hb dL_append_9 (by decide) ?_
  refine q_iconst hx hb dL_append_18 ?_
  rw [hQ]
  refine W.widen (k := 0) (n := 0) (Nat.le_of_ble_eq_true rfl) (Nat.le_of_ble_eq_true rfl) ?_
  exact W.iret (v := (iI 0)) hx hb hr (fun t ht hW => ⟨⟨(iI 0), (), rfl, rfl, by rw [ht]; exact hP.sub [0] rfl, by rw [hAe]; exact hD.sub [0] (by decide) rfl⟩, hS.F ht⟩) hS.2.2 dL_append_19
set_option maxHeartbeats 4000000 in
set_option maxRecDepth 100000 in
/-- the law: append, refused -/
theorem c_L_append_x (l : Launch) (hl0 : l.stackTraces = false) (dC : Nat → ClassId) (dI : Nat → Nat → Nat) (k : Nat → ClassId) (hout : Nat) (h0 hn g1 g2 hea g3 g4 g5 g6 g7 xa1 xa2 xa3 xa4 xa5 xa6 xa7 xa8 xa9 xa10 xa11 : Nat) (xv : Int) (hv9 : -2147483648 ≤ xv ∧ xv ≤ 2147483647) (hv : ¬ (32 ≤ xv ∧ xv ≤ 126)) (sz : Nat) : Met l yL_append woL_append ({ frames := 7, cells := 1, slots := 6, locals := 102 } : Room) (PcW (dC, dI) k [.ref h0, .int (iI xv), .ref hout] [(h0, .inr (10, [.ref hn, .ref g1, .ref g2, .ref hea, .ref g3, .ref g4, .ref g5, .ref g6, .ref g7, .int (iI 0), .int (iI 0), .int (iI 0), .int (iI (-1)), .int (iI (-1)), .int (iI 0)])), (hout, .inl (k 1, 1, .inr (.inl (aL aZ))))] sz) (va_Qi (fun (r : Int32) (_ : Unit) => r = iI 1) (QB (dC, dI) [(h0, .inr (10, [.ref hn, .ref g1, .ref g2, .ref hea, .ref g3, .ref g4, .ref g5, .ref g6, .ref g7, .int (iI 0), .int (iI 0), .int (iI 0), .int (iI (-1)), .int (iI (-1)), .int (iI 0)])), (hout, .inl (k 1, 1, .inr (.inl (aL aZ))))] (fun _ => []) sz) (va_A [(h0, .inr (10, [.ref hn, .ref g1, .ref g2, .ref hea, .ref g3, .ref g4, .ref g5, .ref g6, .ref g7, .int (iI 0), .int (iI 0), .int (iI 0), .int (iI (-1)), .int (iI (-1)), .int (iI 0)])), (hout, .inl (k 1, 1, .inr (.inl (aL aZ))))] sz)) 1 6 (va_A [(h0, .inr (10, [.ref hn, .ref g1, .ref g2, .ref hea, .ref g3, .ref g4, .ref g5, .ref g6, .ref g7, .int (iI 0), .int (iI 0), .int (iI 0), .int (iI (-1)), .int (iI (-1)), .int (iI 0)])), (hout, .inl (k 1, 1, .inr (.inl (aL aZ))))] sz) := by
  refine Met_ofWH (cc := cL_append) (maxL := 4) (ret := (some .int)) (by decide) rfl ?_
  intro p e s mI args below meth cO s₁ B hml hv
  obtain ⟨rfl, rfl, hP, hD0, hE⟩ := hv
  have hx := B.exec
  have hb := B.bytes
  have hr := B.returns
  have hts := atoms_spec (ws := woL_append) B.pre
  have hown : s.vm.findClass RL = some mI.cls := findClass_of_methodNamed B.named
  have hlocks := B.notSynchronized
  have htab := vx_table (x := yL_append) B (hts (.codeWith yL_append cL_append 4 (some .int) [(0, 9, 12, 13), (0, 9, 15, 19)]) List.mem_cons_self)
  have hD := hD0.self (sz := s.heap.size)
  generalize hAe : va_A [(h0, .inr (10, [.ref hn, .ref g1, .ref g2, .ref hea, .ref g3, .ref g4, .ref g5, .ref g6, .ref g7, .int (iI 0), .int (iI 0), .int (iI 0), .int (iI (-1)), .int (iI (-1)), .int (iI 0)])), (hout, .inl (k 1, 1, .inr (.inl (aL aZ))))] s.heap.size = A at hD hE ⊢
  have hA : ∀ q : Nat, s.heap.size ≤ q → A q := fun q h => by rw [← hAe]; exact Or.inr h
  have hS : va_S A s.heap s.heap [] := va_S.rf
  obtain ⟨hK, hNw, hNc, hZs, hAO1, hAO2⟩ := id hE
  have hSF : CallFix p mI cO cL_append 4 s ([.ref h0, .int (iI xv), .ref hout] : List Value).toArray woL_append RL := ⟨hx, hb, hml, hown, hts⟩
  have hl := lv_entry ([.ref h0, .int (iI xv), .ref hout] : List Value) (n := 4) (Nat.le_of_ble_eq_true rfl)
  rw [lg_entry_eq]
  generalize (lg_sl ([.ref h0, .int (iI xv), .ref hout] : List Value) ++ List.replicate (4 - (lg_sl ([.ref h0, .int (iI xv), .ref hout] : List Value)).length) Slot.unset).toArray = ls at hl ⊢
  have hl : lv_has ls 4 [(0, .ref h0), (1, .int (iI xv)), (2, .ref hout)] := hl
  refine W_gen (fun Q hQ => ?_)
  change W p l e ({ frames := 7, cells := 1, slots := 6, locals := 102 } : Room) s mI _ below meth cO s.heap [] 0 0 Q _
  have hP : va_P (dC, dI) vwCl [(h0, .inr (10, [.ref hn, .ref g1, .ref g2, .ref hea, .ref g3, .ref g4, .ref g5, .ref g6, .ref g7, .int (iI 0), .int (iI 0), .int (iI 0), .int (iI (-1)), .int (iI (-1)), .int (iI 0)])), (hout, .inl (k 1, 1, .inr (.inl (aL aZ))))] s.heap := hP
  refine lv_aload_n hx hb dL_append_0 rfl (lv_at hl 2 rfl) ?_
  refine q_iconst hx hb dL_append_1 ?_
  refine lv_aload_n hx hb dL_append_2 rfl (lv_at hl 0 rfl) ?_
  refine lv_iload_n hx hb dL_append_3 rfl (lv_at hl 1 rfl) ?_
  refine kxi (vx_runV (As := [.int (iI xv)]) (rest := [.int (iI 0), .ref hout]) hSF ((c_X10_append_x l hl0 dC dI k h0 hn g1 g2 hea g3 g4 g5 g6 g7 0 0 0 0 0 0 0 0 0 0 0 xv (by omega) (by omega)) s.heap.size) (cwV 1 hts gL_append_X10_append rfl rfl rfl (by decide +kernel) ⟨Nat.le_of_ble_eq_true rfl, Nat.le_of_ble_eq_true rfl⟩) (preV hP hD hE hS hA [0] rfl (by decide) (ci := 10) (q0 := 0) rfl rfl) rfl rfl hl.1 rfl (lv_room (Nat.le_of_ble_eq_true rfl)) dL_append_4 ⟨Nat.le_of_ble_eq_true rfl, Nat.le_of_ble_eq_true rfl⟩) hP hD hS hA [0] [1] rfl (wr := [(hout, .inl (k 1, 1, .inr (.inl (aL aZ))))]) rfl (by decide) (by decide) (fun ce q9 H locs hP hD hS hc9 hv9 hcl => ?_)
  refine vx_catch (own := RL) (name := "java/lang/IllegalArgumentException") (E := "java/lang/IllegalArgumentException") hown [] ⟨0, 9, 12, 13⟩ [⟨0, 9, 15, 19⟩] (by rw [htab]; rfl) (fun z hz => by cases hz) (by decide) (by decide) (hts (.classLink RL 13 "java/lang/IllegalArgumentException") (List.mem_cons_of_mem _ (wl_6 (List.mem_of_getElem? (i := 3) rfl)))) (va_Nw.use rfl (hNw _ (List.mem_of_getElem? (i := 66) rfl))) hc9 hv9 hcl ?_
  change W p l e _ s mI _ below meth cO H locs _ _ Q (F0 mI 12 ls [.ref q9])
  refine lv_astore_n (lv' := [(3, .ref q9), (0, .ref h0), (1, .int (iI xv)), (2, .ref hout)]) hx hb dL_append_12 rfl hl (by decide) rfl (fun ls hl => ?_)
  refine q_iconst hx hb dL_append_13 ?_
  rw [hQ]
  refine W.widen (k := 1) (n := 6) (Nat.le_of_ble_eq_true rfl) (Nat.le_of_ble_eq_true rfl) ?_
  exact W.iret (v := (iI 1)) hx hb hr (fun t ht hW => ⟨⟨(iI 1), (), rfl, rfl, by rw [ht]; exact hP.sub [] rfl, by rw [hAe]; exact hD.sub [] (by decide) rfl⟩, hS.F ht⟩) hS.2.2 dL_append_14
set_option maxHeartbeats 4000000 in
set_option maxRecDepth 100000 in
/-- the law: execute, refused -/
theorem c_L_execute (l : Launch) (hl0 : l.stackTraces = false) (dC : Nat → ClassId) (dI : Nat → Nat → Nat) (k : Nat → ClassId) (hout : Nat) (h0 hn g1 g2 hea g3 g4 g5 g6 g7 xa1 xa2 xa3 xa4 xa5 xa6 xa7 xa8 xa9 xa10 xa11 xt1 xt2 xt3 : Nat) (sz : Nat) : Met l yL_execute woL_execute ({ frames := 7, cells := 1, slots := 6, locals := 106 } : Room) (PcW (dC, dI) k [.ref h0, .ref hout] [(h0, .inr (10, [.ref hn, .ref g1, .ref g2, .ref hea, .ref g3, .ref g4, .ref g5, .ref g6, .ref g7, .int (iI 0), .int (iI 0), .int (iI 0), .int (iI (-1)), .int (iI (-1)), .int (iI 0)])), (g6, .inr (5, [.ref xt1, .int (iI 0), .ref xt2, .ref xt3, .int (iI 0)])), (hout, .inl (k 1, 1, .inr (.inl (aL aZ))))] sz) (va_Qi (fun (r : Int32) (_ : Unit) => r = iI 1) (QB (dC, dI) [(h0, .inr (10, [.ref hn, .ref g1, .ref g2, .ref hea, .ref g3, .ref g4, .ref g5, .ref g6, .ref g7, .int (iI 0), .int (iI 0), .int (iI 0), .int (iI (-1)), .int (iI (-1)), .int (iI 0)])), (g6, .inr (5, [.ref xt1, .int (iI 0), .ref xt2, .ref xt3, .int (iI 0)])), (hout, .inl (k 1, 1, .inr (.inl (aL aZ))))] (fun _ => []) sz) (va_A [(h0, .inr (10, [.ref hn, .ref g1, .ref g2, .ref hea, .ref g3, .ref g4, .ref g5, .ref g6, .ref g7, .int (iI 0), .int (iI 0), .int (iI 0), .int (iI (-1)), .int (iI (-1)), .int (iI 0)])), (g6, .inr (5, [.ref xt1, .int (iI 0), .ref xt2, .ref xt3, .int (iI 0)])), (hout, .inl (k 1, 1, .inr (.inl (aL aZ))))] sz)) 1 6 (va_A [(h0, .inr (10, [.ref hn, .ref g1, .ref g2, .ref hea, .ref g3, .ref g4, .ref g5, .ref g6, .ref g7, .int (iI 0), .int (iI 0), .int (iI 0), .int (iI (-1)), .int (iI (-1)), .int (iI 0)])), (g6, .inr (5, [.ref xt1, .int (iI 0), .ref xt2, .ref xt3, .int (iI 0)])), (hout, .inl (k 1, 1, .inr (.inl (aL aZ))))] sz) := by
  refine Met_ofWH (cc := cL_execute) (maxL := 3) (ret := (some .int)) (by decide) rfl ?_
  intro p e s mI args below meth cO s₁ B hml hv
  obtain ⟨rfl, rfl, hP, hD0, hE⟩ := hv
  have hx := B.exec
  have hb := B.bytes
  have hr := B.returns
  have hts := atoms_spec (ws := woL_execute) B.pre
  have hown : s.vm.findClass RL = some mI.cls := findClass_of_methodNamed B.named
  have hlocks := B.notSynchronized
  have htab := vx_table (x := yL_execute) B (hts (.codeWith yL_execute cL_execute 3 (some .int) [(0, 8, 11, 13), (0, 8, 14, 44)]) List.mem_cons_self)
  have hD := hD0.self (sz := s.heap.size)
  generalize hAe : va_A [(h0, .inr (10, [.ref hn, .ref g1, .ref g2, .ref hea, .ref g3, .ref g4, .ref g5, .ref g6, .ref g7, .int (iI 0), .int (iI 0), .int (iI 0), .int (iI (-1)), .int (iI (-1)), .int (iI 0)])), (g6, .inr (5, [.ref xt1, .int (iI 0), .ref xt2, .ref xt3, .int (iI 0)])), (hout, .inl (k 1, 1, .inr (.inl (aL aZ))))] s.heap.size = A at hD hE ⊢
  have hA : ∀ q : Nat, s.heap.size ≤ q → A q := fun q h => by rw [← hAe]; exact Or.inr h
  have hS : va_S A s.heap s.heap [] := va_S.rf
  obtain ⟨hK, hNw, hNc, hZs, hAO1, hAO2⟩ := id hE
  have hSF : CallFix p mI cO cL_execute 3 s ([.ref h0, .ref hout] : List Value).toArray woL_execute RL := ⟨hx, hb, hml, hown, hts⟩
  have hl := lv_entry ([.ref h0, .ref hout] : List Value) (n := 3) (Nat.le_of_ble_eq_true rfl)
  rw [lg_entry_eq]
  generalize (lg_sl ([.ref h0, .ref hout] : List Value) ++ List.replicate (3 - (lg_sl ([.ref h0, .ref hout] : List Value)).length) Slot.unset).toArray = ls at hl ⊢
  have hl : lv_has ls 3 [(0, .ref h0), (1, .ref hout)] := hl
  refine W_gen (fun Q hQ => ?_)
  change W p l e ({ frames := 7, cells := 1, slots := 6, locals := 106 } : Room) s mI _ below meth cO s.heap [] 0 0 Q _
  have hP : va_P (dC, dI) vwCl [(h0, .inr (10, [.ref hn, .ref g1, .ref g2, .ref hea, .ref g3, .ref g4, .ref g5, .ref g6, .ref g7, .int (iI 0), .int (iI 0), .int (iI 0), .int (iI (-1)), .int (iI (-1)), .int (iI 0)])), (g6, .inr (5, [.ref xt1, .int (iI 0), .ref xt2, .ref xt3, .int (iI 0)])), (hout, .inl (k 1, 1, .inr (.inl (aL aZ))))] s.heap := hP
  refine lv_aload_n hx hb dL_execute_0 rfl (lv_at hl 1 rfl) ?_
  refine q_iconst hx hb dL_execute_1 ?_
  refine lv_aload_n hx hb dL_execute_2 rfl (lv_at hl 0 rfl) ?_
  refine kxi (vx_runV (As := []) (rest := [.int (iI 0), .ref hout]) hSF ((c_X10_execute l hl0 dC dI k h0 hn g1 g2 hea g3 g4 g5 g6 g7 0 0 0 0 0 0 0 0 0 0 0 xt1 xt2 xt3) s.heap.size) (cwV 0 hts gL_execute_X10_execute rfl rfl rfl (by decide +kernel) ⟨Nat.le_of_ble_eq_true rfl, Nat.le_of_ble_eq_true rfl⟩) (preV hP hD hE hS hA [0, 1] rfl (by decide) (ci := 10) (q0 := 0) rfl rfl) rfl rfl hl.1 rfl (lv_room (Nat.le_of_ble_eq_true rfl)) dL_execute_3 ⟨Nat.le_of_ble_eq_true rfl, Nat.le_of_ble_eq_true rfl⟩) hP hD hS hA [0, 1] [2] rfl (wr := [(hout, .inl (k 1, 1, .inr (.inl (aL aZ))))]) rfl (by decide) (by decide) (fun ce q9 H locs hP hD hS hc9 hv9 hcl => ?_)
  refine vx_catch (own := RL) (name := "java/lang/IllegalArgumentException") (E := "java/lang/IllegalArgumentException") hown [] ⟨0, 8, 11, 13⟩ [⟨0, 8, 14, 44⟩] (by rw [htab]; rfl) (fun z hz => by cases hz) (by decide) (by decide) (hts (.classLink RL 13 "java/lang/IllegalArgumentException") (List.mem_cons_of_mem _ (wl_6 (List.mem_of_getElem? (i := 3) rfl)))) (va_Nw.use rfl (hNw _ (List.mem_of_getElem? (i := 66) rfl))) hc9 hv9 hcl ?_
  change W p l e _ s mI _ below meth cO H locs _ _ Q (F0 mI 11 ls [.ref q9])
  refine lv_astore_n (lv' := [(2, .ref q9), (0, .ref h0), (1, .ref hout)]) hx hb dL_execute_11 rfl hl (by decide) rfl (fun ls hl => ?_)
  refine q_iconst hx hb dL_execute_12 ?_
  rw [hQ]
  refine W.widen (k := 1) (n := 6) (Nat.le_of_ble_eq_true rfl) (Nat.le_of_ble_eq_true rfl) ?_
  exact W.iret (v := (iI 1)) hx hb hr (fun t ht hW => ⟨⟨(iI 1), (), rfl, rfl, by rw [ht]; exact hP.sub [] rfl, by rw [hAe]; exact hD.sub [] (by decide) rfl⟩, hS.F ht⟩) hS.2.2 dL_execute_13
set_option maxHeartbeats 4000000 in
set_option maxRecDepth 100000 in
/-- the law: errorPosition, refused -/
theorem c_L_errorPosition (l : Launch) (hl0 : l.stackTraces = false) (dC : Nat → ClassId) (dI : Nat → Nat → Nat) (k : Nat → ClassId) (hout : Nat) (h0 hn g1 g2 hea g3 g4 g5 g6 g7 xa1 xa2 xa3 xa4 xa5 xa6 xa7 xa8 xa9 xa10 xa11 : Nat) (sz : Nat) : Met l yL_errorPosition woL_errorPosition ({ frames := 7, cells := 1, slots := 6, locals := 101 } : Room) (PcW (dC, dI) k [.ref h0, .ref hout] [(h0, .inr (10, [.ref hn, .ref g1, .ref g2, .ref hea, .ref g3, .ref g4, .ref g5, .ref g6, .ref g7, .int (iI 0), .int (iI 0), .int (iI 0), .int (iI (-1)), .int (iI (-1)), .int (iI 0)])), (hout, .inl (k 1, 1, .inr (.inl (aL aZ))))] sz) (va_Qi (fun (r : Int32) (_ : Unit) => r = iI 1) (QB (dC, dI) [(h0, .inr (10, [.ref hn, .ref g1, .ref g2, .ref hea, .ref g3, .ref g4, .ref g5, .ref g6, .ref g7, .int (iI 0), .int (iI 0), .int (iI 0), .int (iI (-1)), .int (iI (-1)), .int (iI 0)])), (hout, .inl (k 1, 1, .inr (.inl (aL aZ))))] (fun _ => []) sz) (va_A [(h0, .inr (10, [.ref hn, .ref g1, .ref g2, .ref hea, .ref g3, .ref g4, .ref g5, .ref g6, .ref g7, .int (iI 0), .int (iI 0), .int (iI 0), .int (iI (-1)), .int (iI (-1)), .int (iI 0)])), (hout, .inl (k 1, 1, .inr (.inl (aL aZ))))] sz)) 1 6 (va_A [(h0, .inr (10, [.ref hn, .ref g1, .ref g2, .ref hea, .ref g3, .ref g4, .ref g5, .ref g6, .ref g7, .int (iI 0), .int (iI 0), .int (iI 0), .int (iI (-1)), .int (iI (-1)), .int (iI 0)])), (hout, .inl (k 1, 1, .inr (.inl (aL aZ))))] sz) := by
  refine Met_ofWH (cc := cL_errorPosition) (maxL := 3) (ret := (some .int)) (by decide) rfl ?_
  intro p e s mI args below meth cO s₁ B hml hv
  obtain ⟨rfl, rfl, hP, hD0, hE⟩ := hv
  have hx := B.exec
  have hb := B.bytes
  have hr := B.returns
  have hts := atoms_spec (ws := woL_errorPosition) B.pre
  have hown : s.vm.findClass RL = some mI.cls := findClass_of_methodNamed B.named
  have hlocks := B.notSynchronized
  have htab := vx_table (x := yL_errorPosition) B (hts (.codeWith yL_errorPosition cL_errorPosition 3 (some .int) [(0, 8, 11, 85)]) List.mem_cons_self)
  have hD := hD0.self (sz := s.heap.size)
  generalize hAe : va_A [(h0, .inr (10, [.ref hn, .ref g1, .ref g2, .ref hea, .ref g3, .ref g4, .ref g5, .ref g6, .ref g7, .int (iI 0), .int (iI 0), .int (iI 0), .int (iI (-1)), .int (iI (-1)), .int (iI 0)])), (hout, .inl (k 1, 1, .inr (.inl (aL aZ))))] s.heap.size = A at hD hE ⊢
  have hA : ∀ q : Nat, s.heap.size ≤ q → A q := fun q h => by rw [← hAe]; exact Or.inr h
  have hS : va_S A s.heap s.heap [] := va_S.rf
  obtain ⟨hK, hNw, hNc, hZs, hAO1, hAO2⟩ := id hE
  have hSF : CallFix p mI cO cL_errorPosition 3 s ([.ref h0, .ref hout] : List Value).toArray woL_errorPosition RL := ⟨hx, hb, hml, hown, hts⟩
  have hl := lv_entry ([.ref h0, .ref hout] : List Value) (n := 3) (Nat.le_of_ble_eq_true rfl)
  rw [lg_entry_eq]
  generalize (lg_sl ([.ref h0, .ref hout] : List Value) ++ List.replicate (3 - (lg_sl ([.ref h0, .ref hout] : List Value)).length) Slot.unset).toArray = ls at hl ⊢
  have hl : lv_has ls 3 [(0, .ref h0), (1, .ref hout)] := hl
  refine W_gen (fun Q hQ => ?_)
  change W p l e ({ frames := 7, cells := 1, slots := 6, locals := 101 } : Room) s mI _ below meth cO s.heap [] 0 0 Q _
  have hP : va_P (dC, dI) vwCl [(h0, .inr (10, [.ref hn, .ref g1, .ref g2, .ref hea, .ref g3, .ref g4, .ref g5, .ref g6, .ref g7, .int (iI 0), .int (iI 0), .int (iI 0), .int (iI (-1)), .int (iI (-1)), .int (iI 0)])), (hout, .inl (k 1, 1, .inr (.inl (aL aZ))))] s.heap := hP
  refine lv_aload_n hx hb dL_errorPosition_0 rfl (lv_at hl 1 rfl) ?_
  refine q_iconst hx hb dL_errorPosition_1 ?_
  refine lv_aload_n hx hb dL_errorPosition_2 rfl (lv_at hl 0 rfl) ?_
  refine kxi (vx_runV (As := []) (rest := [.int (iI 0), .ref hout]) hSF ((c_X10_errorPosition l hl0 dC dI k h0 hn g1 g2 hea g3 g4 g5 g6 g7 0 0 0 0 0 0 0 0 0 0 0) s.heap.size) (cwV 0 hts gL_errorPosition_X10_errorPosition rfl rfl rfl (by decide +kernel) ⟨Nat.le_of_ble_eq_true rfl, Nat.le_of_ble_eq_true rfl⟩) (preV hP hD hE hS hA [0] rfl (by decide) (ci := 10) (q0 := 0) rfl rfl) rfl rfl hl.1 rfl (lv_room (Nat.le_of_ble_eq_true rfl)) dL_errorPosition_3 ⟨Nat.le_of_ble_eq_true rfl, Nat.le_of_ble_eq_true rfl⟩) hP hD hS hA [0] [1] rfl (wr := [(hout, .inl (k 1, 1, .inr (.inl (aL aZ))))]) rfl (by decide) (by decide) (fun ce q9 H locs hP hD hS hc9 hv9 hcl => ?_)
  refine vx_catch (own := RL) (name := "java/util/NoSuchElementException") (E := "java/util/NoSuchElementException") hown [] ⟨0, 8, 11, 85⟩ [] (by rw [htab]; rfl) (fun z hz => by cases hz) (by decide) (by decide) (hts (.classLink RL 85 "java/util/NoSuchElementException") (List.mem_cons_of_mem _ (wl_39 (List.mem_of_getElem? (i := 10) rfl)))) (va_Nw.use rfl (hNw _ (List.mem_of_getElem? (i := 69) rfl))) hc9 hv9 hcl ?_
  change W p l e _ s mI _ below meth cO H locs _ _ Q (F0 mI 11 ls [.ref q9])
  refine lv_astore_n (lv' := [(2, .ref q9), (0, .ref h0), (1, .ref hout)]) hx hb dL_errorPosition_11 rfl hl (by decide) rfl (fun ls hl => ?_)
  refine q_iconst hx hb dL_errorPosition_12 ?_
  rw [hQ]
  refine W.widen (k := 1) (n := 6) (Nat.le_of_ble_eq_true rfl) (Nat.le_of_ble_eq_true rfl) ?_
  exact W.iret (v := (iI 1)) hx hb hr (fun t ht hW => ⟨⟨(iI 1), (), rfl, rfl, by rw [ht]; exact hP.sub [] rfl, by rw [hAe]; exact hD.sub [] (by decide) rfl⟩, hS.F ht⟩) hS.2.2 dL_errorPosition_13
set_option maxHeartbeats 4000000 in
set_option maxRecDepth 100000 in
/-- the law: refusedCommand, refused -/
theorem c_L_refusedCommand (l : Launch) (hl0 : l.stackTraces = false) (dC : Nat → ClassId) (dI : Nat → Nat → Nat) (k : Nat → ClassId) (hout : Nat) (h0 hn g1 g2 hea g3 g4 g5 g6 g7 xa1 xa2 xa3 xa4 xa5 xa6 xa7 xa8 xa9 xa10 xa11 : Nat) (xv : Int) (sz : Nat) : Met l yL_refusedCommand woL_refusedCommand ({ frames := 7, cells := 1, slots := 6, locals := 102 } : Room) (PcW (dC, dI) k [.ref h0, .int (iI xv), .ref hout] [(h0, .inr (10, [.ref hn, .ref g1, .ref g2, .ref hea, .ref g3, .ref g4, .ref g5, .ref g6, .ref g7, .int (iI 0), .int (iI 0), .int (iI 0), .int (iI (-1)), .int (iI (-1)), .int (iI 0)])), (hout, .inl (k 1, 1, .inr (.inl (aL aZ))))] sz) (va_Qi (fun (r : Int32) (_ : Unit) => r = iI 1) (QB (dC, dI) [(h0, .inr (10, [.ref hn, .ref g1, .ref g2, .ref hea, .ref g3, .ref g4, .ref g5, .ref g6, .ref g7, .int (iI 0), .int (iI 0), .int (iI 0), .int (iI (-1)), .int (iI (-1)), .int (iI 0)])), (hout, .inl (k 1, 1, .inr (.inl (aL aZ))))] (fun _ => []) sz) (va_A [(h0, .inr (10, [.ref hn, .ref g1, .ref g2, .ref hea, .ref g3, .ref g4, .ref g5, .ref g6, .ref g7, .int (iI 0), .int (iI 0), .int (iI 0), .int (iI (-1)), .int (iI (-1)), .int (iI 0)])), (hout, .inl (k 1, 1, .inr (.inl (aL aZ))))] sz)) 1 6 (va_A [(h0, .inr (10, [.ref hn, .ref g1, .ref g2, .ref hea, .ref g3, .ref g4, .ref g5, .ref g6, .ref g7, .int (iI 0), .int (iI 0), .int (iI 0), .int (iI (-1)), .int (iI (-1)), .int (iI 0)])), (hout, .inl (k 1, 1, .inr (.inl (aL aZ))))] sz) := by
  refine Met_ofWH (cc := cL_refusedCommand) (maxL := 4) (ret := (some .int)) (by decide) rfl ?_
  intro p e s mI args below meth cO s₁ B hml hv
  obtain ⟨rfl, rfl, hP, hD0, hE⟩ := hv
  have hx := B.exec
  have hb := B.bytes
  have hr := B.returns
  have hts := atoms_spec (ws := woL_refusedCommand) B.pre
  have hown : s.vm.findClass RL = some mI.cls := findClass_of_methodNamed B.named
  have hlocks := B.notSynchronized
  have htab := vx_table (x := yL_refusedCommand) B (hts (.codeWith yL_refusedCommand cL_refusedCommand 4 (some .int) [(0, 9, 12, 85)]) List.mem_cons_self)
  have hD := hD0.self (sz := s.heap.size)
  generalize hAe : va_A [(h0, .inr (10, [.ref hn, .ref g1, .ref g2, .ref hea, .ref g3, .ref g4, .ref g5, .ref g6, .ref g7, .int (iI 0), .int (iI 0), .int (iI 0), .int (iI (-1)), .int (iI (-1)), .int (iI 0)])), (hout, .inl (k 1, 1, .inr (.inl (aL aZ))))] s.heap.size = A at hD hE ⊢
  have hA : ∀ q : Nat, s.heap.size ≤ q → A q := fun q h => by rw [← hAe]; exact Or.inr h
  have hS : va_S A s.heap s.heap [] := va_S.rf
  obtain ⟨hK, hNw, hNc, hZs, hAO1, hAO2⟩ := id hE
  have hSF : CallFix p mI cO cL_refusedCommand 4 s ([.ref h0, .int (iI xv), .ref hout] : List Value).toArray woL_refusedCommand RL := ⟨hx, hb, hml, hown, hts⟩
  have hl := lv_entry ([.ref h0, .int (iI xv), .ref hout] : List Value) (n := 4) (Nat.le_of_ble_eq_true rfl)
  rw [lg_entry_eq]
  generalize (lg_sl ([.ref h0, .int (iI xv), .ref hout] : List Value) ++ List.replicate (4 - (lg_sl ([.ref h0, .int (iI xv), .ref hout] : List Value)).length) Slot.unset).toArray = ls at hl ⊢
  have hl : lv_has ls 4 [(0, .ref h0), (1, .int (iI xv)), (2, .ref hout)] := hl
  refine W_gen (fun Q hQ => ?_)
  change W p l e ({ frames := 7, cells := 1, slots := 6, locals := 102 } : Room) s mI _ below meth cO s.heap [] 0 0 Q _
  have hP : va_P (dC, dI) vwCl [(h0, .inr (10, [.ref hn, .ref g1, .ref g2, .ref hea, .ref g3, .ref g4, .ref g5, .ref g6, .ref g7, .int (iI 0), .int (iI 0), .int (iI 0), .int (iI (-1)), .int (iI (-1)), .int (iI 0)])), (hout, .inl (k 1, 1, .inr (.inl (aL aZ))))] s.heap := hP
  refine lv_aload_n hx hb dL_refusedCommand_0 rfl (lv_at hl 2 rfl) ?_
  refine q_iconst hx hb dL_refusedCommand_1 ?_
  refine lv_aload_n hx hb dL_refusedCommand_2 rfl (lv_at hl 0 rfl) ?_
  refine lv_iload_n hx hb dL_refusedCommand_3 rfl (lv_at hl 1 rfl) ?_
  refine kxi (vx_runV (As := [.int (iI xv)]) (rest := [.int (iI 0), .ref hout]) hSF ((c_X10_refusedCommand l hl0 dC dI k h0 hn g1 g2 hea g3 g4 g5 g6 g7 0 0 0 0 0 0 0 0 0 0 0 xv) s.heap.size) (cwV 1 hts gL_refusedCommand_X10_refusedCommand rfl rfl rfl (by decide +kernel) ⟨Nat.le_of_ble_eq_true rfl, Nat.le_of_ble_eq_true rfl⟩) (preV hP hD hE hS hA [0] rfl (by decide) (ci := 10) (q0 := 0) rfl rfl) rfl rfl hl.1 rfl (lv_room (Nat.le_of_ble_eq_true rfl)) dL_refusedCommand_4 ⟨Nat.le_of_ble_eq_true rfl, Nat.le_of_ble_eq_true rfl⟩) hP hD hS hA [0] [1] rfl (wr := [(hout, .inl (k 1, 1, .inr (.inl (aL aZ))))]) rfl (by decide) (by decide) (fun ce q9 H locs hP hD hS hc9 hv9 hcl => ?_)
  refine vx_catch (own := RL) (name := "java/util/NoSuchElementException") (E := "java/util/NoSuchElementException") hown [] ⟨0, 9, 12, 85⟩ [] (by rw [htab]; rfl) (fun z hz => by cases hz) (by decide) (by decide) (hts (.classLink RL 85 "java/util/NoSuchElementException") (List.mem_cons_of_mem _ (wl_39 (List.mem_of_getElem? (i := 10) rfl)))) (va_Nw.use rfl (hNw _ (List.mem_of_getElem? (i := 69) rfl))) hc9 hv9 hcl ?_
  change W p l e _ s mI _ below meth cO H locs _ _ Q (F0 mI 12 ls [.ref q9])
  refine lv_astore_n (lv' := [(3, .ref q9), (0, .ref h0), (1, .int (iI xv)), (2, .ref hout)]) hx hb dL_refusedCommand_12 rfl hl (by decide) rfl (fun ls hl => ?_)
  refine q_iconst hx hb dL_refusedCommand_13 ?_
  rw [hQ]
  refine W.widen (k := 1) (n := 6) (Nat.le_of_ble_eq_true rfl) (Nat.le_of_ble_eq_true rfl) ?_
  exact W.iret (v := (iI 1)) hx hb hr (fun t ht hW => ⟨⟨(iI 1), (), rfl, rfl, by rw [ht]; exact hP.sub [] rfl, by rw [hAe]; exact hD.sub [] (by decide) rfl⟩, hS.F ht⟩) hS.2.2 dL_refusedCommand_14
set_option maxHeartbeats 4000000 in
set_option maxRecDepth 100000 in
/-- the law: ledger, refused -/
theorem c_L_ledger (l : Launch) (hl0 : l.stackTraces = false) (dC : Nat → ClassId) (dI : Nat → Nat → Nat) (k : Nat → ClassId) (hout : Nat) (h0 hn g1 g2 hea g3 g4 g5 g6 g7 xa1 xa2 xa3 xa4 xa5 xa6 xa7 xa8 xa9 xa10 xa11 : Nat) (xv xw9 : Int) (hv9 : -2147483648 ≤ xv ∧ xv ≤ 2147483647 ∧ -2147483648 ≤ xw9 ∧ xw9 ≤ 2147483647) (sz : Nat) : Met l yL_ledger woL_ledger ({ frames := 7, cells := 1, slots := 6, locals := 103 } : Room) (PcW (dC, dI) k [.ref h0, .int (iI xv), .int (iI xw9), .ref hout] [(h0, .inr (10, [.ref hn, .ref g1, .ref g2, .ref hea, .ref g3, .ref g4, .ref g5, .ref g6, .ref g7, .int (iI 0), .int (iI 0), .int (iI 0), .int (iI (-1)), .int (iI (-1)), .int (iI 0)])), (hn, .inr (2, [.ref xa1, .ref xa2, .ref xa3, .ref xa5, .ref xa8, .int (iI 0), .int (iI 0), .int (iI 0)])), (xa8, .inr (6, [.ref xa9, .ref xa10, .ref xa11, .int (iI 0), .int (iI 0)])), (hout, .inl (k 1, 1, .inr (.inl (aL aZ))))] sz) (va_Qi (fun (r : Int32) (_ : Unit) => r = iI 1) (QB (dC, dI) [(h0, .inr (10, [.ref hn, .ref g1, .ref g2, .ref hea, .ref g3, .ref g4, .ref g5, .ref g6, .ref g7, .int (iI 0), .int (iI 0), .int (iI 0), .int (iI (-1)), .int (iI (-1)), .int (iI 0)])), (hn, .inr (2, [.ref xa1, .ref xa2, .ref xa3, .ref xa5, .ref xa8, .int (iI 0), .int (iI 0), .int (iI 0)])), (xa8, .inr (6, [.ref xa9, .ref xa10, .ref xa11, .int (iI 0), .int (iI 0)])), (hout, .inl (k 1, 1, .inr (.inl (aL aZ))))] (fun _ => []) sz) (va_A [(h0, .inr (10, [.ref hn, .ref g1, .ref g2, .ref hea, .ref g3, .ref g4, .ref g5, .ref g6, .ref g7, .int (iI 0), .int (iI 0), .int (iI 0), .int (iI (-1)), .int (iI (-1)), .int (iI 0)])), (hn, .inr (2, [.ref xa1, .ref xa2, .ref xa3, .ref xa5, .ref xa8, .int (iI 0), .int (iI 0), .int (iI 0)])), (xa8, .inr (6, [.ref xa9, .ref xa10, .ref xa11, .int (iI 0), .int (iI 0)])), (hout, .inl (k 1, 1, .inr (.inl (aL aZ))))] sz)) 1 6 (va_A [(h0, .inr (10, [.ref hn, .ref g1, .ref g2, .ref hea, .ref g3, .ref g4, .ref g5, .ref g6, .ref g7, .int (iI 0), .int (iI 0), .int (iI 0), .int (iI (-1)), .int (iI (-1)), .int (iI 0)])), (hn, .inr (2, [.ref xa1, .ref xa2, .ref xa3, .ref xa5, .ref xa8, .int (iI 0), .int (iI 0), .int (iI 0)])), (xa8, .inr (6, [.ref xa9, .ref xa10, .ref xa11, .int (iI 0), .int (iI 0)])), (hout, .inl (k 1, 1, .inr (.inl (aL aZ))))] sz) := by
  refine Met_ofWH (cc := cL_ledger) (maxL := 5) (ret := (some .int)) (by decide) rfl ?_
  intro p e s mI args below meth cO s₁ B hml hv
  obtain ⟨rfl, rfl, hP, hD0, hE⟩ := hv
  have hx := B.exec
  have hb := B.bytes
  have hr := B.returns
  have hts := atoms_spec (ws := woL_ledger) B.pre
  have hown : s.vm.findClass RL = some mI.cls := findClass_of_methodNamed B.named
  have hlocks := B.notSynchronized
  have htab := vx_table (x := yL_ledger) B (hts (.codeWith yL_ledger cL_ledger 5 (some .int) [(0, 10, 13, 32)]) List.mem_cons_self)
  have hD := hD0.self (sz := s.heap.size)
  generalize hAe : va_A [(h0, .inr (10, [.ref hn, .ref g1, .ref g2, .ref hea, .ref g3, .ref g4, .ref g5, .ref g6, .ref g7, .int (iI 0), .int (iI 0), .int (iI 0), .int (iI (-1)), .int (iI (-1)), .int (iI 0)])), (hn, .inr (2, [.ref xa1, .ref xa2, .ref xa3, .ref xa5, .ref xa8, .int (iI 0), .int (iI 0), .int (iI 0)])), (xa8, .inr (6, [.ref xa9, .ref xa10, .ref xa11, .int (iI 0), .int (iI 0)])), (hout, .inl (k 1, 1, .inr (.inl (aL aZ))))] s.heap.size = A at hD hE ⊢
  have hA : ∀ q : Nat, s.heap.size ≤ q → A q := fun q h => by rw [← hAe]; exact Or.inr h
  have hS : va_S A s.heap s.heap [] := va_S.rf
  obtain ⟨hK, hNw, hNc, hZs, hAO1, hAO2⟩ := id hE
  have hSF : CallFix p mI cO cL_ledger 5 s ([.ref h0, .int (iI xv), .int (iI xw9), .ref hout] : List Value).toArray woL_ledger RL := ⟨hx, hb, hml, hown, hts⟩
  have hl := lv_entry ([.ref h0, .int (iI xv), .int (iI xw9), .ref hout] : List Value) (n := 5) (Nat.le_of_ble_eq_true rfl)
  rw [lg_entry_eq]
  generalize (lg_sl ([.ref h0, .int (iI xv), .int (iI xw9), .ref hout] : List Value) ++ List.replicate (5 - (lg_sl ([.ref h0, .int (iI xv), .int (iI xw9), .ref hout] : List Value)).length) Slot.unset).toArray = ls at hl ⊢
  have hl : lv_has ls 5 [(0, .ref h0), (1, .int (iI xv)), (2, .int (iI xw9)), (3, .ref hout)] := hl
  refine W_gen (fun Q hQ => ?_)
  change W p l e ({ frames := 7, cells := 1, slots := 6, locals := 103 } : Room) s mI _ below meth cO s.heap [] 0 0 Q _
  have hP : va_P (dC, dI) vwCl [(h0, .inr (10, [.ref hn, .ref g1, .ref g2, .ref hea, .ref g3, .ref g4, .ref g5, .ref g6, .ref g7, .int (iI 0), .int (iI 0), .int (iI 0), .int (iI (-1)), .int (iI (-1)), .int (iI 0)])), (hn, .inr (2, [.ref xa1, .ref xa2, .ref xa3, .ref xa5, .ref xa8, .int (iI 0), .int (iI 0), .int (iI 0)])), (xa8, .inr (6, [.ref xa9, .ref xa10, .ref xa11, .int (iI 0), .int (iI 0)])), (hout, .inl (k 1, 1, .inr (.inl (aL aZ))))] s.heap := hP
  refine lv_aload_n hx hb dL_ledger_0 rfl (lv_at hl 3 rfl) ?_
  refine q_iconst hx hb dL_ledger_1 ?_
  refine lv_aload_n hx hb dL_ledger_2 rfl (lv_at hl 0 rfl) ?_
  refine lv_iload_n hx hb dL_ledger_3 rfl (lv_at hl 1 rfl) ?_
  refine lv_iload_n hx hb dL_ledger_4 rfl (lv_at hl 2 rfl) ?_
  refine kxi (vx_runV (As := [.int (iI xv), .int (iI xw9)]) (rest := [.int (iI 0), .ref hout]) hSF ((c_X10_ledger l hl0 dC dI k h0 hn g1 g2 hea g3 g4 g5 g6 g7 xa1 xa2 xa3 0 xa5 0 0 xa8 xa9 xa10 xa11 xv xw9 (by omega)) s.heap.size) (cwV 2 hts gL_ledger_X10_ledger rfl rfl rfl (by decide +kernel) ⟨Nat.le_of_ble_eq_true rfl, Nat.le_of_ble_eq_true rfl⟩) (preV hP hD hE hS hA [0, 1, 2] rfl (by decide) (ci := 10) (q0 := 0) rfl rfl) rfl rfl hl.1 rfl (lv_room (Nat.le_of_ble_eq_true rfl)) dL_ledger_5 ⟨Nat.le_of_ble_eq_true rfl, Nat.le_of_ble_eq_true rfl⟩) hP hD hS hA [0, 1, 2] [3] rfl (wr := [(hout, .inl (k 1, 1, .inr (.inl (aL aZ))))]) rfl (by decide) (by decide) (fun ce q9 H locs hP hD hS hc9 hv9 hcl => ?_)
  refine vx_catch (own := RL) (name := "java/lang/IndexOutOfBoundsException") (E := "java/lang/IndexOutOfBoundsException") hown [] ⟨0, 10, 13, 32⟩ [] (by rw [htab]; rfl) (fun z hz => by cases hz) (by decide) (by decide) (hts (.classLink RL 32 "java/lang/IndexOutOfBoundsException") (List.mem_cons_of_mem _ (wl_24 (List.mem_of_getElem? (i := 23) rfl)))) (va_Nw.use rfl (hNw _ (List.mem_of_getElem? (i := 68) rfl))) hc9 hv9 hcl ?_
  change W p l e _ s mI _ below meth cO H locs _ _ Q (F0 mI 13 ls [.ref q9])
  refine lv_astore (lv' := [(4, .ref q9), (0, .ref h0), (1, .int (iI xv)), (2, .int (iI xw9)), (3, .ref hout)]) hx hb dL_ledger_13 hl (by decide) rfl (fun ls hl => ?_)
  refine q_iconst hx hb dL_ledger_15 ?_
  rw [hQ]
  refine W.widen (k := 1) (n := 6) (Nat.le_of_ble_eq_true rfl) (Nat.le_of_ble_eq_true rfl) ?_
  exact W.iret (v := (iI 1)) hx hb hr (fun t ht hW => ⟨⟨(iI 1), (), rfl, rfl, by rw [ht]; exact hP.sub [] rfl, by rw [hAe]; exact hD.sub [] (by decide) rfl⟩, hS.F ht⟩) hS.2.2 dL_ledger_16
set_option maxHeartbeats 4000000 in
set_option maxRecDepth 100000 in
/-- the law: undo, refused -/
theorem c_L_undo (l : Launch) (hl0 : l.stackTraces = false) (dC : Nat → ClassId) (dI : Nat → Nat → Nat) (k : Nat → ClassId) (hout : Nat) (h0 hn g1 g2 hea g3 g4 g5 g6 g7 xa1 xa2 xa3 xa4 xa5 xa6 xa7 xa8 xa9 xa10 xa11 : Nat) (sz : Nat) : Met l yL_undo woL_undo ({ frames := 7, cells := 1, slots := 6, locals := 102 } : Room) (PcW (dC, dI) k [.ref h0, .ref hout] [(h0, .inr (10, [.ref hn, .ref g1, .ref g2, .ref hea, .ref g3, .ref g4, .ref g5, .ref g6, .ref g7, .int (iI 0), .int (iI 0), .int (iI 0), .int (iI (-1)), .int (iI (-1)), .int (iI 0)])), (hout, .inl (k 1, 1, .inr (.inl (aL aZ))))] sz) (va_Qi (fun (r : Int32) (_ : Unit) => r = iI 1) (QB (dC, dI) [(h0, .inr (10, [.ref hn, .ref g1, .ref g2, .ref hea, .ref g3, .ref g4, .ref g5, .ref g6, .ref g7, .int (iI 0), .int (iI 0), .int (iI 0), .int (iI (-1)), .int (iI (-1)), .int (iI 0)])), (hout, .inl (k 1, 1, .inr (.inl (aL aZ))))] (fun _ => []) sz) (va_A [(h0, .inr (10, [.ref hn, .ref g1, .ref g2, .ref hea, .ref g3, .ref g4, .ref g5, .ref g6, .ref g7, .int (iI 0), .int (iI 0), .int (iI 0), .int (iI (-1)), .int (iI (-1)), .int (iI 0)])), (hout, .inl (k 1, 1, .inr (.inl (aL aZ))))] sz)) 1 6 (va_A [(h0, .inr (10, [.ref hn, .ref g1, .ref g2, .ref hea, .ref g3, .ref g4, .ref g5, .ref g6, .ref g7, .int (iI 0), .int (iI 0), .int (iI 0), .int (iI (-1)), .int (iI (-1)), .int (iI 0)])), (hout, .inl (k 1, 1, .inr (.inl (aL aZ))))] sz) := by
  refine Met_ofWH (cc := cL_undo) (maxL := 3) (ret := (some .int)) (by decide) rfl ?_
  intro p e s mI args below meth cO s₁ B hml hv
  obtain ⟨rfl, rfl, hP, hD0, hE⟩ := hv
  have hx := B.exec
  have hb := B.bytes
  have hr := B.returns
  have hts := atoms_spec (ws := woL_undo) B.pre
  have hown : s.vm.findClass RL = some mI.cls := findClass_of_methodNamed B.named
  have hlocks := B.notSynchronized
  have htab := vx_table (x := yL_undo) B (hts (.codeWith yL_undo cL_undo 3 (some .int) [(0, 8, 11, 19)]) List.mem_cons_self)
  have hD := hD0.self (sz := s.heap.size)
  generalize hAe : va_A [(h0, .inr (10, [.ref hn, .ref g1, .ref g2, .ref hea, .ref g3, .ref g4, .ref g5, .ref g6, .ref g7, .int (iI 0), .int (iI 0), .int (iI 0), .int (iI (-1)), .int (iI (-1)), .int (iI 0)])), (hout, .inl (k 1, 1, .inr (.inl (aL aZ))))] s.heap.size = A at hD hE ⊢
  have hA : ∀ q : Nat, s.heap.size ≤ q → A q := fun q h => by rw [← hAe]; exact Or.inr h
  have hS : va_S A s.heap s.heap [] := va_S.rf
  obtain ⟨hK, hNw, hNc, hZs, hAO1, hAO2⟩ := id hE
  have hSF : CallFix p mI cO cL_undo 3 s ([.ref h0, .ref hout] : List Value).toArray woL_undo RL := ⟨hx, hb, hml, hown, hts⟩
  have hl := lv_entry ([.ref h0, .ref hout] : List Value) (n := 3) (Nat.le_of_ble_eq_true rfl)
  rw [lg_entry_eq]
  generalize (lg_sl ([.ref h0, .ref hout] : List Value) ++ List.replicate (3 - (lg_sl ([.ref h0, .ref hout] : List Value)).length) Slot.unset).toArray = ls at hl ⊢
  have hl : lv_has ls 3 [(0, .ref h0), (1, .ref hout)] := hl
  refine W_gen (fun Q hQ => ?_)
  change W p l e ({ frames := 7, cells := 1, slots := 6, locals := 102 } : Room) s mI _ below meth cO s.heap [] 0 0 Q _
  have hP : va_P (dC, dI) vwCl [(h0, .inr (10, [.ref hn, .ref g1, .ref g2, .ref hea, .ref g3, .ref g4, .ref g5, .ref g6, .ref g7, .int (iI 0), .int (iI 0), .int (iI 0), .int (iI (-1)), .int (iI (-1)), .int (iI 0)])), (hout, .inl (k 1, 1, .inr (.inl (aL aZ))))] s.heap := hP
  refine lv_aload_n hx hb dL_undo_0 rfl (lv_at hl 1 rfl) ?_
  refine q_iconst hx hb dL_undo_1 ?_
  refine lv_aload_n hx hb dL_undo_2 rfl (lv_at hl 0 rfl) ?_
  refine kxi (vx_runV (As := []) (rest := [.int (iI 0), .ref hout]) hSF ((c_X10_undo l hl0 dC dI k h0 hn g1 g2 hea g3 g4 g5 g6 g7 0 0 0 0 0 0 0 0 0 0 0) s.heap.size) (cwV 0 hts gL_undo_X10_undo rfl rfl rfl (by decide +kernel) ⟨Nat.le_of_ble_eq_true rfl, Nat.le_of_ble_eq_true rfl⟩) (preV hP hD hE hS hA [0] rfl (by decide) (ci := 10) (q0 := 0) rfl rfl) rfl rfl hl.1 rfl (lv_room (Nat.le_of_ble_eq_true rfl)) dL_undo_3 ⟨Nat.le_of_ble_eq_true rfl, Nat.le_of_ble_eq_true rfl⟩) hP hD hS hA [0] [1] rfl (wr := [(hout, .inl (k 1, 1, .inr (.inl (aL aZ))))]) rfl (by decide) (by decide) (fun ce q9 H locs hP hD hS hc9 hv9 hcl => ?_)
  refine vx_catch (own := RL) (name := "java/lang/IllegalStateException") (E := "java/lang/IllegalStateException") hown [] ⟨0, 8, 11, 19⟩ [] (by rw [htab]; rfl) (fun z hz => by cases hz) (by decide) (by decide) (hts (.classLink RL 19 "java/lang/IllegalStateException") (List.mem_cons_of_mem _ (wl_16 (List.mem_of_getElem? (i := 7) rfl)))) (va_Nw.use rfl (hNw _ (List.mem_of_getElem? (i := 67) rfl))) hc9 hv9 hcl ?_
  change W p l e _ s mI _ below meth cO H locs _ _ Q (F0 mI 11 ls [.ref q9])
  refine lv_astore_n (lv' := [(2, .ref q9), (0, .ref h0), (1, .ref hout)]) hx hb dL_undo_11 rfl hl (by decide) rfl (fun ls hl => ?_)
  refine q_iconst hx hb dL_undo_12 ?_
  rw [hQ]
  refine W.widen (k := 1) (n := 6) (Nat.le_of_ble_eq_true rfl) (Nat.le_of_ble_eq_true rfl) ?_
  exact W.iret (v := (iI 1)) hx hb hr (fun t ht hW => ⟨⟨(iI 1), (), rfl, rfl, by rw [ht]; exact hP.sub [] rfl, by rw [hAe]; exact hD.sub [] (by decide) rfl⟩, hS.F ht⟩) hS.2.2 dL_undo_13
set_option maxHeartbeats 4000000 in
set_option maxRecDepth 100000 in
/-- the law: storeSchedule, answered -/
theorem c_L_storeSchedule_0_0 (l : Launch) (dC : Nat → ClassId) (dI : Nat → Nat → Nat) (k : Nat → ClassId) (hout : Nat) (h0 hn g1 g2 hea g3 g4 g5 g6 g7 xa1 xa2 xa3 xa4 xa5 xa6 xa7 xa8 xa9 xa10 xa11 xd1 xd2 xd3 xd4 xd5 xd6 hrr xw1 xw2 : Nat) (xrF : Nat → Option Nat) (hr9 : xrF 0 = some hrr) (sz : Nat) : Met l yL_storeSchedule woL_storeSchedule ({ frames := 4, cells := 0, slots := 0, locals := 88 } : Room) (PcW (dC, dI) k [.ref h0, .int (iI 0), .int (iI 0), .ref hout] [(h0, .inr (10, [.ref hn, .ref g1, .ref g2, .ref hea, .ref g3, .ref g4, .ref g5, .ref g6, .ref g7, .int (iI 0), .int (iI 0), .int (iI 0), .int (iI (-1)), .int (iI (-1)), .int (iI 0)])), (hn, .inr (2, [.ref xa1, .ref xa2, .ref xa3, .ref xa5, .ref xa8, .int (iI 0), .int (iI 0), .int (iI 0)])), (xa1, .inl (k 0, 5, .inl (aI (upI (upI (upI (upI (upI aZ 0 0) 1 0) 2 10) 3 500) 4 0)))), (xa3, .inr (7, [.int (iI 0), .int (iI 0), .int (iI 0), .long (lI 0), .int (iI 0), .int (iI 0), .int (iI 0), .long (lI 0), .long (lI 0), .long (lI 0), .long (lI 0), .long (lI 0), .int (iI 0), .int (iI 0), .int (iI 0), .int (iI 0), .ref xa4])), (g5, .inr (8, [.long (lI 0), .long (lI 0), .long (lI 0), .int (iI 0), .int (iI 0), .int (iI 0), .int (iI 0), .int (iI 0), .ref xd1, .ref xd2, .int (iI 0), .ref xd3, .ref xd4, .ref xd5, .ref xd6])), (g7, .inl (k 7, 2, .inr (.inr (.inr (.inr xrF))))), (hrr, .inr (9, [.ref xw1, .ref xw2, .int (iI 0), .int (iI 0), .int (iI 0)])), (hout, .inl (k 1, 1, .inr (.inl (aL aZ))))] sz) (va_Qi (fun (r : Int32) (_ : Unit) => r = iI 0) (QB (dC, dI) [(h0, .inr (10, [.ref hn, .ref g1, .ref g2, .ref hea, .ref g3, .ref g4, .ref g5, .ref g6, .ref g7, .int (iI 0), .int (iI 0), .int (iI 0), .int (iI (-1)), .int (iI (-1)), .int (iI 0)])), (hn, .inr (2, [.ref xa1, .ref xa2, .ref xa3, .ref xa5, .ref xa8, .int (iI 0), .int (iI 0), .int (iI 0)])), (xa1, .inl (k 0, 5, .inl (aI (upI (upI (upI (upI (upI aZ 0 0) 1 0) 2 10) 3 500) 4 0)))), (xa3, .inr (7, [.int (iI 0), .int (iI 0), .int (iI 0), .long (lI 0), .int (iI 0), .int (iI 0), .int (iI 0), .long (lI 0), .long (lI 0), .long (lI 0), .long (lI 0), .long (lI 0), .int (iI 0), .int (iI 0), .int (iI 0), .int (iI 0), .ref xa4])), (g5, .inr (8, [.long (lI 0), .long (lI 0), .long (lI 0), .int (iI 0), .int (iI 0), .int (iI 0), .int (iI 0), .int (iI 0), .ref xd1, .ref xd2, .int (iI 0), .ref xd3, .ref xd4, .ref xd5, .ref xd6])), (g7, .inl (k 7, 2, .inr (.inr (.inr (.inr xrF))))), (hrr, .inr (9, [.ref xw1, .ref xw2, .int (iI 0), .int (iI 0), .int (iI 0)])), (hout, .inl (k 1, 1, .inr (.inl (aL aZ))))] (fun _ => [(hout, .inl (k 1, 1, .inr (.inl (aL (upI aZ 0 0)))))]) sz) (va_A [(h0, .inr (10, [.ref hn, .ref g1, .ref g2, .ref hea, .ref g3, .ref g4, .ref g5, .ref g6, .ref g7, .int (iI 0), .int (iI 0), .int (iI 0), .int (iI (-1)), .int (iI (-1)), .int (iI 0)])), (hn, .inr (2, [.ref xa1, .ref xa2, .ref xa3, .ref xa5, .ref xa8, .int (iI 0), .int (iI 0), .int (iI 0)])), (xa1, .inl (k 0, 5, .inl (aI (upI (upI (upI (upI (upI aZ 0 0) 1 0) 2 10) 3 500) 4 0)))), (xa3, .inr (7, [.int (iI 0), .int (iI 0), .int (iI 0), .long (lI 0), .int (iI 0), .int (iI 0), .int (iI 0), .long (lI 0), .long (lI 0), .long (lI 0), .long (lI 0), .long (lI 0), .int (iI 0), .int (iI 0), .int (iI 0), .int (iI 0), .ref xa4])), (g5, .inr (8, [.long (lI 0), .long (lI 0), .long (lI 0), .int (iI 0), .int (iI 0), .int (iI 0), .int (iI 0), .int (iI 0), .ref xd1, .ref xd2, .int (iI 0), .ref xd3, .ref xd4, .ref xd5, .ref xd6])), (g7, .inl (k 7, 2, .inr (.inr (.inr (.inr xrF))))), (hrr, .inr (9, [.ref xw1, .ref xw2, .int (iI 0), .int (iI 0), .int (iI 0)])), (hout, .inl (k 1, 1, .inr (.inl (aL aZ))))] sz)) 0 0 (va_A [(h0, .inr (10, [.ref hn, .ref g1, .ref g2, .ref hea, .ref g3, .ref g4, .ref g5, .ref g6, .ref g7, .int (iI 0), .int (iI 0), .int (iI 0), .int (iI (-1)), .int (iI (-1)), .int (iI 0)])), (hn, .inr (2, [.ref xa1, .ref xa2, .ref xa3, .ref xa5, .ref xa8, .int (iI 0), .int (iI 0), .int (iI 0)])), (xa1, .inl (k 0, 5, .inl (aI (upI (upI (upI (upI (upI aZ 0 0) 1 0) 2 10) 3 500) 4 0)))), (xa3, .inr (7, [.int (iI 0), .int (iI 0), .int (iI 0), .long (lI 0), .int (iI 0), .int (iI 0), .int (iI 0), .long (lI 0), .long (lI 0), .long (lI 0), .long (lI 0), .long (lI 0), .int (iI 0), .int (iI 0), .int (iI 0), .int (iI 0), .ref xa4])), (g5, .inr (8, [.long (lI 0), .long (lI 0), .long (lI 0), .int (iI 0), .int (iI 0), .int (iI 0), .int (iI 0), .int (iI 0), .ref xd1, .ref xd2, .int (iI 0), .ref xd3, .ref xd4, .ref xd5, .ref xd6])), (g7, .inl (k 7, 2, .inr (.inr (.inr (.inr xrF))))), (hrr, .inr (9, [.ref xw1, .ref xw2, .int (iI 0), .int (iI 0), .int (iI 0)])), (hout, .inl (k 1, 1, .inr (.inl (aL aZ))))] sz) := by
  refine Met_ofWH (cc := cL_storeSchedule) (maxL := 5) (ret := (some .int)) (by decide) rfl ?_
  intro p e s mI args below meth cO s₁ B hml hv
  obtain ⟨rfl, rfl, hP, hD0, hE⟩ := hv
  have hx := B.exec
  have hb := B.bytes
  have hr := B.returns
  have hts := atoms_spec (ws := woL_storeSchedule) B.pre
  have hown : s.vm.findClass RL = some mI.cls := findClass_of_methodNamed B.named
  have hlocks := B.notSynchronized
  have htab := vx_table (x := yL_storeSchedule) B (hts (.codeWith yL_storeSchedule cL_storeSchedule 5 (some .int) [(0, 10, 13, 32)]) List.mem_cons_self)
  have hD := hD0.self (sz := s.heap.size)
  generalize hAe : va_A [(h0, .inr (10, [.ref hn, .ref g1, .ref g2, .ref hea, .ref g3, .ref g4, .ref g5, .ref g6, .ref g7, .int (iI 0), .int (iI 0), .int (iI 0), .int (iI (-1)), .int (iI (-1)), .int (iI 0)])), (hn, .inr (2, [.ref xa1, .ref xa2, .ref xa3, .ref xa5, .ref xa8, .int (iI 0), .int (iI 0), .int (iI 0)])), (xa1, .inl (k 0, 5, .inl (aI (upI (upI (upI (upI (upI aZ 0 0) 1 0) 2 10) 3 500) 4 0)))), (xa3, .inr (7, [.int (iI 0), .int (iI 0), .int (iI 0), .long (lI 0), .int (iI 0), .int (iI 0), .int (iI 0), .long (lI 0), .long (lI 0), .long (lI 0), .long (lI 0), .long (lI 0), .int (iI 0), .int (iI 0), .int (iI 0), .int (iI 0), .ref xa4])), (g5, .inr (8, [.long (lI 0), .long (lI 0), .long (lI 0), .int (iI 0), .int (iI 0), .int (iI 0), .int (iI 0), .int (iI 0), .ref xd1, .ref xd2, .int (iI 0), .ref xd3, .ref xd4, .ref xd5, .ref xd6])), (g7, .inl (k 7, 2, .inr (.inr (.inr (.inr xrF))))), (hrr, .inr (9, [.ref xw1, .ref xw2, .int (iI 0), .int (iI 0), .int (iI 0)])), (hout, .inl (k 1, 1, .inr (.inl (aL aZ))))] s.heap.size = A at hD hE ⊢
  have hA : ∀ q : Nat, s.heap.size ≤ q → A q := fun q h => by rw [← hAe]; exact Or.inr h
  have hS : va_S A s.heap s.heap [] := va_S.rf
  obtain ⟨hK, hNw, hNc, hZs, hAO1, hAO2⟩ := id hE
  have hSF : CallFix p mI cO cL_storeSchedule 5 s ([.ref h0, .int (iI 0), .int (iI 0), .ref hout] : List Value).toArray woL_storeSchedule RL := ⟨hx, hb, hml, hown, hts⟩
  have hl := lv_entry ([.ref h0, .int (iI 0), .int (iI 0), .ref hout] : List Value) (n := 5) (Nat.le_of_ble_eq_true rfl)
  rw [lg_entry_eq]
  generalize (lg_sl ([.ref h0, .int (iI 0), .int (iI 0), .ref hout] : List Value) ++ List.replicate (5 - (lg_sl ([.ref h0, .int (iI 0), .int (iI 0), .ref hout] : List Value)).length) Slot.unset).toArray = ls at hl ⊢
  have hl : lv_has ls 5 [(0, .ref h0), (1, .int (iI 0)), (2, .int (iI 0)), (3, .ref hout)] := hl
  refine W_gen (fun Q hQ => ?_)
  change W p l e ({ frames := 4, cells := 0, slots := 0, locals := 88 } : Room) s mI _ below meth cO s.heap [] 0 0 Q _
  have hP : va_P (dC, dI) vwCl [(h0, .inr (10, [.ref hn, .ref g1, .ref g2, .ref hea, .ref g3, .ref g4, .ref g5, .ref g6, .ref g7, .int (iI 0), .int (iI 0), .int (iI 0), .int (iI (-1)), .int (iI (-1)), .int (iI 0)])), (hn, .inr (2, [.ref xa1, .ref xa2, .ref xa3, .ref xa5, .ref xa8, .int (iI 0), .int (iI 0), .int (iI 0)])), (xa1, .inl (k 0, 5, .inl (aI (upI (upI (upI (upI (upI aZ 0 0) 1 0) 2 10) 3 500) 4 0)))), (xa3, .inr (7, [.int (iI 0), .int (iI 0), .int (iI 0), .long (lI 0), .int (iI 0), .int (iI 0), .int (iI 0), .long (lI 0), .long (lI 0), .long (lI 0), .long (lI 0), .long (lI 0), .int (iI 0), .int (iI 0), .int (iI 0), .int (iI 0), .ref xa4])), (g5, .inr (8, [.long (lI 0), .long (lI 0), .long (lI 0), .int (iI 0), .int (iI 0), .int (iI 0), .int (iI 0), .int (iI 0), .ref xd1, .ref xd2, .int (iI 0), .ref xd3, .ref xd4, .ref xd5, .ref xd6])), (g7, .inl (k 7, 2, .inr (.inr (.inr (.inr xrF))))), (hrr, .inr (9, [.ref xw1, .ref xw2, .int (iI 0), .int (iI 0), .int (iI 0)])), (hout, .inl (k 1, 1, .inr (.inl (aL aZ))))] s.heap := hP
  refine lv_aload_n hx hb dL_storeSchedule_0 rfl (lv_at hl 3 rfl) ?_
  refine q_iconst hx hb dL_storeSchedule_1 ?_
  refine lv_aload_n hx hb dL_storeSchedule_2 rfl (lv_at hl 0 rfl) ?_
  refine lv_iload_n hx hb dL_storeSchedule_3 rfl (lv_at hl 1 rfl) ?_
  refine lv_iload_n hx hb dL_storeSchedule_4 rfl (lv_at hl 2 rfl) ?_
  refine ki (va_runV (As := [.int (iI 0), .int (iI 0)]) (rest := [.int (iI 0), .ref hout]) hSF ((c_X10_storeSchedule_0_0 l dC dI k h0 hn g1 g2 hea g3 g4 g5 g6 g7 xa1 xa2 xa3 xa4 xa5 0 0 xa8 0 0 0 xd1 xd2 xd3 xd4 xd5 xd6 hrr xw1 xw2 xrF hr9) s.heap.size) (cwV 2 hts gL_storeSchedule_X10_storeSchedule rfl rfl rfl (by decide +kernel) ⟨Nat.le_of_ble_eq_true rfl, Nat.le_of_ble_eq_true rfl⟩) (preV hP hD hE hS hA [0, 1, 2, 3, 4, 5, 6] rfl (by decide) (ci := 10) (q0 := 0) rfl rfl) rfl rfl hl.1 rfl (lv_room (Nat.le_of_ble_eq_true rfl)) dL_storeSchedule_5 ⟨Nat.le_of_ble_eq_true rfl, Nat.le_of_ble_eq_true rfl⟩) hP hD hS hA [0, 1, 2, 3, 4, 5, 6] [7] rfl (wr := [(hout, .inl (k 1, 1, .inr (.inl (aL aZ))))]) rfl (by decide) (by decide) (fun r5 _ H locs hw hP hD hS => ?_)
  obtain rfl : r5 = (iI 0) := hw
  have hP : va_P (dC, dI) vwCl [(hout, .inl (k 1, 1, .inr (.inl (aL aZ))))] H := hP
  have hD : va_D A [(hout, .inl (k 1, 1, .inr (.inl (aL aZ))))] := hD
  refine q_i2l hx hb dL_storeSchedule_8 (by omega) ?_
  refine q_last (G := (upI aZ 0 0)) hx hb hK hP hD hS 0 1 rfl rfl (by omega) rfl dL_storeSchedule_9 (fun H locs hP hD hS => ?_)
  have hP : va_P (dC, dI) vwCl [(hout, .inl (k 1, 1, .inr (.inl (aL (upI aZ 0 0)))))] H := hP
  have hD : va_D A [(hout, .inl (k 1, 1, .inr (.inl (aL (upI aZ 0 0)))))] := hD
  refine lv_goto (tgt := 17) hx hb dL_storeSchedule_10 (by decide) ?_
  refine q_iconst hx hb dL_storeSchedule_17 ?_
  rw [hQ]
  refine W.widen (k := 0) (n := 0) (Nat.le_of_ble_eq_true rfl) (Nat.le_of_ble_eq_true rfl) ?_
  exact W.iret (v := (iI 0)) hx hb hr (fun t ht hW => ⟨⟨(iI 0), (), rfl, rfl, by rw [ht]; exact hP.sub [0] rfl, by rw [hAe]; exact hD.sub [0] (by decide) rfl⟩, hS.F ht⟩) hS.2.2 dL_storeSchedule_18
set_option maxHeartbeats 4000000 in
set_option maxRecDepth 100000 in
/-- the law: storeSchedule, answered -/
theorem c_L_storeSchedule_0_1 (l : Launch) (dC : Nat → ClassId) (dI : Nat → Nat → Nat) (k : Nat → ClassId) (hout : Nat) (h0 hn g1 g2 hea g3 g4 g5 g6 g7 xa1 xa2 xa3 xa4 xa5 xa6 xa7 xa8 xa9 xa10 xa11 xd1 xd2 xd3 xd4 xd5 xd6 hrr xw1 xw2 : Nat) (xrF : Nat → Option Nat) (hr9 : xrF 0 = some hrr) (sz : Nat) : Met l yL_storeSchedule woL_storeSchedule ({ frames := 4, cells := 0, slots := 0, locals := 88 } : Room) (PcW (dC, dI) k [.ref h0, .int (iI 0), .int (iI 1), .ref hout] [(h0, .inr (10, [.ref hn, .ref g1, .ref g2, .ref hea, .ref g3, .ref g4, .ref g5, .ref g6, .ref g7, .int (iI 0), .int (iI 0), .int (iI 0), .int (iI (-1)), .int (iI (-1)), .int (iI 0)])), (hn, .inr (2, [.ref xa1, .ref xa2, .ref xa3, .ref xa5, .ref xa8, .int (iI 0), .int (iI 0), .int (iI 0)])), (xa1, .inl (k 0, 5, .inl (aI (upI (upI (upI (upI (upI aZ 0 0) 1 0) 2 10) 3 500) 4 0)))), (xa3, .inr (7, [.int (iI 0), .int (iI 0), .int (iI 0), .long (lI 0), .int (iI 0), .int (iI 0), .int (iI 0), .long (lI 0), .long (lI 0), .long (lI 0), .long (lI 0), .long (lI 0), .int (iI 0), .int (iI 0), .int (iI 0), .int (iI 0), .ref xa4])), (g5, .inr (8, [.long (lI 0), .long (lI 0), .long (lI 0), .int (iI 0), .int (iI 0), .int (iI 0), .int (iI 0), .int (iI 0), .ref xd1, .ref xd2, .int (iI 0), .ref xd3, .ref xd4, .ref xd5, .ref xd6])), (g7, .inl (k 7, 2, .inr (.inr (.inr (.inr xrF))))), (hrr, .inr (9, [.ref xw1, .ref xw2, .int (iI 0), .int (iI 0), .int (iI 0)])), (hout, .inl (k 1, 1, .inr (.inl (aL aZ))))] sz) (va_Qi (fun (r : Int32) (_ : Unit) => r = iI 0) (QB (dC, dI) [(h0, .inr (10, [.ref hn, .ref g1, .ref g2, .ref hea, .ref g3, .ref g4, .ref g5, .ref g6, .ref g7, .int (iI 0), .int (iI 0), .int (iI 0), .int (iI (-1)), .int (iI (-1)), .int (iI 0)])), (hn, .inr (2, [.ref xa1, .ref xa2, .ref xa3, .ref xa5, .ref xa8, .int (iI 0), .int (iI 0), .int (iI 0)])), (xa1, .inl (k 0, 5, .inl (aI (upI (upI (upI (upI (upI aZ 0 0) 1 0) 2 10) 3 500) 4 0)))), (xa3, .inr (7, [.int (iI 0), .int (iI 0), .int (iI 0), .long (lI 0), .int (iI 0), .int (iI 0), .int (iI 0), .long (lI 0), .long (lI 0), .long (lI 0), .long (lI 0), .long (lI 0), .int (iI 0), .int (iI 0), .int (iI 0), .int (iI 0), .ref xa4])), (g5, .inr (8, [.long (lI 0), .long (lI 0), .long (lI 0), .int (iI 0), .int (iI 0), .int (iI 0), .int (iI 0), .int (iI 0), .ref xd1, .ref xd2, .int (iI 0), .ref xd3, .ref xd4, .ref xd5, .ref xd6])), (g7, .inl (k 7, 2, .inr (.inr (.inr (.inr xrF))))), (hrr, .inr (9, [.ref xw1, .ref xw2, .int (iI 0), .int (iI 0), .int (iI 0)])), (hout, .inl (k 1, 1, .inr (.inl (aL aZ))))] (fun _ => [(hout, .inl (k 1, 1, .inr (.inl (aL (upI aZ 0 0)))))]) sz) (va_A [(h0, .inr (10, [.ref hn, .ref g1, .ref g2, .ref hea, .ref g3, .ref g4, .ref g5, .ref g6, .ref g7, .int (iI 0), .int (iI 0), .int (iI 0), .int (iI (-1)), .int (iI (-1)), .int (iI 0)])), (hn, .inr (2, [.ref xa1, .ref xa2, .ref xa3, .ref xa5, .ref xa8, .int (iI 0), .int (iI 0), .int (iI 0)])), (xa1, .inl (k 0, 5, .inl (aI (upI (upI (upI (upI (upI aZ 0 0) 1 0) 2 10) 3 500) 4 0)))), (xa3, .inr (7, [.int (iI 0), .int (iI 0), .int (iI 0), .long (lI 0), .int (iI 0), .int (iI 0), .int (iI 0), .long (lI 0), .long (lI 0), .long (lI 0), .long (lI 0), .long (lI 0), .int (iI 0), .int (iI 0), .int (iI 0), .int (iI 0), .ref xa4])), (g5, .inr (8, [.long (lI 0), .long (lI 0), .long (lI 0), .int (iI 0), .int (iI 0), .int (iI 0), .int (iI 0), .int (iI 0), .ref xd1, .ref xd2, .int (iI 0), .ref xd3, .ref xd4, .ref xd5, .ref xd6])), (g7, .inl (k 7, 2, .inr (.inr (.inr (.inr xrF))))), (hrr, .inr (9, [.ref xw1, .ref xw2, .int (iI 0), .int (iI 0), .int (iI 0)])), (hout, .inl (k 1, 1, .inr (.inl (aL aZ))))] sz)) 0 0 (va_A [(h0, .inr (10, [.ref hn, .ref g1, .ref g2, .ref hea, .ref g3, .ref g4, .ref g5, .ref g6, .ref g7, .int (iI 0), .int (iI 0), .int (iI 0), .int (iI (-1)), .int (iI (-1)), .int (iI 0)])), (hn, .inr (2, [.ref xa1, .ref xa2, .ref xa3, .ref xa5, .ref xa8, .int (iI 0), .int (iI 0), .int (iI 0)])), (xa1, .inl (k 0, 5, .inl (aI (upI (upI (upI (upI (upI aZ 0 0) 1 0) 2 10) 3 500) 4 0)))), (xa3, .inr (7, [.int (iI 0), .int (iI 0), .int (iI 0), .long (lI 0), .int (iI 0), .int (iI 0), .int (iI 0), .long (lI 0), .long (lI 0), .long (lI 0), .long (lI 0), .long (lI 0), .int (iI 0), .int (iI 0), .int (iI 0), .int (iI 0), .ref xa4])), (g5, .inr (8, [.long (lI 0), .long (lI 0), .long (lI 0), .int (iI 0), .int (iI 0), .int (iI 0), .int (iI 0), .int (iI 0), .ref xd1, .ref xd2, .int (iI 0), .ref xd3, .ref xd4, .ref xd5, .ref xd6])), (g7, .inl (k 7, 2, .inr (.inr (.inr (.inr xrF))))), (hrr, .inr (9, [.ref xw1, .ref xw2, .int (iI 0), .int (iI 0), .int (iI 0)])), (hout, .inl (k 1, 1, .inr (.inl (aL aZ))))] sz) := by
  refine Met_ofWH (cc := cL_storeSchedule) (maxL := 5) (ret := (some .int)) (by decide) rfl ?_
  intro p e s mI args below meth cO s₁ B hml hv
  obtain ⟨rfl, rfl, hP, hD0, hE⟩ := hv
  have hx := B.exec
  have hb := B.bytes
  have hr := B.returns
  have hts := atoms_spec (ws := woL_storeSchedule) B.pre
  have hown : s.vm.findClass RL = some mI.cls := findClass_of_methodNamed B.named
  have hlocks := B.notSynchronized
  have htab := vx_table (x := yL_storeSchedule) B (hts (.codeWith yL_storeSchedule cL_storeSchedule 5 (some .int) [(0, 10, 13, 32)]) List.mem_cons_self)
  have hD := hD0.self (sz := s.heap.size)
  generalize hAe : va_A [(h0, .inr (10, [.ref hn, .ref g1, .ref g2, .ref hea, .ref g3, .ref g4, .ref g5, .ref g6, .ref g7, .int (iI 0), .int (iI 0), .int (iI 0), .int (iI (-1)), .int (iI (-1)), .int (iI 0)])), (hn, .inr (2, [.ref xa1, .ref xa2, .ref xa3, .ref xa5, .ref xa8, .int (iI 0), .int (iI 0), .int (iI 0)])), (xa1, .inl (k 0, 5, .inl (aI (upI (upI (upI (upI (upI aZ 0 0) 1 0) 2 10) 3 500) 4 0)))), (xa3, .inr (7, [.int (iI 0), .int (iI 0), .int (iI 0), .long (lI 0), .int (iI 0), .int (iI 0), .int (iI 0), .long (lI 0), .long (lI 0), .long (lI 0), .long (lI 0), .long (lI 0), .int (iI 0), .int (iI 0), .int (iI 0), .int (iI 0), .ref xa4])), (g5, .inr (8, [.long (lI 0), .long (lI 0), .long (lI 0), .int (iI 0), .int (iI 0), .int (iI 0), .int (iI 0), .int (iI 0), .ref xd1, .ref xd2, .int (iI 0), .ref xd3, .ref xd4, .ref xd5, .ref xd6])), (g7, .inl (k 7, 2, .inr (.inr (.inr (.inr xrF))))), (hrr, .inr (9, [.ref xw1, .ref xw2, .int (iI 0), .int (iI 0), .int (iI 0)])), (hout, .inl (k 1, 1, .inr (.inl (aL aZ))))] s.heap.size = A at hD hE ⊢
  have hA : ∀ q : Nat, s.heap.size ≤ q → A q := fun q h => by rw [← hAe]; exact Or.inr h
  have hS : va_S A s.heap s.heap [] := va_S.rf
  obtain ⟨hK, hNw, hNc, hZs, hAO1, hAO2⟩ := id hE
  have hSF : CallFix p mI cO cL_storeSchedule 5 s ([.ref h0, .int (iI 0), .int (iI 1), .ref hout] : List Value).toArray woL_storeSchedule RL := ⟨hx, hb, hml, hown, hts⟩
  have hl := lv_entry ([.ref h0, .int (iI 0), .int (iI 1), .ref hout] : List Value) (n := 5) (Nat.le_of_ble_eq_true rfl)
  rw [lg_entry_eq]
  generalize (lg_sl ([.ref h0, .int (iI 0), .int (iI 1), .ref hout] : List Value) ++ List.replicate (5 - (lg_sl ([.ref h0, .int (iI 0), .int (iI 1), .ref hout] : List Value)).length) Slot.unset).toArray = ls at hl ⊢
  have hl : lv_has ls 5 [(0, .ref h0), (1, .int (iI 0)), (2, .int (iI 1)), (3, .ref hout)] := hl
  refine W_gen (fun Q hQ => ?_)
  change W p l e ({ frames := 4, cells := 0, slots := 0, locals := 88 } : Room) s mI _ below meth cO s.heap [] 0 0 Q _
  have hP : va_P (dC, dI) vwCl [(h0, .inr (10, [.ref hn, .ref g1, .ref g2, .ref hea, .ref g3, .ref g4, .ref g5, .ref g6, .ref g7, .int (iI 0), .int (iI 0), .int (iI 0), .int (iI (-1)), .int (iI (-1)), .int (iI 0)])), (hn, .inr (2, [.ref xa1, .ref xa2, .ref xa3, .ref xa5, .ref xa8, .int (iI 0), .int (iI 0), .int (iI 0)])), (xa1, .inl (k 0, 5, .inl (aI (upI (upI (upI (upI (upI aZ 0 0) 1 0) 2 10) 3 500) 4 0)))), (xa3, .inr (7, [.int (iI 0), .int (iI 0), .int (iI 0), .long (lI 0), .int (iI 0), .int (iI 0), .int (iI 0), .long (lI 0), .long (lI 0), .long (lI 0), .long (lI 0), .long (lI 0), .int (iI 0), .int (iI 0), .int (iI 0), .int (iI 0), .ref xa4])), (g5, .inr (8, [.long (lI 0), .long (lI 0), .long (lI 0), .int (iI 0), .int (iI 0), .int (iI 0), .int (iI 0), .int (iI 0), .ref xd1, .ref xd2, .int (iI 0), .ref xd3, .ref xd4, .ref xd5, .ref xd6])), (g7, .inl (k 7, 2, .inr (.inr (.inr (.inr xrF))))), (hrr, .inr (9, [.ref xw1, .ref xw2, .int (iI 0), .int (iI 0), .int (iI 0)])), (hout, .inl (k 1, 1, .inr (.inl (aL aZ))))] s.heap := hP
  refine lv_aload_n hx hb dL_storeSchedule_0 rfl (lv_at hl 3 rfl) ?_
  refine q_iconst hx hb dL_storeSchedule_1 ?_
  refine lv_aload_n hx hb dL_storeSchedule_2 rfl (lv_at hl 0 rfl) ?_
  refine lv_iload_n hx hb dL_storeSchedule_3 rfl (lv_at hl 1 rfl) ?_
  refine lv_iload_n hx hb dL_storeSchedule_4 rfl (lv_at hl 2 rfl) ?_
  refine ki (va_runV (As := [.int (iI 0), .int (iI 1)]) (rest := [.int (iI 0), .ref hout]) hSF ((c_X10_storeSchedule_0_1 l dC dI k h0 hn g1 g2 hea g3 g4 g5 g6 g7 xa1 xa2 xa3 xa4 xa5 0 0 xa8 0 0 0 xd1 xd2 xd3 xd4 xd5 xd6 hrr xw1 xw2 xrF hr9) s.heap.size) (cwV 2 hts gL_storeSchedule_X10_storeSchedule rfl rfl rfl (by decide +kernel) ⟨Nat.le_of_ble_eq_true rfl, Nat.le_of_ble_eq_true rfl⟩) (preV hP hD hE hS hA [0, 1, 2, 3, 4, 5, 6] rfl (by decide) (ci := 10) (q0 := 0) rfl rfl) rfl rfl hl.1 rfl (lv_room (Nat.le_of_ble_eq_true rfl)) dL_storeSchedule_5 ⟨Nat.le_of_ble_eq_true rfl, Nat.le_of_ble_eq_true rfl⟩) hP hD hS hA [0, 1, 2, 3, 4, 5, 6] [7] rfl (wr := [(hout, .inl (k 1, 1, .inr (.inl (aL aZ))))]) rfl (by decide) (by decide) (fun r5 _ H locs hw hP hD hS => ?_)
  obtain rfl : r5 = (iI 0) := hw
  have hP : va_P (dC, dI) vwCl [(hout, .inl (k 1, 1, .inr (.inl (aL aZ))))] H := hP
  have hD : va_D A [(hout, .inl (k 1, 1, .inr (.inl (aL aZ))))] := hD
  refine q_i2l hx hb dL_storeSchedule_8 (by omega) ?_
  refine q_last (G := (upI aZ 0 0)) hx hb hK hP hD hS 0 1 rfl rfl (by omega) rfl dL_storeSchedule_9 (fun H locs hP hD hS => ?_)
  have hP : va_P (dC, dI) vwCl [(hout, .inl (k 1, 1, .inr (.inl (aL (upI aZ 0 0)))))] H := hP
  have hD : va_D A [(hout, .inl (k 1, 1, .inr (.inl (aL (upI aZ 0 0)))))] := hD
  refine lv_goto (tgt := 17) hx hb dL_storeSchedule_10 (by decide) ?_
  refine q_iconst hx hb dL_storeSchedule_17 ?_
  rw [hQ]
  refine W.widen (k := 0) (n := 0) (Nat.le_of_ble_eq_true rfl) (Nat.le_of_ble_eq_true rfl) ?_
  exact W.iret (v := (iI 0)) hx hb hr (fun t ht hW => ⟨⟨(iI 0), (), rfl, rfl, by rw [ht]; exact hP.sub [0] rfl, by rw [hAe]; exact hD.sub [0] (by decide) rfl⟩, hS.F ht⟩) hS.2.2 dL_storeSchedule_18
set_option maxHeartbeats 4000000 in
set_option maxRecDepth 100000 in
/-- the law: storeSchedule, answered -/
theorem c_L_storeSchedule_1_0 (l : Launch) (dC : Nat → ClassId) (dI : Nat → Nat → Nat) (k : Nat → ClassId) (hout : Nat) (h0 hn g1 g2 hea g3 g4 g5 g6 g7 xa1 xa2 xa3 xa4 xa5 xa6 xa7 xa8 xa9 xa10 xa11 xd1 xd2 xd3 xd4 xd5 xd6 hrr xw1 xw2 : Nat) (xrF : Nat → Option Nat) (hr9 : xrF 1 = some hrr) (sz : Nat) : Met l yL_storeSchedule woL_storeSchedule ({ frames := 4, cells := 0, slots := 0, locals := 88 } : Room) (PcW (dC, dI) k [.ref h0, .int (iI 1), .int (iI 0), .ref hout] [(h0, .inr (10, [.ref hn, .ref g1, .ref g2, .ref hea, .ref g3, .ref g4, .ref g5, .ref g6, .ref g7, .int (iI 0), .int (iI 0), .int (iI 0), .int (iI (-1)), .int (iI (-1)), .int (iI 0)])), (hn, .inr (2, [.ref xa1, .ref xa2, .ref xa3, .ref xa5, .ref xa8, .int (iI 0), .int (iI 0), .int (iI 0)])), (xa1, .inl (k 0, 5, .inl (aI (upI (upI (upI (upI (upI aZ 0 0) 1 0) 2 10) 3 500) 4 0)))), (xa3, .inr (7, [.int (iI 0), .int (iI 0), .int (iI 0), .long (lI 0), .int (iI 0), .int (iI 0), .int (iI 0), .long (lI 0), .long (lI 0), .long (lI 0), .long (lI 0), .long (lI 0), .int (iI 0), .int (iI 0), .int (iI 0), .int (iI 0), .ref xa4])), (g5, .inr (8, [.long (lI 0), .long (lI 0), .long (lI 0), .int (iI 0), .int (iI 0), .int (iI 0), .int (iI 0), .int (iI 0), .ref xd1, .ref xd2, .int (iI 0), .ref xd3, .ref xd4, .ref xd5, .ref xd6])), (g7, .inl (k 7, 2, .inr (.inr (.inr (.inr xrF))))), (hrr, .inr (9, [.ref xw1, .ref xw2, .int (iI 0), .int (iI 0), .int (iI 0)])), (hout, .inl (k 1, 1, .inr (.inl (aL aZ))))] sz) (va_Qi (fun (r : Int32) (_ : Unit) => r = iI 0) (QB (dC, dI) [(h0, .inr (10, [.ref hn, .ref g1, .ref g2, .ref hea, .ref g3, .ref g4, .ref g5, .ref g6, .ref g7, .int (iI 0), .int (iI 0), .int (iI 0), .int (iI (-1)), .int (iI (-1)), .int (iI 0)])), (hn, .inr (2, [.ref xa1, .ref xa2, .ref xa3, .ref xa5, .ref xa8, .int (iI 0), .int (iI 0), .int (iI 0)])), (xa1, .inl (k 0, 5, .inl (aI (upI (upI (upI (upI (upI aZ 0 0) 1 0) 2 10) 3 500) 4 0)))), (xa3, .inr (7, [.int (iI 0), .int (iI 0), .int (iI 0), .long (lI 0), .int (iI 0), .int (iI 0), .int (iI 0), .long (lI 0), .long (lI 0), .long (lI 0), .long (lI 0), .long (lI 0), .int (iI 0), .int (iI 0), .int (iI 0), .int (iI 0), .ref xa4])), (g5, .inr (8, [.long (lI 0), .long (lI 0), .long (lI 0), .int (iI 0), .int (iI 0), .int (iI 0), .int (iI 0), .int (iI 0), .ref xd1, .ref xd2, .int (iI 0), .ref xd3, .ref xd4, .ref xd5, .ref xd6])), (g7, .inl (k 7, 2, .inr (.inr (.inr (.inr xrF))))), (hrr, .inr (9, [.ref xw1, .ref xw2, .int (iI 0), .int (iI 0), .int (iI 0)])), (hout, .inl (k 1, 1, .inr (.inl (aL aZ))))] (fun _ => [(hout, .inl (k 1, 1, .inr (.inl (aL (upI aZ 0 0)))))]) sz) (va_A [(h0, .inr (10, [.ref hn, .ref g1, .ref g2, .ref hea, .ref g3, .ref g4, .ref g5, .ref g6, .ref g7, .int (iI 0), .int (iI 0), .int (iI 0), .int (iI (-1)), .int (iI (-1)), .int (iI 0)])), (hn, .inr (2, [.ref xa1, .ref xa2, .ref xa3, .ref xa5, .ref xa8, .int (iI 0), .int (iI 0), .int (iI 0)])), (xa1, .inl (k 0, 5, .inl (aI (upI (upI (upI (upI (upI aZ 0 0) 1 0) 2 10) 3 500) 4 0)))), (xa3, .inr (7, [.int (iI 0), .int (iI 0), .int (iI 0), .long (lI 0), .int (iI 0), .int (iI 0), .int (iI 0), .long (lI 0), .long (lI 0), .long (lI 0), .long (lI 0), .long (lI 0), .int (iI 0), .int (iI 0), .int (iI 0), .int (iI 0), .ref xa4])), (g5, .inr (8, [.long (lI 0), .long (lI 0), .long (lI 0), .int (iI 0), .int (iI 0), .int (iI 0), .int (iI 0), .int (iI 0), .ref xd1, .ref xd2, .int (iI 0), .ref xd3, .ref xd4, .ref xd5, .ref xd6])), (g7, .inl (k 7, 2, .inr (.inr (.inr (.inr xrF))))), (hrr, .inr (9, [.ref xw1, .ref xw2, .int (iI 0), .int (iI 0), .int (iI 0)])), (hout, .inl (k 1, 1, .inr (.inl (aL aZ))))] sz)) 0 0 (va_A [(h0, .inr (10, [.ref hn, .ref g1, .ref g2, .ref hea, .ref g3, .ref g4, .ref g5, .ref g6, .ref g7, .int (iI 0), .int (iI 0), .int (iI 0), .int (iI (-1)), .int (iI (-1)), .int (iI 0)])), (hn, .inr (2, [.ref xa1, .ref xa2, .ref xa3, .ref xa5, .ref xa8, .int (iI 0), .int (iI 0), .int (iI 0)])), (xa1, .inl (k 0, 5, .inl (aI (upI (upI (upI (upI (upI aZ 0 0) 1 0) 2 10) 3 500) 4 0)))), (xa3, .inr (7, [.int (iI 0), .int (iI 0), .int (iI 0), .long (lI 0), .int (iI 0), .int (iI 0), .int (iI 0), .long (lI 0), .long (lI 0), .long (lI 0), .long (lI 0), .long (lI 0), .int (iI 0), .int (iI 0), .int (iI 0), .int (iI 0), .ref xa4])), (g5, .inr (8, [.long (lI 0), .long (lI 0), .long (lI 0), .int (iI 0), .int (iI 0), .int (iI 0), .int (iI 0), .int (iI 0), .ref xd1, .ref xd2, .int (iI 0), .ref xd3, .ref xd4, .ref xd5, .ref xd6])), (g7, .inl (k 7, 2, .inr (.inr (.inr (.inr xrF))))), (hrr, .inr (9, [.ref xw1, .ref xw2, .int (iI 0), .int (iI 0), .int (iI 0)])), (hout, .inl (k 1, 1, .inr (.inl (aL aZ))))] sz) := by
  refine Met_ofWH (cc := cL_storeSchedule) (maxL := 5) (ret := (some .int)) (by decide) rfl ?_
  intro p e s mI args below meth cO s₁ B hml hv
  obtain ⟨rfl, rfl, hP, hD0, hE⟩ := hv
  have hx := B.exec
  have hb := B.bytes
  have hr := B.returns
  have hts := atoms_spec (ws := woL_storeSchedule) B.pre
  have hown : s.vm.findClass RL = some mI.cls := findClass_of_methodNamed B.named
  have hlocks := B.notSynchronized
  have htab := vx_table (x := yL_storeSchedule) B (hts (.codeWith yL_storeSchedule cL_storeSchedule 5 (some .int) [(0, 10, 13, 32)]) List.mem_cons_self)
  have hD := hD0.self (sz := s.heap.size)
  generalize hAe : va_A [(h0, .inr (10, [.ref hn, .ref g1, .ref g2, .ref hea, .ref g3, .ref g4, .ref g5, .ref g6, .ref g7, .int (iI 0), .int (iI 0), .int (iI 0), .int (iI (-1)), .int (iI (-1)), .int (iI 0)])), (hn, .inr (2, [.ref xa1, .ref xa2, .ref xa3, .ref xa5, .ref xa8, .int (iI 0), .int (iI 0), .int (iI 0)])), (xa1, .inl (k 0, 5, .inl (aI (upI (upI (upI (upI (upI aZ 0 0) 1 0) 2 10) 3 500) 4 0)))), (xa3, .inr (7, [.int (iI 0), .int (iI 0), .int (iI 0), .long (lI 0), .int (iI 0), .int (iI 0), .int (iI 0), .long (lI 0), .long (lI 0), .long (lI 0), .long (lI 0), .long (lI 0), .int (iI 0), .int (iI 0), .int (iI 0), .int (iI 0), .ref xa4])), (g5, .inr (8, [.long (lI 0), .long (lI 0), .long (lI 0), .int (iI 0), .int (iI 0), .int (iI 0), .int (iI 0), .int (iI 0), .ref xd1, .ref xd2, .int (iI 0), .ref xd3, .ref xd4, .ref xd5, .ref xd6])), (g7, .inl (k 7, 2, .inr (.inr (.inr (.inr xrF))))), (hrr, .inr (9, [.ref xw1, .ref xw2, .int (iI 0), .int (iI 0), .int (iI 0)])), (hout, .inl (k 1, 1, .inr (.inl (aL aZ))))] s.heap.size = A at hD hE ⊢
  have hA : ∀ q : Nat, s.heap.size ≤ q → A q := fun q h => by rw [← hAe]; exact Or.inr h
  have hS : va_S A s.heap s.heap [] := va_S.rf
  obtain ⟨hK, hNw, hNc, hZs, hAO1, hAO2⟩ := id hE
  have hSF : CallFix p mI cO cL_storeSchedule 5 s ([.ref h0, .int (iI 1), .int (iI 0), .ref hout] : List Value).toArray woL_storeSchedule RL := ⟨hx, hb, hml, hown, hts⟩
  have hl := lv_entry ([.ref h0, .int (iI 1), .int (iI 0), .ref hout] : List Value) (n := 5) (Nat.le_of_ble_eq_true rfl)
  rw [lg_entry_eq]
  generalize (lg_sl ([.ref h0, .int (iI 1), .int (iI 0), .ref hout] : List Value) ++ List.replicate (5 - (lg_sl ([.ref h0, .int (iI 1), .int (iI 0), .ref hout] : List Value)).length) Slot.unset).toArray = ls at hl ⊢
  have hl : lv_has ls 5 [(0, .ref h0), (1, .int (iI 1)), (2, .int (iI 0)), (3, .ref hout)] := hl
  refine W_gen (fun Q hQ => ?_)
  change W p l e ({ frames := 4, cells := 0, slots := 0, locals := 88 } : Room) s mI _ below meth cO s.heap [] 0 0 Q _
  have hP : va_P (dC, dI) vwCl [(h0, .inr (10, [.ref hn, .ref g1, .ref g2, .ref hea, .ref g3, .ref g4, .ref g5, .ref g6, .ref g7, .int (iI 0), .int (iI 0), .int (iI 0), .int (iI (-1)), .int (iI (-1)), .int (iI 0)])), (hn, .inr (2, [.ref xa1, .ref xa2, .ref xa3, .ref xa5, .ref xa8, .int (iI 0), .int (iI 0), .int (iI 0)])), (xa1, .inl (k 0, 5, .inl (aI (upI (upI (upI (upI (upI aZ 0 0) 1 0) 2 10) 3 500) 4 0)))), (xa3, .inr (7, [.int (iI 0), .int (iI 0), .int (iI 0), .long (lI 0), .int (iI 0), .int (iI 0), .int (iI 0), .long (lI 0), .long (lI 0), .long (lI 0), .long (lI 0), .long (lI 0), .int (iI 0), .int (iI 0), .int (iI 0), .int (iI 0), .ref xa4])), (g5, .inr (8, [.long (lI 0), .long (lI 0), .long (lI 0), .int (iI 0), .int (iI 0), .int (iI 0), .int (iI 0), .int (iI 0), .ref xd1, .ref xd2, .int (iI 0), .ref xd3, .ref xd4, .ref xd5, .ref xd6])), (g7, .inl (k 7, 2, .inr (.inr (.inr (.inr xrF))))), (hrr, .inr (9, [.ref xw1, .ref xw2, .int (iI 0), .int (iI 0), .int (iI 0)])), (hout, .inl (k 1, 1, .inr (.inl (aL aZ))))] s.heap := hP
  refine lv_aload_n hx hb dL_storeSchedule_0 rfl (lv_at hl 3 rfl) ?_
  refine q_iconst hx hb dL_storeSchedule_1 ?_
  refine lv_aload_n hx hb dL_storeSchedule_2 rfl (lv_at hl 0 rfl) ?_
  refine lv_iload_n hx hb dL_storeSchedule_3 rfl (lv_at hl 1 rfl) ?_
  refine lv_iload_n hx hb dL_storeSchedule_4 rfl (lv_at hl 2 rfl) ?_
  refine ki (va_runV (As := [.int (iI 1), .int (iI 0)]) (rest := [.int (iI 0), .ref hout]) hSF ((c_X10_storeSchedule_1_0 l dC dI k h0 hn g1 g2 hea g3 g4 g5 g6 g7 xa1 xa2 xa3 xa4 xa5 0 0 xa8 0 0 0 xd1 xd2 xd3 xd4 xd5 xd6 hrr xw1 xw2 xrF hr9) s.heap.size) (cwV 2 hts gL_storeSchedule_X10_storeSchedule rfl rfl rfl (by decide +kernel) ⟨Nat.le_of_ble_eq_true rfl, Nat.le_of_ble_eq_true rfl⟩) (preV hP hD hE hS hA [0, 1, 2, 3, 4, 5, 6] rfl (by decide) (ci := 10) (q0 := 0) rfl rfl) rfl rfl hl.1 rfl (lv_room (Nat.le_of_ble_eq_true rfl)) dL_storeSchedule_5 ⟨Nat.le_of_ble_eq_true rfl, Nat.le_of_ble_eq_true rfl⟩) hP hD hS hA [0, 1, 2, 3, 4, 5, 6] [7] rfl (wr := [(hout, .inl (k 1, 1, .inr (.inl (aL aZ))))]) rfl (by decide) (by decide) (fun r5 _ H locs hw hP hD hS => ?_)
  obtain rfl : r5 = (iI 0) := hw
  have hP : va_P (dC, dI) vwCl [(hout, .inl (k 1, 1, .inr (.inl (aL aZ))))] H := hP
  have hD : va_D A [(hout, .inl (k 1, 1, .inr (.inl (aL aZ))))] := hD
  refine q_i2l hx hb dL_storeSchedule_8 (by omega) ?_
  refine q_last (G := (upI aZ 0 0)) hx hb hK hP hD hS 0 1 rfl rfl (by omega) rfl dL_storeSchedule_9 (fun H locs hP hD hS => ?_)
  have hP : va_P (dC, dI) vwCl [(hout, .inl (k 1, 1, .inr (.inl (aL (upI aZ 0 0)))))] H := hP
  have hD : va_D A [(hout, .inl (k 1, 1, .inr (.inl (aL (upI aZ 0 0)))))] := hD
  refine lv_goto (tgt := 17) hx hb dL_storeSchedule_10 (by decide) ?_
  refine q_iconst hx hb dL_storeSchedule_17 ?_
  rw [hQ]
  refine W.widen (k := 0) (n := 0) (Nat.le_of_ble_eq_true rfl) (Nat.le_of_ble_eq_true rfl) ?_
  exact W.iret (v := (iI 0)) hx hb hr (fun t ht hW => ⟨⟨(iI 0), (), rfl, rfl, by rw [ht]; exact hP.sub [0] rfl, by rw [hAe]; exact hD.sub [0] (by decide) rfl⟩, hS.F ht⟩) hS.2.2 dL_storeSchedule_18
set_option maxHeartbeats 4000000 in
set_option maxRecDepth 100000 in
/-- the law: storeSchedule, answered -/
theorem c_L_storeSchedule_1_1 (l : Launch) (dC : Nat → ClassId) (dI : Nat → Nat → Nat) (k : Nat → ClassId) (hout : Nat) (h0 hn g1 g2 hea g3 g4 g5 g6 g7 xa1 xa2 xa3 xa4 xa5 xa6 xa7 xa8 xa9 xa10 xa11 xd1 xd2 xd3 xd4 xd5 xd6 hrr xw1 xw2 : Nat) (xrF : Nat → Option Nat) (hr9 : xrF 1 = some hrr) (sz : Nat) : Met l yL_storeSchedule woL_storeSchedule ({ frames := 4, cells := 0, slots := 0, locals := 88 } : Room) (PcW (dC, dI) k [.ref h0, .int (iI 1), .int (iI 1), .ref hout] [(h0, .inr (10, [.ref hn, .ref g1, .ref g2, .ref hea, .ref g3, .ref g4, .ref g5, .ref g6, .ref g7, .int (iI 0), .int (iI 0), .int (iI 0), .int (iI (-1)), .int (iI (-1)), .int (iI 0)])), (hn, .inr (2, [.ref xa1, .ref xa2, .ref xa3, .ref xa5, .ref xa8, .int (iI 0), .int (iI 0), .int (iI 0)])), (xa1, .inl (k 0, 5, .inl (aI (upI (upI (upI (upI (upI aZ 0 0) 1 0) 2 10) 3 500) 4 0)))), (xa3, .inr (7, [.int (iI 0), .int (iI 0), .int (iI 0), .long (lI 0), .int (iI 0), .int (iI 0), .int (iI 0), .long (lI 0), .long (lI 0), .long (lI 0), .long (lI 0), .long (lI 0), .int (iI 0), .int (iI 0), .int (iI 0), .int (iI 0), .ref xa4])), (g5, .inr (8, [.long (lI 0), .long (lI 0), .long (lI 0), .int (iI 0), .int (iI 0), .int (iI 0), .int (iI 0), .int (iI 0), .ref xd1, .ref xd2, .int (iI 0), .ref xd3, .ref xd4, .ref xd5, .ref xd6])), (g7, .inl (k 7, 2, .inr (.inr (.inr (.inr xrF))))), (hrr, .inr (9, [.ref xw1, .ref xw2, .int (iI 0), .int (iI 0), .int (iI 0)])), (hout, .inl (k 1, 1, .inr (.inl (aL aZ))))] sz) (va_Qi (fun (r : Int32) (_ : Unit) => r = iI 0) (QB (dC, dI) [(h0, .inr (10, [.ref hn, .ref g1, .ref g2, .ref hea, .ref g3, .ref g4, .ref g5, .ref g6, .ref g7, .int (iI 0), .int (iI 0), .int (iI 0), .int (iI (-1)), .int (iI (-1)), .int (iI 0)])), (hn, .inr (2, [.ref xa1, .ref xa2, .ref xa3, .ref xa5, .ref xa8, .int (iI 0), .int (iI 0), .int (iI 0)])), (xa1, .inl (k 0, 5, .inl (aI (upI (upI (upI (upI (upI aZ 0 0) 1 0) 2 10) 3 500) 4 0)))), (xa3, .inr (7, [.int (iI 0), .int (iI 0), .int (iI 0), .long (lI 0), .int (iI 0), .int (iI 0), .int (iI 0), .long (lI 0), .long (lI 0), .long (lI 0), .long (lI 0), .long (lI 0), .int (iI 0), .int (iI 0), .int (iI 0), .int (iI 0), .ref xa4])), (g5, .inr (8, [.long (lI 0), .long (lI 0), .long (lI 0), .int (iI 0), .int (iI 0), .int (iI 0), .int (iI 0), .int (iI 0), .ref xd1, .ref xd2, .int (iI 0), .ref xd3, .ref xd4, .ref xd5, .ref xd6])), (g7, .inl (k 7, 2, .inr (.inr (.inr (.inr xrF))))), (hrr, .inr (9, [.ref xw1, .ref xw2, .int (iI 0), .int (iI 0), .int (iI 0)])), (hout, .inl (k 1, 1, .inr (.inl (aL aZ))))] (fun _ => [(hout, .inl (k 1, 1, .inr (.inl (aL (upI aZ 0 0)))))]) sz) (va_A [(h0, .inr (10, [.ref hn, .ref g1, .ref g2, .ref hea, .ref g3, .ref g4, .ref g5, .ref g6, .ref g7, .int (iI 0), .int (iI 0), .int (iI 0), .int (iI (-1)), .int (iI (-1)), .int (iI 0)])), (hn, .inr (2, [.ref xa1, .ref xa2, .ref xa3, .ref xa5, .ref xa8, .int (iI 0), .int (iI 0), .int (iI 0)])), (xa1, .inl (k 0, 5, .inl (aI (upI (upI (upI (upI (upI aZ 0 0) 1 0) 2 10) 3 500) 4 0)))), (xa3, .inr (7, [.int (iI 0), .int (iI 0), .int (iI 0), .long (lI 0), .int (iI 0), .int (iI 0), .int (iI 0), .long (lI 0), .long (lI 0), .long (lI 0), .long (lI 0), .long (lI 0), .int (iI 0), .int (iI 0), .int (iI 0), .int (iI 0), .ref xa4])), (g5, .inr (8, [.long (lI 0), .long (lI 0), .long (lI 0), .int (iI 0), .int (iI 0), .int (iI 0), .int (iI 0), .int (iI 0), .ref xd1, .ref xd2, .int (iI 0), .ref xd3, .ref xd4, .ref xd5, .ref xd6])), (g7, .inl (k 7, 2, .inr (.inr (.inr (.inr xrF))))), (hrr, .inr (9, [.ref xw1, .ref xw2, .int (iI 0), .int (iI 0), .int (iI 0)])), (hout, .inl (k 1, 1, .inr (.inl (aL aZ))))] sz)) 0 0 (va_A [(h0, .inr (10, [.ref hn, .ref g1, .ref g2, .ref hea, .ref g3, .ref g4, .ref g5, .ref g6, .ref g7, .int (iI 0), .int (iI 0), .int (iI 0), .int (iI (-1)), .int (iI (-1)), .int (iI 0)])), (hn, .inr (2, [.ref xa1, .ref xa2, .ref xa3, .ref xa5, .ref xa8, .int (iI 0), .int (iI 0), .int (iI 0)])), (xa1, .inl (k 0, 5, .inl (aI (upI (upI (upI (upI (upI aZ 0 0) 1 0) 2 10) 3 500) 4 0)))), (xa3, .inr (7, [.int (iI 0), .int (iI 0), .int (iI 0), .long (lI 0), .int (iI 0), .int (iI 0), .int (iI 0), .long (lI 0), .long (lI 0), .long (lI 0), .long (lI 0), .long (lI 0), .int (iI 0), .int (iI 0), .int (iI 0), .int (iI 0), .ref xa4])), (g5, .inr (8, [.long (lI 0), .long (lI 0), .long (lI 0), .int (iI 0), .int (iI 0), .int (iI 0), .int (iI 0), .int (iI 0), .ref xd1, .ref xd2, .int (iI 0), .ref xd3, .ref xd4, .ref xd5, .ref xd6])), (g7, .inl (k 7, 2, .inr (.inr (.inr (.inr xrF))))), (hrr, .inr (9, [.ref xw1, .ref xw2, .int (iI 0), .int (iI 0), .int (iI 0)])), (hout, .inl (k 1, 1, .inr (.inl (aL aZ))))] sz) := by
  refine Met_ofWH (cc := cL_storeSchedule) (maxL := 5) (ret := (some .int)) (by decide) rfl ?_
  intro p e s mI args below meth cO s₁ B hml hv
  obtain ⟨rfl, rfl, hP, hD0, hE⟩ := hv
  have hx := B.exec
  have hb := B.bytes
  have hr := B.returns
  have hts := atoms_spec (ws := woL_storeSchedule) B.pre
  have hown : s.vm.findClass RL = some mI.cls := findClass_of_methodNamed B.named
  have hlocks := B.notSynchronized
  have htab := vx_table (x := yL_storeSchedule) B (hts (.codeWith yL_storeSchedule cL_storeSchedule 5 (some .int) [(0, 10, 13, 32)]) List.mem_cons_self)
  have hD := hD0.self (sz := s.heap.size)
  generalize hAe : va_A [(h0, .inr (10, [.ref hn, .ref g1, .ref g2, .ref hea, .ref g3, .ref g4, .ref g5, .ref g6, .ref g7, .int (iI 0), .int (iI 0), .int (iI 0), .int (iI (-1)), .int (iI (-1)), .int (iI 0)])), (hn, .inr (2, [.ref xa1, .ref xa2, .ref xa3, .ref xa5, .ref xa8, .int (iI 0), .int (iI 0), .int (iI 0)])), (xa1, .inl (k 0, 5, .inl (aI (upI (upI (upI (upI (upI aZ 0 0) 1 0) 2 10) 3 500) 4 0)))), (xa3, .inr (7, [.int (iI 0), .int (iI 0), .int (iI 0), .long (lI 0), .int (iI 0), .int (iI 0), .int (iI 0), .long (lI 0), .long (lI 0), .long (lI 0), .long (lI 0), .long (lI 0), .int (iI 0), .int (iI 0), .int (iI 0), .int (iI 0), .ref xa4])), (g5, .inr (8, [.long (lI 0), .long (lI 0), .long (lI 0), .int (iI 0), .int (iI 0), .int (iI 0), .int (iI 0), .int (iI 0), .ref xd1, .ref xd2, .int (iI 0), .ref xd3, .ref xd4, .ref xd5, .ref xd6])), (g7, .inl (k 7, 2, .inr (.inr (.inr (.inr xrF))))), (hrr, .inr (9, [.ref xw1, .ref xw2, .int (iI 0), .int (iI 0), .int (iI 0)])), (hout, .inl (k 1, 1, .inr (.inl (aL aZ))))] s.heap.size = A at hD hE ⊢
  have hA : ∀ q : Nat, s.heap.size ≤ q → A q := fun q h => by rw [← hAe]; exact Or.inr h
  have hS : va_S A s.heap s.heap [] := va_S.rf
  obtain ⟨hK, hNw, hNc, hZs, hAO1, hAO2⟩ := id hE
  have hSF : CallFix p mI cO cL_storeSchedule 5 s ([.ref h0, .int (iI 1), .int (iI 1), .ref hout] : List Value).toArray woL_storeSchedule RL := ⟨hx, hb, hml, hown, hts⟩
  have hl := lv_entry ([.ref h0, .int (iI 1), .int (iI 1), .ref hout] : List Value) (n := 5) (Nat.le_of_ble_eq_true rfl)
  rw [lg_entry_eq]
  generalize (lg_sl ([.ref h0, .int (iI 1), .int (iI 1), .ref hout] : List Value) ++ List.replicate (5 - (lg_sl ([.ref h0, .int (iI 1), .int (iI 1), .ref hout] : List Value)).length) Slot.unset).toArray = ls at hl ⊢
  have hl : lv_has ls 5 [(0, .ref h0), (1, .int (iI 1)), (2, .int (iI 1)), (3, .ref hout)] := hl
  refine W_gen (fun Q hQ => ?_)
  change W p l e ({ frames := 4, cells := 0, slots := 0, locals := 88 } : Room) s mI _ below meth cO s.heap [] 0 0 Q _
  have hP : va_P (dC, dI) vwCl [(h0, .inr (10, [.ref hn, .ref g1, .ref g2, .ref hea, .ref g3, .ref g4, .ref g5, .ref g6, .ref g7, .int (iI 0), .int (iI 0), .int (iI 0), .int (iI (-1)), .int (iI (-1)), .int (iI 0)])), (hn, .inr (2, [.ref xa1, .ref xa2, .ref xa3, .ref xa5, .ref xa8, .int (iI 0), .int (iI 0), .int (iI 0)])), (xa1, .inl (k 0, 5, .inl (aI (upI (upI (upI (upI (upI aZ 0 0) 1 0) 2 10) 3 500) 4 0)))), (xa3, .inr (7, [.int (iI 0), .int (iI 0), .int (iI 0), .long (lI 0), .int (iI 0), .int (iI 0), .int (iI 0), .long (lI 0), .long (lI 0), .long (lI 0), .long (lI 0), .long (lI 0), .int (iI 0), .int (iI 0), .int (iI 0), .int (iI 0), .ref xa4])), (g5, .inr (8, [.long (lI 0), .long (lI 0), .long (lI 0), .int (iI 0), .int (iI 0), .int (iI 0), .int (iI 0), .int (iI 0), .ref xd1, .ref xd2, .int (iI 0), .ref xd3, .ref xd4, .ref xd5, .ref xd6])), (g7, .inl (k 7, 2, .inr (.inr (.inr (.inr xrF))))), (hrr, .inr (9, [.ref xw1, .ref xw2, .int (iI 0), .int (iI 0), .int (iI 0)])), (hout, .inl (k 1, 1, .inr (.inl (aL aZ))))] s.heap := hP
  refine lv_aload_n hx hb dL_storeSchedule_0 rfl (lv_at hl 3 rfl) ?_
  refine q_iconst hx hb dL_storeSchedule_1 ?_
  refine lv_aload_n hx hb dL_storeSchedule_2 rfl (lv_at hl 0 rfl) ?_
  refine lv_iload_n hx hb dL_storeSchedule_3 rfl (lv_at hl 1 rfl) ?_
  refine lv_iload_n hx hb dL_storeSchedule_4 rfl (lv_at hl 2 rfl) ?_
  refine ki (va_runV (As := [.int (iI 1), .int (iI 1)]) (rest := [.int (iI 0), .ref hout]) hSF ((c_X10_storeSchedule_1_1 l dC dI k h0 hn g1 g2 hea g3 g4 g5 g6 g7 xa1 xa2 xa3 xa4 xa5 0 0 xa8 0 0 0 xd1 xd2 xd3 xd4 xd5 xd6 hrr xw1 xw2 xrF hr9) s.heap.size) (cwV 2 hts gL_storeSchedule_X10_storeSchedule rfl rfl rfl (by decide +kernel) ⟨Nat.le_of_ble_eq_true rfl, Nat.le_of_ble_eq_true rfl⟩) (preV hP hD hE hS hA [0, 1, 2, 3, 4, 5, 6] rfl (by decide) (ci := 10) (q0 := 0) rfl rfl) rfl rfl hl.1 rfl (lv_room (Nat.le_of_ble_eq_true rfl)) dL_storeSchedule_5 ⟨Nat.le_of_ble_eq_true rfl, Nat.le_of_ble_eq_true rfl⟩) hP hD hS hA [0, 1, 2, 3, 4, 5, 6] [7] rfl (wr := [(hout, .inl (k 1, 1, .inr (.inl (aL aZ))))]) rfl (by decide) (by decide) (fun r5 _ H locs hw hP hD hS => ?_)
  obtain rfl : r5 = (iI 0) := hw
  have hP : va_P (dC, dI) vwCl [(hout, .inl (k 1, 1, .inr (.inl (aL aZ))))] H := hP
  have hD : va_D A [(hout, .inl (k 1, 1, .inr (.inl (aL aZ))))] := hD
  refine q_i2l hx hb dL_storeSchedule_8 (by omega) ?_
  refine q_last (G := (upI aZ 0 0)) hx hb hK hP hD hS 0 1 rfl rfl (by omega) rfl dL_storeSchedule_9 (fun H locs hP hD hS => ?_)
  have hP : va_P (dC, dI) vwCl [(hout, .inl (k 1, 1, .inr (.inl (aL (upI aZ 0 0)))))] H := hP
  have hD : va_D A [(hout, .inl (k 1, 1, .inr (.inl (aL (upI aZ 0 0)))))] := hD
  refine lv_goto (tgt := 17) hx hb dL_storeSchedule_10 (by decide) ?_
  refine q_iconst hx hb dL_storeSchedule_17 ?_
  rw [hQ]
  refine W.widen (k := 0) (n := 0) (Nat.le_of_ble_eq_true rfl) (Nat.le_of_ble_eq_true rfl) ?_
  exact W.iret (v := (iI 0)) hx hb hr (fun t ht hW => ⟨⟨(iI 0), (), rfl, rfl, by rw [ht]; exact hP.sub [0] rfl, by rw [hAe]; exact hD.sub [0] (by decide) rfl⟩, hS.F ht⟩) hS.2.2 dL_storeSchedule_18
set_option maxHeartbeats 4000000 in
set_option maxRecDepth 100000 in
/-- the law: storeSchedule, refused -/
theorem c_L_storeSchedule_x (l : Launch) (hl0 : l.stackTraces = false) (dC : Nat → ClassId) (dI : Nat → Nat → Nat) (k : Nat → ClassId) (hout : Nat) (h0 hn g1 g2 hea g3 g4 g5 g6 g7 xa1 xa2 xa3 xa4 xa5 xa6 xa7 xa8 xa9 xa10 xa11 : Nat) (xrF : Nat → Option Nat) (xv xw9 : Int) (hv9 : -2147483648 ≤ xv ∧ xv ≤ 2147483647) (hv : ¬ (0 ≤ xv ∧ xv ≤ 1)) (sz : Nat) : Met l yL_storeSchedule woL_storeSchedule ({ frames := 7, cells := 1, slots := 6, locals := 104 } : Room) (PcW (dC, dI) k [.ref h0, .int (iI xv), .int (iI xw9), .ref hout] [(h0, .inr (10, [.ref hn, .ref g1, .ref g2, .ref hea, .ref g3, .ref g4, .ref g5, .ref g6, .ref g7, .int (iI 0), .int (iI 0), .int (iI 0), .int (iI (-1)), .int (iI (-1)), .int (iI 0)])), (g7, .inl (k 7, 2, .inr (.inr (.inr (.inr xrF))))), (hout, .inl (k 1, 1, .inr (.inl (aL aZ))))] sz) (va_Qi (fun (r : Int32) (_ : Unit) => r = iI 1) (QB (dC, dI) [(h0, .inr (10, [.ref hn, .ref g1, .ref g2, .ref hea, .ref g3, .ref g4, .ref g5, .ref g6, .ref g7, .int (iI 0), .int (iI 0), .int (iI 0), .int (iI (-1)), .int (iI (-1)), .int (iI 0)])), (g7, .inl (k 7, 2, .inr (.inr (.inr (.inr xrF))))), (hout, .inl (k 1, 1, .inr (.inl (aL aZ))))] (fun _ => []) sz) (va_A [(h0, .inr (10, [.ref hn, .ref g1, .ref g2, .ref hea, .ref g3, .ref g4, .ref g5, .ref g6, .ref g7, .int (iI 0), .int (iI 0), .int (iI 0), .int (iI (-1)), .int (iI (-1)), .int (iI 0)])), (g7, .inl (k 7, 2, .inr (.inr (.inr (.inr xrF))))), (hout, .inl (k 1, 1, .inr (.inl (aL aZ))))] sz)) 1 6 (va_A [(h0, .inr (10, [.ref hn, .ref g1, .ref g2, .ref hea, .ref g3, .ref g4, .ref g5, .ref g6, .ref g7, .int (iI 0), .int (iI 0), .int (iI 0), .int (iI (-1)), .int (iI (-1)), .int (iI 0)])), (g7, .inl (k 7, 2, .inr (.inr (.inr (.inr xrF))))), (hout, .inl (k 1, 1, .inr (.inl (aL aZ))))] sz) := by
  refine Met_ofWH (cc := cL_storeSchedule) (maxL := 5) (ret := (some .int)) (by decide) rfl ?_
  intro p e s mI args below meth cO s₁ B hml hv
  obtain ⟨rfl, rfl, hP, hD0, hE⟩ := hv
  have hx := B.exec
  have hb := B.bytes
  have hr := B.returns
  have hts := atoms_spec (ws := woL_storeSchedule) B.pre
  have hown : s.vm.findClass RL = some mI.cls := findClass_of_methodNamed B.named
  have hlocks := B.notSynchronized
  have htab := vx_table (x := yL_storeSchedule) B (hts (.codeWith yL_storeSchedule cL_storeSchedule 5 (some .int) [(0, 10, 13, 32)]) List.mem_cons_self)
  have hD := hD0.self (sz := s.heap.size)
  generalize hAe : va_A [(h0, .inr (10, [.ref hn, .ref g1, .ref g2, .ref hea, .ref g3, .ref g4, .ref g5, .ref g6, .ref g7, .int (iI 0), .int (iI 0), .int (iI 0), .int (iI (-1)), .int (iI (-1)), .int (iI 0)])), (g7, .inl (k 7, 2, .inr (.inr (.inr (.inr xrF))))), (hout, .inl (k 1, 1, .inr (.inl (aL aZ))))] s.heap.size = A at hD hE ⊢
  have hA : ∀ q : Nat, s.heap.size ≤ q → A q := fun q h => by rw [← hAe]; exact Or.inr h
  have hS : va_S A s.heap s.heap [] := va_S.rf
  obtain ⟨hK, hNw, hNc, hZs, hAO1, hAO2⟩ := id hE
  have hSF : CallFix p mI cO cL_storeSchedule 5 s ([.ref h0, .int (iI xv), .int (iI xw9), .ref hout] : List Value).toArray woL_storeSchedule RL := ⟨hx, hb, hml, hown, hts⟩
  have hl := lv_entry ([.ref h0, .int (iI xv), .int (iI xw9), .ref hout] : List Value) (n := 5) (Nat.le_of_ble_eq_true rfl)
  rw [lg_entry_eq]
  generalize (lg_sl ([.ref h0, .int (iI xv), .int (iI xw9), .ref hout] : List Value) ++ List.replicate (5 - (lg_sl ([.ref h0, .int (iI xv), .int (iI xw9), .ref hout] : List Value)).length) Slot.unset).toArray = ls at hl ⊢
  have hl : lv_has ls 5 [(0, .ref h0), (1, .int (iI xv)), (2, .int (iI xw9)), (3, .ref hout)] := hl
  refine W_gen (fun Q hQ => ?_)
  change W p l e ({ frames := 7, cells := 1, slots := 6, locals := 104 } : Room) s mI _ below meth cO s.heap [] 0 0 Q _
  have hP : va_P (dC, dI) vwCl [(h0, .inr (10, [.ref hn, .ref g1, .ref g2, .ref hea, .ref g3, .ref g4, .ref g5, .ref g6, .ref g7, .int (iI 0), .int (iI 0), .int (iI 0), .int (iI (-1)), .int (iI (-1)), .int (iI 0)])), (g7, .inl (k 7, 2, .inr (.inr (.inr (.inr xrF))))), (hout, .inl (k 1, 1, .inr (.inl (aL aZ))))] s.heap := hP
  refine lv_aload_n hx hb dL_storeSchedule_0 rfl (lv_at hl 3 rfl) ?_
  refine q_iconst hx hb dL_storeSchedule_1 ?_
  refine lv_aload_n hx hb dL_storeSchedule_2 rfl (lv_at hl 0 rfl) ?_
  refine lv_iload_n hx hb dL_storeSchedule_3 rfl (lv_at hl 1 rfl) ?_
  refine lv_iload_n hx hb dL_storeSchedule_4 rfl (lv_at hl 2 rfl) ?_
  refine kxi (vx_runV (As := [.int (iI xv), .int (iI xw9)]) (rest := [.int (iI 0), .ref hout]) hSF ((c_X10_storeSchedule_x l hl0 dC dI k h0 hn g1 g2 hea g3 g4 g5 g6 g7 0 0 0 0 0 0 0 0 0 0 0 xrF xv xw9 (by omega) (by omega)) s.heap.size) (cwV 2 hts gL_storeSchedule_X10_storeSchedule rfl rfl rfl (by decide +kernel) ⟨Nat.le_of_ble_eq_true rfl, Nat.le_of_ble_eq_true rfl⟩) (preV hP hD hE hS hA [0, 1] rfl (by decide) (ci := 10) (q0 := 0) rfl rfl) rfl rfl hl.1 rfl (lv_room (Nat.le_of_ble_eq_true rfl)) dL_storeSchedule_5 ⟨Nat.le_of_ble_eq_true rfl, Nat.le_of_ble_eq_true rfl⟩) hP hD hS hA [0, 1] [2] rfl (wr := [(hout, .inl (k 1, 1, .inr (.inl (aL aZ))))]) rfl (by decide) (by decide) (fun ce q9 H locs hP hD hS hc9 hv9 hcl => ?_)
  refine vx_catch (own := RL) (name := "java/lang/IndexOutOfBoundsException") (E := "java/lang/IndexOutOfBoundsException") hown [] ⟨0, 10, 13, 32⟩ [] (by rw [htab]; rfl) (fun z hz => by cases hz) (by decide) (by decide) (hts (.classLink RL 32 "java/lang/IndexOutOfBoundsException") (List.mem_cons_of_mem _ (wl_24 (List.mem_of_getElem? (i := 23) rfl)))) (va_Nw.use rfl (hNw _ (List.mem_of_getElem? (i := 68) rfl))) hc9 hv9 hcl ?_
  change W p l e _ s mI _ below meth cO H locs _ _ Q (F0 mI 13 ls [.ref q9])
  refine lv_astore (lv' := [(4, .ref q9), (0, .ref h0), (1, .int (iI xv)), (2, .int (iI xw9)), (3, .ref hout)]) hx hb dL_storeSchedule_13 hl (by decide) rfl (fun ls hl => ?_)
  refine q_iconst hx hb dL_storeSchedule_15 ?_
  rw [hQ]
  refine W.widen (k := 1) (n := 6) (Nat.le_of_ble_eq_true rfl) (Nat.le_of_ble_eq_true rfl) ?_
  exact W.iret (v := (iI 1)) hx hb hr (fun t ht hW => ⟨⟨(iI 1), (), rfl, rfl, by rw [ht]; exact hP.sub [] rfl, by rw [hAe]; exact hD.sub [] (by decide) rfl⟩, hS.F ht⟩) hS.2.2 dL_storeSchedule_16
set_option maxHeartbeats 4000000 in
set_option maxRecDepth 100000 in
/-- the law: copyRow, refused -/
theorem c_L_copyRow_1 (l : Launch) (hl0 : l.stackTraces = false) (dC : Nat → ClassId) (dI : Nat → Nat → Nat) (k : Nat → ClassId) (hout : Nat) (h0 hn g1 g2 hea g3 g4 g5 g6 g7 xa1 xa2 xa3 xa4 xa5 xa6 xa7 xa8 xa9 xa10 xa11 : Nat) (xrF : Nat → Option Nat) (xv xw9 : Int) (hv9 : -2147483648 ≤ xv ∧ xv ≤ 2147483647 ∧ -2147483648 ≤ xw9 ∧ xw9 ≤ 2147483647) (hv : ¬ (0 ≤ xv ∧ xv ≤ 1)) (sz : Nat) : Met l yL_copyRow woL_copyRow ({ frames := 7, cells := 1, slots := 6, locals := 105 } : Room) (PcW (dC, dI) k [.ref h0, .int (iI xv), .int (iI xw9), .ref hout] [(h0, .inr (10, [.ref hn, .ref g1, .ref g2, .ref hea, .ref g3, .ref g4, .ref g5, .ref g6, .ref g7, .int (iI 0), .int (iI 0), .int (iI 0), .int (iI (-1)), .int (iI (-1)), .int (iI 0)])), (g7, .inl (k 7, 2, .inr (.inr (.inr (.inr xrF))))), (hout, .inl (k 1, 1, .inr (.inl (aL aZ))))] sz) (va_Qi (fun (r : Int32) (_ : Unit) => r = iI 1) (QB (dC, dI) [(h0, .inr (10, [.ref hn, .ref g1, .ref g2, .ref hea, .ref g3, .ref g4, .ref g5, .ref g6, .ref g7, .int (iI 0), .int (iI 0), .int (iI 0), .int (iI (-1)), .int (iI (-1)), .int (iI 0)])), (g7, .inl (k 7, 2, .inr (.inr (.inr (.inr xrF))))), (hout, .inl (k 1, 1, .inr (.inl (aL aZ))))] (fun _ => []) sz) (va_A [(h0, .inr (10, [.ref hn, .ref g1, .ref g2, .ref hea, .ref g3, .ref g4, .ref g5, .ref g6, .ref g7, .int (iI 0), .int (iI 0), .int (iI 0), .int (iI (-1)), .int (iI (-1)), .int (iI 0)])), (g7, .inl (k 7, 2, .inr (.inr (.inr (.inr xrF))))), (hout, .inl (k 1, 1, .inr (.inl (aL aZ))))] sz)) 1 6 (va_A [(h0, .inr (10, [.ref hn, .ref g1, .ref g2, .ref hea, .ref g3, .ref g4, .ref g5, .ref g6, .ref g7, .int (iI 0), .int (iI 0), .int (iI 0), .int (iI (-1)), .int (iI (-1)), .int (iI 0)])), (g7, .inl (k 7, 2, .inr (.inr (.inr (.inr xrF))))), (hout, .inl (k 1, 1, .inr (.inl (aL aZ))))] sz) := by
  refine Met_ofWH (cc := cL_copyRow) (maxL := 5) (ret := (some .int)) (by decide) rfl ?_
  intro p e s mI args below meth cO s₁ B hml hv
  obtain ⟨rfl, rfl, hP, hD0, hE⟩ := hv
  have hx := B.exec
  have hb := B.bytes
  have hr := B.returns
  have hts := atoms_spec (ws := woL_copyRow) B.pre
  have hown : s.vm.findClass RL = some mI.cls := findClass_of_methodNamed B.named
  have hlocks := B.notSynchronized
  have htab := vx_table (x := yL_copyRow) B (hts (.codeWith yL_copyRow cL_copyRow 5 (some .int) [(0, 17, 20, 32), (0, 17, 24, 85), (0, 17, 28, 44), (0, 17, 32, 13)]) List.mem_cons_self)
  have hD := hD0.self (sz := s.heap.size)
  generalize hAe : va_A [(h0, .inr (10, [.ref hn, .ref g1, .ref g2, .ref hea, .ref g3, .ref g4, .ref g5, .ref g6, .ref g7, .int (iI 0), .int (iI 0), .int (iI 0), .int (iI (-1)), .int (iI (-1)), .int (iI 0)])), (g7, .inl (k 7, 2, .inr (.inr (.inr (.inr xrF))))), (hout, .inl (k 1, 1, .inr (.inl (aL aZ))))] s.heap.size = A at hD hE ⊢
  have hA : ∀ q : Nat, s.heap.size ≤ q → A q := fun q h => by rw [← hAe]; exact Or.inr h
  have hS : va_S A s.heap s.heap [] := va_S.rf
  obtain ⟨hK, hNw, hNc, hZs, hAO1, hAO2⟩ := id hE
  have hSF : CallFix p mI cO cL_copyRow 5 s ([.ref h0, .int (iI xv), .int (iI xw9), .ref hout] : List Value).toArray woL_copyRow RL := ⟨hx, hb, hml, hown, hts⟩
  have hl := lv_entry ([.ref h0, .int (iI xv), .int (iI xw9), .ref hout] : List Value) (n := 5) (Nat.le_of_ble_eq_true rfl)
  rw [lg_entry_eq]
  generalize (lg_sl ([.ref h0, .int (iI xv), .int (iI xw9), .ref hout] : List Value) ++ List.replicate (5 - (lg_sl ([.ref h0, .int (iI xv), .int (iI xw9), .ref hout] : List Value)).length) Slot.unset).toArray = ls at hl ⊢
  have hl : lv_has ls 5 [(0, .ref h0), (1, .int (iI xv)), (2, .int (iI xw9)), (3, .ref hout)] := hl
  refine W_gen (fun Q hQ => ?_)
  change W p l e ({ frames := 7, cells := 1, slots := 6, locals := 105 } : Room) s mI _ below meth cO s.heap [] 0 0 Q _
  have hP : va_P (dC, dI) vwCl [(h0, .inr (10, [.ref hn, .ref g1, .ref g2, .ref hea, .ref g3, .ref g4, .ref g5, .ref g6, .ref g7, .int (iI 0), .int (iI 0), .int (iI 0), .int (iI (-1)), .int (iI (-1)), .int (iI 0)])), (g7, .inl (k 7, 2, .inr (.inr (.inr (.inr xrF))))), (hout, .inl (k 1, 1, .inr (.inl (aL aZ))))] s.heap := hP
  refine lv_aload_n hx hb dL_copyRow_0 rfl (lv_at hl 3 rfl) ?_
  refine q_iconst hx hb dL_copyRow_1 ?_
  refine lv_aload_n hx hb dL_copyRow_2 rfl (lv_at hl 0 rfl) ?_
  refine lv_iload_n hx hb dL_copyRow_3 rfl (lv_at hl 1 rfl) ?_
  refine lv_iload_n hx hb dL_copyRow_4 rfl (lv_at hl 2 rfl) ?_
  refine kxi (vx_runV (As := [.int (iI xv), .int (iI xw9)]) (rest := [.int (iI 0), .ref hout]) hSF ((c_X10_copyRow_1 l hl0 dC dI k h0 hn g1 g2 hea g3 g4 g5 g6 g7 0 0 0 0 0 0 0 0 0 0 0 xrF xv xw9 (by omega) (by omega)) s.heap.size) (cwV 2 hts gL_copyRow_X10_copyRow rfl rfl rfl (by decide +kernel) ⟨Nat.le_of_ble_eq_true rfl, Nat.le_of_ble_eq_true rfl⟩) (preV hP hD hE hS hA [0, 1] rfl (by decide) (ci := 10) (q0 := 0) rfl rfl) rfl rfl hl.1 rfl (lv_room (Nat.le_of_ble_eq_true rfl)) dL_copyRow_5 ⟨Nat.le_of_ble_eq_true rfl, Nat.le_of_ble_eq_true rfl⟩) hP hD hS hA [0, 1] [2] rfl (wr := [(hout, .inl (k 1, 1, .inr (.inl (aL aZ))))]) rfl (by decide) (by decide) (fun ce q9 H locs hP hD hS hc9 hv9 hcl => ?_)
  refine vx_catch (own := RL) (name := "java/lang/IndexOutOfBoundsException") (E := "java/lang/IndexOutOfBoundsException") hown [] ⟨0, 17, 20, 32⟩ [⟨0, 17, 24, 85⟩, ⟨0, 17, 28, 44⟩, ⟨0, 17, 32, 13⟩] (by rw [htab]; rfl) (fun z hz => by cases hz) (by decide) (by decide) (hts (.classLink RL 32 "java/lang/IndexOutOfBoundsException") (List.mem_cons_of_mem _ (wl_24 (List.mem_of_getElem? (i := 23) rfl)))) (va_Nw.use rfl (hNw _ (List.mem_of_getElem? (i := 68) rfl))) hc9 hv9 hcl ?_
  change W p l e _ s mI _ below meth cO H locs _ _ Q (F0 mI 20 ls [.ref q9])
  refine lv_astore (lv' := [(4, .ref q9), (0, .ref h0), (1, .int (iI xv)), (2, .int (iI xw9)), (3, .ref hout)]) hx hb dL_copyRow_20 hl (by decide) rfl (fun ls hl => ?_)
  refine q_iconst hx hb dL_copyRow_22 ?_
  rw [hQ]
  refine W.widen (k := 1) (n := 6) (Nat.le_of_ble_eq_true rfl) (Nat.le_of_ble_eq_true rfl) ?_
  exact W.iret (v := (iI 1)) hx hb hr (fun t ht hW => ⟨⟨(iI 1), (), rfl, rfl, by rw [ht]; exact hP.sub [] rfl, by rw [hAe]; exact hD.sub [] (by decide) rfl⟩, hS.F ht⟩) hS.2.2 dL_copyRow_23
set_option maxHeartbeats 4000000 in
set_option maxRecDepth 100000 in
/-- the law: copyRow, refused -/
theorem c_L_copyRow_2_0 (l : Launch) (hl0 : l.stackTraces = false) (dC : Nat → ClassId) (dI : Nat → Nat → Nat) (k : Nat → ClassId) (hout : Nat) (h0 hn g1 g2 hea g3 g4 g5 g6 g7 xa1 xa2 xa3 xa4 xa5 xa6 xa7 xa8 xa9 xa10 xa11 hr0 xw1 xw2 hr1 xw3 xw4 : Nat) (xrF : Nat → Option Nat) (xw9 : Int) (hz0 : xrF 0 = some hr0) (hz1 : xrF 1 = some hr1) (sz : Nat) : Met l yL_copyRow woL_copyRow ({ frames := 7, cells := 1, slots := 6, locals := 105 } : Room) (PcW (dC, dI) k [.ref h0, .int (iI 0), .int (iI xw9), .ref hout] [(h0, .inr (10, [.ref hn, .ref g1, .ref g2, .ref hea, .ref g3, .ref g4, .ref g5, .ref g6, .ref g7, .int (iI 0), .int (iI 0), .int (iI 0), .int (iI (-1)), .int (iI (-1)), .int (iI 0)])), (g7, .inl (k 7, 2, .inr (.inr (.inr (.inr xrF))))), (hr0, .inr (9, [.ref xw1, .ref xw2, .int (iI 0), .int (iI 0), .int (iI 0)])), (hr1, .inr (9, [.ref xw3, .ref xw4, .int (iI 0), .int (iI 0), .int (iI 0)])), (hout, .inl (k 1, 1, .inr (.inl (aL aZ))))] sz) (va_Qi (fun (r : Int32) (_ : Unit) => r = iI 2) (QB (dC, dI) [(h0, .inr (10, [.ref hn, .ref g1, .ref g2, .ref hea, .ref g3, .ref g4, .ref g5, .ref g6, .ref g7, .int (iI 0), .int (iI 0), .int (iI 0), .int (iI (-1)), .int (iI (-1)), .int (iI 0)])), (g7, .inl (k 7, 2, .inr (.inr (.inr (.inr xrF))))), (hr0, .inr (9, [.ref xw1, .ref xw2, .int (iI 0), .int (iI 0), .int (iI 0)])), (hr1, .inr (9, [.ref xw3, .ref xw4, .int (iI 0), .int (iI 0), .int (iI 0)])), (hout, .inl (k 1, 1, .inr (.inl (aL aZ))))] (fun _ => []) sz) (va_A [(h0, .inr (10, [.ref hn, .ref g1, .ref g2, .ref hea, .ref g3, .ref g4, .ref g5, .ref g6, .ref g7, .int (iI 0), .int (iI 0), .int (iI 0), .int (iI (-1)), .int (iI (-1)), .int (iI 0)])), (g7, .inl (k 7, 2, .inr (.inr (.inr (.inr xrF))))), (hr0, .inr (9, [.ref xw1, .ref xw2, .int (iI 0), .int (iI 0), .int (iI 0)])), (hr1, .inr (9, [.ref xw3, .ref xw4, .int (iI 0), .int (iI 0), .int (iI 0)])), (hout, .inl (k 1, 1, .inr (.inl (aL aZ))))] sz)) 1 6 (va_A [(h0, .inr (10, [.ref hn, .ref g1, .ref g2, .ref hea, .ref g3, .ref g4, .ref g5, .ref g6, .ref g7, .int (iI 0), .int (iI 0), .int (iI 0), .int (iI (-1)), .int (iI (-1)), .int (iI 0)])), (g7, .inl (k 7, 2, .inr (.inr (.inr (.inr xrF))))), (hr0, .inr (9, [.ref xw1, .ref xw2, .int (iI 0), .int (iI 0), .int (iI 0)])), (hr1, .inr (9, [.ref xw3, .ref xw4, .int (iI 0), .int (iI 0), .int (iI 0)])), (hout, .inl (k 1, 1, .inr (.inl (aL aZ))))] sz) := by
  refine Met_ofWH (cc := cL_copyRow) (maxL := 5) (ret := (some .int)) (by decide) rfl ?_
  intro p e s mI args below meth cO s₁ B hml hv
  obtain ⟨rfl, rfl, hP, hD0, hE⟩ := hv
  have hx := B.exec
  have hb := B.bytes
  have hr := B.returns
  have hts := atoms_spec (ws := woL_copyRow) B.pre
  have hown : s.vm.findClass RL = some mI.cls := findClass_of_methodNamed B.named
  have hlocks := B.notSynchronized
  have htab := vx_table (x := yL_copyRow) B (hts (.codeWith yL_copyRow cL_copyRow 5 (some .int) [(0, 17, 20, 32), (0, 17, 24, 85), (0, 17, 28, 44), (0, 17, 32, 13)]) List.mem_cons_self)
  have hD := hD0.self (sz := s.heap.size)
  generalize hAe : va_A [(h0, .inr (10, [.ref hn, .ref g1, .ref g2, .ref hea, .ref g3, .ref g4, .ref g5, .ref g6, .ref g7, .int (iI 0), .int (iI 0), .int (iI 0), .int (iI (-1)), .int (iI (-1)), .int (iI 0)])), (g7, .inl (k 7, 2, .inr (.inr (.inr (.inr xrF))))), (hr0, .inr (9, [.ref xw1, .ref xw2, .int (iI 0), .int (iI 0), .int (iI 0)])), (hr1, .inr (9, [.ref xw3, .ref xw4, .int (iI 0), .int (iI 0), .int (iI 0)])), (hout, .inl (k 1, 1, .inr (.inl (aL aZ))))] s.heap.size = A at hD hE ⊢
  have hA : ∀ q : Nat, s.heap.size ≤ q → A q := fun q h => by rw [← hAe]; exact Or.inr h
  have hS : va_S A s.heap s.heap [] := va_S.rf
  obtain ⟨hK, hNw, hNc, hZs, hAO1, hAO2⟩ := id hE
  have hSF : CallFix p mI cO cL_copyRow 5 s ([.ref h0, .int (iI 0), .int (iI xw9), .ref hout] : List Value).toArray woL_copyRow RL := ⟨hx, hb, hml, hown, hts⟩
  have hl := lv_entry ([.ref h0, .int (iI 0), .int (iI xw9), .ref hout] : List Value) (n := 5) (Nat.le_of_ble_eq_true rfl)
  rw [lg_entry_eq]
  generalize (lg_sl ([.ref h0, .int (iI 0), .int (iI xw9), .ref hout] : List Value) ++ List.replicate (5 - (lg_sl ([.ref h0, .int (iI 0), .int (iI xw9), .ref hout] : List Value)).length) Slot.unset).toArray = ls at hl ⊢
  have hl : lv_has ls 5 [(0, .ref h0), (1, .int (iI 0)), (2, .int (iI xw9)), (3, .ref hout)] := hl
  refine W_gen (fun Q hQ => ?_)
  change W p l e ({ frames := 7, cells := 1, slots := 6, locals := 105 } : Room) s mI _ below meth cO s.heap [] 0 0 Q _
  have hP : va_P (dC, dI) vwCl [(h0, .inr (10, [.ref hn, .ref g1, .ref g2, .ref hea, .ref g3, .ref g4, .ref g5, .ref g6, .ref g7, .int (iI 0), .int (iI 0), .int (iI 0), .int (iI (-1)), .int (iI (-1)), .int (iI 0)])), (g7, .inl (k 7, 2, .inr (.inr (.inr (.inr xrF))))), (hr0, .inr (9, [.ref xw1, .ref xw2, .int (iI 0), .int (iI 0), .int (iI 0)])), (hr1, .inr (9, [.ref xw3, .ref xw4, .int (iI 0), .int (iI 0), .int (iI 0)])), (hout, .inl (k 1, 1, .inr (.inl (aL aZ))))] s.heap := hP
  refine lv_aload_n hx hb dL_copyRow_0 rfl (lv_at hl 3 rfl) ?_
  refine q_iconst hx hb dL_copyRow_1 ?_
  refine lv_aload_n hx hb dL_copyRow_2 rfl (lv_at hl 0 rfl) ?_
  refine lv_iload_n hx hb dL_copyRow_3 rfl (lv_at hl 1 rfl) ?_
  refine lv_iload_n hx hb dL_copyRow_4 rfl (lv_at hl 2 rfl) ?_
  refine kxi (vx_runV (As := [.int (iI 0), .int (iI xw9)]) (rest := [.int (iI 0), .ref hout]) hSF ((c_X10_copyRow_2_0 l hl0 dC dI k h0 hn g1 g2 hea g3 g4 g5 g6 g7 0 0 0 0 0 0 0 0 0 0 0 hr0 xw1 xw2 hr1 xw3 xw4 xrF xw9 hz0 hz1) s.heap.size) (cwV 2 hts gL_copyRow_X10_copyRow rfl rfl rfl (by decide +kernel) ⟨Nat.le_of_ble_eq_true rfl, Nat.le_of_ble_eq_true rfl⟩) (preV hP hD hE hS hA [0, 1, 2, 3] rfl (by decide) (ci := 10) (q0 := 0) rfl rfl) rfl rfl hl.1 rfl (lv_room (Nat.le_of_ble_eq_true rfl)) dL_copyRow_5 ⟨Nat.le_of_ble_eq_true rfl, Nat.le_of_ble_eq_true rfl⟩) hP hD hS hA [0, 1, 2, 3] [4] rfl (wr := [(hout, .inl (k 1, 1, .inr (.inl (aL aZ))))]) rfl (by decide) (by decide) (fun ce q9 H locs hP hD hS hc9 hv9 hcl => ?_)
  refine vx_catch (own := RL) (name := "java/util/NoSuchElementException") (E := "java/util/NoSuchElementException") hown [⟨0, 17, 20, 32⟩] ⟨0, 17, 24, 85⟩ [⟨0, 17, 28, 44⟩, ⟨0, 17, 32, 13⟩] (by rw [htab]; rfl) (fun z hz => by
      simp only [List.mem_cons, List.not_mem_nil, or_false] at hz
      subst hz
      exact Or.inr ⟨by decide, "java/lang/IndexOutOfBoundsException", (hts (.classLink RL 32 "java/lang/IndexOutOfBoundsException") (List.mem_cons_of_mem _ (wl_24 (List.mem_of_getElem? (i := 23) rfl)))), hNc ("java/util/NoSuchElementException", "java/lang/IndexOutOfBoundsException") (List.mem_of_getElem? (i := 17) rfl)⟩) (by decide) (by decide) (hts (.classLink RL 85 "java/util/NoSuchElementException") (List.mem_cons_of_mem _ (wl_39 (List.mem_of_getElem? (i := 10) rfl)))) (va_Nw.use rfl (hNw _ (List.mem_of_getElem? (i := 69) rfl))) hc9 hv9 hcl ?_
  change W p l e _ s mI _ below meth cO H locs _ _ Q (F0 mI 24 ls [.ref q9])
  refine lv_astore (lv' := [(4, .ref q9), (0, .ref h0), (1, .int (iI 0)), (2, .int (iI xw9)), (3, .ref hout)]) hx hb dL_copyRow_24 hl (by decide) rfl (fun ls hl => ?_)
  refine q_iconst hx hb dL_copyRow_26 ?_
  rw [hQ]
  refine W.widen (k := 1) (n := 6) (Nat.le_of_ble_eq_true rfl) (Nat.le_of_ble_eq_true rfl) ?_
  exact W.iret (v := (iI 2)) hx hb hr (fun t ht hW => ⟨⟨(iI 2), (), rfl, rfl, by rw [ht]; exact hP.sub [] rfl, by rw [hAe]; exact hD.sub [] (by decide) rfl⟩, hS.F ht⟩) hS.2.2 dL_copyRow_27
set_option maxHeartbeats 4000000 in
set_option maxRecDepth 100000 in
/-- the law: copyRow, refused -/
theorem c_L_copyRow_2_1 (l : Launch) (hl0 : l.stackTraces = false) (dC : Nat → ClassId) (dI : Nat → Nat → Nat) (k : Nat → ClassId) (hout : Nat) (h0 hn g1 g2 hea g3 g4 g5 g6 g7 xa1 xa2 xa3 xa4 xa5 xa6 xa7 xa8 xa9 xa10 xa11 hr0 xw1 xw2 hr1 xw3 xw4 : Nat) (xrF : Nat → Option Nat) (xw9 : Int) (hz0 : xrF 0 = some hr0) (hz1 : xrF 1 = some hr1) (sz : Nat) : Met l yL_copyRow woL_copyRow ({ frames := 7, cells := 1, slots := 6, locals := 105 } : Room) (PcW (dC, dI) k [.ref h0, .int (iI 1), .int (iI xw9), .ref hout] [(h0, .inr (10, [.ref hn, .ref g1, .ref g2, .ref hea, .ref g3, .ref g4, .ref g5, .ref g6, .ref g7, .int (iI 0), .int (iI 0), .int (iI 0), .int (iI (-1)), .int (iI (-1)), .int (iI 0)])), (g7, .inl (k 7, 2, .inr (.inr (.inr (.inr xrF))))), (hr0, .inr (9, [.ref xw1, .ref xw2, .int (iI 0), .int (iI 0), .int (iI 0)])), (hr1, .inr (9, [.ref xw3, .ref xw4, .int (iI 0), .int (iI 0), .int (iI 0)])), (hout, .inl (k 1, 1, .inr (.inl (aL aZ))))] sz) (va_Qi (fun (r : Int32) (_ : Unit) => r = iI 2) (QB (dC, dI) [(h0, .inr (10, [.ref hn, .ref g1, .ref g2, .ref hea, .ref g3, .ref g4, .ref g5, .ref g6, .ref g7, .int (iI 0), .int (iI 0), .int (iI 0), .int (iI (-1)), .int (iI (-1)), .int (iI 0)])), (g7, .inl (k 7, 2, .inr (.inr (.inr (.inr xrF))))), (hr0, .inr (9, [.ref xw1, .ref xw2, .int (iI 0), .int (iI 0), .int (iI 0)])), (hr1, .inr (9, [.ref xw3, .ref xw4, .int (iI 0), .int (iI 0), .int (iI 0)])), (hout, .inl (k 1, 1, .inr (.inl (aL aZ))))] (fun _ => []) sz) (va_A [(h0, .inr (10, [.ref hn, .ref g1, .ref g2, .ref hea, .ref g3, .ref g4, .ref g5, .ref g6, .ref g7, .int (iI 0), .int (iI 0), .int (iI 0), .int (iI (-1)), .int (iI (-1)), .int (iI 0)])), (g7, .inl (k 7, 2, .inr (.inr (.inr (.inr xrF))))), (hr0, .inr (9, [.ref xw1, .ref xw2, .int (iI 0), .int (iI 0), .int (iI 0)])), (hr1, .inr (9, [.ref xw3, .ref xw4, .int (iI 0), .int (iI 0), .int (iI 0)])), (hout, .inl (k 1, 1, .inr (.inl (aL aZ))))] sz)) 1 6 (va_A [(h0, .inr (10, [.ref hn, .ref g1, .ref g2, .ref hea, .ref g3, .ref g4, .ref g5, .ref g6, .ref g7, .int (iI 0), .int (iI 0), .int (iI 0), .int (iI (-1)), .int (iI (-1)), .int (iI 0)])), (g7, .inl (k 7, 2, .inr (.inr (.inr (.inr xrF))))), (hr0, .inr (9, [.ref xw1, .ref xw2, .int (iI 0), .int (iI 0), .int (iI 0)])), (hr1, .inr (9, [.ref xw3, .ref xw4, .int (iI 0), .int (iI 0), .int (iI 0)])), (hout, .inl (k 1, 1, .inr (.inl (aL aZ))))] sz) := by
  refine Met_ofWH (cc := cL_copyRow) (maxL := 5) (ret := (some .int)) (by decide) rfl ?_
  intro p e s mI args below meth cO s₁ B hml hv
  obtain ⟨rfl, rfl, hP, hD0, hE⟩ := hv
  have hx := B.exec
  have hb := B.bytes
  have hr := B.returns
  have hts := atoms_spec (ws := woL_copyRow) B.pre
  have hown : s.vm.findClass RL = some mI.cls := findClass_of_methodNamed B.named
  have hlocks := B.notSynchronized
  have htab := vx_table (x := yL_copyRow) B (hts (.codeWith yL_copyRow cL_copyRow 5 (some .int) [(0, 17, 20, 32), (0, 17, 24, 85), (0, 17, 28, 44), (0, 17, 32, 13)]) List.mem_cons_self)
  have hD := hD0.self (sz := s.heap.size)
  generalize hAe : va_A [(h0, .inr (10, [.ref hn, .ref g1, .ref g2, .ref hea, .ref g3, .ref g4, .ref g5, .ref g6, .ref g7, .int (iI 0), .int (iI 0), .int (iI 0), .int (iI (-1)), .int (iI (-1)), .int (iI 0)])), (g7, .inl (k 7, 2, .inr (.inr (.inr (.inr xrF))))), (hr0, .inr (9, [.ref xw1, .ref xw2, .int (iI 0), .int (iI 0), .int (iI 0)])), (hr1, .inr (9, [.ref xw3, .ref xw4, .int (iI 0), .int (iI 0), .int (iI 0)])), (hout, .inl (k 1, 1, .inr (.inl (aL aZ))))] s.heap.size = A at hD hE ⊢
  have hA : ∀ q : Nat, s.heap.size ≤ q → A q := fun q h => by rw [← hAe]; exact Or.inr h
  have hS : va_S A s.heap s.heap [] := va_S.rf
  obtain ⟨hK, hNw, hNc, hZs, hAO1, hAO2⟩ := id hE
  have hSF : CallFix p mI cO cL_copyRow 5 s ([.ref h0, .int (iI 1), .int (iI xw9), .ref hout] : List Value).toArray woL_copyRow RL := ⟨hx, hb, hml, hown, hts⟩
  have hl := lv_entry ([.ref h0, .int (iI 1), .int (iI xw9), .ref hout] : List Value) (n := 5) (Nat.le_of_ble_eq_true rfl)
  rw [lg_entry_eq]
  generalize (lg_sl ([.ref h0, .int (iI 1), .int (iI xw9), .ref hout] : List Value) ++ List.replicate (5 - (lg_sl ([.ref h0, .int (iI 1), .int (iI xw9), .ref hout] : List Value)).length) Slot.unset).toArray = ls at hl ⊢
  have hl : lv_has ls 5 [(0, .ref h0), (1, .int (iI 1)), (2, .int (iI xw9)), (3, .ref hout)] := hl
  refine W_gen (fun Q hQ => ?_)
  change W p l e ({ frames := 7, cells := 1, slots := 6, locals := 105 } : Room) s mI _ below meth cO s.heap [] 0 0 Q _
  have hP : va_P (dC, dI) vwCl [(h0, .inr (10, [.ref hn, .ref g1, .ref g2, .ref hea, .ref g3, .ref g4, .ref g5, .ref g6, .ref g7, .int (iI 0), .int (iI 0), .int (iI 0), .int (iI (-1)), .int (iI (-1)), .int (iI 0)])), (g7, .inl (k 7, 2, .inr (.inr (.inr (.inr xrF))))), (hr0, .inr (9, [.ref xw1, .ref xw2, .int (iI 0), .int (iI 0), .int (iI 0)])), (hr1, .inr (9, [.ref xw3, .ref xw4, .int (iI 0), .int (iI 0), .int (iI 0)])), (hout, .inl (k 1, 1, .inr (.inl (aL aZ))))] s.heap := hP
  refine lv_aload_n hx hb dL_copyRow_0 rfl (lv_at hl 3 rfl) ?_
  refine q_iconst hx hb dL_copyRow_1 ?_
  refine lv_aload_n hx hb dL_copyRow_2 rfl (lv_at hl 0 rfl) ?_
  refine lv_iload_n hx hb dL_copyRow_3 rfl (lv_at hl 1 rfl) ?_
  refine lv_iload_n hx hb dL_copyRow_4 rfl (lv_at hl 2 rfl) ?_
  refine kxi (vx_runV (As := [.int (iI 1), .int (iI xw9)]) (rest := [.int (iI 0), .ref hout]) hSF ((c_X10_copyRow_2_1 l hl0 dC dI k h0 hn g1 g2 hea g3 g4 g5 g6 g7 0 0 0 0 0 0 0 0 0 0 0 hr0 xw1 xw2 hr1 xw3 xw4 xrF xw9 hz0 hz1) s.heap.size) (cwV 2 hts gL_copyRow_X10_copyRow rfl rfl rfl (by decide +kernel) ⟨Nat.le_of_ble_eq_true rfl, Nat.le_of_ble_eq_true rfl⟩) (preV hP hD hE hS hA [0, 1, 2, 3] rfl (by decide) (ci := 10) (q0 := 0) rfl rfl) rfl rfl hl.1 rfl (lv_room (Nat.le_of_ble_eq_true rfl)) dL_copyRow_5 ⟨Nat.le_of_ble_eq_true rfl, Nat.le_of_ble_eq_true rfl⟩) hP hD hS hA [0, 1, 2, 3] [4] rfl (wr := [(hout, .inl (k 1, 1, .inr (.inl (aL aZ))))]) rfl (by decide) (by decide) (fun ce q9 H locs hP hD hS hc9 hv9 hcl => ?_)
  refine vx_catch (own := RL) (name := "java/util/NoSuchElementException") (E := "java/util/NoSuchElementException") hown [⟨0, 17, 20, 32⟩] ⟨0, 17, 24, 85⟩ [⟨0, 17, 28, 44⟩, ⟨0, 17, 32, 13⟩] (by rw [htab]; rfl) (fun z hz => by
      simp only [List.mem_cons, List.not_mem_nil, or_false] at hz
      subst hz
      exact Or.inr ⟨by decide, "java/lang/IndexOutOfBoundsException", (hts (.classLink RL 32 "java/lang/IndexOutOfBoundsException") (List.mem_cons_of_mem _ (wl_24 (List.mem_of_getElem? (i := 23) rfl)))), hNc ("java/util/NoSuchElementException", "java/lang/IndexOutOfBoundsException") (List.mem_of_getElem? (i := 17) rfl)⟩) (by decide) (by decide) (hts (.classLink RL 85 "java/util/NoSuchElementException") (List.mem_cons_of_mem _ (wl_39 (List.mem_of_getElem? (i := 10) rfl)))) (va_Nw.use rfl (hNw _ (List.mem_of_getElem? (i := 69) rfl))) hc9 hv9 hcl ?_
  change W p l e _ s mI _ below meth cO H locs _ _ Q (F0 mI 24 ls [.ref q9])
  refine lv_astore (lv' := [(4, .ref q9), (0, .ref h0), (1, .int (iI 1)), (2, .int (iI xw9)), (3, .ref hout)]) hx hb dL_copyRow_24 hl (by decide) rfl (fun ls hl => ?_)
  refine q_iconst hx hb dL_copyRow_26 ?_
  rw [hQ]
  refine W.widen (k := 1) (n := 6) (Nat.le_of_ble_eq_true rfl) (Nat.le_of_ble_eq_true rfl) ?_
  exact W.iret (v := (iI 2)) hx hb hr (fun t ht hW => ⟨⟨(iI 2), (), rfl, rfl, by rw [ht]; exact hP.sub [] rfl, by rw [hAe]; exact hD.sub [] (by decide) rfl⟩, hS.F ht⟩) hS.2.2 dL_copyRow_27
set_option maxHeartbeats 4000000 in
set_option maxRecDepth 100000 in
/-- the law: stored, refused -/
theorem c_L_stored_1 (l : Launch) (hl0 : l.stackTraces = false) (dC : Nat → ClassId) (dI : Nat → Nat → Nat) (k : Nat → ClassId) (hout : Nat) (h0 hn g1 g2 hea g3 g4 g5 g6 g7 xa1 xa2 xa3 xa4 xa5 xa6 xa7 xa8 xa9 xa10 xa11 : Nat) (xrF : Nat → Option Nat) (xv xw9 : Int) (hv9 : -2147483648 ≤ xv ∧ xv ≤ 2147483647) (hv : ¬ (0 ≤ xv ∧ xv ≤ 1)) (sz : Nat) : Met l yL_stored woL_stored ({ frames := 7, cells := 1, slots := 6, locals := 104 } : Room) (PcW (dC, dI) k [.ref h0, .int (iI xv), .int (iI xw9), .ref hout] [(h0, .inr (10, [.ref hn, .ref g1, .ref g2, .ref hea, .ref g3, .ref g4, .ref g5, .ref g6, .ref g7, .int (iI 0), .int (iI 0), .int (iI 0), .int (iI (-1)), .int (iI (-1)), .int (iI 0)])), (g7, .inl (k 7, 2, .inr (.inr (.inr (.inr xrF))))), (hout, .inl (k 3, 1, .inr (.inr (.inr (.inl (fun _ => FP.dconst0))))))] sz) (va_Qi (fun (r : Int32) (_ : Unit) => r = iI 1) (QB (dC, dI) [(h0, .inr (10, [.ref hn, .ref g1, .ref g2, .ref hea, .ref g3, .ref g4, .ref g5, .ref g6, .ref g7, .int (iI 0), .int (iI 0), .int (iI 0), .int (iI (-1)), .int (iI (-1)), .int (iI 0)])), (g7, .inl (k 7, 2, .inr (.inr (.inr (.inr xrF))))), (hout, .inl (k 3, 1, .inr (.inr (.inr (.inl (fun _ => FP.dconst0))))))] (fun _ => []) sz) (va_A [(h0, .inr (10, [.ref hn, .ref g1, .ref g2, .ref hea, .ref g3, .ref g4, .ref g5, .ref g6, .ref g7, .int (iI 0), .int (iI 0), .int (iI 0), .int (iI (-1)), .int (iI (-1)), .int (iI 0)])), (g7, .inl (k 7, 2, .inr (.inr (.inr (.inr xrF))))), (hout, .inl (k 3, 1, .inr (.inr (.inr (.inl (fun _ => FP.dconst0))))))] sz)) 1 6 (va_A [(h0, .inr (10, [.ref hn, .ref g1, .ref g2, .ref hea, .ref g3, .ref g4, .ref g5, .ref g6, .ref g7, .int (iI 0), .int (iI 0), .int (iI 0), .int (iI (-1)), .int (iI (-1)), .int (iI 0)])), (g7, .inl (k 7, 2, .inr (.inr (.inr (.inr xrF))))), (hout, .inl (k 3, 1, .inr (.inr (.inr (.inl (fun _ => FP.dconst0))))))] sz) := by
  refine Met_ofWH (cc := cL_stored) (maxL := 5) (ret := (some .int)) (by decide) rfl ?_
  intro p e s mI args below meth cO s₁ B hml hv
  obtain ⟨rfl, rfl, hP, hD0, hE⟩ := hv
  have hx := B.exec
  have hb := B.bytes
  have hr := B.returns
  have hts := atoms_spec (ws := woL_stored) B.pre
  have hown : s.vm.findClass RL = some mI.cls := findClass_of_methodNamed B.named
  have hlocks := B.notSynchronized
  have htab := vx_table (x := yL_stored) B (hts (.codeWith yL_stored cL_stored 5 (some .int) [(0, 9, 12, 32), (0, 9, 16, 85)]) List.mem_cons_self)
  have hD := hD0.self (sz := s.heap.size)
  generalize hAe : va_A [(h0, .inr (10, [.ref hn, .ref g1, .ref g2, .ref hea, .ref g3, .ref g4, .ref g5, .ref g6, .ref g7, .int (iI 0), .int (iI 0), .int (iI 0), .int (iI (-1)), .int (iI (-1)), .int (iI 0)])), (g7, .inl (k 7, 2, .inr (.inr (.inr (.inr xrF))))), (hout, .inl (k 3, 1, .inr (.inr (.inr (.inl (fun _ => FP.dconst0))))))] s.heap.size = A at hD hE ⊢
  have hA : ∀ q : Nat, s.heap.size ≤ q → A q := fun q h => by rw [← hAe]; exact Or.inr h
  have hS : va_S A s.heap s.heap [] := va_S.rf
  obtain ⟨hK, hNw, hNc, hZs, hAO1, hAO2⟩ := id hE
  have hSF : CallFix p mI cO cL_stored 5 s ([.ref h0, .int (iI xv), .int (iI xw9), .ref hout] : List Value).toArray woL_stored RL := ⟨hx, hb, hml, hown, hts⟩
  have hl := lv_entry ([.ref h0, .int (iI xv), .int (iI xw9), .ref hout] : List Value) (n := 5) (Nat.le_of_ble_eq_true rfl)
  rw [lg_entry_eq]
  generalize (lg_sl ([.ref h0, .int (iI xv), .int (iI xw9), .ref hout] : List Value) ++ List.replicate (5 - (lg_sl ([.ref h0, .int (iI xv), .int (iI xw9), .ref hout] : List Value)).length) Slot.unset).toArray = ls at hl ⊢
  have hl : lv_has ls 5 [(0, .ref h0), (1, .int (iI xv)), (2, .int (iI xw9)), (3, .ref hout)] := hl
  refine W_gen (fun Q hQ => ?_)
  change W p l e ({ frames := 7, cells := 1, slots := 6, locals := 104 } : Room) s mI _ below meth cO s.heap [] 0 0 Q _
  have hP : va_P (dC, dI) vwCl [(h0, .inr (10, [.ref hn, .ref g1, .ref g2, .ref hea, .ref g3, .ref g4, .ref g5, .ref g6, .ref g7, .int (iI 0), .int (iI 0), .int (iI 0), .int (iI (-1)), .int (iI (-1)), .int (iI 0)])), (g7, .inl (k 7, 2, .inr (.inr (.inr (.inr xrF))))), (hout, .inl (k 3, 1, .inr (.inr (.inr (.inl (fun _ => FP.dconst0))))))] s.heap := hP
  refine lv_aload_n hx hb dL_stored_0 rfl (lv_at hl 3 rfl) ?_
  refine q_iconst hx hb dL_stored_1 ?_
  refine lv_aload_n hx hb dL_stored_2 rfl (lv_at hl 0 rfl) ?_
  refine lv_iload_n hx hb dL_stored_3 rfl (lv_at hl 1 rfl) ?_
  refine lv_iload_n hx hb dL_stored_4 rfl (lv_at hl 2 rfl) ?_
  refine kxd (vx_runV (As := [.int (iI xv), .int (iI xw9)]) (rest := [.int (iI 0), .ref hout]) hSF ((c_X10_stored_1 l hl0 dC dI k h0 hn g1 g2 hea g3 g4 g5 g6 g7 0 0 0 0 0 0 0 0 0 0 0 xrF xv xw9 (by omega) (by omega)) s.heap.size) (cwV 2 hts gL_stored_X10_stored rfl rfl rfl (by decide +kernel) ⟨Nat.le_of_ble_eq_true rfl, Nat.le_of_ble_eq_true rfl⟩) (preV hP hD hE hS hA [0, 1] rfl (by decide) (ci := 10) (q0 := 0) rfl rfl) rfl rfl hl.1 rfl (lv_room (Nat.le_of_ble_eq_true rfl)) dL_stored_5 ⟨Nat.le_of_ble_eq_true rfl, Nat.le_of_ble_eq_true rfl⟩) hP hD hS hA [0, 1] [2] rfl (wr := [(hout, .inl (k 3, 1, .inr (.inr (.inr (.inl (fun _ => FP.dconst0))))))]) rfl (by decide) (by decide) (fun ce q9 H locs hP hD hS hc9 hv9 hcl => ?_)
  refine vx_catch (own := RL) (name := "java/lang/IndexOutOfBoundsException") (E := "java/lang/IndexOutOfBoundsException") hown [] ⟨0, 9, 12, 32⟩ [⟨0, 9, 16, 85⟩] (by rw [htab]; rfl) (fun z hz => by cases hz) (by decide) (by decide) (hts (.classLink RL 32 "java/lang/IndexOutOfBoundsException") (List.mem_cons_of_mem _ (wl_24 (List.mem_of_getElem? (i := 23) rfl)))) (va_Nw.use rfl (hNw _ (List.mem_of_getElem? (i := 68) rfl))) hc9 hv9 hcl ?_
  change W p l e _ s mI _ below meth cO H locs _ _ Q (F0 mI 12 ls [.ref q9])
  refine lv_astore (lv' := [(4, .ref q9), (0, .ref h0), (1, .int (iI xv)), (2, .int (iI xw9)), (3, .ref hout)]) hx hb dL_stored_12 hl (by decide) rfl (fun ls hl => ?_)
  refine q_iconst hx hb dL_stored_14 ?_
  rw [hQ]
  refine W.widen (k := 1) (n := 6) (Nat.le_of_ble_eq_true rfl) (Nat.le_of_ble_eq_true rfl) ?_
  exact W.iret (v := (iI 1)) hx hb hr (fun t ht hW => ⟨⟨(iI 1), (), rfl, rfl, by rw [ht]; exact hP.sub [] rfl, by rw [hAe]; exact hD.sub [] (by decide) rfl⟩, hS.F ht⟩) hS.2.2 dL_stored_15
set_option maxHeartbeats 4000000 in
set_option maxRecDepth 100000 in
/-- the law: stored, refused -/
theorem c_L_stored_2_0 (l : Launch) (hl0 : l.stackTraces = false) (dC : Nat → ClassId) (dI : Nat → Nat → Nat) (k : Nat → ClassId) (hout : Nat) (h0 hn g1 g2 hea g3 g4 g5 g6 g7 xa1 xa2 xa3 xa4 xa5 xa6 xa7 xa8 xa9 xa10 xa11 hrr xw1 xw2 : Nat) (xrF : Nat → Option Nat) (xw9 : Int) (hr9 : xrF 0 = some hrr) (sz : Nat) : Met l yL_stored woL_stored ({ frames := 7, cells := 1, slots := 6, locals := 104 } : Room) (PcW (dC, dI) k [.ref h0, .int (iI 0), .int (iI xw9), .ref hout] [(h0, .inr (10, [.ref hn, .ref g1, .ref g2, .ref hea, .ref g3, .ref g4, .ref g5, .ref g6, .ref g7, .int (iI 0), .int (iI 0), .int (iI 0), .int (iI (-1)), .int (iI (-1)), .int (iI 0)])), (g7, .inl (k 7, 2, .inr (.inr (.inr (.inr xrF))))), (hrr, .inr (9, [.ref xw1, .ref xw2, .int (iI 0), .int (iI 0), .int (iI 0)])), (hout, .inl (k 3, 1, .inr (.inr (.inr (.inl (fun _ => FP.dconst0))))))] sz) (va_Qi (fun (r : Int32) (_ : Unit) => r = iI 2) (QB (dC, dI) [(h0, .inr (10, [.ref hn, .ref g1, .ref g2, .ref hea, .ref g3, .ref g4, .ref g5, .ref g6, .ref g7, .int (iI 0), .int (iI 0), .int (iI 0), .int (iI (-1)), .int (iI (-1)), .int (iI 0)])), (g7, .inl (k 7, 2, .inr (.inr (.inr (.inr xrF))))), (hrr, .inr (9, [.ref xw1, .ref xw2, .int (iI 0), .int (iI 0), .int (iI 0)])), (hout, .inl (k 3, 1, .inr (.inr (.inr (.inl (fun _ => FP.dconst0))))))] (fun _ => []) sz) (va_A [(h0, .inr (10, [.ref hn, .ref g1, .ref g2, .ref hea, .ref g3, .ref g4, .ref g5, .ref g6, .ref g7, .int (iI 0), .int (iI 0), .int (iI 0), .int (iI (-1)), .int (iI (-1)), .int (iI 0)])), (g7, .inl (k 7, 2, .inr (.inr (.inr (.inr xrF))))), (hrr, .inr (9, [.ref xw1, .ref xw2, .int (iI 0), .int (iI 0), .int (iI 0)])), (hout, .inl (k 3, 1, .inr (.inr (.inr (.inl (fun _ => FP.dconst0))))))] sz)) 1 6 (va_A [(h0, .inr (10, [.ref hn, .ref g1, .ref g2, .ref hea, .ref g3, .ref g4, .ref g5, .ref g6, .ref g7, .int (iI 0), .int (iI 0), .int (iI 0), .int (iI (-1)), .int (iI (-1)), .int (iI 0)])), (g7, .inl (k 7, 2, .inr (.inr (.inr (.inr xrF))))), (hrr, .inr (9, [.ref xw1, .ref xw2, .int (iI 0), .int (iI 0), .int (iI 0)])), (hout, .inl (k 3, 1, .inr (.inr (.inr (.inl (fun _ => FP.dconst0))))))] sz) := by
  refine Met_ofWH (cc := cL_stored) (maxL := 5) (ret := (some .int)) (by decide) rfl ?_
  intro p e s mI args below meth cO s₁ B hml hv
  obtain ⟨rfl, rfl, hP, hD0, hE⟩ := hv
  have hx := B.exec
  have hb := B.bytes
  have hr := B.returns
  have hts := atoms_spec (ws := woL_stored) B.pre
  have hown : s.vm.findClass RL = some mI.cls := findClass_of_methodNamed B.named
  have hlocks := B.notSynchronized
  have htab := vx_table (x := yL_stored) B (hts (.codeWith yL_stored cL_stored 5 (some .int) [(0, 9, 12, 32), (0, 9, 16, 85)]) List.mem_cons_self)
  have hD := hD0.self (sz := s.heap.size)
  generalize hAe : va_A [(h0, .inr (10, [.ref hn, .ref g1, .ref g2, .ref hea, .ref g3, .ref g4, .ref g5, .ref g6, .ref g7, .int (iI 0), .int (iI 0), .int (iI 0), .int (iI (-1)), .int (iI (-1)), .int (iI 0)])), (g7, .inl (k 7, 2, .inr (.inr (.inr (.inr xrF))))), (hrr, .inr (9, [.ref xw1, .ref xw2, .int (iI 0), .int (iI 0), .int (iI 0)])), (hout, .inl (k 3, 1, .inr (.inr (.inr (.inl (fun _ => FP.dconst0))))))] s.heap.size = A at hD hE ⊢
  have hA : ∀ q : Nat, s.heap.size ≤ q → A q := fun q h => by rw [← hAe]; exact Or.inr h
  have hS : va_S A s.heap s.heap [] := va_S.rf
  obtain ⟨hK, hNw, hNc, hZs, hAO1, hAO2⟩ := id hE
  have hSF : CallFix p mI cO cL_stored 5 s ([.ref h0, .int (iI 0), .int (iI xw9), .ref hout] : List Value).toArray woL_stored RL := ⟨hx, hb, hml, hown, hts⟩
  have hl := lv_entry ([.ref h0, .int (iI 0), .int (iI xw9), .ref hout] : List Value) (n := 5) (Nat.le_of_ble_eq_true rfl)
  rw [lg_entry_eq]
  generalize (lg_sl ([.ref h0, .int (iI 0), .int (iI xw9), .ref hout] : List Value) ++ List.replicate (5 - (lg_sl ([.ref h0, .int (iI 0), .int (iI xw9), .ref hout] : List Value)).length) Slot.unset).toArray = ls at hl ⊢
  have hl : lv_has ls 5 [(0, .ref h0), (1, .int (iI 0)), (2, .int (iI xw9)), (3, .ref hout)] := hl
  refine W_gen (fun Q hQ => ?_)
  change W p l e ({ frames := 7, cells := 1, slots := 6, locals := 104 } : Room) s mI _ below meth cO s.heap [] 0 0 Q _
  have hP : va_P (dC, dI) vwCl [(h0, .inr (10, [.ref hn, .ref g1, .ref g2, .ref hea, .ref g3, .ref g4, .ref g5, .ref g6, .ref g7, .int (iI 0), .int (iI 0), .int (iI 0), .int (iI (-1)), .int (iI (-1)), .int (iI 0)])), (g7, .inl (k 7, 2, .inr (.inr (.inr (.inr xrF))))), (hrr, .inr (9, [.ref xw1, .ref xw2, .int (iI 0), .int (iI 0), .int (iI 0)])), (hout, .inl (k 3, 1, .inr (.inr (.inr (.inl (fun _ => FP.dconst0))))))] s.heap := hP
  refine lv_aload_n hx hb dL_stored_0 rfl (lv_at hl 3 rfl) ?_
  refine q_iconst hx hb dL_stored_1 ?_
  refine lv_aload_n hx hb dL_stored_2 rfl (lv_at hl 0 rfl) ?_
  refine lv_iload_n hx hb dL_stored_3 rfl (lv_at hl 1 rfl) ?_
  refine lv_iload_n hx hb dL_stored_4 rfl (lv_at hl 2 rfl) ?_
  refine kxd (vx_runV (As := [.int (iI 0), .int (iI xw9)]) (rest := [.int (iI 0), .ref hout]) hSF ((c_X10_stored_2_0 l hl0 dC dI k h0 hn g1 g2 hea g3 g4 g5 g6 g7 0 0 0 0 0 0 0 0 0 0 0 hrr xw1 xw2 xrF xw9 hr9) s.heap.size) (cwV 2 hts gL_stored_X10_stored rfl rfl rfl (by decide +kernel) ⟨Nat.le_of_ble_eq_true rfl, Nat.le_of_ble_eq_true rfl⟩) (preV hP hD hE hS hA [0, 1, 2] rfl (by decide) (ci := 10) (q0 := 0) rfl rfl) rfl rfl hl.1 rfl (lv_room (Nat.le_of_ble_eq_true rfl)) dL_stored_5 ⟨Nat.le_of_ble_eq_true rfl, Nat.le_of_ble_eq_true rfl⟩) hP hD hS hA [0, 1, 2] [3] rfl (wr := [(hout, .inl (k 3, 1, .inr (.inr (.inr (.inl (fun _ => FP.dconst0))))))]) rfl (by decide) (by decide) (fun ce q9 H locs hP hD hS hc9 hv9 hcl => ?_)
  refine vx_catch (own := RL) (name := "java/util/NoSuchElementException") (E := "java/util/NoSuchElementException") hown [⟨0, 9, 12, 32⟩] ⟨0, 9, 16, 85⟩ [] (by rw [htab]; rfl) (fun z hz => by
      simp only [List.mem_cons, List.not_mem_nil, or_false] at hz
      subst hz
      exact Or.inr ⟨by decide, "java/lang/IndexOutOfBoundsException", (hts (.classLink RL 32 "java/lang/IndexOutOfBoundsException") (List.mem_cons_of_mem _ (wl_24 (List.mem_of_getElem? (i := 23) rfl)))), hNc ("java/util/NoSuchElementException", "java/lang/IndexOutOfBoundsException") (List.mem_of_getElem? (i := 17) rfl)⟩) (by decide) (by decide) (hts (.classLink RL 85 "java/util/NoSuchElementException") (List.mem_cons_of_mem _ (wl_39 (List.mem_of_getElem? (i := 10) rfl)))) (va_Nw.use rfl (hNw _ (List.mem_of_getElem? (i := 69) rfl))) hc9 hv9 hcl ?_
  change W p l e _ s mI _ below meth cO H locs _ _ Q (F0 mI 16 ls [.ref q9])
  refine lv_astore (lv' := [(4, .ref q9), (0, .ref h0), (1, .int (iI 0)), (2, .int (iI xw9)), (3, .ref hout)]) hx hb dL_stored_16 hl (by decide) rfl (fun ls hl => ?_)
  refine q_iconst hx hb dL_stored_18 ?_
  rw [hQ]
  refine W.widen (k := 1) (n := 6) (Nat.le_of_ble_eq_true rfl) (Nat.le_of_ble_eq_true rfl) ?_
  exact W.iret (v := (iI 2)) hx hb hr (fun t ht hW => ⟨⟨(iI 2), (), rfl, rfl, by rw [ht]; exact hP.sub [] rfl, by rw [hAe]; exact hD.sub [] (by decide) rfl⟩, hS.F ht⟩) hS.2.2 dL_stored_19
set_option maxHeartbeats 4000000 in
set_option maxRecDepth 100000 in
/-- the law: stored, refused -/
theorem c_L_stored_2_1 (l : Launch) (hl0 : l.stackTraces = false) (dC : Nat → ClassId) (dI : Nat → Nat → Nat) (k : Nat → ClassId) (hout : Nat) (h0 hn g1 g2 hea g3 g4 g5 g6 g7 xa1 xa2 xa3 xa4 xa5 xa6 xa7 xa8 xa9 xa10 xa11 hrr xw1 xw2 : Nat) (xrF : Nat → Option Nat) (xw9 : Int) (hr9 : xrF 1 = some hrr) (sz : Nat) : Met l yL_stored woL_stored ({ frames := 7, cells := 1, slots := 6, locals := 104 } : Room) (PcW (dC, dI) k [.ref h0, .int (iI 1), .int (iI xw9), .ref hout] [(h0, .inr (10, [.ref hn, .ref g1, .ref g2, .ref hea, .ref g3, .ref g4, .ref g5, .ref g6, .ref g7, .int (iI 0), .int (iI 0), .int (iI 0), .int (iI (-1)), .int (iI (-1)), .int (iI 0)])), (g7, .inl (k 7, 2, .inr (.inr (.inr (.inr xrF))))), (hrr, .inr (9, [.ref xw1, .ref xw2, .int (iI 0), .int (iI 0), .int (iI 0)])), (hout, .inl (k 3, 1, .inr (.inr (.inr (.inl (fun _ => FP.dconst0))))))] sz) (va_Qi (fun (r : Int32) (_ : Unit) => r = iI 2) (QB (dC, dI) [(h0, .inr (10, [.ref hn, .ref g1, .ref g2, .ref hea, .ref g3, .ref g4, .ref g5, .ref g6, .ref g7, .int (iI 0), .int (iI 0), .int (iI 0), .int (iI (-1)), .int (iI (-1)), .int (iI 0)])), (g7, .inl (k 7, 2, .inr (.inr (.inr (.inr xrF))))), (hrr, .inr (9, [.ref xw1, .ref xw2, .int (iI 0), .int (iI 0), .int (iI 0)])), (hout, .inl (k 3, 1, .inr (.inr (.inr (.inl (fun _ => FP.dconst0))))))] (fun _ => []) sz) (va_A [(h0, .inr (10, [.ref hn, .ref g1, .ref g2, .ref hea, .ref g3, .ref g4, .ref g5, .ref g6, .ref g7, .int (iI 0), .int (iI 0), .int (iI 0), .int (iI (-1)), .int (iI (-1)), .int (iI 0)])), (g7, .inl (k 7, 2, .inr (.inr (.inr (.inr xrF))))), (hrr, .inr (9, [.ref xw1, .ref xw2, .int (iI 0), .int (iI 0), .int (iI 0)])), (hout, .inl (k 3, 1, .inr (.inr (.inr (.inl (fun _ => FP.dconst0))))))] sz)) 1 6 (va_A [(h0, .inr (10, [.ref hn, .ref g1, .ref g2, .ref hea, .ref g3, .ref g4, .ref g5, .ref g6, .ref g7, .int (iI 0), .int (iI 0), .int (iI 0), .int (iI (-1)), .int (iI (-1)), .int (iI 0)])), (g7, .inl (k 7, 2, .inr (.inr (.inr (.inr xrF))))), (hrr, .inr (9, [.ref xw1, .ref xw2, .int (iI 0), .int (iI 0), .int (iI 0)])), (hout, .inl (k 3, 1, .inr (.inr (.inr (.inl (fun _ => FP.dconst0))))))] sz) := by
  refine Met_ofWH (cc := cL_stored) (maxL := 5) (ret := (some .int)) (by decide) rfl ?_
  intro p e s mI args below meth cO s₁ B hml hv
  obtain ⟨rfl, rfl, hP, hD0, hE⟩ := hv
  have hx := B.exec
  have hb := B.bytes
  have hr := B.returns
  have hts := atoms_spec (ws := woL_stored) B.pre
  have hown : s.vm.findClass RL = some mI.cls := findClass_of_methodNamed B.named
  have hlocks := B.notSynchronized
  have htab := vx_table (x := yL_stored) B (hts (.codeWith yL_stored cL_stored 5 (some .int) [(0, 9, 12, 32), (0, 9, 16, 85)]) List.mem_cons_self)
  have hD := hD0.self (sz := s.heap.size)
  generalize hAe : va_A [(h0, .inr (10, [.ref hn, .ref g1, .ref g2, .ref hea, .ref g3, .ref g4, .ref g5, .ref g6, .ref g7, .int (iI 0), .int (iI 0), .int (iI 0), .int (iI (-1)), .int (iI (-1)), .int (iI 0)])), (g7, .inl (k 7, 2, .inr (.inr (.inr (.inr xrF))))), (hrr, .inr (9, [.ref xw1, .ref xw2, .int (iI 0), .int (iI 0), .int (iI 0)])), (hout, .inl (k 3, 1, .inr (.inr (.inr (.inl (fun _ => FP.dconst0))))))] s.heap.size = A at hD hE ⊢
  have hA : ∀ q : Nat, s.heap.size ≤ q → A q := fun q h => by rw [← hAe]; exact Or.inr h
  have hS : va_S A s.heap s.heap [] := va_S.rf
  obtain ⟨hK, hNw, hNc, hZs, hAO1, hAO2⟩ := id hE
  have hSF : CallFix p mI cO cL_stored 5 s ([.ref h0, .int (iI 1), .int (iI xw9), .ref hout] : List Value).toArray woL_stored RL := ⟨hx, hb, hml, hown, hts⟩
  have hl := lv_entry ([.ref h0, .int (iI 1), .int (iI xw9), .ref hout] : List Value) (n := 5) (Nat.le_of_ble_eq_true rfl)
  rw [lg_entry_eq]
  generalize (lg_sl ([.ref h0, .int (iI 1), .int (iI xw9), .ref hout] : List Value) ++ List.replicate (5 - (lg_sl ([.ref h0, .int (iI 1), .int (iI xw9), .ref hout] : List Value)).length) Slot.unset).toArray = ls at hl ⊢
  have hl : lv_has ls 5 [(0, .ref h0), (1, .int (iI 1)), (2, .int (iI xw9)), (3, .ref hout)] := hl
  refine W_gen (fun Q hQ => ?_)
  change W p l e ({ frames := 7, cells := 1, slots := 6, locals := 104 } : Room) s mI _ below meth cO s.heap [] 0 0 Q _
  have hP : va_P (dC, dI) vwCl [(h0, .inr (10, [.ref hn, .ref g1, .ref g2, .ref hea, .ref g3, .ref g4, .ref g5, .ref g6, .ref g7, .int (iI 0), .int (iI 0), .int (iI 0), .int (iI (-1)), .int (iI (-1)), .int (iI 0)])), (g7, .inl (k 7, 2, .inr (.inr (.inr (.inr xrF))))), (hrr, .inr (9, [.ref xw1, .ref xw2, .int (iI 0), .int (iI 0), .int (iI 0)])), (hout, .inl (k 3, 1, .inr (.inr (.inr (.inl (fun _ => FP.dconst0))))))] s.heap := hP
  refine lv_aload_n hx hb dL_stored_0 rfl (lv_at hl 3 rfl) ?_
  refine q_iconst hx hb dL_stored_1 ?_
  refine lv_aload_n hx hb dL_stored_2 rfl (lv_at hl 0 rfl) ?_
  refine lv_iload_n hx hb dL_stored_3 rfl (lv_at hl 1 rfl) ?_
  refine lv_iload_n hx hb dL_stored_4 rfl (lv_at hl 2 rfl) ?_
  refine kxd (vx_runV (As := [.int (iI 1), .int (iI xw9)]) (rest := [.int (iI 0), .ref hout]) hSF ((c_X10_stored_2_1 l hl0 dC dI k h0 hn g1 g2 hea g3 g4 g5 g6 g7 0 0 0 0 0 0 0 0 0 0 0 hrr xw1 xw2 xrF xw9 hr9) s.heap.size) (cwV 2 hts gL_stored_X10_stored rfl rfl rfl (by decide +kernel) ⟨Nat.le_of_ble_eq_true rfl, Nat.le_of_ble_eq_true rfl⟩) (preV hP hD hE hS hA [0, 1, 2] rfl (by decide) (ci := 10) (q0 := 0) rfl rfl) rfl rfl hl.1 rfl (lv_room (Nat.le_of_ble_eq_true rfl)) dL_stored_5 ⟨Nat.le_of_ble_eq_true rfl, Nat.le_of_ble_eq_true rfl⟩) hP hD hS hA [0, 1, 2] [3] rfl (wr := [(hout, .inl (k 3, 1, .inr (.inr (.inr (.inl (fun _ => FP.dconst0))))))]) rfl (by decide) (by decide) (fun ce q9 H locs hP hD hS hc9 hv9 hcl => ?_)
  refine vx_catch (own := RL) (name := "java/util/NoSuchElementException") (E := "java/util/NoSuchElementException") hown [⟨0, 9, 12, 32⟩] ⟨0, 9, 16, 85⟩ [] (by rw [htab]; rfl) (fun z hz => by
      simp only [List.mem_cons, List.not_mem_nil, or_false] at hz
      subst hz
      exact Or.inr ⟨by decide, "java/lang/IndexOutOfBoundsException", (hts (.classLink RL 32 "java/lang/IndexOutOfBoundsException") (List.mem_cons_of_mem _ (wl_24 (List.mem_of_getElem? (i := 23) rfl)))), hNc ("java/util/NoSuchElementException", "java/lang/IndexOutOfBoundsException") (List.mem_of_getElem? (i := 17) rfl)⟩) (by decide) (by decide) (hts (.classLink RL 85 "java/util/NoSuchElementException") (List.mem_cons_of_mem _ (wl_39 (List.mem_of_getElem? (i := 10) rfl)))) (va_Nw.use rfl (hNw _ (List.mem_of_getElem? (i := 69) rfl))) hc9 hv9 hcl ?_
  change W p l e _ s mI _ below meth cO H locs _ _ Q (F0 mI 16 ls [.ref q9])
  refine lv_astore (lv' := [(4, .ref q9), (0, .ref h0), (1, .int (iI 1)), (2, .int (iI xw9)), (3, .ref hout)]) hx hb dL_stored_16 hl (by decide) rfl (fun ls hl => ?_)
  refine q_iconst hx hb dL_stored_18 ?_
  rw [hQ]
  refine W.widen (k := 1) (n := 6) (Nat.le_of_ble_eq_true rfl) (Nat.le_of_ble_eq_true rfl) ?_
  exact W.iret (v := (iI 2)) hx hb hr (fun t ht hW => ⟨⟨(iI 2), (), rfl, rfl, by rw [ht]; exact hP.sub [] rfl, by rw [hAe]; exact hD.sub [] (by decide) rfl⟩, hS.F ht⟩) hS.2.2 dL_stored_19
