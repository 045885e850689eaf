theorem gX11_append_X11_in : GoodIn woX11_append (va_wsS RX11 95 yX11_in woX11_in) := go_S (wl_13 (List.mem_of_getElem? (i := 16) rfl)) (wl_13 (List.mem_of_getElem? (i := 14) rfl)) (wl_13 (List.mem_of_getElem? (i := 15) rfl)) (wl_1 (List.mem_of_getElem? (i := 5) rfl))
theorem gX11_commandHere_X11_here : GoodIn woX11_commandHere (wsV RX11 241 RX11 yX11_here woX11_here) := go_V (wl_38 (List.mem_of_getElem? (i := 22) rfl)) (wl_38 (List.mem_of_getElem? (i := 19) rfl)) (wl_38 (List.mem_of_getElem? (i := 20) rfl)) (wl_38 (List.mem_of_getElem? (i := 21) rfl)) (wl_1 (List.mem_of_getElem? (i := 5) rfl))
theorem gX11_execute_X11_fails : GoodIn woX11_execute (wsV RX11 73 RX11 yX11_fails woX11_fails) := go_V (wl_26 (List.mem_of_getElem? (i := 8) rfl)) (wl_26 (List.mem_of_getElem? (i := 5) rfl)) (wl_26 (List.mem_of_getElem? (i := 6) rfl)) (wl_26 (List.mem_of_getElem? (i := 7) rfl)) (wl_1 (List.mem_of_getElem? (i := 5) rfl))
theorem gX11_execute_X11_isText : GoodIn woX11_execute (wsV RX11 251 RX11 yX11_isText woX11_isText) := go_V (wl_38 (List.mem_of_getElem? (i := 14) rfl)) (wl_38 (List.mem_of_getElem? (i := 11) rfl)) (wl_38 (List.mem_of_getElem? (i := 12) rfl)) (wl_38 (List.mem_of_getElem? (i := 13) rfl)) (wl_1 (List.mem_of_getElem? (i := 5) rfl))
theorem gX11_explain_X11_against : GoodIn woX11_explain (wsV RX11 211 RX11 yX11_against woX11_against) := go_V (wl_27 (List.mem_of_getElem? (i := 23) rfl)) (wl_27 (List.mem_of_getElem? (i := 20) rfl)) (wl_27 (List.mem_of_getElem? (i := 21) rfl)) (wl_27 (List.mem_of_getElem? (i := 22) rfl)) (wl_1 (List.mem_of_getElem? (i := 5) rfl))
theorem gX11_explain_X11_in : GoodIn woX11_explain (va_wsS RX11 95 yX11_in woX11_in) := go_S (wl_13 (List.mem_of_getElem? (i := 16) rfl)) (wl_13 (List.mem_of_getElem? (i := 14) rfl)) (wl_13 (List.mem_of_getElem? (i := 15) rfl)) (wl_1 (List.mem_of_getElem? (i := 5) rfl))
theorem gX11_installmentFor_X11_in : GoodIn woX11_installmentFor (va_wsS RX11 95 yX11_in woX11_in) := go_S (wl_13 (List.mem_of_getElem? (i := 16) rfl)) (wl_13 (List.mem_of_getElem? (i := 14) rfl)) (wl_13 (List.mem_of_getElem? (i := 15) rfl)) (wl_1 (List.mem_of_getElem? (i := 5) rfl))
theorem gX11_isText_X11_commandHere : GoodIn woX11_isText (wsV RX11 247 RX11 yX11_commandHere woX11_commandHere) := go_V (wl_38 (List.mem_of_getElem? (i := 18) rfl)) (wl_38 (List.mem_of_getElem? (i := 15) rfl)) (wl_38 (List.mem_of_getElem? (i := 16) rfl)) (wl_38 (List.mem_of_getElem? (i := 17) rfl)) (wl_1 (List.mem_of_getElem? (i := 5) rfl))
theorem gX11_number_X11_fails : GoodIn woX11_number (wsV RX11 73 RX11 yX11_fails woX11_fails) := go_V (wl_26 (List.mem_of_getElem? (i := 8) rfl)) (wl_26 (List.mem_of_getElem? (i := 5) rfl)) (wl_26 (List.mem_of_getElem? (i := 6) rfl)) (wl_26 (List.mem_of_getElem? (i := 7) rfl)) (wl_1 (List.mem_of_getElem? (i := 5) rfl))
theorem gX11_number_X11_openBills : GoodIn woX11_number (wsV RX11 232 RX11 yX11_openBills woX11_openBills) := go_V (wl_31 (List.mem_of_getElem? (i := 12) rfl)) (wl_31 (List.mem_of_getElem? (i := 9) rfl)) (wl_31 (List.mem_of_getElem? (i := 10) rfl)) (wl_31 (List.mem_of_getElem? (i := 11) rfl)) (wl_1 (List.mem_of_getElem? (i := 5) rfl))
theorem gX11_number_X11_unpaid : GoodIn woX11_number (wsV RX11 229 RX11 yX11_unpaid woX11_unpaid) := go_V (wl_31 (List.mem_of_getElem? (i := 8) rfl)) (wl_31 (List.mem_of_getElem? (i := 5) rfl)) (wl_31 (List.mem_of_getElem? (i := 6) rfl)) (wl_31 (List.mem_of_getElem? (i := 7) rfl)) (wl_1 (List.mem_of_getElem? (i := 5) rfl))
theorem gX11_scheduleLength_X11_plansNow : GoodIn woX11_scheduleLength (wsV RX11 175 RX11 yX11_plansNow woX11_plansNow) := go_V (wl_34 (List.mem_of_getElem? (i := 15) rfl)) (wl_34 (List.mem_of_getElem? (i := 12) rfl)) (wl_34 (List.mem_of_getElem? (i := 13) rfl)) (wl_34 (List.mem_of_getElem? (i := 14) rfl)) (wl_1 (List.mem_of_getElem? (i := 5) rfl))
theorem gX11_schedule_X11_in : GoodIn woX11_schedule (va_wsS RX11 95 yX11_in woX11_in) := go_S (wl_13 (List.mem_of_getElem? (i := 16) rfl)) (wl_13 (List.mem_of_getElem? (i := 14) rfl)) (wl_13 (List.mem_of_getElem? (i := 15) rfl)) (wl_1 (List.mem_of_getElem? (i := 5) rfl))
theorem gX11_schedule_X11_plansNow : GoodIn woX11_schedule (wsV RX11 175 RX11 yX11_plansNow woX11_plansNow) := go_V (wl_34 (List.mem_of_getElem? (i := 15) rfl)) (wl_34 (List.mem_of_getElem? (i := 12) rfl)) (wl_34 (List.mem_of_getElem? (i := 13) rfl)) (wl_34 (List.mem_of_getElem? (i := 14) rfl)) (wl_1 (List.mem_of_getElem? (i := 5) rfl))
theorem gX11_total_X11_in : GoodIn woX11_total (va_wsS RX11 95 yX11_in woX11_in) := go_S (wl_13 (List.mem_of_getElem? (i := 16) rfl)) (wl_13 (List.mem_of_getElem? (i := 14) rfl)) (wl_13 (List.mem_of_getElem? (i := 15) rfl)) (wl_1 (List.mem_of_getElem? (i := 5) rfl))
set_option maxHeartbeats 4000000 in
set_option maxRecDepth 100000 in
/-- the reference: waive 2 -/
theorem c_X11_waive_2 (l : Launch) (dC : Nat → ClassId) (dI : Nat → Nat → Nat) (k : Nat → ClassId) (h0 hg hk hp hpu hs hpl hpd htx htd hrw hrl hir : Nat) (xv : Int) (hv9 : -2147483648 ≤ xv ∧ xv ≤ 2147483647) (hv : 0 < xv) (sz : Nat) : Met l yX11_waive woX11_waive ({ frames := 2, cells := 0, slots := 0, locals := 43 } : Room) (PcW (dC, dI) k [.ref h0, .int (iI xv)] [(h0, .inr (11, [.ref hg, .long (lI 0), .ref hk, .long (lI 0), .int (iI 0), .ref hp, .ref hpu, .int (iI 0), .ref hs, .long (lI 0), .int (iI 0), .int (iI 0), .int (iI 0), .int (iI 0), .int (iI 0), .long (lI 0), .ref hpl, .int (iI 0), .ref hpd, .int (iI 0), .ref htx, .int (iI 0), .int (iI 0), .int (iI (-1)), .int (iI (-1)), .int (iI 0), .ref htd, .int (iI 0), .ref hrw, .ref hrl, .ref hir])), (hg, .inl (k 0, 1460, .inl (aI g0F)))] sz) (va_Qi (fun (r : Int32) (_ : Unit) => r = iI 0) (QB (dC, dI) [(h0, .inr (11, [.ref hg, .long (lI 0), .ref hk, .long (lI 0), .int (iI 0), .ref hp, .ref hpu, .int (iI 0), .ref hs, .long (lI 0), .int (iI 0), .int (iI 0), .int (iI 0), .int (iI 0), .int (iI 0), .long (lI 0), .ref hpl, .int (iI 0), .ref hpd, .int (iI 0), .ref htx, .int (iI 0), .int (iI 0), .int (iI (-1)), .int (iI (-1)), .int (iI 0), .ref htd, .int (iI 0), .ref hrw, .ref hrl, .ref hir])), (hg, .inl (k 0, 1460, .inl (aI g0F)))] (fun _ => [(h0, .inr (11, [.ref hg, .long (lI 0), .ref hk, .long (lI 0), .int (iI 0), .ref hp, .ref hpu, .int (iI 0), .ref hs, .long (lI 0), .int (iI 0), .int (iI 2), .int (iI 0), .int (iI 0), .int (iI 0), .long (lI 0), .ref hpl, .int (iI 0), .ref hpd, .int (iI 0), .ref htx, .int (iI 0), .int (iI 0), .int (iI (-1)), .int (iI (-1)), .int (iI 0), .ref htd, .int (iI 0), .ref hrw, .ref hrl, .ref hir]))]) sz) (va_A [(h0, .inr (11, [.ref hg, .long (lI 0), .ref hk, .long (lI 0), .int (iI 0), .ref hp, .ref hpu, .int (iI 0), .ref hs, .long (lI 0), .int (iI 0), .int (iI 0), .int (iI 0), .int (iI 0), .int (iI 0), .long (lI 0), .ref hpl, .int (iI 0), .ref hpd, .int (iI 0), .ref htx, .int (iI 0), .int (iI 0), .int (iI (-1)), .int (iI (-1)), .int (iI 0), .ref htd, .int (iI 0), .ref hrw, .ref hrl, .ref hir])), (hg, .inl (k 0, 1460, .inl (aI g0F)))] sz)) 0 0 (va_A [(h0, .inr (11, [.ref hg, .long (lI 0), .ref hk, .long (lI 0), .int (iI 0), .ref hp, .ref hpu, .int (iI 0), .ref hs, .long (lI 0), .int (iI 0), .int (iI 0), .int (iI 0), .int (iI 0), .int (iI 0), .long (lI 0), .ref hpl, .int (iI 0), .ref hpd, .int (iI 0), .ref htx, .int (iI 0), .int (iI 0), .int (iI (-1)), .int (iI (-1)), .int (iI 0), .ref htd, .int (iI 0), .ref hrw, .ref hrl, .ref hir])), (hg, .inl (k 0, 1460, .inl (aI g0F)))] sz) := by
  refine Met.ofW (cc := cX11_waive) (maxL := 2) (ret := (some .int)) (by decide) rfl ?_
  intro p e s mI args below meth cO s₁ B hml hv
  obtain ⟨rfl, rfl, hP, hD0, hE⟩ := hv
  have hx := B.exec
  have hb := B.bytes
  have hr := B.returns
  have hts := atoms_spec (ws := woX11_waive) B.pre
  have hown : s.vm.findClass RX11 = some mI.cls := findClass_of_methodNamed B.named
  have hlocks := B.notSynchronized
  have hD := hD0.self (sz := s.heap.size)
  generalize hAe : va_A [(h0, .inr (11, [.ref hg, .long (lI 0), .ref hk, .long (lI 0), .int (iI 0), .ref hp, .ref hpu, .int (iI 0), .ref hs, .long (lI 0), .int (iI 0), .int (iI 0), .int (iI 0), .int (iI 0), .int (iI 0), .long (lI 0), .ref hpl, .int (iI 0), .ref hpd, .int (iI 0), .ref htx, .int (iI 0), .int (iI 0), .int (iI (-1)), .int (iI (-1)), .int (iI 0), .ref htd, .int (iI 0), .ref hrw, .ref hrl, .ref hir])), (hg, .inl (k 0, 1460, .inl (aI g0F)))] s.heap.size = A at hD hE ⊢
  have hA : ∀ q : Nat, s.heap.size ≤ q → A q := fun q h => by rw [← hAe]; exact Or.inr h
  have hS : va_S A s.heap s.heap [] := va_S.rf
  obtain ⟨hK, hNw, hNc, hZs, hAO1, hAO2⟩ := id hE
  have hSF : CallFix p mI cO cX11_waive 2 s ([.ref h0, .int (iI xv)] : List Value).toArray woX11_waive RX11 := ⟨hx, hb, hml, hown, hts⟩
  have hl := lv_entry ([.ref h0, .int (iI xv)] : List Value) (n := 2) (Nat.le_of_ble_eq_true rfl)
  rw [lg_entry_eq]
  generalize (lg_sl ([.ref h0, .int (iI xv)] : List Value) ++ List.replicate (2 - (lg_sl ([.ref h0, .int (iI xv)] : List Value)).length) Slot.unset).toArray = ls at hl ⊢
  have hl : lv_has ls 2 [(0, .ref h0), (1, .int (iI xv))] := hl
  refine W_gen (fun Q hQ => ?_)
  change W p l e ({ frames := 2, cells := 0, slots := 0, locals := 43 } : Room) s mI _ below meth cO s.heap [] 0 0 Q _
  have hP : va_P (dC, dI) vwCl [(h0, .inr (11, [.ref hg, .long (lI 0), .ref hk, .long (lI 0), .int (iI 0), .ref hp, .ref hpu, .int (iI 0), .ref hs, .long (lI 0), .int (iI 0), .int (iI 0), .int (iI 0), .int (iI 0), .int (iI 0), .long (lI 0), .ref hpl, .int (iI 0), .ref hpd, .int (iI 0), .ref htx, .int (iI 0), .int (iI 0), .int (iI (-1)), .int (iI (-1)), .int (iI 0), .ref htd, .int (iI 0), .ref hrw, .ref hrl, .ref hir])), (hg, .inl (k 0, 1460, .inl (aI g0F)))] s.heap := hP
  refine lv_aload_n hx hb dX11_waive_0 rfl (lv_at hl 0 rfl) ?_
  refine q_iconst hx hb dX11_waive_1 ?_
  refine va_put (D := (dC, dI)) (ci := 11) (v := .int (iI 0)) (ty := .int) (C := RX11) (T := TX11) (N := 31) hx hb hts (fun _ h => List.mem_cons_of_mem _ (inlX11 _ h)) tyX11 tyX11_ok nmX11 hown hK hP hD hS 0 rfl rfl 11 (by decide) (hts (.fieldLink RX11 56 "LoanServicingModel" "thrown" "I") (List.mem_cons_of_mem _ (wl_13 (List.mem_of_getElem? (i := 12) rfl)))) (fun _ h9 => h9) rfl (by decide +kernel) rfl rfl (Nat.le_of_ble_eq_true rfl) dX11_waive_2 (fun H locs hP hD hS => ?_)
  have hP : va_P (dC, dI) vwCl [(h0, .inr (11, [.ref hg, .long (lI 0), .ref hk, .long (lI 0), .int (iI 0), .ref hp, .ref hpu, .int (iI 0), .ref hs, .long (lI 0), .int (iI 0), .int (iI 0), .int (iI 0), .int (iI 0), .int (iI 0), .long (lI 0), .ref hpl, .int (iI 0), .ref hpd, .int (iI 0), .ref htx, .int (iI 0), .int (iI 0), .int (iI (-1)), .int (iI (-1)), .int (iI 0), .ref htd, .int (iI 0), .ref hrw, .ref hrl, .ref hir])), (hg, .inl (k 0, 1460, .inl (aI g0F)))] H := hP
  have hD : va_D A [(h0, .inr (11, [.ref hg, .long (lI 0), .ref hk, .long (lI 0), .int (iI 0), .ref hp, .ref hpu, .int (iI 0), .ref hs, .long (lI 0), .int (iI 0), .int (iI 0), .int (iI 0), .int (iI 0), .int (iI 0), .long (lI 0), .ref hpl, .int (iI 0), .ref hpd, .int (iI 0), .ref htx, .int (iI 0), .int (iI 0), .int (iI (-1)), .int (iI (-1)), .int (iI 0), .ref htd, .int (iI 0), .ref hrw, .ref hrl, .ref hir])), (hg, .inl (k 0, 1460, .inl (aI g0F)))] := hD
  refine lv_aload_n hx hb dX11_waive_5 rfl (lv_at hl 0 rfl) ?_
  refine lv_iload_n hx hb dX11_waive_6 rfl (lv_at hl 1 rfl) ?_
  refine ki (va_runV (As := [.int (iI xv)]) (rest := []) hSF ((c_X11_waives_2 l dC dI k h0 hg hk hp hpu hs hpl hpd htx htd hrw hrl hir xv (by omega) (by omega)) H.size) (cwV 1 hts gX11_waive_X11_waives rfl rfl rfl (by decide +kernel) ⟨Nat.le_of_ble_eq_true rfl, Nat.le_of_ble_eq_true rfl⟩) (preV hP hD hE hS hA [0, 1] rfl (by decide) (ci := 11) (q0 := 0) rfl rfl) rfl rfl hl.1 rfl (lv_room (Nat.le_of_ble_eq_true rfl)) dX11_waive_7 ⟨Nat.le_of_ble_eq_true rfl, Nat.le_of_ble_eq_true rfl⟩) hP hD hS hA [0, 1] [] rfl (wr := []) rfl (by decide) (by decide) (fun r7 _ H locs hw hP hD hS => ?_)
  obtain rfl : r7 = (iI 0) := hw
  have hP : va_P (dC, dI) vwCl [(h0, .inr (11, [.ref hg, .long (lI 0), .ref hk, .long (lI 0), .int (iI 0), .ref hp, .ref hpu, .int (iI 0), .ref hs, .long (lI 0), .int (iI 0), .int (iI 2), .int (iI 0), .int (iI 0), .int (iI 0), .long (lI 0), .ref hpl, .int (iI 0), .ref hpd, .int (iI 0), .ref htx, .int (iI 0), .int (iI 0), .int (iI (-1)), .int (iI (-1)), .int (iI 0), .ref htd, .int (iI 0), .ref hrw, .ref hrl, .ref hir]))] H := hP
  have hD : va_D A [(h0, .inr (11, [.ref hg, .long (lI 0), .ref hk, .long (lI 0), .int (iI 0), .ref hp, .ref hpu, .int (iI 0), .ref hs, .long (lI 0), .int (iI 0), .int (iI 2), .int (iI 0), .int (iI 0), .int (iI 0), .long (lI 0), .ref hpl, .int (iI 0), .ref hpd, .int (iI 0), .ref htx, .int (iI 0), .int (iI 0), .int (iI (-1)), .int (iI (-1)), .int (iI 0), .ref htd, .int (iI 0), .ref hrw, .ref hrl, .ref hir]))] := hD
  rw [hQ]
  refine W.widen (k := 0) (n := 0) (Nat.le_of_ble_eq_true rfl) (Nat.le_of_ble_eq_true rfl) ?_
  exact W.iret (v := (iI 0)) hx hb hr (fun t ht hW => ⟨⟨(iI 0), (), rfl, rfl, by rw [ht]; exact hP.sub [0] rfl, by rw [hAe]; exact hD.sub [0] (by decide) rfl⟩, hS.F ht⟩) hS.2.2 dX11_waive_10
set_option maxHeartbeats 4000000 in
set_option maxRecDepth 100000 in
/-- the reference: explain of nothing -/
theorem c_X11_explain_x (l : Launch) (dC : Nat → ClassId) (dI : Nat → Nat → Nat) (k : Nat → ClassId) (h0 hg hk hp hpu hs hpl hpd htx htd hrw hrl hir : Nat) (xv xw9 : Int) (hv9 : -2147483648 ≤ xv ∧ xv ≤ 2147483647 ∧ -2147483648 ≤ xw9 ∧ xw9 ≤ 2147483647) (hv : ¬ (0 ≤ xw9 ∧ xw9 ≤ 5)) (sz : Nat) : Met l yX11_explain woX11_explain ({ frames := 1, cells := 0, slots := 0, locals := 22 } : Room) (PcW (dC, dI) k [.ref h0, .int (iI xv), .int (iI xw9)] [(h0, .inr (11, [.ref hg, .long (lI 0), .ref hk, .long (lI 0), .int (iI 0), .ref hp, .ref hpu, .int (iI 0), .ref hs, .long (lI 0), .int (iI 0), .int (iI 0), .int (iI 0), .int (iI 0), .int (iI 0), .long (lI 0), .ref hpl, .int (iI 0), .ref hpd, .int (iI 0), .ref htx, .int (iI 0), .int (iI 0), .int (iI (-1)), .int (iI (-1)), .int (iI 0), .ref htd, .int (iI 0), .ref hrw, .ref hrl, .ref hir])), (hg, .inl (k 0, 1460, .inl (aI g0F)))] sz) (va_Qi (fun (r : Int32) (_ : Unit) => r = iI 0) (QB (dC, dI) [(h0, .inr (11, [.ref hg, .long (lI 0), .ref hk, .long (lI 0), .int (iI 0), .ref hp, .ref hpu, .int (iI 0), .ref hs, .long (lI 0), .int (iI 0), .int (iI 0), .int (iI 0), .int (iI 0), .int (iI 0), .long (lI 0), .ref hpl, .int (iI 0), .ref hpd, .int (iI 0), .ref htx, .int (iI 0), .int (iI 0), .int (iI (-1)), .int (iI (-1)), .int (iI 0), .ref htd, .int (iI 0), .ref hrw, .ref hrl, .ref hir])), (hg, .inl (k 0, 1460, .inl (aI g0F)))] (fun _ => [(h0, .inr (11, [.ref hg, .long (lI 0), .ref hk, .long (lI 0), .int (iI 0), .ref hp, .ref hpu, .int (iI 0), .ref hs, .long (lI 0), .int (iI 0), .int (iI 1), .int (iI 0), .int (iI 0), .int (iI 0), .long (lI 0), .ref hpl, .int (iI 0), .ref hpd, .int (iI 0), .ref htx, .int (iI 0), .int (iI 0), .int (iI (-1)), .int (iI (-1)), .int (iI 0), .ref htd, .int (iI 0), .ref hrw, .ref hrl, .ref hir]))]) sz) (va_A [(h0, .inr (11, [.ref hg, .long (lI 0), .ref hk, .long (lI 0), .int (iI 0), .ref hp, .ref hpu, .int (iI 0), .ref hs, .long (lI 0), .int (iI 0), .int (iI 0), .int (iI 0), .int (iI 0), .int (iI 0), .long (lI 0), .ref hpl, .int (iI 0), .ref hpd, .int (iI 0), .ref htx, .int (iI 0), .int (iI 0), .int (iI (-1)), .int (iI (-1)), .int (iI 0), .ref htd, .int (iI 0), .ref hrw, .ref hrl, .ref hir])), (hg, .inl (k 0, 1460, .inl (aI g0F)))] sz)) 0 0 (va_A [(h0, .inr (11, [.ref hg, .long (lI 0), .ref hk, .long (lI 0), .int (iI 0), .ref hp, .ref hpu, .int (iI 0), .ref hs, .long (lI 0), .int (iI 0), .int (iI 0), .int (iI 0), .int (iI 0), .int (iI 0), .long (lI 0), .ref hpl, .int (iI 0), .ref hpd, .int (iI 0), .ref htx, .int (iI 0), .int (iI 0), .int (iI (-1)), .int (iI (-1)), .int (iI 0), .ref htd, .int (iI 0), .ref hrw, .ref hrl, .ref hir])), (hg, .inl (k 0, 1460, .inl (aI g0F)))] sz) := by
  refine Met.ofW (cc := cX11_explain) (maxL := 4) (ret := (some .int)) (by decide) rfl ?_
  intro p e s mI args below meth cO s₁ B hml hv
  obtain ⟨rfl, rfl, hP, hD0, hE⟩ := hv
  have hx := B.exec
  have hb := B.bytes
  have hr := B.returns
  have hts := atoms_spec (ws := woX11_explain) B.pre
  have hown : s.vm.findClass RX11 = some mI.cls := findClass_of_methodNamed B.named
  have hlocks := B.notSynchronized
  have hD := hD0.self (sz := s.heap.size)
  generalize hAe : va_A [(h0, .inr (11, [.ref hg, .long (lI 0), .ref hk, .long (lI 0), .int (iI 0), .ref hp, .ref hpu, .int (iI 0), .ref hs, .long (lI 0), .int (iI 0), .int (iI 0), .int (iI 0), .int (iI 0), .int (iI 0), .long (lI 0), .ref hpl, .int (iI 0), .ref hpd, .int (iI 0), .ref htx, .int (iI 0), .int (iI 0), .int (iI (-1)), .int (iI (-1)), .int (iI 0), .ref htd, .int (iI 0), .ref hrw, .ref hrl, .ref hir])), (hg, .inl (k 0, 1460, .inl (aI g0F)))] s.heap.size = A at hD hE ⊢
  have hA : ∀ q : Nat, s.heap.size ≤ q → A q := fun q h => by rw [← hAe]; exact Or.inr h
  have hS : va_S A s.heap s.heap [] := va_S.rf
  obtain ⟨hK, hNw, hNc, hZs, hAO1, hAO2⟩ := id hE
  have hSF : CallFix p mI cO cX11_explain 4 s ([.ref h0, .int (iI xv), .int (iI xw9)] : List Value).toArray woX11_explain RX11 := ⟨hx, hb, hml, hown, hts⟩
  have hl := lv_entry ([.ref h0, .int (iI xv), .int (iI xw9)] : List Value) (n := 4) (Nat.le_of_ble_eq_true rfl)
  rw [lg_entry_eq]
  generalize (lg_sl ([.ref h0, .int (iI xv), .int (iI xw9)] : List Value) ++ List.replicate (4 - (lg_sl ([.ref h0, .int (iI xv), .int (iI xw9)] : List Value)).length) Slot.unset).toArray = ls at hl ⊢
  have hl : lv_has ls 4 [(0, .ref h0), (1, .int (iI xv)), (2, .int (iI xw9))] := hl
  refine W_gen (fun Q hQ => ?_)
  change W p l e ({ frames := 1, cells := 0, slots := 0, locals := 22 } : Room) s mI _ below meth cO s.heap [] 0 0 Q _
  have hP : va_P (dC, dI) vwCl [(h0, .inr (11, [.ref hg, .long (lI 0), .ref hk, .long (lI 0), .int (iI 0), .ref hp, .ref hpu, .int (iI 0), .ref hs, .long (lI 0), .int (iI 0), .int (iI 0), .int (iI 0), .int (iI 0), .int (iI 0), .long (lI 0), .ref hpl, .int (iI 0), .ref hpd, .int (iI 0), .ref htx, .int (iI 0), .int (iI 0), .int (iI (-1)), .int (iI (-1)), .int (iI 0), .ref htd, .int (iI 0), .ref hrw, .ref hrl, .ref hir])), (hg, .inl (k 0, 1460, .inl (aI g0F)))] s.heap := hP
  refine lv_aload_n hx hb dX11_explain_0 rfl (lv_at hl 0 rfl) ?_
  refine lv_iload_n hx hb dX11_explain_1 rfl (lv_at hl 1 rfl) ?_
  refine q_iconst hx hb dX11_explain_2 ?_
  refine q_icmp_lt (tgt := 15) hx hb dX11_explain_3 (by decide) (by omega) (fun c3 => ?_) (fun c3 => ?_)
  · refine q_iconst hx hb dX11_explain_15 ?_
    refine lv_goto (tgt := 24) hx hb dX11_explain_16 (by decide) ?_
    refine va_put (D := (dC, dI)) (ci := 11) (v := .int (iI 1)) (ty := .int) (C := RX11) (T := TX11) (N := 31) hx hb hts (fun _ h => List.mem_cons_of_mem _ (inlX11 _ h)) tyX11 tyX11_ok nmX11 hown hK hP hD hS 0 rfl rfl 11 (by decide) (hts (.fieldLink RX11 56 "LoanServicingModel" "thrown" "I") (List.mem_cons_of_mem _ (wl_13 (List.mem_of_getElem? (i := 12) rfl)))) (fun _ h9 => h9) rfl (by decide +kernel) rfl rfl (Nat.le_of_ble_eq_true rfl) dX11_explain_24 (fun H locs hP hD hS => ?_)
    have hP : va_P (dC, dI) vwCl [(h0, .inr (11, [.ref hg, .long (lI 0), .ref hk, .long (lI 0), .int (iI 0), .ref hp, .ref hpu, .int (iI 0), .ref hs, .long (lI 0), .int (iI 0), .int (iI 1), .int (iI 0), .int (iI 0), .int (iI 0), .long (lI 0), .ref hpl, .int (iI 0), .ref hpd, .int (iI 0), .ref htx, .int (iI 0), .int (iI 0), .int (iI (-1)), .int (iI (-1)), .int (iI 0), .ref htd, .int (iI 0), .ref hrw, .ref hrl, .ref hir])), (hg, .inl (k 0, 1460, .inl (aI g0F)))] H := hP
    have hD : va_D A [(h0, .inr (11, [.ref hg, .long (lI 0), .ref hk, .long (lI 0), .int (iI 0), .ref hp, .ref hpu, .int (iI 0), .ref hs, .long (lI 0), .int (iI 0), .int (iI 1), .int (iI 0), .int (iI 0), .int (iI 0), .long (lI 0), .ref hpl, .int (iI 0), .ref hpd, .int (iI 0), .ref htx, .int (iI 0), .int (iI 0), .int (iI (-1)), .int (iI (-1)), .int (iI 0), .ref htd, .int (iI 0), .ref hrw, .ref hrl, .ref hir])), (hg, .inl (k 0, 1460, .inl (aI g0F)))] := hD
    refine lv_aload_n hx hb dX11_explain_27 rfl (lv_at hl 0 rfl) ?_
    refine va_get (D := (dC, dI)) (ci := 11) (v := .int (iI 1)) (C := RX11) (T := TX11) (N := 31) hx hb hts (fun _ h => List.mem_cons_of_mem _ (inlX11 _ h)) hown hK hP 0 rfl rfl 11 (by decide) (hts (.fieldLink RX11 56 "LoanServicingModel" "thrown" "I") (List.mem_cons_of_mem _ (wl_13 (List.mem_of_getElem? (i := 12) rfl)))) (fun _ h9 => h9) rfl dX11_explain_28 ?_
    refine q_if_le (tgt := 36) hx hb dX11_explain_31 (by decide) (by omega) (fun q => absurd q (by omega)) (fun _ => ?_)
    refine q_iconst hx hb dX11_explain_34 ?_
    rw [hQ]
    refine W.widen (k := 0) (n := 0) (Nat.le_of_ble_eq_true rfl) (Nat.le_of_ble_eq_true rfl) ?_
    exact W.iret (v := (iI 0)) hx hb hr (fun t ht hW => ⟨⟨(iI 0), (), rfl, rfl, by rw [ht]; exact hP.sub [0] rfl, by rw [hAe]; exact hD.sub [0] (by decide) rfl⟩, hS.F ht⟩) hS.2.2 dX11_explain_35
  · refine lv_iload_n hx hb dX11_explain_6 rfl (lv_at hl 2 rfl) ?_
    refine q_iconst hx hb dX11_explain_7 ?_
    refine q_iconst hx hb dX11_explain_8 ?_
    refine ki (va_runS (As := [.int (iI xw9), .int (iI 0), .int (iI 5)]) (rest := [.ref h0]) hSF ((c_X11_in l dC dI k xw9 0 5 (by omega)) s.heap.size) (va_cwS 3 hts gX11_explain_X11_in rfl rfl rfl (by decide +kernel) ⟨Nat.le_of_ble_eq_true rfl, Nat.le_of_ble_eq_true rfl⟩) (preS hP hD hE hS hA [] rfl (by decide)) rfl rfl hl.1 rfl (lv_room (Nat.le_of_ble_eq_true rfl)) dX11_explain_9 ⟨Nat.le_of_ble_eq_true rfl, Nat.le_of_ble_eq_true rfl⟩) hP hD hS hA [] [0, 1] rfl (wr := [(h0, .inr (11, [.ref hg, .long (lI 0), .ref hk, .long (lI 0), .int (iI 0), .ref hp, .ref hpu, .int (iI 0), .ref hs, .long (lI 0), .int (iI 0), .int (iI 0), .int (iI 0), .int (iI 0), .int (iI 0), .long (lI 0), .ref hpl, .int (iI 0), .ref hpd, .int (iI 0), .ref htx, .int (iI 0), .int (iI 0), .int (iI (-1)), .int (iI (-1)), .int (iI 0), .ref htd, .int (iI 0), .ref hrw, .ref hrl, .ref hir])), (hg, .inl (k 0, 1460, .inl (aI g0F)))]) rfl (by decide) (by decide) (fun r9 _ H locs hw hP hD hS => ?_)
    obtain rfl : r9 = iI 0 := hw.trans (by rw [wi0 (by omega)])
    have hP : va_P (dC, dI) vwCl [(h0, .inr (11, [.ref hg, .long (lI 0), .ref hk, .long (lI 0), .int (iI 0), .ref hp, .ref hpu, .int (iI 0), .ref hs, .long (lI 0), .int (iI 0), .int (iI 0), .int (iI 0), .int (iI 0), .int (iI 0), .long (lI 0), .ref hpl, .int (iI 0), .ref hpd, .int (iI 0), .ref htx, .int (iI 0), .int (iI 0), .int (iI (-1)), .int (iI (-1)), .int (iI 0), .ref htd, .int (iI 0), .ref hrw, .ref hrl, .ref hir])), (hg, .inl (k 0, 1460, .inl (aI g0F)))] H := hP
    have hD : va_D A [(h0, .inr (11, [.ref hg, .long (lI 0), .ref hk, .long (lI 0), .int (iI 0), .ref hp, .ref hpu, .int (iI 0), .ref hs, .long (lI 0), .int (iI 0), .int (iI 0), .int (iI 0), .int (iI 0), .int (iI 0), .long (lI 0), .ref hpl, .int (iI 0), .ref hpd, .int (iI 0), .ref htx, .int (iI 0), .int (iI 0), .int (iI (-1)), .int (iI (-1)), .int (iI 0), .ref htd, .int (iI 0), .ref hrw, .ref hrl, .ref hir])), (hg, .inl (k 0, 1460, .inl (aI g0F)))] := hD
    refine q_if_ne (tgt := 19) hx hb dX11_explain_12 (by decide) (by omega) (fun q => absurd q (by omega)) (fun _ => ?_)
    refine q_iconst hx hb dX11_explain_15 ?_
    refine lv_goto (tgt := 24) hx hb dX11_explain_16 (by decide) ?_
    refine va_put (D := (dC, dI)) (ci := 11) (v := .int (iI 1)) (ty := .int) (C := RX11) (T := TX11) (N := 31) hx hb hts (fun _ h => List.mem_cons_of_mem _ (inlX11 _ h)) tyX11 tyX11_ok nmX11 hown hK hP hD hS 0 rfl rfl 11 (by decide) (hts (.fieldLink RX11 56 "LoanServicingModel" "thrown" "I") (List.mem_cons_of_mem _ (wl_13 (List.mem_of_getElem? (i := 12) rfl)))) (fun _ h9 => h9) rfl (by decide +kernel) rfl rfl (Nat.le_of_ble_eq_true rfl) dX11_explain_24 (fun H locs hP hD hS => ?_)
    have hP : va_P (dC, dI) vwCl [(h0, .inr (11, [.ref hg, .long (lI 0), .ref hk, .long (lI 0), .int (iI 0), .ref hp, .ref hpu, .int (iI 0), .ref hs, .long (lI 0), .int (iI 0), .int (iI 1), .int (iI 0), .int (iI 0), .int (iI 0), .long (lI 0), .ref hpl, .int (iI 0), .ref hpd, .int (iI 0), .ref htx, .int (iI 0), .int (iI 0), .int (iI (-1)), .int (iI (-1)), .int (iI 0), .ref htd, .int (iI 0), .ref hrw, .ref hrl, .ref hir])), (hg, .inl (k 0, 1460, .inl (aI g0F)))] H := hP
    have hD : va_D A [(h0, .inr (11, [.ref hg, .long (lI 0), .ref hk, .long (lI 0), .int (iI 0), .ref hp, .ref hpu, .int (iI 0), .ref hs, .long (lI 0), .int (iI 0), .int (iI 1), .int (iI 0), .int (iI 0), .int (iI 0), .long (lI 0), .ref hpl, .int (iI 0), .ref hpd, .int (iI 0), .ref htx, .int (iI 0), .int (iI 0), .int (iI (-1)), .int (iI (-1)), .int (iI 0), .ref htd, .int (iI 0), .ref hrw, .ref hrl, .ref hir])), (hg, .inl (k 0, 1460, .inl (aI g0F)))] := hD
    refine lv_aload_n hx hb dX11_explain_27 rfl (lv_at hl 0 rfl) ?_
    refine va_get (D := (dC, dI)) (ci := 11) (v := .int (iI 1)) (C := RX11) (T := TX11) (N := 31) hx hb hts (fun _ h => List.mem_cons_of_mem _ (inlX11 _ h)) hown hK hP 0 rfl rfl 11 (by decide) (hts (.fieldLink RX11 56 "LoanServicingModel" "thrown" "I") (List.mem_cons_of_mem _ (wl_13 (List.mem_of_getElem? (i := 12) rfl)))) (fun _ h9 => h9) rfl dX11_explain_28 ?_
    refine q_if_le (tgt := 36) hx hb dX11_explain_31 (by decide) (by omega) (fun q => absurd q (by omega)) (fun _ => ?_)
    refine q_iconst hx hb dX11_explain_34 ?_
    rw [hQ]
    refine W.widen (k := 0) (n := 0) (Nat.le_of_ble_eq_true rfl) (Nat.le_of_ble_eq_true rfl) ?_
    exact W.iret (v := (iI 0)) hx hb hr (fun t ht hW => ⟨⟨(iI 0), (), rfl, rfl, by rw [ht]; exact hP.sub [0] rfl, by rw [hAe]; exact hD.sub [0] (by decide) rfl⟩, hS.F ht⟩) hS.2.2 dX11_explain_35
set_option maxHeartbeats 4000000 in
set_option maxRecDepth 100000 in
/-- the reference: explain, refused 1 -/
theorem c_X11_explain_1 (l : Launch) (dC : Nat → ClassId) (dI : Nat → Nat → Nat) (k : Nat → ClassId) (h0 hg hk hp hpu hs hpl hpd htx htd hrw hrl hir : Nat) (xv xw9 : Int) (hv9 : -2147483648 ≤ xv ∧ xv ≤ 2147483647 ∧ -2147483648 ≤ xw9 ∧ xw9 ≤ 2147483647) (hv : (0 ≤ xw9 ∧ xw9 ≤ 5) ∧ ¬ (0 < xv)) (sz : Nat) : Met l yX11_explain woX11_explain ({ frames := 0, cells := 0, slots := 0, locals := 0 } : Room) (PcW (dC, dI) k [.ref h0, .int (iI xv), .int (iI xw9)] [(h0, .inr (11, [.ref hg, .long (lI 0), .ref hk, .long (lI 0), .int (iI 0), .ref hp, .ref hpu, .int (iI 0), .ref hs, .long (lI 0), .int (iI 0), .int (iI 0), .int (iI 0), .int (iI 0), .int (iI 0), .long (lI 0), .ref hpl, .int (iI 0), .ref hpd, .int (iI 0), .ref htx, .int (iI 0), .int (iI 0), .int (iI (-1)), .int (iI (-1)), .int (iI 0), .ref htd, .int (iI 0), .ref hrw, .ref hrl, .ref hir])), (hg, .inl (k 0, 1460, .inl (aI g0F)))] sz) (va_Qi (fun (r : Int32) (_ : Unit) => r = iI 0) (QB (dC, dI) [(h0, .inr (11, [.ref hg, .long (lI 0), .ref hk, .long (lI 0), .int (iI 0), .ref hp, .ref hpu, .int (iI 0), .ref hs, .long (lI 0), .int (iI 0), .int (iI 0), .int (iI 0), .int (iI 0), .int (iI 0), .long (lI 0), .ref hpl, .int (iI 0), .ref hpd, .int (iI 0), .ref htx, .int (iI 0), .int (iI 0), .int (iI (-1)), .int (iI (-1)), .int (iI 0), .ref htd, .int (iI 0), .ref hrw, .ref hrl, .ref hir])), (hg, .inl (k 0, 1460, .inl (aI g0F)))] (fun _ => [(h0, .inr (11, [.ref hg, .long (lI 0), .ref hk, .long (lI 0), .int (iI 0), .ref hp, .ref hpu, .int (iI 0), .ref hs, .long (lI 0), .int (iI 0), .int (iI 1), .int (iI 0), .int (iI 0), .int (iI 0), .long (lI 0), .ref hpl, .int (iI 0), .ref hpd, .int (iI 0), .ref htx, .int (iI 0), .int (iI 0), .int (iI (-1)), .int (iI (-1)), .int (iI 0), .ref htd, .int (iI 0), .ref hrw, .ref hrl, .ref hir]))]) sz) (va_A [(h0, .inr (11, [.ref hg, .long (lI 0), .ref hk, .long (lI 0), .int (iI 0), .ref hp, .ref hpu, .int (iI 0), .ref hs, .long (lI 0), .int (iI 0), .int (iI 0), .int (iI 0), .int (iI 0), .int (iI 0), .long (lI 0), .ref hpl, .int (iI 0), .ref hpd, .int (iI 0), .ref htx, .int (iI 0), .int (iI 0), .int (iI (-1)), .int (iI (-1)), .int (iI 0), .ref htd, .int (iI 0), .ref hrw, .ref hrl, .ref hir])), (hg, .inl (k 0, 1460, .inl (aI g0F)))] sz)) 0 0 (va_A [(h0, .inr (11, [.ref hg, .long (lI 0), .ref hk, .long (lI 0), .int (iI 0), .ref hp, .ref hpu, .int (iI 0), .ref hs, .long (lI 0), .int (iI 0), .int (iI 0), .int (iI 0), .int (iI 0), .int (iI 0), .long (lI 0), .ref hpl, .int (iI 0), .ref hpd, .int (iI 0), .ref htx, .int (iI 0), .int (iI 0), .int (iI (-1)), .int (iI (-1)), .int (iI 0), .ref htd, .int (iI 0), .ref hrw, .ref hrl, .ref hir])), (hg, .inl (k 0, 1460, .inl (aI g0F)))] sz) := by
  refine Met.ofW (cc := cX11_explain) (maxL := 4) (ret := (some .int)) (by decide) rfl ?_
  intro p e s mI args below meth cO s₁ B hml hv
  obtain ⟨rfl, rfl, hP, hD0, hE⟩ := hv
  have hx := B.exec
  have hb := B.bytes
  have hr := B.returns
  have hts := atoms_spec (ws := woX11_explain) B.pre
  have hown : s.vm.findClass RX11 = some mI.cls := findClass_of_methodNamed B.named
  have hlocks := B.notSynchronized
  have hD := hD0.self (sz := s.heap.size)
  generalize hAe : va_A [(h0, .inr (11, [.ref hg, .long (lI 0), .ref hk, .long (lI 0), .int (iI 0), .ref hp, .ref hpu, .int (iI 0), .ref hs, .long (lI 0), .int (iI 0), .int (iI 0), .int (iI 0), .int (iI 0), .int (iI 0), .long (lI 0), .ref hpl, .int (iI 0), .ref hpd, .int (iI 0), .ref htx, .int (iI 0), .int (iI 0), .int (iI (-1)), .int (iI (-1)), .int (iI 0), .ref htd, .int (iI 0), .ref hrw, .ref hrl, .ref hir])), (hg, .inl (k 0, 1460, .inl (aI g0F)))] s.heap.size = A at hD hE ⊢
  have hA : ∀ q : Nat, s.heap.size ≤ q → A q := fun q h => by rw [← hAe]; exact Or.inr h
  have hS : va_S A s.heap s.heap [] := va_S.rf
  obtain ⟨hK, hNw, hNc, hZs, hAO1, hAO2⟩ := id hE
  have hSF : CallFix p mI cO cX11_explain 4 s ([.ref h0, .int (iI xv), .int (iI xw9)] : List Value).toArray woX11_explain RX11 := ⟨hx, hb, hml, hown, hts⟩
  have hl := lv_entry ([.ref h0, .int (iI xv), .int (iI xw9)] : List Value) (n := 4) (Nat.le_of_ble_eq_true rfl)
  rw [lg_entry_eq]
  generalize (lg_sl ([.ref h0, .int (iI xv), .int (iI xw9)] : List Value) ++ List.replicate (4 - (lg_sl ([.ref h0, .int (iI xv), .int (iI xw9)] : List Value)).length) Slot.unset).toArray = ls at hl ⊢
  have hl : lv_has ls 4 [(0, .ref h0), (1, .int (iI xv)), (2, .int (iI xw9))] := hl
  refine W_gen (fun Q hQ => ?_)
  change W p l e ({ frames := 0, cells := 0, slots := 0, locals := 0 } : Room) s mI _ below meth cO s.heap [] 0 0 Q _
  have hP : va_P (dC, dI) vwCl [(h0, .inr (11, [.ref hg, .long (lI 0), .ref hk, .long (lI 0), .int (iI 0), .ref hp, .ref hpu, .int (iI 0), .ref hs, .long (lI 0), .int (iI 0), .int (iI 0), .int (iI 0), .int (iI 0), .int (iI 0), .long (lI 0), .ref hpl, .int (iI 0), .ref hpd, .int (iI 0), .ref htx, .int (iI 0), .int (iI 0), .int (iI (-1)), .int (iI (-1)), .int (iI 0), .ref htd, .int (iI 0), .ref hrw, .ref hrl, .ref hir])), (hg, .inl (k 0, 1460, .inl (aI g0F)))] s.heap := hP
  refine lv_aload_n hx hb dX11_explain_0 rfl (lv_at hl 0 rfl) ?_
  refine lv_iload_n hx hb dX11_explain_1 rfl (lv_at hl 1 rfl) ?_
  refine q_iconst hx hb dX11_explain_2 ?_
  refine q_icmp_lt (tgt := 15) hx hb dX11_explain_3 (by decide) (by omega) (fun _ => ?_) (fun q => absurd q (by omega))
  refine q_iconst hx hb dX11_explain_15 ?_
  refine lv_goto (tgt := 24) hx hb dX11_explain_16 (by decide) ?_
  refine va_put (D := (dC, dI)) (ci := 11) (v := .int (iI 1)) (ty := .int) (C := RX11) (T := TX11) (N := 31) hx hb hts (fun _ h => List.mem_cons_of_mem _ (inlX11 _ h)) tyX11 tyX11_ok nmX11 hown hK hP hD hS 0 rfl rfl 11 (by decide) (hts (.fieldLink RX11 56 "LoanServicingModel" "thrown" "I") (List.mem_cons_of_mem _ (wl_13 (List.mem_of_getElem? (i := 12) rfl)))) (fun _ h9 => h9) rfl (by decide +kernel) rfl rfl (Nat.le_of_ble_eq_true rfl) dX11_explain_24 (fun H locs hP hD hS => ?_)
  have hP : va_P (dC, dI) vwCl [(h0, .inr (11, [.ref hg, .long (lI 0), .ref hk, .long (lI 0), .int (iI 0), .ref hp, .ref hpu, .int (iI 0), .ref hs, .long (lI 0), .int (iI 0), .int (iI 1), .int (iI 0), .int (iI 0), .int (iI 0), .long (lI 0), .ref hpl, .int (iI 0), .ref hpd, .int (iI 0), .ref htx, .int (iI 0), .int (iI 0), .int (iI (-1)), .int (iI (-1)), .int (iI 0), .ref htd, .int (iI 0), .ref hrw, .ref hrl, .ref hir])), (hg, .inl (k 0, 1460, .inl (aI g0F)))] H := hP
  have hD : va_D A [(h0, .inr (11, [.ref hg, .long (lI 0), .ref hk, .long (lI 0), .int (iI 0), .ref hp, .ref hpu, .int (iI 0), .ref hs, .long (lI 0), .int (iI 0), .int (iI 1), .int (iI 0), .int (iI 0), .int (iI 0), .long (lI 0), .ref hpl, .int (iI 0), .ref hpd, .int (iI 0), .ref htx, .int (iI 0), .int (iI 0), .int (iI (-1)), .int (iI (-1)), .int (iI 0), .ref htd, .int (iI 0), .ref hrw, .ref hrl, .ref hir])), (hg, .inl (k 0, 1460, .inl (aI g0F)))] := hD
  refine lv_aload_n hx hb dX11_explain_27 rfl (lv_at hl 0 rfl) ?_
  refine va_get (D := (dC, dI)) (ci := 11) (v := .int (iI 1)) (C := RX11) (T := TX11) (N := 31) hx hb hts (fun _ h => List.mem_cons_of_mem _ (inlX11 _ h)) hown hK hP 0 rfl rfl 11 (by decide) (hts (.fieldLink RX11 56 "LoanServicingModel" "thrown" "I") (List.mem_cons_of_mem _ (wl_13 (List.mem_of_getElem? (i := 12) rfl)))) (fun _ h9 => h9) rfl dX11_explain_28 ?_
  refine q_if_le (tgt := 36) hx hb dX11_explain_31 (by decide) (by omega) (fun q => absurd q (by omega)) (fun _ => ?_)
  refine q_iconst hx hb dX11_explain_34 ?_
  rw [hQ]
  refine W.widen (k := 0) (n := 0) (Nat.le_of_ble_eq_true rfl) (Nat.le_of_ble_eq_true rfl) ?_
  exact W.iret (v := (iI 0)) hx hb hr (fun t ht hW => ⟨⟨(iI 0), (), rfl, rfl, by rw [ht]; exact hP.sub [0] rfl, by rw [hAe]; exact hD.sub [0] (by decide) rfl⟩, hS.F ht⟩) hS.2.2 dX11_explain_35
set_option maxHeartbeats 4000000 in
set_option maxRecDepth 100000 in
/-- the reference: explain, refused 2 -/
theorem c_X11_explain_2 (l : Launch) (dC : Nat → ClassId) (dI : Nat → Nat → Nat) (k : Nat → ClassId) (h0 hg hk hp hpu hs hpl hpd htx htd hrw hrl hir : Nat) (xv xw9 : Int) (hv9 : -2147483648 ≤ xv ∧ xv ≤ 2147483647 ∧ -2147483648 ≤ xw9 ∧ xw9 ≤ 2147483647) (hv : (0 ≤ xw9 ∧ xw9 ≤ 5) ∧ 0 < xv) (sz : Nat) : Met l yX11_explain woX11_explain ({ frames := 1, cells := 0, slots := 0, locals := 22 } : Room) (PcW (dC, dI) k [.ref h0, .int (iI xv), .int (iI xw9)] [(h0, .inr (11, [.ref hg, .long (lI 0), .ref hk, .long (lI 0), .int (iI 0), .ref hp, .ref hpu, .int (iI 0), .ref hs, .long (lI 0), .int (iI 0), .int (iI 0), .int (iI 0), .int (iI 0), .int (iI 0), .long (lI 0), .ref hpl, .int (iI 0), .ref hpd, .int (iI 0), .ref htx, .int (iI 0), .int (iI 0), .int (iI (-1)), .int (iI (-1)), .int (iI 0), .ref htd, .int (iI 0), .ref hrw, .ref hrl, .ref hir])), (hg, .inl (k 0, 1460, .inl (aI g0F)))] sz) (va_Qi (fun (r : Int32) (_ : Unit) => r = iI 0) (QB (dC, dI) [(h0, .inr (11, [.ref hg, .long (lI 0), .ref hk, .long (lI 0), .int (iI 0), .ref hp, .ref hpu, .int (iI 0), .ref hs, .long (lI 0), .int (iI 0), .int (iI 0), .int (iI 0), .int (iI 0), .int (iI 0), .long (lI 0), .ref hpl, .int (iI 0), .ref hpd, .int (iI 0), .ref htx, .int (iI 0), .int (iI 0), .int (iI (-1)), .int (iI (-1)), .int (iI 0), .ref htd, .int (iI 0), .ref hrw, .ref hrl, .ref hir])), (hg, .inl (k 0, 1460, .inl (aI g0F)))] (fun _ => [(h0, .inr (11, [.ref hg, .long (lI 0), .ref hk, .long (lI 0), .int (iI 0), .ref hp, .ref hpu, .int (iI 0), .ref hs, .long (lI 0), .int (iI 0), .int (iI 2), .int (iI 0), .int (iI 0), .int (iI 0), .long (lI 0), .ref hpl, .int (iI 0), .ref hpd, .int (iI 0), .ref htx, .int (iI 0), .int (iI 0), .int (iI (-1)), .int (iI (-1)), .int (iI 0), .ref htd, .int (iI 0), .ref hrw, .ref hrl, .ref hir]))]) sz) (va_A [(h0, .inr (11, [.ref hg, .long (lI 0), .ref hk, .long (lI 0), .int (iI 0), .ref hp, .ref hpu, .int (iI 0), .ref hs, .long (lI 0), .int (iI 0), .int (iI 0), .int (iI 0), .int (iI 0), .int (iI 0), .long (lI 0), .ref hpl, .int (iI 0), .ref hpd, .int (iI 0), .ref htx, .int (iI 0), .int (iI 0), .int (iI (-1)), .int (iI (-1)), .int (iI 0), .ref htd, .int (iI 0), .ref hrw, .ref hrl, .ref hir])), (hg, .inl (k 0, 1460, .inl (aI g0F)))] sz)) 0 0 (va_A [(h0, .inr (11, [.ref hg, .long (lI 0), .ref hk, .long (lI 0), .int (iI 0), .ref hp, .ref hpu, .int (iI 0), .ref hs, .long (lI 0), .int (iI 0), .int (iI 0), .int (iI 0), .int (iI 0), .int (iI 0), .long (lI 0), .ref hpl, .int (iI 0), .ref hpd, .int (iI 0), .ref htx, .int (iI 0), .int (iI 0), .int (iI (-1)), .int (iI (-1)), .int (iI 0), .ref htd, .int (iI 0), .ref hrw, .ref hrl, .ref hir])), (hg, .inl (k 0, 1460, .inl (aI g0F)))] sz) := by
  refine Met.ofW (cc := cX11_explain) (maxL := 4) (ret := (some .int)) (by decide) rfl ?_
  intro p e s mI args below meth cO s₁ B hml hv
  obtain ⟨rfl, rfl, hP, hD0, hE⟩ := hv
  have hx := B.exec
  have hb := B.bytes
  have hr := B.returns
  have hts := atoms_spec (ws := woX11_explain) B.pre
  have hown : s.vm.findClass RX11 = some mI.cls := findClass_of_methodNamed B.named
  have hlocks := B.notSynchronized
  have hD := hD0.self (sz := s.heap.size)
  generalize hAe : va_A [(h0, .inr (11, [.ref hg, .long (lI 0), .ref hk, .long (lI 0), .int (iI 0), .ref hp, .ref hpu, .int (iI 0), .ref hs, .long (lI 0), .int (iI 0), .int (iI 0), .int (iI 0), .int (iI 0), .int (iI 0), .long (lI 0), .ref hpl, .int (iI 0), .ref hpd, .int (iI 0), .ref htx, .int (iI 0), .int (iI 0), .int (iI (-1)), .int (iI (-1)), .int (iI 0), .ref htd, .int (iI 0), .ref hrw, .ref hrl, .ref hir])), (hg, .inl (k 0, 1460, .inl (aI g0F)))] s.heap.size = A at hD hE ⊢
  have hA : ∀ q : Nat, s.heap.size ≤ q → A q := fun q h => by rw [← hAe]; exact Or.inr h
  have hS : va_S A s.heap s.heap [] := va_S.rf
  obtain ⟨hK, hNw, hNc, hZs, hAO1, hAO2⟩ := id hE
  have hSF : CallFix p mI cO cX11_explain 4 s ([.ref h0, .int (iI xv), .int (iI xw9)] : List Value).toArray woX11_explain RX11 := ⟨hx, hb, hml, hown, hts⟩
  have hl := lv_entry ([.ref h0, .int (iI xv), .int (iI xw9)] : List Value) (n := 4) (Nat.le_of_ble_eq_true rfl)
  rw [lg_entry_eq]
  generalize (lg_sl ([.ref h0, .int (iI xv), .int (iI xw9)] : List Value) ++ List.replicate (4 - (lg_sl ([.ref h0, .int (iI xv), .int (iI xw9)] : List Value)).length) Slot.unset).toArray = ls at hl ⊢
  have hl : lv_has ls 4 [(0, .ref h0), (1, .int (iI xv)), (2, .int (iI xw9))] := hl
  refine W_gen (fun Q hQ => ?_)
  change W p l e ({ frames := 1, cells := 0, slots := 0, locals := 22 } : Room) s mI _ below meth cO s.heap [] 0 0 Q _
  have hP : va_P (dC, dI) vwCl [(h0, .inr (11, [.ref hg, .long (lI 0), .ref hk, .long (lI 0), .int (iI 0), .ref hp, .ref hpu, .int (iI 0), .ref hs, .long (lI 0), .int (iI 0), .int (iI 0), .int (iI 0), .int (iI 0), .int (iI 0), .long (lI 0), .ref hpl, .int (iI 0), .ref hpd, .int (iI 0), .ref htx, .int (iI 0), .int (iI 0), .int (iI (-1)), .int (iI (-1)), .int (iI 0), .ref htd, .int (iI 0), .ref hrw, .ref hrl, .ref hir])), (hg, .inl (k 0, 1460, .inl (aI g0F)))] s.heap := hP
  refine lv_aload_n hx hb dX11_explain_0 rfl (lv_at hl 0 rfl) ?_
  refine lv_iload_n hx hb dX11_explain_1 rfl (lv_at hl 1 rfl) ?_
  refine q_iconst hx hb dX11_explain_2 ?_
  refine q_icmp_lt (tgt := 15) hx hb dX11_explain_3 (by decide) (by omega) (fun q => absurd q (by omega)) (fun _ => ?_)
  refine lv_iload_n hx hb dX11_explain_6 rfl (lv_at hl 2 rfl) ?_
  refine q_iconst hx hb dX11_explain_7 ?_
  refine q_iconst hx hb dX11_explain_8 ?_
  refine ki (va_runS (As := [.int (iI xw9), .int (iI 0), .int (iI 5)]) (rest := [.ref h0]) hSF ((c_X11_in l dC dI k xw9 0 5 (by omega)) s.heap.size) (va_cwS 3 hts gX11_explain_X11_in rfl rfl rfl (by decide +kernel) ⟨Nat.le_of_ble_eq_true rfl, Nat.le_of_ble_eq_true rfl⟩) (preS hP hD hE hS hA [] rfl (by decide)) rfl rfl hl.1 rfl (lv_room (Nat.le_of_ble_eq_true rfl)) dX11_explain_9 ⟨Nat.le_of_ble_eq_true rfl, Nat.le_of_ble_eq_true rfl⟩) hP hD hS hA [] [0, 1] rfl (wr := [(h0, .inr (11, [.ref hg, .long (lI 0), .ref hk, .long (lI 0), .int (iI 0), .ref hp, .ref hpu, .int (iI 0), .ref hs, .long (lI 0), .int (iI 0), .int (iI 0), .int (iI 0), .int (iI 0), .int (iI 0), .long (lI 0), .ref hpl, .int (iI 0), .ref hpd, .int (iI 0), .ref htx, .int (iI 0), .int (iI 0), .int (iI (-1)), .int (iI (-1)), .int (iI 0), .ref htd, .int (iI 0), .ref hrw, .ref hrl, .ref hir])), (hg, .inl (k 0, 1460, .inl (aI g0F)))]) rfl (by decide) (by decide) (fun r9 _ H locs hw hP hD hS => ?_)
  obtain rfl : r9 = iI 1 := hw.trans (by rw [wi1 (by omega)])
  have hP : va_P (dC, dI) vwCl [(h0, .inr (11, [.ref hg, .long (lI 0), .ref hk, .long (lI 0), .int (iI 0), .ref hp, .ref hpu, .int (iI 0), .ref hs, .long (lI 0), .int (iI 0), .int (iI 0), .int (iI 0), .int (iI 0), .int (iI 0), .long (lI 0), .ref hpl, .int (iI 0), .ref hpd, .int (iI 0), .ref htx, .int (iI 0), .int (iI 0), .int (iI (-1)), .int (iI (-1)), .int (iI 0), .ref htd, .int (iI 0), .ref hrw, .ref hrl, .ref hir])), (hg, .inl (k 0, 1460, .inl (aI g0F)))] H := hP
  have hD : va_D A [(h0, .inr (11, [.ref hg, .long (lI 0), .ref hk, .long (lI 0), .int (iI 0), .ref hp, .ref hpu, .int (iI 0), .ref hs, .long (lI 0), .int (iI 0), .int (iI 0), .int (iI 0), .int (iI 0), .int (iI 0), .long (lI 0), .ref hpl, .int (iI 0), .ref hpd, .int (iI 0), .ref htx, .int (iI 0), .int (iI 0), .int (iI (-1)), .int (iI (-1)), .int (iI 0), .ref htd, .int (iI 0), .ref hrw, .ref hrl, .ref hir])), (hg, .inl (k 0, 1460, .inl (aI g0F)))] := hD
  refine q_if_ne (tgt := 19) hx hb dX11_explain_12 (by decide) (by omega) (fun _ => ?_) (fun q => absurd q (by omega))
  refine lv_aload_n hx hb dX11_explain_19 rfl (lv_at hl 0 rfl) ?_
  refine lv_iload_n hx hb dX11_explain_20 rfl (lv_at hl 1 rfl) ?_
  refine ki (va_runV (As := [.int (iI xv)]) (rest := [.ref h0]) hSF ((c_X11_against_2 l dC dI k h0 hg hk hp hpu hs hpl hpd htx htd hrw hrl hir xv (by omega) (by omega)) H.size) (cwV 1 hts gX11_explain_X11_against rfl rfl rfl (by decide +kernel) ⟨Nat.le_of_ble_eq_true rfl, Nat.le_of_ble_eq_true rfl⟩) (preV hP hD hE hS hA [0, 1] rfl (by decide) (ci := 11) (q0 := 0) rfl rfl) rfl rfl hl.1 rfl (lv_room (Nat.le_of_ble_eq_true rfl)) dX11_explain_21 ⟨Nat.le_of_ble_eq_true rfl, Nat.le_of_ble_eq_true rfl⟩) hP hD hS hA [0, 1] [] rfl (wr := []) rfl (by decide) (by decide) (fun r21 _ H locs hw hP hD hS => ?_)
  obtain rfl : r21 = (iI 2) := hw
  have hP : va_P (dC, dI) vwCl [(h0, .inr (11, [.ref hg, .long (lI 0), .ref hk, .long (lI 0), .int (iI 0), .ref hp, .ref hpu, .int (iI 0), .ref hs, .long (lI 0), .int (iI 0), .int (iI 0), .int (iI 0), .int (iI 0), .int (iI 0), .long (lI 0), .ref hpl, .int (iI 0), .ref hpd, .int (iI 0), .ref htx, .int (iI 0), .int (iI 0), .int (iI (-1)), .int (iI (-1)), .int (iI 0), .ref htd, .int (iI 0), .ref hrw, .ref hrl, .ref hir])), (hg, .inl (k 0, 1460, .inl (aI g0F)))] H := hP
  have hD : va_D A [(h0, .inr (11, [.ref hg, .long (lI 0), .ref hk, .long (lI 0), .int (iI 0), .ref hp, .ref hpu, .int (iI 0), .ref hs, .long (lI 0), .int (iI 0), .int (iI 0), .int (iI 0), .int (iI 0), .int (iI 0), .long (lI 0), .ref hpl, .int (iI 0), .ref hpd, .int (iI 0), .ref htx, .int (iI 0), .int (iI 0), .int (iI (-1)), .int (iI (-1)), .int (iI 0), .ref htd, .int (iI 0), .ref hrw, .ref hrl, .ref hir])), (hg, .inl (k 0, 1460, .inl (aI g0F)))] := hD
  refine va_put (D := (dC, dI)) (ci := 11) (v := .int (iI 2)) (ty := .int) (C := RX11) (T := TX11) (N := 31) hx hb hts (fun _ h => List.mem_cons_of_mem _ (inlX11 _ h)) tyX11 tyX11_ok nmX11 hown hK hP hD hS 0 rfl rfl 11 (by decide) (hts (.fieldLink RX11 56 "LoanServicingModel" "thrown" "I") (List.mem_cons_of_mem _ (wl_13 (List.mem_of_getElem? (i := 12) rfl)))) (fun _ h9 => h9) rfl (by decide +kernel) rfl rfl (Nat.le_of_ble_eq_true rfl) dX11_explain_24 (fun H locs hP hD hS => ?_)
  have hP : va_P (dC, dI) vwCl [(h0, .inr (11, [.ref hg, .long (lI 0), .ref hk, .long (lI 0), .int (iI 0), .ref hp, .ref hpu, .int (iI 0), .ref hs, .long (lI 0), .int (iI 0), .int (iI 2), .int (iI 0), .int (iI 0), .int (iI 0), .long (lI 0), .ref hpl, .int (iI 0), .ref hpd, .int (iI 0), .ref htx, .int (iI 0), .int (iI 0), .int (iI (-1)), .int (iI (-1)), .int (iI 0), .ref htd, .int (iI 0), .ref hrw, .ref hrl, .ref hir])), (hg, .inl (k 0, 1460, .inl (aI g0F)))] H := hP
  have hD : va_D A [(h0, .inr (11, [.ref hg, .long (lI 0), .ref hk, .long (lI 0), .int (iI 0), .ref hp, .ref hpu, .int (iI 0), .ref hs, .long (lI 0), .int (iI 0), .int (iI 2), .int (iI 0), .int (iI 0), .int (iI 0), .long (lI 0), .ref hpl, .int (iI 0), .ref hpd, .int (iI 0), .ref htx, .int (iI 0), .int (iI 0), .int (iI (-1)), .int (iI (-1)), .int (iI 0), .ref htd, .int (iI 0), .ref hrw, .ref hrl, .ref hir])), (hg, .inl (k 0, 1460, .inl (aI g0F)))] := hD
  refine lv_aload_n hx hb dX11_explain_27 rfl (lv_at hl 0 rfl) ?_
  refine va_get (D := (dC, dI)) (ci := 11) (v := .int (iI 2)) (C := RX11) (T := TX11) (N := 31) hx hb hts (fun _ h => List.mem_cons_of_mem _ (inlX11 _ h)) hown hK hP 0 rfl rfl 11 (by decide) (hts (.fieldLink RX11 56 "LoanServicingModel" "thrown" "I") (List.mem_cons_of_mem _ (wl_13 (List.mem_of_getElem? (i := 12) rfl)))) (fun _ h9 => h9) rfl dX11_explain_28 ?_
  refine q_if_le (tgt := 36) hx hb dX11_explain_31 (by decide) (by omega) (fun q => absurd q (by omega)) (fun _ => ?_)
  refine q_iconst hx hb dX11_explain_34 ?_
  rw [hQ]
  refine W.widen (k := 0) (n := 0) (Nat.le_of_ble_eq_true rfl) (Nat.le_of_ble_eq_true rfl) ?_
  exact W.iret (v := (iI 0)) hx hb hr (fun t ht hW => ⟨⟨(iI 0), (), rfl, rfl, by rw [ht]; exact hP.sub [0] rfl, by rw [hAe]; exact hD.sub [0] (by decide) rfl⟩, hS.F ht⟩) hS.2.2 dX11_explain_35
set_option maxHeartbeats 4000000 in
set_option maxRecDepth 100000 in
/-- the reference: unpaid -/
theorem c_X11_unpaid (l : Launch) (dC : Nat → ClassId) (dI : Nat → Nat → Nat) (k : Nat → ClassId) (h0 hg hk hp hpu hs hpl hpd htx htd hrw hrl hir : Nat) (sz : Nat) : Met l yX11_unpaid woX11_unpaid ({ frames := 0, cells := 0, slots := 0, locals := 0 } : Room) (PcW (dC, dI) k [.ref h0] [(h0, .inr (11, [.ref hg, .long (lI 0), .ref hk, .long (lI 0), .int (iI 0), .ref hp, .ref hpu, .int (iI 0), .ref hs, .long (lI 0), .int (iI 0), .int (iI 0), .int (iI 0), .int (iI 0), .int (iI 0), .long (lI 0), .ref hpl, .int (iI 0), .ref hpd, .int (iI 0), .ref htx, .int (iI 0), .int (iI 0), .int (iI (-1)), .int (iI (-1)), .int (iI 0), .ref htd, .int (iI 0), .ref hrw, .ref hrl, .ref hir])), (hg, .inl (k 0, 1460, .inl (aI g0F)))] sz) (va_Qi (fun (r : Int32) (_ : Unit) => r = iI 0) (QB (dC, dI) [(h0, .inr (11, [.ref hg, .long (lI 0), .ref hk, .long (lI 0), .int (iI 0), .ref hp, .ref hpu, .int (iI 0), .ref hs, .long (lI 0), .int (iI 0), .int (iI 0), .int (iI 0), .int (iI 0), .int (iI 0), .long (lI 0), .ref hpl, .int (iI 0), .ref hpd, .int (iI 0), .ref htx, .int (iI 0), .int (iI 0), .int (iI (-1)), .int (iI (-1)), .int (iI 0), .ref htd, .int (iI 0), .ref hrw, .ref hrl, .ref hir])), (hg, .inl (k 0, 1460, .inl (aI g0F)))] (fun _ => [(h0, .inr (11, [.ref hg, .long (lI 0), .ref hk, .long (lI 0), .int (iI 0), .ref hp, .ref hpu, .int (iI 0), .ref hs, .long (lI 0), .int (iI 0), .int (iI 0), .int (iI 0), .int (iI 0), .int (iI 0), .long (lI 0), .ref hpl, .int (iI 0), .ref hpd, .int (iI 0), .ref htx, .int (iI 0), .int (iI 0), .int (iI (-1)), .int (iI (-1)), .int (iI 0), .ref htd, .int (iI 0), .ref hrw, .ref hrl, .ref hir]))]) sz) (va_A [(h0, .inr (11, [.ref hg, .long (lI 0), .ref hk, .long (lI 0), .int (iI 0), .ref hp, .ref hpu, .int (iI 0), .ref hs, .long (lI 0), .int (iI 0), .int (iI 0), .int (iI 0), .int (iI 0), .int (iI 0), .long (lI 0), .ref hpl, .int (iI 0), .ref hpd, .int (iI 0), .ref htx, .int (iI 0), .int (iI 0), .int (iI (-1)), .int (iI (-1)), .int (iI 0), .ref htd, .int (iI 0), .ref hrw, .ref hrl, .ref hir])), (hg, .inl (k 0, 1460, .inl (aI g0F)))] sz)) 0 0 (va_A [(h0, .inr (11, [.ref hg, .long (lI 0), .ref hk, .long (lI 0), .int (iI 0), .ref hp, .ref hpu, .int (iI 0), .ref hs, .long (lI 0), .int (iI 0), .int (iI 0), .int (iI 0), .int (iI 0), .int (iI 0), .long (lI 0), .ref hpl, .int (iI 0), .ref hpd, .int (iI 0), .ref htx, .int (iI 0), .int (iI 0), .int (iI (-1)), .int (iI (-1)), .int (iI 0), .ref htd, .int (iI 0), .ref hrw, .ref hrl, .ref hir])), (hg, .inl (k 0, 1460, .inl (aI g0F)))] sz) := by
  refine Met.ofW (cc := cX11_unpaid) (maxL := 3) (ret := (some .int)) (by decide) rfl ?_
  intro p e s mI args below meth cO s₁ B hml hv
  obtain ⟨rfl, rfl, hP, hD0, hE⟩ := hv
  have hx := B.exec
  have hb := B.bytes
  have hr := B.returns
  have hts := atoms_spec (ws := woX11_unpaid) B.pre
  have hown : s.vm.findClass RX11 = some mI.cls := findClass_of_methodNamed B.named
  have hlocks := B.notSynchronized
  have hD := hD0.self (sz := s.heap.size)
  generalize hAe : va_A [(h0, .inr (11, [.ref hg, .long (lI 0), .ref hk, .long (lI 0), .int (iI 0), .ref hp, .ref hpu, .int (iI 0), .ref hs, .long (lI 0), .int (iI 0), .int (iI 0), .int (iI 0), .int (iI 0), .int (iI 0), .long (lI 0), .ref hpl, .int (iI 0), .ref hpd, .int (iI 0), .ref htx, .int (iI 0), .int (iI 0), .int (iI (-1)), .int (iI (-1)), .int (iI 0), .ref htd, .int (iI 0), .ref hrw, .ref hrl, .ref hir])), (hg, .inl (k 0, 1460, .inl (aI g0F)))] s.heap.size = A at hD hE ⊢
  have hA : ∀ q : Nat, s.heap.size ≤ q → A q := fun q h => by rw [← hAe]; exact Or.inr h
  have hS : va_S A s.heap s.heap [] := va_S.rf
  obtain ⟨hK, hNw, hNc, hZs, hAO1, hAO2⟩ := id hE
  have hSF : CallFix p mI cO cX11_unpaid 3 s ([.ref h0] : List Value).toArray woX11_unpaid RX11 := ⟨hx, hb, hml, hown, hts⟩
  have hl := lv_entry ([.ref h0] : List Value) (n := 3) (Nat.le_of_ble_eq_true rfl)
  rw [lg_entry_eq]
  generalize (lg_sl ([.ref h0] : List Value) ++ List.replicate (3 - (lg_sl ([.ref h0] : List Value)).length) Slot.unset).toArray = ls at hl ⊢
  have hl : lv_has ls 3 [(0, .ref h0)] := hl
  refine W_gen (fun Q hQ => ?_)
  change W p l e ({ frames := 0, cells := 0, slots := 0, locals := 0 } : Room) s mI _ below meth cO s.heap [] 0 0 Q _
  have hP : va_P (dC, dI) vwCl [(h0, .inr (11, [.ref hg, .long (lI 0), .ref hk, .long (lI 0), .int (iI 0), .ref hp, .ref hpu, .int (iI 0), .ref hs, .long (lI 0), .int (iI 0), .int (iI 0), .int (iI 0), .int (iI 0), .int (iI 0), .long (lI 0), .ref hpl, .int (iI 0), .ref hpd, .int (iI 0), .ref htx, .int (iI 0), .int (iI 0), .int (iI (-1)), .int (iI (-1)), .int (iI 0), .ref htd, .int (iI 0), .ref hrw, .ref hrl, .ref hir])), (hg, .inl (k 0, 1460, .inl (aI g0F)))] s.heap := hP
  refine q_iconst hx hb dX11_unpaid_0 ?_
  refine lv_istore_n (lv' := [(1, .int (iI 0)), (0, .ref h0)]) hx hb dX11_unpaid_1 rfl hl (by decide) rfl (fun ls hl => ?_)
  refine q_iconst hx hb dX11_unpaid_2 ?_
  refine lv_istore_n (lv' := [(2, .int (iI 0)), (1, .int (iI 0)), (0, .ref h0)]) hx hb dX11_unpaid_3 rfl hl (by decide) rfl (fun ls hl => ?_)
  refine lv_iload_n hx hb dX11_unpaid_4 rfl (lv_at hl 0 rfl) ?_
  refine lv_aload_n hx hb dX11_unpaid_5 rfl (lv_at hl 2 rfl) ?_
  refine va_get (D := (dC, dI)) (ci := 11) (v := .ref hg) (C := RX11) (T := TX11) (N := 31) hx hb hts (fun _ h => List.mem_cons_of_mem _ (inlX11 _ h)) hown hK hP 0 rfl rfl 0 (by decide) (hts (.fieldLink RX11 7 "LoanServicingModel" "g" "[I") (List.mem_cons_of_mem _ (wl_5 (List.mem_of_getElem? (i := 8) rfl)))) (fun _ h9 => h9) rfl dX11_unpaid_6 ?_
  refine q_bipush (z := 28) hx hb dX11_unpaid_9 (by decide) ?_
  refine q_iald (z := 0) hx hb hK hP 1 0 rfl rfl (by omega) (by decide) dX11_unpaid_11 ?_
  refine q_icmp_ge (tgt := 36) hx hb dX11_unpaid_12 (by decide) (by omega) (fun _ => ?_) (fun q => absurd q (by omega))
  refine lv_iload_n hx hb dX11_unpaid_36 rfl (lv_at hl 1 rfl) ?_
  rw [hQ]
  refine W.widen (k := 0) (n := 0) (Nat.le_of_ble_eq_true rfl) (Nat.le_of_ble_eq_true rfl) ?_
  exact W.iret (v := (iI 0)) hx hb hr (fun t ht hW => ⟨⟨(iI 0), (), rfl, rfl, by rw [ht]; exact hP.sub [0] rfl, by rw [hAe]; exact hD.sub [0] (by decide) rfl⟩, hS.F ht⟩) hS.2.2 dX11_unpaid_37
set_option maxHeartbeats 4000000 in
set_option maxRecDepth 100000 in
/-- the reference: openBills -/
theorem c_X11_openBills (l : Launch) (dC : Nat → ClassId) (dI : Nat → Nat → Nat) (k : Nat → ClassId) (h0 hg hk hp hpu hs hpl hpd htx htd hrw hrl hir : Nat) (xv : Int) (sz : Nat) : Met l yX11_openBills woX11_openBills ({ frames := 0, cells := 0, slots := 0, locals := 0 } : Room) (PcW (dC, dI) k [.ref h0, .int (iI xv)] [(h0, .inr (11, [.ref hg, .long (lI 0), .ref hk, .long (lI 0), .int (iI 0), .ref hp, .ref hpu, .int (iI 0), .ref hs, .long (lI 0), .int (iI 0), .int (iI 0), .int (iI 0), .int (iI 0), .int (iI 0), .long (lI 0), .ref hpl, .int (iI 0), .ref hpd, .int (iI 0), .ref htx, .int (iI 0), .int (iI 0), .int (iI (-1)), .int (iI (-1)), .int (iI 0), .ref htd, .int (iI 0), .ref hrw, .ref hrl, .ref hir])), (hg, .inl (k 0, 1460, .inl (aI g0F)))] sz) (va_Qi (fun (r : Int32) (_ : Unit) => r = iI 0) (QB (dC, dI) [(h0, .inr (11, [.ref hg, .long (lI 0), .ref hk, .long (lI 0), .int (iI 0), .ref hp, .ref hpu, .int (iI 0), .ref hs, .long (lI 0), .int (iI 0), .int (iI 0), .int (iI 0), .int (iI 0), .int (iI 0), .long (lI 0), .ref hpl, .int (iI 0), .ref hpd, .int (iI 0), .ref htx, .int (iI 0), .int (iI 0), .int (iI (-1)), .int (iI (-1)), .int (iI 0), .ref htd, .int (iI 0), .ref hrw, .ref hrl, .ref hir])), (hg, .inl (k 0, 1460, .inl (aI g0F)))] (fun _ => [(h0, .inr (11, [.ref hg, .long (lI 0), .ref hk, .long (lI 0), .int (iI 0), .ref hp, .ref hpu, .int (iI 0), .ref hs, .long (lI 0), .int (iI 0), .int (iI 0), .int (iI 0), .int (iI 0), .int (iI 0), .long (lI 0), .ref hpl, .int (iI 0), .ref hpd, .int (iI 0), .ref htx, .int (iI 0), .int (iI 0), .int (iI (-1)), .int (iI (-1)), .int (iI 0), .ref htd, .int (iI 0), .ref hrw, .ref hrl, .ref hir]))]) sz) (va_A [(h0, .inr (11, [.ref hg, .long (lI 0), .ref hk, .long (lI 0), .int (iI 0), .ref hp, .ref hpu, .int (iI 0), .ref hs, .long (lI 0), .int (iI 0), .int (iI 0), .int (iI 0), .int (iI 0), .int (iI 0), .long (lI 0), .ref hpl, .int (iI 0), .ref hpd, .int (iI 0), .ref htx, .int (iI 0), .int (iI 0), .int (iI (-1)), .int (iI (-1)), .int (iI 0), .ref htd, .int (iI 0), .ref hrw, .ref hrl, .ref hir])), (hg, .inl (k 0, 1460, .inl (aI g0F)))] sz)) 0 0 (va_A [(h0, .inr (11, [.ref hg, .long (lI 0), .ref hk, .long (lI 0), .int (iI 0), .ref hp, .ref hpu, .int (iI 0), .ref hs, .long (lI 0), .int (iI 0), .int (iI 0), .int (iI 0), .int (iI 0), .int (iI 0), .long (lI 0), .ref hpl, .int (iI 0), .ref hpd, .int (iI 0), .ref htx, .int (iI 0), .int (iI 0), .int (iI (-1)), .int (iI (-1)), .int (iI 0), .ref htd, .int (iI 0), .ref hrw, .ref hrl, .ref hir])), (hg, .inl (k 0, 1460, .inl (aI g0F)))] sz) := by
  refine Met.ofW (cc := cX11_openBills) (maxL := 4) (ret := (some .int)) (by decide) rfl ?_
  intro p e s mI args below meth cO s₁ B hml hv
  obtain ⟨rfl, rfl, hP, hD0, hE⟩ := hv
  have hx := B.exec
  have hb := B.bytes
  have hr := B.returns
  have hts := atoms_spec (ws := woX11_openBills) B.pre
  have hown : s.vm.findClass RX11 = some mI.cls := findClass_of_methodNamed B.named
  have hlocks := B.notSynchronized
  have hD := hD0.self (sz := s.heap.size)
  generalize hAe : va_A [(h0, .inr (11, [.ref hg, .long (lI 0), .ref hk, .long (lI 0), .int (iI 0), .ref hp, .ref hpu, .int (iI 0), .ref hs, .long (lI 0), .int (iI 0), .int (iI 0), .int (iI 0), .int (iI 0), .int (iI 0), .long (lI 0), .ref hpl, .int (iI 0), .ref hpd, .int (iI 0), .ref htx, .int (iI 0), .int (iI 0), .int (iI (-1)), .int (iI (-1)), .int (iI 0), .ref htd, .int (iI 0), .ref hrw, .ref hrl, .ref hir])), (hg, .inl (k 0, 1460, .inl (aI g0F)))] s.heap.size = A at hD hE ⊢
  have hA : ∀ q : Nat, s.heap.size ≤ q → A q := fun q h => by rw [← hAe]; exact Or.inr h
  have hS : va_S A s.heap s.heap [] := va_S.rf
  obtain ⟨hK, hNw, hNc, hZs, hAO1, hAO2⟩ := id hE
  have hSF : CallFix p mI cO cX11_openBills 4 s ([.ref h0, .int (iI xv)] : List Value).toArray woX11_openBills RX11 := ⟨hx, hb, hml, hown, hts⟩
  have hl := lv_entry ([.ref h0, .int (iI xv)] : List Value) (n := 4) (Nat.le_of_ble_eq_true rfl)
  rw [lg_entry_eq]
  generalize (lg_sl ([.ref h0, .int (iI xv)] : List Value) ++ List.replicate (4 - (lg_sl ([.ref h0, .int (iI xv)] : List Value)).length) Slot.unset).toArray = ls at hl ⊢
  have hl : lv_has ls 4 [(0, .ref h0), (1, .int (iI xv))] := hl
  refine W_gen (fun Q hQ => ?_)
  change W p l e ({ frames := 0, cells := 0, slots := 0, locals := 0 } : Room) s mI _ below meth cO s.heap [] 0 0 Q _
  have hP : va_P (dC, dI) vwCl [(h0, .inr (11, [.ref hg, .long (lI 0), .ref hk, .long (lI 0), .int (iI 0), .ref hp, .ref hpu, .int (iI 0), .ref hs, .long (lI 0), .int (iI 0), .int (iI 0), .int (iI 0), .int (iI 0), .int (iI 0), .long (lI 0), .ref hpl, .int (iI 0), .ref hpd, .int (iI 0), .ref htx, .int (iI 0), .int (iI 0), .int (iI (-1)), .int (iI (-1)), .int (iI 0), .ref htd, .int (iI 0), .ref hrw, .ref hrl, .ref hir])), (hg, .inl (k 0, 1460, .inl (aI g0F)))] s.heap := hP
  refine q_iconst hx hb dX11_openBills_0 ?_
  refine lv_istore_n (lv' := [(2, .int (iI 0)), (0, .ref h0), (1, .int (iI xv))]) hx hb dX11_openBills_1 rfl hl (by decide) rfl (fun ls hl => ?_)
  refine q_iconst hx hb dX11_openBills_2 ?_
  refine lv_istore_n (lv' := [(3, .int (iI 0)), (2, .int (iI 0)), (0, .ref h0), (1, .int (iI xv))]) hx hb dX11_openBills_3 rfl hl (by decide) rfl (fun ls hl => ?_)
  refine lv_iload_n hx hb dX11_openBills_4 rfl (lv_at hl 0 rfl) ?_
  refine lv_aload_n hx hb dX11_openBills_5 rfl (lv_at hl 2 rfl) ?_
  refine va_get (D := (dC, dI)) (ci := 11) (v := .ref hg) (C := RX11) (T := TX11) (N := 31) hx hb hts (fun _ h => List.mem_cons_of_mem _ (inlX11 _ h)) hown hK hP 0 rfl rfl 0 (by decide) (hts (.fieldLink RX11 7 "LoanServicingModel" "g" "[I") (List.mem_cons_of_mem _ (wl_5 (List.mem_of_getElem? (i := 8) rfl)))) (fun _ h9 => h9) rfl dX11_openBills_6 ?_
  refine q_bipush (z := 28) hx hb dX11_openBills_9 (by decide) ?_
  refine q_iald (z := 0) hx hb hK hP 1 0 rfl rfl (by omega) (by decide) dX11_openBills_11 ?_
  refine q_icmp_ge (tgt := 62) hx hb dX11_openBills_12 (by decide) (by omega) (fun _ => ?_) (fun q => absurd q (by omega))
  refine lv_iload_n hx hb dX11_openBills_62 rfl (lv_at hl 1 rfl) ?_
  rw [hQ]
  refine W.widen (k := 0) (n := 0) (Nat.le_of_ble_eq_true rfl) (Nat.le_of_ble_eq_true rfl) ?_
  exact W.iret (v := (iI 0)) hx hb hr (fun t ht hW => ⟨⟨(iI 0), (), rfl, rfl, by rw [ht]; exact hP.sub [0] rfl, by rw [hAe]; exact hD.sub [0] (by decide) rfl⟩, hS.F ht⟩) hS.2.2 dX11_openBills_63
set_option maxHeartbeats 4000000 in
set_option maxRecDepth 100000 in
/-- the reference: number(0) -/
theorem c_X11_number_0 (l : Launch) (dC : Nat → ClassId) (dI : Nat → Nat → Nat) (k : Nat → ClassId) (h0 hg hk hp hpu hs hpl hpd htx htd hrw hrl hir : Nat) (sz : Nat) : Met l yX11_number woX11_number ({ frames := 0, cells := 0, slots := 0, locals := 0 } : Room) (PcW (dC, dI) k [.ref h0, .int (iI 0)] [(h0, .inr (11, [.ref hg, .long (lI 0), .ref hk, .long (lI 0), .int (iI 0), .ref hp, .ref hpu, .int (iI 0), .ref hs, .long (lI 0), .int (iI 0), .int (iI 0), .int (iI 0), .int (iI 0), .int (iI 0), .long (lI 0), .ref hpl, .int (iI 0), .ref hpd, .int (iI 0), .ref htx, .int (iI 0), .int (iI 0), .int (iI (-1)), .int (iI (-1)), .int (iI 0), .ref htd, .int (iI 0), .ref hrw, .ref hrl, .ref hir])), (hg, .inl (k 0, 1460, .inl (aI g0F)))] sz) (va_Qi (fun (r : Int32) (_ : Unit) => r = iI 0) (QB (dC, dI) [(h0, .inr (11, [.ref hg, .long (lI 0), .ref hk, .long (lI 0), .int (iI 0), .ref hp, .ref hpu, .int (iI 0), .ref hs, .long (lI 0), .int (iI 0), .int (iI 0), .int (iI 0), .int (iI 0), .int (iI 0), .long (lI 0), .ref hpl, .int (iI 0), .ref hpd, .int (iI 0), .ref htx, .int (iI 0), .int (iI 0), .int (iI (-1)), .int (iI (-1)), .int (iI 0), .ref htd, .int (iI 0), .ref hrw, .ref hrl, .ref hir])), (hg, .inl (k 0, 1460, .inl (aI g0F)))] (fun _ => [(h0, .inr (11, [.ref hg, .long (lI 0), .ref hk, .long (lI 0), .int (iI 0), .ref hp, .ref hpu, .int (iI 0), .ref hs, .long (lI 0), .int (iI 0), .int (iI 0), .int (iI 0), .int (iI 0), .int (iI 0), .long (lI 0), .ref hpl, .int (iI 0), .ref hpd, .int (iI 0), .ref htx, .int (iI 0), .int (iI 0), .int (iI (-1)), .int (iI (-1)), .int (iI 0), .ref htd, .int (iI 0), .ref hrw, .ref hrl, .ref hir]))]) sz) (va_A [(h0, .inr (11, [.ref hg, .long (lI 0), .ref hk, .long (lI 0), .int (iI 0), .ref hp, .ref hpu, .int (iI 0), .ref hs, .long (lI 0), .int (iI 0), .int (iI 0), .int (iI 0), .int (iI 0), .int (iI 0), .long (lI 0), .ref hpl, .int (iI 0), .ref hpd, .int (iI 0), .ref htx, .int (iI 0), .int (iI 0), .int (iI (-1)), .int (iI (-1)), .int (iI 0), .ref htd, .int (iI 0), .ref hrw, .ref hrl, .ref hir])), (hg, .inl (k 0, 1460, .inl (aI g0F)))] sz)) 0 0 (va_A [(h0, .inr (11, [.ref hg, .long (lI 0), .ref hk, .long (lI 0), .int (iI 0), .ref hp, .ref hpu, .int (iI 0), .ref hs, .long (lI 0), .int (iI 0), .int (iI 0), .int (iI 0), .int (iI 0), .int (iI 0), .long (lI 0), .ref hpl, .int (iI 0), .ref hpd, .int (iI 0), .ref htx, .int (iI 0), .int (iI 0), .int (iI (-1)), .int (iI (-1)), .int (iI 0), .ref htd, .int (iI 0), .ref hrw, .ref hrl, .ref hir])), (hg, .inl (k 0, 1460, .inl (aI g0F)))] sz) := by
  refine Met.ofW (cc := cX11_number) (maxL := 2) (ret := (some .int)) (by decide) rfl ?_
  intro p e s mI args below meth cO s₁ B hml hv
  obtain ⟨rfl, rfl, hP, hD0, hE⟩ := hv
  have hx := B.exec
  have hb := B.bytes
  have hr := B.returns
  have hts := atoms_spec (ws := woX11_number) B.pre
  have hown : s.vm.findClass RX11 = some mI.cls := findClass_of_methodNamed B.named
  have hlocks := B.notSynchronized
  have hD := hD0.self (sz := s.heap.size)
  generalize hAe : va_A [(h0, .inr (11, [.ref hg, .long (lI 0), .ref hk, .long (lI 0), .int (iI 0), .ref hp, .ref hpu, .int (iI 0), .ref hs, .long (lI 0), .int (iI 0), .int (iI 0), .int (iI 0), .int (iI 0), .int (iI 0), .long (lI 0), .ref hpl, .int (iI 0), .ref hpd, .int (iI 0), .ref htx, .int (iI 0), .int (iI 0), .int (iI (-1)), .int (iI (-1)), .int (iI 0), .ref htd, .int (iI 0), .ref hrw, .ref hrl, .ref hir])), (hg, .inl (k 0, 1460, .inl (aI g0F)))] s.heap.size = A at hD hE ⊢
  have hA : ∀ q : Nat, s.heap.size ≤ q → A q := fun q h => by rw [← hAe]; exact Or.inr h
  have hS : va_S A s.heap s.heap [] := va_S.rf
  obtain ⟨hK, hNw, hNc, hZs, hAO1, hAO2⟩ := id hE
  have hSF : CallFix p mI cO cX11_number 2 s ([.ref h0, .int (iI 0)] : List Value).toArray woX11_number RX11 := ⟨hx, hb, hml, hown, hts⟩
  have hl := lv_entry ([.ref h0, .int (iI 0)] : List Value) (n := 2) (Nat.le_of_ble_eq_true rfl)
  rw [lg_entry_eq]
  generalize (lg_sl ([.ref h0, .int (iI 0)] : List Value) ++ List.replicate (2 - (lg_sl ([.ref h0, .int (iI 0)] : List Value)).length) Slot.unset).toArray = ls at hl ⊢
  have hl : lv_has ls 2 [(0, .ref h0), (1, .int (iI 0))] := hl
  refine W_gen (fun Q hQ => ?_)
  change W p l e ({ frames := 0, cells := 0, slots := 0, locals := 0 } : Room) s mI _ below meth cO s.heap [] 0 0 Q _
  have hP : va_P (dC, dI) vwCl [(h0, .inr (11, [.ref hg, .long (lI 0), .ref hk, .long (lI 0), .int (iI 0), .ref hp, .ref hpu, .int (iI 0), .ref hs, .long (lI 0), .int (iI 0), .int (iI 0), .int (iI 0), .int (iI 0), .int (iI 0), .long (lI 0), .ref hpl, .int (iI 0), .ref hpd, .int (iI 0), .ref htx, .int (iI 0), .int (iI 0), .int (iI (-1)), .int (iI (-1)), .int (iI 0), .ref htd, .int (iI 0), .ref hrw, .ref hrl, .ref hir])), (hg, .inl (k 0, 1460, .inl (aI g0F)))] s.heap := hP
  refine lv_aload_n hx hb dX11_number_0 rfl (lv_at hl 0 rfl) ?_
  refine q_iconst hx hb dX11_number_1 ?_
  refine va_put (D := (dC, dI)) (ci := 11) (v := .int (iI 0)) (ty := .int) (C := RX11) (T := TX11) (N := 31) hx hb hts (fun _ h => List.mem_cons_of_mem _ (inlX11 _ h)) tyX11 tyX11_ok nmX11 hown hK hP hD hS 0 rfl rfl 11 (by decide) (hts (.fieldLink RX11 56 "LoanServicingModel" "thrown" "I") (List.mem_cons_of_mem _ (wl_13 (List.mem_of_getElem? (i := 12) rfl)))) (fun _ h9 => h9) rfl (by decide +kernel) rfl rfl (Nat.le_of_ble_eq_true rfl) dX11_number_2 (fun H locs hP hD hS => ?_)
  have hP : va_P (dC, dI) vwCl [(h0, .inr (11, [.ref hg, .long (lI 0), .ref hk, .long (lI 0), .int (iI 0), .ref hp, .ref hpu, .int (iI 0), .ref hs, .long (lI 0), .int (iI 0), .int (iI 0), .int (iI 0), .int (iI 0), .int (iI 0), .long (lI 0), .ref hpl, .int (iI 0), .ref hpd, .int (iI 0), .ref htx, .int (iI 0), .int (iI 0), .int (iI (-1)), .int (iI (-1)), .int (iI 0), .ref htd, .int (iI 0), .ref hrw, .ref hrl, .ref hir])), (hg, .inl (k 0, 1460, .inl (aI g0F)))] H := hP
  have hD : va_D A [(h0, .inr (11, [.ref hg, .long (lI 0), .ref hk, .long (lI 0), .int (iI 0), .ref hp, .ref hpu, .int (iI 0), .ref hs, .long (lI 0), .int (iI 0), .int (iI 0), .int (iI 0), .int (iI 0), .int (iI 0), .long (lI 0), .ref hpl, .int (iI 0), .ref hpd, .int (iI 0), .ref htx, .int (iI 0), .int (iI 0), .int (iI (-1)), .int (iI (-1)), .int (iI 0), .ref htd, .int (iI 0), .ref hrw, .ref hrl, .ref hir])), (hg, .inl (k 0, 1460, .inl (aI g0F)))] := hD
  refine lv_iload_n hx hb dX11_number_5 rfl (lv_at hl 1 rfl) ?_
  refine lv_tableIn (off := 54) (tgt := 60) hx hb dX11_number_6 (by rw [iI_toInt ⟨by omega, by omega⟩]; omega) (by rw [iI_toInt ⟨by omega, by omega⟩]; omega) (by rw [iI_toInt ⟨by omega, by omega⟩]; rfl) (by decide) ?_
  refine lv_aload_n hx hb dX11_number_60 rfl (lv_at hl 0 rfl) ?_
  refine va_get (D := (dC, dI)) (ci := 11) (v := .ref hg) (C := RX11) (T := TX11) (N := 31) hx hb hts (fun _ h => List.mem_cons_of_mem _ (inlX11 _ h)) hown hK hP 0 rfl rfl 0 (by decide) (hts (.fieldLink RX11 7 "LoanServicingModel" "g" "[I") (List.mem_cons_of_mem _ (wl_5 (List.mem_of_getElem? (i := 8) rfl)))) (fun _ h9 => h9) rfl dX11_number_61 ?_
  refine q_bipush (z := 7) hx hb dX11_number_64 (by decide) ?_
  refine q_iald (z := 0) hx hb hK hP 1 0 rfl rfl (by omega) (by decide) dX11_number_66 ?_
  rw [hQ]
  refine W.widen (k := 0) (n := 0) (Nat.le_of_ble_eq_true rfl) (Nat.le_of_ble_eq_true rfl) ?_
  exact W.iret (v := (iI 0)) hx hb hr (fun t ht hW => ⟨⟨(iI 0), (), rfl, rfl, by rw [ht]; exact hP.sub [0] rfl, by rw [hAe]; exact hD.sub [0] (by decide) rfl⟩, hS.F ht⟩) hS.2.2 dX11_number_67
set_option maxHeartbeats 4000000 in
set_option maxRecDepth 100000 in
/-- the reference: number(1) -/
theorem c_X11_number_1 (l : Launch) (dC : Nat → ClassId) (dI : Nat → Nat → Nat) (k : Nat → ClassId) (h0 hg hk hp hpu hs hpl hpd htx htd hrw hrl hir : Nat) (sz : Nat) : Met l yX11_number woX11_number ({ frames := 0, cells := 0, slots := 0, locals := 0 } : Room) (PcW (dC, dI) k [.ref h0, .int (iI 1)] [(h0, .inr (11, [.ref hg, .long (lI 0), .ref hk, .long (lI 0), .int (iI 0), .ref hp, .ref hpu, .int (iI 0), .ref hs, .long (lI 0), .int (iI 0), .int (iI 0), .int (iI 0), .int (iI 0), .int (iI 0), .long (lI 0), .ref hpl, .int (iI 0), .ref hpd, .int (iI 0), .ref htx, .int (iI 0), .int (iI 0), .int (iI (-1)), .int (iI (-1)), .int (iI 0), .ref htd, .int (iI 0), .ref hrw, .ref hrl, .ref hir])), (hg, .inl (k 0, 1460, .inl (aI g0F)))] sz) (va_Qi (fun (r : Int32) (_ : Unit) => r = iI 0) (QB (dC, dI) [(h0, .inr (11, [.ref hg, .long (lI 0), .ref hk, .long (lI 0), .int (iI 0), .ref hp, .ref hpu, .int (iI 0), .ref hs, .long (lI 0), .int (iI 0), .int (iI 0), .int (iI 0), .int (iI 0), .int (iI 0), .long (lI 0), .ref hpl, .int (iI 0), .ref hpd, .int (iI 0), .ref htx, .int (iI 0), .int (iI 0), .int (iI (-1)), .int (iI (-1)), .int (iI 0), .ref htd, .int (iI 0), .ref hrw, .ref hrl, .ref hir])), (hg, .inl (k 0, 1460, .inl (aI g0F)))] (fun _ => [(h0, .inr (11, [.ref hg, .long (lI 0), .ref hk, .long (lI 0), .int (iI 0), .ref hp, .ref hpu, .int (iI 0), .ref hs, .long (lI 0), .int (iI 0), .int (iI 0), .int (iI 0), .int (iI 0), .int (iI 0), .long (lI 0), .ref hpl, .int (iI 0), .ref hpd, .int (iI 0), .ref htx, .int (iI 0), .int (iI 0), .int (iI (-1)), .int (iI (-1)), .int (iI 0), .ref htd, .int (iI 0), .ref hrw, .ref hrl, .ref hir]))]) sz) (va_A [(h0, .inr (11, [.ref hg, .long (lI 0), .ref hk, .long (lI 0), .int (iI 0), .ref hp, .ref hpu, .int (iI 0), .ref hs, .long (lI 0), .int (iI 0), .int (iI 0), .int (iI 0), .int (iI 0), .int (iI 0), .long (lI 0), .ref hpl, .int (iI 0), .ref hpd, .int (iI 0), .ref htx, .int (iI 0), .int (iI 0), .int (iI (-1)), .int (iI (-1)), .int (iI 0), .ref htd, .int (iI 0), .ref hrw, .ref hrl, .ref hir])), (hg, .inl (k 0, 1460, .inl (aI g0F)))] sz)) 0 0 (va_A [(h0, .inr (11, [.ref hg, .long (lI 0), .ref hk, .long (lI 0), .int (iI 0), .ref hp, .ref hpu, .int (iI 0), .ref hs, .long (lI 0), .int (iI 0), .int (iI 0), .int (iI 0), .int (iI 0), .int (iI 0), .long (lI 0), .ref hpl, .int (iI 0), .ref hpd, .int (iI 0), .ref htx, .int (iI 0), .int (iI 0), .int (iI (-1)), .int (iI (-1)), .int (iI 0), .ref htd, .int (iI 0), .ref hrw, .ref hrl, .ref hir])), (hg, .inl (k 0, 1460, .inl (aI g0F)))] sz) := by
  refine Met.ofW (cc := cX11_number) (maxL := 2) (ret := (some .int)) (by decide) rfl ?_
  intro p e s mI args below meth cO s₁ B hml hv
  obtain ⟨rfl, rfl, hP, hD0, hE⟩ := hv
  have hx := B.exec
  have hb := B.bytes
  have hr := B.returns
  have hts := atoms_spec (ws := woX11_number) B.pre
  have hown : s.vm.findClass RX11 = some mI.cls := findClass_of_methodNamed B.named
  have hlocks := B.notSynchronized
  have hD := hD0.self (sz := s.heap.size)
  generalize hAe : va_A [(h0, .inr (11, [.ref hg, .long (lI 0), .ref hk, .long (lI 0), .int (iI 0), .ref hp, .ref hpu, .int (iI 0), .ref hs, .long (lI 0), .int (iI 0), .int (iI 0), .int (iI 0), .int (iI 0), .int (iI 0), .long (lI 0), .ref hpl, .int (iI 0), .ref hpd, .int (iI 0), .ref htx, .int (iI 0), .int (iI 0), .int (iI (-1)), .int (iI (-1)), .int (iI 0), .ref htd, .int (iI 0), .ref hrw, .ref hrl, .ref hir])), (hg, .inl (k 0, 1460, .inl (aI g0F)))] s.heap.size = A at hD hE ⊢
  have hA : ∀ q : Nat, s.heap.size ≤ q → A q := fun q h => by rw [← hAe]; exact Or.inr h
  have hS : va_S A s.heap s.heap [] := va_S.rf
  obtain ⟨hK, hNw, hNc, hZs, hAO1, hAO2⟩ := id hE
  have hSF : CallFix p mI cO cX11_number 2 s ([.ref h0, .int (iI 1)] : List Value).toArray woX11_number RX11 := ⟨hx, hb, hml, hown, hts⟩
  have hl := lv_entry ([.ref h0, .int (iI 1)] : List Value) (n := 2) (Nat.le_of_ble_eq_true rfl)
  rw [lg_entry_eq]
  generalize (lg_sl ([.ref h0, .int (iI 1)] : List Value) ++ List.replicate (2 - (lg_sl ([.ref h0, .int (iI 1)] : List Value)).length) Slot.unset).toArray = ls at hl ⊢
  have hl : lv_has ls 2 [(0, .ref h0), (1, .int (iI 1))] := hl
  refine W_gen (fun Q hQ => ?_)
  change W p l e ({ frames := 0, cells := 0, slots := 0, locals := 0 } : Room) s mI _ below meth cO s.heap [] 0 0 Q _
  have hP : va_P (dC, dI) vwCl [(h0, .inr (11, [.ref hg, .long (lI 0), .ref hk, .long (lI 0), .int (iI 0), .ref hp, .ref hpu, .int (iI 0), .ref hs, .long (lI 0), .int (iI 0), .int (iI 0), .int (iI 0), .int (iI 0), .int (iI 0), .long (lI 0), .ref hpl, .int (iI 0), .ref hpd, .int (iI 0), .ref htx, .int (iI 0), .int (iI 0), .int (iI (-1)), .int (iI (-1)), .int (iI 0), .ref htd, .int (iI 0), .ref hrw, .ref hrl, .ref hir])), (hg, .inl (k 0, 1460, .inl (aI g0F)))] s.heap := hP
  refine lv_aload_n hx hb dX11_number_0 rfl (lv_at hl 0 rfl) ?_
  refine q_iconst hx hb dX11_number_1 ?_
  refine va_put (D := (dC, dI)) (ci := 11) (v := .int (iI 0)) (ty := .int) (C := RX11) (T := TX11) (N := 31) hx hb hts (fun _ h => List.mem_cons_of_mem _ (inlX11 _ h)) tyX11 tyX11_ok nmX11 hown hK hP hD hS 0 rfl rfl 11 (by decide) (hts (.fieldLink RX11 56 "LoanServicingModel" "thrown" "I") (List.mem_cons_of_mem _ (wl_13 (List.mem_of_getElem? (i := 12) rfl)))) (fun _ h9 => h9) rfl (by decide +kernel) rfl rfl (Nat.le_of_ble_eq_true rfl) dX11_number_2 (fun H locs hP hD hS => ?_)
  have hP : va_P (dC, dI) vwCl [(h0, .inr (11, [.ref hg, .long (lI 0), .ref hk, .long (lI 0), .int (iI 0), .ref hp, .ref hpu, .int (iI 0), .ref hs, .long (lI 0), .int (iI 0), .int (iI 0), .int (iI 0), .int (iI 0), .int (iI 0), .long (lI 0), .ref hpl, .int (iI 0), .ref hpd, .int (iI 0), .ref htx, .int (iI 0), .int (iI 0), .int (iI (-1)), .int (iI (-1)), .int (iI 0), .ref htd, .int (iI 0), .ref hrw, .ref hrl, .ref hir])), (hg, .inl (k 0, 1460, .inl (aI g0F)))] H := hP
  have hD : va_D A [(h0, .inr (11, [.ref hg, .long (lI 0), .ref hk, .long (lI 0), .int (iI 0), .ref hp, .ref hpu, .int (iI 0), .ref hs, .long (lI 0), .int (iI 0), .int (iI 0), .int (iI 0), .int (iI 0), .int (iI 0), .long (lI 0), .ref hpl, .int (iI 0), .ref hpd, .int (iI 0), .ref htx, .int (iI 0), .int (iI 0), .int (iI (-1)), .int (iI (-1)), .int (iI 0), .ref htd, .int (iI 0), .ref hrw, .ref hrl, .ref hir])), (hg, .inl (k 0, 1460, .inl (aI g0F)))] := hD
  refine lv_iload_n hx hb dX11_number_5 rfl (lv_at hl 1 rfl) ?_
  refine lv_tableIn (off := 62) (tgt := 68) hx hb dX11_number_6 (by rw [iI_toInt ⟨by omega, by omega⟩]; omega) (by rw [iI_toInt ⟨by omega, by omega⟩]; omega) (by rw [iI_toInt ⟨by omega, by omega⟩]; rfl) (by decide) ?_
  refine lv_aload_n hx hb dX11_number_68 rfl (lv_at hl 0 rfl) ?_
  refine va_get (D := (dC, dI)) (ci := 11) (v := .ref hg) (C := RX11) (T := TX11) (N := 31) hx hb hts (fun _ h => List.mem_cons_of_mem _ (inlX11 _ h)) hown hK hP 0 rfl rfl 0 (by decide) (hts (.fieldLink RX11 7 "LoanServicingModel" "g" "[I") (List.mem_cons_of_mem _ (wl_5 (List.mem_of_getElem? (i := 8) rfl)))) (fun _ h9 => h9) rfl dX11_number_69 ?_
  refine q_bipush (z := 8) hx hb dX11_number_72 (by decide) ?_
  refine q_iald (z := 0) hx hb hK hP 1 0 rfl rfl (by omega) (by decide) dX11_number_74 ?_
  rw [hQ]
  refine W.widen (k := 0) (n := 0) (Nat.le_of_ble_eq_true rfl) (Nat.le_of_ble_eq_true rfl) ?_
  exact W.iret (v := (iI 0)) hx hb hr (fun t ht hW => ⟨⟨(iI 0), (), rfl, rfl, by rw [ht]; exact hP.sub [0] rfl, by rw [hAe]; exact hD.sub [0] (by decide) rfl⟩, hS.F ht⟩) hS.2.2 dX11_number_75
set_option maxHeartbeats 4000000 in
set_option maxRecDepth 100000 in
/-- the reference: number(2) -/
theorem c_X11_number_2 (l : Launch) (dC : Nat → ClassId) (dI : Nat → Nat → Nat) (k : Nat → ClassId) (h0 hg hk hp hpu hs hpl hpd htx htd hrw hrl hir : Nat) (sz : Nat) : Met l yX11_number woX11_number ({ frames := 0, cells := 0, slots := 0, locals := 0 } : Room) (PcW (dC, dI) k [.ref h0, .int (iI 2)] [(h0, .inr (11, [.ref hg, .long (lI 0), .ref hk, .long (lI 0), .int (iI 0), .ref hp, .ref hpu, .int (iI 0), .ref hs, .long (lI 0), .int (iI 0), .int (iI 0), .int (iI 0), .int (iI 0), .int (iI 0), .long (lI 0), .ref hpl, .int (iI 0), .ref hpd, .int (iI 0), .ref htx, .int (iI 0), .int (iI 0), .int (iI (-1)), .int (iI (-1)), .int (iI 0), .ref htd, .int (iI 0), .ref hrw, .ref hrl, .ref hir])), (hg, .inl (k 0, 1460, .inl (aI g0F)))] sz) (va_Qi (fun (r : Int32) (_ : Unit) => r = iI 0) (QB (dC, dI) [(h0, .inr (11, [.ref hg, .long (lI 0), .ref hk, .long (lI 0), .int (iI 0), .ref hp, .ref hpu, .int (iI 0), .ref hs, .long (lI 0), .int (iI 0), .int (iI 0), .int (iI 0), .int (iI 0), .int (iI 0), .long (lI 0), .ref hpl, .int (iI 0), .ref hpd, .int (iI 0), .ref htx, .int (iI 0), .int (iI 0), .int (iI (-1)), .int (iI (-1)), .int (iI 0), .ref htd, .int (iI 0), .ref hrw, .ref hrl, .ref hir])), (hg, .inl (k 0, 1460, .inl (aI g0F)))] (fun _ => [(h0, .inr (11, [.ref hg, .long (lI 0), .ref hk, .long (lI 0), .int (iI 0), .ref hp, .ref hpu, .int (iI 0), .ref hs, .long (lI 0), .int (iI 0), .int (iI 0), .int (iI 0), .int (iI 0), .int (iI 0), .long (lI 0), .ref hpl, .int (iI 0), .ref hpd, .int (iI 0), .ref htx, .int (iI 0), .int (iI 0), .int (iI (-1)), .int (iI (-1)), .int (iI 0), .ref htd, .int (iI 0), .ref hrw, .ref hrl, .ref hir]))]) sz) (va_A [(h0, .inr (11, [.ref hg, .long (lI 0), .ref hk, .long (lI 0), .int (iI 0), .ref hp, .ref hpu, .int (iI 0), .ref hs, .long (lI 0), .int (iI 0), .int (iI 0), .int (iI 0), .int (iI 0), .int (iI 0), .long (lI 0), .ref hpl, .int (iI 0), .ref hpd, .int (iI 0), .ref htx, .int (iI 0), .int (iI 0), .int (iI (-1)), .int (iI (-1)), .int (iI 0), .ref htd, .int (iI 0), .ref hrw, .ref hrl, .ref hir])), (hg, .inl (k 0, 1460, .inl (aI g0F)))] sz)) 0 0 (va_A [(h0, .inr (11, [.ref hg, .long (lI 0), .ref hk, .long (lI 0), .int (iI 0), .ref hp, .ref hpu, .int (iI 0), .ref hs, .long (lI 0), .int (iI 0), .int (iI 0), .int (iI 0), .int (iI 0), .int (iI 0), .long (lI 0), .ref hpl, .int (iI 0), .ref hpd, .int (iI 0), .ref htx, .int (iI 0), .int (iI 0), .int (iI (-1)), .int (iI (-1)), .int (iI 0), .ref htd, .int (iI 0), .ref hrw, .ref hrl, .ref hir])), (hg, .inl (k 0, 1460, .inl (aI g0F)))] sz) := by
  refine Met.ofW (cc := cX11_number) (maxL := 2) (ret := (some .int)) (by decide) rfl ?_
  intro p e s mI args below meth cO s₁ B hml hv
  obtain ⟨rfl, rfl, hP, hD0, hE⟩ := hv
  have hx := B.exec
  have hb := B.bytes
  have hr := B.returns
  have hts := atoms_spec (ws := woX11_number) B.pre
  have hown : s.vm.findClass RX11 = some mI.cls := findClass_of_methodNamed B.named
  have hlocks := B.notSynchronized
  have hD := hD0.self (sz := s.heap.size)
  generalize hAe : va_A [(h0, .inr (11, [.ref hg, .long (lI 0), .ref hk, .long (lI 0), .int (iI 0), .ref hp, .ref hpu, .int (iI 0), .ref hs, .long (lI 0), .int (iI 0), .int (iI 0), .int (iI 0), .int (iI 0), .int (iI 0), .long (lI 0), .ref hpl, .int (iI 0), .ref hpd, .int (iI 0), .ref htx, .int (iI 0), .int (iI 0), .int (iI (-1)), .int (iI (-1)), .int (iI 0), .ref htd, .int (iI 0), .ref hrw, .ref hrl, .ref hir])), (hg, .inl (k 0, 1460, .inl (aI g0F)))] s.heap.size = A at hD hE ⊢
  have hA : ∀ q : Nat, s.heap.size ≤ q → A q := fun q h => by rw [← hAe]; exact Or.inr h
  have hS : va_S A s.heap s.heap [] := va_S.rf
  obtain ⟨hK, hNw, hNc, hZs, hAO1, hAO2⟩ := id hE
  have hSF : CallFix p mI cO cX11_number 2 s ([.ref h0, .int (iI 2)] : List Value).toArray woX11_number RX11 := ⟨hx, hb, hml, hown, hts⟩
  have hl := lv_entry ([.ref h0, .int (iI 2)] : List Value) (n := 2) (Nat.le_of_ble_eq_true rfl)
  rw [lg_entry_eq]
  generalize (lg_sl ([.ref h0, .int (iI 2)] : List Value) ++ List.replicate (2 - (lg_sl ([.ref h0, .int (iI 2)] : List Value)).length) Slot.unset).toArray = ls at hl ⊢
  have hl : lv_has ls 2 [(0, .ref h0), (1, .int (iI 2))] := hl
  refine W_gen (fun Q hQ => ?_)
  change W p l e ({ frames := 0, cells := 0, slots := 0, locals := 0 } : Room) s mI _ below meth cO s.heap [] 0 0 Q _
  have hP : va_P (dC, dI) vwCl [(h0, .inr (11, [.ref hg, .long (lI 0), .ref hk, .long (lI 0), .int (iI 0), .ref hp, .ref hpu, .int (iI 0), .ref hs, .long (lI 0), .int (iI 0), .int (iI 0), .int (iI 0), .int (iI 0), .int (iI 0), .long (lI 0), .ref hpl, .int (iI 0), .ref hpd, .int (iI 0), .ref htx, .int (iI 0), .int (iI 0), .int (iI (-1)), .int (iI (-1)), .int (iI 0), .ref htd, .int (iI 0), .ref hrw, .ref hrl, .ref hir])), (hg, .inl (k 0, 1460, .inl (aI g0F)))] s.heap := hP
  refine lv_aload_n hx hb dX11_number_0 rfl (lv_at hl 0 rfl) ?_
  refine q_iconst hx hb dX11_number_1 ?_
  refine va_put (D := (dC, dI)) (ci := 11) (v := .int (iI 0)) (ty := .int) (C := RX11) (T := TX11) (N := 31) hx hb hts (fun _ h => List.mem_cons_of_mem _ (inlX11 _ h)) tyX11 tyX11_ok nmX11 hown hK hP hD hS 0 rfl rfl 11 (by decide) (hts (.fieldLink RX11 56 "LoanServicingModel" "thrown" "I") (List.mem_cons_of_mem _ (wl_13 (List.mem_of_getElem? (i := 12) rfl)))) (fun _ h9 => h9) rfl (by decide +kernel) rfl rfl (Nat.le_of_ble_eq_true rfl) dX11_number_2 (fun H locs hP hD hS => ?_)
  have hP : va_P (dC, dI) vwCl [(h0, .inr (11, [.ref hg, .long (lI 0), .ref hk, .long (lI 0), .int (iI 0), .ref hp, .ref hpu, .int (iI 0), .ref hs, .long (lI 0), .int (iI 0), .int (iI 0), .int (iI 0), .int (iI 0), .int (iI 0), .long (lI 0), .ref hpl, .int (iI 0), .ref hpd, .int (iI 0), .ref htx, .int (iI 0), .int (iI 0), .int (iI (-1)), .int (iI (-1)), .int (iI 0), .ref htd, .int (iI 0), .ref hrw, .ref hrl, .ref hir])), (hg, .inl (k 0, 1460, .inl (aI g0F)))] H := hP
  have hD : va_D A [(h0, .inr (11, [.ref hg, .long (lI 0), .ref hk, .long (lI 0), .int (iI 0), .ref hp, .ref hpu, .int (iI 0), .ref hs, .long (lI 0), .int (iI 0), .int (iI 0), .int (iI 0), .int (iI 0), .int (iI 0), .long (lI 0), .ref hpl, .int (iI 0), .ref hpd, .int (iI 0), .ref htx, .int (iI 0), .int (iI 0), .int (iI (-1)), .int (iI (-1)), .int (iI 0), .ref htd, .int (iI 0), .ref hrw, .ref hrl, .ref hir])), (hg, .inl (k 0, 1460, .inl (aI g0F)))] := hD
  refine lv_iload_n hx hb dX11_number_5 rfl (lv_at hl 1 rfl) ?_
  refine lv_tableIn (off := 70) (tgt := 76) hx hb dX11_number_6 (by rw [iI_toInt ⟨by omega, by omega⟩]; omega) (by rw [iI_toInt ⟨by omega, by omega⟩]; omega) (by rw [iI_toInt ⟨by omega, by omega⟩]; rfl) (by decide) ?_
  refine lv_aload_n hx hb dX11_number_76 rfl (lv_at hl 0 rfl) ?_
  refine va_get (D := (dC, dI)) (ci := 11) (v := .ref hg) (C := RX11) (T := TX11) (N := 31) hx hb hts (fun _ h => List.mem_cons_of_mem _ (inlX11 _ h)) hown hK hP 0 rfl rfl 0 (by decide) (hts (.fieldLink RX11 7 "LoanServicingModel" "g" "[I") (List.mem_cons_of_mem _ (wl_5 (List.mem_of_getElem? (i := 8) rfl)))) (fun _ h9 => h9) rfl dX11_number_77 ?_
  refine q_bipush (z := 9) hx hb dX11_number_80 (by decide) ?_
  refine q_iald (z := 0) hx hb hK hP 1 0 rfl rfl (by omega) (by decide) dX11_number_82 ?_
  rw [hQ]
  refine W.widen (k := 0) (n := 0) (Nat.le_of_ble_eq_true rfl) (Nat.le_of_ble_eq_true rfl) ?_
  exact W.iret (v := (iI 0)) hx hb hr (fun t ht hW => ⟨⟨(iI 0), (), rfl, rfl, by rw [ht]; exact hP.sub [0] rfl, by rw [hAe]; exact hD.sub [0] (by decide) rfl⟩, hS.F ht⟩) hS.2.2 dX11_number_83
set_option maxHeartbeats 4000000 in
set_option maxRecDepth 100000 in
/-- the reference: number(3) -/
theorem c_X11_number_3 (l : Launch) (dC : Nat → ClassId) (dI : Nat → Nat → Nat) (k : Nat → ClassId) (h0 hg hk hp hpu hs hpl hpd htx htd hrw hrl hir : Nat) (sz : Nat) : Met l yX11_number woX11_number ({ frames := 0, cells := 0, slots := 0, locals := 0 } : Room) (PcW (dC, dI) k [.ref h0, .int (iI 3)] [(h0, .inr (11, [.ref hg, .long (lI 0), .ref hk, .long (lI 0), .int (iI 0), .ref hp, .ref hpu, .int (iI 0), .ref hs, .long (lI 0), .int (iI 0), .int (iI 0), .int (iI 0), .int (iI 0), .int (iI 0), .long (lI 0), .ref hpl, .int (iI 0), .ref hpd, .int (iI 0), .ref htx, .int (iI 0), .int (iI 0), .int (iI (-1)), .int (iI (-1)), .int (iI 0), .ref htd, .int (iI 0), .ref hrw, .ref hrl, .ref hir])), (hg, .inl (k 0, 1460, .inl (aI g0F)))] sz) (va_Qi (fun (r : Int32) (_ : Unit) => r = iI 0) (QB (dC, dI) [(h0, .inr (11, [.ref hg, .long (lI 0), .ref hk, .long (lI 0), .int (iI 0), .ref hp, .ref hpu, .int (iI 0), .ref hs, .long (lI 0), .int (iI 0), .int (iI 0), .int (iI 0), .int (iI 0), .int (iI 0), .long (lI 0), .ref hpl, .int (iI 0), .ref hpd, .int (iI 0), .ref htx, .int (iI 0), .int (iI 0), .int (iI (-1)), .int (iI (-1)), .int (iI 0), .ref htd, .int (iI 0), .ref hrw, .ref hrl, .ref hir])), (hg, .inl (k 0, 1460, .inl (aI g0F)))] (fun _ => [(h0, .inr (11, [.ref hg, .long (lI 0), .ref hk, .long (lI 0), .int (iI 0), .ref hp, .ref hpu, .int (iI 0), .ref hs, .long (lI 0), .int (iI 0), .int (iI 0), .int (iI 0), .int (iI 0), .int (iI 0), .long (lI 0), .ref hpl, .int (iI 0), .ref hpd, .int (iI 0), .ref htx, .int (iI 0), .int (iI 0), .int (iI (-1)), .int (iI (-1)), .int (iI 0), .ref htd, .int (iI 0), .ref hrw, .ref hrl, .ref hir]))]) sz) (va_A [(h0, .inr (11, [.ref hg, .long (lI 0), .ref hk, .long (lI 0), .int (iI 0), .ref hp, .ref hpu, .int (iI 0), .ref hs, .long (lI 0), .int (iI 0), .int (iI 0), .int (iI 0), .int (iI 0), .int (iI 0), .long (lI 0), .ref hpl, .int (iI 0), .ref hpd, .int (iI 0), .ref htx, .int (iI 0), .int (iI 0), .int (iI (-1)), .int (iI (-1)), .int (iI 0), .ref htd, .int (iI 0), .ref hrw, .ref hrl, .ref hir])), (hg, .inl (k 0, 1460, .inl (aI g0F)))] sz)) 0 0 (va_A [(h0, .inr (11, [.ref hg, .long (lI 0), .ref hk, .long (lI 0), .int (iI 0), .ref hp, .ref hpu, .int (iI 0), .ref hs, .long (lI 0), .int (iI 0), .int (iI 0), .int (iI 0), .int (iI 0), .int (iI 0), .long (lI 0), .ref hpl, .int (iI 0), .ref hpd, .int (iI 0), .ref htx, .int (iI 0), .int (iI 0), .int (iI (-1)), .int (iI (-1)), .int (iI 0), .ref htd, .int (iI 0), .ref hrw, .ref hrl, .ref hir])), (hg, .inl (k 0, 1460, .inl (aI g0F)))] sz) := by
  refine Met.ofW (cc := cX11_number) (maxL := 2) (ret := (some .int)) (by decide) rfl ?_
  intro p e s mI args below meth cO s₁ B hml hv
  obtain ⟨rfl, rfl, hP, hD0, hE⟩ := hv
  have hx := B.exec
  have hb := B.bytes
  have hr := B.returns
  have hts := atoms_spec (ws := woX11_number) B.pre
  have hown : s.vm.findClass RX11 = some mI.cls := findClass_of_methodNamed B.named
  have hlocks := B.notSynchronized
  have hD := hD0.self (sz := s.heap.size)
  generalize hAe : va_A [(h0, .inr (11, [.ref hg, .long (lI 0), .ref hk, .long (lI 0), .int (iI 0), .ref hp, .ref hpu, .int (iI 0), .ref hs, .long (lI 0), .int (iI 0), .int (iI 0), .int (iI 0), .int (iI 0), .int (iI 0), .long (lI 0), .ref hpl, .int (iI 0), .ref hpd, .int (iI 0), .ref htx, .int (iI 0), .int (iI 0), .int (iI (-1)), .int (iI (-1)), .int (iI 0), .ref htd, .int (iI 0), .ref hrw, .ref hrl, .ref hir])), (hg, .inl (k 0, 1460, .inl (aI g0F)))] s.heap.size = A at hD hE ⊢
  have hA : ∀ q : Nat, s.heap.size ≤ q → A q := fun q h => by rw [← hAe]; exact Or.inr h
  have hS : va_S A s.heap s.heap [] := va_S.rf
  obtain ⟨hK, hNw, hNc, hZs, hAO1, hAO2⟩ := id hE
  have hSF : CallFix p mI cO cX11_number 2 s ([.ref h0, .int (iI 3)] : List Value).toArray woX11_number RX11 := ⟨hx, hb, hml, hown, hts⟩
  have hl := lv_entry ([.ref h0, .int (iI 3)] : List Value) (n := 2) (Nat.le_of_ble_eq_true rfl)
  rw [lg_entry_eq]
  generalize (lg_sl ([.ref h0, .int (iI 3)] : List Value) ++ List.replicate (2 - (lg_sl ([.ref h0, .int (iI 3)] : List Value)).length) Slot.unset).toArray = ls at hl ⊢
  have hl : lv_has ls 2 [(0, .ref h0), (1, .int (iI 3))] := hl
  refine W_gen (fun Q hQ => ?_)
  change W p l e ({ frames := 0, cells := 0, slots := 0, locals := 0 } : Room) s mI _ below meth cO s.heap [] 0 0 Q _
  have hP : va_P (dC, dI) vwCl [(h0, .inr (11, [.ref hg, .long (lI 0), .ref hk, .long (lI 0), .int (iI 0), .ref hp, .ref hpu, .int (iI 0), .ref hs, .long (lI 0), .int (iI 0), .int (iI 0), .int (iI 0), .int (iI 0), .int (iI 0), .long (lI 0), .ref hpl, .int (iI 0), .ref hpd, .int (iI 0), .ref htx, .int (iI 0), .int (iI 0), .int (iI (-1)), .int (iI (-1)), .int (iI 0), .ref htd, .int (iI 0), .ref hrw, .ref hrl, .ref hir])), (hg, .inl (k 0, 1460, .inl (aI g0F)))] s.heap := hP
  refine lv_aload_n hx hb dX11_number_0 rfl (lv_at hl 0 rfl) ?_
  refine q_iconst hx hb dX11_number_1 ?_
  refine va_put (D := (dC, dI)) (ci := 11) (v := .int (iI 0)) (ty := .int) (C := RX11) (T := TX11) (N := 31) hx hb hts (fun _ h => List.mem_cons_of_mem _ (inlX11 _ h)) tyX11 tyX11_ok nmX11 hown hK hP hD hS 0 rfl rfl 11 (by decide) (hts (.fieldLink RX11 56 "LoanServicingModel" "thrown" "I") (List.mem_cons_of_mem _ (wl_13 (List.mem_of_getElem? (i := 12) rfl)))) (fun _ h9 => h9) rfl (by decide +kernel) rfl rfl (Nat.le_of_ble_eq_true rfl) dX11_number_2 (fun H locs hP hD hS => ?_)
  have hP : va_P (dC, dI) vwCl [(h0, .inr (11, [.ref hg, .long (lI 0), .ref hk, .long (lI 0), .int (iI 0), .ref hp, .ref hpu, .int (iI 0), .ref hs, .long (lI 0), .int (iI 0), .int (iI 0), .int (iI 0), .int (iI 0), .int (iI 0), .long (lI 0), .ref hpl, .int (iI 0), .ref hpd, .int (iI 0), .ref htx, .int (iI 0), .int (iI 0), .int (iI (-1)), .int (iI (-1)), .int (iI 0), .ref htd, .int (iI 0), .ref hrw, .ref hrl, .ref hir])), (hg, .inl (k 0, 1460, .inl (aI g0F)))] H := hP
  have hD : va_D A [(h0, .inr (11, [.ref hg, .long (lI 0), .ref hk, .long (lI 0), .int (iI 0), .ref hp, .ref hpu, .int (iI 0), .ref hs, .long (lI 0), .int (iI 0), .int (iI 0), .int (iI 0), .int (iI 0), .int (iI 0), .long (lI 0), .ref hpl, .int (iI 0), .ref hpd, .int (iI 0), .ref htx, .int (iI 0), .int (iI 0), .int (iI (-1)), .int (iI (-1)), .int (iI 0), .ref htd, .int (iI 0), .ref hrw, .ref hrl, .ref hir])), (hg, .inl (k 0, 1460, .inl (aI g0F)))] := hD
  refine lv_iload_n hx hb dX11_number_5 rfl (lv_at hl 1 rfl) ?_
  refine lv_tableIn (off := 78) (tgt := 84) hx hb dX11_number_6 (by rw [iI_toInt ⟨by omega, by omega⟩]; omega) (by rw [iI_toInt ⟨by omega, by omega⟩]; omega) (by rw [iI_toInt ⟨by omega, by omega⟩]; rfl) (by decide) ?_
  refine lv_aload_n hx hb dX11_number_84 rfl (lv_at hl 0 rfl) ?_
  refine va_get (D := (dC, dI)) (ci := 11) (v := .ref hg) (C := RX11) (T := TX11) (N := 31) hx hb hts (fun _ h => List.mem_cons_of_mem _ (inlX11 _ h)) hown hK hP 0 rfl rfl 0 (by decide) (hts (.fieldLink RX11 7 "LoanServicingModel" "g" "[I") (List.mem_cons_of_mem _ (wl_5 (List.mem_of_getElem? (i := 8) rfl)))) (fun _ h9 => h9) rfl dX11_number_85 ?_
  refine q_iconst hx hb dX11_number_88 ?_
  refine q_iald (z := 0) hx hb hK hP 1 0 rfl rfl (by omega) (by decide) dX11_number_89 ?_
  refine q_if_ne (tgt := 97) hx hb dX11_number_90 (by decide) (by omega) (fun q => absurd q (by omega)) (fun _ => ?_)
  refine q_iconst hx hb dX11_number_93 ?_
  refine lv_goto (tgt := 111) hx hb dX11_number_94 (by decide) ?_
  rw [hQ]
  refine W.widen (k := 0) (n := 0) (Nat.le_of_ble_eq_true rfl) (Nat.le_of_ble_eq_true rfl) ?_
  exact W.iret (v := (iI 0)) hx hb hr (fun t ht hW => ⟨⟨(iI 0), (), rfl, rfl, by rw [ht]; exact hP.sub [0] rfl, by rw [hAe]; exact hD.sub [0] (by decide) rfl⟩, hS.F ht⟩) hS.2.2 dX11_number_111
set_option maxHeartbeats 4000000 in
set_option maxRecDepth 100000 in
/-- the reference: number(4) -/
theorem c_X11_number_4 (l : Launch) (dC : Nat → ClassId) (dI : Nat → Nat → Nat) (k : Nat → ClassId) (h0 hg hk hp hpu hs hpl hpd htx htd hrw hrl hir : Nat) (sz : Nat) : Met l yX11_number woX11_number ({ frames := 0, cells := 0, slots := 0, locals := 0 } : Room) (PcW (dC, dI) k [.ref h0, .int (iI 4)] [(h0, .inr (11, [.ref hg, .long (lI 0), .ref hk, .long (lI 0), .int (iI 0), .ref hp, .ref hpu, .int (iI 0), .ref hs, .long (lI 0), .int (iI 0), .int (iI 0), .int (iI 0), .int (iI 0), .int (iI 0), .long (lI 0), .ref hpl, .int (iI 0), .ref hpd, .int (iI 0), .ref htx, .int (iI 0), .int (iI 0), .int (iI (-1)), .int (iI (-1)), .int (iI 0), .ref htd, .int (iI 0), .ref hrw, .ref hrl, .ref hir])), (hg, .inl (k 0, 1460, .inl (aI g0F)))] sz) (va_Qi (fun (r : Int32) (_ : Unit) => r = iI 0) (QB (dC, dI) [(h0, .inr (11, [.ref hg, .long (lI 0), .ref hk, .long (lI 0), .int (iI 0), .ref hp, .ref hpu, .int (iI 0), .ref hs, .long (lI 0), .int (iI 0), .int (iI 0), .int (iI 0), .int (iI 0), .int (iI 0), .long (lI 0), .ref hpl, .int (iI 0), .ref hpd, .int (iI 0), .ref htx, .int (iI 0), .int (iI 0), .int (iI (-1)), .int (iI (-1)), .int (iI 0), .ref htd, .int (iI 0), .ref hrw, .ref hrl, .ref hir])), (hg, .inl (k 0, 1460, .inl (aI g0F)))] (fun _ => [(h0, .inr (11, [.ref hg, .long (lI 0), .ref hk, .long (lI 0), .int (iI 0), .ref hp, .ref hpu, .int (iI 0), .ref hs, .long (lI 0), .int (iI 0), .int (iI 0), .int (iI 0), .int (iI 0), .int (iI 0), .long (lI 0), .ref hpl, .int (iI 0), .ref hpd, .int (iI 0), .ref htx, .int (iI 0), .int (iI 0), .int (iI (-1)), .int (iI (-1)), .int (iI 0), .ref htd, .int (iI 0), .ref hrw, .ref hrl, .ref hir]))]) sz) (va_A [(h0, .inr (11, [.ref hg, .long (lI 0), .ref hk, .long (lI 0), .int (iI 0), .ref hp, .ref hpu, .int (iI 0), .ref hs, .long (lI 0), .int (iI 0), .int (iI 0), .int (iI 0), .int (iI 0), .int (iI 0), .long (lI 0), .ref hpl, .int (iI 0), .ref hpd, .int (iI 0), .ref htx, .int (iI 0), .int (iI 0), .int (iI (-1)), .int (iI (-1)), .int (iI 0), .ref htd, .int (iI 0), .ref hrw, .ref hrl, .ref hir])), (hg, .inl (k 0, 1460, .inl (aI g0F)))] sz)) 0 0 (va_A [(h0, .inr (11, [.ref hg, .long (lI 0), .ref hk, .long (lI 0), .int (iI 0), .ref hp, .ref hpu, .int (iI 0), .ref hs, .long (lI 0), .int (iI 0), .int (iI 0), .int (iI 0), .int (iI 0), .int (iI 0), .long (lI 0), .ref hpl, .int (iI 0), .ref hpd, .int (iI 0), .ref htx, .int (iI 0), .int (iI 0), .int (iI (-1)), .int (iI (-1)), .int (iI 0), .ref htd, .int (iI 0), .ref hrw, .ref hrl, .ref hir])), (hg, .inl (k 0, 1460, .inl (aI g0F)))] sz) := by
  refine Met.ofW (cc := cX11_number) (maxL := 2) (ret := (some .int)) (by decide) rfl ?_
  intro p e s mI args below meth cO s₁ B hml hv
  obtain ⟨rfl, rfl, hP, hD0, hE⟩ := hv
  have hx := B.exec
  have hb := B.bytes
  have hr := B.returns
  have hts := atoms_spec (ws := woX11_number) B.pre
  have hown : s.vm.findClass RX11 = some mI.cls := findClass_of_methodNamed B.named
  have hlocks := B.notSynchronized
  have hD := hD0.self (sz := s.heap.size)
  generalize hAe : va_A [(h0, .inr (11, [.ref hg, .long (lI 0), .ref hk, .long (lI 0), .int (iI 0), .ref hp, .ref hpu, .int (iI 0), .ref hs, .long (lI 0), .int (iI 0), .int (iI 0), .int (iI 0), .int (iI 0), .int (iI 0), .long (lI 0), .ref hpl, .int (iI 0), .ref hpd, .int (iI 0), .ref htx, .int (iI 0), .int (iI 0), .int (iI (-1)), .int (iI (-1)), .int (iI 0), .ref htd, .int (iI 0), .ref hrw, .ref hrl, .ref hir])), (hg, .inl (k 0, 1460, .inl (aI g0F)))] s.heap.size = A at hD hE ⊢
  have hA : ∀ q : Nat, s.heap.size ≤ q → A q := fun q h => by rw [← hAe]; exact Or.inr h
  have hS : va_S A s.heap s.heap [] := va_S.rf
  obtain ⟨hK, hNw, hNc, hZs, hAO1, hAO2⟩ := id hE
  have hSF : CallFix p mI cO cX11_number 2 s ([.ref h0, .int (iI 4)] : List Value).toArray woX11_number RX11 := ⟨hx, hb, hml, hown, hts⟩
  have hl := lv_entry ([.ref h0, .int (iI 4)] : List Value) (n := 2) (Nat.le_of_ble_eq_true rfl)
  rw [lg_entry_eq]
  generalize (lg_sl ([.ref h0, .int (iI 4)] : List Value) ++ List.replicate (2 - (lg_sl ([.ref h0, .int (iI 4)] : List Value)).length) Slot.unset).toArray = ls at hl ⊢
  have hl : lv_has ls 2 [(0, .ref h0), (1, .int (iI 4))] := hl
  refine W_gen (fun Q hQ => ?_)
  change W p l e ({ frames := 0, cells := 0, slots := 0, locals := 0 } : Room) s mI _ below meth cO s.heap [] 0 0 Q _
  have hP : va_P (dC, dI) vwCl [(h0, .inr (11, [.ref hg, .long (lI 0), .ref hk, .long (lI 0), .int (iI 0), .ref hp, .ref hpu, .int (iI 0), .ref hs, .long (lI 0), .int (iI 0), .int (iI 0), .int (iI 0), .int (iI 0), .int (iI 0), .long (lI 0), .ref hpl, .int (iI 0), .ref hpd, .int (iI 0), .ref htx, .int (iI 0), .int (iI 0), .int (iI (-1)), .int (iI (-1)), .int (iI 0), .ref htd, .int (iI 0), .ref hrw, .ref hrl, .ref hir])), (hg, .inl (k 0, 1460, .inl (aI g0F)))] s.heap := hP
  refine lv_aload_n hx hb dX11_number_0 rfl (lv_at hl 0 rfl) ?_
  refine q_iconst hx hb dX11_number_1 ?_
  refine va_put (D := (dC, dI)) (ci := 11) (v := .int (iI 0)) (ty := .int) (C := RX11) (T := TX11) (N := 31) hx hb hts (fun _ h => List.mem_cons_of_mem _ (inlX11 _ h)) tyX11 tyX11_ok nmX11 hown hK hP hD hS 0 rfl rfl 11 (by decide) (hts (.fieldLink RX11 56 "LoanServicingModel" "thrown" "I") (List.mem_cons_of_mem _ (wl_13 (List.mem_of_getElem? (i := 12) rfl)))) (fun _ h9 => h9) rfl (by decide +kernel) rfl rfl (Nat.le_of_ble_eq_true rfl) dX11_number_2 (fun H locs hP hD hS => ?_)
  have hP : va_P (dC, dI) vwCl [(h0, .inr (11, [.ref hg, .long (lI 0), .ref hk, .long (lI 0), .int (iI 0), .ref hp, .ref hpu, .int (iI 0), .ref hs, .long (lI 0), .int (iI 0), .int (iI 0), .int (iI 0), .int (iI 0), .int (iI 0), .long (lI 0), .ref hpl, .int (iI 0), .ref hpd, .int (iI 0), .ref htx, .int (iI 0), .int (iI 0), .int (iI (-1)), .int (iI (-1)), .int (iI 0), .ref htd, .int (iI 0), .ref hrw, .ref hrl, .ref hir])), (hg, .inl (k 0, 1460, .inl (aI g0F)))] H := hP
  have hD : va_D A [(h0, .inr (11, [.ref hg, .long (lI 0), .ref hk, .long (lI 0), .int (iI 0), .ref hp, .ref hpu, .int (iI 0), .ref hs, .long (lI 0), .int (iI 0), .int (iI 0), .int (iI 0), .int (iI 0), .int (iI 0), .long (lI 0), .ref hpl, .int (iI 0), .ref hpd, .int (iI 0), .ref htx, .int (iI 0), .int (iI 0), .int (iI (-1)), .int (iI (-1)), .int (iI 0), .ref htd, .int (iI 0), .ref hrw, .ref hrl, .ref hir])), (hg, .inl (k 0, 1460, .inl (aI g0F)))] := hD
  refine lv_iload_n hx hb dX11_number_5 rfl (lv_at hl 1 rfl) ?_
  refine lv_tableIn (off := 106) (tgt := 112) hx hb dX11_number_6 (by rw [iI_toInt ⟨by omega, by omega⟩]; omega) (by rw [iI_toInt ⟨by omega, by omega⟩]; omega) (by rw [iI_toInt ⟨by omega, by omega⟩]; rfl) (by decide) ?_
  refine lv_aload_n hx hb dX11_number_112 rfl (lv_at hl 0 rfl) ?_
  refine va_get (D := (dC, dI)) (ci := 11) (v := .ref hg) (C := RX11) (T := TX11) (N := 31) hx hb hts (fun _ h => List.mem_cons_of_mem _ (inlX11 _ h)) hown hK hP 0 rfl rfl 0 (by decide) (hts (.fieldLink RX11 7 "LoanServicingModel" "g" "[I") (List.mem_cons_of_mem _ (wl_5 (List.mem_of_getElem? (i := 8) rfl)))) (fun _ h9 => h9) rfl dX11_number_113 ?_
  refine q_bipush (z := 12) hx hb dX11_number_116 (by decide) ?_
  refine q_iald (z := 0) hx hb hK hP 1 0 rfl rfl (by omega) (by decide) dX11_number_118 ?_
  rw [hQ]
  refine W.widen (k := 0) (n := 0) (Nat.le_of_ble_eq_true rfl) (Nat.le_of_ble_eq_true rfl) ?_
  exact W.iret (v := (iI 0)) hx hb hr (fun t ht hW => ⟨⟨(iI 0), (), rfl, rfl, by rw [ht]; exact hP.sub [0] rfl, by rw [hAe]; exact hD.sub [0] (by decide) rfl⟩, hS.F ht⟩) hS.2.2 dX11_number_119
set_option maxHeartbeats 4000000 in
set_option maxRecDepth 100000 in
/-- the reference: number(5) -/
theorem c_X11_number_5 (l : Launch) (dC : Nat → ClassId) (dI : Nat → Nat → Nat) (k : Nat → ClassId) (h0 hg hk hp hpu hs hpl hpd htx htd hrw hrl hir : Nat) (sz : Nat) : Met l yX11_number woX11_number ({ frames := 0, cells := 0, slots := 0, locals := 0 } : Room) (PcW (dC, dI) k [.ref h0, .int (iI 5)] [(h0, .inr (11, [.ref hg, .long (lI 0), .ref hk, .long (lI 0), .int (iI 0), .ref hp, .ref hpu, .int (iI 0), .ref hs, .long (lI 0), .int (iI 0), .int (iI 0), .int (iI 0), .int (iI 0), .int (iI 0), .long (lI 0), .ref hpl, .int (iI 0), .ref hpd, .int (iI 0), .ref htx, .int (iI 0), .int (iI 0), .int (iI (-1)), .int (iI (-1)), .int (iI 0), .ref htd, .int (iI 0), .ref hrw, .ref hrl, .ref hir])), (hg, .inl (k 0, 1460, .inl (aI g0F)))] sz) (va_Qi (fun (r : Int32) (_ : Unit) => r = iI 0) (QB (dC, dI) [(h0, .inr (11, [.ref hg, .long (lI 0), .ref hk, .long (lI 0), .int (iI 0), .ref hp, .ref hpu, .int (iI 0), .ref hs, .long (lI 0), .int (iI 0), .int (iI 0), .int (iI 0), .int (iI 0), .int (iI 0), .long (lI 0), .ref hpl, .int (iI 0), .ref hpd, .int (iI 0), .ref htx, .int (iI 0), .int (iI 0), .int (iI (-1)), .int (iI (-1)), .int (iI 0), .ref htd, .int (iI 0), .ref hrw, .ref hrl, .ref hir])), (hg, .inl (k 0, 1460, .inl (aI g0F)))] (fun _ => [(h0, .inr (11, [.ref hg, .long (lI 0), .ref hk, .long (lI 0), .int (iI 0), .ref hp, .ref hpu, .int (iI 0), .ref hs, .long (lI 0), .int (iI 0), .int (iI 0), .int (iI 0), .int (iI 0), .int (iI 0), .long (lI 0), .ref hpl, .int (iI 0), .ref hpd, .int (iI 0), .ref htx, .int (iI 0), .int (iI 0), .int (iI (-1)), .int (iI (-1)), .int (iI 0), .ref htd, .int (iI 0), .ref hrw, .ref hrl, .ref hir]))]) sz) (va_A [(h0, .inr (11, [.ref hg, .long (lI 0), .ref hk, .long (lI 0), .int (iI 0), .ref hp, .ref hpu, .int (iI 0), .ref hs, .long (lI 0), .int (iI 0), .int (iI 0), .int (iI 0), .int (iI 0), .int (iI 0), .long (lI 0), .ref hpl, .int (iI 0), .ref hpd, .int (iI 0), .ref htx, .int (iI 0), .int (iI 0), .int (iI (-1)), .int (iI (-1)), .int (iI 0), .ref htd, .int (iI 0), .ref hrw, .ref hrl, .ref hir])), (hg, .inl (k 0, 1460, .inl (aI g0F)))] sz)) 0 0 (va_A [(h0, .inr (11, [.ref hg, .long (lI 0), .ref hk, .long (lI 0), .int (iI 0), .ref hp, .ref hpu, .int (iI 0), .ref hs, .long (lI 0), .int (iI 0), .int (iI 0), .int (iI 0), .int (iI 0), .int (iI 0), .long (lI 0), .ref hpl, .int (iI 0), .ref hpd, .int (iI 0), .ref htx, .int (iI 0), .int (iI 0), .int (iI (-1)), .int (iI (-1)), .int (iI 0), .ref htd, .int (iI 0), .ref hrw, .ref hrl, .ref hir])), (hg, .inl (k 0, 1460, .inl (aI g0F)))] sz) := by
  refine Met.ofW (cc := cX11_number) (maxL := 2) (ret := (some .int)) (by decide) rfl ?_
  intro p e s mI args below meth cO s₁ B hml hv
  obtain ⟨rfl, rfl, hP, hD0, hE⟩ := hv
  have hx := B.exec
  have hb := B.bytes
  have hr := B.returns
  have hts := atoms_spec (ws := woX11_number) B.pre
  have hown : s.vm.findClass RX11 = some mI.cls := findClass_of_methodNamed B.named
  have hlocks := B.notSynchronized
  have hD := hD0.self (sz := s.heap.size)
  generalize hAe : va_A [(h0, .inr (11, [.ref hg, .long (lI 0), .ref hk, .long (lI 0), .int (iI 0), .ref hp, .ref hpu, .int (iI 0), .ref hs, .long (lI 0), .int (iI 0), .int (iI 0), .int (iI 0), .int (iI 0), .int (iI 0), .long (lI 0), .ref hpl, .int (iI 0), .ref hpd, .int (iI 0), .ref htx, .int (iI 0), .int (iI 0), .int (iI (-1)), .int (iI (-1)), .int (iI 0), .ref htd, .int (iI 0), .ref hrw, .ref hrl, .ref hir])), (hg, .inl (k 0, 1460, .inl (aI g0F)))] s.heap.size = A at hD hE ⊢
  have hA : ∀ q : Nat, s.heap.size ≤ q → A q := fun q h => by rw [← hAe]; exact Or.inr h
  have hS : va_S A s.heap s.heap [] := va_S.rf
  obtain ⟨hK, hNw, hNc, hZs, hAO1, hAO2⟩ := id hE
  have hSF : CallFix p mI cO cX11_number 2 s ([.ref h0, .int (iI 5)] : List Value).toArray woX11_number RX11 := ⟨hx, hb, hml, hown, hts⟩
  have hl := lv_entry ([.ref h0, .int (iI 5)] : List Value) (n := 2) (Nat.le_of_ble_eq_true rfl)
  rw [lg_entry_eq]
  generalize (lg_sl ([.ref h0, .int (iI 5)] : List Value) ++ List.replicate (2 - (lg_sl ([.ref h0, .int (iI 5)] : List Value)).length) Slot.unset).toArray = ls at hl ⊢
  have hl : lv_has ls 2 [(0, .ref h0), (1, .int (iI 5))] := hl
  refine W_gen (fun Q hQ => ?_)
  change W p l e ({ frames := 0, cells := 0, slots := 0, locals := 0 } : Room) s mI _ below meth cO s.heap [] 0 0 Q _
  have hP : va_P (dC, dI) vwCl [(h0, .inr (11, [.ref hg, .long (lI 0), .ref hk, .long (lI 0), .int (iI 0), .ref hp, .ref hpu, .int (iI 0), .ref hs, .long (lI 0), .int (iI 0), .int (iI 0), .int (iI 0), .int (iI 0), .int (iI 0), .long (lI 0), .ref hpl, .int (iI 0), .ref hpd, .int (iI 0), .ref htx, .int (iI 0), .int (iI 0), .int (iI (-1)), .int (iI (-1)), .int (iI 0), .ref htd, .int (iI 0), .ref hrw, .ref hrl, .ref hir])), (hg, .inl (k 0, 1460, .inl (aI g0F)))] s.heap := hP
  refine lv_aload_n hx hb dX11_number_0 rfl (lv_at hl 0 rfl) ?_
  refine q_iconst hx hb dX11_number_1 ?_
  refine va_put (D := (dC, dI)) (ci := 11) (v := .int (iI 0)) (ty := .int) (C := RX11) (T := TX11) (N := 31) hx hb hts (fun _ h => List.mem_cons_of_mem _ (inlX11 _ h)) tyX11 tyX11_ok nmX11 hown hK hP hD hS 0 rfl rfl 11 (by decide) (hts (.fieldLink RX11 56 "LoanServicingModel" "thrown" "I") (List.mem_cons_of_mem _ (wl_13 (List.mem_of_getElem? (i := 12) rfl)))) (fun _ h9 => h9) rfl (by decide +kernel) rfl rfl (Nat.le_of_ble_eq_true rfl) dX11_number_2 (fun H locs hP hD hS => ?_)
  have hP : va_P (dC, dI) vwCl [(h0, .inr (11, [.ref hg, .long (lI 0), .ref hk, .long (lI 0), .int (iI 0), .ref hp, .ref hpu, .int (iI 0), .ref hs, .long (lI 0), .int (iI 0), .int (iI 0), .int (iI 0), .int (iI 0), .int (iI 0), .long (lI 0), .ref hpl, .int (iI 0), .ref hpd, .int (iI 0), .ref htx, .int (iI 0), .int (iI 0), .int (iI (-1)), .int (iI (-1)), .int (iI 0), .ref htd, .int (iI 0), .ref hrw, .ref hrl, .ref hir])), (hg, .inl (k 0, 1460, .inl (aI g0F)))] H := hP
  have hD : va_D A [(h0, .inr (11, [.ref hg, .long (lI 0), .ref hk, .long (lI 0), .int (iI 0), .ref hp, .ref hpu, .int (iI 0), .ref hs, .long (lI 0), .int (iI 0), .int (iI 0), .int (iI 0), .int (iI 0), .int (iI 0), .long (lI 0), .ref hpl, .int (iI 0), .ref hpd, .int (iI 0), .ref htx, .int (iI 0), .int (iI 0), .int (iI (-1)), .int (iI (-1)), .int (iI 0), .ref htd, .int (iI 0), .ref hrw, .ref hrl, .ref hir])), (hg, .inl (k 0, 1460, .inl (aI g0F)))] := hD
  refine lv_iload_n hx hb dX11_number_5 rfl (lv_at hl 1 rfl) ?_
  refine lv_tableIn (off := 114) (tgt := 120) hx hb dX11_number_6 (by rw [iI_toInt ⟨by omega, by omega⟩]; omega) (by rw [iI_toInt ⟨by omega, by omega⟩]; omega) (by rw [iI_toInt ⟨by omega, by omega⟩]; rfl) (by decide) ?_
  refine lv_aload_n hx hb dX11_number_120 rfl (lv_at hl 0 rfl) ?_
  refine va_get (D := (dC, dI)) (ci := 11) (v := .ref hg) (C := RX11) (T := TX11) (N := 31) hx hb hts (fun _ h => List.mem_cons_of_mem _ (inlX11 _ h)) hown hK hP 0 rfl rfl 0 (by decide) (hts (.fieldLink RX11 7 "LoanServicingModel" "g" "[I") (List.mem_cons_of_mem _ (wl_5 (List.mem_of_getElem? (i := 8) rfl)))) (fun _ h9 => h9) rfl dX11_number_121 ?_
  refine q_bipush (z := 13) hx hb dX11_number_124 (by decide) ?_
  refine q_iald (z := 0) hx hb hK hP 1 0 rfl rfl (by omega) (by decide) dX11_number_126 ?_
  rw [hQ]
  refine W.widen (k := 0) (n := 0) (Nat.le_of_ble_eq_true rfl) (Nat.le_of_ble_eq_true rfl) ?_
  exact W.iret (v := (iI 0)) hx hb hr (fun t ht hW => ⟨⟨(iI 0), (), rfl, rfl, by rw [ht]; exact hP.sub [0] rfl, by rw [hAe]; exact hD.sub [0] (by decide) rfl⟩, hS.F ht⟩) hS.2.2 dX11_number_127
set_option maxHeartbeats 4000000 in
set_option maxRecDepth 100000 in
/-- the reference: number(6) -/
theorem c_X11_number_6 (l : Launch) (dC : Nat → ClassId) (dI : Nat → Nat → Nat) (k : Nat → ClassId) (h0 hg hk hp hpu hs hpl hpd htx htd hrw hrl hir : Nat) (sz : Nat) : Met l yX11_number woX11_number ({ frames := 0, cells := 0, slots := 0, locals := 0 } : Room) (PcW (dC, dI) k [.ref h0, .int (iI 6)] [(h0, .inr (11, [.ref hg, .long (lI 0), .ref hk, .long (lI 0), .int (iI 0), .ref hp, .ref hpu, .int (iI 0), .ref hs, .long (lI 0), .int (iI 0), .int (iI 0), .int (iI 0), .int (iI 0), .int (iI 0), .long (lI 0), .ref hpl, .int (iI 0), .ref hpd, .int (iI 0), .ref htx, .int (iI 0), .int (iI 0), .int (iI (-1)), .int (iI (-1)), .int (iI 0), .ref htd, .int (iI 0), .ref hrw, .ref hrl, .ref hir])), (hg, .inl (k 0, 1460, .inl (aI g0F)))] sz) (va_Qi (fun (r : Int32) (_ : Unit) => r = iI (-1)) (QB (dC, dI) [(h0, .inr (11, [.ref hg, .long (lI 0), .ref hk, .long (lI 0), .int (iI 0), .ref hp, .ref hpu, .int (iI 0), .ref hs, .long (lI 0), .int (iI 0), .int (iI 0), .int (iI 0), .int (iI 0), .int (iI 0), .long (lI 0), .ref hpl, .int (iI 0), .ref hpd, .int (iI 0), .ref htx, .int (iI 0), .int (iI 0), .int (iI (-1)), .int (iI (-1)), .int (iI 0), .ref htd, .int (iI 0), .ref hrw, .ref hrl, .ref hir])), (hg, .inl (k 0, 1460, .inl (aI g0F)))] (fun _ => [(h0, .inr (11, [.ref hg, .long (lI 0), .ref hk, .long (lI 0), .int (iI 0), .ref hp, .ref hpu, .int (iI 0), .ref hs, .long (lI 0), .int (iI 0), .int (iI 0), .int (iI 0), .int (iI 0), .int (iI 0), .long (lI 0), .ref hpl, .int (iI 0), .ref hpd, .int (iI 0), .ref htx, .int (iI 0), .int (iI 0), .int (iI (-1)), .int (iI (-1)), .int (iI 0), .ref htd, .int (iI 0), .ref hrw, .ref hrl, .ref hir]))]) sz) (va_A [(h0, .inr (11, [.ref hg, .long (lI 0), .ref hk, .long (lI 0), .int (iI 0), .ref hp, .ref hpu, .int (iI 0), .ref hs, .long (lI 0), .int (iI 0), .int (iI 0), .int (iI 0), .int (iI 0), .int (iI 0), .long (lI 0), .ref hpl, .int (iI 0), .ref hpd, .int (iI 0), .ref htx, .int (iI 0), .int (iI 0), .int (iI (-1)), .int (iI (-1)), .int (iI 0), .ref htd, .int (iI 0), .ref hrw, .ref hrl, .ref hir])), (hg, .inl (k 0, 1460, .inl (aI g0F)))] sz)) 0 0 (va_A [(h0, .inr (11, [.ref hg, .long (lI 0), .ref hk, .long (lI 0), .int (iI 0), .ref hp, .ref hpu, .int (iI 0), .ref hs, .long (lI 0), .int (iI 0), .int (iI 0), .int (iI 0), .int (iI 0), .int (iI 0), .long (lI 0), .ref hpl, .int (iI 0), .ref hpd, .int (iI 0), .ref htx, .int (iI 0), .int (iI 0), .int (iI (-1)), .int (iI (-1)), .int (iI 0), .ref htd, .int (iI 0), .ref hrw, .ref hrl, .ref hir])), (hg, .inl (k 0, 1460, .inl (aI g0F)))] sz) := by
  refine Met.ofW (cc := cX11_number) (maxL := 2) (ret := (some .int)) (by decide) rfl ?_
  intro p e s mI args below meth cO s₁ B hml hv
  obtain ⟨rfl, rfl, hP, hD0, hE⟩ := hv
  have hx := B.exec
  have hb := B.bytes
  have hr := B.returns
  have hts := atoms_spec (ws := woX11_number) B.pre
  have hown : s.vm.findClass RX11 = some mI.cls := findClass_of_methodNamed B.named
  have hlocks := B.notSynchronized
  have hD := hD0.self (sz := s.heap.size)
  generalize hAe : va_A [(h0, .inr (11, [.ref hg, .long (lI 0), .ref hk, .long (lI 0), .int (iI 0), .ref hp, .ref hpu, .int (iI 0), .ref hs, .long (lI 0), .int (iI 0), .int (iI 0), .int (iI 0), .int (iI 0), .int (iI 0), .long (lI 0), .ref hpl, .int (iI 0), .ref hpd, .int (iI 0), .ref htx, .int (iI 0), .int (iI 0), .int (iI (-1)), .int (iI (-1)), .int (iI 0), .ref htd, .int (iI 0), .ref hrw, .ref hrl, .ref hir])), (hg, .inl (k 0, 1460, .inl (aI g0F)))] s.heap.size = A at hD hE ⊢
  have hA : ∀ q : Nat, s.heap.size ≤ q → A q := fun q h => by rw [← hAe]; exact Or.inr h
  have hS : va_S A s.heap s.heap [] := va_S.rf
  obtain ⟨hK, hNw, hNc, hZs, hAO1, hAO2⟩ := id hE
  have hSF : CallFix p mI cO cX11_number 2 s ([.ref h0, .int (iI 6)] : List Value).toArray woX11_number RX11 := ⟨hx, hb, hml, hown, hts⟩
  have hl := lv_entry ([.ref h0, .int (iI 6)] : List Value) (n := 2) (Nat.le_of_ble_eq_true rfl)
  rw [lg_entry_eq]
  generalize (lg_sl ([.ref h0, .int (iI 6)] : List Value) ++ List.replicate (2 - (lg_sl ([.ref h0, .int (iI 6)] : List Value)).length) Slot.unset).toArray = ls at hl ⊢
  have hl : lv_has ls 2 [(0, .ref h0), (1, .int (iI 6))] := hl
  refine W_gen (fun Q hQ => ?_)
  change W p l e ({ frames := 0, cells := 0, slots := 0, locals := 0 } : Room) s mI _ below meth cO s.heap [] 0 0 Q _
  have hP : va_P (dC, dI) vwCl [(h0, .inr (11, [.ref hg, .long (lI 0), .ref hk, .long (lI 0), .int (iI 0), .ref hp, .ref hpu, .int (iI 0), .ref hs, .long (lI 0), .int (iI 0), .int (iI 0), .int (iI 0), .int (iI 0), .int (iI 0), .long (lI 0), .ref hpl, .int (iI 0), .ref hpd, .int (iI 0), .ref htx, .int (iI 0), .int (iI 0), .int (iI (-1)), .int (iI (-1)), .int (iI 0), .ref htd, .int (iI 0), .ref hrw, .ref hrl, .ref hir])), (hg, .inl (k 0, 1460, .inl (aI g0F)))] s.heap := hP
  refine lv_aload_n hx hb dX11_number_0 rfl (lv_at hl 0 rfl) ?_
  refine q_iconst hx hb dX11_number_1 ?_
  refine va_put (D := (dC, dI)) (ci := 11) (v := .int (iI 0)) (ty := .int) (C := RX11) (T := TX11) (N := 31) hx hb hts (fun _ h => List.mem_cons_of_mem _ (inlX11 _ h)) tyX11 tyX11_ok nmX11 hown hK hP hD hS 0 rfl rfl 11 (by decide) (hts (.fieldLink RX11 56 "LoanServicingModel" "thrown" "I") (List.mem_cons_of_mem _ (wl_13 (List.mem_of_getElem? (i := 12) rfl)))) (fun _ h9 => h9) rfl (by decide +kernel) rfl rfl (Nat.le_of_ble_eq_true rfl) dX11_number_2 (fun H locs hP hD hS => ?_)
  have hP : va_P (dC, dI) vwCl [(h0, .inr (11, [.ref hg, .long (lI 0), .ref hk, .long (lI 0), .int (iI 0), .ref hp, .ref hpu, .int (iI 0), .ref hs, .long (lI 0), .int (iI 0), .int (iI 0), .int (iI 0), .int (iI 0), .int (iI 0), .long (lI 0), .ref hpl, .int (iI 0), .ref hpd, .int (iI 0), .ref htx, .int (iI 0), .int (iI 0), .int (iI (-1)), .int (iI (-1)), .int (iI 0), .ref htd, .int (iI 0), .ref hrw, .ref hrl, .ref hir])), (hg, .inl (k 0, 1460, .inl (aI g0F)))] H := hP
  have hD : va_D A [(h0, .inr (11, [.ref hg, .long (lI 0), .ref hk, .long (lI 0), .int (iI 0), .ref hp, .ref hpu, .int (iI 0), .ref hs, .long (lI 0), .int (iI 0), .int (iI 0), .int (iI 0), .int (iI 0), .int (iI 0), .long (lI 0), .ref hpl, .int (iI 0), .ref hpd, .int (iI 0), .ref htx, .int (iI 0), .int (iI 0), .int (iI (-1)), .int (iI (-1)), .int (iI 0), .ref htd, .int (iI 0), .ref hrw, .ref hrl, .ref hir])), (hg, .inl (k 0, 1460, .inl (aI g0F)))] := hD
  refine lv_iload_n hx hb dX11_number_5 rfl (lv_at hl 1 rfl) ?_
  refine lv_tableIn (off := 122) (tgt := 128) hx hb dX11_number_6 (by rw [iI_toInt ⟨by omega, by omega⟩]; omega) (by rw [iI_toInt ⟨by omega, by omega⟩]; omega) (by rw [iI_toInt ⟨by omega, by omega⟩]; rfl) (by decide) ?_
  refine lv_aload_n hx hb dX11_number_128 rfl (lv_at hl 0 rfl) ?_
  refine va_get (D := (dC, dI)) (ci := 11) (v := .ref hg) (C := RX11) (T := TX11) (N := 31) hx hb hts (fun _ h => List.mem_cons_of_mem _ (inlX11 _ h)) hown hK hP 0 rfl rfl 0 (by decide) (hts (.fieldLink RX11 7 "LoanServicingModel" "g" "[I") (List.mem_cons_of_mem _ (wl_5 (List.mem_of_getElem? (i := 8) rfl)))) (fun _ h9 => h9) rfl dX11_number_129 ?_
  refine q_bipush (z := 13) hx hb dX11_number_132 (by decide) ?_
  refine q_iald (z := 0) hx hb hK hP 1 0 rfl rfl (by omega) (by decide) dX11_number_134 ?_
  refine q_if_le (tgt := 152) hx hb dX11_number_135 (by decide) (by omega) (fun _ => ?_) (fun q => absurd q (by omega))
  refine q_iconst hx hb dX11_number_152 ?_
  rw [hQ]
  refine W.widen (k := 0) (n := 0) (Nat.le_of_ble_eq_true rfl) (Nat.le_of_ble_eq_true rfl) ?_
  exact W.iret (v := (iI (-1))) hx hb hr (fun t ht hW => ⟨⟨(iI (-1)), (), rfl, rfl, by rw [ht]; exact hP.sub [0] rfl, by rw [hAe]; exact hD.sub [0] (by decide) rfl⟩, hS.F ht⟩) hS.2.2 dX11_number_153
set_option maxHeartbeats 4000000 in
set_option maxRecDepth 100000 in
/-- the reference: number(7) -/
theorem c_X11_number_7 (l : Launch) (dC : Nat → ClassId) (dI : Nat → Nat → Nat) (k : Nat → ClassId) (h0 hg hk hp hpu hs hpl hpd htx htd hrw hrl hir : Nat) (sz : Nat) : Met l yX11_number woX11_number ({ frames := 1, cells := 0, slots := 0, locals := 22 } : Room) (PcW (dC, dI) k [.ref h0, .int (iI 7)] [(h0, .inr (11, [.ref hg, .long (lI 0), .ref hk, .long (lI 0), .int (iI 0), .ref hp, .ref hpu, .int (iI 0), .ref hs, .long (lI 0), .int (iI 0), .int (iI 0), .int (iI 0), .int (iI 0), .int (iI 0), .long (lI 0), .ref hpl, .int (iI 0), .ref hpd, .int (iI 0), .ref htx, .int (iI 0), .int (iI 0), .int (iI (-1)), .int (iI (-1)), .int (iI 0), .ref htd, .int (iI 0), .ref hrw, .ref hrl, .ref hir])), (hg, .inl (k 0, 1460, .inl (aI g0F)))] sz) (va_Qi (fun (r : Int32) (_ : Unit) => r = iI 0) (QB (dC, dI) [(h0, .inr (11, [.ref hg, .long (lI 0), .ref hk, .long (lI 0), .int (iI 0), .ref hp, .ref hpu, .int (iI 0), .ref hs, .long (lI 0), .int (iI 0), .int (iI 0), .int (iI 0), .int (iI 0), .int (iI 0), .long (lI 0), .ref hpl, .int (iI 0), .ref hpd, .int (iI 0), .ref htx, .int (iI 0), .int (iI 0), .int (iI (-1)), .int (iI (-1)), .int (iI 0), .ref htd, .int (iI 0), .ref hrw, .ref hrl, .ref hir])), (hg, .inl (k 0, 1460, .inl (aI g0F)))] (fun _ => [(h0, .inr (11, [.ref hg, .long (lI 0), .ref hk, .long (lI 0), .int (iI 0), .ref hp, .ref hpu, .int (iI 0), .ref hs, .long (lI 0), .int (iI 0), .int (iI 0), .int (iI 0), .int (iI 0), .int (iI 0), .long (lI 0), .ref hpl, .int (iI 0), .ref hpd, .int (iI 0), .ref htx, .int (iI 0), .int (iI 0), .int (iI (-1)), .int (iI (-1)), .int (iI 0), .ref htd, .int (iI 0), .ref hrw, .ref hrl, .ref hir]))]) sz) (va_A [(h0, .inr (11, [.ref hg, .long (lI 0), .ref hk, .long (lI 0), .int (iI 0), .ref hp, .ref hpu, .int (iI 0), .ref hs, .long (lI 0), .int (iI 0), .int (iI 0), .int (iI 0), .int (iI 0), .int (iI 0), .long (lI 0), .ref hpl, .int (iI 0), .ref hpd, .int (iI 0), .ref htx, .int (iI 0), .int (iI 0), .int (iI (-1)), .int (iI (-1)), .int (iI 0), .ref htd, .int (iI 0), .ref hrw, .ref hrl, .ref hir])), (hg, .inl (k 0, 1460, .inl (aI g0F)))] sz)) 0 0 (va_A [(h0, .inr (11, [.ref hg, .long (lI 0), .ref hk, .long (lI 0), .int (iI 0), .ref hp, .ref hpu, .int (iI 0), .ref hs, .long (lI 0), .int (iI 0), .int (iI 0), .int (iI 0), .int (iI 0), .int (iI 0), .long (lI 0), .ref hpl, .int (iI 0), .ref hpd, .int (iI 0), .ref htx, .int (iI 0), .int (iI 0), .int (iI (-1)), .int (iI (-1)), .int (iI 0), .ref htd, .int (iI 0), .ref hrw, .ref hrl, .ref hir])), (hg, .inl (k 0, 1460, .inl (aI g0F)))] sz) := by
  refine Met.ofW (cc := cX11_number) (maxL := 2) (ret := (some .int)) (by decide) rfl ?_
  intro p e s mI args below meth cO s₁ B hml hv
  obtain ⟨rfl, rfl, hP, hD0, hE⟩ := hv
  have hx := B.exec
  have hb := B.bytes
  have hr := B.returns
  have hts := atoms_spec (ws := woX11_number) B.pre
  have hown : s.vm.findClass RX11 = some mI.cls := findClass_of_methodNamed B.named
  have hlocks := B.notSynchronized
  have hD := hD0.self (sz := s.heap.size)
  generalize hAe : va_A [(h0, .inr (11, [.ref hg, .long (lI 0), .ref hk, .long (lI 0), .int (iI 0), .ref hp, .ref hpu, .int (iI 0), .ref hs, .long (lI 0), .int (iI 0), .int (iI 0), .int (iI 0), .int (iI 0), .int (iI 0), .long (lI 0), .ref hpl, .int (iI 0), .ref hpd, .int (iI 0), .ref htx, .int (iI 0), .int (iI 0), .int (iI (-1)), .int (iI (-1)), .int (iI 0), .ref htd, .int (iI 0), .ref hrw, .ref hrl, .ref hir])), (hg, .inl (k 0, 1460, .inl (aI g0F)))] s.heap.size = A at hD hE ⊢
  have hA : ∀ q : Nat, s.heap.size ≤ q → A q := fun q h => by rw [← hAe]; exact Or.inr h
  have hS : va_S A s.heap s.heap [] := va_S.rf
  obtain ⟨hK, hNw, hNc, hZs, hAO1, hAO2⟩ := id hE
  have hSF : CallFix p mI cO cX11_number 2 s ([.ref h0, .int (iI 7)] : List Value).toArray woX11_number RX11 := ⟨hx, hb, hml, hown, hts⟩
  have hl := lv_entry ([.ref h0, .int (iI 7)] : List Value) (n := 2) (Nat.le_of_ble_eq_true rfl)
  rw [lg_entry_eq]
  generalize (lg_sl ([.ref h0, .int (iI 7)] : List Value) ++ List.replicate (2 - (lg_sl ([.ref h0, .int (iI 7)] : List Value)).length) Slot.unset).toArray = ls at hl ⊢
  have hl : lv_has ls 2 [(0, .ref h0), (1, .int (iI 7))] := hl
  refine W_gen (fun Q hQ => ?_)
  change W p l e ({ frames := 1, cells := 0, slots := 0, locals := 22 } : Room) s mI _ below meth cO s.heap [] 0 0 Q _
  have hP : va_P (dC, dI) vwCl [(h0, .inr (11, [.ref hg, .long (lI 0), .ref hk, .long (lI 0), .int (iI 0), .ref hp, .ref hpu, .int (iI 0), .ref hs, .long (lI 0), .int (iI 0), .int (iI 0), .int (iI 0), .int (iI 0), .int (iI 0), .long (lI 0), .ref hpl, .int (iI 0), .ref hpd, .int (iI 0), .ref htx, .int (iI 0), .int (iI 0), .int (iI (-1)), .int (iI (-1)), .int (iI 0), .ref htd, .int (iI 0), .ref hrw, .ref hrl, .ref hir])), (hg, .inl (k 0, 1460, .inl (aI g0F)))] s.heap := hP
  refine lv_aload_n hx hb dX11_number_0 rfl (lv_at hl 0 rfl) ?_
  refine q_iconst hx hb dX11_number_1 ?_
  refine va_put (D := (dC, dI)) (ci := 11) (v := .int (iI 0)) (ty := .int) (C := RX11) (T := TX11) (N := 31) hx hb hts (fun _ h => List.mem_cons_of_mem _ (inlX11 _ h)) tyX11 tyX11_ok nmX11 hown hK hP hD hS 0 rfl rfl 11 (by decide) (hts (.fieldLink RX11 56 "LoanServicingModel" "thrown" "I") (List.mem_cons_of_mem _ (wl_13 (List.mem_of_getElem? (i := 12) rfl)))) (fun _ h9 => h9) rfl (by decide +kernel) rfl rfl (Nat.le_of_ble_eq_true rfl) dX11_number_2 (fun H locs hP hD hS => ?_)
  have hP : va_P (dC, dI) vwCl [(h0, .inr (11, [.ref hg, .long (lI 0), .ref hk, .long (lI 0), .int (iI 0), .ref hp, .ref hpu, .int (iI 0), .ref hs, .long (lI 0), .int (iI 0), .int (iI 0), .int (iI 0), .int (iI 0), .int (iI 0), .long (lI 0), .ref hpl, .int (iI 0), .ref hpd, .int (iI 0), .ref htx, .int (iI 0), .int (iI 0), .int (iI (-1)), .int (iI (-1)), .int (iI 0), .ref htd, .int (iI 0), .ref hrw, .ref hrl, .ref hir])), (hg, .inl (k 0, 1460, .inl (aI g0F)))] H := hP
  have hD : va_D A [(h0, .inr (11, [.ref hg, .long (lI 0), .ref hk, .long (lI 0), .int (iI 0), .ref hp, .ref hpu, .int (iI 0), .ref hs, .long (lI 0), .int (iI 0), .int (iI 0), .int (iI 0), .int (iI 0), .int (iI 0), .long (lI 0), .ref hpl, .int (iI 0), .ref hpd, .int (iI 0), .ref htx, .int (iI 0), .int (iI 0), .int (iI (-1)), .int (iI (-1)), .int (iI 0), .ref htd, .int (iI 0), .ref hrw, .ref hrl, .ref hir])), (hg, .inl (k 0, 1460, .inl (aI g0F)))] := hD
  refine lv_iload_n hx hb dX11_number_5 rfl (lv_at hl 1 rfl) ?_
  refine lv_tableIn (off := 148) (tgt := 154) hx hb dX11_number_6 (by rw [iI_toInt ⟨by omega, by omega⟩]; omega) (by rw [iI_toInt ⟨by omega, by omega⟩]; omega) (by rw [iI_toInt ⟨by omega, by omega⟩]; rfl) (by decide) ?_
  refine lv_aload_n hx hb dX11_number_154 rfl (lv_at hl 0 rfl) ?_
  refine ki (va_runV (As := []) (rest := []) hSF ((c_X11_unpaid l dC dI k h0 hg hk hp hpu hs hpl hpd htx htd hrw hrl hir) H.size) (cwV 0 hts gX11_number_X11_unpaid rfl rfl rfl (by decide +kernel) ⟨Nat.le_of_ble_eq_true rfl, Nat.le_of_ble_eq_true rfl⟩) (preV hP hD hE hS hA [0, 1] rfl (by decide) (ci := 11) (q0 := 0) rfl rfl) rfl rfl hl.1 rfl (lv_room (Nat.le_of_ble_eq_true rfl)) dX11_number_155 ⟨Nat.le_of_ble_eq_true rfl, Nat.le_of_ble_eq_true rfl⟩) hP hD hS hA [0, 1] [] rfl (wr := []) rfl (by decide) (by decide) (fun r155 _ H locs hw hP hD hS => ?_)
  obtain rfl : r155 = (iI 0) := hw
  have hP : va_P (dC, dI) vwCl [(h0, .inr (11, [.ref hg, .long (lI 0), .ref hk, .long (lI 0), .int (iI 0), .ref hp, .ref hpu, .int (iI 0), .ref hs, .long (lI 0), .int (iI 0), .int (iI 0), .int (iI 0), .int (iI 0), .int (iI 0), .long (lI 0), .ref hpl, .int (iI 0), .ref hpd, .int (iI 0), .ref htx, .int (iI 0), .int (iI 0), .int (iI (-1)), .int (iI (-1)), .int (iI 0), .ref htd, .int (iI 0), .ref hrw, .ref hrl, .ref hir]))] H := hP
  have hD : va_D A [(h0, .inr (11, [.ref hg, .long (lI 0), .ref hk, .long (lI 0), .int (iI 0), .ref hp, .ref hpu, .int (iI 0), .ref hs, .long (lI 0), .int (iI 0), .int (iI 0), .int (iI 0), .int (iI 0), .int (iI 0), .long (lI 0), .ref hpl, .int (iI 0), .ref hpd, .int (iI 0), .ref htx, .int (iI 0), .int (iI 0), .int (iI (-1)), .int (iI (-1)), .int (iI 0), .ref htd, .int (iI 0), .ref hrw, .ref hrl, .ref hir]))] := hD
  rw [hQ]
  refine W.widen (k := 0) (n := 0) (Nat.le_of_ble_eq_true rfl) (Nat.le_of_ble_eq_true rfl) ?_
  exact W.iret (v := (iI 0)) hx hb hr (fun t ht hW => ⟨⟨(iI 0), (), rfl, rfl, by rw [ht]; exact hP.sub [0] rfl, by rw [hAe]; exact hD.sub [0] (by decide) rfl⟩, hS.F ht⟩) hS.2.2 dX11_number_158
set_option maxHeartbeats 4000000 in
set_option maxRecDepth 100000 in
/-- the reference: number(8) -/
theorem c_X11_number_8 (l : Launch) (dC : Nat → ClassId) (dI : Nat → Nat → Nat) (k : Nat → ClassId) (h0 hg hk hp hpu hs hpl hpd htx htd hrw hrl hir : Nat) (sz : Nat) : Met l yX11_number woX11_number ({ frames := 1, cells := 0, slots := 0, locals := 23 } : Room) (PcW (dC, dI) k [.ref h0, .int (iI 8)] [(h0, .inr (11, [.ref hg, .long (lI 0), .ref hk, .long (lI 0), .int (iI 0), .ref hp, .ref hpu, .int (iI 0), .ref hs, .long (lI 0), .int (iI 0), .int (iI 0), .int (iI 0), .int (iI 0), .int (iI 0), .long (lI 0), .ref hpl, .int (iI 0), .ref hpd, .int (iI 0), .ref htx, .int (iI 0), .int (iI 0), .int (iI (-1)), .int (iI (-1)), .int (iI 0), .ref htd, .int (iI 0), .ref hrw, .ref hrl, .ref hir])), (hg, .inl (k 0, 1460, .inl (aI g0F)))] sz) (va_Qi (fun (r : Int32) (_ : Unit) => r = iI 0) (QB (dC, dI) [(h0, .inr (11, [.ref hg, .long (lI 0), .ref hk, .long (lI 0), .int (iI 0), .ref hp, .ref hpu, .int (iI 0), .ref hs, .long (lI 0), .int (iI 0), .int (iI 0), .int (iI 0), .int (iI 0), .int (iI 0), .long (lI 0), .ref hpl, .int (iI 0), .ref hpd, .int (iI 0), .ref htx, .int (iI 0), .int (iI 0), .int (iI (-1)), .int (iI (-1)), .int (iI 0), .ref htd, .int (iI 0), .ref hrw, .ref hrl, .ref hir])), (hg, .inl (k 0, 1460, .inl (aI g0F)))] (fun _ => [(h0, .inr (11, [.ref hg, .long (lI 0), .ref hk, .long (lI 0), .int (iI 0), .ref hp, .ref hpu, .int (iI 0), .ref hs, .long (lI 0), .int (iI 0), .int (iI 0), .int (iI 0), .int (iI 0), .int (iI 0), .long (lI 0), .ref hpl, .int (iI 0), .ref hpd, .int (iI 0), .ref htx, .int (iI 0), .int (iI 0), .int (iI (-1)), .int (iI (-1)), .int (iI 0), .ref htd, .int (iI 0), .ref hrw, .ref hrl, .ref hir]))]) sz) (va_A [(h0, .inr (11, [.ref hg, .long (lI 0), .ref hk, .long (lI 0), .int (iI 0), .ref hp, .ref hpu, .int (iI 0), .ref hs, .long (lI 0), .int (iI 0), .int (iI 0), .int (iI 0), .int (iI 0), .int (iI 0), .long (lI 0), .ref hpl, .int (iI 0), .ref hpd, .int (iI 0), .ref htx, .int (iI 0), .int (iI 0), .int (iI (-1)), .int (iI (-1)), .int (iI 0), .ref htd, .int (iI 0), .ref hrw, .ref hrl, .ref hir])), (hg, .inl (k 0, 1460, .inl (aI g0F)))] sz)) 0 0 (va_A [(h0, .inr (11, [.ref hg, .long (lI 0), .ref hk, .long (lI 0), .int (iI 0), .ref hp, .ref hpu, .int (iI 0), .ref hs, .long (lI 0), .int (iI 0), .int (iI 0), .int (iI 0), .int (iI 0), .int (iI 0), .long (lI 0), .ref hpl, .int (iI 0), .ref hpd, .int (iI 0), .ref htx, .int (iI 0), .int (iI 0), .int (iI (-1)), .int (iI (-1)), .int (iI 0), .ref htd, .int (iI 0), .ref hrw, .ref hrl, .ref hir])), (hg, .inl (k 0, 1460, .inl (aI g0F)))] sz) := by
  refine Met.ofW (cc := cX11_number) (maxL := 2) (ret := (some .int)) (by decide) rfl ?_
  intro p e s mI args below meth cO s₁ B hml hv
  obtain ⟨rfl, rfl, hP, hD0, hE⟩ := hv
  have hx := B.exec
  have hb := B.bytes
  have hr := B.returns
  have hts := atoms_spec (ws := woX11_number) B.pre
  have hown : s.vm.findClass RX11 = some mI.cls := findClass_of_methodNamed B.named
  have hlocks := B.notSynchronized
  have hD := hD0.self (sz := s.heap.size)
  generalize hAe : va_A [(h0, .inr (11, [.ref hg, .long (lI 0), .ref hk, .long (lI 0), .int (iI 0), .ref hp, .ref hpu, .int (iI 0), .ref hs, .long (lI 0), .int (iI 0), .int (iI 0), .int (iI 0), .int (iI 0), .int (iI 0), .long (lI 0), .ref hpl, .int (iI 0), .ref hpd, .int (iI 0), .ref htx, .int (iI 0), .int (iI 0), .int (iI (-1)), .int (iI (-1)), .int (iI 0), .ref htd, .int (iI 0), .ref hrw, .ref hrl, .ref hir])), (hg, .inl (k 0, 1460, .inl (aI g0F)))] s.heap.size = A at hD hE ⊢
  have hA : ∀ q : Nat, s.heap.size ≤ q → A q := fun q h => by rw [← hAe]; exact Or.inr h
  have hS : va_S A s.heap s.heap [] := va_S.rf
  obtain ⟨hK, hNw, hNc, hZs, hAO1, hAO2⟩ := id hE
  have hSF : CallFix p mI cO cX11_number 2 s ([.ref h0, .int (iI 8)] : List Value).toArray woX11_number RX11 := ⟨hx, hb, hml, hown, hts⟩
  have hl := lv_entry ([.ref h0, .int (iI 8)] : List Value) (n := 2) (Nat.le_of_ble_eq_true rfl)
  rw [lg_entry_eq]
  generalize (lg_sl ([.ref h0, .int (iI 8)] : List Value) ++ List.replicate (2 - (lg_sl ([.ref h0, .int (iI 8)] : List Value)).length) Slot.unset).toArray = ls at hl ⊢
  have hl : lv_has ls 2 [(0, .ref h0), (1, .int (iI 8))] := hl
  refine W_gen (fun Q hQ => ?_)
  change W p l e ({ frames := 1, cells := 0, slots := 0, locals := 23 } : Room) s mI _ below meth cO s.heap [] 0 0 Q _
  have hP : va_P (dC, dI) vwCl [(h0, .inr (11, [.ref hg, .long (lI 0), .ref hk, .long (lI 0), .int (iI 0), .ref hp, .ref hpu, .int (iI 0), .ref hs, .long (lI 0), .int (iI 0), .int (iI 0), .int (iI 0), .int (iI 0), .int (iI 0), .long (lI 0), .ref hpl, .int (iI 0), .ref hpd, .int (iI 0), .ref htx, .int (iI 0), .int (iI 0), .int (iI (-1)), .int (iI (-1)), .int (iI 0), .ref htd, .int (iI 0), .ref hrw, .ref hrl, .ref hir])), (hg, .inl (k 0, 1460, .inl (aI g0F)))] s.heap := hP
  refine lv_aload_n hx hb dX11_number_0 rfl (lv_at hl 0 rfl) ?_
  refine q_iconst hx hb dX11_number_1 ?_
  refine va_put (D := (dC, dI)) (ci := 11) (v := .int (iI 0)) (ty := .int) (C := RX11) (T := TX11) (N := 31) hx hb hts (fun _ h => List.mem_cons_of_mem _ (inlX11 _ h)) tyX11 tyX11_ok nmX11 hown hK hP hD hS 0 rfl rfl 11 (by decide) (hts (.fieldLink RX11 56 "LoanServicingModel" "thrown" "I") (List.mem_cons_of_mem _ (wl_13 (List.mem_of_getElem? (i := 12) rfl)))) (fun _ h9 => h9) rfl (by decide +kernel) rfl rfl (Nat.le_of_ble_eq_true rfl) dX11_number_2 (fun H locs hP hD hS => ?_)
  have hP : va_P (dC, dI) vwCl [(h0, .inr (11, [.ref hg, .long (lI 0), .ref hk, .long (lI 0), .int (iI 0), .ref hp, .ref hpu, .int (iI 0), .ref hs, .long (lI 0), .int (iI 0), .int (iI 0), .int (iI 0), .int (iI 0), .int (iI 0), .long (lI 0), .ref hpl, .int (iI 0), .ref hpd, .int (iI 0), .ref htx, .int (iI 0), .int (iI 0), .int (iI (-1)), .int (iI (-1)), .int (iI 0), .ref htd, .int (iI 0), .ref hrw, .ref hrl, .ref hir])), (hg, .inl (k 0, 1460, .inl (aI g0F)))] H := hP
  have hD : va_D A [(h0, .inr (11, [.ref hg, .long (lI 0), .ref hk, .long (lI 0), .int (iI 0), .ref hp, .ref hpu, .int (iI 0), .ref hs, .long (lI 0), .int (iI 0), .int (iI 0), .int (iI 0), .int (iI 0), .int (iI 0), .long (lI 0), .ref hpl, .int (iI 0), .ref hpd, .int (iI 0), .ref htx, .int (iI 0), .int (iI 0), .int (iI (-1)), .int (iI (-1)), .int (iI 0), .ref htd, .int (iI 0), .ref hrw, .ref hrl, .ref hir])), (hg, .inl (k 0, 1460, .inl (aI g0F)))] := hD
  refine lv_iload_n hx hb dX11_number_5 rfl (lv_at hl 1 rfl) ?_
  refine lv_tableIn (off := 153) (tgt := 159) hx hb dX11_number_6 (by rw [iI_toInt ⟨by omega, by omega⟩]; omega) (by rw [iI_toInt ⟨by omega, by omega⟩]; omega) (by rw [iI_toInt ⟨by omega, by omega⟩]; rfl) (by decide) ?_
  refine lv_aload_n hx hb dX11_number_159 rfl (lv_at hl 0 rfl) ?_
  refine q_iconst hx hb dX11_number_160 ?_
  refine ki (va_runV (As := [.int (iI 0)]) (rest := []) hSF ((c_X11_openBills l dC dI k h0 hg hk hp hpu hs hpl hpd htx htd hrw hrl hir 0) H.size) (cwV 1 hts gX11_number_X11_openBills rfl rfl rfl (by decide +kernel) ⟨Nat.le_of_ble_eq_true rfl, Nat.le_of_ble_eq_true rfl⟩) (preV hP hD hE hS hA [0, 1] rfl (by decide) (ci := 11) (q0 := 0) rfl rfl) rfl rfl hl.1 rfl (lv_room (Nat.le_of_ble_eq_true rfl)) dX11_number_161 ⟨Nat.le_of_ble_eq_true rfl, Nat.le_of_ble_eq_true rfl⟩) hP hD hS hA [0, 1] [] rfl (wr := []) rfl (by decide) (by decide) (fun r161 _ H locs hw hP hD hS => ?_)
  obtain rfl : r161 = (iI 0) := hw
  have hP : va_P (dC, dI) vwCl [(h0, .inr (11, [.ref hg, .long (lI 0), .ref hk, .long (lI 0), .int (iI 0), .ref hp, .ref hpu, .int (iI 0), .ref hs, .long (lI 0), .int (iI 0), .int (iI 0), .int (iI 0), .int (iI 0), .int (iI 0), .long (lI 0), .ref hpl, .int (iI 0), .ref hpd, .int (iI 0), .ref htx, .int (iI 0), .int (iI 0), .int (iI (-1)), .int (iI (-1)), .int (iI 0), .ref htd, .int (iI 0), .ref hrw, .ref hrl, .ref hir]))] H := hP
  have hD : va_D A [(h0, .inr (11, [.ref hg, .long (lI 0), .ref hk, .long (lI 0), .int (iI 0), .ref hp, .ref hpu, .int (iI 0), .ref hs, .long (lI 0), .int (iI 0), .int (iI 0), .int (iI 0), .int (iI 0), .int (iI 0), .long (lI 0), .ref hpl, .int (iI 0), .ref hpd, .int (iI 0), .ref htx, .int (iI 0), .int (iI 0), .int (iI (-1)), .int (iI (-1)), .int (iI 0), .ref htd, .int (iI 0), .ref hrw, .ref hrl, .ref hir]))] := hD
  rw [hQ]
  refine W.widen (k := 0) (n := 0) (Nat.le_of_ble_eq_true rfl) (Nat.le_of_ble_eq_true rfl) ?_
  exact W.iret (v := (iI 0)) hx hb hr (fun t ht hW => ⟨⟨(iI 0), (), rfl, rfl, by rw [ht]; exact hP.sub [0] rfl, by rw [hAe]; exact hD.sub [0] (by decide) rfl⟩, hS.F ht⟩) hS.2.2 dX11_number_164
set_option maxHeartbeats 4000000 in
set_option maxRecDepth 100000 in
/-- the reference: number(9) -/
theorem c_X11_number_9 (l : Launch) (dC : Nat → ClassId) (dI : Nat → Nat → Nat) (k : Nat → ClassId) (h0 hg hk hp hpu hs hpl hpd htx htd hrw hrl hir : Nat) (sz : Nat) : Met l yX11_number woX11_number ({ frames := 0, cells := 0, slots := 0, locals := 0 } : Room) (PcW (dC, dI) k [.ref h0, .int (iI 9)] [(h0, .inr (11, [.ref hg, .long (lI 0), .ref hk, .long (lI 0), .int (iI 0), .ref hp, .ref hpu, .int (iI 0), .ref hs, .long (lI 0), .int (iI 0), .int (iI 0), .int (iI 0), .int (iI 0), .int (iI 0), .long (lI 0), .ref hpl, .int (iI 0), .ref hpd, .int (iI 0), .ref htx, .int (iI 0), .int (iI 0), .int (iI (-1)), .int (iI (-1)), .int (iI 0), .ref htd, .int (iI 0), .ref hrw, .ref hrl, .ref hir])), (hg, .inl (k 0, 1460, .inl (aI g0F)))] sz) (va_Qi (fun (r : Int32) (_ : Unit) => r = iI 0) (QB (dC, dI) [(h0, .inr (11, [.ref hg, .long (lI 0), .ref hk, .long (lI 0), .int (iI 0), .ref hp, .ref hpu, .int (iI 0), .ref hs, .long (lI 0), .int (iI 0), .int (iI 0), .int (iI 0), .int (iI 0), .int (iI 0), .long (lI 0), .ref hpl, .int (iI 0), .ref hpd, .int (iI 0), .ref htx, .int (iI 0), .int (iI 0), .int (iI (-1)), .int (iI (-1)), .int (iI 0), .ref htd, .int (iI 0), .ref hrw, .ref hrl, .ref hir])), (hg, .inl (k 0, 1460, .inl (aI g0F)))] (fun _ => [(h0, .inr (11, [.ref hg, .long (lI 0), .ref hk, .long (lI 0), .int (iI 0), .ref hp, .ref hpu, .int (iI 0), .ref hs, .long (lI 0), .int (iI 0), .int (iI 0), .int (iI 0), .int (iI 0), .int (iI 0), .long (lI 0), .ref hpl, .int (iI 0), .ref hpd, .int (iI 0), .ref htx, .int (iI 0), .int (iI 0), .int (iI (-1)), .int (iI (-1)), .int (iI 0), .ref htd, .int (iI 0), .ref hrw, .ref hrl, .ref hir]))]) sz) (va_A [(h0, .inr (11, [.ref hg, .long (lI 0), .ref hk, .long (lI 0), .int (iI 0), .ref hp, .ref hpu, .int (iI 0), .ref hs, .long (lI 0), .int (iI 0), .int (iI 0), .int (iI 0), .int (iI 0), .int (iI 0), .long (lI 0), .ref hpl, .int (iI 0), .ref hpd, .int (iI 0), .ref htx, .int (iI 0), .int (iI 0), .int (iI (-1)), .int (iI (-1)), .int (iI 0), .ref htd, .int (iI 0), .ref hrw, .ref hrl, .ref hir])), (hg, .inl (k 0, 1460, .inl (aI g0F)))] sz)) 0 0 (va_A [(h0, .inr (11, [.ref hg, .long (lI 0), .ref hk, .long (lI 0), .int (iI 0), .ref hp, .ref hpu, .int (iI 0), .ref hs, .long (lI 0), .int (iI 0), .int (iI 0), .int (iI 0), .int (iI 0), .int (iI 0), .long (lI 0), .ref hpl, .int (iI 0), .ref hpd, .int (iI 0), .ref htx, .int (iI 0), .int (iI 0), .int (iI (-1)), .int (iI (-1)), .int (iI 0), .ref htd, .int (iI 0), .ref hrw, .ref hrl, .ref hir])), (hg, .inl (k 0, 1460, .inl (aI g0F)))] sz) := by
  refine Met.ofW (cc := cX11_number) (maxL := 2) (ret := (some .int)) (by decide) rfl ?_
  intro p e s mI args below meth cO s₁ B hml hv
  obtain ⟨rfl, rfl, hP, hD0, hE⟩ := hv
  have hx := B.exec
  have hb := B.bytes
  have hr := B.returns
  have hts := atoms_spec (ws := woX11_number) B.pre
  have hown : s.vm.findClass RX11 = some mI.cls := findClass_of_methodNamed B.named
  have hlocks := B.notSynchronized
  have hD := hD0.self (sz := s.heap.size)
  generalize hAe : va_A [(h0, .inr (11, [.ref hg, .long (lI 0), .ref hk, .long (lI 0), .int (iI 0), .ref hp, .ref hpu, .int (iI 0), .ref hs, .long (lI 0), .int (iI 0), .int (iI 0), .int (iI 0), .int (iI 0), .int (iI 0), .long (lI 0), .ref hpl, .int (iI 0), .ref hpd, .int (iI 0), .ref htx, .int (iI 0), .int (iI 0), .int (iI (-1)), .int (iI (-1)), .int (iI 0), .ref htd, .int (iI 0), .ref hrw, .ref hrl, .ref hir])), (hg, .inl (k 0, 1460, .inl (aI g0F)))] s.heap.size = A at hD hE ⊢
  have hA : ∀ q : Nat, s.heap.size ≤ q → A q := fun q h => by rw [← hAe]; exact Or.inr h
  have hS : va_S A s.heap s.heap [] := va_S.rf
  obtain ⟨hK, hNw, hNc, hZs, hAO1, hAO2⟩ := id hE
  have hSF : CallFix p mI cO cX11_number 2 s ([.ref h0, .int (iI 9)] : List Value).toArray woX11_number RX11 := ⟨hx, hb, hml, hown, hts⟩
  have hl := lv_entry ([.ref h0, .int (iI 9)] : List Value) (n := 2) (Nat.le_of_ble_eq_true rfl)
  rw [lg_entry_eq]
  generalize (lg_sl ([.ref h0, .int (iI 9)] : List Value) ++ List.replicate (2 - (lg_sl ([.ref h0, .int (iI 9)] : List Value)).length) Slot.unset).toArray = ls at hl ⊢
  have hl : lv_has ls 2 [(0, .ref h0), (1, .int (iI 9))] := hl
  refine W_gen (fun Q hQ => ?_)
  change W p l e ({ frames := 0, cells := 0, slots := 0, locals := 0 } : Room) s mI _ below meth cO s.heap [] 0 0 Q _
  have hP : va_P (dC, dI) vwCl [(h0, .inr (11, [.ref hg, .long (lI 0), .ref hk, .long (lI 0), .int (iI 0), .ref hp, .ref hpu, .int (iI 0), .ref hs, .long (lI 0), .int (iI 0), .int (iI 0), .int (iI 0), .int (iI 0), .int (iI 0), .long (lI 0), .ref hpl, .int (iI 0), .ref hpd, .int (iI 0), .ref htx, .int (iI 0), .int (iI 0), .int (iI (-1)), .int (iI (-1)), .int (iI 0), .ref htd, .int (iI 0), .ref hrw, .ref hrl, .ref hir])), (hg, .inl (k 0, 1460, .inl (aI g0F)))] s.heap := hP
  refine lv_aload_n hx hb dX11_number_0 rfl (lv_at hl 0 rfl) ?_
  refine q_iconst hx hb dX11_number_1 ?_
  refine va_put (D := (dC, dI)) (ci := 11) (v := .int (iI 0)) (ty := .int) (C := RX11) (T := TX11) (N := 31) hx hb hts (fun _ h => List.mem_cons_of_mem _ (inlX11 _ h)) tyX11 tyX11_ok nmX11 hown hK hP hD hS 0 rfl rfl 11 (by decide) (hts (.fieldLink RX11 56 "LoanServicingModel" "thrown" "I") (List.mem_cons_of_mem _ (wl_13 (List.mem_of_getElem? (i := 12) rfl)))) (fun _ h9 => h9) rfl (by decide +kernel) rfl rfl (Nat.le_of_ble_eq_true rfl) dX11_number_2 (fun H locs hP hD hS => ?_)
  have hP : va_P (dC, dI) vwCl [(h0, .inr (11, [.ref hg, .long (lI 0), .ref hk, .long (lI 0), .int (iI 0), .ref hp, .ref hpu, .int (iI 0), .ref hs, .long (lI 0), .int (iI 0), .int (iI 0), .int (iI 0), .int (iI 0), .int (iI 0), .long (lI 0), .ref hpl, .int (iI 0), .ref hpd, .int (iI 0), .ref htx, .int (iI 0), .int (iI 0), .int (iI (-1)), .int (iI (-1)), .int (iI 0), .ref htd, .int (iI 0), .ref hrw, .ref hrl, .ref hir])), (hg, .inl (k 0, 1460, .inl (aI g0F)))] H := hP
  have hD : va_D A [(h0, .inr (11, [.ref hg, .long (lI 0), .ref hk, .long (lI 0), .int (iI 0), .ref hp, .ref hpu, .int (iI 0), .ref hs, .long (lI 0), .int (iI 0), .int (iI 0), .int (iI 0), .int (iI 0), .int (iI 0), .long (lI 0), .ref hpl, .int (iI 0), .ref hpd, .int (iI 0), .ref htx, .int (iI 0), .int (iI 0), .int (iI (-1)), .int (iI (-1)), .int (iI 0), .ref htd, .int (iI 0), .ref hrw, .ref hrl, .ref hir])), (hg, .inl (k 0, 1460, .inl (aI g0F)))] := hD
  refine lv_iload_n hx hb dX11_number_5 rfl (lv_at hl 1 rfl) ?_
  refine lv_tableIn (off := 159) (tgt := 165) hx hb dX11_number_6 (by rw [iI_toInt ⟨by omega, by omega⟩]; omega) (by rw [iI_toInt ⟨by omega, by omega⟩]; omega) (by rw [iI_toInt ⟨by omega, by omega⟩]; rfl) (by decide) ?_
  refine lv_aload_n hx hb dX11_number_165 rfl (lv_at hl 0 rfl) ?_
  refine va_get (D := (dC, dI)) (ci := 11) (v := .ref hg) (C := RX11) (T := TX11) (N := 31) hx hb hts (fun _ h => List.mem_cons_of_mem _ (inlX11 _ h)) hown hK hP 0 rfl rfl 0 (by decide) (hts (.fieldLink RX11 7 "LoanServicingModel" "g" "[I") (List.mem_cons_of_mem _ (wl_5 (List.mem_of_getElem? (i := 8) rfl)))) (fun _ h9 => h9) rfl dX11_number_166 ?_
  refine q_bipush (z := 10) hx hb dX11_number_169 (by decide) ?_
  refine q_iald (z := 0) hx hb hK hP 1 0 rfl rfl (by omega) (by decide) dX11_number_171 ?_
  rw [hQ]
  refine W.widen (k := 0) (n := 0) (Nat.le_of_ble_eq_true rfl) (Nat.le_of_ble_eq_true rfl) ?_
  exact W.iret (v := (iI 0)) hx hb hr (fun t ht hW => ⟨⟨(iI 0), (), rfl, rfl, by rw [ht]; exact hP.sub [0] rfl, by rw [hAe]; exact hD.sub [0] (by decide) rfl⟩, hS.F ht⟩) hS.2.2 dX11_number_172
set_option maxHeartbeats 4000000 in
set_option maxRecDepth 100000 in
/-- the reference: number of nothing -/
theorem c_X11_number_x (l : Launch) (dC : Nat → ClassId) (dI : Nat → Nat → Nat) (k : Nat → ClassId) (h0 hg hk hp hpu hs hpl hpd htx htd hrw hrl hir : Nat) (xv : Int) (hv9 : -2147483648 ≤ xv ∧ xv ≤ 2147483647) (hv : ¬ (0 ≤ xv ∧ xv ≤ 9)) (sz : Nat) : Met l yX11_number woX11_number ({ frames := 1, cells := 0, slots := 0, locals := 21 } : Room) (PcW (dC, dI) k [.ref h0, .int (iI xv)] [(h0, .inr (11, [.ref hg, .long (lI 0), .ref hk, .long (lI 0), .int (iI 0), .ref hp, .ref hpu, .int (iI 0), .ref hs, .long (lI 0), .int (iI 0), .int (iI 0), .int (iI 0), .int (iI 0), .int (iI 0), .long (lI 0), .ref hpl, .int (iI 0), .ref hpd, .int (iI 0), .ref htx, .int (iI 0), .int (iI 0), .int (iI (-1)), .int (iI (-1)), .int (iI 0), .ref htd, .int (iI 0), .ref hrw, .ref hrl, .ref hir])), (hg, .inl (k 0, 1460, .inl (aI g0F)))] sz) (va_Qi (fun (r : Int32) (_ : Unit) => r = iI 0) (QB (dC, dI) [(h0, .inr (11, [.ref hg, .long (lI 0), .ref hk, .long (lI 0), .int (iI 0), .ref hp, .ref hpu, .int (iI 0), .ref hs, .long (lI 0), .int (iI 0), .int (iI 0), .int (iI 0), .int (iI 0), .int (iI 0), .long (lI 0), .ref hpl, .int (iI 0), .ref hpd, .int (iI 0), .ref htx, .int (iI 0), .int (iI 0), .int (iI (-1)), .int (iI (-1)), .int (iI 0), .ref htd, .int (iI 0), .ref hrw, .ref hrl, .ref hir])), (hg, .inl (k 0, 1460, .inl (aI g0F)))] (fun _ => [(h0, .inr (11, [.ref hg, .long (lI 0), .ref hk, .long (lI 0), .int (iI 0), .ref hp, .ref hpu, .int (iI 0), .ref hs, .long (lI 0), .int (iI 0), .int (iI 1), .int (iI 0), .int (iI 0), .int (iI 0), .long (lI 0), .ref hpl, .int (iI 0), .ref hpd, .int (iI 0), .ref htx, .int (iI 0), .int (iI 0), .int (iI (-1)), .int (iI (-1)), .int (iI 0), .ref htd, .int (iI 0), .ref hrw, .ref hrl, .ref hir]))]) sz) (va_A [(h0, .inr (11, [.ref hg, .long (lI 0), .ref hk, .long (lI 0), .int (iI 0), .ref hp, .ref hpu, .int (iI 0), .ref hs, .long (lI 0), .int (iI 0), .int (iI 0), .int (iI 0), .int (iI 0), .int (iI 0), .long (lI 0), .ref hpl, .int (iI 0), .ref hpd, .int (iI 0), .ref htx, .int (iI 0), .int (iI 0), .int (iI (-1)), .int (iI (-1)), .int (iI 0), .ref htd, .int (iI 0), .ref hrw, .ref hrl, .ref hir])), (hg, .inl (k 0, 1460, .inl (aI g0F)))] sz)) 0 0 (va_A [(h0, .inr (11, [.ref hg, .long (lI 0), .ref hk, .long (lI 0), .int (iI 0), .ref hp, .ref hpu, .int (iI 0), .ref hs, .long (lI 0), .int (iI 0), .int (iI 0), .int (iI 0), .int (iI 0), .int (iI 0), .long (lI 0), .ref hpl, .int (iI 0), .ref hpd, .int (iI 0), .ref htx, .int (iI 0), .int (iI 0), .int (iI (-1)), .int (iI (-1)), .int (iI 0), .ref htd, .int (iI 0), .ref hrw, .ref hrl, .ref hir])), (hg, .inl (k 0, 1460, .inl (aI g0F)))] sz) := by
  refine Met.ofW (cc := cX11_number) (maxL := 2) (ret := (some .int)) (by decide) rfl ?_
  intro p e s mI args below meth cO s₁ B hml hv
  obtain ⟨rfl, rfl, hP, hD0, hE⟩ := hv
  have hx := B.exec
  have hb := B.bytes
  have hr := B.returns
  have hts := atoms_spec (ws := woX11_number) B.pre
  have hown : s.vm.findClass RX11 = some mI.cls := findClass_of_methodNamed B.named
  have hlocks := B.notSynchronized
  have hD := hD0.self (sz := s.heap.size)
  generalize hAe : va_A [(h0, .inr (11, [.ref hg, .long (lI 0), .ref hk, .long (lI 0), .int (iI 0), .ref hp, .ref hpu, .int (iI 0), .ref hs, .long (lI 0), .int (iI 0), .int (iI 0), .int (iI 0), .int (iI 0), .int (iI 0), .long (lI 0), .ref hpl, .int (iI 0), .ref hpd, .int (iI 0), .ref htx, .int (iI 0), .int (iI 0), .int (iI (-1)), .int (iI (-1)), .int (iI 0), .ref htd, .int (iI 0), .ref hrw, .ref hrl, .ref hir])), (hg, .inl (k 0, 1460, .inl (aI g0F)))] s.heap.size = A at hD hE ⊢
  have hA : ∀ q : Nat, s.heap.size ≤ q → A q := fun q h => by rw [← hAe]; exact Or.inr h
  have hS : va_S A s.heap s.heap [] := va_S.rf
  obtain ⟨hK, hNw, hNc, hZs, hAO1, hAO2⟩ := id hE
  have hSF : CallFix p mI cO cX11_number 2 s ([.ref h0, .int (iI xv)] : List Value).toArray woX11_number RX11 := ⟨hx, hb, hml, hown, hts⟩
  have hl := lv_entry ([.ref h0, .int (iI xv)] : List Value) (n := 2) (Nat.le_of_ble_eq_true rfl)
  rw [lg_entry_eq]
  generalize (lg_sl ([.ref h0, .int (iI xv)] : List Value) ++ List.replicate (2 - (lg_sl ([.ref h0, .int (iI xv)] : List Value)).length) Slot.unset).toArray = ls at hl ⊢
  have hl : lv_has ls 2 [(0, .ref h0), (1, .int (iI xv))] := hl
  refine W_gen (fun Q hQ => ?_)
  change W p l e ({ frames := 1, cells := 0, slots := 0, locals := 21 } : Room) s mI _ below meth cO s.heap [] 0 0 Q _
  have hP : va_P (dC, dI) vwCl [(h0, .inr (11, [.ref hg, .long (lI 0), .ref hk, .long (lI 0), .int (iI 0), .ref hp, .ref hpu, .int (iI 0), .ref hs, .long (lI 0), .int (iI 0), .int (iI 0), .int (iI 0), .int (iI 0), .int (iI 0), .long (lI 0), .ref hpl, .int (iI 0), .ref hpd, .int (iI 0), .ref htx, .int (iI 0), .int (iI 0), .int (iI (-1)), .int (iI (-1)), .int (iI 0), .ref htd, .int (iI 0), .ref hrw, .ref hrl, .ref hir])), (hg, .inl (k 0, 1460, .inl (aI g0F)))] s.heap := hP
  refine lv_aload_n hx hb dX11_number_0 rfl (lv_at hl 0 rfl) ?_
  refine q_iconst hx hb dX11_number_1 ?_
  refine va_put (D := (dC, dI)) (ci := 11) (v := .int (iI 0)) (ty := .int) (C := RX11) (T := TX11) (N := 31) hx hb hts (fun _ h => List.mem_cons_of_mem _ (inlX11 _ h)) tyX11 tyX11_ok nmX11 hown hK hP hD hS 0 rfl rfl 11 (by decide) (hts (.fieldLink RX11 56 "LoanServicingModel" "thrown" "I") (List.mem_cons_of_mem _ (wl_13 (List.mem_of_getElem? (i := 12) rfl)))) (fun _ h9 => h9) rfl (by decide +kernel) rfl rfl (Nat.le_of_ble_eq_true rfl) dX11_number_2 (fun H locs hP hD hS => ?_)
  have hP : va_P (dC, dI) vwCl [(h0, .inr (11, [.ref hg, .long (lI 0), .ref hk, .long (lI 0), .int (iI 0), .ref hp, .ref hpu, .int (iI 0), .ref hs, .long (lI 0), .int (iI 0), .int (iI 0), .int (iI 0), .int (iI 0), .int (iI 0), .long (lI 0), .ref hpl, .int (iI 0), .ref hpd, .int (iI 0), .ref htx, .int (iI 0), .int (iI 0), .int (iI (-1)), .int (iI (-1)), .int (iI 0), .ref htd, .int (iI 0), .ref hrw, .ref hrl, .ref hir])), (hg, .inl (k 0, 1460, .inl (aI g0F)))] H := hP
  have hD : va_D A [(h0, .inr (11, [.ref hg, .long (lI 0), .ref hk, .long (lI 0), .int (iI 0), .ref hp, .ref hpu, .int (iI 0), .ref hs, .long (lI 0), .int (iI 0), .int (iI 0), .int (iI 0), .int (iI 0), .int (iI 0), .long (lI 0), .ref hpl, .int (iI 0), .ref hpd, .int (iI 0), .ref htx, .int (iI 0), .int (iI 0), .int (iI (-1)), .int (iI (-1)), .int (iI 0), .ref htd, .int (iI 0), .ref hrw, .ref hrl, .ref hir])), (hg, .inl (k 0, 1460, .inl (aI g0F)))] := hD
  refine lv_iload_n hx hb dX11_number_5 rfl (lv_at hl 1 rfl) ?_
  refine lv_tableOut (tgt := 173) hx hb dX11_number_6 (by rw [iI_toInt ⟨by omega, by omega⟩]; omega) (by decide) ?_
  refine lv_aload_n hx hb dX11_number_173 rfl (lv_at hl 0 rfl) ?_
  refine q_iconst hx hb dX11_number_174 ?_
  refine ki (va_runV (As := [.int (iI 1)]) (rest := []) hSF ((c_X11_fails l dC dI k h0 (.ref hg) (.long (lI 0)) (.ref hk) (.long (lI 0)) (.int (iI 0)) (.ref hp) (.ref hpu) (.int (iI 0)) (.ref hs) (.long (lI 0)) (.int (iI 0)) 0 1 [.int (iI 0), .int (iI 0), .int (iI 0), .long (lI 0), .ref hpl, .int (iI 0), .ref hpd, .int (iI 0), .ref htx, .int (iI 0), .int (iI 0), .int (iI (-1)), .int (iI (-1)), .int (iI 0), .ref htd, .int (iI 0), .ref hrw, .ref hrl, .ref hir]) H.size) (cwV 1 hts gX11_number_X11_fails rfl rfl rfl (by decide +kernel) ⟨Nat.le_of_ble_eq_true rfl, Nat.le_of_ble_eq_true rfl⟩) (preV hP hD hE hS hA [0] rfl (by decide) (ci := 11) (q0 := 0) rfl rfl) rfl rfl hl.1 rfl (lv_room (Nat.le_of_ble_eq_true rfl)) dX11_number_175 ⟨Nat.le_of_ble_eq_true rfl, Nat.le_of_ble_eq_true rfl⟩) hP hD hS hA [0] [1] rfl (wr := [(hg, .inl (k 0, 1460, .inl (aI g0F)))]) rfl (by decide) (by decide) (fun r175 _ H locs hw hP hD hS => ?_)
  obtain rfl : r175 = (iI 0) := hw
  have hP : va_P (dC, dI) vwCl [(hg, .inl (k 0, 1460, .inl (aI g0F))), (h0, .inr (11, [.ref hg, .long (lI 0), .ref hk, .long (lI 0), .int (iI 0), .ref hp, .ref hpu, .int (iI 0), .ref hs, .long (lI 0), .int (iI 0), .int (iI 1), .int (iI 0), .int (iI 0), .int (iI 0), .long (lI 0), .ref hpl, .int (iI 0), .ref hpd, .int (iI 0), .ref htx, .int (iI 0), .int (iI 0), .int (iI (-1)), .int (iI (-1)), .int (iI 0), .ref htd, .int (iI 0), .ref hrw, .ref hrl, .ref hir]))] H := hP
  have hD : va_D A [(hg, .inl (k 0, 1460, .inl (aI g0F))), (h0, .inr (11, [.ref hg, .long (lI 0), .ref hk, .long (lI 0), .int (iI 0), .ref hp, .ref hpu, .int (iI 0), .ref hs, .long (lI 0), .int (iI 0), .int (iI 1), .int (iI 0), .int (iI 0), .int (iI 0), .long (lI 0), .ref hpl, .int (iI 0), .ref hpd, .int (iI 0), .ref htx, .int (iI 0), .int (iI 0), .int (iI (-1)), .int (iI (-1)), .int (iI 0), .ref htd, .int (iI 0), .ref hrw, .ref hrl, .ref hir]))] := hD
  rw [hQ]
  refine W.widen (k := 0) (n := 0) (Nat.le_of_ble_eq_true rfl) (Nat.le_of_ble_eq_true rfl) ?_
  exact W.iret (v := (iI 0)) hx hb hr (fun t ht hW => ⟨⟨(iI 0), (), rfl, rfl, by rw [ht]; exact hP.sub [1] rfl, by rw [hAe]; exact hD.sub [1] (by decide) rfl⟩, hS.F ht⟩) hS.2.2 dX11_number_178
set_option maxHeartbeats 4000000 in
set_option maxRecDepth 100000 in
/-- the reference: accruedUnits -/
theorem c_X11_accruedUnits (l : Launch) (dC : Nat → ClassId) (dI : Nat → Nat → Nat) (k : Nat → ClassId) (h0 hg hk hp hpu hs hpl hpd htx htd hrw hrl hir : Nat) (sz : Nat) : Met l yX11_accruedUnits woX11_accruedUnits ({ frames := 0, cells := 0, slots := 0, locals := 0 } : Room) (PcW (dC, dI) k [.ref h0] [(h0, .inr (11, [.ref hg, .long (lI 0), .ref hk, .long (lI 0), .int (iI 0), .ref hp, .ref hpu, .int (iI 0), .ref hs, .long (lI 0), .int (iI 0), .int (iI 0), .int (iI 0), .int (iI 0), .int (iI 0), .long (lI 0), .ref hpl, .int (iI 0), .ref hpd, .int (iI 0), .ref htx, .int (iI 0), .int (iI 0), .int (iI (-1)), .int (iI (-1)), .int (iI 0), .ref htd, .int (iI 0), .ref hrw, .ref hrl, .ref hir]))] sz) (va_Ql (fun (r : Int64) (_ : Unit) => r = lI 0) (QB (dC, dI) [(h0, .inr (11, [.ref hg, .long (lI 0), .ref hk, .long (lI 0), .int (iI 0), .ref hp, .ref hpu, .int (iI 0), .ref hs, .long (lI 0), .int (iI 0), .int (iI 0), .int (iI 0), .int (iI 0), .int (iI 0), .long (lI 0), .ref hpl, .int (iI 0), .ref hpd, .int (iI 0), .ref htx, .int (iI 0), .int (iI 0), .int (iI (-1)), .int (iI (-1)), .int (iI 0), .ref htd, .int (iI 0), .ref hrw, .ref hrl, .ref hir]))] (fun _ => [(h0, .inr (11, [.ref hg, .long (lI 0), .ref hk, .long (lI 0), .int (iI 0), .ref hp, .ref hpu, .int (iI 0), .ref hs, .long (lI 0), .int (iI 0), .int (iI 0), .int (iI 0), .int (iI 0), .int (iI 0), .long (lI 0), .ref hpl, .int (iI 0), .ref hpd, .int (iI 0), .ref htx, .int (iI 0), .int (iI 0), .int (iI (-1)), .int (iI (-1)), .int (iI 0), .ref htd, .int (iI 0), .ref hrw, .ref hrl, .ref hir]))]) sz) (va_A [(h0, .inr (11, [.ref hg, .long (lI 0), .ref hk, .long (lI 0), .int (iI 0), .ref hp, .ref hpu, .int (iI 0), .ref hs, .long (lI 0), .int (iI 0), .int (iI 0), .int (iI 0), .int (iI 0), .int (iI 0), .long (lI 0), .ref hpl, .int (iI 0), .ref hpd, .int (iI 0), .ref htx, .int (iI 0), .int (iI 0), .int (iI (-1)), .int (iI (-1)), .int (iI 0), .ref htd, .int (iI 0), .ref hrw, .ref hrl, .ref hir]))] sz)) 0 0 (va_A [(h0, .inr (11, [.ref hg, .long (lI 0), .ref hk, .long (lI 0), .int (iI 0), .ref hp, .ref hpu, .int (iI 0), .ref hs, .long (lI 0), .int (iI 0), .int (iI 0), .int (iI 0), .int (iI 0), .int (iI 0), .long (lI 0), .ref hpl, .int (iI 0), .ref hpd, .int (iI 0), .ref htx, .int (iI 0), .int (iI 0), .int (iI (-1)), .int (iI (-1)), .int (iI 0), .ref htd, .int (iI 0), .ref hrw, .ref hrl, .ref hir]))] sz) := by
  refine Met.ofW (cc := cX11_accruedUnits) (maxL := 1) (ret := (some .long)) (by decide) rfl ?_
  intro p e s mI args below meth cO s₁ B hml hv
  obtain ⟨rfl, rfl, hP, hD0, hE⟩ := hv
  have hx := B.exec
  have hb := B.bytes
  have hr := B.returns
  have hts := atoms_spec (ws := woX11_accruedUnits) B.pre
  have hown : s.vm.findClass RX11 = some mI.cls := findClass_of_methodNamed B.named
  have hlocks := B.notSynchronized
  have hD := hD0.self (sz := s.heap.size)
  generalize hAe : va_A [(h0, .inr (11, [.ref hg, .long (lI 0), .ref hk, .long (lI 0), .int (iI 0), .ref hp, .ref hpu, .int (iI 0), .ref hs, .long (lI 0), .int (iI 0), .int (iI 0), .int (iI 0), .int (iI 0), .int (iI 0), .long (lI 0), .ref hpl, .int (iI 0), .ref hpd, .int (iI 0), .ref htx, .int (iI 0), .int (iI 0), .int (iI (-1)), .int (iI (-1)), .int (iI 0), .ref htd, .int (iI 0), .ref hrw, .ref hrl, .ref hir]))] s.heap.size = A at hD hE ⊢
  have hA : ∀ q : Nat, s.heap.size ≤ q → A q := fun q h => by rw [← hAe]; exact Or.inr h
  have hS : va_S A s.heap s.heap [] := va_S.rf
  obtain ⟨hK, hNw, hNc, hZs, hAO1, hAO2⟩ := id hE
  have hSF : CallFix p mI cO cX11_accruedUnits 1 s ([.ref h0] : List Value).toArray woX11_accruedUnits RX11 := ⟨hx, hb, hml, hown, hts⟩
  have hl := lv_entry ([.ref h0] : List Value) (n := 1) (Nat.le_of_ble_eq_true rfl)
  rw [lg_entry_eq]
  generalize (lg_sl ([.ref h0] : List Value) ++ List.replicate (1 - (lg_sl ([.ref h0] : List Value)).length) Slot.unset).toArray = ls at hl ⊢
  have hl : lv_has ls 1 [(0, .ref h0)] := hl
  refine W_gen (fun Q hQ => ?_)
  change W p l e ({ frames := 0, cells := 0, slots := 0, locals := 0 } : Room) s mI _ below meth cO s.heap [] 0 0 Q _
  have hP : va_P (dC, dI) vwCl [(h0, .inr (11, [.ref hg, .long (lI 0), .ref hk, .long (lI 0), .int (iI 0), .ref hp, .ref hpu, .int (iI 0), .ref hs, .long (lI 0), .int (iI 0), .int (iI 0), .int (iI 0), .int (iI 0), .int (iI 0), .long (lI 0), .ref hpl, .int (iI 0), .ref hpd, .int (iI 0), .ref htx, .int (iI 0), .int (iI 0), .int (iI (-1)), .int (iI (-1)), .int (iI 0), .ref htd, .int (iI 0), .ref hrw, .ref hrl, .ref hir]))] s.heap := hP
  refine lv_aload_n hx hb dX11_accruedUnits_0 rfl (lv_at hl 0 rfl) ?_
  refine q_iconst hx hb dX11_accruedUnits_1 ?_
  refine va_put (D := (dC, dI)) (ci := 11) (v := .int (iI 0)) (ty := .int) (C := RX11) (T := TX11) (N := 31) hx hb hts (fun _ h => List.mem_cons_of_mem _ (inlX11 _ h)) tyX11 tyX11_ok nmX11 hown hK hP hD hS 0 rfl rfl 11 (by decide) (hts (.fieldLink RX11 56 "LoanServicingModel" "thrown" "I") (List.mem_cons_of_mem _ (wl_13 (List.mem_of_getElem? (i := 12) rfl)))) (fun _ h9 => h9) rfl (by decide +kernel) rfl rfl (Nat.le_of_ble_eq_true rfl) dX11_accruedUnits_2 (fun H locs hP hD hS => ?_)
  have hP : va_P (dC, dI) vwCl [(h0, .inr (11, [.ref hg, .long (lI 0), .ref hk, .long (lI 0), .int (iI 0), .ref hp, .ref hpu, .int (iI 0), .ref hs, .long (lI 0), .int (iI 0), .int (iI 0), .int (iI 0), .int (iI 0), .int (iI 0), .long (lI 0), .ref hpl, .int (iI 0), .ref hpd, .int (iI 0), .ref htx, .int (iI 0), .int (iI 0), .int (iI (-1)), .int (iI (-1)), .int (iI 0), .ref htd, .int (iI 0), .ref hrw, .ref hrl, .ref hir]))] H := hP
  have hD : va_D A [(h0, .inr (11, [.ref hg, .long (lI 0), .ref hk, .long (lI 0), .int (iI 0), .ref hp, .ref hpu, .int (iI 0), .ref hs, .long (lI 0), .int (iI 0), .int (iI 0), .int (iI 0), .int (iI 0), .int (iI 0), .long (lI 0), .ref hpl, .int (iI 0), .ref hpd, .int (iI 0), .ref htx, .int (iI 0), .int (iI 0), .int (iI (-1)), .int (iI (-1)), .int (iI 0), .ref htd, .int (iI 0), .ref hrw, .ref hrl, .ref hir]))] := hD
  refine lv_aload_n hx hb dX11_accruedUnits_5 rfl (lv_at hl 0 rfl) ?_
  refine va_get (D := (dC, dI)) (ci := 11) (v := .long (lI 0)) (C := RX11) (T := TX11) (N := 31) hx hb hts (fun _ h => List.mem_cons_of_mem _ (inlX11 _ h)) hown hK hP 0 rfl rfl 1 (by decide) (hts (.fieldLink RX11 59 "LoanServicingModel" "units" "J") (List.mem_cons_of_mem _ (wl_13 (List.mem_of_getElem? (i := 13) rfl)))) (fun _ h9 => h9) rfl dX11_accruedUnits_6 ?_
  rw [hQ]
  refine W.widen (k := 0) (n := 0) (Nat.le_of_ble_eq_true rfl) (Nat.le_of_ble_eq_true rfl) ?_
  exact W.lret (v := (lI 0)) hx hb hr (fun t ht hW => ⟨⟨(lI 0), (), rfl, rfl, by rw [ht]; exact hP.sub [0] rfl, by rw [hAe]; exact hD.sub [0] (by decide) rfl⟩, hS.F ht⟩) hS.2.2 dX11_accruedUnits_9
set_option maxHeartbeats 4000000 in
set_option maxRecDepth 100000 in
/-- the reference: total -/
theorem c_X11_total_ok (l : Launch) (dC : Nat → ClassId) (dI : Nat → Nat → Nat) (k : Nat → ClassId) (h0 hg hk hp hpu hs hpl hpd htx htd hrw hrl hir : Nat) (xv : Int) (hv9 : -2147483648 ≤ xv ∧ xv ≤ 2147483647) (hv : 0 ≤ xv ∧ xv ≤ 7) (sz : Nat) : Met l yX11_total woX11_total ({ frames := 1, cells := 0, slots := 0, locals := 22 } : Room) (PcW (dC, dI) k [.ref h0, .int (iI xv)] [(h0, .inr (11, [.ref hg, .long (lI 0), .ref hk, .long (lI 0), .int (iI 0), .ref hp, .ref hpu, .int (iI 0), .ref hs, .long (lI 0), .int (iI 0), .int (iI 0), .int (iI 0), .int (iI 0), .int (iI 0), .long (lI 0), .ref hpl, .int (iI 0), .ref hpd, .int (iI 0), .ref htx, .int (iI 0), .int (iI 0), .int (iI (-1)), .int (iI (-1)), .int (iI 0), .ref htd, .int (iI 0), .ref hrw, .ref hrl, .ref hir])), (hg, .inl (k 0, 1460, .inl (aI g0F)))] sz) (va_Qi (fun (r : Int32) (_ : Unit) => r = iI 0) (QB (dC, dI) [(h0, .inr (11, [.ref hg, .long (lI 0), .ref hk, .long (lI 0), .int (iI 0), .ref hp, .ref hpu, .int (iI 0), .ref hs, .long (lI 0), .int (iI 0), .int (iI 0), .int (iI 0), .int (iI 0), .int (iI 0), .long (lI 0), .ref hpl, .int (iI 0), .ref hpd, .int (iI 0), .ref htx, .int (iI 0), .int (iI 0), .int (iI (-1)), .int (iI (-1)), .int (iI 0), .ref htd, .int (iI 0), .ref hrw, .ref hrl, .ref hir])), (hg, .inl (k 0, 1460, .inl (aI g0F)))] (fun _ => [(h0, .inr (11, [.ref hg, .long (lI 0), .ref hk, .long (lI 0), .int (iI 0), .ref hp, .ref hpu, .int (iI 0), .ref hs, .long (lI 0), .int (iI 0), .int (iI 0), .int (iI 0), .int (iI 0), .int (iI 0), .long (lI 0), .ref hpl, .int (iI 0), .ref hpd, .int (iI 0), .ref htx, .int (iI 0), .int (iI 0), .int (iI (-1)), .int (iI (-1)), .int (iI 0), .ref htd, .int (iI 0), .ref hrw, .ref hrl, .ref hir]))]) sz) (va_A [(h0, .inr (11, [.ref hg, .long (lI 0), .ref hk, .long (lI 0), .int (iI 0), .ref hp, .ref hpu, .int (iI 0), .ref hs, .long (lI 0), .int (iI 0), .int (iI 0), .int (iI 0), .int (iI 0), .int (iI 0), .long (lI 0), .ref hpl, .int (iI 0), .ref hpd, .int (iI 0), .ref htx, .int (iI 0), .int (iI 0), .int (iI (-1)), .int (iI (-1)), .int (iI 0), .ref htd, .int (iI 0), .ref hrw, .ref hrl, .ref hir])), (hg, .inl (k 0, 1460, .inl (aI g0F)))] sz)) 0 0 (va_A [(h0, .inr (11, [.ref hg, .long (lI 0), .ref hk, .long (lI 0), .int (iI 0), .ref hp, .ref hpu, .int (iI 0), .ref hs, .long (lI 0), .int (iI 0), .int (iI 0), .int (iI 0), .int (iI 0), .int (iI 0), .long (lI 0), .ref hpl, .int (iI 0), .ref hpd, .int (iI 0), .ref htx, .int (iI 0), .int (iI 0), .int (iI (-1)), .int (iI (-1)), .int (iI 0), .ref htd, .int (iI 0), .ref hrw, .ref hrl, .ref hir])), (hg, .inl (k 0, 1460, .inl (aI g0F)))] sz) := by
  refine Met.ofW (cc := cX11_total) (maxL := 2) (ret := (some .int)) (by decide) rfl ?_
  intro p e s mI args below meth cO s₁ B hml hv
  obtain ⟨rfl, rfl, hP, hD0, hE⟩ := hv
  have hx := B.exec
  have hb := B.bytes
  have hr := B.returns
  have hts := atoms_spec (ws := woX11_total) B.pre
  have hown : s.vm.findClass RX11 = some mI.cls := findClass_of_methodNamed B.named
  have hlocks := B.notSynchronized
  have hD := hD0.self (sz := s.heap.size)
  generalize hAe : va_A [(h0, .inr (11, [.ref hg, .long (lI 0), .ref hk, .long (lI 0), .int (iI 0), .ref hp, .ref hpu, .int (iI 0), .ref hs, .long (lI 0), .int (iI 0), .int (iI 0), .int (iI 0), .int (iI 0), .int (iI 0), .long (lI 0), .ref hpl, .int (iI 0), .ref hpd, .int (iI 0), .ref htx, .int (iI 0), .int (iI 0), .int (iI (-1)), .int (iI (-1)), .int (iI 0), .ref htd, .int (iI 0), .ref hrw, .ref hrl, .ref hir])), (hg, .inl (k 0, 1460, .inl (aI g0F)))] s.heap.size = A at hD hE ⊢
  have hA : ∀ q : Nat, s.heap.size ≤ q → A q := fun q h => by rw [← hAe]; exact Or.inr h
  have hS : va_S A s.heap s.heap [] := va_S.rf
  obtain ⟨hK, hNw, hNc, hZs, hAO1, hAO2⟩ := id hE
  have hSF : CallFix p mI cO cX11_total 2 s ([.ref h0, .int (iI xv)] : List Value).toArray woX11_total RX11 := ⟨hx, hb, hml, hown, hts⟩
  have hl := lv_entry ([.ref h0, .int (iI xv)] : List Value) (n := 2) (Nat.le_of_ble_eq_true rfl)
  rw [lg_entry_eq]
  generalize (lg_sl ([.ref h0, .int (iI xv)] : List Value) ++ List.replicate (2 - (lg_sl ([.ref h0, .int (iI xv)] : List Value)).length) Slot.unset).toArray = ls at hl ⊢
  have hl : lv_has ls 2 [(0, .ref h0), (1, .int (iI xv))] := hl
  refine W_gen (fun Q hQ => ?_)
  change W p l e ({ frames := 1, cells := 0, slots := 0, locals := 22 } : Room) s mI _ below meth cO s.heap [] 0 0 Q _
  have hP : va_P (dC, dI) vwCl [(h0, .inr (11, [.ref hg, .long (lI 0), .ref hk, .long (lI 0), .int (iI 0), .ref hp, .ref hpu, .int (iI 0), .ref hs, .long (lI 0), .int (iI 0), .int (iI 0), .int (iI 0), .int (iI 0), .int (iI 0), .long (lI 0), .ref hpl, .int (iI 0), .ref hpd, .int (iI 0), .ref htx, .int (iI 0), .int (iI 0), .int (iI (-1)), .int (iI (-1)), .int (iI 0), .ref htd, .int (iI 0), .ref hrw, .ref hrl, .ref hir])), (hg, .inl (k 0, 1460, .inl (aI g0F)))] s.heap := hP
  refine lv_aload_n hx hb dX11_total_0 rfl (lv_at hl 0 rfl) ?_
  refine lv_iload_n hx hb dX11_total_1 rfl (lv_at hl 1 rfl) ?_
  refine q_iconst hx hb dX11_total_2 ?_
  refine q_bipush (z := 7) hx hb dX11_total_3 (by decide) ?_
  refine ki (va_runS (As := [.int (iI xv), .int (iI 0), .int (iI 7)]) (rest := [.ref h0]) hSF ((c_X11_in l dC dI k xv 0 7 (by omega)) s.heap.size) (va_cwS 3 hts gX11_total_X11_in rfl rfl rfl (by decide +kernel) ⟨Nat.le_of_ble_eq_true rfl, Nat.le_of_ble_eq_true rfl⟩) (preS hP hD hE hS hA [] rfl (by decide)) rfl rfl hl.1 rfl (lv_room (Nat.le_of_ble_eq_true rfl)) dX11_total_5 ⟨Nat.le_of_ble_eq_true rfl, Nat.le_of_ble_eq_true rfl⟩) hP hD hS hA [] [0, 1] rfl (wr := [(h0, .inr (11, [.ref hg, .long (lI 0), .ref hk, .long (lI 0), .int (iI 0), .ref hp, .ref hpu, .int (iI 0), .ref hs, .long (lI 0), .int (iI 0), .int (iI 0), .int (iI 0), .int (iI 0), .int (iI 0), .long (lI 0), .ref hpl, .int (iI 0), .ref hpd, .int (iI 0), .ref htx, .int (iI 0), .int (iI 0), .int (iI (-1)), .int (iI (-1)), .int (iI 0), .ref htd, .int (iI 0), .ref hrw, .ref hrl, .ref hir])), (hg, .inl (k 0, 1460, .inl (aI g0F)))]) rfl (by decide) (by decide) (fun r5 _ H locs hw hP hD hS => ?_)
  obtain rfl : r5 = iI 1 := hw.trans (by rw [wi1 (by omega)])
  have hP : va_P (dC, dI) vwCl [(h0, .inr (11, [.ref hg, .long (lI 0), .ref hk, .long (lI 0), .int (iI 0), .ref hp, .ref hpu, .int (iI 0), .ref hs, .long (lI 0), .int (iI 0), .int (iI 0), .int (iI 0), .int (iI 0), .int (iI 0), .long (lI 0), .ref hpl, .int (iI 0), .ref hpd, .int (iI 0), .ref htx, .int (iI 0), .int (iI 0), .int (iI (-1)), .int (iI (-1)), .int (iI 0), .ref htd, .int (iI 0), .ref hrw, .ref hrl, .ref hir])), (hg, .inl (k 0, 1460, .inl (aI g0F)))] H := hP
  have hD : va_D A [(h0, .inr (11, [.ref hg, .long (lI 0), .ref hk, .long (lI 0), .int (iI 0), .ref hp, .ref hpu, .int (iI 0), .ref hs, .long (lI 0), .int (iI 0), .int (iI 0), .int (iI 0), .int (iI 0), .int (iI 0), .long (lI 0), .ref hpl, .int (iI 0), .ref hpd, .int (iI 0), .ref htx, .int (iI 0), .int (iI 0), .int (iI (-1)), .int (iI (-1)), .int (iI 0), .ref htd, .int (iI 0), .ref hrw, .ref hrl, .ref hir])), (hg, .inl (k 0, 1460, .inl (aI g0F)))] := hD
  refine q_if_eq (tgt := 15) hx hb dX11_total_8 (by decide) (by omega) (fun q => absurd q (by omega)) (fun _ => ?_)
  refine q_iconst hx hb dX11_total_11 ?_
  refine lv_goto (tgt := 16) hx hb dX11_total_12 (by decide) ?_
  refine va_put (D := (dC, dI)) (ci := 11) (v := .int (iI 0)) (ty := .int) (C := RX11) (T := TX11) (N := 31) hx hb hts (fun _ h => List.mem_cons_of_mem _ (inlX11 _ h)) tyX11 tyX11_ok nmX11 hown hK hP hD hS 0 rfl rfl 11 (by decide) (hts (.fieldLink RX11 56 "LoanServicingModel" "thrown" "I") (List.mem_cons_of_mem _ (wl_13 (List.mem_of_getElem? (i := 12) rfl)))) (fun _ h9 => h9) rfl (by decide +kernel) rfl rfl (Nat.le_of_ble_eq_true rfl) dX11_total_16 (fun H locs hP hD hS => ?_)
  have hP : va_P (dC, dI) vwCl [(h0, .inr (11, [.ref hg, .long (lI 0), .ref hk, .long (lI 0), .int (iI 0), .ref hp, .ref hpu, .int (iI 0), .ref hs, .long (lI 0), .int (iI 0), .int (iI 0), .int (iI 0), .int (iI 0), .int (iI 0), .long (lI 0), .ref hpl, .int (iI 0), .ref hpd, .int (iI 0), .ref htx, .int (iI 0), .int (iI 0), .int (iI (-1)), .int (iI (-1)), .int (iI 0), .ref htd, .int (iI 0), .ref hrw, .ref hrl, .ref hir])), (hg, .inl (k 0, 1460, .inl (aI g0F)))] H := hP
  have hD : va_D A [(h0, .inr (11, [.ref hg, .long (lI 0), .ref hk, .long (lI 0), .int (iI 0), .ref hp, .ref hpu, .int (iI 0), .ref hs, .long (lI 0), .int (iI 0), .int (iI 0), .int (iI 0), .int (iI 0), .int (iI 0), .long (lI 0), .ref hpl, .int (iI 0), .ref hpd, .int (iI 0), .ref htx, .int (iI 0), .int (iI 0), .int (iI (-1)), .int (iI (-1)), .int (iI 0), .ref htd, .int (iI 0), .ref hrw, .ref hrl, .ref hir])), (hg, .inl (k 0, 1460, .inl (aI g0F)))] := hD
  refine lv_aload_n hx hb dX11_total_19 rfl (lv_at hl 0 rfl) ?_
  refine va_get (D := (dC, dI)) (ci := 11) (v := .int (iI 0)) (C := RX11) (T := TX11) (N := 31) hx hb hts (fun _ h => List.mem_cons_of_mem _ (inlX11 _ h)) hown hK hP 0 rfl rfl 11 (by decide) (hts (.fieldLink RX11 56 "LoanServicingModel" "thrown" "I") (List.mem_cons_of_mem _ (wl_13 (List.mem_of_getElem? (i := 12) rfl)))) (fun _ h9 => h9) rfl dX11_total_20 ?_
  refine q_if_le (tgt := 30) hx hb dX11_total_23 (by decide) (by omega) (fun _ => ?_) (fun q => absurd q (by omega))
  refine lv_aload_n hx hb dX11_total_30 rfl (lv_at hl 0 rfl) ?_
  refine va_get (D := (dC, dI)) (ci := 11) (v := .ref hg) (C := RX11) (T := TX11) (N := 31) hx hb hts (fun _ h => List.mem_cons_of_mem _ (inlX11 _ h)) hown hK hP 0 rfl rfl 0 (by decide) (hts (.fieldLink RX11 7 "LoanServicingModel" "g" "[I") (List.mem_cons_of_mem _ (wl_5 (List.mem_of_getElem? (i := 8) rfl)))) (fun _ h9 => h9) rfl dX11_total_31 ?_
  refine q_bipush (z := 20) hx hb dX11_total_34 (by decide) ?_
  refine lv_iload_n hx hb dX11_total_36 rfl (lv_at hl 1 rfl) ?_
  refine q_iadd (z := xv + 20) hx hb dX11_total_37 (by omega) ?_
  refine q_iald (z := 0) hx hb hK hP 1 0 rfl rfl (by omega) (g0z (by omega) (by omega)) dX11_total_38 ?_
  rw [hQ]
  refine W.widen (k := 0) (n := 0) (Nat.le_of_ble_eq_true rfl) (Nat.le_of_ble_eq_true rfl) ?_
  exact W.iret (v := (iI 0)) hx hb hr (fun t ht hW => ⟨⟨(iI 0), (), rfl, rfl, by rw [ht]; exact hP.sub [0] rfl, by rw [hAe]; exact hD.sub [0] (by decide) rfl⟩, hS.F ht⟩) hS.2.2 dX11_total_39
set_option maxHeartbeats 4000000 in
set_option maxRecDepth 100000 in
/-- the reference: total of nothing -/
theorem c_X11_total_x (l : Launch) (dC : Nat → ClassId) (dI : Nat → Nat → Nat) (k : Nat → ClassId) (h0 hg hk hp hpu hs hpl hpd htx htd hrw hrl hir : Nat) (xv : Int) (hv9 : -2147483648 ≤ xv ∧ xv ≤ 2147483647) (hv : ¬ (0 ≤ xv ∧ xv ≤ 7)) (sz : Nat) : Met l yX11_total woX11_total ({ frames := 1, cells := 0, slots := 0, locals := 22 } : Room) (PcW (dC, dI) k [.ref h0, .int (iI xv)] [(h0, .inr (11, [.ref hg, .long (lI 0), .ref hk, .long (lI 0), .int (iI 0), .ref hp, .ref hpu, .int (iI 0), .ref hs, .long (lI 0), .int (iI 0), .int (iI 0), .int (iI 0), .int (iI 0), .int (iI 0), .long (lI 0), .ref hpl, .int (iI 0), .ref hpd, .int (iI 0), .ref htx, .int (iI 0), .int (iI 0), .int (iI (-1)), .int (iI (-1)), .int (iI 0), .ref htd, .int (iI 0), .ref hrw, .ref hrl, .ref hir])), (hg, .inl (k 0, 1460, .inl (aI g0F)))] sz) (va_Qi (fun (r : Int32) (_ : Unit) => r = iI 0) (QB (dC, dI) [(h0, .inr (11, [.ref hg, .long (lI 0), .ref hk, .long (lI 0), .int (iI 0), .ref hp, .ref hpu, .int (iI 0), .ref hs, .long (lI 0), .int (iI 0), .int (iI 0), .int (iI 0), .int (iI 0), .int (iI 0), .long (lI 0), .ref hpl, .int (iI 0), .ref hpd, .int (iI 0), .ref htx, .int (iI 0), .int (iI 0), .int (iI (-1)), .int (iI (-1)), .int (iI 0), .ref htd, .int (iI 0), .ref hrw, .ref hrl, .ref hir])), (hg, .inl (k 0, 1460, .inl (aI g0F)))] (fun _ => [(h0, .inr (11, [.ref hg, .long (lI 0), .ref hk, .long (lI 0), .int (iI 0), .ref hp, .ref hpu, .int (iI 0), .ref hs, .long (lI 0), .int (iI 0), .int (iI 1), .int (iI 0), .int (iI 0), .int (iI 0), .long (lI 0), .ref hpl, .int (iI 0), .ref hpd, .int (iI 0), .ref htx, .int (iI 0), .int (iI 0), .int (iI (-1)), .int (iI (-1)), .int (iI 0), .ref htd, .int (iI 0), .ref hrw, .ref hrl, .ref hir]))]) sz) (va_A [(h0, .inr (11, [.ref hg, .long (lI 0), .ref hk, .long (lI 0), .int (iI 0), .ref hp, .ref hpu, .int (iI 0), .ref hs, .long (lI 0), .int (iI 0), .int (iI 0), .int (iI 0), .int (iI 0), .int (iI 0), .long (lI 0), .ref hpl, .int (iI 0), .ref hpd, .int (iI 0), .ref htx, .int (iI 0), .int (iI 0), .int (iI (-1)), .int (iI (-1)), .int (iI 0), .ref htd, .int (iI 0), .ref hrw, .ref hrl, .ref hir])), (hg, .inl (k 0, 1460, .inl (aI g0F)))] sz)) 0 0 (va_A [(h0, .inr (11, [.ref hg, .long (lI 0), .ref hk, .long (lI 0), .int (iI 0), .ref hp, .ref hpu, .int (iI 0), .ref hs, .long (lI 0), .int (iI 0), .int (iI 0), .int (iI 0), .int (iI 0), .int (iI 0), .long (lI 0), .ref hpl, .int (iI 0), .ref hpd, .int (iI 0), .ref htx, .int (iI 0), .int (iI 0), .int (iI (-1)), .int (iI (-1)), .int (iI 0), .ref htd, .int (iI 0), .ref hrw, .ref hrl, .ref hir])), (hg, .inl (k 0, 1460, .inl (aI g0F)))] sz) := by
  refine Met.ofW (cc := cX11_total) (maxL := 2) (ret := (some .int)) (by decide) rfl ?_
  intro p e s mI args below meth cO s₁ B hml hv
  obtain ⟨rfl, rfl, hP, hD0, hE⟩ := hv
  have hx := B.exec
  have hb := B.bytes
  have hr := B.returns
  have hts := atoms_spec (ws := woX11_total) B.pre
  have hown : s.vm.findClass RX11 = some mI.cls := findClass_of_methodNamed B.named
  have hlocks := B.notSynchronized
  have hD := hD0.self (sz := s.heap.size)
  generalize hAe : va_A [(h0, .inr (11, [.ref hg, .long (lI 0), .ref hk, .long (lI 0), .int (iI 0), .ref hp, .ref hpu, .int (iI 0), .ref hs, .long (lI 0), .int (iI 0), .int (iI 0), .int (iI 0), .int (iI 0), .int (iI 0), .long (lI 0), .ref hpl, .int (iI 0), .ref hpd, .int (iI 0), .ref htx, .int (iI 0), .int (iI 0), .int (iI (-1)), .int (iI (-1)), .int (iI 0), .ref htd, .int (iI 0), .ref hrw, .ref hrl, .ref hir])), (hg, .inl (k 0, 1460, .inl (aI g0F)))] s.heap.size = A at hD hE ⊢
  have hA : ∀ q : Nat, s.heap.size ≤ q → A q := fun q h => by rw [← hAe]; exact Or.inr h
  have hS : va_S A s.heap s.heap [] := va_S.rf
  obtain ⟨hK, hNw, hNc, hZs, hAO1, hAO2⟩ := id hE
  have hSF : CallFix p mI cO cX11_total 2 s ([.ref h0, .int (iI xv)] : List Value).toArray woX11_total RX11 := ⟨hx, hb, hml, hown, hts⟩
  have hl := lv_entry ([.ref h0, .int (iI xv)] : List Value) (n := 2) (Nat.le_of_ble_eq_true rfl)
  rw [lg_entry_eq]
  generalize (lg_sl ([.ref h0, .int (iI xv)] : List Value) ++ List.replicate (2 - (lg_sl ([.ref h0, .int (iI xv)] : List Value)).length) Slot.unset).toArray = ls at hl ⊢
  have hl : lv_has ls 2 [(0, .ref h0), (1, .int (iI xv))] := hl
  refine W_gen (fun Q hQ => ?_)
  change W p l e ({ frames := 1, cells := 0, slots := 0, locals := 22 } : Room) s mI _ below meth cO s.heap [] 0 0 Q _
  have hP : va_P (dC, dI) vwCl [(h0, .inr (11, [.ref hg, .long (lI 0), .ref hk, .long (lI 0), .int (iI 0), .ref hp, .ref hpu, .int (iI 0), .ref hs, .long (lI 0), .int (iI 0), .int (iI 0), .int (iI 0), .int (iI 0), .int (iI 0), .long (lI 0), .ref hpl, .int (iI 0), .ref hpd, .int (iI 0), .ref htx, .int (iI 0), .int (iI 0), .int (iI (-1)), .int (iI (-1)), .int (iI 0), .ref htd, .int (iI 0), .ref hrw, .ref hrl, .ref hir])), (hg, .inl (k 0, 1460, .inl (aI g0F)))] s.heap := hP
  refine lv_aload_n hx hb dX11_total_0 rfl (lv_at hl 0 rfl) ?_
  refine lv_iload_n hx hb dX11_total_1 rfl (lv_at hl 1 rfl) ?_
  refine q_iconst hx hb dX11_total_2 ?_
  refine q_bipush (z := 7) hx hb dX11_total_3 (by decide) ?_
  refine ki (va_runS (As := [.int (iI xv), .int (iI 0), .int (iI 7)]) (rest := [.ref h0]) hSF ((c_X11_in l dC dI k xv 0 7 (by omega)) s.heap.size) (va_cwS 3 hts gX11_total_X11_in rfl rfl rfl (by decide +kernel) ⟨Nat.le_of_ble_eq_true rfl, Nat.le_of_ble_eq_true rfl⟩) (preS hP hD hE hS hA [] rfl (by decide)) rfl rfl hl.1 rfl (lv_room (Nat.le_of_ble_eq_true rfl)) dX11_total_5 ⟨Nat.le_of_ble_eq_true rfl, Nat.le_of_ble_eq_true rfl⟩) hP hD hS hA [] [0, 1] rfl (wr := [(h0, .inr (11, [.ref hg, .long (lI 0), .ref hk, .long (lI 0), .int (iI 0), .ref hp, .ref hpu, .int (iI 0), .ref hs, .long (lI 0), .int (iI 0), .int (iI 0), .int (iI 0), .int (iI 0), .int (iI 0), .long (lI 0), .ref hpl, .int (iI 0), .ref hpd, .int (iI 0), .ref htx, .int (iI 0), .int (iI 0), .int (iI (-1)), .int (iI (-1)), .int (iI 0), .ref htd, .int (iI 0), .ref hrw, .ref hrl, .ref hir])), (hg, .inl (k 0, 1460, .inl (aI g0F)))]) rfl (by decide) (by decide) (fun r5 _ H locs hw hP hD hS => ?_)
  obtain rfl : r5 = iI 0 := hw.trans (by rw [wi0 (by omega)])
  have hP : va_P (dC, dI) vwCl [(h0, .inr (11, [.ref hg, .long (lI 0), .ref hk, .long (lI 0), .int (iI 0), .ref hp, .ref hpu, .int (iI 0), .ref hs, .long (lI 0), .int (iI 0), .int (iI 0), .int (iI 0), .int (iI 0), .int (iI 0), .long (lI 0), .ref hpl, .int (iI 0), .ref hpd, .int (iI 0), .ref htx, .int (iI 0), .int (iI 0), .int (iI (-1)), .int (iI (-1)), .int (iI 0), .ref htd, .int (iI 0), .ref hrw, .ref hrl, .ref hir])), (hg, .inl (k 0, 1460, .inl (aI g0F)))] H := hP
  have hD : va_D A [(h0, .inr (11, [.ref hg, .long (lI 0), .ref hk, .long (lI 0), .int (iI 0), .ref hp, .ref hpu, .int (iI 0), .ref hs, .long (lI 0), .int (iI 0), .int (iI 0), .int (iI 0), .int (iI 0), .int (iI 0), .long (lI 0), .ref hpl, .int (iI 0), .ref hpd, .int (iI 0), .ref htx, .int (iI 0), .int (iI 0), .int (iI (-1)), .int (iI (-1)), .int (iI 0), .ref htd, .int (iI 0), .ref hrw, .ref hrl, .ref hir])), (hg, .inl (k 0, 1460, .inl (aI g0F)))] := hD
  refine q_if_eq (tgt := 15) hx hb dX11_total_8 (by decide) (by omega) (fun _ => ?_) (fun q => absurd q (by omega))
  refine q_iconst hx hb dX11_total_15 ?_
  refine va_put (D := (dC, dI)) (ci := 11) (v := .int (iI 1)) (ty := .int) (C := RX11) (T := TX11) (N := 31) hx hb hts (fun _ h => List.mem_cons_of_mem _ (inlX11 _ h)) tyX11 tyX11_ok nmX11 hown hK hP hD hS 0 rfl rfl 11 (by decide) (hts (.fieldLink RX11 56 "LoanServicingModel" "thrown" "I") (List.mem_cons_of_mem _ (wl_13 (List.mem_of_getElem? (i := 12) rfl)))) (fun _ h9 => h9) rfl (by decide +kernel) rfl rfl (Nat.le_of_ble_eq_true rfl) dX11_total_16 (fun H locs hP hD hS => ?_)
  have hP : va_P (dC, dI) vwCl [(h0, .inr (11, [.ref hg, .long (lI 0), .ref hk, .long (lI 0), .int (iI 0), .ref hp, .ref hpu, .int (iI 0), .ref hs, .long (lI 0), .int (iI 0), .int (iI 1), .int (iI 0), .int (iI 0), .int (iI 0), .long (lI 0), .ref hpl, .int (iI 0), .ref hpd, .int (iI 0), .ref htx, .int (iI 0), .int (iI 0), .int (iI (-1)), .int (iI (-1)), .int (iI 0), .ref htd, .int (iI 0), .ref hrw, .ref hrl, .ref hir])), (hg, .inl (k 0, 1460, .inl (aI g0F)))] H := hP
  have hD : va_D A [(h0, .inr (11, [.ref hg, .long (lI 0), .ref hk, .long (lI 0), .int (iI 0), .ref hp, .ref hpu, .int (iI 0), .ref hs, .long (lI 0), .int (iI 0), .int (iI 1), .int (iI 0), .int (iI 0), .int (iI 0), .long (lI 0), .ref hpl, .int (iI 0), .ref hpd, .int (iI 0), .ref htx, .int (iI 0), .int (iI 0), .int (iI (-1)), .int (iI (-1)), .int (iI 0), .ref htd, .int (iI 0), .ref hrw, .ref hrl, .ref hir])), (hg, .inl (k 0, 1460, .inl (aI g0F)))] := hD
  refine lv_aload_n hx hb dX11_total_19 rfl (lv_at hl 0 rfl) ?_
  refine va_get (D := (dC, dI)) (ci := 11) (v := .int (iI 1)) (C := RX11) (T := TX11) (N := 31) hx hb hts (fun _ h => List.mem_cons_of_mem _ (inlX11 _ h)) hown hK hP 0 rfl rfl 11 (by decide) (hts (.fieldLink RX11 56 "LoanServicingModel" "thrown" "I") (List.mem_cons_of_mem _ (wl_13 (List.mem_of_getElem? (i := 12) rfl)))) (fun _ h9 => h9) rfl dX11_total_20 ?_
  refine q_if_le (tgt := 30) hx hb dX11_total_23 (by decide) (by omega) (fun q => absurd q (by omega)) (fun _ => ?_)
  refine q_iconst hx hb dX11_total_26 ?_
  refine lv_goto (tgt := 39) hx hb dX11_total_27 (by decide) ?_
  rw [hQ]
  refine W.widen (k := 0) (n := 0) (Nat.le_of_ble_eq_true rfl) (Nat.le_of_ble_eq_true rfl) ?_
  exact W.iret (v := (iI 0)) hx hb hr (fun t ht hW => ⟨⟨(iI 0), (), rfl, rfl, by rw [ht]; exact hP.sub [0] rfl, by rw [hAe]; exact hD.sub [0] (by decide) rfl⟩, hS.F ht⟩) hS.2.2 dX11_total_39
set_option maxHeartbeats 4000000 in
set_option maxRecDepth 100000 in
/-- the reference: condition -/
theorem c_X11_condition (l : Launch) (dC : Nat → ClassId) (dI : Nat → Nat → Nat) (k : Nat → ClassId) (h0 hg hk hp hpu hs hpl hpd htx htd hrw hrl hir : Nat) (sz : Nat) : Met l yX11_condition woX11_condition ({ frames := 0, cells := 0, slots := 0, locals := 0 } : Room) (PcW (dC, dI) k [.ref h0] [(h0, .inr (11, [.ref hg, .long (lI 0), .ref hk, .long (lI 0), .int (iI 0), .ref hp, .ref hpu, .int (iI 0), .ref hs, .long (lI 0), .int (iI 0), .int (iI 0), .int (iI 0), .int (iI 0), .int (iI 0), .long (lI 0), .ref hpl, .int (iI 0), .ref hpd, .int (iI 0), .ref htx, .int (iI 0), .int (iI 0), .int (iI (-1)), .int (iI (-1)), .int (iI 0), .ref htd, .int (iI 0), .ref hrw, .ref hrl, .ref hir])), (hg, .inl (k 0, 1460, .inl (aI g0F)))] sz) (va_Qi (fun (r : Int32) (_ : Unit) => r = iI 0) (QB (dC, dI) [(h0, .inr (11, [.ref hg, .long (lI 0), .ref hk, .long (lI 0), .int (iI 0), .ref hp, .ref hpu, .int (iI 0), .ref hs, .long (lI 0), .int (iI 0), .int (iI 0), .int (iI 0), .int (iI 0), .int (iI 0), .long (lI 0), .ref hpl, .int (iI 0), .ref hpd, .int (iI 0), .ref htx, .int (iI 0), .int (iI 0), .int (iI (-1)), .int (iI (-1)), .int (iI 0), .ref htd, .int (iI 0), .ref hrw, .ref hrl, .ref hir])), (hg, .inl (k 0, 1460, .inl (aI g0F)))] (fun _ => [(h0, .inr (11, [.ref hg, .long (lI 0), .ref hk, .long (lI 0), .int (iI 0), .ref hp, .ref hpu, .int (iI 0), .ref hs, .long (lI 0), .int (iI 0), .int (iI 0), .int (iI 0), .int (iI 0), .int (iI 0), .long (lI 0), .ref hpl, .int (iI 0), .ref hpd, .int (iI 0), .ref htx, .int (iI 0), .int (iI 0), .int (iI (-1)), .int (iI (-1)), .int (iI 0), .ref htd, .int (iI 0), .ref hrw, .ref hrl, .ref hir]))]) sz) (va_A [(h0, .inr (11, [.ref hg, .long (lI 0), .ref hk, .long (lI 0), .int (iI 0), .ref hp, .ref hpu, .int (iI 0), .ref hs, .long (lI 0), .int (iI 0), .int (iI 0), .int (iI 0), .int (iI 0), .int (iI 0), .long (lI 0), .ref hpl, .int (iI 0), .ref hpd, .int (iI 0), .ref htx, .int (iI 0), .int (iI 0), .int (iI (-1)), .int (iI (-1)), .int (iI 0), .ref htd, .int (iI 0), .ref hrw, .ref hrl, .ref hir])), (hg, .inl (k 0, 1460, .inl (aI g0F)))] sz)) 0 0 (va_A [(h0, .inr (11, [.ref hg, .long (lI 0), .ref hk, .long (lI 0), .int (iI 0), .ref hp, .ref hpu, .int (iI 0), .ref hs, .long (lI 0), .int (iI 0), .int (iI 0), .int (iI 0), .int (iI 0), .int (iI 0), .long (lI 0), .ref hpl, .int (iI 0), .ref hpd, .int (iI 0), .ref htx, .int (iI 0), .int (iI 0), .int (iI (-1)), .int (iI (-1)), .int (iI 0), .ref htd, .int (iI 0), .ref hrw, .ref hrl, .ref hir])), (hg, .inl (k 0, 1460, .inl (aI g0F)))] sz) := by
  refine Met.ofW (cc := cX11_condition) (maxL := 1) (ret := (some .int)) (by decide) rfl ?_
  intro p e s mI args below meth cO s₁ B hml hv
  obtain ⟨rfl, rfl, hP, hD0, hE⟩ := hv
  have hx := B.exec
  have hb := B.bytes
  have hr := B.returns
  have hts := atoms_spec (ws := woX11_condition) B.pre
  have hown : s.vm.findClass RX11 = some mI.cls := findClass_of_methodNamed B.named
  have hlocks := B.notSynchronized
  have hD := hD0.self (sz := s.heap.size)
  generalize hAe : va_A [(h0, .inr (11, [.ref hg, .long (lI 0), .ref hk, .long (lI 0), .int (iI 0), .ref hp, .ref hpu, .int (iI 0), .ref hs, .long (lI 0), .int (iI 0), .int (iI 0), .int (iI 0), .int (iI 0), .int (iI 0), .long (lI 0), .ref hpl, .int (iI 0), .ref hpd, .int (iI 0), .ref htx, .int (iI 0), .int (iI 0), .int (iI (-1)), .int (iI (-1)), .int (iI 0), .ref htd, .int (iI 0), .ref hrw, .ref hrl, .ref hir])), (hg, .inl (k 0, 1460, .inl (aI g0F)))] s.heap.size = A at hD hE ⊢
  have hA : ∀ q : Nat, s.heap.size ≤ q → A q := fun q h => by rw [← hAe]; exact Or.inr h
  have hS : va_S A s.heap s.heap [] := va_S.rf
  obtain ⟨hK, hNw, hNc, hZs, hAO1, hAO2⟩ := id hE
  have hSF : CallFix p mI cO cX11_condition 1 s ([.ref h0] : List Value).toArray woX11_condition RX11 := ⟨hx, hb, hml, hown, hts⟩
  have hl := lv_entry ([.ref h0] : List Value) (n := 1) (Nat.le_of_ble_eq_true rfl)
  rw [lg_entry_eq]
  generalize (lg_sl ([.ref h0] : List Value) ++ List.replicate (1 - (lg_sl ([.ref h0] : List Value)).length) Slot.unset).toArray = ls at hl ⊢
  have hl : lv_has ls 1 [(0, .ref h0)] := hl
  refine W_gen (fun Q hQ => ?_)
  change W p l e ({ frames := 0, cells := 0, slots := 0, locals := 0 } : Room) s mI _ below meth cO s.heap [] 0 0 Q _
  have hP : va_P (dC, dI) vwCl [(h0, .inr (11, [.ref hg, .long (lI 0), .ref hk, .long (lI 0), .int (iI 0), .ref hp, .ref hpu, .int (iI 0), .ref hs, .long (lI 0), .int (iI 0), .int (iI 0), .int (iI 0), .int (iI 0), .int (iI 0), .long (lI 0), .ref hpl, .int (iI 0), .ref hpd, .int (iI 0), .ref htx, .int (iI 0), .int (iI 0), .int (iI (-1)), .int (iI (-1)), .int (iI 0), .ref htd, .int (iI 0), .ref hrw, .ref hrl, .ref hir])), (hg, .inl (k 0, 1460, .inl (aI g0F)))] s.heap := hP
  refine lv_aload_n hx hb dX11_condition_0 rfl (lv_at hl 0 rfl) ?_
  refine q_iconst hx hb dX11_condition_1 ?_
  refine va_put (D := (dC, dI)) (ci := 11) (v := .int (iI 0)) (ty := .int) (C := RX11) (T := TX11) (N := 31) hx hb hts (fun _ h => List.mem_cons_of_mem _ (inlX11 _ h)) tyX11 tyX11_ok nmX11 hown hK hP hD hS 0 rfl rfl 11 (by decide) (hts (.fieldLink RX11 56 "LoanServicingModel" "thrown" "I") (List.mem_cons_of_mem _ (wl_13 (List.mem_of_getElem? (i := 12) rfl)))) (fun _ h9 => h9) rfl (by decide +kernel) rfl rfl (Nat.le_of_ble_eq_true rfl) dX11_condition_2 (fun H locs hP hD hS => ?_)
  have hP : va_P (dC, dI) vwCl [(h0, .inr (11, [.ref hg, .long (lI 0), .ref hk, .long (lI 0), .int (iI 0), .ref hp, .ref hpu, .int (iI 0), .ref hs, .long (lI 0), .int (iI 0), .int (iI 0), .int (iI 0), .int (iI 0), .int (iI 0), .long (lI 0), .ref hpl, .int (iI 0), .ref hpd, .int (iI 0), .ref htx, .int (iI 0), .int (iI 0), .int (iI (-1)), .int (iI (-1)), .int (iI 0), .ref htd, .int (iI 0), .ref hrw, .ref hrl, .ref hir])), (hg, .inl (k 0, 1460, .inl (aI g0F)))] H := hP
  have hD : va_D A [(h0, .inr (11, [.ref hg, .long (lI 0), .ref hk, .long (lI 0), .int (iI 0), .ref hp, .ref hpu, .int (iI 0), .ref hs, .long (lI 0), .int (iI 0), .int (iI 0), .int (iI 0), .int (iI 0), .int (iI 0), .long (lI 0), .ref hpl, .int (iI 0), .ref hpd, .int (iI 0), .ref htx, .int (iI 0), .int (iI 0), .int (iI (-1)), .int (iI (-1)), .int (iI 0), .ref htd, .int (iI 0), .ref hrw, .ref hrl, .ref hir])), (hg, .inl (k 0, 1460, .inl (aI g0F)))] := hD
  refine lv_aload_n hx hb dX11_condition_5 rfl (lv_at hl 0 rfl) ?_
  refine va_get (D := (dC, dI)) (ci := 11) (v := .ref hg) (C := RX11) (T := TX11) (N := 31) hx hb hts (fun _ h => List.mem_cons_of_mem _ (inlX11 _ h)) hown hK hP 0 rfl rfl 0 (by decide) (hts (.fieldLink RX11 7 "LoanServicingModel" "g" "[I") (List.mem_cons_of_mem _ (wl_5 (List.mem_of_getElem? (i := 8) rfl)))) (fun _ h9 => h9) rfl dX11_condition_6 ?_
  refine q_iconst hx hb dX11_condition_9 ?_
  refine q_iald (z := 0) hx hb hK hP 1 0 rfl rfl (by omega) (by decide) dX11_condition_10 ?_
  refine q_if_ne (tgt := 16) hx hb dX11_condition_11 (by decide) (by omega) (fun q => absurd q (by omega)) (fun _ => ?_)
  refine q_iconst hx hb dX11_condition_14 ?_
  rw [hQ]
  refine W.widen (k := 0) (n := 0) (Nat.le_of_ble_eq_true rfl) (Nat.le_of_ble_eq_true rfl) ?_
  exact W.iret (v := (iI 0)) hx hb hr (fun t ht hW => ⟨⟨(iI 0), (), rfl, rfl, by rw [ht]; exact hP.sub [0] rfl, by rw [hAe]; exact hD.sub [0] (by decide) rfl⟩, hS.F ht⟩) hS.2.2 dX11_condition_15
set_option maxHeartbeats 4000000 in
set_option maxRecDepth 100000 in
/-- the reference: interestShare -/
theorem c_X11_interestShare (l : Launch) (dC : Nat → ClassId) (dI : Nat → Nat → Nat) (k : Nat → ClassId) (h0 hg hk hp hpu hs hpl hpd htx htd hrw hrl hir : Nat) (sz : Nat) : Met l yX11_interestShare woX11_interestShare ({ frames := 0, cells := 0, slots := 0, locals := 0 } : Room) (PcW (dC, dI) k [.ref h0] [(h0, .inr (11, [.ref hg, .long (lI 0), .ref hk, .long (lI 0), .int (iI 0), .ref hp, .ref hpu, .int (iI 0), .ref hs, .long (lI 0), .int (iI 0), .int (iI 0), .int (iI 0), .int (iI 0), .int (iI 0), .long (lI 0), .ref hpl, .int (iI 0), .ref hpd, .int (iI 0), .ref htx, .int (iI 0), .int (iI 0), .int (iI (-1)), .int (iI (-1)), .int (iI 0), .ref htd, .int (iI 0), .ref hrw, .ref hrl, .ref hir])), (hg, .inl (k 0, 1460, .inl (aI g0F)))] sz) (va_Qd (fun (r : UInt64) (_ : Unit) => r = FP.dconst0) (QB (dC, dI) [(h0, .inr (11, [.ref hg, .long (lI 0), .ref hk, .long (lI 0), .int (iI 0), .ref hp, .ref hpu, .int (iI 0), .ref hs, .long (lI 0), .int (iI 0), .int (iI 0), .int (iI 0), .int (iI 0), .int (iI 0), .long (lI 0), .ref hpl, .int (iI 0), .ref hpd, .int (iI 0), .ref htx, .int (iI 0), .int (iI 0), .int (iI (-1)), .int (iI (-1)), .int (iI 0), .ref htd, .int (iI 0), .ref hrw, .ref hrl, .ref hir])), (hg, .inl (k 0, 1460, .inl (aI g0F)))] (fun _ => [(h0, .inr (11, [.ref hg, .long (lI 0), .ref hk, .long (lI 0), .int (iI 0), .ref hp, .ref hpu, .int (iI 0), .ref hs, .long (lI 0), .int (iI 0), .int (iI 1), .int (iI 0), .int (iI 0), .int (iI 0), .long (lI 0), .ref hpl, .int (iI 0), .ref hpd, .int (iI 0), .ref htx, .int (iI 0), .int (iI 0), .int (iI (-1)), .int (iI (-1)), .int (iI 0), .ref htd, .int (iI 0), .ref hrw, .ref hrl, .ref hir]))]) sz) (va_A [(h0, .inr (11, [.ref hg, .long (lI 0), .ref hk, .long (lI 0), .int (iI 0), .ref hp, .ref hpu, .int (iI 0), .ref hs, .long (lI 0), .int (iI 0), .int (iI 0), .int (iI 0), .int (iI 0), .int (iI 0), .long (lI 0), .ref hpl, .int (iI 0), .ref hpd, .int (iI 0), .ref htx, .int (iI 0), .int (iI 0), .int (iI (-1)), .int (iI (-1)), .int (iI 0), .ref htd, .int (iI 0), .ref hrw, .ref hrl, .ref hir])), (hg, .inl (k 0, 1460, .inl (aI g0F)))] sz)) 0 0 (va_A [(h0, .inr (11, [.ref hg, .long (lI 0), .ref hk, .long (lI 0), .int (iI 0), .ref hp, .ref hpu, .int (iI 0), .ref hs, .long (lI 0), .int (iI 0), .int (iI 0), .int (iI 0), .int (iI 0), .int (iI 0), .long (lI 0), .ref hpl, .int (iI 0), .ref hpd, .int (iI 0), .ref htx, .int (iI 0), .int (iI 0), .int (iI (-1)), .int (iI (-1)), .int (iI 0), .ref htd, .int (iI 0), .ref hrw, .ref hrl, .ref hir])), (hg, .inl (k 0, 1460, .inl (aI g0F)))] sz) := by
  refine Met.ofW (cc := cX11_interestShare) (maxL := 1) (ret := (some .double)) (by decide) rfl ?_
  intro p e s mI args below meth cO s₁ B hml hv
  obtain ⟨rfl, rfl, hP, hD0, hE⟩ := hv
  have hx := B.exec
  have hb := B.bytes
  have hr := B.returns
  have hts := atoms_spec (ws := woX11_interestShare) B.pre
  have hown : s.vm.findClass RX11 = some mI.cls := findClass_of_methodNamed B.named
  have hlocks := B.notSynchronized
  have hD := hD0.self (sz := s.heap.size)
  generalize hAe : va_A [(h0, .inr (11, [.ref hg, .long (lI 0), .ref hk, .long (lI 0), .int (iI 0), .ref hp, .ref hpu, .int (iI 0), .ref hs, .long (lI 0), .int (iI 0), .int (iI 0), .int (iI 0), .int (iI 0), .int (iI 0), .long (lI 0), .ref hpl, .int (iI 0), .ref hpd, .int (iI 0), .ref htx, .int (iI 0), .int (iI 0), .int (iI (-1)), .int (iI (-1)), .int (iI 0), .ref htd, .int (iI 0), .ref hrw, .ref hrl, .ref hir])), (hg, .inl (k 0, 1460, .inl (aI g0F)))] s.heap.size = A at hD hE ⊢
  have hA : ∀ q : Nat, s.heap.size ≤ q → A q := fun q h => by rw [← hAe]; exact Or.inr h
  have hS : va_S A s.heap s.heap [] := va_S.rf
  obtain ⟨hK, hNw, hNc, hZs, hAO1, hAO2⟩ := id hE
  have hSF : CallFix p mI cO cX11_interestShare 1 s ([.ref h0] : List Value).toArray woX11_interestShare RX11 := ⟨hx, hb, hml, hown, hts⟩
  have hl := lv_entry ([.ref h0] : List Value) (n := 1) (Nat.le_of_ble_eq_true rfl)
  rw [lg_entry_eq]
  generalize (lg_sl ([.ref h0] : List Value) ++ List.replicate (1 - (lg_sl ([.ref h0] : List Value)).length) Slot.unset).toArray = ls at hl ⊢
  have hl : lv_has ls 1 [(0, .ref h0)] := hl
  refine W_gen (fun Q hQ => ?_)
  change W p l e ({ frames := 0, cells := 0, slots := 0, locals := 0 } : Room) s mI _ below meth cO s.heap [] 0 0 Q _
  have hP : va_P (dC, dI) vwCl [(h0, .inr (11, [.ref hg, .long (lI 0), .ref hk, .long (lI 0), .int (iI 0), .ref hp, .ref hpu, .int (iI 0), .ref hs, .long (lI 0), .int (iI 0), .int (iI 0), .int (iI 0), .int (iI 0), .int (iI 0), .long (lI 0), .ref hpl, .int (iI 0), .ref hpd, .int (iI 0), .ref htx, .int (iI 0), .int (iI 0), .int (iI (-1)), .int (iI (-1)), .int (iI 0), .ref htd, .int (iI 0), .ref hrw, .ref hrl, .ref hir])), (hg, .inl (k 0, 1460, .inl (aI g0F)))] s.heap := hP
  refine lv_aload_n hx hb dX11_interestShare_0 rfl (lv_at hl 0 rfl) ?_
  refine lv_aload_n hx hb dX11_interestShare_1 rfl (lv_at hl 0 rfl) ?_
  refine va_get (D := (dC, dI)) (ci := 11) (v := .ref hg) (C := RX11) (T := TX11) (N := 31) hx hb hts (fun _ h => List.mem_cons_of_mem _ (inlX11 _ h)) hown hK hP 0 rfl rfl 0 (by decide) (hts (.fieldLink RX11 7 "LoanServicingModel" "g" "[I") (List.mem_cons_of_mem _ (wl_5 (List.mem_of_getElem? (i := 8) rfl)))) (fun _ h9 => h9) rfl dX11_interestShare_2 ?_
  refine q_bipush (z := 20) hx hb dX11_interestShare_5 (by decide) ?_
  refine q_iald (z := 0) hx hb hK hP 1 0 rfl rfl (by omega) (by decide) dX11_interestShare_7 ?_
  refine q_if_ne (tgt := 15) hx hb dX11_interestShare_8 (by decide) (by omega) (fun q => absurd q (by omega)) (fun _ => ?_)
  refine q_iconst hx hb dX11_interestShare_11 ?_
  refine lv_goto (tgt := 16) hx hb dX11_interestShare_12 (by decide) ?_
  refine va_put (D := (dC, dI)) (ci := 11) (v := .int (iI 1)) (ty := .int) (C := RX11) (T := TX11) (N := 31) hx hb hts (fun _ h => List.mem_cons_of_mem _ (inlX11 _ h)) tyX11 tyX11_ok nmX11 hown hK hP hD hS 0 rfl rfl 11 (by decide) (hts (.fieldLink RX11 56 "LoanServicingModel" "thrown" "I") (List.mem_cons_of_mem _ (wl_13 (List.mem_of_getElem? (i := 12) rfl)))) (fun _ h9 => h9) rfl (by decide +kernel) rfl rfl (Nat.le_of_ble_eq_true rfl) dX11_interestShare_16 (fun H locs hP hD hS => ?_)
  have hP : va_P (dC, dI) vwCl [(h0, .inr (11, [.ref hg, .long (lI 0), .ref hk, .long (lI 0), .int (iI 0), .ref hp, .ref hpu, .int (iI 0), .ref hs, .long (lI 0), .int (iI 0), .int (iI 1), .int (iI 0), .int (iI 0), .int (iI 0), .long (lI 0), .ref hpl, .int (iI 0), .ref hpd, .int (iI 0), .ref htx, .int (iI 0), .int (iI 0), .int (iI (-1)), .int (iI (-1)), .int (iI 0), .ref htd, .int (iI 0), .ref hrw, .ref hrl, .ref hir])), (hg, .inl (k 0, 1460, .inl (aI g0F)))] H := hP
  have hD : va_D A [(h0, .inr (11, [.ref hg, .long (lI 0), .ref hk, .long (lI 0), .int (iI 0), .ref hp, .ref hpu, .int (iI 0), .ref hs, .long (lI 0), .int (iI 0), .int (iI 1), .int (iI 0), .int (iI 0), .int (iI 0), .long (lI 0), .ref hpl, .int (iI 0), .ref hpd, .int (iI 0), .ref htx, .int (iI 0), .int (iI 0), .int (iI (-1)), .int (iI (-1)), .int (iI 0), .ref htd, .int (iI 0), .ref hrw, .ref hrl, .ref hir])), (hg, .inl (k 0, 1460, .inl (aI g0F)))] := hD
  refine lv_aload_n hx hb dX11_interestShare_19 rfl (lv_at hl 0 rfl) ?_
  refine va_get (D := (dC, dI)) (ci := 11) (v := .int (iI 1)) (C := RX11) (T := TX11) (N := 31) hx hb hts (fun _ h => List.mem_cons_of_mem _ (inlX11 _ h)) hown hK hP 0 rfl rfl 11 (by decide) (hts (.fieldLink RX11 56 "LoanServicingModel" "thrown" "I") (List.mem_cons_of_mem _ (wl_13 (List.mem_of_getElem? (i := 12) rfl)))) (fun _ h9 => h9) rfl dX11_interestShare_20 ?_
  refine q_if_le (tgt := 30) hx hb dX11_interestShare_23 (by decide) (by omega) (fun q => absurd q (by omega)) (fun _ => ?_)
  refine lv_dconst0 hx hb dX11_interestShare_26 ?_
  refine lv_goto (tgt := 47) hx hb dX11_interestShare_27 (by decide) ?_
  rw [hQ]
  refine W.widen (k := 0) (n := 0) (Nat.le_of_ble_eq_true rfl) (Nat.le_of_ble_eq_true rfl) ?_
  exact W.dret (v := FP.dconst0) hx hb hr (fun t ht hW => ⟨⟨FP.dconst0, (), rfl, rfl, by rw [ht]; exact hP.sub [0] rfl, by rw [hAe]; exact hD.sub [0] (by decide) rfl⟩, hS.F ht⟩) hS.2.2 dX11_interestShare_47
set_option maxHeartbeats 4000000 in
set_option maxRecDepth 100000 in
/-- the reference: progress -/
theorem c_X11_progress (l : Launch) (dC : Nat → ClassId) (dI : Nat → Nat → Nat) (k : Nat → ClassId) (h0 hg hk hp hpu hs hpl hpd htx htd hrw hrl hir : Nat) (sz : Nat) : Met l yX11_progress woX11_progress ({ frames := 0, cells := 0, slots := 0, locals := 0 } : Room) (PcW (dC, dI) k [.ref h0] [(h0, .inr (11, [.ref hg, .long (lI 0), .ref hk, .long (lI 0), .int (iI 0), .ref hp, .ref hpu, .int (iI 0), .ref hs, .long (lI 0), .int (iI 0), .int (iI 0), .int (iI 0), .int (iI 0), .int (iI 0), .long (lI 0), .ref hpl, .int (iI 0), .ref hpd, .int (iI 0), .ref htx, .int (iI 0), .int (iI 0), .int (iI (-1)), .int (iI (-1)), .int (iI 0), .ref htd, .int (iI 0), .ref hrw, .ref hrl, .ref hir])), (hg, .inl (k 0, 1460, .inl (aI g0F)))] sz) (va_Qf (fun (r : UInt32) (_ : Unit) => r = FP.fconst0) (QB (dC, dI) [(h0, .inr (11, [.ref hg, .long (lI 0), .ref hk, .long (lI 0), .int (iI 0), .ref hp, .ref hpu, .int (iI 0), .ref hs, .long (lI 0), .int (iI 0), .int (iI 0), .int (iI 0), .int (iI 0), .int (iI 0), .long (lI 0), .ref hpl, .int (iI 0), .ref hpd, .int (iI 0), .ref htx, .int (iI 0), .int (iI 0), .int (iI (-1)), .int (iI (-1)), .int (iI 0), .ref htd, .int (iI 0), .ref hrw, .ref hrl, .ref hir])), (hg, .inl (k 0, 1460, .inl (aI g0F)))] (fun _ => [(h0, .inr (11, [.ref hg, .long (lI 0), .ref hk, .long (lI 0), .int (iI 0), .ref hp, .ref hpu, .int (iI 0), .ref hs, .long (lI 0), .int (iI 0), .int (iI 1), .int (iI 0), .int (iI 0), .int (iI 0), .long (lI 0), .ref hpl, .int (iI 0), .ref hpd, .int (iI 0), .ref htx, .int (iI 0), .int (iI 0), .int (iI (-1)), .int (iI (-1)), .int (iI 0), .ref htd, .int (iI 0), .ref hrw, .ref hrl, .ref hir]))]) sz) (va_A [(h0, .inr (11, [.ref hg, .long (lI 0), .ref hk, .long (lI 0), .int (iI 0), .ref hp, .ref hpu, .int (iI 0), .ref hs, .long (lI 0), .int (iI 0), .int (iI 0), .int (iI 0), .int (iI 0), .int (iI 0), .long (lI 0), .ref hpl, .int (iI 0), .ref hpd, .int (iI 0), .ref htx, .int (iI 0), .int (iI 0), .int (iI (-1)), .int (iI (-1)), .int (iI 0), .ref htd, .int (iI 0), .ref hrw, .ref hrl, .ref hir])), (hg, .inl (k 0, 1460, .inl (aI g0F)))] sz)) 0 0 (va_A [(h0, .inr (11, [.ref hg, .long (lI 0), .ref hk, .long (lI 0), .int (iI 0), .ref hp, .ref hpu, .int (iI 0), .ref hs, .long (lI 0), .int (iI 0), .int (iI 0), .int (iI 0), .int (iI 0), .int (iI 0), .long (lI 0), .ref hpl, .int (iI 0), .ref hpd, .int (iI 0), .ref htx, .int (iI 0), .int (iI 0), .int (iI (-1)), .int (iI (-1)), .int (iI 0), .ref htd, .int (iI 0), .ref hrw, .ref hrl, .ref hir])), (hg, .inl (k 0, 1460, .inl (aI g0F)))] sz) := by
  refine Met.ofW (cc := cX11_progress) (maxL := 1) (ret := (some .float)) (by decide) rfl ?_
  intro p e s mI args below meth cO s₁ B hml hv
  obtain ⟨rfl, rfl, hP, hD0, hE⟩ := hv
  have hx := B.exec
  have hb := B.bytes
  have hr := B.returns
  have hts := atoms_spec (ws := woX11_progress) B.pre
  have hown : s.vm.findClass RX11 = some mI.cls := findClass_of_methodNamed B.named
  have hlocks := B.notSynchronized
  have hD := hD0.self (sz := s.heap.size)
  generalize hAe : va_A [(h0, .inr (11, [.ref hg, .long (lI 0), .ref hk, .long (lI 0), .int (iI 0), .ref hp, .ref hpu, .int (iI 0), .ref hs, .long (lI 0), .int (iI 0), .int (iI 0), .int (iI 0), .int (iI 0), .int (iI 0), .long (lI 0), .ref hpl, .int (iI 0), .ref hpd, .int (iI 0), .ref htx, .int (iI 0), .int (iI 0), .int (iI (-1)), .int (iI (-1)), .int (iI 0), .ref htd, .int (iI 0), .ref hrw, .ref hrl, .ref hir])), (hg, .inl (k 0, 1460, .inl (aI g0F)))] s.heap.size = A at hD hE ⊢
  have hA : ∀ q : Nat, s.heap.size ≤ q → A q := fun q h => by rw [← hAe]; exact Or.inr h
  have hS : va_S A s.heap s.heap [] := va_S.rf
  obtain ⟨hK, hNw, hNc, hZs, hAO1, hAO2⟩ := id hE
  have hSF : CallFix p mI cO cX11_progress 1 s ([.ref h0] : List Value).toArray woX11_progress RX11 := ⟨hx, hb, hml, hown, hts⟩
  have hl := lv_entry ([.ref h0] : List Value) (n := 1) (Nat.le_of_ble_eq_true rfl)
  rw [lg_entry_eq]
  generalize (lg_sl ([.ref h0] : List Value) ++ List.replicate (1 - (lg_sl ([.ref h0] : List Value)).length) Slot.unset).toArray = ls at hl ⊢
  have hl : lv_has ls 1 [(0, .ref h0)] := hl
  refine W_gen (fun Q hQ => ?_)
  change W p l e ({ frames := 0, cells := 0, slots := 0, locals := 0 } : Room) s mI _ below meth cO s.heap [] 0 0 Q _
  have hP : va_P (dC, dI) vwCl [(h0, .inr (11, [.ref hg, .long (lI 0), .ref hk, .long (lI 0), .int (iI 0), .ref hp, .ref hpu, .int (iI 0), .ref hs, .long (lI 0), .int (iI 0), .int (iI 0), .int (iI 0), .int (iI 0), .int (iI 0), .long (lI 0), .ref hpl, .int (iI 0), .ref hpd, .int (iI 0), .ref htx, .int (iI 0), .int (iI 0), .int (iI (-1)), .int (iI (-1)), .int (iI 0), .ref htd, .int (iI 0), .ref hrw, .ref hrl, .ref hir])), (hg, .inl (k 0, 1460, .inl (aI g0F)))] s.heap := hP
  refine lv_aload_n hx hb dX11_progress_0 rfl (lv_at hl 0 rfl) ?_
  refine lv_aload_n hx hb dX11_progress_1 rfl (lv_at hl 0 rfl) ?_
  refine va_get (D := (dC, dI)) (ci := 11) (v := .ref hg) (C := RX11) (T := TX11) (N := 31) hx hb hts (fun _ h => List.mem_cons_of_mem _ (inlX11 _ h)) hown hK hP 0 rfl rfl 0 (by decide) (hts (.fieldLink RX11 7 "LoanServicingModel" "g" "[I") (List.mem_cons_of_mem _ (wl_5 (List.mem_of_getElem? (i := 8) rfl)))) (fun _ h9 => h9) rfl dX11_progress_2 ?_
  refine q_iconst hx hb dX11_progress_5 ?_
  refine q_iald (z := 0) hx hb hK hP 1 0 rfl rfl (by omega) (by decide) dX11_progress_6 ?_
  refine q_if_ne (tgt := 14) hx hb dX11_progress_7 (by decide) (by omega) (fun q => absurd q (by omega)) (fun _ => ?_)
  refine q_iconst hx hb dX11_progress_10 ?_
  refine lv_goto (tgt := 15) hx hb dX11_progress_11 (by decide) ?_
  refine va_put (D := (dC, dI)) (ci := 11) (v := .int (iI 1)) (ty := .int) (C := RX11) (T := TX11) (N := 31) hx hb hts (fun _ h => List.mem_cons_of_mem _ (inlX11 _ h)) tyX11 tyX11_ok nmX11 hown hK hP hD hS 0 rfl rfl 11 (by decide) (hts (.fieldLink RX11 56 "LoanServicingModel" "thrown" "I") (List.mem_cons_of_mem _ (wl_13 (List.mem_of_getElem? (i := 12) rfl)))) (fun _ h9 => h9) rfl (by decide +kernel) rfl rfl (Nat.le_of_ble_eq_true rfl) dX11_progress_15 (fun H locs hP hD hS => ?_)
  have hP : va_P (dC, dI) vwCl [(h0, .inr (11, [.ref hg, .long (lI 0), .ref hk, .long (lI 0), .int (iI 0), .ref hp, .ref hpu, .int (iI 0), .ref hs, .long (lI 0), .int (iI 0), .int (iI 1), .int (iI 0), .int (iI 0), .int (iI 0), .long (lI 0), .ref hpl, .int (iI 0), .ref hpd, .int (iI 0), .ref htx, .int (iI 0), .int (iI 0), .int (iI (-1)), .int (iI (-1)), .int (iI 0), .ref htd, .int (iI 0), .ref hrw, .ref hrl, .ref hir])), (hg, .inl (k 0, 1460, .inl (aI g0F)))] H := hP
  have hD : va_D A [(h0, .inr (11, [.ref hg, .long (lI 0), .ref hk, .long (lI 0), .int (iI 0), .ref hp, .ref hpu, .int (iI 0), .ref hs, .long (lI 0), .int (iI 0), .int (iI 1), .int (iI 0), .int (iI 0), .int (iI 0), .long (lI 0), .ref hpl, .int (iI 0), .ref hpd, .int (iI 0), .ref htx, .int (iI 0), .int (iI 0), .int (iI (-1)), .int (iI (-1)), .int (iI 0), .ref htd, .int (iI 0), .ref hrw, .ref hrl, .ref hir])), (hg, .inl (k 0, 1460, .inl (aI g0F)))] := hD
  refine lv_aload_n hx hb dX11_progress_18 rfl (lv_at hl 0 rfl) ?_
  refine va_get (D := (dC, dI)) (ci := 11) (v := .int (iI 1)) (C := RX11) (T := TX11) (N := 31) hx hb hts (fun _ h => List.mem_cons_of_mem _ (inlX11 _ h)) hown hK hP 0 rfl rfl 11 (by decide) (hts (.fieldLink RX11 56 "LoanServicingModel" "thrown" "I") (List.mem_cons_of_mem _ (wl_13 (List.mem_of_getElem? (i := 12) rfl)))) (fun _ h9 => h9) rfl dX11_progress_19 ?_
  refine q_if_le (tgt := 29) hx hb dX11_progress_22 (by decide) (by omega) (fun q => absurd q (by omega)) (fun _ => ?_)
  refine lv_fconst0 hx hb dX11_progress_25 ?_
  refine lv_goto (tgt := 54) hx hb dX11_progress_26 (by decide) ?_
  rw [hQ]
  refine W.widen (k := 0) (n := 0) (Nat.le_of_ble_eq_true rfl) (Nat.le_of_ble_eq_true rfl) ?_
  exact W.fret (v := FP.fconst0) hx hb hr (fun t ht hW => ⟨⟨FP.fconst0, (), rfl, rfl, by rw [ht]; exact hP.sub [0] rfl, by rw [hAe]; exact hD.sub [0] (by decide) rfl⟩, hS.F ht⟩) hS.2.2 dX11_progress_54
set_option maxHeartbeats 4000000 in
set_option maxRecDepth 100000 in
/-- the reference: plansNow -/
theorem c_X11_plansNow (l : Launch) (dC : Nat → ClassId) (dI : Nat → Nat → Nat) (k : Nat → ClassId) (h0 hg hk hp hpu hs hpl hpd htx htd hrw hrl hir : Nat) (sz : Nat) : Met l yX11_plansNow woX11_plansNow ({ frames := 0, cells := 0, slots := 0, locals := 0 } : Room) (PcW (dC, dI) k [.ref h0] [(h0, .inr (11, [.ref hg, .long (lI 0), .ref hk, .long (lI 0), .int (iI 0), .ref hp, .ref hpu, .int (iI 0), .ref hs, .long (lI 0), .int (iI 0), .int (iI 0), .int (iI 0), .int (iI 0), .int (iI 0), .long (lI 0), .ref hpl, .int (iI 0), .ref hpd, .int (iI 0), .ref htx, .int (iI 0), .int (iI 0), .int (iI (-1)), .int (iI (-1)), .int (iI 0), .ref htd, .int (iI 0), .ref hrw, .ref hrl, .ref hir])), (hg, .inl (k 0, 1460, .inl (aI g0F)))] sz) (va_Qi (fun (r : Int32) (_ : Unit) => r = iI 0) (QB (dC, dI) [(h0, .inr (11, [.ref hg, .long (lI 0), .ref hk, .long (lI 0), .int (iI 0), .ref hp, .ref hpu, .int (iI 0), .ref hs, .long (lI 0), .int (iI 0), .int (iI 0), .int (iI 0), .int (iI 0), .int (iI 0), .long (lI 0), .ref hpl, .int (iI 0), .ref hpd, .int (iI 0), .ref htx, .int (iI 0), .int (iI 0), .int (iI (-1)), .int (iI (-1)), .int (iI 0), .ref htd, .int (iI 0), .ref hrw, .ref hrl, .ref hir])), (hg, .inl (k 0, 1460, .inl (aI g0F)))] (fun _ => [(h0, .inr (11, [.ref hg, .long (lI 0), .ref hk, .long (lI 0), .int (iI 0), .ref hp, .ref hpu, .int (iI 0), .ref hs, .long (lI 0), .int (iI 0), .int (iI 0), .int (iI 0), .int (iI 0), .int (iI 0), .long (lI 0), .ref hpl, .int (iI 0), .ref hpd, .int (iI 0), .ref htx, .int (iI 0), .int (iI 0), .int (iI (-1)), .int (iI (-1)), .int (iI 0), .ref htd, .int (iI 0), .ref hrw, .ref hrl, .ref hir]))]) sz) (va_A [(h0, .inr (11, [.ref hg, .long (lI 0), .ref hk, .long (lI 0), .int (iI 0), .ref hp, .ref hpu, .int (iI 0), .ref hs, .long (lI 0), .int (iI 0), .int (iI 0), .int (iI 0), .int (iI 0), .int (iI 0), .long (lI 0), .ref hpl, .int (iI 0), .ref hpd, .int (iI 0), .ref htx, .int (iI 0), .int (iI 0), .int (iI (-1)), .int (iI (-1)), .int (iI 0), .ref htd, .int (iI 0), .ref hrw, .ref hrl, .ref hir])), (hg, .inl (k 0, 1460, .inl (aI g0F)))] sz)) 0 0 (va_A [(h0, .inr (11, [.ref hg, .long (lI 0), .ref hk, .long (lI 0), .int (iI 0), .ref hp, .ref hpu, .int (iI 0), .ref hs, .long (lI 0), .int (iI 0), .int (iI 0), .int (iI 0), .int (iI 0), .int (iI 0), .long (lI 0), .ref hpl, .int (iI 0), .ref hpd, .int (iI 0), .ref htx, .int (iI 0), .int (iI 0), .int (iI (-1)), .int (iI (-1)), .int (iI 0), .ref htd, .int (iI 0), .ref hrw, .ref hrl, .ref hir])), (hg, .inl (k 0, 1460, .inl (aI g0F)))] sz) := by
  refine Met.ofW (cc := cX11_plansNow) (maxL := 1) (ret := (some .int)) (by decide) rfl ?_
  intro p e s mI args below meth cO s₁ B hml hv
  obtain ⟨rfl, rfl, hP, hD0, hE⟩ := hv
  have hx := B.exec
  have hb := B.bytes
  have hr := B.returns
  have hts := atoms_spec (ws := woX11_plansNow) B.pre
  have hown : s.vm.findClass RX11 = some mI.cls := findClass_of_methodNamed B.named
  have hlocks := B.notSynchronized
  have hD := hD0.self (sz := s.heap.size)
  generalize hAe : va_A [(h0, .inr (11, [.ref hg, .long (lI 0), .ref hk, .long (lI 0), .int (iI 0), .ref hp, .ref hpu, .int (iI 0), .ref hs, .long (lI 0), .int (iI 0), .int (iI 0), .int (iI 0), .int (iI 0), .int (iI 0), .long (lI 0), .ref hpl, .int (iI 0), .ref hpd, .int (iI 0), .ref htx, .int (iI 0), .int (iI 0), .int (iI (-1)), .int (iI (-1)), .int (iI 0), .ref htd, .int (iI 0), .ref hrw, .ref hrl, .ref hir])), (hg, .inl (k 0, 1460, .inl (aI g0F)))] s.heap.size = A at hD hE ⊢
  have hA : ∀ q : Nat, s.heap.size ≤ q → A q := fun q h => by rw [← hAe]; exact Or.inr h
  have hS : va_S A s.heap s.heap [] := va_S.rf
  obtain ⟨hK, hNw, hNc, hZs, hAO1, hAO2⟩ := id hE
  have hSF : CallFix p mI cO cX11_plansNow 1 s ([.ref h0] : List Value).toArray woX11_plansNow RX11 := ⟨hx, hb, hml, hown, hts⟩
  have hl := lv_entry ([.ref h0] : List Value) (n := 1) (Nat.le_of_ble_eq_true rfl)
  rw [lg_entry_eq]
  generalize (lg_sl ([.ref h0] : List Value) ++ List.replicate (1 - (lg_sl ([.ref h0] : List Value)).length) Slot.unset).toArray = ls at hl ⊢
  have hl : lv_has ls 1 [(0, .ref h0)] := hl
  refine W_gen (fun Q hQ => ?_)
  change W p l e ({ frames := 0, cells := 0, slots := 0, locals := 0 } : Room) s mI _ below meth cO s.heap [] 0 0 Q _
  have hP : va_P (dC, dI) vwCl [(h0, .inr (11, [.ref hg, .long (lI 0), .ref hk, .long (lI 0), .int (iI 0), .ref hp, .ref hpu, .int (iI 0), .ref hs, .long (lI 0), .int (iI 0), .int (iI 0), .int (iI 0), .int (iI 0), .int (iI 0), .long (lI 0), .ref hpl, .int (iI 0), .ref hpd, .int (iI 0), .ref htx, .int (iI 0), .int (iI 0), .int (iI (-1)), .int (iI (-1)), .int (iI 0), .ref htd, .int (iI 0), .ref hrw, .ref hrl, .ref hir])), (hg, .inl (k 0, 1460, .inl (aI g0F)))] s.heap := hP
  refine lv_aload_n hx hb dX11_plansNow_0 rfl (lv_at hl 0 rfl) ?_
  refine q_iconst hx hb dX11_plansNow_1 ?_
  refine va_put (D := (dC, dI)) (ci := 11) (v := .int (iI 0)) (ty := .int) (C := RX11) (T := TX11) (N := 31) hx hb hts (fun _ h => List.mem_cons_of_mem _ (inlX11 _ h)) tyX11 tyX11_ok nmX11 hown hK hP hD hS 0 rfl rfl 17 (by decide) (hts (.fieldLink RX11 163 "LoanServicingModel" "planned" "I") (List.mem_cons_of_mem _ (wl_14 (List.mem_of_getElem? (i := 11) rfl)))) (fun _ h9 => h9) rfl (by decide +kernel) rfl rfl (Nat.le_of_ble_eq_true rfl) dX11_plansNow_2 (fun H locs hP hD hS => ?_)
  have hP : va_P (dC, dI) vwCl [(h0, .inr (11, [.ref hg, .long (lI 0), .ref hk, .long (lI 0), .int (iI 0), .ref hp, .ref hpu, .int (iI 0), .ref hs, .long (lI 0), .int (iI 0), .int (iI 0), .int (iI 0), .int (iI 0), .int (iI 0), .long (lI 0), .ref hpl, .int (iI 0), .ref hpd, .int (iI 0), .ref htx, .int (iI 0), .int (iI 0), .int (iI (-1)), .int (iI (-1)), .int (iI 0), .ref htd, .int (iI 0), .ref hrw, .ref hrl, .ref hir])), (hg, .inl (k 0, 1460, .inl (aI g0F)))] H := hP
  have hD : va_D A [(h0, .inr (11, [.ref hg, .long (lI 0), .ref hk, .long (lI 0), .int (iI 0), .ref hp, .ref hpu, .int (iI 0), .ref hs, .long (lI 0), .int (iI 0), .int (iI 0), .int (iI 0), .int (iI 0), .int (iI 0), .long (lI 0), .ref hpl, .int (iI 0), .ref hpd, .int (iI 0), .ref htx, .int (iI 0), .int (iI 0), .int (iI (-1)), .int (iI (-1)), .int (iI 0), .ref htd, .int (iI 0), .ref hrw, .ref hrl, .ref hir])), (hg, .inl (k 0, 1460, .inl (aI g0F)))] := hD
  refine lv_aload_n hx hb dX11_plansNow_5 rfl (lv_at hl 0 rfl) ?_
  refine va_get (D := (dC, dI)) (ci := 11) (v := .ref hg) (C := RX11) (T := TX11) (N := 31) hx hb hts (fun _ h => List.mem_cons_of_mem _ (inlX11 _ h)) hown hK hP 0 rfl rfl 0 (by decide) (hts (.fieldLink RX11 7 "LoanServicingModel" "g" "[I") (List.mem_cons_of_mem _ (wl_5 (List.mem_of_getElem? (i := 8) rfl)))) (fun _ h9 => h9) rfl dX11_plansNow_6 ?_
  refine q_bipush (z := 13) hx hb dX11_plansNow_9 (by decide) ?_
  refine q_iald (z := 0) hx hb hK hP 1 0 rfl rfl (by omega) (by decide) dX11_plansNow_11 ?_
  refine q_if_le (tgt := 36) hx hb dX11_plansNow_12 (by decide) (by omega) (fun _ => ?_) (fun q => absurd q (by omega))
  refine q_iconst hx hb dX11_plansNow_36 ?_
  rw [hQ]
  refine W.widen (k := 0) (n := 0) (Nat.le_of_ble_eq_true rfl) (Nat.le_of_ble_eq_true rfl) ?_
  exact W.iret (v := (iI 0)) hx hb hr (fun t ht hW => ⟨⟨(iI 0), (), rfl, rfl, by rw [ht]; exact hP.sub [0] rfl, by rw [hAe]; exact hD.sub [0] (by decide) rfl⟩, hS.F ht⟩) hS.2.2 dX11_plansNow_37
set_option maxHeartbeats 4000000 in
set_option maxRecDepth 100000 in
/-- the reference: scheduleLength -/
theorem c_X11_scheduleLength (l : Launch) (dC : Nat → ClassId) (dI : Nat → Nat → Nat) (k : Nat → ClassId) (h0 hg hk hp hpu hs hpl hpd htx htd hrw hrl hir : Nat) (sz : Nat) : Met l yX11_scheduleLength woX11_scheduleLength ({ frames := 1, cells := 0, slots := 0, locals := 20 } : Room) (PcW (dC, dI) k [.ref h0] [(h0, .inr (11, [.ref hg, .long (lI 0), .ref hk, .long (lI 0), .int (iI 0), .ref hp, .ref hpu, .int (iI 0), .ref hs, .long (lI 0), .int (iI 0), .int (iI 0), .int (iI 0), .int (iI 0), .int (iI 0), .long (lI 0), .ref hpl, .int (iI 0), .ref hpd, .int (iI 0), .ref htx, .int (iI 0), .int (iI 0), .int (iI (-1)), .int (iI (-1)), .int (iI 0), .ref htd, .int (iI 0), .ref hrw, .ref hrl, .ref hir])), (hg, .inl (k 0, 1460, .inl (aI g0F)))] sz) (va_Qi (fun (r : Int32) (_ : Unit) => r = iI 0) (QB (dC, dI) [(h0, .inr (11, [.ref hg, .long (lI 0), .ref hk, .long (lI 0), .int (iI 0), .ref hp, .ref hpu, .int (iI 0), .ref hs, .long (lI 0), .int (iI 0), .int (iI 0), .int (iI 0), .int (iI 0), .int (iI 0), .long (lI 0), .ref hpl, .int (iI 0), .ref hpd, .int (iI 0), .ref htx, .int (iI 0), .int (iI 0), .int (iI (-1)), .int (iI (-1)), .int (iI 0), .ref htd, .int (iI 0), .ref hrw, .ref hrl, .ref hir])), (hg, .inl (k 0, 1460, .inl (aI g0F)))] (fun _ => [(h0, .inr (11, [.ref hg, .long (lI 0), .ref hk, .long (lI 0), .int (iI 0), .ref hp, .ref hpu, .int (iI 0), .ref hs, .long (lI 0), .int (iI 0), .int (iI 0), .int (iI 0), .int (iI 0), .int (iI 0), .long (lI 0), .ref hpl, .int (iI 0), .ref hpd, .int (iI 0), .ref htx, .int (iI 0), .int (iI 0), .int (iI (-1)), .int (iI (-1)), .int (iI 0), .ref htd, .int (iI 0), .ref hrw, .ref hrl, .ref hir]))]) sz) (va_A [(h0, .inr (11, [.ref hg, .long (lI 0), .ref hk, .long (lI 0), .int (iI 0), .ref hp, .ref hpu, .int (iI 0), .ref hs, .long (lI 0), .int (iI 0), .int (iI 0), .int (iI 0), .int (iI 0), .int (iI 0), .long (lI 0), .ref hpl, .int (iI 0), .ref hpd, .int (iI 0), .ref htx, .int (iI 0), .int (iI 0), .int (iI (-1)), .int (iI (-1)), .int (iI 0), .ref htd, .int (iI 0), .ref hrw, .ref hrl, .ref hir])), (hg, .inl (k 0, 1460, .inl (aI g0F)))] sz)) 0 0 (va_A [(h0, .inr (11, [.ref hg, .long (lI 0), .ref hk, .long (lI 0), .int (iI 0), .ref hp, .ref hpu, .int (iI 0), .ref hs, .long (lI 0), .int (iI 0), .int (iI 0), .int (iI 0), .int (iI 0), .int (iI 0), .long (lI 0), .ref hpl, .int (iI 0), .ref hpd, .int (iI 0), .ref htx, .int (iI 0), .int (iI 0), .int (iI (-1)), .int (iI (-1)), .int (iI 0), .ref htd, .int (iI 0), .ref hrw, .ref hrl, .ref hir])), (hg, .inl (k 0, 1460, .inl (aI g0F)))] sz) := by
  refine Met.ofW (cc := cX11_scheduleLength) (maxL := 1) (ret := (some .int)) (by decide) rfl ?_
  intro p e s mI args below meth cO s₁ B hml hv
  obtain ⟨rfl, rfl, hP, hD0, hE⟩ := hv
  have hx := B.exec
  have hb := B.bytes
  have hr := B.returns
  have hts := atoms_spec (ws := woX11_scheduleLength) B.pre
  have hown : s.vm.findClass RX11 = some mI.cls := findClass_of_methodNamed B.named
  have hlocks := B.notSynchronized
  have hD := hD0.self (sz := s.heap.size)
  generalize hAe : va_A [(h0, .inr (11, [.ref hg, .long (lI 0), .ref hk, .long (lI 0), .int (iI 0), .ref hp, .ref hpu, .int (iI 0), .ref hs, .long (lI 0), .int (iI 0), .int (iI 0), .int (iI 0), .int (iI 0), .int (iI 0), .long (lI 0), .ref hpl, .int (iI 0), .ref hpd, .int (iI 0), .ref htx, .int (iI 0), .int (iI 0), .int (iI (-1)), .int (iI (-1)), .int (iI 0), .ref htd, .int (iI 0), .ref hrw, .ref hrl, .ref hir])), (hg, .inl (k 0, 1460, .inl (aI g0F)))] s.heap.size = A at hD hE ⊢
  have hA : ∀ q : Nat, s.heap.size ≤ q → A q := fun q h => by rw [← hAe]; exact Or.inr h
  have hS : va_S A s.heap s.heap [] := va_S.rf
  obtain ⟨hK, hNw, hNc, hZs, hAO1, hAO2⟩ := id hE
  have hSF : CallFix p mI cO cX11_scheduleLength 1 s ([.ref h0] : List Value).toArray woX11_scheduleLength RX11 := ⟨hx, hb, hml, hown, hts⟩
  have hl := lv_entry ([.ref h0] : List Value) (n := 1) (Nat.le_of_ble_eq_true rfl)
  rw [lg_entry_eq]
  generalize (lg_sl ([.ref h0] : List Value) ++ List.replicate (1 - (lg_sl ([.ref h0] : List Value)).length) Slot.unset).toArray = ls at hl ⊢
  have hl : lv_has ls 1 [(0, .ref h0)] := hl
  refine W_gen (fun Q hQ => ?_)
  change W p l e ({ frames := 1, cells := 0, slots := 0, locals := 20 } : Room) s mI _ below meth cO s.heap [] 0 0 Q _
  have hP : va_P (dC, dI) vwCl [(h0, .inr (11, [.ref hg, .long (lI 0), .ref hk, .long (lI 0), .int (iI 0), .ref hp, .ref hpu, .int (iI 0), .ref hs, .long (lI 0), .int (iI 0), .int (iI 0), .int (iI 0), .int (iI 0), .int (iI 0), .long (lI 0), .ref hpl, .int (iI 0), .ref hpd, .int (iI 0), .ref htx, .int (iI 0), .int (iI 0), .int (iI (-1)), .int (iI (-1)), .int (iI 0), .ref htd, .int (iI 0), .ref hrw, .ref hrl, .ref hir])), (hg, .inl (k 0, 1460, .inl (aI g0F)))] s.heap := hP
  refine lv_aload_n hx hb dX11_scheduleLength_0 rfl (lv_at hl 0 rfl) ?_
  refine q_iconst hx hb dX11_scheduleLength_1 ?_
  refine va_put (D := (dC, dI)) (ci := 11) (v := .int (iI 0)) (ty := .int) (C := RX11) (T := TX11) (N := 31) hx hb hts (fun _ h => List.mem_cons_of_mem _ (inlX11 _ h)) tyX11 tyX11_ok nmX11 hown hK hP hD hS 0 rfl rfl 11 (by decide) (hts (.fieldLink RX11 56 "LoanServicingModel" "thrown" "I") (List.mem_cons_of_mem _ (wl_13 (List.mem_of_getElem? (i := 12) rfl)))) (fun _ h9 => h9) rfl (by decide +kernel) rfl rfl (Nat.le_of_ble_eq_true rfl) dX11_scheduleLength_2 (fun H locs hP hD hS => ?_)
  have hP : va_P (dC, dI) vwCl [(h0, .inr (11, [.ref hg, .long (lI 0), .ref hk, .long (lI 0), .int (iI 0), .ref hp, .ref hpu, .int (iI 0), .ref hs, .long (lI 0), .int (iI 0), .int (iI 0), .int (iI 0), .int (iI 0), .int (iI 0), .long (lI 0), .ref hpl, .int (iI 0), .ref hpd, .int (iI 0), .ref htx, .int (iI 0), .int (iI 0), .int (iI (-1)), .int (iI (-1)), .int (iI 0), .ref htd, .int (iI 0), .ref hrw, .ref hrl, .ref hir])), (hg, .inl (k 0, 1460, .inl (aI g0F)))] H := hP
  have hD : va_D A [(h0, .inr (11, [.ref hg, .long (lI 0), .ref hk, .long (lI 0), .int (iI 0), .ref hp, .ref hpu, .int (iI 0), .ref hs, .long (lI 0), .int (iI 0), .int (iI 0), .int (iI 0), .int (iI 0), .int (iI 0), .long (lI 0), .ref hpl, .int (iI 0), .ref hpd, .int (iI 0), .ref htx, .int (iI 0), .int (iI 0), .int (iI (-1)), .int (iI (-1)), .int (iI 0), .ref htd, .int (iI 0), .ref hrw, .ref hrl, .ref hir])), (hg, .inl (k 0, 1460, .inl (aI g0F)))] := hD
  refine lv_aload_n hx hb dX11_scheduleLength_5 rfl (lv_at hl 0 rfl) ?_
  refine ki (va_runV (As := []) (rest := []) hSF ((c_X11_plansNow l dC dI k h0 hg hk hp hpu hs hpl hpd htx htd hrw hrl hir) H.size) (cwV 0 hts gX11_scheduleLength_X11_plansNow rfl rfl rfl (by decide +kernel) ⟨Nat.le_of_ble_eq_true rfl, Nat.le_of_ble_eq_true rfl⟩) (preV hP hD hE hS hA [0, 1] rfl (by decide) (ci := 11) (q0 := 0) rfl rfl) rfl rfl hl.1 rfl (lv_room (Nat.le_of_ble_eq_true rfl)) dX11_scheduleLength_6 ⟨Nat.le_of_ble_eq_true rfl, Nat.le_of_ble_eq_true rfl⟩) hP hD hS hA [0, 1] [] rfl (wr := []) rfl (by decide) (by decide) (fun r6 _ H locs hw hP hD hS => ?_)
  obtain rfl : r6 = (iI 0) := hw
  have hP : va_P (dC, dI) vwCl [(h0, .inr (11, [.ref hg, .long (lI 0), .ref hk, .long (lI 0), .int (iI 0), .ref hp, .ref hpu, .int (iI 0), .ref hs, .long (lI 0), .int (iI 0), .int (iI 0), .int (iI 0), .int (iI 0), .int (iI 0), .long (lI 0), .ref hpl, .int (iI 0), .ref hpd, .int (iI 0), .ref htx, .int (iI 0), .int (iI 0), .int (iI (-1)), .int (iI (-1)), .int (iI 0), .ref htd, .int (iI 0), .ref hrw, .ref hrl, .ref hir]))] H := hP
  have hD : va_D A [(h0, .inr (11, [.ref hg, .long (lI 0), .ref hk, .long (lI 0), .int (iI 0), .ref hp, .ref hpu, .int (iI 0), .ref hs, .long (lI 0), .int (iI 0), .int (iI 0), .int (iI 0), .int (iI 0), .int (iI 0), .long (lI 0), .ref hpl, .int (iI 0), .ref hpd, .int (iI 0), .ref htx, .int (iI 0), .int (iI 0), .int (iI (-1)), .int (iI (-1)), .int (iI 0), .ref htd, .int (iI 0), .ref hrw, .ref hrl, .ref hir]))] := hD
  refine lv_pop hx hb dX11_scheduleLength_9 rfl ?_
  refine lv_aload_n hx hb dX11_scheduleLength_10 rfl (lv_at hl 0 rfl) ?_
  refine va_get (D := (dC, dI)) (ci := 11) (v := .int (iI 0)) (C := RX11) (T := TX11) (N := 31) hx hb hts (fun _ h => List.mem_cons_of_mem _ (inlX11 _ h)) hown hK hP 0 rfl rfl 17 (by decide) (hts (.fieldLink RX11 163 "LoanServicingModel" "planned" "I") (List.mem_cons_of_mem _ (wl_14 (List.mem_of_getElem? (i := 11) rfl)))) (fun _ h9 => h9) rfl dX11_scheduleLength_11 ?_
  rw [hQ]
  refine W.widen (k := 0) (n := 0) (Nat.le_of_ble_eq_true rfl) (Nat.le_of_ble_eq_true rfl) ?_
  exact W.iret (v := (iI 0)) hx hb hr (fun t ht hW => ⟨⟨(iI 0), (), rfl, rfl, by rw [ht]; exact hP.sub [0] rfl, by rw [hAe]; exact hD.sub [0] (by decide) rfl⟩, hS.F ht⟩) hS.2.2 dX11_scheduleLength_14
set_option maxHeartbeats 4000000 in
set_option maxRecDepth 100000 in
/-- the reference: schedule -/
theorem c_X11_schedule (l : Launch) (dC : Nat → ClassId) (dI : Nat → Nat → Nat) (k : Nat → ClassId) (h0 hg hk hp hpu hs hpl hpd htx htd hrw hrl hir : Nat) (xv xw9 : Int) (hv9 : -2147483648 ≤ xv ∧ xv ≤ 2147483647 ∧ -2147483648 ≤ xw9 ∧ xw9 ≤ 2147483647) (sz : Nat) : Met l yX11_schedule woX11_schedule ({ frames := 1, cells := 0, slots := 0, locals := 22 } : Room) (PcW (dC, dI) k [.ref h0, .int (iI xv), .int (iI xw9)] [(h0, .inr (11, [.ref hg, .long (lI 0), .ref hk, .long (lI 0), .int (iI 0), .ref hp, .ref hpu, .int (iI 0), .ref hs, .long (lI 0), .int (iI 0), .int (iI 0), .int (iI 0), .int (iI 0), .int (iI 0), .long (lI 0), .ref hpl, .int (iI 0), .ref hpd, .int (iI 0), .ref htx, .int (iI 0), .int (iI 0), .int (iI (-1)), .int (iI (-1)), .int (iI 0), .ref htd, .int (iI 0), .ref hrw, .ref hrl, .ref hir])), (hg, .inl (k 0, 1460, .inl (aI g0F)))] sz) (va_Qi (fun (r : Int32) (_ : Unit) => r = iI 0) (QB (dC, dI) [(h0, .inr (11, [.ref hg, .long (lI 0), .ref hk, .long (lI 0), .int (iI 0), .ref hp, .ref hpu, .int (iI 0), .ref hs, .long (lI 0), .int (iI 0), .int (iI 0), .int (iI 0), .int (iI 0), .int (iI 0), .long (lI 0), .ref hpl, .int (iI 0), .ref hpd, .int (iI 0), .ref htx, .int (iI 0), .int (iI 0), .int (iI (-1)), .int (iI (-1)), .int (iI 0), .ref htd, .int (iI 0), .ref hrw, .ref hrl, .ref hir])), (hg, .inl (k 0, 1460, .inl (aI g0F)))] (fun _ => [(h0, .inr (11, [.ref hg, .long (lI 0), .ref hk, .long (lI 0), .int (iI 0), .ref hp, .ref hpu, .int (iI 0), .ref hs, .long (lI 0), .int (iI 0), .int (iI 1), .int (iI 0), .int (iI 0), .int (iI 0), .long (lI 0), .ref hpl, .int (iI 0), .ref hpd, .int (iI 0), .ref htx, .int (iI 0), .int (iI 0), .int (iI (-1)), .int (iI (-1)), .int (iI 0), .ref htd, .int (iI 0), .ref hrw, .ref hrl, .ref hir]))]) sz) (va_A [(h0, .inr (11, [.ref hg, .long (lI 0), .ref hk, .long (lI 0), .int (iI 0), .ref hp, .ref hpu, .int (iI 0), .ref hs, .long (lI 0), .int (iI 0), .int (iI 0), .int (iI 0), .int (iI 0), .int (iI 0), .long (lI 0), .ref hpl, .int (iI 0), .ref hpd, .int (iI 0), .ref htx, .int (iI 0), .int (iI 0), .int (iI (-1)), .int (iI (-1)), .int (iI 0), .ref htd, .int (iI 0), .ref hrw, .ref hrl, .ref hir])), (hg, .inl (k 0, 1460, .inl (aI g0F)))] sz)) 0 0 (va_A [(h0, .inr (11, [.ref hg, .long (lI 0), .ref hk, .long (lI 0), .int (iI 0), .ref hp, .ref hpu, .int (iI 0), .ref hs, .long (lI 0), .int (iI 0), .int (iI 0), .int (iI 0), .int (iI 0), .int (iI 0), .long (lI 0), .ref hpl, .int (iI 0), .ref hpd, .int (iI 0), .ref htx, .int (iI 0), .int (iI 0), .int (iI (-1)), .int (iI (-1)), .int (iI 0), .ref htd, .int (iI 0), .ref hrw, .ref hrl, .ref hir])), (hg, .inl (k 0, 1460, .inl (aI g0F)))] sz) := by
  refine Met.ofW (cc := cX11_schedule) (maxL := 3) (ret := (some .int)) (by decide) rfl ?_
  intro p e s mI args below meth cO s₁ B hml hv
  obtain ⟨rfl, rfl, hP, hD0, hE⟩ := hv
  have hx := B.exec
  have hb := B.bytes
  have hr := B.returns
  have hts := atoms_spec (ws := woX11_schedule) B.pre
  have hown : s.vm.findClass RX11 = some mI.cls := findClass_of_methodNamed B.named
  have hlocks := B.notSynchronized
  have hD := hD0.self (sz := s.heap.size)
  generalize hAe : va_A [(h0, .inr (11, [.ref hg, .long (lI 0), .ref hk, .long (lI 0), .int (iI 0), .ref hp, .ref hpu, .int (iI 0), .ref hs, .long (lI 0), .int (iI 0), .int (iI 0), .int (iI 0), .int (iI 0), .int (iI 0), .long (lI 0), .ref hpl, .int (iI 0), .ref hpd, .int (iI 0), .ref htx, .int (iI 0), .int (iI 0), .int (iI (-1)), .int (iI (-1)), .int (iI 0), .ref htd, .int (iI 0), .ref hrw, .ref hrl, .ref hir])), (hg, .inl (k 0, 1460, .inl (aI g0F)))] s.heap.size = A at hD hE ⊢
  have hA : ∀ q : Nat, s.heap.size ≤ q → A q := fun q h => by rw [← hAe]; exact Or.inr h
  have hS : va_S A s.heap s.heap [] := va_S.rf
  obtain ⟨hK, hNw, hNc, hZs, hAO1, hAO2⟩ := id hE
  have hSF : CallFix p mI cO cX11_schedule 3 s ([.ref h0, .int (iI xv), .int (iI xw9)] : List Value).toArray woX11_schedule RX11 := ⟨hx, hb, hml, hown, hts⟩
  have hl := lv_entry ([.ref h0, .int (iI xv), .int (iI xw9)] : List Value) (n := 3) (Nat.le_of_ble_eq_true rfl)
  rw [lg_entry_eq]
  generalize (lg_sl ([.ref h0, .int (iI xv), .int (iI xw9)] : List Value) ++ List.replicate (3 - (lg_sl ([.ref h0, .int (iI xv), .int (iI xw9)] : List Value)).length) Slot.unset).toArray = ls at hl ⊢
  have hl : lv_has ls 3 [(0, .ref h0), (1, .int (iI xv)), (2, .int (iI xw9))] := hl
  refine W_gen (fun Q hQ => ?_)
  change W p l e ({ frames := 1, cells := 0, slots := 0, locals := 22 } : Room) s mI _ below meth cO s.heap [] 0 0 Q _
  have hP : va_P (dC, dI) vwCl [(h0, .inr (11, [.ref hg, .long (lI 0), .ref hk, .long (lI 0), .int (iI 0), .ref hp, .ref hpu, .int (iI 0), .ref hs, .long (lI 0), .int (iI 0), .int (iI 0), .int (iI 0), .int (iI 0), .int (iI 0), .long (lI 0), .ref hpl, .int (iI 0), .ref hpd, .int (iI 0), .ref htx, .int (iI 0), .int (iI 0), .int (iI (-1)), .int (iI (-1)), .int (iI 0), .ref htd, .int (iI 0), .ref hrw, .ref hrl, .ref hir])), (hg, .inl (k 0, 1460, .inl (aI g0F)))] s.heap := hP
  refine lv_aload_n hx hb dX11_schedule_0 rfl (lv_at hl 0 rfl) ?_
  refine ki (va_runV (As := []) (rest := []) hSF ((c_X11_plansNow l dC dI k h0 hg hk hp hpu hs hpl hpd htx htd hrw hrl hir) s.heap.size) (cwV 0 hts gX11_schedule_X11_plansNow rfl rfl rfl (by decide +kernel) ⟨Nat.le_of_ble_eq_true rfl, Nat.le_of_ble_eq_true rfl⟩) (preV hP hD hE hS hA [0, 1] rfl (by decide) (ci := 11) (q0 := 0) rfl rfl) rfl rfl hl.1 rfl (lv_room (Nat.le_of_ble_eq_true rfl)) dX11_schedule_1 ⟨Nat.le_of_ble_eq_true rfl, Nat.le_of_ble_eq_true rfl⟩) hP hD hS hA [0, 1] [] rfl (wr := []) rfl (by decide) (by decide) (fun r1 _ H locs hw hP hD hS => ?_)
  obtain rfl : r1 = (iI 0) := hw
  have hP : va_P (dC, dI) vwCl [(h0, .inr (11, [.ref hg, .long (lI 0), .ref hk, .long (lI 0), .int (iI 0), .ref hp, .ref hpu, .int (iI 0), .ref hs, .long (lI 0), .int (iI 0), .int (iI 0), .int (iI 0), .int (iI 0), .int (iI 0), .long (lI 0), .ref hpl, .int (iI 0), .ref hpd, .int (iI 0), .ref htx, .int (iI 0), .int (iI 0), .int (iI (-1)), .int (iI (-1)), .int (iI 0), .ref htd, .int (iI 0), .ref hrw, .ref hrl, .ref hir]))] H := hP
  have hD : va_D A [(h0, .inr (11, [.ref hg, .long (lI 0), .ref hk, .long (lI 0), .int (iI 0), .ref hp, .ref hpu, .int (iI 0), .ref hs, .long (lI 0), .int (iI 0), .int (iI 0), .int (iI 0), .int (iI 0), .int (iI 0), .long (lI 0), .ref hpl, .int (iI 0), .ref hpd, .int (iI 0), .ref htx, .int (iI 0), .int (iI 0), .int (iI (-1)), .int (iI (-1)), .int (iI 0), .ref htd, .int (iI 0), .ref hrw, .ref hrl, .ref hir]))] := hD
  refine lv_pop hx hb dX11_schedule_4 rfl ?_
  refine lv_aload_n hx hb dX11_schedule_5 rfl (lv_at hl 0 rfl) ?_
  refine lv_iload_n hx hb dX11_schedule_6 rfl (lv_at hl 1 rfl) ?_
  refine q_iconst hx hb dX11_schedule_7 ?_
  refine lv_aload_n hx hb dX11_schedule_8 rfl (lv_at hl 0 rfl) ?_
  refine va_get (D := (dC, dI)) (ci := 11) (v := .int (iI 0)) (C := RX11) (T := TX11) (N := 31) hx hb hts (fun _ h => List.mem_cons_of_mem _ (inlX11 _ h)) hown hK hP 0 rfl rfl 17 (by decide) (hts (.fieldLink RX11 163 "LoanServicingModel" "planned" "I") (List.mem_cons_of_mem _ (wl_14 (List.mem_of_getElem? (i := 11) rfl)))) (fun _ h9 => h9) rfl dX11_schedule_9 ?_
  refine q_iconst hx hb dX11_schedule_12 ?_
  refine q_isub (z := (-1)) hx hb dX11_schedule_13 (by omega) ?_
  refine ki (va_runS (As := [.int (iI xv), .int (iI 0), .int (iI (-1))]) (rest := [.ref h0]) hSF ((c_X11_in l dC dI k xv 0 (-1) (by omega)) H.size) (va_cwS 3 hts gX11_schedule_X11_in rfl rfl rfl (by decide +kernel) ⟨Nat.le_of_ble_eq_true rfl, Nat.le_of_ble_eq_true rfl⟩) (preS hP hD hE hS hA [] rfl (by decide)) rfl rfl hl.1 rfl (lv_room (Nat.le_of_ble_eq_true rfl)) dX11_schedule_14 ⟨Nat.le_of_ble_eq_true rfl, Nat.le_of_ble_eq_true rfl⟩) hP hD hS hA [] [0] rfl (wr := [(h0, .inr (11, [.ref hg, .long (lI 0), .ref hk, .long (lI 0), .int (iI 0), .ref hp, .ref hpu, .int (iI 0), .ref hs, .long (lI 0), .int (iI 0), .int (iI 0), .int (iI 0), .int (iI 0), .int (iI 0), .long (lI 0), .ref hpl, .int (iI 0), .ref hpd, .int (iI 0), .ref htx, .int (iI 0), .int (iI 0), .int (iI (-1)), .int (iI (-1)), .int (iI 0), .ref htd, .int (iI 0), .ref hrw, .ref hrl, .ref hir]))]) rfl (by decide) (by decide) (fun r14 _ H locs hw hP hD hS => ?_)
  obtain rfl : r14 = iI 0 := hw.trans (by rw [wi0 (by omega)])
  have hP : va_P (dC, dI) vwCl [(h0, .inr (11, [.ref hg, .long (lI 0), .ref hk, .long (lI 0), .int (iI 0), .ref hp, .ref hpu, .int (iI 0), .ref hs, .long (lI 0), .int (iI 0), .int (iI 0), .int (iI 0), .int (iI 0), .int (iI 0), .long (lI 0), .ref hpl, .int (iI 0), .ref hpd, .int (iI 0), .ref htx, .int (iI 0), .int (iI 0), .int (iI (-1)), .int (iI (-1)), .int (iI 0), .ref htd, .int (iI 0), .ref hrw, .ref hrl, .ref hir]))] H := hP
  have hD : va_D A [(h0, .inr (11, [.ref hg, .long (lI 0), .ref hk, .long (lI 0), .int (iI 0), .ref hp, .ref hpu, .int (iI 0), .ref hs, .long (lI 0), .int (iI 0), .int (iI 0), .int (iI 0), .int (iI 0), .int (iI 0), .long (lI 0), .ref hpl, .int (iI 0), .ref hpd, .int (iI 0), .ref htx, .int (iI 0), .int (iI 0), .int (iI (-1)), .int (iI (-1)), .int (iI 0), .ref htd, .int (iI 0), .ref hrw, .ref hrl, .ref hir]))] := hD
  refine q_if_eq (tgt := 37) hx hb dX11_schedule_17 (by decide) (by omega) (fun _ => ?_) (fun q => absurd q (by omega))
  refine q_iconst hx hb dX11_schedule_37 ?_
  refine va_put (D := (dC, dI)) (ci := 11) (v := .int (iI 1)) (ty := .int) (C := RX11) (T := TX11) (N := 31) hx hb hts (fun _ h => List.mem_cons_of_mem _ (inlX11 _ h)) tyX11 tyX11_ok nmX11 hown hK hP hD hS 0 rfl rfl 11 (by decide) (hts (.fieldLink RX11 56 "LoanServicingModel" "thrown" "I") (List.mem_cons_of_mem _ (wl_13 (List.mem_of_getElem? (i := 12) rfl)))) (fun _ h9 => h9) rfl (by decide +kernel) rfl rfl (Nat.le_of_ble_eq_true rfl) dX11_schedule_38 (fun H locs hP hD hS => ?_)
  have hP : va_P (dC, dI) vwCl [(h0, .inr (11, [.ref hg, .long (lI 0), .ref hk, .long (lI 0), .int (iI 0), .ref hp, .ref hpu, .int (iI 0), .ref hs, .long (lI 0), .int (iI 0), .int (iI 1), .int (iI 0), .int (iI 0), .int (iI 0), .long (lI 0), .ref hpl, .int (iI 0), .ref hpd, .int (iI 0), .ref htx, .int (iI 0), .int (iI 0), .int (iI (-1)), .int (iI (-1)), .int (iI 0), .ref htd, .int (iI 0), .ref hrw, .ref hrl, .ref hir]))] H := hP
  have hD : va_D A [(h0, .inr (11, [.ref hg, .long (lI 0), .ref hk, .long (lI 0), .int (iI 0), .ref hp, .ref hpu, .int (iI 0), .ref hs, .long (lI 0), .int (iI 0), .int (iI 1), .int (iI 0), .int (iI 0), .int (iI 0), .long (lI 0), .ref hpl, .int (iI 0), .ref hpd, .int (iI 0), .ref htx, .int (iI 0), .int (iI 0), .int (iI (-1)), .int (iI (-1)), .int (iI 0), .ref htd, .int (iI 0), .ref hrw, .ref hrl, .ref hir]))] := hD
  refine lv_aload_n hx hb dX11_schedule_41 rfl (lv_at hl 0 rfl) ?_
  refine va_get (D := (dC, dI)) (ci := 11) (v := .int (iI 1)) (C := RX11) (T := TX11) (N := 31) hx hb hts (fun _ h => List.mem_cons_of_mem _ (inlX11 _ h)) hown hK hP 0 rfl rfl 11 (by decide) (hts (.fieldLink RX11 56 "LoanServicingModel" "thrown" "I") (List.mem_cons_of_mem _ (wl_13 (List.mem_of_getElem? (i := 12) rfl)))) (fun _ h9 => h9) rfl dX11_schedule_42 ?_
  refine q_if_le (tgt := 52) hx hb dX11_schedule_45 (by decide) (by omega) (fun q => absurd q (by omega)) (fun _ => ?_)
  refine q_iconst hx hb dX11_schedule_48 ?_
  refine lv_goto (tgt := 62) hx hb dX11_schedule_49 (by decide) ?_
  rw [hQ]
  refine W.widen (k := 0) (n := 0) (Nat.le_of_ble_eq_true rfl) (Nat.le_of_ble_eq_true rfl) ?_
  exact W.iret (v := (iI 0)) hx hb hr (fun t ht hW => ⟨⟨(iI 0), (), rfl, rfl, by rw [ht]; exact hP.sub [0] rfl, by rw [hAe]; exact hD.sub [0] (by decide) rfl⟩, hS.F ht⟩) hS.2.2 dX11_schedule_62
set_option maxHeartbeats 4000000 in
set_option maxRecDepth 100000 in
/-- the reference: installmentFor 1 -/
theorem c_X11_installmentFor_1 (l : Launch) (dC : Nat → ClassId) (dI : Nat → Nat → Nat) (k : Nat → ClassId) (h0 hg hk hp hpu hs hpl hpd htx htd hrw hrl hir : Nat) (xv : Int) (hv9 : -2147483648 ≤ xv ∧ xv ≤ 2147483647) (hv : ¬ (1 ≤ xv ∧ xv ≤ 60)) (sz : Nat) : Met l yX11_installmentFor woX11_installmentFor ({ frames := 1, cells := 0, slots := 0, locals := 22 } : Room) (PcW (dC, dI) k [.ref h0, .int (iI xv)] [(h0, .inr (11, [.ref hg, .long (lI 0), .ref hk, .long (lI 0), .int (iI 0), .ref hp, .ref hpu, .int (iI 0), .ref hs, .long (lI 0), .int (iI 0), .int (iI 0), .int (iI 0), .int (iI 0), .int (iI 0), .long (lI 0), .ref hpl, .int (iI 0), .ref hpd, .int (iI 0), .ref htx, .int (iI 0), .int (iI 0), .int (iI (-1)), .int (iI (-1)), .int (iI 0), .ref htd, .int (iI 0), .ref hrw, .ref hrl, .ref hir])), (hg, .inl (k 0, 1460, .inl (aI g0F)))] sz) (va_Qi (fun (r : Int32) (_ : Unit) => r = iI 0) (QB (dC, dI) [(h0, .inr (11, [.ref hg, .long (lI 0), .ref hk, .long (lI 0), .int (iI 0), .ref hp, .ref hpu, .int (iI 0), .ref hs, .long (lI 0), .int (iI 0), .int (iI 0), .int (iI 0), .int (iI 0), .int (iI 0), .long (lI 0), .ref hpl, .int (iI 0), .ref hpd, .int (iI 0), .ref htx, .int (iI 0), .int (iI 0), .int (iI (-1)), .int (iI (-1)), .int (iI 0), .ref htd, .int (iI 0), .ref hrw, .ref hrl, .ref hir])), (hg, .inl (k 0, 1460, .inl (aI g0F)))] (fun _ => [(h0, .inr (11, [.ref hg, .long (lI 0), .ref hk, .long (lI 0), .int (iI 0), .ref hp, .ref hpu, .int (iI 0), .ref hs, .long (lI 0), .int (iI 0), .int (iI 1), .int (iI 0), .int (iI 0), .int (iI 0), .long (lI 0), .ref hpl, .int (iI 0), .ref hpd, .int (iI 0), .ref htx, .int (iI 0), .int (iI 0), .int (iI (-1)), .int (iI (-1)), .int (iI 0), .ref htd, .int (iI 0), .ref hrw, .ref hrl, .ref hir]))]) sz) (va_A [(h0, .inr (11, [.ref hg, .long (lI 0), .ref hk, .long (lI 0), .int (iI 0), .ref hp, .ref hpu, .int (iI 0), .ref hs, .long (lI 0), .int (iI 0), .int (iI 0), .int (iI 0), .int (iI 0), .int (iI 0), .long (lI 0), .ref hpl, .int (iI 0), .ref hpd, .int (iI 0), .ref htx, .int (iI 0), .int (iI 0), .int (iI (-1)), .int (iI (-1)), .int (iI 0), .ref htd, .int (iI 0), .ref hrw, .ref hrl, .ref hir])), (hg, .inl (k 0, 1460, .inl (aI g0F)))] sz)) 0 0 (va_A [(h0, .inr (11, [.ref hg, .long (lI 0), .ref hk, .long (lI 0), .int (iI 0), .ref hp, .ref hpu, .int (iI 0), .ref hs, .long (lI 0), .int (iI 0), .int (iI 0), .int (iI 0), .int (iI 0), .int (iI 0), .long (lI 0), .ref hpl, .int (iI 0), .ref hpd, .int (iI 0), .ref htx, .int (iI 0), .int (iI 0), .int (iI (-1)), .int (iI (-1)), .int (iI 0), .ref htd, .int (iI 0), .ref hrw, .ref hrl, .ref hir])), (hg, .inl (k 0, 1460, .inl (aI g0F)))] sz) := by
  refine Met.ofW (cc := cX11_installmentFor) (maxL := 2) (ret := (some .int)) (by decide) rfl ?_
  intro p e s mI args below meth cO s₁ B hml hv
  obtain ⟨rfl, rfl, hP, hD0, hE⟩ := hv
  have hx := B.exec
  have hb := B.bytes
  have hr := B.returns
  have hts := atoms_spec (ws := woX11_installmentFor) B.pre
  have hown : s.vm.findClass RX11 = some mI.cls := findClass_of_methodNamed B.named
  have hlocks := B.notSynchronized
  have hD := hD0.self (sz := s.heap.size)
  generalize hAe : va_A [(h0, .inr (11, [.ref hg, .long (lI 0), .ref hk, .long (lI 0), .int (iI 0), .ref hp, .ref hpu, .int (iI 0), .ref hs, .long (lI 0), .int (iI 0), .int (iI 0), .int (iI 0), .int (iI 0), .int (iI 0), .long (lI 0), .ref hpl, .int (iI 0), .ref hpd, .int (iI 0), .ref htx, .int (iI 0), .int (iI 0), .int (iI (-1)), .int (iI (-1)), .int (iI 0), .ref htd, .int (iI 0), .ref hrw, .ref hrl, .ref hir])), (hg, .inl (k 0, 1460, .inl (aI g0F)))] s.heap.size = A at hD hE ⊢
  have hA : ∀ q : Nat, s.heap.size ≤ q → A q := fun q h => by rw [← hAe]; exact Or.inr h
  have hS : va_S A s.heap s.heap [] := va_S.rf
  obtain ⟨hK, hNw, hNc, hZs, hAO1, hAO2⟩ := id hE
  have hSF : CallFix p mI cO cX11_installmentFor 2 s ([.ref h0, .int (iI xv)] : List Value).toArray woX11_installmentFor RX11 := ⟨hx, hb, hml, hown, hts⟩
  have hl := lv_entry ([.ref h0, .int (iI xv)] : List Value) (n := 2) (Nat.le_of_ble_eq_true rfl)
  rw [lg_entry_eq]
  generalize (lg_sl ([.ref h0, .int (iI xv)] : List Value) ++ List.replicate (2 - (lg_sl ([.ref h0, .int (iI xv)] : List Value)).length) Slot.unset).toArray = ls at hl ⊢
  have hl : lv_has ls 2 [(0, .ref h0), (1, .int (iI xv))] := hl
  refine W_gen (fun Q hQ => ?_)
  change W p l e ({ frames := 1, cells := 0, slots := 0, locals := 22 } : Room) s mI _ below meth cO s.heap [] 0 0 Q _
  have hP : va_P (dC, dI) vwCl [(h0, .inr (11, [.ref hg, .long (lI 0), .ref hk, .long (lI 0), .int (iI 0), .ref hp, .ref hpu, .int (iI 0), .ref hs, .long (lI 0), .int (iI 0), .int (iI 0), .int (iI 0), .int (iI 0), .int (iI 0), .long (lI 0), .ref hpl, .int (iI 0), .ref hpd, .int (iI 0), .ref htx, .int (iI 0), .int (iI 0), .int (iI (-1)), .int (iI (-1)), .int (iI 0), .ref htd, .int (iI 0), .ref hrw, .ref hrl, .ref hir])), (hg, .inl (k 0, 1460, .inl (aI g0F)))] s.heap := hP
  refine lv_aload_n hx hb dX11_installmentFor_0 rfl (lv_at hl 0 rfl) ?_
  refine lv_iload_n hx hb dX11_installmentFor_1 rfl (lv_at hl 1 rfl) ?_
  refine q_iconst hx hb dX11_installmentFor_2 ?_
  refine q_bipush (z := 60) hx hb dX11_installmentFor_3 (by decide) ?_
  refine ki (va_runS (As := [.int (iI xv), .int (iI 1), .int (iI 60)]) (rest := [.ref h0]) hSF ((c_X11_in l dC dI k xv 1 60 (by omega)) s.heap.size) (va_cwS 3 hts gX11_installmentFor_X11_in rfl rfl rfl (by decide +kernel) ⟨Nat.le_of_ble_eq_true rfl, Nat.le_of_ble_eq_true rfl⟩) (preS hP hD hE hS hA [] rfl (by decide)) rfl rfl hl.1 rfl (lv_room (Nat.le_of_ble_eq_true rfl)) dX11_installmentFor_5 ⟨Nat.le_of_ble_eq_true rfl, Nat.le_of_ble_eq_true rfl⟩) hP hD hS hA [] [0, 1] rfl (wr := [(h0, .inr (11, [.ref hg, .long (lI 0), .ref hk, .long (lI 0), .int (iI 0), .ref hp, .ref hpu, .int (iI 0), .ref hs, .long (lI 0), .int (iI 0), .int (iI 0), .int (iI 0), .int (iI 0), .int (iI 0), .long (lI 0), .ref hpl, .int (iI 0), .ref hpd, .int (iI 0), .ref htx, .int (iI 0), .int (iI 0), .int (iI (-1)), .int (iI (-1)), .int (iI 0), .ref htd, .int (iI 0), .ref hrw, .ref hrl, .ref hir])), (hg, .inl (k 0, 1460, .inl (aI g0F)))]) rfl (by decide) (by decide) (fun r5 _ H locs hw hP hD hS => ?_)
  obtain rfl : r5 = iI 0 := hw.trans (by rw [wi0 (by omega)])
  have hP : va_P (dC, dI) vwCl [(h0, .inr (11, [.ref hg, .long (lI 0), .ref hk, .long (lI 0), .int (iI 0), .ref hp, .ref hpu, .int (iI 0), .ref hs, .long (lI 0), .int (iI 0), .int (iI 0), .int (iI 0), .int (iI 0), .int (iI 0), .long (lI 0), .ref hpl, .int (iI 0), .ref hpd, .int (iI 0), .ref htx, .int (iI 0), .int (iI 0), .int (iI (-1)), .int (iI (-1)), .int (iI 0), .ref htd, .int (iI 0), .ref hrw, .ref hrl, .ref hir])), (hg, .inl (k 0, 1460, .inl (aI g0F)))] H := hP
  have hD : va_D A [(h0, .inr (11, [.ref hg, .long (lI 0), .ref hk, .long (lI 0), .int (iI 0), .ref hp, .ref hpu, .int (iI 0), .ref hs, .long (lI 0), .int (iI 0), .int (iI 0), .int (iI 0), .int (iI 0), .int (iI 0), .long (lI 0), .ref hpl, .int (iI 0), .ref hpd, .int (iI 0), .ref htx, .int (iI 0), .int (iI 0), .int (iI (-1)), .int (iI (-1)), .int (iI 0), .ref htd, .int (iI 0), .ref hrw, .ref hrl, .ref hir])), (hg, .inl (k 0, 1460, .inl (aI g0F)))] := hD
  refine q_if_eq (tgt := 29) hx hb dX11_installmentFor_8 (by decide) (by omega) (fun _ => ?_) (fun q => absurd q (by omega))
  refine q_iconst hx hb dX11_installmentFor_29 ?_
  refine va_put (D := (dC, dI)) (ci := 11) (v := .int (iI 1)) (ty := .int) (C := RX11) (T := TX11) (N := 31) hx hb hts (fun _ h => List.mem_cons_of_mem _ (inlX11 _ h)) tyX11 tyX11_ok nmX11 hown hK hP hD hS 0 rfl rfl 11 (by decide) (hts (.fieldLink RX11 56 "LoanServicingModel" "thrown" "I") (List.mem_cons_of_mem _ (wl_13 (List.mem_of_getElem? (i := 12) rfl)))) (fun _ h9 => h9) rfl (by decide +kernel) rfl rfl (Nat.le_of_ble_eq_true rfl) dX11_installmentFor_30 (fun H locs hP hD hS => ?_)
  have hP : va_P (dC, dI) vwCl [(h0, .inr (11, [.ref hg, .long (lI 0), .ref hk, .long (lI 0), .int (iI 0), .ref hp, .ref hpu, .int (iI 0), .ref hs, .long (lI 0), .int (iI 0), .int (iI 1), .int (iI 0), .int (iI 0), .int (iI 0), .long (lI 0), .ref hpl, .int (iI 0), .ref hpd, .int (iI 0), .ref htx, .int (iI 0), .int (iI 0), .int (iI (-1)), .int (iI (-1)), .int (iI 0), .ref htd, .int (iI 0), .ref hrw, .ref hrl, .ref hir])), (hg, .inl (k 0, 1460, .inl (aI g0F)))] H := hP
  have hD : va_D A [(h0, .inr (11, [.ref hg, .long (lI 0), .ref hk, .long (lI 0), .int (iI 0), .ref hp, .ref hpu, .int (iI 0), .ref hs, .long (lI 0), .int (iI 0), .int (iI 1), .int (iI 0), .int (iI 0), .int (iI 0), .long (lI 0), .ref hpl, .int (iI 0), .ref hpd, .int (iI 0), .ref htx, .int (iI 0), .int (iI 0), .int (iI (-1)), .int (iI (-1)), .int (iI 0), .ref htd, .int (iI 0), .ref hrw, .ref hrl, .ref hir])), (hg, .inl (k 0, 1460, .inl (aI g0F)))] := hD
  refine lv_aload_n hx hb dX11_installmentFor_33 rfl (lv_at hl 0 rfl) ?_
  refine va_get (D := (dC, dI)) (ci := 11) (v := .int (iI 1)) (C := RX11) (T := TX11) (N := 31) hx hb hts (fun _ h => List.mem_cons_of_mem _ (inlX11 _ h)) hown hK hP 0 rfl rfl 11 (by decide) (hts (.fieldLink RX11 56 "LoanServicingModel" "thrown" "I") (List.mem_cons_of_mem _ (wl_13 (List.mem_of_getElem? (i := 12) rfl)))) (fun _ h9 => h9) rfl dX11_installmentFor_34 ?_
  refine q_if_le (tgt := 44) hx hb dX11_installmentFor_37 (by decide) (by omega) (fun q => absurd q (by omega)) (fun _ => ?_)
  refine q_iconst hx hb dX11_installmentFor_40 ?_
  refine lv_goto (tgt := 49) hx hb dX11_installmentFor_41 (by decide) ?_
  rw [hQ]
  refine W.widen (k := 0) (n := 0) (Nat.le_of_ble_eq_true rfl) (Nat.le_of_ble_eq_true rfl) ?_
  exact W.iret (v := (iI 0)) hx hb hr (fun t ht hW => ⟨⟨(iI 0), (), rfl, rfl, by rw [ht]; exact hP.sub [0] rfl, by rw [hAe]; exact hD.sub [0] (by decide) rfl⟩, hS.F ht⟩) hS.2.2 dX11_installmentFor_49
set_option maxHeartbeats 4000000 in
set_option maxRecDepth 100000 in
/-- the reference: installmentFor 2 -/
theorem c_X11_installmentFor_2 (l : Launch) (dC : Nat → ClassId) (dI : Nat → Nat → Nat) (k : Nat → ClassId) (h0 hg hk hp hpu hs hpl hpd htx htd hrw hrl hir : Nat) (xv : Int) (hv9 : -2147483648 ≤ xv ∧ xv ≤ 2147483647) (hv : 1 ≤ xv ∧ xv ≤ 60) (sz : Nat) : Met l yX11_installmentFor woX11_installmentFor ({ frames := 1, cells := 0, slots := 0, locals := 22 } : Room) (PcW (dC, dI) k [.ref h0, .int (iI xv)] [(h0, .inr (11, [.ref hg, .long (lI 0), .ref hk, .long (lI 0), .int (iI 0), .ref hp, .ref hpu, .int (iI 0), .ref hs, .long (lI 0), .int (iI 0), .int (iI 0), .int (iI 0), .int (iI 0), .int (iI 0), .long (lI 0), .ref hpl, .int (iI 0), .ref hpd, .int (iI 0), .ref htx, .int (iI 0), .int (iI 0), .int (iI (-1)), .int (iI (-1)), .int (iI 0), .ref htd, .int (iI 0), .ref hrw, .ref hrl, .ref hir])), (hg, .inl (k 0, 1460, .inl (aI g0F)))] sz) (va_Qi (fun (r : Int32) (_ : Unit) => r = iI 0) (QB (dC, dI) [(h0, .inr (11, [.ref hg, .long (lI 0), .ref hk, .long (lI 0), .int (iI 0), .ref hp, .ref hpu, .int (iI 0), .ref hs, .long (lI 0), .int (iI 0), .int (iI 0), .int (iI 0), .int (iI 0), .int (iI 0), .long (lI 0), .ref hpl, .int (iI 0), .ref hpd, .int (iI 0), .ref htx, .int (iI 0), .int (iI 0), .int (iI (-1)), .int (iI (-1)), .int (iI 0), .ref htd, .int (iI 0), .ref hrw, .ref hrl, .ref hir])), (hg, .inl (k 0, 1460, .inl (aI g0F)))] (fun _ => [(h0, .inr (11, [.ref hg, .long (lI 0), .ref hk, .long (lI 0), .int (iI 0), .ref hp, .ref hpu, .int (iI 0), .ref hs, .long (lI 0), .int (iI 0), .int (iI 2), .int (iI 0), .int (iI 0), .int (iI 0), .long (lI 0), .ref hpl, .int (iI 0), .ref hpd, .int (iI 0), .ref htx, .int (iI 0), .int (iI 0), .int (iI (-1)), .int (iI (-1)), .int (iI 0), .ref htd, .int (iI 0), .ref hrw, .ref hrl, .ref hir]))]) sz) (va_A [(h0, .inr (11, [.ref hg, .long (lI 0), .ref hk, .long (lI 0), .int (iI 0), .ref hp, .ref hpu, .int (iI 0), .ref hs, .long (lI 0), .int (iI 0), .int (iI 0), .int (iI 0), .int (iI 0), .int (iI 0), .long (lI 0), .ref hpl, .int (iI 0), .ref hpd, .int (iI 0), .ref htx, .int (iI 0), .int (iI 0), .int (iI (-1)), .int (iI (-1)), .int (iI 0), .ref htd, .int (iI 0), .ref hrw, .ref hrl, .ref hir])), (hg, .inl (k 0, 1460, .inl (aI g0F)))] sz)) 0 0 (va_A [(h0, .inr (11, [.ref hg, .long (lI 0), .ref hk, .long (lI 0), .int (iI 0), .ref hp, .ref hpu, .int (iI 0), .ref hs, .long (lI 0), .int (iI 0), .int (iI 0), .int (iI 0), .int (iI 0), .int (iI 0), .long (lI 0), .ref hpl, .int (iI 0), .ref hpd, .int (iI 0), .ref htx, .int (iI 0), .int (iI 0), .int (iI (-1)), .int (iI (-1)), .int (iI 0), .ref htd, .int (iI 0), .ref hrw, .ref hrl, .ref hir])), (hg, .inl (k 0, 1460, .inl (aI g0F)))] sz) := by
  refine Met.ofW (cc := cX11_installmentFor) (maxL := 2) (ret := (some .int)) (by decide) rfl ?_
  intro p e s mI args below meth cO s₁ B hml hv
  obtain ⟨rfl, rfl, hP, hD0, hE⟩ := hv
  have hx := B.exec
  have hb := B.bytes
  have hr := B.returns
  have hts := atoms_spec (ws := woX11_installmentFor) B.pre
  have hown : s.vm.findClass RX11 = some mI.cls := findClass_of_methodNamed B.named
  have hlocks := B.notSynchronized
  have hD := hD0.self (sz := s.heap.size)
  generalize hAe : va_A [(h0, .inr (11, [.ref hg, .long (lI 0), .ref hk, .long (lI 0), .int (iI 0), .ref hp, .ref hpu, .int (iI 0), .ref hs, .long (lI 0), .int (iI 0), .int (iI 0), .int (iI 0), .int (iI 0), .int (iI 0), .long (lI 0), .ref hpl, .int (iI 0), .ref hpd, .int (iI 0), .ref htx, .int (iI 0), .int (iI 0), .int (iI (-1)), .int (iI (-1)), .int (iI 0), .ref htd, .int (iI 0), .ref hrw, .ref hrl, .ref hir])), (hg, .inl (k 0, 1460, .inl (aI g0F)))] s.heap.size = A at hD hE ⊢
  have hA : ∀ q : Nat, s.heap.size ≤ q → A q := fun q h => by rw [← hAe]; exact Or.inr h
  have hS : va_S A s.heap s.heap [] := va_S.rf
  obtain ⟨hK, hNw, hNc, hZs, hAO1, hAO2⟩ := id hE
  have hSF : CallFix p mI cO cX11_installmentFor 2 s ([.ref h0, .int (iI xv)] : List Value).toArray woX11_installmentFor RX11 := ⟨hx, hb, hml, hown, hts⟩
  have hl := lv_entry ([.ref h0, .int (iI xv)] : List Value) (n := 2) (Nat.le_of_ble_eq_true rfl)
  rw [lg_entry_eq]
  generalize (lg_sl ([.ref h0, .int (iI xv)] : List Value) ++ List.replicate (2 - (lg_sl ([.ref h0, .int (iI xv)] : List Value)).length) Slot.unset).toArray = ls at hl ⊢
  have hl : lv_has ls 2 [(0, .ref h0), (1, .int (iI xv))] := hl
  refine W_gen (fun Q hQ => ?_)
  change W p l e ({ frames := 1, cells := 0, slots := 0, locals := 22 } : Room) s mI _ below meth cO s.heap [] 0 0 Q _
  have hP : va_P (dC, dI) vwCl [(h0, .inr (11, [.ref hg, .long (lI 0), .ref hk, .long (lI 0), .int (iI 0), .ref hp, .ref hpu, .int (iI 0), .ref hs, .long (lI 0), .int (iI 0), .int (iI 0), .int (iI 0), .int (iI 0), .int (iI 0), .long (lI 0), .ref hpl, .int (iI 0), .ref hpd, .int (iI 0), .ref htx, .int (iI 0), .int (iI 0), .int (iI (-1)), .int (iI (-1)), .int (iI 0), .ref htd, .int (iI 0), .ref hrw, .ref hrl, .ref hir])), (hg, .inl (k 0, 1460, .inl (aI g0F)))] s.heap := hP
  refine lv_aload_n hx hb dX11_installmentFor_0 rfl (lv_at hl 0 rfl) ?_
  refine lv_iload_n hx hb dX11_installmentFor_1 rfl (lv_at hl 1 rfl) ?_
  refine q_iconst hx hb dX11_installmentFor_2 ?_
  refine q_bipush (z := 60) hx hb dX11_installmentFor_3 (by decide) ?_
  refine ki (va_runS (As := [.int (iI xv), .int (iI 1), .int (iI 60)]) (rest := [.ref h0]) hSF ((c_X11_in l dC dI k xv 1 60 (by omega)) s.heap.size) (va_cwS 3 hts gX11_installmentFor_X11_in rfl rfl rfl (by decide +kernel) ⟨Nat.le_of_ble_eq_true rfl, Nat.le_of_ble_eq_true rfl⟩) (preS hP hD hE hS hA [] rfl (by decide)) rfl rfl hl.1 rfl (lv_room (Nat.le_of_ble_eq_true rfl)) dX11_installmentFor_5 ⟨Nat.le_of_ble_eq_true rfl, Nat.le_of_ble_eq_true rfl⟩) hP hD hS hA [] [0, 1] rfl (wr := [(h0, .inr (11, [.ref hg, .long (lI 0), .ref hk, .long (lI 0), .int (iI 0), .ref hp, .ref hpu, .int (iI 0), .ref hs, .long (lI 0), .int (iI 0), .int (iI 0), .int (iI 0), .int (iI 0), .int (iI 0), .long (lI 0), .ref hpl, .int (iI 0), .ref hpd, .int (iI 0), .ref htx, .int (iI 0), .int (iI 0), .int (iI (-1)), .int (iI (-1)), .int (iI 0), .ref htd, .int (iI 0), .ref hrw, .ref hrl, .ref hir])), (hg, .inl (k 0, 1460, .inl (aI g0F)))]) rfl (by decide) (by decide) (fun r5 _ H locs hw hP hD hS => ?_)
  obtain rfl : r5 = iI 1 := hw.trans (by rw [wi1 (by omega)])
  have hP : va_P (dC, dI) vwCl [(h0, .inr (11, [.ref hg, .long (lI 0), .ref hk, .long (lI 0), .int (iI 0), .ref hp, .ref hpu, .int (iI 0), .ref hs, .long (lI 0), .int (iI 0), .int (iI 0), .int (iI 0), .int (iI 0), .int (iI 0), .long (lI 0), .ref hpl, .int (iI 0), .ref hpd, .int (iI 0), .ref htx, .int (iI 0), .int (iI 0), .int (iI (-1)), .int (iI (-1)), .int (iI 0), .ref htd, .int (iI 0), .ref hrw, .ref hrl, .ref hir])), (hg, .inl (k 0, 1460, .inl (aI g0F)))] H := hP
  have hD : va_D A [(h0, .inr (11, [.ref hg, .long (lI 0), .ref hk, .long (lI 0), .int (iI 0), .ref hp, .ref hpu, .int (iI 0), .ref hs, .long (lI 0), .int (iI 0), .int (iI 0), .int (iI 0), .int (iI 0), .int (iI 0), .long (lI 0), .ref hpl, .int (iI 0), .ref hpd, .int (iI 0), .ref htx, .int (iI 0), .int (iI 0), .int (iI (-1)), .int (iI (-1)), .int (iI 0), .ref htd, .int (iI 0), .ref hrw, .ref hrl, .ref hir])), (hg, .inl (k 0, 1460, .inl (aI g0F)))] := hD
  refine q_if_eq (tgt := 29) hx hb dX11_installmentFor_8 (by decide) (by omega) (fun q => absurd q (by omega)) (fun _ => ?_)
  refine lv_aload_n hx hb dX11_installmentFor_11 rfl (lv_at hl 0 rfl) ?_
  refine va_get (D := (dC, dI)) (ci := 11) (v := .ref hg) (C := RX11) (T := TX11) (N := 31) hx hb hts (fun _ h => List.mem_cons_of_mem _ (inlX11 _ h)) hown hK hP 0 rfl rfl 0 (by decide) (hts (.fieldLink RX11 7 "LoanServicingModel" "g" "[I") (List.mem_cons_of_mem _ (wl_5 (List.mem_of_getElem? (i := 8) rfl)))) (fun _ h9 => h9) rfl dX11_installmentFor_12 ?_
  refine q_bipush (z := 13) hx hb dX11_installmentFor_15 (by decide) ?_
  refine q_iald (z := 0) hx hb hK hP 1 0 rfl rfl (by omega) (by decide) dX11_installmentFor_17 ?_
  refine q_if_ne (tgt := 25) hx hb dX11_installmentFor_18 (by decide) (by omega) (fun q => absurd q (by omega)) (fun _ => ?_)
  refine q_iconst hx hb dX11_installmentFor_21 ?_
  refine lv_goto (tgt := 30) hx hb dX11_installmentFor_22 (by decide) ?_
  refine va_put (D := (dC, dI)) (ci := 11) (v := .int (iI 2)) (ty := .int) (C := RX11) (T := TX11) (N := 31) hx hb hts (fun _ h => List.mem_cons_of_mem _ (inlX11 _ h)) tyX11 tyX11_ok nmX11 hown hK hP hD hS 0 rfl rfl 11 (by decide) (hts (.fieldLink RX11 56 "LoanServicingModel" "thrown" "I") (List.mem_cons_of_mem _ (wl_13 (List.mem_of_getElem? (i := 12) rfl)))) (fun _ h9 => h9) rfl (by decide +kernel) rfl rfl (Nat.le_of_ble_eq_true rfl) dX11_installmentFor_30 (fun H locs hP hD hS => ?_)
  have hP : va_P (dC, dI) vwCl [(h0, .inr (11, [.ref hg, .long (lI 0), .ref hk, .long (lI 0), .int (iI 0), .ref hp, .ref hpu, .int (iI 0), .ref hs, .long (lI 0), .int (iI 0), .int (iI 2), .int (iI 0), .int (iI 0), .int (iI 0), .long (lI 0), .ref hpl, .int (iI 0), .ref hpd, .int (iI 0), .ref htx, .int (iI 0), .int (iI 0), .int (iI (-1)), .int (iI (-1)), .int (iI 0), .ref htd, .int (iI 0), .ref hrw, .ref hrl, .ref hir])), (hg, .inl (k 0, 1460, .inl (aI g0F)))] H := hP
  have hD : va_D A [(h0, .inr (11, [.ref hg, .long (lI 0), .ref hk, .long (lI 0), .int (iI 0), .ref hp, .ref hpu, .int (iI 0), .ref hs, .long (lI 0), .int (iI 0), .int (iI 2), .int (iI 0), .int (iI 0), .int (iI 0), .long (lI 0), .ref hpl, .int (iI 0), .ref hpd, .int (iI 0), .ref htx, .int (iI 0), .int (iI 0), .int (iI (-1)), .int (iI (-1)), .int (iI 0), .ref htd, .int (iI 0), .ref hrw, .ref hrl, .ref hir])), (hg, .inl (k 0, 1460, .inl (aI g0F)))] := hD
  refine lv_aload_n hx hb dX11_installmentFor_33 rfl (lv_at hl 0 rfl) ?_
  refine va_get (D := (dC, dI)) (ci := 11) (v := .int (iI 2)) (C := RX11) (T := TX11) (N := 31) hx hb hts (fun _ h => List.mem_cons_of_mem _ (inlX11 _ h)) hown hK hP 0 rfl rfl 11 (by decide) (hts (.fieldLink RX11 56 "LoanServicingModel" "thrown" "I") (List.mem_cons_of_mem _ (wl_13 (List.mem_of_getElem? (i := 12) rfl)))) (fun _ h9 => h9) rfl dX11_installmentFor_34 ?_
  refine q_if_le (tgt := 44) hx hb dX11_installmentFor_37 (by decide) (by omega) (fun q => absurd q (by omega)) (fun _ => ?_)
  refine q_iconst hx hb dX11_installmentFor_40 ?_
  refine lv_goto (tgt := 49) hx hb dX11_installmentFor_41 (by decide) ?_
  rw [hQ]
  refine W.widen (k := 0) (n := 0) (Nat.le_of_ble_eq_true rfl) (Nat.le_of_ble_eq_true rfl) ?_
  exact W.iret (v := (iI 0)) hx hb hr (fun t ht hW => ⟨⟨(iI 0), (), rfl, rfl, by rw [ht]; exact hP.sub [0] rfl, by rw [hAe]; exact hD.sub [0] (by decide) rfl⟩, hS.F ht⟩) hS.2.2 dX11_installmentFor_49
set_option maxHeartbeats 4000000 in
set_option maxRecDepth 100000 in
/-- the reference: append -/
theorem c_X11_append_ok (l : Launch) (dC : Nat → ClassId) (dI : Nat → Nat → Nat) (k : Nat → ClassId) (h0 hg hk hp hpu hs hpl hpd htx htd hrw hrl hir : Nat) (xv : Int) (hv : 32 ≤ xv ∧ xv ≤ 126) (sz : Nat) : Met l yX11_append woX11_append ({ frames := 1, cells := 0, slots := 0, locals := 22 } : Room) (PcW (dC, dI) k [.ref h0, .int (iI xv)] [(h0, .inr (11, [.ref hg, .long (lI 0), .ref hk, .long (lI 0), .int (iI 0), .ref hp, .ref hpu, .int (iI 0), .ref hs, .long (lI 0), .int (iI 0), .int (iI 0), .int (iI 0), .int (iI 0), .int (iI 0), .long (lI 0), .ref hpl, .int (iI 0), .ref hpd, .int (iI 0), .ref htx, .int (iI 0), .int (iI 0), .int (iI (-1)), .int (iI (-1)), .int (iI 0), .ref htd, .int (iI 0), .ref hrw, .ref hrl, .ref hir])), (htx, .inl (k 0, 60, .inl (aI aZ)))] sz) (va_Qi (fun (r : Int32) (_ : Unit) => r = iI 1) (QB (dC, dI) [(h0, .inr (11, [.ref hg, .long (lI 0), .ref hk, .long (lI 0), .int (iI 0), .ref hp, .ref hpu, .int (iI 0), .ref hs, .long (lI 0), .int (iI 0), .int (iI 0), .int (iI 0), .int (iI 0), .int (iI 0), .long (lI 0), .ref hpl, .int (iI 0), .ref hpd, .int (iI 0), .ref htx, .int (iI 0), .int (iI 0), .int (iI (-1)), .int (iI (-1)), .int (iI 0), .ref htd, .int (iI 0), .ref hrw, .ref hrl, .ref hir])), (htx, .inl (k 0, 60, .inl (aI aZ)))] (fun _ => [(h0, .inr (11, [.ref hg, .long (lI 0), .ref hk, .long (lI 0), .int (iI 0), .ref hp, .ref hpu, .int (iI 0), .ref hs, .long (lI 0), .int (iI 0), .int (iI 0), .int (iI 0), .int (iI 0), .int (iI 0), .long (lI 0), .ref hpl, .int (iI 0), .ref hpd, .int (iI 0), .ref htx, .int (iI 1), .int (iI 0), .int (iI (-1)), .int (iI (-1)), .int (iI 0), .ref htd, .int (iI 0), .ref hrw, .ref hrl, .ref hir]))]) sz) (va_A [(h0, .inr (11, [.ref hg, .long (lI 0), .ref hk, .long (lI 0), .int (iI 0), .ref hp, .ref hpu, .int (iI 0), .ref hs, .long (lI 0), .int (iI 0), .int (iI 0), .int (iI 0), .int (iI 0), .int (iI 0), .long (lI 0), .ref hpl, .int (iI 0), .ref hpd, .int (iI 0), .ref htx, .int (iI 0), .int (iI 0), .int (iI (-1)), .int (iI (-1)), .int (iI 0), .ref htd, .int (iI 0), .ref hrw, .ref hrl, .ref hir])), (htx, .inl (k 0, 60, .inl (aI aZ)))] sz)) 0 0 (va_A [(h0, .inr (11, [.ref hg, .long (lI 0), .ref hk, .long (lI 0), .int (iI 0), .ref hp, .ref hpu, .int (iI 0), .ref hs, .long (lI 0), .int (iI 0), .int (iI 0), .int (iI 0), .int (iI 0), .int (iI 0), .long (lI 0), .ref hpl, .int (iI 0), .ref hpd, .int (iI 0), .ref htx, .int (iI 0), .int (iI 0), .int (iI (-1)), .int (iI (-1)), .int (iI 0), .ref htd, .int (iI 0), .ref hrw, .ref hrl, .ref hir])), (htx, .inl (k 0, 60, .inl (aI aZ)))] sz) := by
  refine Met.ofW (cc := cX11_append) (maxL := 2) (ret := (some .int)) (by decide) rfl ?_
  intro p e s mI args below meth cO s₁ B hml hv
  obtain ⟨rfl, rfl, hP, hD0, hE⟩ := hv
  have hx := B.exec
  have hb := B.bytes
  have hr := B.returns
  have hts := atoms_spec (ws := woX11_append) B.pre
  have hown : s.vm.findClass RX11 = some mI.cls := findClass_of_methodNamed B.named
  have hlocks := B.notSynchronized
  have hD := hD0.self (sz := s.heap.size)
  generalize hAe : va_A [(h0, .inr (11, [.ref hg, .long (lI 0), .ref hk, .long (lI 0), .int (iI 0), .ref hp, .ref hpu, .int (iI 0), .ref hs, .long (lI 0), .int (iI 0), .int (iI 0), .int (iI 0), .int (iI 0), .int (iI 0), .long (lI 0), .ref hpl, .int (iI 0), .ref hpd, .int (iI 0), .ref htx, .int (iI 0), .int (iI 0), .int (iI (-1)), .int (iI (-1)), .int (iI 0), .ref htd, .int (iI 0), .ref hrw, .ref hrl, .ref hir])), (htx, .inl (k 0, 60, .inl (aI aZ)))] s.heap.size = A at hD hE ⊢
  have hA : ∀ q : Nat, s.heap.size ≤ q → A q := fun q h => by rw [← hAe]; exact Or.inr h
  have hS : va_S A s.heap s.heap [] := va_S.rf
  obtain ⟨hK, hNw, hNc, hZs, hAO1, hAO2⟩ := id hE
  have hSF : CallFix p mI cO cX11_append 2 s ([.ref h0, .int (iI xv)] : List Value).toArray woX11_append RX11 := ⟨hx, hb, hml, hown, hts⟩
  have hl := lv_entry ([.ref h0, .int (iI xv)] : List Value) (n := 2) (Nat.le_of_ble_eq_true rfl)
  rw [lg_entry_eq]
  generalize (lg_sl ([.ref h0, .int (iI xv)] : List Value) ++ List.replicate (2 - (lg_sl ([.ref h0, .int (iI xv)] : List Value)).length) Slot.unset).toArray = ls at hl ⊢
  have hl : lv_has ls 2 [(0, .ref h0), (1, .int (iI xv))] := hl
  refine W_gen (fun Q hQ => ?_)
  change W p l e ({ frames := 1, cells := 0, slots := 0, locals := 22 } : Room) s mI _ below meth cO s.heap [] 0 0 Q _
  have hP : va_P (dC, dI) vwCl [(h0, .inr (11, [.ref hg, .long (lI 0), .ref hk, .long (lI 0), .int (iI 0), .ref hp, .ref hpu, .int (iI 0), .ref hs, .long (lI 0), .int (iI 0), .int (iI 0), .int (iI 0), .int (iI 0), .int (iI 0), .long (lI 0), .ref hpl, .int (iI 0), .ref hpd, .int (iI 0), .ref htx, .int (iI 0), .int (iI 0), .int (iI (-1)), .int (iI (-1)), .int (iI 0), .ref htd, .int (iI 0), .ref hrw, .ref hrl, .ref hir])), (htx, .inl (k 0, 60, .inl (aI aZ)))] s.heap := hP
  refine lv_aload_n hx hb dX11_append_0 rfl (lv_at hl 0 rfl) ?_
  refine lv_iload_n hx hb dX11_append_1 rfl (lv_at hl 1 rfl) ?_
  refine q_bipush (z := 32) hx hb dX11_append_2 (by decide) ?_
  refine q_bipush (z := 126) hx hb dX11_append_4 (by decide) ?_
  refine ki (va_runS (As := [.int (iI xv), .int (iI 32), .int (iI 126)]) (rest := [.ref h0]) hSF ((c_X11_in l dC dI k xv 32 126 (by omega)) s.heap.size) (va_cwS 3 hts gX11_append_X11_in rfl rfl rfl (by decide +kernel) ⟨Nat.le_of_ble_eq_true rfl, Nat.le_of_ble_eq_true rfl⟩) (preS hP hD hE hS hA [] rfl (by decide)) rfl rfl hl.1 rfl (lv_room (Nat.le_of_ble_eq_true rfl)) dX11_append_6 ⟨Nat.le_of_ble_eq_true rfl, Nat.le_of_ble_eq_true rfl⟩) hP hD hS hA [] [0, 1] rfl (wr := [(h0, .inr (11, [.ref hg, .long (lI 0), .ref hk, .long (lI 0), .int (iI 0), .ref hp, .ref hpu, .int (iI 0), .ref hs, .long (lI 0), .int (iI 0), .int (iI 0), .int (iI 0), .int (iI 0), .int (iI 0), .long (lI 0), .ref hpl, .int (iI 0), .ref hpd, .int (iI 0), .ref htx, .int (iI 0), .int (iI 0), .int (iI (-1)), .int (iI (-1)), .int (iI 0), .ref htd, .int (iI 0), .ref hrw, .ref hrl, .ref hir])), (htx, .inl (k 0, 60, .inl (aI aZ)))]) rfl (by decide) (by decide) (fun r6 _ H locs hw hP hD hS => ?_)
  obtain rfl : r6 = iI 1 := hw.trans (by rw [wi1 (by omega)])
  have hP : va_P (dC, dI) vwCl [(h0, .inr (11, [.ref hg, .long (lI 0), .ref hk, .long (lI 0), .int (iI 0), .ref hp, .ref hpu, .int (iI 0), .ref hs, .long (lI 0), .int (iI 0), .int (iI 0), .int (iI 0), .int (iI 0), .int (iI 0), .long (lI 0), .ref hpl, .int (iI 0), .ref hpd, .int (iI 0), .ref htx, .int (iI 0), .int (iI 0), .int (iI (-1)), .int (iI (-1)), .int (iI 0), .ref htd, .int (iI 0), .ref hrw, .ref hrl, .ref hir])), (htx, .inl (k 0, 60, .inl (aI aZ)))] H := hP
  have hD : va_D A [(h0, .inr (11, [.ref hg, .long (lI 0), .ref hk, .long (lI 0), .int (iI 0), .ref hp, .ref hpu, .int (iI 0), .ref hs, .long (lI 0), .int (iI 0), .int (iI 0), .int (iI 0), .int (iI 0), .int (iI 0), .long (lI 0), .ref hpl, .int (iI 0), .ref hpd, .int (iI 0), .ref htx, .int (iI 0), .int (iI 0), .int (iI (-1)), .int (iI (-1)), .int (iI 0), .ref htd, .int (iI 0), .ref hrw, .ref hrl, .ref hir])), (htx, .inl (k 0, 60, .inl (aI aZ)))] := hD
  refine q_if_eq (tgt := 29) hx hb dX11_append_9 (by decide) (by omega) (fun q => absurd q (by omega)) (fun _ => ?_)
  refine lv_aload_n hx hb dX11_append_12 rfl (lv_at hl 0 rfl) ?_
  refine va_get (D := (dC, dI)) (ci := 11) (v := .int (iI 0)) (C := RX11) (T := TX11) (N := 31) hx hb hts (fun _ h => List.mem_cons_of_mem _ (inlX11 _ h)) hown hK hP 0 rfl rfl 21 (by decide) (hts (.fieldLink RX11 235 "LoanServicingModel" "length" "I") (List.mem_cons_of_mem _ (wl_36 (List.mem_of_getElem? (i := 16) rfl)))) (fun _ h9 => h9) rfl dX11_append_13 ?_
  refine q_bipush (z := 60) hx hb dX11_append_16 (by decide) ?_
  refine q_icmp_ne (tgt := 25) hx hb dX11_append_18 (by decide) (by omega) (fun _ => ?_) (fun q => absurd q (by omega))
  refine q_iconst hx hb dX11_append_25 ?_
  refine lv_goto (tgt := 30) hx hb dX11_append_26 (by decide) ?_
  refine va_put (D := (dC, dI)) (ci := 11) (v := .int (iI 0)) (ty := .int) (C := RX11) (T := TX11) (N := 31) hx hb hts (fun _ h => List.mem_cons_of_mem _ (inlX11 _ h)) tyX11 tyX11_ok nmX11 hown hK hP hD hS 0 rfl rfl 11 (by decide) (hts (.fieldLink RX11 56 "LoanServicingModel" "thrown" "I") (List.mem_cons_of_mem _ (wl_13 (List.mem_of_getElem? (i := 12) rfl)))) (fun _ h9 => h9) rfl (by decide +kernel) rfl rfl (Nat.le_of_ble_eq_true rfl) dX11_append_30 (fun H locs hP hD hS => ?_)
  have hP : va_P (dC, dI) vwCl [(h0, .inr (11, [.ref hg, .long (lI 0), .ref hk, .long (lI 0), .int (iI 0), .ref hp, .ref hpu, .int (iI 0), .ref hs, .long (lI 0), .int (iI 0), .int (iI 0), .int (iI 0), .int (iI 0), .int (iI 0), .long (lI 0), .ref hpl, .int (iI 0), .ref hpd, .int (iI 0), .ref htx, .int (iI 0), .int (iI 0), .int (iI (-1)), .int (iI (-1)), .int (iI 0), .ref htd, .int (iI 0), .ref hrw, .ref hrl, .ref hir])), (htx, .inl (k 0, 60, .inl (aI aZ)))] H := hP
  have hD : va_D A [(h0, .inr (11, [.ref hg, .long (lI 0), .ref hk, .long (lI 0), .int (iI 0), .ref hp, .ref hpu, .int (iI 0), .ref hs, .long (lI 0), .int (iI 0), .int (iI 0), .int (iI 0), .int (iI 0), .int (iI 0), .long (lI 0), .ref hpl, .int (iI 0), .ref hpd, .int (iI 0), .ref htx, .int (iI 0), .int (iI 0), .int (iI (-1)), .int (iI (-1)), .int (iI 0), .ref htd, .int (iI 0), .ref hrw, .ref hrl, .ref hir])), (htx, .inl (k 0, 60, .inl (aI aZ)))] := hD
  refine lv_aload_n hx hb dX11_append_33 rfl (lv_at hl 0 rfl) ?_
  refine va_get (D := (dC, dI)) (ci := 11) (v := .int (iI 0)) (C := RX11) (T := TX11) (N := 31) hx hb hts (fun _ h => List.mem_cons_of_mem _ (inlX11 _ h)) hown hK hP 0 rfl rfl 11 (by decide) (hts (.fieldLink RX11 56 "LoanServicingModel" "thrown" "I") (List.mem_cons_of_mem _ (wl_13 (List.mem_of_getElem? (i := 12) rfl)))) (fun _ h9 => h9) rfl dX11_append_34 ?_
  refine q_if_le (tgt := 42) hx hb dX11_append_37 (by decide) (by omega) (fun _ => ?_) (fun q => absurd q (by omega))
  refine lv_aload_n hx hb dX11_append_42 rfl (lv_at hl 0 rfl) ?_
  refine va_get (D := (dC, dI)) (ci := 11) (v := .ref htx) (C := RX11) (T := TX11) (N := 31) hx hb hts (fun _ h => List.mem_cons_of_mem _ (inlX11 _ h)) hown hK hP 0 rfl rfl 20 (by decide) (hts (.fieldLink RX11 32 "LoanServicingModel" "text" "[I") (List.mem_cons_of_mem _ (wl_5 (List.mem_of_getElem? (i := 15) rfl)))) (fun _ h9 => h9) rfl dX11_append_43 ?_
  refine lv_aload_n hx hb dX11_append_46 rfl (lv_at hl 0 rfl) ?_
  refine va_get (D := (dC, dI)) (ci := 11) (v := .int (iI 0)) (C := RX11) (T := TX11) (N := 31) hx hb hts (fun _ h => List.mem_cons_of_mem _ (inlX11 _ h)) hown hK hP 0 rfl rfl 21 (by decide) (hts (.fieldLink RX11 235 "LoanServicingModel" "length" "I") (List.mem_cons_of_mem _ (wl_36 (List.mem_of_getElem? (i := 16) rfl)))) (fun _ h9 => h9) rfl dX11_append_47 ?_
  refine lv_iload_n hx hb dX11_append_50 rfl (lv_at hl 1 rfl) ?_
  refine q_iast (G := (upI aZ 0 xv)) hx hb hK hP hD hS 1 0 rfl rfl (by omega) rfl dX11_append_51 (fun H locs hP hD hS => ?_)
  have hP : va_P (dC, dI) vwCl [(h0, .inr (11, [.ref hg, .long (lI 0), .ref hk, .long (lI 0), .int (iI 0), .ref hp, .ref hpu, .int (iI 0), .ref hs, .long (lI 0), .int (iI 0), .int (iI 0), .int (iI 0), .int (iI 0), .int (iI 0), .long (lI 0), .ref hpl, .int (iI 0), .ref hpd, .int (iI 0), .ref htx, .int (iI 0), .int (iI 0), .int (iI (-1)), .int (iI (-1)), .int (iI 0), .ref htd, .int (iI 0), .ref hrw, .ref hrl, .ref hir])), (htx, .inl (k 0, 60, .inl (aI (upI aZ 0 xv))))] H := hP
  have hD : va_D A [(h0, .inr (11, [.ref hg, .long (lI 0), .ref hk, .long (lI 0), .int (iI 0), .ref hp, .ref hpu, .int (iI 0), .ref hs, .long (lI 0), .int (iI 0), .int (iI 0), .int (iI 0), .int (iI 0), .int (iI 0), .long (lI 0), .ref hpl, .int (iI 0), .ref hpd, .int (iI 0), .ref htx, .int (iI 0), .int (iI 0), .int (iI (-1)), .int (iI (-1)), .int (iI 0), .ref htd, .int (iI 0), .ref hrw, .ref hrl, .ref hir])), (htx, .inl (k 0, 60, .inl (aI (upI aZ 0 xv))))] := hD
  refine lv_aload_n hx hb dX11_append_52 rfl (lv_at hl 0 rfl) ?_
  refine lv_dup hx hb dX11_append_53 rfl ?_
  refine va_get (D := (dC, dI)) (ci := 11) (v := .int (iI 0)) (C := RX11) (T := TX11) (N := 31) hx hb hts (fun _ h => List.mem_cons_of_mem _ (inlX11 _ h)) hown hK hP 0 rfl rfl 21 (by decide) (hts (.fieldLink RX11 235 "LoanServicingModel" "length" "I") (List.mem_cons_of_mem _ (wl_36 (List.mem_of_getElem? (i := 16) rfl)))) (fun _ h9 => h9) rfl dX11_append_54 ?_
  refine q_iconst hx hb dX11_append_57 ?_
  refine q_iadd (z := 1) hx hb dX11_append_58 (by omega) ?_
  refine va_put (D := (dC, dI)) (ci := 11) (v := .int (iI 1)) (ty := .int) (C := RX11) (T := TX11) (N := 31) hx hb hts (fun _ h => List.mem_cons_of_mem _ (inlX11 _ h)) tyX11 tyX11_ok nmX11 hown hK hP hD hS 0 rfl rfl 21 (by decide) (hts (.fieldLink RX11 235 "LoanServicingModel" "length" "I") (List.mem_cons_of_mem _ (wl_36 (List.mem_of_getElem? (i := 16) rfl)))) (fun _ h9 => h9) rfl (by decide +kernel) rfl rfl (Nat.le_of_ble_eq_true rfl) dX11_append_59 (fun H locs hP hD hS => ?_)
  have hP : va_P (dC, dI) vwCl [(h0, .inr (11, [.ref hg, .long (lI 0), .ref hk, .long (lI 0), .int (iI 0), .ref hp, .ref hpu, .int (iI 0), .ref hs, .long (lI 0), .int (iI 0), .int (iI 0), .int (iI 0), .int (iI 0), .int (iI 0), .long (lI 0), .ref hpl, .int (iI 0), .ref hpd, .int (iI 0), .ref htx, .int (iI 1), .int (iI 0), .int (iI (-1)), .int (iI (-1)), .int (iI 0), .ref htd, .int (iI 0), .ref hrw, .ref hrl, .ref hir])), (htx, .inl (k 0, 60, .inl (aI (upI aZ 0 xv))))] H := hP
  have hD : va_D A [(h0, .inr (11, [.ref hg, .long (lI 0), .ref hk, .long (lI 0), .int (iI 0), .ref hp, .ref hpu, .int (iI 0), .ref hs, .long (lI 0), .int (iI 0), .int (iI 0), .int (iI 0), .int (iI 0), .int (iI 0), .long (lI 0), .ref hpl, .int (iI 0), .ref hpd, .int (iI 0), .ref htx, .int (iI 1), .int (iI 0), .int (iI (-1)), .int (iI (-1)), .int (iI 0), .ref htd, .int (iI 0), .ref hrw, .ref hrl, .ref hir])), (htx, .inl (k 0, 60, .inl (aI (upI aZ 0 xv))))] := hD
  refine lv_aload_n hx hb dX11_append_62 rfl (lv_at hl 0 rfl) ?_
  refine va_get (D := (dC, dI)) (ci := 11) (v := .int (iI 1)) (C := RX11) (T := TX11) (N := 31) hx hb hts (fun _ h => List.mem_cons_of_mem _ (inlX11 _ h)) hown hK hP 0 rfl rfl 21 (by decide) (hts (.fieldLink RX11 235 "LoanServicingModel" "length" "I") (List.mem_cons_of_mem _ (wl_36 (List.mem_of_getElem? (i := 16) rfl)))) (fun _ h9 => h9) rfl dX11_append_63 ?_
  rw [hQ]
  refine W.widen (k := 0) (n := 0) (Nat.le_of_ble_eq_true rfl) (Nat.le_of_ble_eq_true rfl) ?_
  exact W.iret (v := (iI 1)) hx hb hr (fun t ht hW => ⟨⟨(iI 1), (), rfl, rfl, by rw [ht]; exact hP.sub [0] rfl, by rw [hAe]; exact hD.sub [0] (by decide) rfl⟩, hS.F ht⟩) hS.2.2 dX11_append_66
set_option maxHeartbeats 4000000 in
set_option maxRecDepth 100000 in
/-- the reference: append of no character -/
theorem c_X11_append_x (l : Launch) (dC : Nat → ClassId) (dI : Nat → Nat → Nat) (k : Nat → ClassId) (h0 hg hk hp hpu hs hpl hpd htx htd hrw hrl hir : Nat) (xv : Int) (hv9 : -2147483648 ≤ xv ∧ xv ≤ 2147483647) (hv : ¬ (32 ≤ xv ∧ xv ≤ 126)) (sz : Nat) : Met l yX11_append woX11_append ({ frames := 1, cells := 0, slots := 0, locals := 22 } : Room) (PcW (dC, dI) k [.ref h0, .int (iI xv)] [(h0, .inr (11, [.ref hg, .long (lI 0), .ref hk, .long (lI 0), .int (iI 0), .ref hp, .ref hpu, .int (iI 0), .ref hs, .long (lI 0), .int (iI 0), .int (iI 0), .int (iI 0), .int (iI 0), .int (iI 0), .long (lI 0), .ref hpl, .int (iI 0), .ref hpd, .int (iI 0), .ref htx, .int (iI 0), .int (iI 0), .int (iI (-1)), .int (iI (-1)), .int (iI 0), .ref htd, .int (iI 0), .ref hrw, .ref hrl, .ref hir])), (htx, .inl (k 0, 60, .inl (aI aZ)))] sz) (va_Qi (fun (r : Int32) (_ : Unit) => r = iI 0) (QB (dC, dI) [(h0, .inr (11, [.ref hg, .long (lI 0), .ref hk, .long (lI 0), .int (iI 0), .ref hp, .ref hpu, .int (iI 0), .ref hs, .long (lI 0), .int (iI 0), .int (iI 0), .int (iI 0), .int (iI 0), .int (iI 0), .long (lI 0), .ref hpl, .int (iI 0), .ref hpd, .int (iI 0), .ref htx, .int (iI 0), .int (iI 0), .int (iI (-1)), .int (iI (-1)), .int (iI 0), .ref htd, .int (iI 0), .ref hrw, .ref hrl, .ref hir])), (htx, .inl (k 0, 60, .inl (aI aZ)))] (fun _ => [(h0, .inr (11, [.ref hg, .long (lI 0), .ref hk, .long (lI 0), .int (iI 0), .ref hp, .ref hpu, .int (iI 0), .ref hs, .long (lI 0), .int (iI 0), .int (iI 1), .int (iI 0), .int (iI 0), .int (iI 0), .long (lI 0), .ref hpl, .int (iI 0), .ref hpd, .int (iI 0), .ref htx, .int (iI 0), .int (iI 0), .int (iI (-1)), .int (iI (-1)), .int (iI 0), .ref htd, .int (iI 0), .ref hrw, .ref hrl, .ref hir]))]) sz) (va_A [(h0, .inr (11, [.ref hg, .long (lI 0), .ref hk, .long (lI 0), .int (iI 0), .ref hp, .ref hpu, .int (iI 0), .ref hs, .long (lI 0), .int (iI 0), .int (iI 0), .int (iI 0), .int (iI 0), .int (iI 0), .long (lI 0), .ref hpl, .int (iI 0), .ref hpd, .int (iI 0), .ref htx, .int (iI 0), .int (iI 0), .int (iI (-1)), .int (iI (-1)), .int (iI 0), .ref htd, .int (iI 0), .ref hrw, .ref hrl, .ref hir])), (htx, .inl (k 0, 60, .inl (aI aZ)))] sz)) 0 0 (va_A [(h0, .inr (11, [.ref hg, .long (lI 0), .ref hk, .long (lI 0), .int (iI 0), .ref hp, .ref hpu, .int (iI 0), .ref hs, .long (lI 0), .int (iI 0), .int (iI 0), .int (iI 0), .int (iI 0), .int (iI 0), .long (lI 0), .ref hpl, .int (iI 0), .ref hpd, .int (iI 0), .ref htx, .int (iI 0), .int (iI 0), .int (iI (-1)), .int (iI (-1)), .int (iI 0), .ref htd, .int (iI 0), .ref hrw, .ref hrl, .ref hir])), (htx, .inl (k 0, 60, .inl (aI aZ)))] sz) := by
  refine Met.ofW (cc := cX11_append) (maxL := 2) (ret := (some .int)) (by decide) rfl ?_
  intro p e s mI args below meth cO s₁ B hml hv
  obtain ⟨rfl, rfl, hP, hD0, hE⟩ := hv
  have hx := B.exec
  have hb := B.bytes
  have hr := B.returns
  have hts := atoms_spec (ws := woX11_append) B.pre
  have hown : s.vm.findClass RX11 = some mI.cls := findClass_of_methodNamed B.named
  have hlocks := B.notSynchronized
  have hD := hD0.self (sz := s.heap.size)
  generalize hAe : va_A [(h0, .inr (11, [.ref hg, .long (lI 0), .ref hk, .long (lI 0), .int (iI 0), .ref hp, .ref hpu, .int (iI 0), .ref hs, .long (lI 0), .int (iI 0), .int (iI 0), .int (iI 0), .int (iI 0), .int (iI 0), .long (lI 0), .ref hpl, .int (iI 0), .ref hpd, .int (iI 0), .ref htx, .int (iI 0), .int (iI 0), .int (iI (-1)), .int (iI (-1)), .int (iI 0), .ref htd, .int (iI 0), .ref hrw, .ref hrl, .ref hir])), (htx, .inl (k 0, 60, .inl (aI aZ)))] s.heap.size = A at hD hE ⊢
  have hA : ∀ q : Nat, s.heap.size ≤ q → A q := fun q h => by rw [← hAe]; exact Or.inr h
  have hS : va_S A s.heap s.heap [] := va_S.rf
  obtain ⟨hK, hNw, hNc, hZs, hAO1, hAO2⟩ := id hE
  have hSF : CallFix p mI cO cX11_append 2 s ([.ref h0, .int (iI xv)] : List Value).toArray woX11_append RX11 := ⟨hx, hb, hml, hown, hts⟩
  have hl := lv_entry ([.ref h0, .int (iI xv)] : List Value) (n := 2) (Nat.le_of_ble_eq_true rfl)
  rw [lg_entry_eq]
  generalize (lg_sl ([.ref h0, .int (iI xv)] : List Value) ++ List.replicate (2 - (lg_sl ([.ref h0, .int (iI xv)] : List Value)).length) Slot.unset).toArray = ls at hl ⊢
  have hl : lv_has ls 2 [(0, .ref h0), (1, .int (iI xv))] := hl
  refine W_gen (fun Q hQ => ?_)
  change W p l e ({ frames := 1, cells := 0, slots := 0, locals := 22 } : Room) s mI _ below meth cO s.heap [] 0 0 Q _
  have hP : va_P (dC, dI) vwCl [(h0, .inr (11, [.ref hg, .long (lI 0), .ref hk, .long (lI 0), .int (iI 0), .ref hp, .ref hpu, .int (iI 0), .ref hs, .long (lI 0), .int (iI 0), .int (iI 0), .int (iI 0), .int (iI 0), .int (iI 0), .long (lI 0), .ref hpl, .int (iI 0), .ref hpd, .int (iI 0), .ref htx, .int (iI 0), .int (iI 0), .int (iI (-1)), .int (iI (-1)), .int (iI 0), .ref htd, .int (iI 0), .ref hrw, .ref hrl, .ref hir])), (htx, .inl (k 0, 60, .inl (aI aZ)))] s.heap := hP
  refine lv_aload_n hx hb dX11_append_0 rfl (lv_at hl 0 rfl) ?_
  refine lv_iload_n hx hb dX11_append_1 rfl (lv_at hl 1 rfl) ?_
  refine q_bipush (z := 32) hx hb dX11_append_2 (by decide) ?_
  refine q_bipush (z := 126) hx hb dX11_append_4 (by decide) ?_
  refine ki (va_runS (As := [.int (iI xv), .int (iI 32), .int (iI 126)]) (rest := [.ref h0]) hSF ((c_X11_in l dC dI k xv 32 126 (by omega)) s.heap.size) (va_cwS 3 hts gX11_append_X11_in rfl rfl rfl (by decide +kernel) ⟨Nat.le_of_ble_eq_true rfl, Nat.le_of_ble_eq_true rfl⟩) (preS hP hD hE hS hA [] rfl (by decide)) rfl rfl hl.1 rfl (lv_room (Nat.le_of_ble_eq_true rfl)) dX11_append_6 ⟨Nat.le_of_ble_eq_true rfl, Nat.le_of_ble_eq_true rfl⟩) hP hD hS hA [] [0, 1] rfl (wr := [(h0, .inr (11, [.ref hg, .long (lI 0), .ref hk, .long (lI 0), .int (iI 0), .ref hp, .ref hpu, .int (iI 0), .ref hs, .long (lI 0), .int (iI 0), .int (iI 0), .int (iI 0), .int (iI 0), .int (iI 0), .long (lI 0), .ref hpl, .int (iI 0), .ref hpd, .int (iI 0), .ref htx, .int (iI 0), .int (iI 0), .int (iI (-1)), .int (iI (-1)), .int (iI 0), .ref htd, .int (iI 0), .ref hrw, .ref hrl, .ref hir])), (htx, .inl (k 0, 60, .inl (aI aZ)))]) rfl (by decide) (by decide) (fun r6 _ H locs hw hP hD hS => ?_)
  obtain rfl : r6 = iI 0 := hw.trans (by rw [wi0 (by omega)])
  have hP : va_P (dC, dI) vwCl [(h0, .inr (11, [.ref hg, .long (lI 0), .ref hk, .long (lI 0), .int (iI 0), .ref hp, .ref hpu, .int (iI 0), .ref hs, .long (lI 0), .int (iI 0), .int (iI 0), .int (iI 0), .int (iI 0), .int (iI 0), .long (lI 0), .ref hpl, .int (iI 0), .ref hpd, .int (iI 0), .ref htx, .int (iI 0), .int (iI 0), .int (iI (-1)), .int (iI (-1)), .int (iI 0), .ref htd, .int (iI 0), .ref hrw, .ref hrl, .ref hir])), (htx, .inl (k 0, 60, .inl (aI aZ)))] H := hP
  have hD : va_D A [(h0, .inr (11, [.ref hg, .long (lI 0), .ref hk, .long (lI 0), .int (iI 0), .ref hp, .ref hpu, .int (iI 0), .ref hs, .long (lI 0), .int (iI 0), .int (iI 0), .int (iI 0), .int (iI 0), .int (iI 0), .long (lI 0), .ref hpl, .int (iI 0), .ref hpd, .int (iI 0), .ref htx, .int (iI 0), .int (iI 0), .int (iI (-1)), .int (iI (-1)), .int (iI 0), .ref htd, .int (iI 0), .ref hrw, .ref hrl, .ref hir])), (htx, .inl (k 0, 60, .inl (aI aZ)))] := hD
  refine q_if_eq (tgt := 29) hx hb dX11_append_9 (by decide) (by omega) (fun _ => ?_) (fun q => absurd q (by omega))
  refine q_iconst hx hb dX11_append_29 ?_
  refine va_put (D := (dC, dI)) (ci := 11) (v := .int (iI 1)) (ty := .int) (C := RX11) (T := TX11) (N := 31) hx hb hts (fun _ h => List.mem_cons_of_mem _ (inlX11 _ h)) tyX11 tyX11_ok nmX11 hown hK hP hD hS 0 rfl rfl 11 (by decide) (hts (.fieldLink RX11 56 "LoanServicingModel" "thrown" "I") (List.mem_cons_of_mem _ (wl_13 (List.mem_of_getElem? (i := 12) rfl)))) (fun _ h9 => h9) rfl (by decide +kernel) rfl rfl (Nat.le_of_ble_eq_true rfl) dX11_append_30 (fun H locs hP hD hS => ?_)
  have hP : va_P (dC, dI) vwCl [(h0, .inr (11, [.ref hg, .long (lI 0), .ref hk, .long (lI 0), .int (iI 0), .ref hp, .ref hpu, .int (iI 0), .ref hs, .long (lI 0), .int (iI 0), .int (iI 1), .int (iI 0), .int (iI 0), .int (iI 0), .long (lI 0), .ref hpl, .int (iI 0), .ref hpd, .int (iI 0), .ref htx, .int (iI 0), .int (iI 0), .int (iI (-1)), .int (iI (-1)), .int (iI 0), .ref htd, .int (iI 0), .ref hrw, .ref hrl, .ref hir])), (htx, .inl (k 0, 60, .inl (aI aZ)))] H := hP
  have hD : va_D A [(h0, .inr (11, [.ref hg, .long (lI 0), .ref hk, .long (lI 0), .int (iI 0), .ref hp, .ref hpu, .int (iI 0), .ref hs, .long (lI 0), .int (iI 0), .int (iI 1), .int (iI 0), .int (iI 0), .int (iI 0), .long (lI 0), .ref hpl, .int (iI 0), .ref hpd, .int (iI 0), .ref htx, .int (iI 0), .int (iI 0), .int (iI (-1)), .int (iI (-1)), .int (iI 0), .ref htd, .int (iI 0), .ref hrw, .ref hrl, .ref hir])), (htx, .inl (k 0, 60, .inl (aI aZ)))] := hD
  refine lv_aload_n hx hb dX11_append_33 rfl (lv_at hl 0 rfl) ?_
  refine va_get (D := (dC, dI)) (ci := 11) (v := .int (iI 1)) (C := RX11) (T := TX11) (N := 31) hx hb hts (fun _ h => List.mem_cons_of_mem _ (inlX11 _ h)) hown hK hP 0 rfl rfl 11 (by decide) (hts (.fieldLink RX11 56 "LoanServicingModel" "thrown" "I") (List.mem_cons_of_mem _ (wl_13 (List.mem_of_getElem? (i := 12) rfl)))) (fun _ h9 => h9) rfl dX11_append_34 ?_
  refine q_if_le (tgt := 42) hx hb dX11_append_37 (by decide) (by omega) (fun q => absurd q (by omega)) (fun _ => ?_)
  refine q_iconst hx hb dX11_append_40 ?_
  rw [hQ]
  refine W.widen (k := 0) (n := 0) (Nat.le_of_ble_eq_true rfl) (Nat.le_of_ble_eq_true rfl) ?_
  exact W.iret (v := (iI 0)) hx hb hr (fun t ht hW => ⟨⟨(iI 0), (), rfl, rfl, by rw [ht]; exact hP.sub [0] rfl, by rw [hAe]; exact hD.sub [0] (by decide) rfl⟩, hS.F ht⟩) hS.2.2 dX11_append_41
set_option maxHeartbeats 4000000 in
set_option maxRecDepth 100000 in
/-- the reference: here -/
theorem c_X11_here (l : Launch) (dC : Nat → ClassId) (dI : Nat → Nat → Nat) (k : Nat → ClassId) (h0 hg hk hp hpu hs hpl hpd htx htd hrw hrl hir : Nat) (sz : Nat) : Met l yX11_here woX11_here ({ frames := 0, cells := 0, slots := 0, locals := 0 } : Room) (PcW (dC, dI) k [.ref h0] [(h0, .inr (11, [.ref hg, .long (lI 0), .ref hk, .long (lI 0), .int (iI 0), .ref hp, .ref hpu, .int (iI 0), .ref hs, .long (lI 0), .int (iI 0), .int (iI 0), .int (iI 0), .int (iI 0), .int (iI 0), .long (lI 0), .ref hpl, .int (iI 0), .ref hpd, .int (iI 0), .ref htx, .int (iI 0), .int (iI 0), .int (iI (-1)), .int (iI (-1)), .int (iI 0), .ref htd, .int (iI 0), .ref hrw, .ref hrl, .ref hir]))] sz) (va_Qi (fun (r : Int32) (_ : Unit) => r = iI (-1)) (QB (dC, dI) [(h0, .inr (11, [.ref hg, .long (lI 0), .ref hk, .long (lI 0), .int (iI 0), .ref hp, .ref hpu, .int (iI 0), .ref hs, .long (lI 0), .int (iI 0), .int (iI 0), .int (iI 0), .int (iI 0), .int (iI 0), .long (lI 0), .ref hpl, .int (iI 0), .ref hpd, .int (iI 0), .ref htx, .int (iI 0), .int (iI 0), .int (iI (-1)), .int (iI (-1)), .int (iI 0), .ref htd, .int (iI 0), .ref hrw, .ref hrl, .ref hir]))] (fun _ => [(h0, .inr (11, [.ref hg, .long (lI 0), .ref hk, .long (lI 0), .int (iI 0), .ref hp, .ref hpu, .int (iI 0), .ref hs, .long (lI 0), .int (iI 0), .int (iI 0), .int (iI 0), .int (iI 0), .int (iI 0), .long (lI 0), .ref hpl, .int (iI 0), .ref hpd, .int (iI 0), .ref htx, .int (iI 0), .int (iI 0), .int (iI (-1)), .int (iI (-1)), .int (iI 0), .ref htd, .int (iI 0), .ref hrw, .ref hrl, .ref hir]))]) sz) (va_A [(h0, .inr (11, [.ref hg, .long (lI 0), .ref hk, .long (lI 0), .int (iI 0), .ref hp, .ref hpu, .int (iI 0), .ref hs, .long (lI 0), .int (iI 0), .int (iI 0), .int (iI 0), .int (iI 0), .int (iI 0), .long (lI 0), .ref hpl, .int (iI 0), .ref hpd, .int (iI 0), .ref htx, .int (iI 0), .int (iI 0), .int (iI (-1)), .int (iI (-1)), .int (iI 0), .ref htd, .int (iI 0), .ref hrw, .ref hrl, .ref hir]))] sz)) 0 0 (va_A [(h0, .inr (11, [.ref hg, .long (lI 0), .ref hk, .long (lI 0), .int (iI 0), .ref hp, .ref hpu, .int (iI 0), .ref hs, .long (lI 0), .int (iI 0), .int (iI 0), .int (iI 0), .int (iI 0), .int (iI 0), .long (lI 0), .ref hpl, .int (iI 0), .ref hpd, .int (iI 0), .ref htx, .int (iI 0), .int (iI 0), .int (iI (-1)), .int (iI (-1)), .int (iI 0), .ref htd, .int (iI 0), .ref hrw, .ref hrl, .ref hir]))] sz) := by
  refine Met.ofW (cc := cX11_here) (maxL := 1) (ret := (some .int)) (by decide) rfl ?_
  intro p e s mI args below meth cO s₁ B hml hv
  obtain ⟨rfl, rfl, hP, hD0, hE⟩ := hv
  have hx := B.exec
  have hb := B.bytes
  have hr := B.returns
  have hts := atoms_spec (ws := woX11_here) B.pre
  have hown : s.vm.findClass RX11 = some mI.cls := findClass_of_methodNamed B.named
  have hlocks := B.notSynchronized
  have hD := hD0.self (sz := s.heap.size)
  generalize hAe : va_A [(h0, .inr (11, [.ref hg, .long (lI 0), .ref hk, .long (lI 0), .int (iI 0), .ref hp, .ref hpu, .int (iI 0), .ref hs, .long (lI 0), .int (iI 0), .int (iI 0), .int (iI 0), .int (iI 0), .int (iI 0), .long (lI 0), .ref hpl, .int (iI 0), .ref hpd, .int (iI 0), .ref htx, .int (iI 0), .int (iI 0), .int (iI (-1)), .int (iI (-1)), .int (iI 0), .ref htd, .int (iI 0), .ref hrw, .ref hrl, .ref hir]))] s.heap.size = A at hD hE ⊢
  have hA : ∀ q : Nat, s.heap.size ≤ q → A q := fun q h => by rw [← hAe]; exact Or.inr h
  have hS : va_S A s.heap s.heap [] := va_S.rf
  obtain ⟨hK, hNw, hNc, hZs, hAO1, hAO2⟩ := id hE
  have hSF : CallFix p mI cO cX11_here 1 s ([.ref h0] : List Value).toArray woX11_here RX11 := ⟨hx, hb, hml, hown, hts⟩
  have hl := lv_entry ([.ref h0] : List Value) (n := 1) (Nat.le_of_ble_eq_true rfl)
  rw [lg_entry_eq]
  generalize (lg_sl ([.ref h0] : List Value) ++ List.replicate (1 - (lg_sl ([.ref h0] : List Value)).length) Slot.unset).toArray = ls at hl ⊢
  have hl : lv_has ls 1 [(0, .ref h0)] := hl
  refine W_gen (fun Q hQ => ?_)
  change W p l e ({ frames := 0, cells := 0, slots := 0, locals := 0 } : Room) s mI _ below meth cO s.heap [] 0 0 Q _
  have hP : va_P (dC, dI) vwCl [(h0, .inr (11, [.ref hg, .long (lI 0), .ref hk, .long (lI 0), .int (iI 0), .ref hp, .ref hpu, .int (iI 0), .ref hs, .long (lI 0), .int (iI 0), .int (iI 0), .int (iI 0), .int (iI 0), .int (iI 0), .long (lI 0), .ref hpl, .int (iI 0), .ref hpd, .int (iI 0), .ref htx, .int (iI 0), .int (iI 0), .int (iI (-1)), .int (iI (-1)), .int (iI 0), .ref htd, .int (iI 0), .ref hrw, .ref hrl, .ref hir]))] s.heap := hP
  refine lv_aload_n hx hb dX11_here_0 rfl (lv_at hl 0 rfl) ?_
  refine va_get (D := (dC, dI)) (ci := 11) (v := .int (iI 0)) (C := RX11) (T := TX11) (N := 31) hx hb hts (fun _ h => List.mem_cons_of_mem _ (inlX11 _ h)) hown hK hP 0 rfl rfl 22 (by decide) (hts (.fieldLink RX11 238 "LoanServicingModel" "spot" "I") (List.mem_cons_of_mem _ (wl_38 (List.mem_of_getElem? (i := 8) rfl)))) (fun _ h9 => h9) rfl dX11_here_1 ?_
  refine lv_aload_n hx hb dX11_here_4 rfl (lv_at hl 0 rfl) ?_
  refine va_get (D := (dC, dI)) (ci := 11) (v := .int (iI 0)) (C := RX11) (T := TX11) (N := 31) hx hb hts (fun _ h => List.mem_cons_of_mem _ (inlX11 _ h)) hown hK hP 0 rfl rfl 21 (by decide) (hts (.fieldLink RX11 235 "LoanServicingModel" "length" "I") (List.mem_cons_of_mem _ (wl_36 (List.mem_of_getElem? (i := 16) rfl)))) (fun _ h9 => h9) rfl dX11_here_5 ?_
  refine q_icmp_ge (tgt := 23) hx hb dX11_here_8 (by decide) (by omega) (fun _ => ?_) (fun q => absurd q (by omega))
  refine q_iconst hx hb dX11_here_23 ?_
  rw [hQ]
  refine W.widen (k := 0) (n := 0) (Nat.le_of_ble_eq_true rfl) (Nat.le_of_ble_eq_true rfl) ?_
  exact W.iret (v := (iI (-1))) hx hb hr (fun t ht hW => ⟨⟨(iI (-1)), (), rfl, rfl, by rw [ht]; exact hP.sub [0] rfl, by rw [hAe]; exact hD.sub [0] (by decide) rfl⟩, hS.F ht⟩) hS.2.2 dX11_here_24
set_option maxHeartbeats 4000000 in
set_option maxRecDepth 100000 in
/-- the reference: commandHere -/
theorem c_X11_commandHere (l : Launch) (dC : Nat → ClassId) (dI : Nat → Nat → Nat) (k : Nat → ClassId) (h0 hg hk hp hpu hs hpl hpd htx htd hrw hrl hir : Nat) (sz : Nat) : Met l yX11_commandHere woX11_commandHere ({ frames := 1, cells := 0, slots := 0, locals := 20 } : Room) (PcW (dC, dI) k [.ref h0] [(h0, .inr (11, [.ref hg, .long (lI 0), .ref hk, .long (lI 0), .int (iI 0), .ref hp, .ref hpu, .int (iI 0), .ref hs, .long (lI 0), .int (iI 0), .int (iI 0), .int (iI 0), .int (iI 0), .int (iI 0), .long (lI 0), .ref hpl, .int (iI 0), .ref hpd, .int (iI 0), .ref htx, .int (iI 0), .int (iI 0), .int (iI (-1)), .int (iI (-1)), .int (iI 0), .ref htd, .int (iI 0), .ref hrw, .ref hrl, .ref hir]))] sz) (va_Qi (fun (r : Int32) (_ : Unit) => r = iI 0) (QB (dC, dI) [(h0, .inr (11, [.ref hg, .long (lI 0), .ref hk, .long (lI 0), .int (iI 0), .ref hp, .ref hpu, .int (iI 0), .ref hs, .long (lI 0), .int (iI 0), .int (iI 0), .int (iI 0), .int (iI 0), .int (iI 0), .long (lI 0), .ref hpl, .int (iI 0), .ref hpd, .int (iI 0), .ref htx, .int (iI 0), .int (iI 0), .int (iI (-1)), .int (iI (-1)), .int (iI 0), .ref htd, .int (iI 0), .ref hrw, .ref hrl, .ref hir]))] (fun _ => [(h0, .inr (11, [.ref hg, .long (lI 0), .ref hk, .long (lI 0), .int (iI 0), .ref hp, .ref hpu, .int (iI 0), .ref hs, .long (lI 0), .int (iI 0), .int (iI 0), .int (iI 0), .int (iI 0), .int (iI 0), .long (lI 0), .ref hpl, .int (iI 0), .ref hpd, .int (iI 0), .ref htx, .int (iI 0), .int (iI 0), .int (iI (-1)), .int (iI (-1)), .int (iI 0), .ref htd, .int (iI 0), .ref hrw, .ref hrl, .ref hir]))]) sz) (va_A [(h0, .inr (11, [.ref hg, .long (lI 0), .ref hk, .long (lI 0), .int (iI 0), .ref hp, .ref hpu, .int (iI 0), .ref hs, .long (lI 0), .int (iI 0), .int (iI 0), .int (iI 0), .int (iI 0), .int (iI 0), .long (lI 0), .ref hpl, .int (iI 0), .ref hpd, .int (iI 0), .ref htx, .int (iI 0), .int (iI 0), .int (iI (-1)), .int (iI (-1)), .int (iI 0), .ref htd, .int (iI 0), .ref hrw, .ref hrl, .ref hir]))] sz)) 0 0 (va_A [(h0, .inr (11, [.ref hg, .long (lI 0), .ref hk, .long (lI 0), .int (iI 0), .ref hp, .ref hpu, .int (iI 0), .ref hs, .long (lI 0), .int (iI 0), .int (iI 0), .int (iI 0), .int (iI 0), .int (iI 0), .long (lI 0), .ref hpl, .int (iI 0), .ref hpd, .int (iI 0), .ref htx, .int (iI 0), .int (iI 0), .int (iI (-1)), .int (iI (-1)), .int (iI 0), .ref htd, .int (iI 0), .ref hrw, .ref hrl, .ref hir]))] sz) := by
  refine Met.ofW (cc := cX11_commandHere) (maxL := 4) (ret := (some .boolean)) (by decide) rfl ?_
  intro p e s mI args below meth cO s₁ B hml hv
  obtain ⟨rfl, rfl, hP, hD0, hE⟩ := hv
  have hx := B.exec
  have hb := B.bytes
  have hr := B.returns
  have hts := atoms_spec (ws := woX11_commandHere) B.pre
  have hown : s.vm.findClass RX11 = some mI.cls := findClass_of_methodNamed B.named
  have hlocks := B.notSynchronized
  have hD := hD0.self (sz := s.heap.size)
  generalize hAe : va_A [(h0, .inr (11, [.ref hg, .long (lI 0), .ref hk, .long (lI 0), .int (iI 0), .ref hp, .ref hpu, .int (iI 0), .ref hs, .long (lI 0), .int (iI 0), .int (iI 0), .int (iI 0), .int (iI 0), .int (iI 0), .long (lI 0), .ref hpl, .int (iI 0), .ref hpd, .int (iI 0), .ref htx, .int (iI 0), .int (iI 0), .int (iI (-1)), .int (iI (-1)), .int (iI 0), .ref htd, .int (iI 0), .ref hrw, .ref hrl, .ref hir]))] s.heap.size = A at hD hE ⊢
  have hA : ∀ q : Nat, s.heap.size ≤ q → A q := fun q h => by rw [← hAe]; exact Or.inr h
  have hS : va_S A s.heap s.heap [] := va_S.rf
  obtain ⟨hK, hNw, hNc, hZs, hAO1, hAO2⟩ := id hE
  have hSF : CallFix p mI cO cX11_commandHere 4 s ([.ref h0] : List Value).toArray woX11_commandHere RX11 := ⟨hx, hb, hml, hown, hts⟩
  have hl := lv_entry ([.ref h0] : List Value) (n := 4) (Nat.le_of_ble_eq_true rfl)
  rw [lg_entry_eq]
  generalize (lg_sl ([.ref h0] : List Value) ++ List.replicate (4 - (lg_sl ([.ref h0] : List Value)).length) Slot.unset).toArray = ls at hl ⊢
  have hl : lv_has ls 4 [(0, .ref h0)] := hl
  refine W_gen (fun Q hQ => ?_)
  change W p l e ({ frames := 1, cells := 0, slots := 0, locals := 20 } : Room) s mI _ below meth cO s.heap [] 0 0 Q _
  have hP : va_P (dC, dI) vwCl [(h0, .inr (11, [.ref hg, .long (lI 0), .ref hk, .long (lI 0), .int (iI 0), .ref hp, .ref hpu, .int (iI 0), .ref hs, .long (lI 0), .int (iI 0), .int (iI 0), .int (iI 0), .int (iI 0), .int (iI 0), .long (lI 0), .ref hpl, .int (iI 0), .ref hpd, .int (iI 0), .ref htx, .int (iI 0), .int (iI 0), .int (iI (-1)), .int (iI (-1)), .int (iI 0), .ref htd, .int (iI 0), .ref hrw, .ref hrl, .ref hir]))] s.heap := hP
  refine lv_aload_n hx hb dX11_commandHere_0 rfl (lv_at hl 0 rfl) ?_
  refine ki (va_runV (As := []) (rest := []) hSF ((c_X11_here l dC dI k h0 hg hk hp hpu hs hpl hpd htx htd hrw hrl hir) s.heap.size) (cwV 0 hts gX11_commandHere_X11_here rfl rfl rfl (by decide +kernel) ⟨Nat.le_of_ble_eq_true rfl, Nat.le_of_ble_eq_true rfl⟩) (preV hP hD hE hS hA [0] rfl (by decide) (ci := 11) (q0 := 0) rfl rfl) rfl rfl hl.1 rfl (lv_room (Nat.le_of_ble_eq_true rfl)) dX11_commandHere_1 ⟨Nat.le_of_ble_eq_true rfl, Nat.le_of_ble_eq_true rfl⟩) hP hD hS hA [0] [] rfl (wr := []) rfl (by decide) (by decide) (fun r1 _ H locs hw hP hD hS => ?_)
  obtain rfl : r1 = (iI (-1)) := hw
  have hP : va_P (dC, dI) vwCl [(h0, .inr (11, [.ref hg, .long (lI 0), .ref hk, .long (lI 0), .int (iI 0), .ref hp, .ref hpu, .int (iI 0), .ref hs, .long (lI 0), .int (iI 0), .int (iI 0), .int (iI 0), .int (iI 0), .int (iI 0), .long (lI 0), .ref hpl, .int (iI 0), .ref hpd, .int (iI 0), .ref htx, .int (iI 0), .int (iI 0), .int (iI (-1)), .int (iI (-1)), .int (iI 0), .ref htd, .int (iI 0), .ref hrw, .ref hrl, .ref hir]))] H := hP
  have hD : va_D A [(h0, .inr (11, [.ref hg, .long (lI 0), .ref hk, .long (lI 0), .int (iI 0), .ref hp, .ref hpu, .int (iI 0), .ref hs, .long (lI 0), .int (iI 0), .int (iI 0), .int (iI 0), .int (iI 0), .int (iI 0), .long (lI 0), .ref hpl, .int (iI 0), .ref hpd, .int (iI 0), .ref htx, .int (iI 0), .int (iI 0), .int (iI (-1)), .int (iI (-1)), .int (iI 0), .ref htd, .int (iI 0), .ref hrw, .ref hrl, .ref hir]))] := hD
  refine lv_istore_n (lv' := [(1, .int (iI (-1))), (0, .ref h0)]) hx hb dX11_commandHere_4 rfl hl (by decide) rfl (fun ls hl => ?_)
  refine lv_iload_n hx hb dX11_commandHere_5 rfl (lv_at hl 0 rfl) ?_
  refine q_bipush (z := 112) hx hb dX11_commandHere_6 (by decide) ?_
  refine q_icmp_eq (tgt := 37) hx hb dX11_commandHere_8 (by decide) (by omega) (fun q => absurd q (by omega)) (fun _ => ?_)
  refine lv_iload_n hx hb dX11_commandHere_11 rfl (lv_at hl 0 rfl) ?_
  refine q_bipush (z := 100) hx hb dX11_commandHere_12 (by decide) ?_
  refine q_icmp_eq (tgt := 37) hx hb dX11_commandHere_14 (by decide) (by omega) (fun q => absurd q (by omega)) (fun _ => ?_)
  refine lv_iload_n hx hb dX11_commandHere_17 rfl (lv_at hl 0 rfl) ?_
  refine q_bipush (z := 114) hx hb dX11_commandHere_18 (by decide) ?_
  refine q_icmp_eq (tgt := 37) hx hb dX11_commandHere_20 (by decide) (by omega) (fun q => absurd q (by omega)) (fun _ => ?_)
  refine lv_iload_n hx hb dX11_commandHere_23 rfl (lv_at hl 0 rfl) ?_
  refine q_bipush (z := 104) hx hb dX11_commandHere_24 (by decide) ?_
  refine q_icmp_eq (tgt := 37) hx hb dX11_commandHere_26 (by decide) (by omega) (fun q => absurd q (by omega)) (fun _ => ?_)
  refine lv_iload_n hx hb dX11_commandHere_29 rfl (lv_at hl 0 rfl) ?_
  refine q_bipush (z := 119) hx hb dX11_commandHere_30 (by decide) ?_
  refine q_icmp_eq (tgt := 37) hx hb dX11_commandHere_32 (by decide) (by omega) (fun q => absurd q (by omega)) (fun _ => ?_)
  refine q_iconst hx hb dX11_commandHere_35 ?_
  rw [hQ]
  refine W.widen (k := 0) (n := 0) (Nat.le_of_ble_eq_true rfl) (Nat.le_of_ble_eq_true rfl) ?_
  exact W.zret (v := (iI 0)) hx hb hr (by first | rfl | decide) (fun t ht hW => ⟨⟨(iI 0), (), rfl, rfl, by rw [ht]; exact hP.sub [0] rfl, by rw [hAe]; exact hD.sub [0] (by decide) rfl⟩, hS.F ht⟩) hS.2.2 dX11_commandHere_36
set_option maxHeartbeats 4000000 in
set_option maxRecDepth 100000 in
/-- the reference: isText -/
theorem c_X11_isText (l : Launch) (dC : Nat → ClassId) (dI : Nat → Nat → Nat) (k : Nat → ClassId) (h0 hg hk hp hpu hs hpl hpd htx htd hrw hrl hir : Nat) (sz : Nat) : Met l yX11_isText woX11_isText ({ frames := 2, cells := 0, slots := 0, locals := 43 } : Room) (PcW (dC, dI) k [.ref h0] [(h0, .inr (11, [.ref hg, .long (lI 0), .ref hk, .long (lI 0), .int (iI 0), .ref hp, .ref hpu, .int (iI 0), .ref hs, .long (lI 0), .int (iI 0), .int (iI 0), .int (iI 0), .int (iI 0), .int (iI 0), .long (lI 0), .ref hpl, .int (iI 0), .ref hpd, .int (iI 0), .ref htx, .int (iI 0), .int (iI 0), .int (iI (-1)), .int (iI (-1)), .int (iI 0), .ref htd, .int (iI 0), .ref hrw, .ref hrl, .ref hir]))] sz) (va_Qi (fun (r : Int32) (_ : Unit) => r = iI 0) (QB (dC, dI) [(h0, .inr (11, [.ref hg, .long (lI 0), .ref hk, .long (lI 0), .int (iI 0), .ref hp, .ref hpu, .int (iI 0), .ref hs, .long (lI 0), .int (iI 0), .int (iI 0), .int (iI 0), .int (iI 0), .int (iI 0), .long (lI 0), .ref hpl, .int (iI 0), .ref hpd, .int (iI 0), .ref htx, .int (iI 0), .int (iI 0), .int (iI (-1)), .int (iI (-1)), .int (iI 0), .ref htd, .int (iI 0), .ref hrw, .ref hrl, .ref hir]))] (fun _ => [(h0, .inr (11, [.ref hg, .long (lI 0), .ref hk, .long (lI 0), .int (iI 0), .ref hp, .ref hpu, .int (iI 0), .ref hs, .long (lI 0), .int (iI 0), .int (iI 0), .int (iI 0), .int (iI 0), .int (iI 0), .long (lI 0), .ref hpl, .int (iI 0), .ref hpd, .int (iI 0), .ref htx, .int (iI 0), .int (iI 0), .int (iI (-1)), .int (iI (-1)), .int (iI 0), .ref htd, .int (iI 0), .ref hrw, .ref hrl, .ref hir]))]) sz) (va_A [(h0, .inr (11, [.ref hg, .long (lI 0), .ref hk, .long (lI 0), .int (iI 0), .ref hp, .ref hpu, .int (iI 0), .ref hs, .long (lI 0), .int (iI 0), .int (iI 0), .int (iI 0), .int (iI 0), .int (iI 0), .long (lI 0), .ref hpl, .int (iI 0), .ref hpd, .int (iI 0), .ref htx, .int (iI 0), .int (iI 0), .int (iI (-1)), .int (iI (-1)), .int (iI 0), .ref htd, .int (iI 0), .ref hrw, .ref hrl, .ref hir]))] sz)) 0 0 (va_A [(h0, .inr (11, [.ref hg, .long (lI 0), .ref hk, .long (lI 0), .int (iI 0), .ref hp, .ref hpu, .int (iI 0), .ref hs, .long (lI 0), .int (iI 0), .int (iI 0), .int (iI 0), .int (iI 0), .int (iI 0), .long (lI 0), .ref hpl, .int (iI 0), .ref hpd, .int (iI 0), .ref htx, .int (iI 0), .int (iI 0), .int (iI (-1)), .int (iI (-1)), .int (iI 0), .ref htd, .int (iI 0), .ref hrw, .ref hrl, .ref hir]))] sz) := by
  refine Met.ofW (cc := cX11_isText) (maxL := 1) (ret := (some .boolean)) (by decide) rfl ?_
  intro p e s mI args below meth cO s₁ B hml hv
  obtain ⟨rfl, rfl, hP, hD0, hE⟩ := hv
  have hx := B.exec
  have hb := B.bytes
  have hr := B.returns
  have hts := atoms_spec (ws := woX11_isText) B.pre
  have hown : s.vm.findClass RX11 = some mI.cls := findClass_of_methodNamed B.named
  have hlocks := B.notSynchronized
  have hD := hD0.self (sz := s.heap.size)
  generalize hAe : va_A [(h0, .inr (11, [.ref hg, .long (lI 0), .ref hk, .long (lI 0), .int (iI 0), .ref hp, .ref hpu, .int (iI 0), .ref hs, .long (lI 0), .int (iI 0), .int (iI 0), .int (iI 0), .int (iI 0), .int (iI 0), .long (lI 0), .ref hpl, .int (iI 0), .ref hpd, .int (iI 0), .ref htx, .int (iI 0), .int (iI 0), .int (iI (-1)), .int (iI (-1)), .int (iI 0), .ref htd, .int (iI 0), .ref hrw, .ref hrl, .ref hir]))] s.heap.size = A at hD hE ⊢
  have hA : ∀ q : Nat, s.heap.size ≤ q → A q := fun q h => by rw [← hAe]; exact Or.inr h
  have hS : va_S A s.heap s.heap [] := va_S.rf
  obtain ⟨hK, hNw, hNc, hZs, hAO1, hAO2⟩ := id hE
  have hSF : CallFix p mI cO cX11_isText 1 s ([.ref h0] : List Value).toArray woX11_isText RX11 := ⟨hx, hb, hml, hown, hts⟩
  have hl := lv_entry ([.ref h0] : List Value) (n := 1) (Nat.le_of_ble_eq_true rfl)
  rw [lg_entry_eq]
  generalize (lg_sl ([.ref h0] : List Value) ++ List.replicate (1 - (lg_sl ([.ref h0] : List Value)).length) Slot.unset).toArray = ls at hl ⊢
  have hl : lv_has ls 1 [(0, .ref h0)] := hl
  refine W_gen (fun Q hQ => ?_)
  change W p l e ({ frames := 2, cells := 0, slots := 0, locals := 43 } : Room) s mI _ below meth cO s.heap [] 0 0 Q _
  have hP : va_P (dC, dI) vwCl [(h0, .inr (11, [.ref hg, .long (lI 0), .ref hk, .long (lI 0), .int (iI 0), .ref hp, .ref hpu, .int (iI 0), .ref hs, .long (lI 0), .int (iI 0), .int (iI 0), .int (iI 0), .int (iI 0), .int (iI 0), .long (lI 0), .ref hpl, .int (iI 0), .ref hpd, .int (iI 0), .ref htx, .int (iI 0), .int (iI 0), .int (iI (-1)), .int (iI (-1)), .int (iI 0), .ref htd, .int (iI 0), .ref hrw, .ref hrl, .ref hir]))] s.heap := hP
  refine lv_aload_n hx hb dX11_isText_0 rfl (lv_at hl 0 rfl) ?_
  refine q_iconst hx hb dX11_isText_1 ?_
  refine va_put (D := (dC, dI)) (ci := 11) (v := .int (iI 0)) (ty := .int) (C := RX11) (T := TX11) (N := 31) hx hb hts (fun _ h => List.mem_cons_of_mem _ (inlX11 _ h)) tyX11 tyX11_ok nmX11 hown hK hP hD hS 0 rfl rfl 22 (by decide) (hts (.fieldLink RX11 238 "LoanServicingModel" "spot" "I") (List.mem_cons_of_mem _ (wl_38 (List.mem_of_getElem? (i := 8) rfl)))) (fun _ h9 => h9) rfl (by decide +kernel) rfl rfl (Nat.le_of_ble_eq_true rfl) dX11_isText_2 (fun H locs hP hD hS => ?_)
  have hP : va_P (dC, dI) vwCl [(h0, .inr (11, [.ref hg, .long (lI 0), .ref hk, .long (lI 0), .int (iI 0), .ref hp, .ref hpu, .int (iI 0), .ref hs, .long (lI 0), .int (iI 0), .int (iI 0), .int (iI 0), .int (iI 0), .int (iI 0), .long (lI 0), .ref hpl, .int (iI 0), .ref hpd, .int (iI 0), .ref htx, .int (iI 0), .int (iI 0), .int (iI (-1)), .int (iI (-1)), .int (iI 0), .ref htd, .int (iI 0), .ref hrw, .ref hrl, .ref hir]))] H := hP
  have hD : va_D A [(h0, .inr (11, [.ref hg, .long (lI 0), .ref hk, .long (lI 0), .int (iI 0), .ref hp, .ref hpu, .int (iI 0), .ref hs, .long (lI 0), .int (iI 0), .int (iI 0), .int (iI 0), .int (iI 0), .int (iI 0), .long (lI 0), .ref hpl, .int (iI 0), .ref hpd, .int (iI 0), .ref htx, .int (iI 0), .int (iI 0), .int (iI (-1)), .int (iI (-1)), .int (iI 0), .ref htd, .int (iI 0), .ref hrw, .ref hrl, .ref hir]))] := hD
  refine lv_aload_n hx hb dX11_isText_5 rfl (lv_at hl 0 rfl) ?_
  refine q_iconst hx hb dX11_isText_6 ?_
  refine va_put (D := (dC, dI)) (ci := 11) (v := .int (iI 0)) (ty := .int) (C := RX11) (T := TX11) (N := 31) hx hb hts (fun _ h => List.mem_cons_of_mem _ (inlX11 _ h)) tyX11 tyX11_ok nmX11 hown hK hP hD hS 0 rfl rfl 27 (by decide) (hts (.fieldLink RX11 244 "LoanServicingModel" "tolds" "I") (List.mem_cons_of_mem _ (wl_38 (List.mem_of_getElem? (i := 9) rfl)))) (fun _ h9 => h9) rfl (by decide +kernel) rfl rfl (Nat.le_of_ble_eq_true rfl) dX11_isText_7 (fun H locs hP hD hS => ?_)
  have hP : va_P (dC, dI) vwCl [(h0, .inr (11, [.ref hg, .long (lI 0), .ref hk, .long (lI 0), .int (iI 0), .ref hp, .ref hpu, .int (iI 0), .ref hs, .long (lI 0), .int (iI 0), .int (iI 0), .int (iI 0), .int (iI 0), .int (iI 0), .long (lI 0), .ref hpl, .int (iI 0), .ref hpd, .int (iI 0), .ref htx, .int (iI 0), .int (iI 0), .int (iI (-1)), .int (iI (-1)), .int (iI 0), .ref htd, .int (iI 0), .ref hrw, .ref hrl, .ref hir]))] H := hP
  have hD : va_D A [(h0, .inr (11, [.ref hg, .long (lI 0), .ref hk, .long (lI 0), .int (iI 0), .ref hp, .ref hpu, .int (iI 0), .ref hs, .long (lI 0), .int (iI 0), .int (iI 0), .int (iI 0), .int (iI 0), .int (iI 0), .long (lI 0), .ref hpl, .int (iI 0), .ref hpd, .int (iI 0), .ref htx, .int (iI 0), .int (iI 0), .int (iI (-1)), .int (iI (-1)), .int (iI 0), .ref htd, .int (iI 0), .ref hrw, .ref hrl, .ref hir]))] := hD
  refine lv_aload_n hx hb dX11_isText_10 rfl (lv_at hl 0 rfl) ?_
  refine ki (va_runV (As := []) (rest := []) hSF ((c_X11_commandHere l dC dI k h0 hg hk hp hpu hs hpl hpd htx htd hrw hrl hir) H.size) (cwV 0 hts gX11_isText_X11_commandHere rfl rfl rfl (by decide +kernel) ⟨Nat.le_of_ble_eq_true rfl, Nat.le_of_ble_eq_true rfl⟩) (preV hP hD hE hS hA [0] rfl (by decide) (ci := 11) (q0 := 0) rfl rfl) rfl rfl hl.1 rfl (lv_room (Nat.le_of_ble_eq_true rfl)) dX11_isText_11 ⟨Nat.le_of_ble_eq_true rfl, Nat.le_of_ble_eq_true rfl⟩) hP hD hS hA [0] [] rfl (wr := []) rfl (by decide) (by decide) (fun r11 _ H locs hw hP hD hS => ?_)
  obtain rfl : r11 = (iI 0) := hw
  have hP : va_P (dC, dI) vwCl [(h0, .inr (11, [.ref hg, .long (lI 0), .ref hk, .long (lI 0), .int (iI 0), .ref hp, .ref hpu, .int (iI 0), .ref hs, .long (lI 0), .int (iI 0), .int (iI 0), .int (iI 0), .int (iI 0), .int (iI 0), .long (lI 0), .ref hpl, .int (iI 0), .ref hpd, .int (iI 0), .ref htx, .int (iI 0), .int (iI 0), .int (iI (-1)), .int (iI (-1)), .int (iI 0), .ref htd, .int (iI 0), .ref hrw, .ref hrl, .ref hir]))] H := hP
  have hD : va_D A [(h0, .inr (11, [.ref hg, .long (lI 0), .ref hk, .long (lI 0), .int (iI 0), .ref hp, .ref hpu, .int (iI 0), .ref hs, .long (lI 0), .int (iI 0), .int (iI 0), .int (iI 0), .int (iI 0), .int (iI 0), .long (lI 0), .ref hpl, .int (iI 0), .ref hpd, .int (iI 0), .ref htx, .int (iI 0), .int (iI 0), .int (iI (-1)), .int (iI (-1)), .int (iI 0), .ref htd, .int (iI 0), .ref hrw, .ref hrl, .ref hir]))] := hD
  refine q_if_eq (tgt := 54) hx hb dX11_isText_14 (by decide) (by omega) (fun _ => ?_) (fun q => absurd q (by omega))
  refine q_iconst hx hb dX11_isText_54 ?_
  rw [hQ]
  refine W.widen (k := 0) (n := 0) (Nat.le_of_ble_eq_true rfl) (Nat.le_of_ble_eq_true rfl) ?_
  exact W.zret (v := (iI 0)) hx hb hr (by first | rfl | decide) (fun t ht hW => ⟨⟨(iI 0), (), rfl, rfl, by rw [ht]; exact hP.sub [0] rfl, by rw [hAe]; exact hD.sub [0] (by decide) rfl⟩, hS.F ht⟩) hS.2.2 dX11_isText_55
set_option maxHeartbeats 4000000 in
set_option maxRecDepth 100000 in
/-- the reference: execute -/
theorem c_X11_execute (l : Launch) (dC : Nat → ClassId) (dI : Nat → Nat → Nat) (k : Nat → ClassId) (h0 hg hk hp hpu hs hpl hpd htx htd hrw hrl hir : Nat) (sz : Nat) : Met l yX11_execute woX11_execute ({ frames := 3, cells := 0, slots := 0, locals := 63 } : Room) (PcW (dC, dI) k [.ref h0] [(h0, .inr (11, [.ref hg, .long (lI 0), .ref hk, .long (lI 0), .int (iI 0), .ref hp, .ref hpu, .int (iI 0), .ref hs, .long (lI 0), .int (iI 0), .int (iI 0), .int (iI 0), .int (iI 0), .int (iI 0), .long (lI 0), .ref hpl, .int (iI 0), .ref hpd, .int (iI 0), .ref htx, .int (iI 0), .int (iI 0), .int (iI (-1)), .int (iI (-1)), .int (iI 0), .ref htd, .int (iI 0), .ref hrw, .ref hrl, .ref hir]))] sz) (va_Qi (fun (r : Int32) (_ : Unit) => r = iI 0) (QB (dC, dI) [(h0, .inr (11, [.ref hg, .long (lI 0), .ref hk, .long (lI 0), .int (iI 0), .ref hp, .ref hpu, .int (iI 0), .ref hs, .long (lI 0), .int (iI 0), .int (iI 0), .int (iI 0), .int (iI 0), .int (iI 0), .long (lI 0), .ref hpl, .int (iI 0), .ref hpd, .int (iI 0), .ref htx, .int (iI 0), .int (iI 0), .int (iI (-1)), .int (iI (-1)), .int (iI 0), .ref htd, .int (iI 0), .ref hrw, .ref hrl, .ref hir]))] (fun _ => [(h0, .inr (11, [.ref hg, .long (lI 0), .ref hk, .long (lI 0), .int (iI 0), .ref hp, .ref hpu, .int (iI 0), .ref hs, .long (lI 0), .int (iI 0), .int (iI 1), .int (iI 0), .int (iI 0), .int (iI 0), .long (lI 0), .ref hpl, .int (iI 0), .ref hpd, .int (iI 0), .ref htx, .int (iI 0), .int (iI 0), .int (iI 0), .int (iI (-1)), .int (iI 0), .ref htd, .int (iI 0), .ref hrw, .ref hrl, .ref hir]))]) sz) (va_A [(h0, .inr (11, [.ref hg, .long (lI 0), .ref hk, .long (lI 0), .int (iI 0), .ref hp, .ref hpu, .int (iI 0), .ref hs, .long (lI 0), .int (iI 0), .int (iI 0), .int (iI 0), .int (iI 0), .int (iI 0), .long (lI 0), .ref hpl, .int (iI 0), .ref hpd, .int (iI 0), .ref htx, .int (iI 0), .int (iI 0), .int (iI (-1)), .int (iI (-1)), .int (iI 0), .ref htd, .int (iI 0), .ref hrw, .ref hrl, .ref hir]))] sz)) 0 0 (va_A [(h0, .inr (11, [.ref hg, .long (lI 0), .ref hk, .long (lI 0), .int (iI 0), .ref hp, .ref hpu, .int (iI 0), .ref hs, .long (lI 0), .int (iI 0), .int (iI 0), .int (iI 0), .int (iI 0), .int (iI 0), .long (lI 0), .ref hpl, .int (iI 0), .ref hpd, .int (iI 0), .ref htx, .int (iI 0), .int (iI 0), .int (iI (-1)), .int (iI (-1)), .int (iI 0), .ref htd, .int (iI 0), .ref hrw, .ref hrl, .ref hir]))] sz) := by
  refine Met.ofW (cc := cX11_execute) (maxL := 4) (ret := (some .int)) (by decide) rfl ?_
  intro p e s mI args below meth cO s₁ B hml hv
  obtain ⟨rfl, rfl, hP, hD0, hE⟩ := hv
  have hx := B.exec
  have hb := B.bytes
  have hr := B.returns
  have hts := atoms_spec (ws := woX11_execute) B.pre
  have hown : s.vm.findClass RX11 = some mI.cls := findClass_of_methodNamed B.named
  have hlocks := B.notSynchronized
  have hD := hD0.self (sz := s.heap.size)
  generalize hAe : va_A [(h0, .inr (11, [.ref hg, .long (lI 0), .ref hk, .long (lI 0), .int (iI 0), .ref hp, .ref hpu, .int (iI 0), .ref hs, .long (lI 0), .int (iI 0), .int (iI 0), .int (iI 0), .int (iI 0), .int (iI 0), .long (lI 0), .ref hpl, .int (iI 0), .ref hpd, .int (iI 0), .ref htx, .int (iI 0), .int (iI 0), .int (iI (-1)), .int (iI (-1)), .int (iI 0), .ref htd, .int (iI 0), .ref hrw, .ref hrl, .ref hir]))] s.heap.size = A at hD hE ⊢
  have hA : ∀ q : Nat, s.heap.size ≤ q → A q := fun q h => by rw [← hAe]; exact Or.inr h
  have hS : va_S A s.heap s.heap [] := va_S.rf
  obtain ⟨hK, hNw, hNc, hZs, hAO1, hAO2⟩ := id hE
  have hSF : CallFix p mI cO cX11_execute 4 s ([.ref h0] : List Value).toArray woX11_execute RX11 := ⟨hx, hb, hml, hown, hts⟩
  have hl := lv_entry ([.ref h0] : List Value) (n := 4) (Nat.le_of_ble_eq_true rfl)
  rw [lg_entry_eq]
  generalize (lg_sl ([.ref h0] : List Value) ++ List.replicate (4 - (lg_sl ([.ref h0] : List Value)).length) Slot.unset).toArray = ls at hl ⊢
  have hl : lv_has ls 4 [(0, .ref h0)] := hl
  refine W_gen (fun Q hQ => ?_)
  change W p l e ({ frames := 3, cells := 0, slots := 0, locals := 63 } : Room) s mI _ below meth cO s.heap [] 0 0 Q _
  have hP : va_P (dC, dI) vwCl [(h0, .inr (11, [.ref hg, .long (lI 0), .ref hk, .long (lI 0), .int (iI 0), .ref hp, .ref hpu, .int (iI 0), .ref hs, .long (lI 0), .int (iI 0), .int (iI 0), .int (iI 0), .int (iI 0), .int (iI 0), .long (lI 0), .ref hpl, .int (iI 0), .ref hpd, .int (iI 0), .ref htx, .int (iI 0), .int (iI 0), .int (iI (-1)), .int (iI (-1)), .int (iI 0), .ref htd, .int (iI 0), .ref hrw, .ref hrl, .ref hir]))] s.heap := hP
  refine lv_aload_n hx hb dX11_execute_0 rfl (lv_at hl 0 rfl) ?_
  refine q_iconst hx hb dX11_execute_1 ?_
  refine va_put (D := (dC, dI)) (ci := 11) (v := .int (iI 0)) (ty := .int) (C := RX11) (T := TX11) (N := 31) hx hb hts (fun _ h => List.mem_cons_of_mem _ (inlX11 _ h)) tyX11 tyX11_ok nmX11 hown hK hP hD hS 0 rfl rfl 11 (by decide) (hts (.fieldLink RX11 56 "LoanServicingModel" "thrown" "I") (List.mem_cons_of_mem _ (wl_13 (List.mem_of_getElem? (i := 12) rfl)))) (fun _ h9 => h9) rfl (by decide +kernel) rfl rfl (Nat.le_of_ble_eq_true rfl) dX11_execute_2 (fun H locs hP hD hS => ?_)
  have hP : va_P (dC, dI) vwCl [(h0, .inr (11, [.ref hg, .long (lI 0), .ref hk, .long (lI 0), .int (iI 0), .ref hp, .ref hpu, .int (iI 0), .ref hs, .long (lI 0), .int (iI 0), .int (iI 0), .int (iI 0), .int (iI 0), .int (iI 0), .long (lI 0), .ref hpl, .int (iI 0), .ref hpd, .int (iI 0), .ref htx, .int (iI 0), .int (iI 0), .int (iI (-1)), .int (iI (-1)), .int (iI 0), .ref htd, .int (iI 0), .ref hrw, .ref hrl, .ref hir]))] H := hP
  have hD : va_D A [(h0, .inr (11, [.ref hg, .long (lI 0), .ref hk, .long (lI 0), .int (iI 0), .ref hp, .ref hpu, .int (iI 0), .ref hs, .long (lI 0), .int (iI 0), .int (iI 0), .int (iI 0), .int (iI 0), .int (iI 0), .long (lI 0), .ref hpl, .int (iI 0), .ref hpd, .int (iI 0), .ref htx, .int (iI 0), .int (iI 0), .int (iI (-1)), .int (iI (-1)), .int (iI 0), .ref htd, .int (iI 0), .ref hrw, .ref hrl, .ref hir]))] := hD
  refine lv_aload_n hx hb dX11_execute_5 rfl (lv_at hl 0 rfl) ?_
  refine ki (va_runV (As := []) (rest := []) hSF ((c_X11_isText l dC dI k h0 hg hk hp hpu hs hpl hpd htx htd hrw hrl hir) H.size) (cwV 0 hts gX11_execute_X11_isText rfl rfl rfl (by decide +kernel) ⟨Nat.le_of_ble_eq_true rfl, Nat.le_of_ble_eq_true rfl⟩) (preV hP hD hE hS hA [0] rfl (by decide) (ci := 11) (q0 := 0) rfl rfl) rfl rfl hl.1 rfl (lv_room (Nat.le_of_ble_eq_true rfl)) dX11_execute_6 ⟨Nat.le_of_ble_eq_true rfl, Nat.le_of_ble_eq_true rfl⟩) hP hD hS hA [0] [] rfl (wr := []) rfl (by decide) (by decide) (fun r6 _ H locs hw hP hD hS => ?_)
  obtain rfl : r6 = (iI 0) := hw
  have hP : va_P (dC, dI) vwCl [(h0, .inr (11, [.ref hg, .long (lI 0), .ref hk, .long (lI 0), .int (iI 0), .ref hp, .ref hpu, .int (iI 0), .ref hs, .long (lI 0), .int (iI 0), .int (iI 0), .int (iI 0), .int (iI 0), .int (iI 0), .long (lI 0), .ref hpl, .int (iI 0), .ref hpd, .int (iI 0), .ref htx, .int (iI 0), .int (iI 0), .int (iI (-1)), .int (iI (-1)), .int (iI 0), .ref htd, .int (iI 0), .ref hrw, .ref hrl, .ref hir]))] H := hP
  have hD : va_D A [(h0, .inr (11, [.ref hg, .long (lI 0), .ref hk, .long (lI 0), .int (iI 0), .ref hp, .ref hpu, .int (iI 0), .ref hs, .long (lI 0), .int (iI 0), .int (iI 0), .int (iI 0), .int (iI 0), .int (iI 0), .long (lI 0), .ref hpl, .int (iI 0), .ref hpd, .int (iI 0), .ref htx, .int (iI 0), .int (iI 0), .int (iI (-1)), .int (iI (-1)), .int (iI 0), .ref htd, .int (iI 0), .ref hrw, .ref hrl, .ref hir]))] := hD
  refine lv_istore_n (lv' := [(1, .int (iI 0)), (0, .ref h0)]) hx hb dX11_execute_9 rfl hl (by decide) rfl (fun ls hl => ?_)
  refine lv_aload_n hx hb dX11_execute_10 rfl (lv_at hl 1 rfl) ?_
  refine q_iconst hx hb dX11_execute_11 ?_
  refine va_put (D := (dC, dI)) (ci := 11) (v := .int (iI 0)) (ty := .int) (C := RX11) (T := TX11) (N := 31) hx hb hts (fun _ h => List.mem_cons_of_mem _ (inlX11 _ h)) tyX11 tyX11_ok nmX11 hown hK hP hD hS 0 rfl rfl 21 (by decide) (hts (.fieldLink RX11 235 "LoanServicingModel" "length" "I") (List.mem_cons_of_mem _ (wl_36 (List.mem_of_getElem? (i := 16) rfl)))) (fun _ h9 => h9) rfl (by decide +kernel) rfl rfl (Nat.le_of_ble_eq_true rfl) dX11_execute_12 (fun H locs hP hD hS => ?_)
  have hP : va_P (dC, dI) vwCl [(h0, .inr (11, [.ref hg, .long (lI 0), .ref hk, .long (lI 0), .int (iI 0), .ref hp, .ref hpu, .int (iI 0), .ref hs, .long (lI 0), .int (iI 0), .int (iI 0), .int (iI 0), .int (iI 0), .int (iI 0), .long (lI 0), .ref hpl, .int (iI 0), .ref hpd, .int (iI 0), .ref htx, .int (iI 0), .int (iI 0), .int (iI (-1)), .int (iI (-1)), .int (iI 0), .ref htd, .int (iI 0), .ref hrw, .ref hrl, .ref hir]))] H := hP
  have hD : va_D A [(h0, .inr (11, [.ref hg, .long (lI 0), .ref hk, .long (lI 0), .int (iI 0), .ref hp, .ref hpu, .int (iI 0), .ref hs, .long (lI 0), .int (iI 0), .int (iI 0), .int (iI 0), .int (iI 0), .int (iI 0), .long (lI 0), .ref hpl, .int (iI 0), .ref hpd, .int (iI 0), .ref htx, .int (iI 0), .int (iI 0), .int (iI (-1)), .int (iI (-1)), .int (iI 0), .ref htd, .int (iI 0), .ref hrw, .ref hrl, .ref hir]))] := hD
  refine lv_iload_n hx hb dX11_execute_15 rfl (lv_at hl 0 rfl) ?_
  refine q_if_ne (tgt := 33) hx hb dX11_execute_16 (by decide) (by omega) (fun q => absurd q (by omega)) (fun _ => ?_)
  refine lv_aload_n hx hb dX11_execute_19 rfl (lv_at hl 1 rfl) ?_
  refine lv_aload_n hx hb dX11_execute_20 rfl (lv_at hl 1 rfl) ?_
  refine va_get (D := (dC, dI)) (ci := 11) (v := .int (iI 0)) (C := RX11) (T := TX11) (N := 31) hx hb hts (fun _ h => List.mem_cons_of_mem _ (inlX11 _ h)) hown hK hP 0 rfl rfl 22 (by decide) (hts (.fieldLink RX11 238 "LoanServicingModel" "spot" "I") (List.mem_cons_of_mem _ (wl_38 (List.mem_of_getElem? (i := 8) rfl)))) (fun _ h9 => h9) rfl dX11_execute_21 ?_
  refine va_put (D := (dC, dI)) (ci := 11) (v := .int (iI 0)) (ty := .int) (C := RX11) (T := TX11) (N := 31) hx hb hts (fun _ h => List.mem_cons_of_mem _ (inlX11 _ h)) tyX11 tyX11_ok nmX11 hown hK hP hD hS 0 rfl rfl 23 (by decide) (hts (.fieldLink RX11 35 "LoanServicingModel" "error" "I") (List.mem_cons_of_mem _ (wl_5 (List.mem_of_getElem? (i := 16) rfl)))) (fun _ h9 => h9) rfl (by decide +kernel) rfl rfl (Nat.le_of_ble_eq_true rfl) dX11_execute_24 (fun H locs hP hD hS => ?_)
  have hP : va_P (dC, dI) vwCl [(h0, .inr (11, [.ref hg, .long (lI 0), .ref hk, .long (lI 0), .int (iI 0), .ref hp, .ref hpu, .int (iI 0), .ref hs, .long (lI 0), .int (iI 0), .int (iI 0), .int (iI 0), .int (iI 0), .int (iI 0), .long (lI 0), .ref hpl, .int (iI 0), .ref hpd, .int (iI 0), .ref htx, .int (iI 0), .int (iI 0), .int (iI 0), .int (iI (-1)), .int (iI 0), .ref htd, .int (iI 0), .ref hrw, .ref hrl, .ref hir]))] H := hP
  have hD : va_D A [(h0, .inr (11, [.ref hg, .long (lI 0), .ref hk, .long (lI 0), .int (iI 0), .ref hp, .ref hpu, .int (iI 0), .ref hs, .long (lI 0), .int (iI 0), .int (iI 0), .int (iI 0), .int (iI 0), .int (iI 0), .long (lI 0), .ref hpl, .int (iI 0), .ref hpd, .int (iI 0), .ref htx, .int (iI 0), .int (iI 0), .int (iI 0), .int (iI (-1)), .int (iI 0), .ref htd, .int (iI 0), .ref hrw, .ref hrl, .ref hir]))] := hD
  refine lv_aload_n hx hb dX11_execute_27 rfl (lv_at hl 1 rfl) ?_
  refine q_iconst hx hb dX11_execute_28 ?_
  refine ki (va_runV (As := [.int (iI 1)]) (rest := []) hSF ((c_X11_fails l dC dI k h0 (.ref hg) (.long (lI 0)) (.ref hk) (.long (lI 0)) (.int (iI 0)) (.ref hp) (.ref hpu) (.int (iI 0)) (.ref hs) (.long (lI 0)) (.int (iI 0)) 0 1 [.int (iI 0), .int (iI 0), .int (iI 0), .long (lI 0), .ref hpl, .int (iI 0), .ref hpd, .int (iI 0), .ref htx, .int (iI 0), .int (iI 0), .int (iI 0), .int (iI (-1)), .int (iI 0), .ref htd, .int (iI 0), .ref hrw, .ref hrl, .ref hir]) H.size) (cwV 1 hts gX11_execute_X11_fails rfl rfl rfl (by decide +kernel) ⟨Nat.le_of_ble_eq_true rfl, Nat.le_of_ble_eq_true rfl⟩) (preV hP hD hE hS hA [0] rfl (by decide) (ci := 11) (q0 := 0) rfl rfl) rfl rfl hl.1 rfl (lv_room (Nat.le_of_ble_eq_true rfl)) dX11_execute_29 ⟨Nat.le_of_ble_eq_true rfl, Nat.le_of_ble_eq_true rfl⟩) hP hD hS hA [0] [] rfl (wr := []) rfl (by decide) (by decide) (fun r29 _ H locs hw hP hD hS => ?_)
  obtain rfl : r29 = (iI 0) := hw
  have hP : va_P (dC, dI) vwCl [(h0, .inr (11, [.ref hg, .long (lI 0), .ref hk, .long (lI 0), .int (iI 0), .ref hp, .ref hpu, .int (iI 0), .ref hs, .long (lI 0), .int (iI 0), .int (iI 1), .int (iI 0), .int (iI 0), .int (iI 0), .long (lI 0), .ref hpl, .int (iI 0), .ref hpd, .int (iI 0), .ref htx, .int (iI 0), .int (iI 0), .int (iI 0), .int (iI (-1)), .int (iI 0), .ref htd, .int (iI 0), .ref hrw, .ref hrl, .ref hir]))] H := hP
  have hD : va_D A [(h0, .inr (11, [.ref hg, .long (lI 0), .ref hk, .long (lI 0), .int (iI 0), .ref hp, .ref hpu, .int (iI 0), .ref hs, .long (lI 0), .int (iI 0), .int (iI 1), .int (iI 0), .int (iI 0), .int (iI 0), .long (lI 0), .ref hpl, .int (iI 0), .ref hpd, .int (iI 0), .ref htx, .int (iI 0), .int (iI 0), .int (iI 0), .int (iI (-1)), .int (iI 0), .ref htd, .int (iI 0), .ref hrw, .ref hrl, .ref hir]))] := hD
  rw [hQ]
  refine W.widen (k := 0) (n := 0) (Nat.le_of_ble_eq_true rfl) (Nat.le_of_ble_eq_true rfl) ?_
  exact W.iret (v := (iI 0)) hx hb hr (fun t ht hW => ⟨⟨(iI 0), (), rfl, rfl, by rw [ht]; exact hP.sub [0] rfl, by rw [hAe]; exact hD.sub [0] (by decide) rfl⟩, hS.F ht⟩) hS.2.2 dX11_execute_32
