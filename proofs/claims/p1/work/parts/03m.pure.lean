theorem gX11_cents_X11_cent : GoodIn woX11_cents (wsV RX11 110 RX11 yX11_cent woX11_cent) := go_V (wl_15 (List.mem_of_getElem? (i := 18) rfl)) (wl_15 (List.mem_of_getElem? (i := 15) rfl)) (wl_15 (List.mem_of_getElem? (i := 16) rfl)) (wl_15 (List.mem_of_getElem? (i := 17) rfl)) (wl_1 (List.mem_of_getElem? (i := 5) rfl))
theorem gX11_counted_X11_monthOf : GoodIn woX11_counted (va_wsS RX11 89 yX11_monthOf woX11_monthOf) := go_S (wl_14 (List.mem_of_getElem? (i := 21) rfl)) (wl_14 (List.mem_of_getElem? (i := 19) rfl)) (wl_14 (List.mem_of_getElem? (i := 20) rfl)) (wl_1 (List.mem_of_getElem? (i := 5) rfl))
theorem gX11_counted_X11_numberOf : GoodIn woX11_counted (va_wsS RX11 92 yX11_numberOf woX11_numberOf) := go_S (wl_15 (List.mem_of_getElem? (i := 6) rfl)) (wl_15 (List.mem_of_getElem? (i := 4) rfl)) (wl_15 (List.mem_of_getElem? (i := 5) rfl)) (wl_1 (List.mem_of_getElem? (i := 5) rfl))
theorem gX11_monthOf_X11_monthStart : GoodIn woX11_monthOf (va_wsS RX11 86 yX11_monthStart woX11_monthStart) := go_S (wl_15 (List.mem_of_getElem? (i := 0) rfl)) (wl_14 (List.mem_of_getElem? (i := 22) rfl)) (wl_14 (List.mem_of_getElem? (i := 23) rfl)) (wl_1 (List.mem_of_getElem? (i := 5) rfl))
theorem gX11_monthStart_X11_monthLength : GoodIn woX11_monthStart (va_wsS RX11 83 yX11_monthLength woX11_monthLength) := go_S (wl_15 (List.mem_of_getElem? (i := 3) rfl)) (wl_15 (List.mem_of_getElem? (i := 1) rfl)) (wl_15 (List.mem_of_getElem? (i := 2) rfl)) (wl_1 (List.mem_of_getElem? (i := 5) rfl))
theorem gX11_monthsAfter_X11_monthLength : GoodIn woX11_monthsAfter (va_wsS RX11 83 yX11_monthLength woX11_monthLength) := go_S (wl_15 (List.mem_of_getElem? (i := 3) rfl)) (wl_15 (List.mem_of_getElem? (i := 1) rfl)) (wl_15 (List.mem_of_getElem? (i := 2) rfl)) (wl_1 (List.mem_of_getElem? (i := 5) rfl))
theorem gX11_monthsAfter_X11_monthOf : GoodIn woX11_monthsAfter (va_wsS RX11 89 yX11_monthOf woX11_monthOf) := go_S (wl_14 (List.mem_of_getElem? (i := 21) rfl)) (wl_14 (List.mem_of_getElem? (i := 19) rfl)) (wl_14 (List.mem_of_getElem? (i := 20) rfl)) (wl_1 (List.mem_of_getElem? (i := 5) rfl))
theorem gX11_monthsAfter_X11_monthStart : GoodIn woX11_monthsAfter (va_wsS RX11 86 yX11_monthStart woX11_monthStart) := go_S (wl_15 (List.mem_of_getElem? (i := 0) rfl)) (wl_14 (List.mem_of_getElem? (i := 22) rfl)) (wl_14 (List.mem_of_getElem? (i := 23) rfl)) (wl_1 (List.mem_of_getElem? (i := 5) rfl))
theorem gX11_monthsAfter_X11_numberOf : GoodIn woX11_monthsAfter (va_wsS RX11 92 yX11_numberOf woX11_numberOf) := go_S (wl_15 (List.mem_of_getElem? (i := 6) rfl)) (wl_15 (List.mem_of_getElem? (i := 4) rfl)) (wl_15 (List.mem_of_getElem? (i := 5) rfl)) (wl_1 (List.mem_of_getElem? (i := 5) rfl))
theorem gX11_numberOf_X11_monthOf : GoodIn woX11_numberOf (va_wsS RX11 89 yX11_monthOf woX11_monthOf) := go_S (wl_14 (List.mem_of_getElem? (i := 21) rfl)) (wl_14 (List.mem_of_getElem? (i := 19) rfl)) (wl_14 (List.mem_of_getElem? (i := 20) rfl)) (wl_1 (List.mem_of_getElem? (i := 5) rfl))
theorem gX11_numberOf_X11_monthStart : GoodIn woX11_numberOf (va_wsS RX11 86 yX11_monthStart woX11_monthStart) := go_S (wl_15 (List.mem_of_getElem? (i := 0) rfl)) (wl_14 (List.mem_of_getElem? (i := 22) rfl)) (wl_14 (List.mem_of_getElem? (i := 23) rfl)) (wl_1 (List.mem_of_getElem? (i := 5) rfl))
theorem gX11_partOf_X11_monthOf : GoodIn woX11_partOf (va_wsS RX11 89 yX11_monthOf woX11_monthOf) := go_S (wl_14 (List.mem_of_getElem? (i := 21) rfl)) (wl_14 (List.mem_of_getElem? (i := 19) rfl)) (wl_14 (List.mem_of_getElem? (i := 20) rfl)) (wl_1 (List.mem_of_getElem? (i := 5) rfl))
theorem gX11_partOf_X11_numberOf : GoodIn woX11_partOf (va_wsS RX11 92 yX11_numberOf woX11_numberOf) := go_S (wl_15 (List.mem_of_getElem? (i := 6) rfl)) (wl_15 (List.mem_of_getElem? (i := 4) rfl)) (wl_15 (List.mem_of_getElem? (i := 5) rfl)) (wl_1 (List.mem_of_getElem? (i := 5) rfl))
theorem gX2_counted_X2_in360 : GoodIn woX2_counted (va_wsS RX2 26 yX2_in360 woX2_in360) := go_S (wl_11 (List.mem_of_getElem? (i := 9) rfl)) (wl_11 (List.mem_of_getElem? (i := 7) rfl)) (wl_11 (List.mem_of_getElem? (i := 8) rfl)) (wl_9 (List.mem_of_getElem? (i := 13) rfl))
theorem gX2_in360_X2_monthOf : GoodIn woX2_in360 (va_wsS RX2 13 yX2_monthOf woX2_monthOf) := go_S (wl_9 (List.mem_of_getElem? (i := 18) rfl)) (wl_9 (List.mem_of_getElem? (i := 16) rfl)) (wl_9 (List.mem_of_getElem? (i := 17) rfl)) (wl_9 (List.mem_of_getElem? (i := 13) rfl))
theorem gX2_in360_X2_monthStart : GoodIn woX2_in360 (va_wsS RX2 17 yX2_monthStart woX2_monthStart) := go_S (wl_9 (List.mem_of_getElem? (i := 22) rfl)) (wl_9 (List.mem_of_getElem? (i := 20) rfl)) (wl_9 (List.mem_of_getElem? (i := 21) rfl)) (wl_9 (List.mem_of_getElem? (i := 13) rfl))
theorem gX2_monthsAfter_X2_monthOf : GoodIn woX2_monthsAfter (va_wsS RX2 13 yX2_monthOf woX2_monthOf) := go_S (wl_9 (List.mem_of_getElem? (i := 18) rfl)) (wl_9 (List.mem_of_getElem? (i := 16) rfl)) (wl_9 (List.mem_of_getElem? (i := 17) rfl)) (wl_9 (List.mem_of_getElem? (i := 13) rfl))
theorem gX2_monthsAfter_X2_monthStart : GoodIn woX2_monthsAfter (va_wsS RX2 17 yX2_monthStart woX2_monthStart) := go_S (wl_9 (List.mem_of_getElem? (i := 22) rfl)) (wl_9 (List.mem_of_getElem? (i := 20) rfl)) (wl_9 (List.mem_of_getElem? (i := 21) rfl)) (wl_9 (List.mem_of_getElem? (i := 13) rfl))
theorem gX2_numberOf_X2_monthOf : GoodIn woX2_numberOf (va_wsS RX2 13 yX2_monthOf woX2_monthOf) := go_S (wl_9 (List.mem_of_getElem? (i := 18) rfl)) (wl_9 (List.mem_of_getElem? (i := 16) rfl)) (wl_9 (List.mem_of_getElem? (i := 17) rfl)) (wl_9 (List.mem_of_getElem? (i := 13) rfl))
theorem gX2_numberOf_X2_monthStart : GoodIn woX2_numberOf (va_wsS RX2 17 yX2_monthStart woX2_monthStart) := go_S (wl_9 (List.mem_of_getElem? (i := 22) rfl)) (wl_9 (List.mem_of_getElem? (i := 20) rfl)) (wl_9 (List.mem_of_getElem? (i := 21) rfl)) (wl_9 (List.mem_of_getElem? (i := 13) rfl))
theorem gX9_toCents_J9_floorDiv_f86c9 : GoodIn woX9_toCents (va_wsS RX9 13 yJ9_floorDiv_f86c9 woJ9_floorDiv_f86c9) := go_S (wl_12 (List.mem_of_getElem? (i := 12) rfl)) (wl_12 (List.mem_of_getElem? (i := 10) rfl)) (wl_12 (List.mem_of_getElem? (i := 11) rfl)) (wl_7 (List.mem_of_getElem? (i := 2) rfl))

/-! the calendar, as the program has it -/
def msE (m : Int) : Int := if m < 12 then msF m.toNat else 365
def moE (y : Int) : Int := if y / 32 + 1 < 12 then (if msF (y / 32 + 1).toNat ≤ y then y / 32 + 1 else y / 32) else y / 32
def in3 (d : Int) : Int := d / 365 * 360 + moE (d % 365) * 30 + min (d % 365 - msE (moE (d % 365))) 29
def cntE (c f t : Int) : Int := if c = 2 then in3 t - in3 f else t - f
def ddE (n : Int) : Int := n / 12 * 365 + msE (n % 12)
def cnE (c x : Int) : Int := if c = 0 then (x + 1825000) / 3650000 else (x + 1800000) / 3600000
def ceE (c : Int) : Int := if c = 0 then 3650000 else 3600000
def wiE (v a b : Int) : Int := if a ≤ v ∧ v ≤ b then 1 else 0
theorem wi1 {v a b : Int} (h : a ≤ v ∧ v ≤ b) : wiE v a b = 1 := if_pos h
theorem wi0 {v a b : Int} (h : ¬ (a ≤ v ∧ v ≤ b)) : wiE v a b = 0 := if_neg h
theorem wi_or (v a b : Int) : (wiE v a b = 1 ∧ a ≤ v ∧ v ≤ b) ∨ (wiE v a b = 0 ∧ ¬ (a ≤ v ∧ v ≤ b)) := by
  by_cases h : a ≤ v ∧ v ≤ b
  · exact Or.inl ⟨wi1 h, h⟩
  · exact Or.inr ⟨wi0 h, h⟩
theorem msF_12 : ∀ n : Nat, n < 12 → (0 ≤ msF n ∧ msF n ≤ 334) := by decide +kernel
theorem msF_all (n : Nat) : 0 ≤ msF n ∧ msF n ≤ 334 := by
  rcases Nat.lt_or_ge n 12 with h | h
  · exact msF_12 n h
  · have e : msF n = 0 := by
      unfold msF
      rw [List.getD_eq_getElem?_getD, List.getElem?_eq_none (show MSt.length ≤ n from h)]
      rfl
    omega
theorem cal_all : ∀ n : Nat, n < 365 → (0 ≤ moE (n : Int) ∧ moE (n : Int) ≤ 11 ∧ 0 ≤ msE (moE (n : Int)) ∧ msE (moE (n : Int)) ≤ (n : Int) ∧ (n : Int) < msE (moE (n : Int) + 1) ∧ (n : Int) - msE (moE (n : Int)) ≤ 30) := by decide +kernel
theorem cal {y : Int} (h : 0 ≤ y ∧ y < 365) : 0 ≤ moE y ∧ moE y ≤ 11 ∧ 0 ≤ msE (moE y) ∧ msE (moE y) ≤ y ∧ y < msE (moE y + 1) ∧ y - msE (moE y) ≤ 30 := by
  have h1 := cal_all y.toNat (by omega)
  rw [show ((y.toNat : Nat) : Int) = y by omega] at h1
  exact h1
theorem ms_all : ∀ n : Nat, n < 12 → (0 ≤ msE (n : Int) ∧ msE (n : Int) + 28 ≤ msE ((n : Int) + 1) ∧ msE ((n : Int) + 1) ≤ msE (n : Int) + 31 ∧ msE ((n : Int) + 1) ≤ 365) := by decide +kernel
theorem ms {m : Int} (h : 0 ≤ m ∧ m < 12) : 0 ≤ msE m ∧ msE m + 28 ≤ msE (m + 1) ∧ msE (m + 1) ≤ msE m + 31 ∧ msE (m + 1) ≤ 365 := by
  have h1 := ms_all m.toNat (by omega)
  rw [show ((m.toNat : Nat) : Int) = m by omega] at h1
  exact h1
theorem dd_all : ∀ n : Nat, n < 62 → (0 ≤ ddE (n : Int) ∧ ddE (n : Int) ≤ 1890 ∧ ddE (n : Int) + 28 ≤ ddE ((n : Int) + 1) ∧ ddE ((n : Int) + 1) ≤ ddE (n : Int) + 31 ∧ 0 ≤ in3 (ddE (n : Int)) ∧ in3 (ddE (n : Int)) = (n : Int) * 30) := by decide +kernel
theorem dd {n : Int} (h : 0 ≤ n ∧ n < 62) : 0 ≤ ddE n ∧ ddE n ≤ 1890 ∧ ddE n + 28 ≤ ddE (n + 1) ∧ ddE (n + 1) ≤ ddE n + 31 ∧ 0 ≤ in3 (ddE n) ∧ in3 (ddE n) = n * 30 := by
  have h1 := dd_all n.toNat (by omega)
  rw [show ((n.toNat : Nat) : Int) = n by omega] at h1
  exact h1
theorem lI_nat {n : Nat} (h : n < 2 ^ 63) : lI (n : Int) = lN n := by
  rw [← Int64.toInt_inj, pk_lT h, lI_toInt ⟨by omega, by omega⟩]
theorem lN_xor_q (a b : Nat) : lN a ^^^ lN b = lN (a ^^^ b) := by
  apply Int64.toBitVec_inj.mp
  show (Int64.ofNat a ^^^ Int64.ofNat b).toBitVec = (Int64.ofNat (a ^^^ b)).toBitVec
  simp only [Int64.toBitVec_xor, Int64.toBitVec_ofNat']
  apply BitVec.eq_of_toNat_eq
  simp [Nat.xor_mod_two_pow]
theorem lI_xor {x y : Int} (h : 0 ≤ x ∧ x ≤ 9223372036854775807 ∧ 0 ≤ y ∧ y ≤ 9223372036854775807) : ∃ z : Int, (0 ≤ z ∧ z ≤ 9223372036854775807) ∧ lI x ^^^ lI y = lI z := by
  obtain ⟨a, rfl⟩ : ∃ a : Nat, x = (a : Int) := ⟨x.toNat, by omega⟩
  obtain ⟨b, rfl⟩ : ∃ b : Nat, y = (b : Int) := ⟨y.toNat, by omega⟩
  have hz : a ^^^ b < 2 ^ 63 := Nat.xor_lt_two_pow (by omega) (by omega)
  exact ⟨((a ^^^ b : Nat) : Int), by omega, by rw [lI_nat (by omega), lI_nat (by omega), lI_nat hz, lN_xor_q]⟩

set_option maxHeartbeats 4000000 in
set_option maxRecDepth 100000 in
/-- Days.monthStart -/
theorem c_X2_monthStart (l : Launch) (dC : Nat → ClassId) (dI : Nat → Nat → Nat) (k : Nat → ClassId) (m : Int) (hm : 0 ≤ m ∧ m ≤ 12) (sz : Nat) : Met l yX2_monthStart woX2_monthStart ({ frames := 0, cells := 0, slots := 0, locals := 0 } : Room) (PcW (dC, dI) k [.int (iI m)] [] sz) (va_Qi (fun (r : Int32) (_ : Unit) => r = iI (msE m)) (QB (dC, dI) [] (fun _ => []) sz) (va_A [] sz)) 0 0 (va_A [] sz) := by
  refine Met.ofW (cc := cX2_monthStart) (maxL := 1) (ret := (some .int)) (by decide) rfl ?_
  intro p e s mI args below meth cO s₁ B hml hv
  obtain ⟨rfl, rfl, hP, hD0, hE⟩ := hv
  have hx := B.exec
  have hb := B.bytes
  have hr := B.returns
  have hts := atoms_spec (ws := woX2_monthStart) B.pre
  have hown : s.vm.findClass RX2 = some mI.cls := findClass_of_methodNamed B.named
  have hlocks := B.notSynchronized
  have hD := hD0.self (sz := s.heap.size)
  generalize hAe : va_A [] s.heap.size = A at hD hE ⊢
  have hA : ∀ q : Nat, s.heap.size ≤ q → A q := fun q h => by rw [← hAe]; exact Or.inr h
  have hS : va_S A s.heap s.heap [] := va_S.rf
  obtain ⟨hK, hNw, hNc, hZs, hAO1, hAO2⟩ := id hE
  have hSF : CallFix p mI cO cX2_monthStart 1 s ([.int (iI m)] : List Value).toArray woX2_monthStart RX2 := ⟨hx, hb, hml, hown, hts⟩
  have hl := lv_entry ([.int (iI m)] : List Value) (n := 1) (Nat.le_of_ble_eq_true rfl)
  rw [lg_entry_eq]
  generalize (lg_sl ([.int (iI m)] : List Value) ++ List.replicate (1 - (lg_sl ([.int (iI m)] : List Value)).length) Slot.unset).toArray = ls at hl ⊢
  have hl : lv_has ls 1 [(0, .int (iI m))] := hl
  refine W_gen (fun Q hQ => ?_)
  change W p l e ({ frames := 0, cells := 0, slots := 0, locals := 0 } : Room) s mI _ below meth cO s.heap [] 0 0 Q _
  have hP : va_P (dC, dI) vwCl [] s.heap := hP
  have hmf := msF_all m.toNat
  refine lv_iload_n hx hb dX2_monthStart_0 rfl (lv_at hl 0 rfl) ?_
  refine q_if_lt (tgt := 20) hx hb dX2_monthStart_1 (by decide) (by omega) (fun q => absurd q (by omega)) (fun _ => ?_)
  refine lv_iload_n hx hb dX2_monthStart_4 rfl (lv_at hl 0 rfl) ?_
  obtain ⟨hmst, hmsZ, hmsT⟩ := hZs.1
  refine va_gets hx hb hmsZ hS hown (hts (.fieldLink RX2 9 "LoanServicing$Days" "MONTH_STARTS" "[I") (List.mem_cons_of_mem _ (wl_9 (List.mem_of_getElem? (i := 19) rfl)))) (fun _ h9 => h9) dX2_monthStart_5 ?_
  refine va_tlen (v := iI 12) hx hb hmsT hS (by decide) dX2_monthStart_8 ?_
  refine q_icmp_ge (tgt := 20) hx hb dX2_monthStart_9 (by decide) (by omega) (fun c9 => ?_) (fun c9 => ?_)
  · refine q_sipush (z := 365) hx hb dX2_monthStart_20 (by decide) ?_
    rw [hQ]
    refine W.widen (k := 0) (n := 0) (Nat.le_of_ble_eq_true rfl) (Nat.le_of_ble_eq_true rfl) ?_
    exact W.iret (v := (iI 365)) hx hb hr (fun t ht hW => ⟨⟨(iI 365), (), rfl, (by unfold msE; first | rw [if_pos (by omega)] | rw [if_neg (by omega)]), by rw [ht]; exact hP.sub [] rfl, by rw [hAe]; exact hD.sub [] (by decide) rfl⟩, hS.F ht⟩) hS.2.2 dX2_monthStart_23
  · refine va_gets hx hb hmsZ hS hown (hts (.fieldLink RX2 9 "LoanServicing$Days" "MONTH_STARTS" "[I") (List.mem_cons_of_mem _ (wl_9 (List.mem_of_getElem? (i := 19) rfl)))) (fun _ h9 => h9) dX2_monthStart_12 ?_
    refine lv_iload_n hx hb dX2_monthStart_15 rfl (lv_at hl 0 rfl) ?_
    refine q_sti (z := (msF m.toNat)) hx hb hmsT hS (by omega) rfl dX2_monthStart_16 ?_
    refine lv_goto (tgt := 23) hx hb dX2_monthStart_17 (by decide) ?_
    rw [hQ]
    refine W.widen (k := 0) (n := 0) (Nat.le_of_ble_eq_true rfl) (Nat.le_of_ble_eq_true rfl) ?_
    exact W.iret (v := (iI (msF m.toNat))) hx hb hr (fun t ht hW => ⟨⟨(iI (msF m.toNat)), (), rfl, (by unfold msE; first | rw [if_pos (by omega)] | rw [if_neg (by omega)]), by rw [ht]; exact hP.sub [] rfl, by rw [hAe]; exact hD.sub [] (by decide) rfl⟩, hS.F ht⟩) hS.2.2 dX2_monthStart_23
set_option maxHeartbeats 4000000 in
set_option maxRecDepth 100000 in
/-- Days.monthOf -/
theorem c_X2_monthOf (l : Launch) (dC : Nat → ClassId) (dI : Nat → Nat → Nat) (k : Nat → ClassId) (d : Int) (hd : 0 ≤ d ∧ d ≤ 100000) (sz : Nat) : Met l yX2_monthOf woX2_monthOf ({ frames := 0, cells := 0, slots := 0, locals := 0 } : Room) (PcW (dC, dI) k [.int (iI d)] [] sz) (va_Qi (fun (r : Int32) (_ : Unit) => r = iI (moE (d % 365))) (QB (dC, dI) [] (fun _ => []) sz) (va_A [] sz)) 0 0 (va_A [] sz) := by
  refine Met.ofW (cc := cX2_monthOf) (maxL := 3) (ret := (some .int)) (by decide) rfl ?_
  intro p e s mI args below meth cO s₁ B hml hv
  obtain ⟨rfl, rfl, hP, hD0, hE⟩ := hv
  have hx := B.exec
  have hb := B.bytes
  have hr := B.returns
  have hts := atoms_spec (ws := woX2_monthOf) B.pre
  have hown : s.vm.findClass RX2 = some mI.cls := findClass_of_methodNamed B.named
  have hlocks := B.notSynchronized
  have hD := hD0.self (sz := s.heap.size)
  generalize hAe : va_A [] s.heap.size = A at hD hE ⊢
  have hA : ∀ q : Nat, s.heap.size ≤ q → A q := fun q h => by rw [← hAe]; exact Or.inr h
  have hS : va_S A s.heap s.heap [] := va_S.rf
  obtain ⟨hK, hNw, hNc, hZs, hAO1, hAO2⟩ := id hE
  have hSF : CallFix p mI cO cX2_monthOf 3 s ([.int (iI d)] : List Value).toArray woX2_monthOf RX2 := ⟨hx, hb, hml, hown, hts⟩
  have hl := lv_entry ([.int (iI d)] : List Value) (n := 3) (Nat.le_of_ble_eq_true rfl)
  rw [lg_entry_eq]
  generalize (lg_sl ([.int (iI d)] : List Value) ++ List.replicate (3 - (lg_sl ([.int (iI d)] : List Value)).length) Slot.unset).toArray = ls at hl ⊢
  have hl : lv_has ls 3 [(0, .int (iI d))] := hl
  refine W_gen (fun Q hQ => ?_)
  change W p l e ({ frames := 0, cells := 0, slots := 0, locals := 0 } : Room) s mI _ below meth cO s.heap [] 0 0 Q _
  have hP : va_P (dC, dI) vwCl [] s.heap := hP
  have hmf := msF_all ((d % 365) / 32 + 1).toNat
  refine lv_iload_n hx hb dX2_monthOf_0 rfl (lv_at hl 0 rfl) ?_
  refine q_sipush (z := 365) hx hb dX2_monthOf_1 (by decide) ?_
  refine q_irem (z := (d % 365)) hx hb dX2_monthOf_4 (by omega) rfl ?_
  refine lv_istore_n (lv' := [(1, .int (iI (d % 365))), (0, .int (iI d))]) hx hb dX2_monthOf_5 rfl hl (by decide) rfl (fun ls hl => ?_)
  refine lv_iload_n hx hb dX2_monthOf_6 rfl (lv_at hl 0 rfl) ?_
  refine q_bipush (z := 32) hx hb dX2_monthOf_7 (by decide) ?_
  refine q_idiv (z := ((d % 365) / 32)) hx hb dX2_monthOf_9 (by omega) rfl ?_
  refine q_iconst hx hb dX2_monthOf_10 ?_
  refine q_iadd (z := ((d % 365) / 32) + 1) hx hb dX2_monthOf_11 (by omega) ?_
  refine lv_istore_n (lv' := [(2, .int (iI (((d % 365) / 32) + 1))), (1, .int (iI (d % 365))), (0, .int (iI d))]) hx hb dX2_monthOf_12 rfl hl (by decide) rfl (fun ls hl => ?_)
  refine lv_iload_n hx hb dX2_monthOf_13 rfl (lv_at hl 0 rfl) ?_
  refine q_if_lt (tgt := 38) hx hb dX2_monthOf_14 (by decide) (by omega) (fun q => absurd q (by omega)) (fun _ => ?_)
  refine lv_iload_n hx hb dX2_monthOf_17 rfl (lv_at hl 0 rfl) ?_
  obtain ⟨hmst, hmsZ, hmsT⟩ := hZs.1
  refine va_gets hx hb hmsZ hS hown (hts (.fieldLink RX2 9 "LoanServicing$Days" "MONTH_STARTS" "[I") (List.mem_cons_of_mem _ (wl_9 (List.mem_of_getElem? (i := 19) rfl)))) (fun _ h9 => h9) dX2_monthOf_18 ?_
  refine va_tlen (v := iI 12) hx hb hmsT hS (by decide) dX2_monthOf_21 ?_
  refine q_icmp_ge (tgt := 38) hx hb dX2_monthOf_22 (by decide) (by omega) (fun c22 => ?_) (fun c22 => ?_)
  · refine lv_iload_n hx hb dX2_monthOf_38 rfl (lv_at hl 0 rfl) ?_
    refine q_iconst hx hb dX2_monthOf_39 ?_
    refine q_isub (z := ((d % 365) / 32)) hx hb dX2_monthOf_40 (by omega) ?_
    rw [hQ]
    refine W.widen (k := 0) (n := 0) (Nat.le_of_ble_eq_true rfl) (Nat.le_of_ble_eq_true rfl) ?_
    exact W.iret (v := (iI ((d % 365) / 32))) hx hb hr (fun t ht hW => ⟨⟨(iI ((d % 365) / 32)), (), rfl, (by unfold moE; first | rw [if_pos (by omega), if_pos (by omega)] | (rw [if_pos (by omega), if_neg (by omega)]; try (congr 1; omega)) | (rw [if_neg (by omega)]; try (congr 1; omega))), by rw [ht]; exact hP.sub [] rfl, by rw [hAe]; exact hD.sub [] (by decide) rfl⟩, hS.F ht⟩) hS.2.2 dX2_monthOf_41
  · refine va_gets hx hb hmsZ hS hown (hts (.fieldLink RX2 9 "LoanServicing$Days" "MONTH_STARTS" "[I") (List.mem_cons_of_mem _ (wl_9 (List.mem_of_getElem? (i := 19) rfl)))) (fun _ h9 => h9) dX2_monthOf_25 ?_
    refine lv_iload_n hx hb dX2_monthOf_28 rfl (lv_at hl 0 rfl) ?_
    refine q_sti (z := (msF (((d % 365) / 32) + 1).toNat)) hx hb hmsT hS (by omega) rfl dX2_monthOf_29 ?_
    refine lv_iload_n hx hb dX2_monthOf_30 rfl (lv_at hl 1 rfl) ?_
    refine q_icmp_gt (tgt := 38) hx hb dX2_monthOf_31 (by decide) (by omega) (fun c31 => ?_) (fun c31 => ?_)
    · refine lv_iload_n hx hb dX2_monthOf_38 rfl (lv_at hl 0 rfl) ?_
      refine q_iconst hx hb dX2_monthOf_39 ?_
      refine q_isub (z := ((d % 365) / 32)) hx hb dX2_monthOf_40 (by omega) ?_
      rw [hQ]
      refine W.widen (k := 0) (n := 0) (Nat.le_of_ble_eq_true rfl) (Nat.le_of_ble_eq_true rfl) ?_
      exact W.iret (v := (iI ((d % 365) / 32))) hx hb hr (fun t ht hW => ⟨⟨(iI ((d % 365) / 32)), (), rfl, (by unfold moE; first | rw [if_pos (by omega), if_pos (by omega)] | (rw [if_pos (by omega), if_neg (by omega)]; try (congr 1; omega)) | (rw [if_neg (by omega)]; try (congr 1; omega))), by rw [ht]; exact hP.sub [] rfl, by rw [hAe]; exact hD.sub [] (by decide) rfl⟩, hS.F ht⟩) hS.2.2 dX2_monthOf_41
    · refine lv_iload_n hx hb dX2_monthOf_34 rfl (lv_at hl 0 rfl) ?_
      refine lv_goto (tgt := 41) hx hb dX2_monthOf_35 (by decide) ?_
      rw [hQ]
      refine W.widen (k := 0) (n := 0) (Nat.le_of_ble_eq_true rfl) (Nat.le_of_ble_eq_true rfl) ?_
      exact W.iret (v := (iI (((d % 365) / 32) + 1))) hx hb hr (fun t ht hW => ⟨⟨(iI (((d % 365) / 32) + 1)), (), rfl, (by unfold moE; first | rw [if_pos (by omega), if_pos (by omega)] | (rw [if_pos (by omega), if_neg (by omega)]; try (congr 1; omega)) | (rw [if_neg (by omega)]; try (congr 1; omega))), by rw [ht]; exact hP.sub [] rfl, by rw [hAe]; exact hD.sub [] (by decide) rfl⟩, hS.F ht⟩) hS.2.2 dX2_monthOf_41
set_option maxHeartbeats 4000000 in
set_option maxRecDepth 100000 in
/-- Days.yearOf -/
theorem c_X2_yearOf (l : Launch) (dC : Nat → ClassId) (dI : Nat → Nat → Nat) (k : Nat → ClassId) (d : Int) (hd : 0 ≤ d ∧ d ≤ 100000) (sz : Nat) : Met l yX2_yearOf woX2_yearOf ({ frames := 0, cells := 0, slots := 0, locals := 0 } : Room) (PcW (dC, dI) k [.int (iI d)] [] sz) (va_Qi (fun (r : Int32) (_ : Unit) => r = iI (d / 365)) (QB (dC, dI) [] (fun _ => []) sz) (va_A [] sz)) 0 0 (va_A [] sz) := by
  refine Met.ofW (cc := cX2_yearOf) (maxL := 1) (ret := (some .int)) (by decide) rfl ?_
  intro p e s mI args below meth cO s₁ B hml hv
  obtain ⟨rfl, rfl, hP, hD0, hE⟩ := hv
  have hx := B.exec
  have hb := B.bytes
  have hr := B.returns
  have hts := atoms_spec (ws := woX2_yearOf) B.pre
  have hown : s.vm.findClass RX2 = some mI.cls := findClass_of_methodNamed B.named
  have hlocks := B.notSynchronized
  have hD := hD0.self (sz := s.heap.size)
  generalize hAe : va_A [] s.heap.size = A at hD hE ⊢
  have hA : ∀ q : Nat, s.heap.size ≤ q → A q := fun q h => by rw [← hAe]; exact Or.inr h
  have hS : va_S A s.heap s.heap [] := va_S.rf
  obtain ⟨hK, hNw, hNc, hZs, hAO1, hAO2⟩ := id hE
  have hSF : CallFix p mI cO cX2_yearOf 1 s ([.int (iI d)] : List Value).toArray woX2_yearOf RX2 := ⟨hx, hb, hml, hown, hts⟩
  have hl := lv_entry ([.int (iI d)] : List Value) (n := 1) (Nat.le_of_ble_eq_true rfl)
  rw [lg_entry_eq]
  generalize (lg_sl ([.int (iI d)] : List Value) ++ List.replicate (1 - (lg_sl ([.int (iI d)] : List Value)).length) Slot.unset).toArray = ls at hl ⊢
  have hl : lv_has ls 1 [(0, .int (iI d))] := hl
  refine W_gen (fun Q hQ => ?_)
  change W p l e ({ frames := 0, cells := 0, slots := 0, locals := 0 } : Room) s mI _ below meth cO s.heap [] 0 0 Q _
  have hP : va_P (dC, dI) vwCl [] s.heap := hP
  refine lv_iload_n hx hb dX2_yearOf_0 rfl (lv_at hl 0 rfl) ?_
  refine q_sipush (z := 365) hx hb dX2_yearOf_1 (by decide) ?_
  refine q_idiv (z := (d / 365)) hx hb dX2_yearOf_4 (by omega) rfl ?_
  rw [hQ]
  refine W.widen (k := 0) (n := 0) (Nat.le_of_ble_eq_true rfl) (Nat.le_of_ble_eq_true rfl) ?_
  exact W.iret (v := (iI (d / 365))) hx hb hr (fun t ht hW => ⟨⟨(iI (d / 365)), (), rfl, rfl, by rw [ht]; exact hP.sub [] rfl, by rw [hAe]; exact hD.sub [] (by decide) rfl⟩, hS.F ht⟩) hS.2.2 dX2_yearOf_5
set_option maxHeartbeats 4000000 in
set_option maxRecDepth 100000 in
/-- Days.numberOf -/
theorem c_X2_numberOf (l : Launch) (dC : Nat → ClassId) (dI : Nat → Nat → Nat) (k : Nat → ClassId) (d : Int) (hd : 0 ≤ d ∧ d ≤ 100000) (sz : Nat) : Met l yX2_numberOf woX2_numberOf ({ frames := 1, cells := 0, slots := 0, locals := 22 } : Room) (PcW (dC, dI) k [.int (iI d)] [] sz) (va_Qi (fun (r : Int32) (_ : Unit) => r = iI (d % 365 - msE (moE (d % 365)) + 1)) (QB (dC, dI) [] (fun _ => []) sz) (va_A [] sz)) 0 0 (va_A [] sz) := by
  refine Met.ofW (cc := cX2_numberOf) (maxL := 1) (ret := (some .int)) (by decide) rfl ?_
  intro p e s mI args below meth cO s₁ B hml hv
  obtain ⟨rfl, rfl, hP, hD0, hE⟩ := hv
  have hx := B.exec
  have hb := B.bytes
  have hr := B.returns
  have hts := atoms_spec (ws := woX2_numberOf) B.pre
  have hown : s.vm.findClass RX2 = some mI.cls := findClass_of_methodNamed B.named
  have hlocks := B.notSynchronized
  have hD := hD0.self (sz := s.heap.size)
  generalize hAe : va_A [] s.heap.size = A at hD hE ⊢
  have hA : ∀ q : Nat, s.heap.size ≤ q → A q := fun q h => by rw [← hAe]; exact Or.inr h
  have hS : va_S A s.heap s.heap [] := va_S.rf
  obtain ⟨hK, hNw, hNc, hZs, hAO1, hAO2⟩ := id hE
  have hSF : CallFix p mI cO cX2_numberOf 1 s ([.int (iI d)] : List Value).toArray woX2_numberOf RX2 := ⟨hx, hb, hml, hown, hts⟩
  have hl := lv_entry ([.int (iI d)] : List Value) (n := 1) (Nat.le_of_ble_eq_true rfl)
  rw [lg_entry_eq]
  generalize (lg_sl ([.int (iI d)] : List Value) ++ List.replicate (1 - (lg_sl ([.int (iI d)] : List Value)).length) Slot.unset).toArray = ls at hl ⊢
  have hl : lv_has ls 1 [(0, .int (iI d))] := hl
  refine W_gen (fun Q hQ => ?_)
  change W p l e ({ frames := 1, cells := 0, slots := 0, locals := 22 } : Room) s mI _ below meth cO s.heap [] 0 0 Q _
  have hP : va_P (dC, dI) vwCl [] s.heap := hP
  have hc := cal (y := d % 365) (by omega)
  refine lv_iload_n hx hb dX2_numberOf_0 rfl (lv_at hl 0 rfl) ?_
  refine q_sipush (z := 365) hx hb dX2_numberOf_1 (by decide) ?_
  refine q_irem (z := (d % 365)) hx hb dX2_numberOf_4 (by omega) rfl ?_
  refine lv_iload_n hx hb dX2_numberOf_5 rfl (lv_at hl 0 rfl) ?_
  refine ki (va_runS (As := [.int (iI d)]) (rest := [.int (iI (d % 365))]) hSF ((c_X2_monthOf l dC dI k d (by omega)) s.heap.size) (va_cwS 1 hts gX2_numberOf_X2_monthOf rfl rfl rfl (by decide +kernel) ⟨Nat.le_of_ble_eq_true rfl, Nat.le_of_ble_eq_true rfl⟩) (preS hP hD hE hS hA [] rfl (by decide)) rfl rfl hl.1 rfl (lv_room (Nat.le_of_ble_eq_true rfl)) dX2_numberOf_6 ⟨Nat.le_of_ble_eq_true rfl, Nat.le_of_ble_eq_true rfl⟩) hP hD hS hA [] [] rfl (wr := []) rfl (by decide) (by decide) (fun r6 _ H locs hw hP hD hS => ?_)
  obtain rfl : r6 = (iI (moE (d % 365))) := hw
  have hP : va_P (dC, dI) vwCl [] H := hP
  have hD : va_D A [] := hD
  refine ki (va_runS (As := [.int (iI (moE (d % 365)))]) (rest := [.int (iI (d % 365))]) hSF ((c_X2_monthStart l dC dI k (moE (d % 365)) (by omega)) H.size) (va_cwS 1 hts gX2_numberOf_X2_monthStart rfl rfl rfl (by decide +kernel) ⟨Nat.le_of_ble_eq_true rfl, Nat.le_of_ble_eq_true rfl⟩) (preS hP hD hE hS hA [] rfl (by decide)) rfl rfl hl.1 rfl (lv_room (Nat.le_of_ble_eq_true rfl)) dX2_numberOf_9 ⟨Nat.le_of_ble_eq_true rfl, Nat.le_of_ble_eq_true rfl⟩) hP hD hS hA [] [] rfl (wr := []) rfl (by decide) (by decide) (fun r9 _ H locs hw hP hD hS => ?_)
  obtain rfl : r9 = (iI (msE (moE (d % 365)))) := hw
  have hP : va_P (dC, dI) vwCl [] H := hP
  have hD : va_D A [] := hD
  refine q_isub (z := (d % 365) - (msE (moE (d % 365)))) hx hb dX2_numberOf_12 (by omega) ?_
  refine q_iconst hx hb dX2_numberOf_13 ?_
  refine q_iadd (z := (d % 365) - (msE (moE (d % 365))) + 1) hx hb dX2_numberOf_14 (by omega) ?_
  rw [hQ]
  refine W.widen (k := 0) (n := 0) (Nat.le_of_ble_eq_true rfl) (Nat.le_of_ble_eq_true rfl) ?_
  exact W.iret (v := (iI ((d % 365) - (msE (moE (d % 365))) + 1))) hx hb hr (fun t ht hW => ⟨⟨(iI ((d % 365) - (msE (moE (d % 365))) + 1)), (), rfl, rfl, by rw [ht]; exact hP.sub [] rfl, by rw [hAe]; exact hD.sub [] (by decide) rfl⟩, hS.F ht⟩) hS.2.2 dX2_numberOf_15
set_option maxHeartbeats 4000000 in
set_option maxRecDepth 100000 in
/-- Days.in360 -/
theorem c_X2_in360 (l : Launch) (dC : Nat → ClassId) (dI : Nat → Nat → Nat) (k : Nat → ClassId) (d : Int) (hd : 0 ≤ d ∧ d ≤ 100000) (sz : Nat) : Met l yX2_in360 woX2_in360 ({ frames := 1, cells := 0, slots := 0, locals := 22 } : Room) (PcW (dC, dI) k [.int (iI d)] [] sz) (va_Qi (fun (r : Int32) (_ : Unit) => r = iI (in3 d)) (QB (dC, dI) [] (fun _ => []) sz) (va_A [] sz)) 0 0 (va_A [] sz) := by
  refine Met.ofW (cc := cX2_in360) (maxL := 3) (ret := (some .int)) (by decide) rfl ?_
  intro p e s mI args below meth cO s₁ B hml hv
  obtain ⟨rfl, rfl, hP, hD0, hE⟩ := hv
  have hx := B.exec
  have hb := B.bytes
  have hr := B.returns
  have hts := atoms_spec (ws := woX2_in360) B.pre
  have hown : s.vm.findClass RX2 = some mI.cls := findClass_of_methodNamed B.named
  have hlocks := B.notSynchronized
  have hD := hD0.self (sz := s.heap.size)
  generalize hAe : va_A [] s.heap.size = A at hD hE ⊢
  have hA : ∀ q : Nat, s.heap.size ≤ q → A q := fun q h => by rw [← hAe]; exact Or.inr h
  have hS : va_S A s.heap s.heap [] := va_S.rf
  obtain ⟨hK, hNw, hNc, hZs, hAO1, hAO2⟩ := id hE
  have hSF : CallFix p mI cO cX2_in360 3 s ([.int (iI d)] : List Value).toArray woX2_in360 RX2 := ⟨hx, hb, hml, hown, hts⟩
  have hl := lv_entry ([.int (iI d)] : List Value) (n := 3) (Nat.le_of_ble_eq_true rfl)
  rw [lg_entry_eq]
  generalize (lg_sl ([.int (iI d)] : List Value) ++ List.replicate (3 - (lg_sl ([.int (iI d)] : List Value)).length) Slot.unset).toArray = ls at hl ⊢
  have hl : lv_has ls 3 [(0, .int (iI d))] := hl
  refine W_gen (fun Q hQ => ?_)
  change W p l e ({ frames := 1, cells := 0, slots := 0, locals := 22 } : Room) s mI _ below meth cO s.heap [] 0 0 Q _
  have hP : va_P (dC, dI) vwCl [] s.heap := hP
  have hc := cal (y := d % 365) (by omega)
  refine lv_iload_n hx hb dX2_in360_0 rfl (lv_at hl 0 rfl) ?_
  refine ki (va_runS (As := [.int (iI d)]) (rest := []) hSF ((c_X2_monthOf l dC dI k d (by omega)) s.heap.size) (va_cwS 1 hts gX2_in360_X2_monthOf rfl rfl rfl (by decide +kernel) ⟨Nat.le_of_ble_eq_true rfl, Nat.le_of_ble_eq_true rfl⟩) (preS hP hD hE hS hA [] rfl (by decide)) rfl rfl hl.1 rfl (lv_room (Nat.le_of_ble_eq_true rfl)) dX2_in360_1 ⟨Nat.le_of_ble_eq_true rfl, Nat.le_of_ble_eq_true rfl⟩) hP hD hS hA [] [] rfl (wr := []) rfl (by decide) (by decide) (fun r1 _ H locs hw hP hD hS => ?_)
  obtain rfl : r1 = (iI (moE (d % 365))) := hw
  have hP : va_P (dC, dI) vwCl [] H := hP
  have hD : va_D A [] := hD
  refine lv_istore_n (lv' := [(1, .int (iI (moE (d % 365)))), (0, .int (iI d))]) hx hb dX2_in360_4 rfl hl (by decide) rfl (fun ls hl => ?_)
  refine lv_iload_n hx hb dX2_in360_5 rfl (lv_at hl 1 rfl) ?_
  refine q_sipush (z := 365) hx hb dX2_in360_6 (by decide) ?_
  refine q_irem (z := (d % 365)) hx hb dX2_in360_9 (by omega) rfl ?_
  refine lv_iload_n hx hb dX2_in360_10 rfl (lv_at hl 0 rfl) ?_
  refine ki (va_runS (As := [.int (iI (moE (d % 365)))]) (rest := [.int (iI (d % 365))]) hSF ((c_X2_monthStart l dC dI k (moE (d % 365)) (by omega)) H.size) (va_cwS 1 hts gX2_in360_X2_monthStart rfl rfl rfl (by decide +kernel) ⟨Nat.le_of_ble_eq_true rfl, Nat.le_of_ble_eq_true rfl⟩) (preS hP hD hE hS hA [] rfl (by decide)) rfl rfl hl.1 rfl (lv_room (Nat.le_of_ble_eq_true rfl)) dX2_in360_11 ⟨Nat.le_of_ble_eq_true rfl, Nat.le_of_ble_eq_true rfl⟩) hP hD hS hA [] [] rfl (wr := []) rfl (by decide) (by decide) (fun r11 _ H locs hw hP hD hS => ?_)
  obtain rfl : r11 = (iI (msE (moE (d % 365)))) := hw
  have hP : va_P (dC, dI) vwCl [] H := hP
  have hD : va_D A [] := hD
  refine q_isub (z := (d % 365) - (msE (moE (d % 365)))) hx hb dX2_in360_14 (by omega) ?_
  refine lv_istore_n (lv' := [(2, .int (iI ((d % 365) - (msE (moE (d % 365)))))), (1, .int (iI (moE (d % 365)))), (0, .int (iI d))]) hx hb dX2_in360_15 rfl hl (by decide) rfl (fun ls hl => ?_)
  refine lv_iload_n hx hb dX2_in360_16 rfl (lv_at hl 2 rfl) ?_
  refine q_sipush (z := 365) hx hb dX2_in360_17 (by decide) ?_
  refine q_idiv (z := (d / 365)) hx hb dX2_in360_20 (by omega) rfl ?_
  refine q_sipush (z := 360) hx hb dX2_in360_21 (by decide) ?_
  refine q_imul (z := 360 * (d / 365)) hx hb dX2_in360_24 (by omega) ?_
  refine lv_iload_n hx hb dX2_in360_25 rfl (lv_at hl 1 rfl) ?_
  refine q_bipush (z := 30) hx hb dX2_in360_26 (by decide) ?_
  refine q_imul (z := 30 * (moE (d % 365))) hx hb dX2_in360_28 (by omega) ?_
  refine q_iadd (z := 360 * (d / 365) + 30 * (moE (d % 365))) hx hb dX2_in360_29 (by omega) ?_
  refine lv_iload_n hx hb dX2_in360_30 rfl (lv_at hl 0 rfl) ?_
  refine q_bipush (z := 29) hx hb dX2_in360_31 (by decide) ?_
  refine va_mmin hx hb (hml.trans hl.1.symm) hown (hts (.methodLink RX2 20 Lib.Math.min.name) (List.mem_cons_of_mem _ (wl_9 (List.mem_of_getElem? (i := 15) rfl)))) (hts (.static Lib.Math.min.name) (List.mem_cons_of_mem _ (wl_6 (List.mem_of_getElem? (i := 21) rfl)))) (hts (.initialized "java/lang/Math") (List.mem_cons_of_mem _ (wl_6 (List.mem_of_getElem? (i := 22) rfl)))) (hts (.code Lib.Math.min.name Lib.Math.min.code 2 (some .int)) (List.mem_cons_of_mem _ (wl_6 (List.mem_of_getElem? (i := 23) rfl)))) (Nat.le_of_ble_eq_true rfl) (Nat.le_of_ble_eq_true rfl) (Nat.le_of_ble_eq_true rfl) (Nat.le_of_ble_eq_true rfl) dX2_in360_33 ?_
  rw [q_mmin (a := (d % 365) - (msE (moE (d % 365)))) (b := 29) (z := (min ((d % 365) - (msE (moE (d % 365)))) 29)) (by omega) (by omega)]
  refine q_iadd (z := 360 * (d / 365) + 30 * (moE (d % 365)) + (min ((d % 365) - (msE (moE (d % 365)))) 29)) hx hb dX2_in360_36 (by omega) ?_
  rw [hQ]
  refine W.widen (k := 0) (n := 0) (Nat.le_of_ble_eq_true rfl) (Nat.le_of_ble_eq_true rfl) ?_
  exact W.iret (v := (iI (360 * (d / 365) + 30 * (moE (d % 365)) + (min ((d % 365) - (msE (moE (d % 365)))) 29)))) hx hb hr (fun t ht hW => ⟨⟨(iI (360 * (d / 365) + 30 * (moE (d % 365)) + (min ((d % 365) - (msE (moE (d % 365)))) 29))), (), rfl, (by unfold in3; congr 1; omega), by rw [ht]; exact hP.sub [] rfl, by rw [hAe]; exact hD.sub [] (by decide) rfl⟩, hS.F ht⟩) hS.2.2 dX2_in360_37
set_option maxHeartbeats 4000000 in
set_option maxRecDepth 100000 in
/-- Days.counted -/
theorem c_X2_counted (l : Launch) (dC : Nat → ClassId) (dI : Nat → Nat → Nat) (k : Nat → ClassId) (xf xt xc : Int) (hd : 0 ≤ xf ∧ xf ≤ 100000 ∧ 0 ≤ xt ∧ xt ≤ 100000 ∧ 0 ≤ xc ∧ xc ≤ 2) (sz : Nat) : Met l yX2_counted woX2_counted ({ frames := 2, cells := 0, slots := 0, locals := 44 } : Room) (PcW (dC, dI) k [.int (iI xf), .int (iI xt), .int (iI xc)] [] sz) (va_Qi (fun (r : Int32) (_ : Unit) => r = iI (cntE xc xf xt)) (QB (dC, dI) [] (fun _ => []) sz) (va_A [] sz)) 0 0 (va_A [] sz) := by
  refine Met.ofW (cc := cX2_counted) (maxL := 3) (ret := (some .int)) (by decide) rfl ?_
  intro p e s mI args below meth cO s₁ B hml hv
  obtain ⟨rfl, rfl, hP, hD0, hE⟩ := hv
  have hx := B.exec
  have hb := B.bytes
  have hr := B.returns
  have hts := atoms_spec (ws := woX2_counted) B.pre
  have hown : s.vm.findClass RX2 = some mI.cls := findClass_of_methodNamed B.named
  have hlocks := B.notSynchronized
  have hD := hD0.self (sz := s.heap.size)
  generalize hAe : va_A [] s.heap.size = A at hD hE ⊢
  have hA : ∀ q : Nat, s.heap.size ≤ q → A q := fun q h => by rw [← hAe]; exact Or.inr h
  have hS : va_S A s.heap s.heap [] := va_S.rf
  obtain ⟨hK, hNw, hNc, hZs, hAO1, hAO2⟩ := id hE
  have hSF : CallFix p mI cO cX2_counted 3 s ([.int (iI xf), .int (iI xt), .int (iI xc)] : List Value).toArray woX2_counted RX2 := ⟨hx, hb, hml, hown, hts⟩
  have hl := lv_entry ([.int (iI xf), .int (iI xt), .int (iI xc)] : List Value) (n := 3) (Nat.le_of_ble_eq_true rfl)
  rw [lg_entry_eq]
  generalize (lg_sl ([.int (iI xf), .int (iI xt), .int (iI xc)] : List Value) ++ List.replicate (3 - (lg_sl ([.int (iI xf), .int (iI xt), .int (iI xc)] : List Value)).length) Slot.unset).toArray = ls at hl ⊢
  have hl : lv_has ls 3 [(0, .int (iI xf)), (1, .int (iI xt)), (2, .int (iI xc))] := hl
  refine W_gen (fun Q hQ => ?_)
  change W p l e ({ frames := 2, cells := 0, slots := 0, locals := 44 } : Room) s mI _ below meth cO s.heap [] 0 0 Q _
  have hP : va_P (dC, dI) vwCl [] s.heap := hP
  refine lv_iload_n hx hb dX2_counted_0 rfl (lv_at hl 2 rfl) ?_
  refine q_iconst hx hb dX2_counted_1 ?_
  refine q_icmp_ne (tgt := 17) hx hb dX2_counted_2 (by decide) (by omega) (fun c2 => ?_) (fun c2 => ?_)
  · refine lv_iload_n hx hb dX2_counted_17 rfl (lv_at hl 1 rfl) ?_
    refine lv_iload_n hx hb dX2_counted_18 rfl (lv_at hl 0 rfl) ?_
    refine q_isub (z := xt - xf) hx hb dX2_counted_19 (by omega) ?_
    rw [hQ]
    refine W.widen (k := 0) (n := 0) (Nat.le_of_ble_eq_true rfl) (Nat.le_of_ble_eq_true rfl) ?_
    exact W.iret (v := (iI (xt - xf))) hx hb hr (fun t ht hW => ⟨⟨(iI (xt - xf)), (), rfl, (by unfold cntE; first | rw [if_pos (by omega)] | rw [if_neg (by omega)]), by rw [ht]; exact hP.sub [] rfl, by rw [hAe]; exact hD.sub [] (by decide) rfl⟩, hS.F ht⟩) hS.2.2 dX2_counted_20
  · refine lv_iload_n hx hb dX2_counted_5 rfl (lv_at hl 1 rfl) ?_
    refine ki (va_runS (As := [.int (iI xt)]) (rest := []) hSF ((c_X2_in360 l dC dI k xt (by omega)) s.heap.size) (va_cwS 1 hts gX2_counted_X2_in360 rfl rfl rfl (by decide +kernel) ⟨Nat.le_of_ble_eq_true rfl, Nat.le_of_ble_eq_true rfl⟩) (preS hP hD hE hS hA [] rfl (by decide)) rfl rfl hl.1 rfl (lv_room (Nat.le_of_ble_eq_true rfl)) dX2_counted_6 ⟨Nat.le_of_ble_eq_true rfl, Nat.le_of_ble_eq_true rfl⟩) hP hD hS hA [] [] rfl (wr := []) rfl (by decide) (by decide) (fun r6 _ H locs hw hP hD hS => ?_)
    obtain rfl : r6 = (iI (in3 xt)) := hw
    have hP : va_P (dC, dI) vwCl [] H := hP
    have hD : va_D A [] := hD
    refine lv_iload_n hx hb dX2_counted_9 rfl (lv_at hl 0 rfl) ?_
    refine ki (va_runS (As := [.int (iI xf)]) (rest := [.int (iI (in3 xt))]) hSF ((c_X2_in360 l dC dI k xf (by omega)) H.size) (va_cwS 1 hts gX2_counted_X2_in360 rfl rfl rfl (by decide +kernel) ⟨Nat.le_of_ble_eq_true rfl, Nat.le_of_ble_eq_true rfl⟩) (preS hP hD hE hS hA [] rfl (by decide)) rfl rfl hl.1 rfl (lv_room (Nat.le_of_ble_eq_true rfl)) dX2_counted_10 ⟨Nat.le_of_ble_eq_true rfl, Nat.le_of_ble_eq_true rfl⟩) hP hD hS hA [] [] rfl (wr := []) rfl (by decide) (by decide) (fun r10 _ H locs hw hP hD hS => ?_)
    obtain rfl : r10 = (iI (in3 xf)) := hw
    have hP : va_P (dC, dI) vwCl [] H := hP
    have hD : va_D A [] := hD
    refine q_isub (z := (in3 xt) - (in3 xf)) hx hb dX2_counted_13 (by omega) ?_
    refine lv_goto (tgt := 20) hx hb dX2_counted_14 (by decide) ?_
    rw [hQ]
    refine W.widen (k := 0) (n := 0) (Nat.le_of_ble_eq_true rfl) (Nat.le_of_ble_eq_true rfl) ?_
    exact W.iret (v := (iI ((in3 xt) - (in3 xf)))) hx hb hr (fun t ht hW => ⟨⟨(iI ((in3 xt) - (in3 xf))), (), rfl, (by unfold cntE; first | rw [if_pos (by omega)] | rw [if_neg (by omega)]), by rw [ht]; exact hP.sub [] rfl, by rw [hAe]; exact hD.sub [] (by decide) rfl⟩, hS.F ht⟩) hS.2.2 dX2_counted_20
set_option maxHeartbeats 4000000 in
set_option maxRecDepth 100000 in
/-- Days.monthsAfter, from day 0 -/
theorem c_X2_monthsAfter (l : Launch) (dC : Nat → ClassId) (dI : Nat → Nat → Nat) (k : Nat → ClassId) (n : Int) (hn : 0 ≤ n ∧ n ≤ 61) (sz : Nat) : Met l yX2_monthsAfter woX2_monthsAfter ({ frames := 1, cells := 0, slots := 0, locals := 22 } : Room) (PcW (dC, dI) k [.int (iI 0), .int (iI n)] [] sz) (va_Qi (fun (r : Int32) (_ : Unit) => r = iI (ddE n)) (QB (dC, dI) [] (fun _ => []) sz) (va_A [] sz)) 0 0 (va_A [] sz) := by
  refine Met.ofW (cc := cX2_monthsAfter) (maxL := 7) (ret := (some .int)) (by decide) rfl ?_
  intro p e s mI args below meth cO s₁ B hml hv
  obtain ⟨rfl, rfl, hP, hD0, hE⟩ := hv
  have hx := B.exec
  have hb := B.bytes
  have hr := B.returns
  have hts := atoms_spec (ws := woX2_monthsAfter) B.pre
  have hown : s.vm.findClass RX2 = some mI.cls := findClass_of_methodNamed B.named
  have hlocks := B.notSynchronized
  have hD := hD0.self (sz := s.heap.size)
  generalize hAe : va_A [] s.heap.size = A at hD hE ⊢
  have hA : ∀ q : Nat, s.heap.size ≤ q → A q := fun q h => by rw [← hAe]; exact Or.inr h
  have hS : va_S A s.heap s.heap [] := va_S.rf
  obtain ⟨hK, hNw, hNc, hZs, hAO1, hAO2⟩ := id hE
  have hSF : CallFix p mI cO cX2_monthsAfter 7 s ([.int (iI 0), .int (iI n)] : List Value).toArray woX2_monthsAfter RX2 := ⟨hx, hb, hml, hown, hts⟩
  have hl := lv_entry ([.int (iI 0), .int (iI n)] : List Value) (n := 7) (Nat.le_of_ble_eq_true rfl)
  rw [lg_entry_eq]
  generalize (lg_sl ([.int (iI 0), .int (iI n)] : List Value) ++ List.replicate (7 - (lg_sl ([.int (iI 0), .int (iI n)] : List Value)).length) Slot.unset).toArray = ls at hl ⊢
  have hl : lv_has ls 7 [(0, .int (iI 0)), (1, .int (iI n))] := hl
  refine W_gen (fun Q hQ => ?_)
  change W p l e ({ frames := 1, cells := 0, slots := 0, locals := 22 } : Room) s mI _ below meth cO s.heap [] 0 0 Q _
  have hP : va_P (dC, dI) vwCl [] s.heap := hP
  have hm := ms (m := n % 12) (by omega)
  refine lv_iload_n hx hb dX2_monthsAfter_0 rfl (lv_at hl 0 rfl) ?_
  refine ki (va_runS (As := [.int (iI 0)]) (rest := []) hSF ((c_X2_monthOf l dC dI k 0 (by omega)) s.heap.size) (va_cwS 1 hts gX2_monthsAfter_X2_monthOf rfl rfl rfl (by decide +kernel) ⟨Nat.le_of_ble_eq_true rfl, Nat.le_of_ble_eq_true rfl⟩) (preS hP hD hE hS hA [] rfl (by decide)) rfl rfl hl.1 rfl (lv_room (Nat.le_of_ble_eq_true rfl)) dX2_monthsAfter_1 ⟨Nat.le_of_ble_eq_true rfl, Nat.le_of_ble_eq_true rfl⟩) hP hD hS hA [] [] rfl (wr := []) rfl (by decide) (by decide) (fun r1 _ H locs hw hP hD hS => ?_)
  obtain rfl : r1 = iI 0 := hw.trans (by decide)
  have hP : va_P (dC, dI) vwCl [] H := hP
  have hD : va_D A [] := hD
  refine lv_istore_n (lv' := [(2, .int (iI 0)), (0, .int (iI 0)), (1, .int (iI n))]) hx hb dX2_monthsAfter_4 rfl hl (by decide) rfl (fun ls hl => ?_)
  refine lv_iload_n hx hb dX2_monthsAfter_5 rfl (lv_at hl 1 rfl) ?_
  refine q_sipush (z := 365) hx hb dX2_monthsAfter_6 (by decide) ?_
  refine q_irem (z := 0) hx hb dX2_monthsAfter_9 (by omega) (by decide) ?_
  refine lv_iload_n hx hb dX2_monthsAfter_10 rfl (lv_at hl 0 rfl) ?_
  refine ki (va_runS (As := [.int (iI 0)]) (rest := [.int (iI 0)]) hSF ((c_X2_monthStart l dC dI k 0 (by omega)) H.size) (va_cwS 1 hts gX2_monthsAfter_X2_monthStart rfl rfl rfl (by decide +kernel) ⟨Nat.le_of_ble_eq_true rfl, Nat.le_of_ble_eq_true rfl⟩) (preS hP hD hE hS hA [] rfl (by decide)) rfl rfl hl.1 rfl (lv_room (Nat.le_of_ble_eq_true rfl)) dX2_monthsAfter_11 ⟨Nat.le_of_ble_eq_true rfl, Nat.le_of_ble_eq_true rfl⟩) hP hD hS hA [] [] rfl (wr := []) rfl (by decide) (by decide) (fun r11 _ H locs hw hP hD hS => ?_)
  obtain rfl : r11 = iI 0 := hw.trans (by decide)
  have hP : va_P (dC, dI) vwCl [] H := hP
  have hD : va_D A [] := hD
  refine q_isub (z := 0) hx hb dX2_monthsAfter_14 (by omega) ?_
  refine lv_istore_n (lv' := [(3, .int (iI 0)), (2, .int (iI 0)), (0, .int (iI 0)), (1, .int (iI n))]) hx hb dX2_monthsAfter_15 rfl hl (by decide) rfl (fun ls hl => ?_)
  refine lv_iload_n hx hb dX2_monthsAfter_16 rfl (lv_at hl 2 rfl) ?_
  refine q_sipush (z := 365) hx hb dX2_monthsAfter_17 (by decide) ?_
  refine q_idiv (z := 0) hx hb dX2_monthsAfter_20 (by omega) (by decide) ?_
  refine q_bipush (z := 12) hx hb dX2_monthsAfter_21 (by decide) ?_
  refine q_imul (z := 0) hx hb dX2_monthsAfter_23 (Int.zero_mul _) ?_
  refine lv_iload_n hx hb dX2_monthsAfter_24 rfl (lv_at hl 1 rfl) ?_
  refine q_iadd (z := 0) hx hb dX2_monthsAfter_25 (by omega) ?_
  refine lv_iload_n hx hb dX2_monthsAfter_26 rfl (lv_at hl 3 rfl) ?_
  refine q_iadd (z := n) hx hb dX2_monthsAfter_27 (by omega) ?_
  refine lv_istore (lv' := [(4, .int (iI n)), (3, .int (iI 0)), (2, .int (iI 0)), (0, .int (iI 0)), (1, .int (iI n))]) hx hb dX2_monthsAfter_28 hl (by decide) rfl (fun ls hl => ?_)
  refine lv_iload hx hb dX2_monthsAfter_30 (lv_at hl 0 rfl) ?_
  refine q_bipush (z := 12) hx hb dX2_monthsAfter_32 (by decide) ?_
  refine q_irem (z := (n % 12)) hx hb dX2_monthsAfter_34 (by omega) rfl ?_
  refine lv_istore (lv' := [(5, .int (iI (n % 12))), (4, .int (iI n)), (3, .int (iI 0)), (2, .int (iI 0)), (0, .int (iI 0)), (1, .int (iI n))]) hx hb dX2_monthsAfter_35 hl (by decide) rfl (fun ls hl => ?_)
  refine lv_iload hx hb dX2_monthsAfter_37 (lv_at hl 0 rfl) ?_
  refine q_iconst hx hb dX2_monthsAfter_39 ?_
  refine q_iadd (z := (n % 12) + 1) hx hb dX2_monthsAfter_40 (by omega) ?_
  refine ki (va_runS (As := [.int (iI ((n % 12) + 1))]) (rest := []) hSF ((c_X2_monthStart l dC dI k ((n % 12) + 1) (by omega)) H.size) (va_cwS 1 hts gX2_monthsAfter_X2_monthStart rfl rfl rfl (by decide +kernel) ⟨Nat.le_of_ble_eq_true rfl, Nat.le_of_ble_eq_true rfl⟩) (preS hP hD hE hS hA [] rfl (by decide)) rfl rfl hl.1 rfl (lv_room (Nat.le_of_ble_eq_true rfl)) dX2_monthsAfter_41 ⟨Nat.le_of_ble_eq_true rfl, Nat.le_of_ble_eq_true rfl⟩) hP hD hS hA [] [] rfl (wr := []) rfl (by decide) (by decide) (fun r41 _ H locs hw hP hD hS => ?_)
  obtain rfl : r41 = (iI (msE ((n % 12) + 1))) := hw
  have hP : va_P (dC, dI) vwCl [] H := hP
  have hD : va_D A [] := hD
  refine lv_iload hx hb dX2_monthsAfter_44 (lv_at hl 0 rfl) ?_
  refine ki (va_runS (As := [.int (iI (n % 12))]) (rest := [.int (iI (msE ((n % 12) + 1)))]) hSF ((c_X2_monthStart l dC dI k (n % 12) (by omega)) H.size) (va_cwS 1 hts gX2_monthsAfter_X2_monthStart rfl rfl rfl (by decide +kernel) ⟨Nat.le_of_ble_eq_true rfl, Nat.le_of_ble_eq_true rfl⟩) (preS hP hD hE hS hA [] rfl (by decide)) rfl rfl hl.1 rfl (lv_room (Nat.le_of_ble_eq_true rfl)) dX2_monthsAfter_46 ⟨Nat.le_of_ble_eq_true rfl, Nat.le_of_ble_eq_true rfl⟩) hP hD hS hA [] [] rfl (wr := []) rfl (by decide) (by decide) (fun r46 _ H locs hw hP hD hS => ?_)
  obtain rfl : r46 = (iI (msE (n % 12))) := hw
  have hP : va_P (dC, dI) vwCl [] H := hP
  have hD : va_D A [] := hD
  refine q_isub (z := (msE ((n % 12) + 1)) - (msE (n % 12))) hx hb dX2_monthsAfter_49 (by omega) ?_
  refine q_iconst hx hb dX2_monthsAfter_50 ?_
  refine q_isub (z := (msE ((n % 12) + 1)) - (msE (n % 12)) - 1) hx hb dX2_monthsAfter_51 (by omega) ?_
  refine lv_istore (lv' := [(6, .int (iI ((msE ((n % 12) + 1)) - (msE (n % 12)) - 1))), (5, .int (iI (n % 12))), (4, .int (iI n)), (3, .int (iI 0)), (2, .int (iI 0)), (0, .int (iI 0)), (1, .int (iI n))]) hx hb dX2_monthsAfter_52 hl (by decide) rfl (fun ls hl => ?_)
  refine lv_iload hx hb dX2_monthsAfter_54 (lv_at hl 2 rfl) ?_
  refine q_bipush (z := 12) hx hb dX2_monthsAfter_56 (by decide) ?_
  refine q_idiv (z := (n / 12)) hx hb dX2_monthsAfter_58 (by omega) rfl ?_
  refine q_sipush (z := 365) hx hb dX2_monthsAfter_59 (by decide) ?_
  refine q_imul (z := 365 * (n / 12)) hx hb dX2_monthsAfter_62 (by omega) ?_
  refine lv_iload hx hb dX2_monthsAfter_63 (lv_at hl 1 rfl) ?_
  refine ki (va_runS (As := [.int (iI (n % 12))]) (rest := [.int (iI (365 * (n / 12)))]) hSF ((c_X2_monthStart l dC dI k (n % 12) (by omega)) H.size) (va_cwS 1 hts gX2_monthsAfter_X2_monthStart rfl rfl rfl (by decide +kernel) ⟨Nat.le_of_ble_eq_true rfl, Nat.le_of_ble_eq_true rfl⟩) (preS hP hD hE hS hA [] rfl (by decide)) rfl rfl hl.1 rfl (lv_room (Nat.le_of_ble_eq_true rfl)) dX2_monthsAfter_65 ⟨Nat.le_of_ble_eq_true rfl, Nat.le_of_ble_eq_true rfl⟩) hP hD hS hA [] [] rfl (wr := []) rfl (by decide) (by decide) (fun r65 _ H locs hw hP hD hS => ?_)
  obtain rfl : r65 = (iI (msE (n % 12))) := hw
  have hP : va_P (dC, dI) vwCl [] H := hP
  have hD : va_D A [] := hD
  refine q_iadd (z := 365 * (n / 12) + (msE (n % 12))) hx hb dX2_monthsAfter_68 (by omega) ?_
  refine lv_iload_n hx hb dX2_monthsAfter_69 rfl (lv_at hl 3 rfl) ?_
  refine lv_iload hx hb dX2_monthsAfter_70 (lv_at hl 0 rfl) ?_
  refine va_mmin hx hb (hml.trans hl.1.symm) hown (hts (.methodLink RX2 20 Lib.Math.min.name) (List.mem_cons_of_mem _ (wl_9 (List.mem_of_getElem? (i := 15) rfl)))) (hts (.static Lib.Math.min.name) (List.mem_cons_of_mem _ (wl_6 (List.mem_of_getElem? (i := 21) rfl)))) (hts (.initialized "java/lang/Math") (List.mem_cons_of_mem _ (wl_6 (List.mem_of_getElem? (i := 22) rfl)))) (hts (.code Lib.Math.min.name Lib.Math.min.code 2 (some .int)) (List.mem_cons_of_mem _ (wl_6 (List.mem_of_getElem? (i := 23) rfl)))) (Nat.le_of_ble_eq_true rfl) (Nat.le_of_ble_eq_true rfl) (Nat.le_of_ble_eq_true rfl) (Nat.le_of_ble_eq_true rfl) dX2_monthsAfter_72 ?_
  rw [q_mmin (a := 0) (b := (msE ((n % 12) + 1)) - (msE (n % 12)) - 1) (z := 0) (by omega) (by omega)]
  refine q_iadd (z := 365 * (n / 12) + (msE (n % 12))) hx hb dX2_monthsAfter_75 (by omega) ?_
  rw [hQ]
  refine W.widen (k := 0) (n := 0) (Nat.le_of_ble_eq_true rfl) (Nat.le_of_ble_eq_true rfl) ?_
  exact W.iret (v := (iI (365 * (n / 12) + (msE (n % 12))))) hx hb hr (fun t ht hW => ⟨⟨(iI (365 * (n / 12) + (msE (n % 12)))), (), rfl, (by unfold ddE; congr 1; omega), by rw [ht]; exact hP.sub [] rfl, by rw [hAe]; exact hD.sub [] (by decide) rfl⟩, hS.F ht⟩) hS.2.2 dX2_monthsAfter_76
set_option maxHeartbeats 4000000 in
set_option maxRecDepth 100000 in
/-- floorMod(0, 8) -/
theorem c_floorMod_0_8 (l : Launch) (dC : Nat → ClassId) (dI : Nat → Nat → Nat) (k : Nat → ClassId) (sz : Nat) : Met l yJ9_floorMod_7cf53 woJ9_floorMod_7cf53 ({ frames := 0, cells := 0, slots := 0, locals := 0 } : Room) (PcW (dC, dI) k [.int (iI 0), .int (iI 8)] [] sz) (va_Qi (fun (r : Int32) (_ : Unit) => r = iI 0) (QB (dC, dI) [] (fun _ => []) sz) (va_A [] sz)) 0 0 (va_A [] sz) := by
  refine Met_ofWF (cc := cJ9_floorMod_7cf53) (maxL := 3) (ret := (some .int)) (by decide +kernel) rfl ?_
  intro p e s mI args below meth cO s₁ B hml hv
  obtain ⟨rfl, rfl, hP, hD0, hE⟩ := hv
  have hx := B.exec
  have hb := B.bytes
  have hr := B.returns
  have hts := atoms_spec (ws := woJ9_floorMod_7cf53) B.pre
  have hown : s.vm.findClass RJ9 = some mI.cls := findClass_of_methodNamed B.named
  have hlocks := B.notSynchronized
  have hD := hD0.self (sz := s.heap.size)
  generalize hAe : va_A [] s.heap.size = A at hD hE ⊢
  have hA : ∀ q : Nat, s.heap.size ≤ q → A q := fun q h => by rw [← hAe]; exact Or.inr h
  have hS : va_S A s.heap s.heap [] := va_S.rf
  obtain ⟨hK, hNw, hNc, hZs, hAO1, hAO2⟩ := id hE
  have hSF : CallFix p mI cO cJ9_floorMod_7cf53 3 s ([.int (iI 0), .int (iI 8)] : List Value).toArray woJ9_floorMod_7cf53 RJ9 := ⟨hx, hb, hml, hown, hts⟩
  have hl := lv_entry ([.int (iI 0), .int (iI 8)] : List Value) (n := 3) (Nat.le_of_ble_eq_true rfl)
  rw [lg_entry_eq]
  generalize (lg_sl ([.int (iI 0), .int (iI 8)] : List Value) ++ List.replicate (3 - (lg_sl ([.int (iI 0), .int (iI 8)] : List Value)).length) Slot.unset).toArray = ls at hl ⊢
  have hl : lv_has ls 3 [(0, .int (iI 0)), (1, .int (iI 8))] := hl
  refine W_gen (fun Q hQ => ?_)
  change W p l e ({ frames := 0, cells := 0, slots := 0, locals := 0 } : Room) s mI _ below meth cO s.heap [] 0 0 Q _
  have hP : va_P (dC, dI) vwCl [] s.heap := hP
  refine lv_iload_n hx hb dJ9_floorMod_7cf53_0 rfl (lv_at hl 0 rfl) ?_
  refine lv_iload_n hx hb dJ9_floorMod_7cf53_1 rfl (lv_at hl 1 rfl) ?_
  refine q_irem (z := 0) hx hb dJ9_floorMod_7cf53_2 (by omega) (by decide) ?_
  refine lv_istore_n (lv' := [(2, .int (iI 0)), (0, .int (iI 0)), (1, .int (iI 8))]) hx hb dJ9_floorMod_7cf53_3 rfl hl (by decide) rfl (fun ls hl => ?_)
  refine lv_iload_n hx hb dJ9_floorMod_7cf53_4 rfl (lv_at hl 1 rfl) ?_
  refine lv_iload_n hx hb dJ9_floorMod_7cf53_5 rfl (lv_at hl 2 rfl) ?_
  refine lv_ixor hx hb dJ9_floorMod_7cf53_6 ?_
  rw [show iI 0 ^^^ iI 8 = iI 8 from by decide]
  refine q_if_ge (tgt := 18) hx hb dJ9_floorMod_7cf53_7 (by decide) (by omega) (fun _ => ?_) (fun q => absurd q (by omega))
  refine lv_iload_n hx hb dJ9_floorMod_7cf53_18 rfl (lv_at hl 0 rfl) ?_
  rw [hQ]
  refine W.widen (k := 0) (n := 0) (Nat.le_of_ble_eq_true rfl) (Nat.le_of_ble_eq_true rfl) ?_
  exact W.iret (v := (iI 0)) hx hb hr (fun t ht hW => ⟨⟨(iI 0), (), rfl, rfl, by rw [ht]; exact hP.sub [] rfl, by rw [hAe]; exact hD.sub [] (by decide) rfl⟩, hS.F ht⟩) hS.2.2 dJ9_floorMod_7cf53_19
set_option maxHeartbeats 4000000 in
set_option maxRecDepth 100000 in
/-- bitCount(0) -/
theorem c_bitCount_0 (l : Launch) (dC : Nat → ClassId) (dI : Nat → Nat → Nat) (k : Nat → ClassId) (sz : Nat) : Met l yJ6_bitCount_0f7a4 woJ6_bitCount_0f7a4 ({ frames := 0, cells := 0, slots := 0, locals := 0 } : Room) (PcW (dC, dI) k [.int (iI 0)] [] sz) (va_Qi (fun (r : Int32) (_ : Unit) => r = iI 0) (QB (dC, dI) [] (fun _ => []) sz) (va_A [] sz)) 0 0 (va_A [] sz) := by
  refine Met.ofW (cc := cJ6_bitCount_0f7a4) (maxL := 1) (ret := (some .int)) (by decide) rfl ?_
  intro p e s mI args below meth cO s₁ B hml hv
  obtain ⟨rfl, rfl, hP, hD0, hE⟩ := hv
  have hx := B.exec
  have hb := B.bytes
  have hr := B.returns
  have hts := atoms_spec (ws := woJ6_bitCount_0f7a4) B.pre
  have hown : s.vm.findClass RJ6 = some mI.cls := findClass_of_methodNamed B.named
  have hlocks := B.notSynchronized
  have hD := hD0.self (sz := s.heap.size)
  generalize hAe : va_A [] s.heap.size = A at hD hE ⊢
  have hA : ∀ q : Nat, s.heap.size ≤ q → A q := fun q h => by rw [← hAe]; exact Or.inr h
  have hS : va_S A s.heap s.heap [] := va_S.rf
  obtain ⟨hK, hNw, hNc, hZs, hAO1, hAO2⟩ := id hE
  have hSF : CallFix p mI cO cJ6_bitCount_0f7a4 1 s ([.int (iI 0)] : List Value).toArray woJ6_bitCount_0f7a4 RJ6 := ⟨hx, hb, hml, hown, hts⟩
  have hl := lv_entry ([.int (iI 0)] : List Value) (n := 1) (Nat.le_of_ble_eq_true rfl)
  rw [lg_entry_eq]
  generalize (lg_sl ([.int (iI 0)] : List Value) ++ List.replicate (1 - (lg_sl ([.int (iI 0)] : List Value)).length) Slot.unset).toArray = ls at hl ⊢
  have hl : lv_has ls 1 [(0, .int (iI 0))] := hl
  refine W_gen (fun Q hQ => ?_)
  change W p l e ({ frames := 0, cells := 0, slots := 0, locals := 0 } : Room) s mI _ below meth cO s.heap [] 0 0 Q _
  have hP : va_P (dC, dI) vwCl [] s.heap := hP
  refine lv_iload_n hx hb dJ6_bitCount_0f7a4_0 rfl (lv_at hl 0 rfl) ?_
  refine lv_iload_n hx hb dJ6_bitCount_0f7a4_1 rfl (lv_at hl 0 rfl) ?_
  refine q_iconst hx hb dJ6_bitCount_0f7a4_2 ?_
  refine lv_iushr (v := iI 0) hx hb dJ6_bitCount_0f7a4_3 (by decide) ?_
  refine q_ldcw (z := 1431655765) hx hb hown (hts (.constant RJ6 265 (1431655765)) (List.mem_cons_of_mem _ (wl_11 (List.mem_of_getElem? (i := 0) rfl)))) dJ6_bitCount_0f7a4_4 (by decide) ?_
  refine q_iand (z := 0) hx hb dJ6_bitCount_0f7a4_7 (by decide) ?_
  refine q_isub (z := 0) hx hb dJ6_bitCount_0f7a4_8 (by omega) ?_
  refine lv_istore_n (lv' := [(0, .int (iI 0))]) hx hb dJ6_bitCount_0f7a4_9 rfl hl (by decide) rfl (fun ls hl => ?_)
  refine lv_iload_n hx hb dJ6_bitCount_0f7a4_10 rfl (lv_at hl 0 rfl) ?_
  refine q_ldcw (z := 858993459) hx hb hown (hts (.constant RJ6 266 (858993459)) (List.mem_cons_of_mem _ (wl_11 (List.mem_of_getElem? (i := 1) rfl)))) dJ6_bitCount_0f7a4_11 (by decide) ?_
  refine q_iand (z := 0) hx hb dJ6_bitCount_0f7a4_14 (by decide) ?_
  refine lv_iload_n hx hb dJ6_bitCount_0f7a4_15 rfl (lv_at hl 0 rfl) ?_
  refine q_iconst hx hb dJ6_bitCount_0f7a4_16 ?_
  refine lv_iushr (v := iI 0) hx hb dJ6_bitCount_0f7a4_17 (by decide) ?_
  refine q_ldcw (z := 858993459) hx hb hown (hts (.constant RJ6 266 (858993459)) (List.mem_cons_of_mem _ (wl_11 (List.mem_of_getElem? (i := 1) rfl)))) dJ6_bitCount_0f7a4_18 (by decide) ?_
  refine q_iand (z := 0) hx hb dJ6_bitCount_0f7a4_21 (by decide) ?_
  refine q_iadd (z := 0) hx hb dJ6_bitCount_0f7a4_22 (by omega) ?_
  refine lv_istore_n (lv' := [(0, .int (iI 0))]) hx hb dJ6_bitCount_0f7a4_23 rfl hl (by decide) rfl (fun ls hl => ?_)
  refine lv_iload_n hx hb dJ6_bitCount_0f7a4_24 rfl (lv_at hl 0 rfl) ?_
  refine lv_iload_n hx hb dJ6_bitCount_0f7a4_25 rfl (lv_at hl 0 rfl) ?_
  refine q_iconst hx hb dJ6_bitCount_0f7a4_26 ?_
  refine lv_iushr (v := iI 0) hx hb dJ6_bitCount_0f7a4_27 (by decide) ?_
  refine q_iadd (z := 0) hx hb dJ6_bitCount_0f7a4_28 (by omega) ?_
  refine q_ldcw (z := 252645135) hx hb hown (hts (.constant RJ6 267 (252645135)) (List.mem_cons_of_mem _ (wl_11 (List.mem_of_getElem? (i := 2) rfl)))) dJ6_bitCount_0f7a4_29 (by decide) ?_
  refine q_iand (z := 0) hx hb dJ6_bitCount_0f7a4_32 (by decide) ?_
  refine lv_istore_n (lv' := [(0, .int (iI 0))]) hx hb dJ6_bitCount_0f7a4_33 rfl hl (by decide) rfl (fun ls hl => ?_)
  refine lv_iload_n hx hb dJ6_bitCount_0f7a4_34 rfl (lv_at hl 0 rfl) ?_
  refine lv_iload_n hx hb dJ6_bitCount_0f7a4_35 rfl (lv_at hl 0 rfl) ?_
  refine q_bipush (z := 8) hx hb dJ6_bitCount_0f7a4_36 (by decide) ?_
  refine lv_iushr (v := iI 0) hx hb dJ6_bitCount_0f7a4_38 (by decide) ?_
  refine q_iadd (z := 0) hx hb dJ6_bitCount_0f7a4_39 (by omega) ?_
  refine lv_istore_n (lv' := [(0, .int (iI 0))]) hx hb dJ6_bitCount_0f7a4_40 rfl hl (by decide) rfl (fun ls hl => ?_)
  refine lv_iload_n hx hb dJ6_bitCount_0f7a4_41 rfl (lv_at hl 0 rfl) ?_
  refine lv_iload_n hx hb dJ6_bitCount_0f7a4_42 rfl (lv_at hl 0 rfl) ?_
  refine q_bipush (z := 16) hx hb dJ6_bitCount_0f7a4_43 (by decide) ?_
  refine lv_iushr (v := iI 0) hx hb dJ6_bitCount_0f7a4_45 (by decide) ?_
  refine q_iadd (z := 0) hx hb dJ6_bitCount_0f7a4_46 (by omega) ?_
  refine lv_istore_n (lv' := [(0, .int (iI 0))]) hx hb dJ6_bitCount_0f7a4_47 rfl hl (by decide) rfl (fun ls hl => ?_)
  refine lv_iload_n hx hb dJ6_bitCount_0f7a4_48 rfl (lv_at hl 0 rfl) ?_
  refine q_bipush (z := 63) hx hb dJ6_bitCount_0f7a4_49 (by decide) ?_
  refine q_iand (z := 0) hx hb dJ6_bitCount_0f7a4_51 (by decide) ?_
  rw [hQ]
  refine W.widen (k := 0) (n := 0) (Nat.le_of_ble_eq_true rfl) (Nat.le_of_ble_eq_true rfl) ?_
  exact W.iret (v := (iI 0)) hx hb hr (fun t ht hW => ⟨⟨(iI 0), (), rfl, rfl, by rw [ht]; exact hP.sub [] rfl, by rw [hAe]; exact hD.sub [] (by decide) rfl⟩, hS.F ht⟩) hS.2.2 dJ6_bitCount_0f7a4_52
set_option maxHeartbeats 4000000 in
set_option maxRecDepth 100000 in
/-- floorDiv of what is not negative -/
theorem c_floorDiv (l : Launch) (dC : Nat → ClassId) (dI : Nat → Nat → Nat) (k : Nat → ClassId) (x y : Int) (hd : 0 ≤ x ∧ x ≤ 4611686018427387904 ∧ 0 < y ∧ y ≤ 4000000) (sz : Nat) : Met l yJ9_floorDiv_f86c9 woJ9_floorDiv_f86c9 ({ frames := 0, cells := 0, slots := 0, locals := 0 } : Room) (PcW (dC, dI) k [.long (lI x), .long (lI y)] [] sz) (va_Ql (fun (r : Int64) (_ : Unit) => r = lI (x / y)) (QB (dC, dI) [] (fun _ => []) sz) (va_A [] sz)) 0 0 (va_A [] sz) := by
  refine Met_ofWF (cc := cJ9_floorDiv_f86c9) (maxL := 6) (ret := (some .long)) (by decide +kernel) rfl ?_
  intro p e s mI args below meth cO s₁ B hml hv
  obtain ⟨rfl, rfl, hP, hD0, hE⟩ := hv
  have hx := B.exec
  have hb := B.bytes
  have hr := B.returns
  have hts := atoms_spec (ws := woJ9_floorDiv_f86c9) B.pre
  have hown : s.vm.findClass RJ9 = some mI.cls := findClass_of_methodNamed B.named
  have hlocks := B.notSynchronized
  have hD := hD0.self (sz := s.heap.size)
  generalize hAe : va_A [] s.heap.size = A at hD hE ⊢
  have hA : ∀ q : Nat, s.heap.size ≤ q → A q := fun q h => by rw [← hAe]; exact Or.inr h
  have hS : va_S A s.heap s.heap [] := va_S.rf
  obtain ⟨hK, hNw, hNc, hZs, hAO1, hAO2⟩ := id hE
  have hSF : CallFix p mI cO cJ9_floorDiv_f86c9 6 s ([.long (lI x), .long (lI y)] : List Value).toArray woJ9_floorDiv_f86c9 RJ9 := ⟨hx, hb, hml, hown, hts⟩
  have hl := lv_entry ([.long (lI x), .long (lI y)] : List Value) (n := 6) (Nat.le_of_ble_eq_true rfl)
  rw [lg_entry_eq]
  generalize (lg_sl ([.long (lI x), .long (lI y)] : List Value) ++ List.replicate (6 - (lg_sl ([.long (lI x), .long (lI y)] : List Value)).length) Slot.unset).toArray = ls at hl ⊢
  have hl : lv_has ls 6 [(0, .long (lI x)), (2, .long (lI y))] := hl
  refine W_gen (fun Q hQ => ?_)
  change W p l e ({ frames := 0, cells := 0, slots := 0, locals := 0 } : Room) s mI _ below meth cO s.heap [] 0 0 Q _
  have hP : va_P (dC, dI) vwCl [] s.heap := hP
  obtain ⟨z, hz0, hz⟩ := lI_xor (x := x) (y := y) (by omega)
  refine lv_lload_n hx hb dJ9_floorDiv_f86c9_0 rfl (lv_at hl 0 rfl) ?_
  refine lv_lload_n hx hb dJ9_floorDiv_f86c9_1 rfl (lv_at hl 1 rfl) ?_
  refine q_ldiv (z := (x / y)) hx hb dJ9_floorDiv_f86c9_2 (by omega) rfl ?_
  refine lv_lstore (lv' := [(4, .long (lI (x / y))), (0, .long (lI x)), (2, .long (lI y))]) hx hb dJ9_floorDiv_f86c9_3 hl (by decide) rfl (fun ls hl => ?_)
  refine lv_lload_n hx hb dJ9_floorDiv_f86c9_5 rfl (lv_at hl 1 rfl) ?_
  refine lv_lload_n hx hb dJ9_floorDiv_f86c9_6 rfl (lv_at hl 2 rfl) ?_
  refine lv_lxor hx hb dJ9_floorDiv_f86c9_7 ?_
  rw [show lI x ^^^ lI y = lI z from hz]
  refine q_lconst (z := 0) hx hb dJ9_floorDiv_f86c9_8 (by decide) ?_
  refine q_lcmp hx hb dJ9_floorDiv_f86c9_9 ?_
  refine q_lif_ge (tgt := 27) hx hb dJ9_floorDiv_f86c9_10 (by decide) (by omega) (fun _ => ?_) (fun q => absurd q (by omega))
  refine lv_lload hx hb dJ9_floorDiv_f86c9_27 (lv_at hl 0 rfl) ?_
  rw [hQ]
  refine W.widen (k := 0) (n := 0) (Nat.le_of_ble_eq_true rfl) (Nat.le_of_ble_eq_true rfl) ?_
  exact W.lret (v := (lI (x / y))) hx hb hr (fun t ht hW => ⟨⟨(lI (x / y)), (), rfl, rfl, by rw [ht]; exact hP.sub [] rfl, by rw [hAe]; exact hD.sub [] (by decide) rfl⟩, hS.F ht⟩) hS.2.2 dJ9_floorDiv_f86c9_29
set_option maxHeartbeats 4000000 in
set_option maxRecDepth 100000 in
/-- Units.toCents -/
theorem c_X9_toCents (l : Launch) (dC : Nat → ClassId) (dI : Nat → Nat → Nat) (k : Nat → ClassId) (x c : Int) (hd : (c = 0 → -1825000 ≤ x) ∧ (c ≠ 0 → -1800000 ≤ x) ∧ -1825000 ≤ x ∧ x ≤ 4611686018420000000 ∧ 0 ≤ c ∧ c ≤ 2) (sz : Nat) : Met l yX9_toCents woX9_toCents ({ frames := 1, cells := 0, slots := 0, locals := 25 } : Room) (PcW (dC, dI) k [.long (lI x), .int (iI c)] [] sz) (va_Ql (fun (r : Int64) (_ : Unit) => r = lI (cnE c x)) (QB (dC, dI) [] (fun _ => []) sz) (va_A [] sz)) 0 0 (va_A [] sz) := by
  refine Met.ofW (cc := cX9_toCents) (maxL := 3) (ret := (some .long)) (by decide) rfl ?_
  intro p e s mI args below meth cO s₁ B hml hv
  obtain ⟨rfl, rfl, hP, hD0, hE⟩ := hv
  have hx := B.exec
  have hb := B.bytes
  have hr := B.returns
  have hts := atoms_spec (ws := woX9_toCents) B.pre
  have hown : s.vm.findClass RX9 = some mI.cls := findClass_of_methodNamed B.named
  have hlocks := B.notSynchronized
  have hD := hD0.self (sz := s.heap.size)
  generalize hAe : va_A [] s.heap.size = A at hD hE ⊢
  have hA : ∀ q : Nat, s.heap.size ≤ q → A q := fun q h => by rw [← hAe]; exact Or.inr h
  have hS : va_S A s.heap s.heap [] := va_S.rf
  obtain ⟨hK, hNw, hNc, hZs, hAO1, hAO2⟩ := id hE
  have hSF : CallFix p mI cO cX9_toCents 3 s ([.long (lI x), .int (iI c)] : List Value).toArray woX9_toCents RX9 := ⟨hx, hb, hml, hown, hts⟩
  have hl := lv_entry ([.long (lI x), .int (iI c)] : List Value) (n := 3) (Nat.le_of_ble_eq_true rfl)
  rw [lg_entry_eq]
  generalize (lg_sl ([.long (lI x), .int (iI c)] : List Value) ++ List.replicate (3 - (lg_sl ([.long (lI x), .int (iI c)] : List Value)).length) Slot.unset).toArray = ls at hl ⊢
  have hl : lv_has ls 3 [(0, .long (lI x)), (2, .int (iI c))] := hl
  refine W_gen (fun Q hQ => ?_)
  change W p l e ({ frames := 1, cells := 0, slots := 0, locals := 25 } : Room) s mI _ below meth cO s.heap [] 0 0 Q _
  have hP : va_P (dC, dI) vwCl [] s.heap := hP
  refine lv_iload_n hx hb dX9_toCents_0 rfl (lv_at hl 1 rfl) ?_
  refine q_if_ne (tgt := 18) hx hb dX9_toCents_1 (by decide) (by omega) (fun c1 => ?_) (fun c1 => ?_)
  · refine lv_lload_n hx hb dX9_toCents_18 rfl (lv_at hl 0 rfl) ?_
    refine q_ldc2 (z := 1800000) hx hb hown (hts (.constantLong RX9 19 (1800000)) (List.mem_cons_of_mem _ (wl_12 (List.mem_of_getElem? (i := 8) rfl)))) dX9_toCents_19 (by decide) ?_
    refine q_ladd (z := x + 1800000) hx hb dX9_toCents_22 (by omega) ?_
    refine q_ldc2 (z := 3600000) hx hb hown (hts (.constantLong RX9 21 (3600000)) (List.mem_cons_of_mem _ (wl_12 (List.mem_of_getElem? (i := 9) rfl)))) dX9_toCents_23 (by decide) ?_
    refine kl (va_runS (As := [.long (lI (x + 1800000)), .long (lI 3600000)]) (rest := []) hSF ((c_floorDiv l dC dI k (x + 1800000) 3600000 (by omega)) s.heap.size) (va_cwS 2 hts gX9_toCents_J9_floorDiv_f86c9 rfl rfl rfl (by decide +kernel) ⟨Nat.le_of_ble_eq_true rfl, Nat.le_of_ble_eq_true rfl⟩) (preS hP hD hE hS hA [] rfl (by decide)) rfl rfl hl.1 rfl (lv_room (Nat.le_of_ble_eq_true rfl)) dX9_toCents_26 ⟨Nat.le_of_ble_eq_true rfl, Nat.le_of_ble_eq_true rfl⟩) hP hD hS hA [] [] rfl (wr := []) rfl (by decide) (by decide) (fun r26 _ H locs hw hP hD hS => ?_)
    obtain rfl : r26 = (lI ((x + 1800000) / 3600000)) := hw
    have hP : va_P (dC, dI) vwCl [] H := hP
    have hD : va_D A [] := hD
    rw [hQ]
    refine W.widen (k := 0) (n := 0) (Nat.le_of_ble_eq_true rfl) (Nat.le_of_ble_eq_true rfl) ?_
    exact W.lret (v := (lI ((x + 1800000) / 3600000))) hx hb hr (fun t ht hW => ⟨⟨(lI ((x + 1800000) / 3600000)), (), rfl, (by unfold cnE; first | rw [if_pos (by omega)] | rw [if_neg (by omega)]), by rw [ht]; exact hP.sub [] rfl, by rw [hAe]; exact hD.sub [] (by decide) rfl⟩, hS.F ht⟩) hS.2.2 dX9_toCents_29
  · refine lv_lload_n hx hb dX9_toCents_4 rfl (lv_at hl 0 rfl) ?_
    refine q_ldc2 (z := 1825000) hx hb hown (hts (.constantLong RX9 9 (1825000)) (List.mem_cons_of_mem _ (wl_12 (List.mem_of_getElem? (i := 6) rfl)))) dX9_toCents_5 (by decide) ?_
    refine q_ladd (z := x + 1825000) hx hb dX9_toCents_8 (by omega) ?_
    refine q_ldc2 (z := 3650000) hx hb hown (hts (.constantLong RX9 11 (3650000)) (List.mem_cons_of_mem _ (wl_12 (List.mem_of_getElem? (i := 7) rfl)))) dX9_toCents_9 (by decide) ?_
    refine kl (va_runS (As := [.long (lI (x + 1825000)), .long (lI 3650000)]) (rest := []) hSF ((c_floorDiv l dC dI k (x + 1825000) 3650000 (by omega)) s.heap.size) (va_cwS 2 hts gX9_toCents_J9_floorDiv_f86c9 rfl rfl rfl (by decide +kernel) ⟨Nat.le_of_ble_eq_true rfl, Nat.le_of_ble_eq_true rfl⟩) (preS hP hD hE hS hA [] rfl (by decide)) rfl rfl hl.1 rfl (lv_room (Nat.le_of_ble_eq_true rfl)) dX9_toCents_12 ⟨Nat.le_of_ble_eq_true rfl, Nat.le_of_ble_eq_true rfl⟩) hP hD hS hA [] [] rfl (wr := []) rfl (by decide) (by decide) (fun r12 _ H locs hw hP hD hS => ?_)
    obtain rfl : r12 = (lI ((x + 1825000) / 3650000)) := hw
    have hP : va_P (dC, dI) vwCl [] H := hP
    have hD : va_D A [] := hD
    refine lv_goto (tgt := 29) hx hb dX9_toCents_15 (by decide) ?_
    rw [hQ]
    refine W.widen (k := 0) (n := 0) (Nat.le_of_ble_eq_true rfl) (Nat.le_of_ble_eq_true rfl) ?_
    exact W.lret (v := (lI ((x + 1825000) / 3650000))) hx hb hr (fun t ht hW => ⟨⟨(lI ((x + 1825000) / 3650000)), (), rfl, (by unfold cnE; first | rw [if_pos (by omega)] | rw [if_neg (by omega)]), by rw [ht]; exact hP.sub [] rfl, by rw [hAe]; exact hD.sub [] (by decide) rfl⟩, hS.F ht⟩) hS.2.2 dX9_toCents_29
set_option maxHeartbeats 4000000 in
set_option maxRecDepth 100000 in
/-- Units.ofCents -/
theorem c_X9_ofCents (l : Launch) (dC : Nat → ClassId) (dI : Nat → Nat → Nat) (k : Nat → ClassId) (x c : Int) (hd : 0 ≤ c ∧ c ≤ 2) (sz : Nat) : Met l yX9_ofCents woX9_ofCents ({ frames := 0, cells := 0, slots := 0, locals := 0 } : Room) (PcW (dC, dI) k [.long (lI x), .int (iI c)] [] sz) (va_Ql (fun (r : Int64) (_ : Unit) => r = lI (x * ceE c)) (QB (dC, dI) [] (fun _ => []) sz) (va_A [] sz)) 0 0 (va_A [] sz) := by
  refine Met.ofW (cc := cX9_ofCents) (maxL := 3) (ret := (some .long)) (by decide) rfl ?_
  intro p e s mI args below meth cO s₁ B hml hv
  obtain ⟨rfl, rfl, hP, hD0, hE⟩ := hv
  have hx := B.exec
  have hb := B.bytes
  have hr := B.returns
  have hts := atoms_spec (ws := woX9_ofCents) B.pre
  have hown : s.vm.findClass RX9 = some mI.cls := findClass_of_methodNamed B.named
  have hlocks := B.notSynchronized
  have hD := hD0.self (sz := s.heap.size)
  generalize hAe : va_A [] s.heap.size = A at hD hE ⊢
  have hA : ∀ q : Nat, s.heap.size ≤ q → A q := fun q h => by rw [← hAe]; exact Or.inr h
  have hS : va_S A s.heap s.heap [] := va_S.rf
  obtain ⟨hK, hNw, hNc, hZs, hAO1, hAO2⟩ := id hE
  have hSF : CallFix p mI cO cX9_ofCents 3 s ([.long (lI x), .int (iI c)] : List Value).toArray woX9_ofCents RX9 := ⟨hx, hb, hml, hown, hts⟩
  have hl := lv_entry ([.long (lI x), .int (iI c)] : List Value) (n := 3) (Nat.le_of_ble_eq_true rfl)
  rw [lg_entry_eq]
  generalize (lg_sl ([.long (lI x), .int (iI c)] : List Value) ++ List.replicate (3 - (lg_sl ([.long (lI x), .int (iI c)] : List Value)).length) Slot.unset).toArray = ls at hl ⊢
  have hl : lv_has ls 3 [(0, .long (lI x)), (2, .int (iI c))] := hl
  refine W_gen (fun Q hQ => ?_)
  change W p l e ({ frames := 0, cells := 0, slots := 0, locals := 0 } : Room) s mI _ below meth cO s.heap [] 0 0 Q _
  have hP : va_P (dC, dI) vwCl [] s.heap := hP
  refine lv_lload_n hx hb dX9_ofCents_0 rfl (lv_at hl 0 rfl) ?_
  refine lv_iload_n hx hb dX9_ofCents_1 rfl (lv_at hl 1 rfl) ?_
  refine q_if_ne (tgt := 11) hx hb dX9_ofCents_2 (by decide) (by omega) (fun c2 => ?_) (fun c2 => ?_)
  · refine q_ldc2 (z := 3600000) hx hb hown (hts (.constantLong RX9 21 (3600000)) (List.mem_cons_of_mem _ (wl_12 (List.mem_of_getElem? (i := 9) rfl)))) dX9_ofCents_11 (by decide) ?_
    refine q_lmul (z := 3600000 * x) hx hb dX9_ofCents_14 (by omega) ?_
    rw [hQ]
    refine W.widen (k := 0) (n := 0) (Nat.le_of_ble_eq_true rfl) (Nat.le_of_ble_eq_true rfl) ?_
    exact W.lret (v := (lI (3600000 * x))) hx hb hr (fun t ht hW => ⟨⟨(lI (3600000 * x)), (), rfl, (by unfold ceE; first | (rw [if_pos (by omega)]; try (congr 1; omega)) | (rw [if_neg (by omega)]; try (congr 1; omega))), by rw [ht]; exact hP.sub [] rfl, by rw [hAe]; exact hD.sub [] (by decide) rfl⟩, hS.F ht⟩) hS.2.2 dX9_ofCents_15
  · refine q_ldc2 (z := 3650000) hx hb hown (hts (.constantLong RX9 11 (3650000)) (List.mem_cons_of_mem _ (wl_12 (List.mem_of_getElem? (i := 7) rfl)))) dX9_ofCents_5 (by decide) ?_
    refine lv_goto (tgt := 14) hx hb dX9_ofCents_8 (by decide) ?_
    refine q_lmul (z := 3650000 * x) hx hb dX9_ofCents_14 (by omega) ?_
    rw [hQ]
    refine W.widen (k := 0) (n := 0) (Nat.le_of_ble_eq_true rfl) (Nat.le_of_ble_eq_true rfl) ?_
    exact W.lret (v := (lI (3650000 * x))) hx hb hr (fun t ht hW => ⟨⟨(lI (3650000 * x)), (), rfl, (by unfold ceE; first | (rw [if_pos (by omega)]; try (congr 1; omega)) | (rw [if_neg (by omega)]; try (congr 1; omega))), by rw [ht]; exact hP.sub [] rfl, by rw [hAe]; exact hD.sub [] (by decide) rfl⟩, hS.F ht⟩) hS.2.2 dX9_ofCents_15
set_option maxHeartbeats 4000000 in
set_option maxRecDepth 100000 in
/-- isWithin -/
theorem c_X10_isWithin (l : Launch) (dC : Nat → ClassId) (dI : Nat → Nat → Nat) (k : Nat → ClassId) (v a b : Int) (hd : -2147483648 ≤ v ∧ v ≤ 2147483647 ∧ -2147483648 ≤ a ∧ a ≤ 2147483647 ∧ -2147483648 ≤ b ∧ b ≤ 2147483647) (sz : Nat) : Met l yX10_isWithin woX10_isWithin ({ frames := 0, cells := 0, slots := 0, locals := 0 } : Room) (PcW (dC, dI) k [.int (iI v), .int (iI a), .int (iI b)] [] sz) (va_Qi (fun (r : Int32) (_ : Unit) => r = iI (wiE v a b)) (QB (dC, dI) [] (fun _ => []) sz) (va_A [] sz)) 0 0 (va_A [] sz) := by
  refine Met.ofW (cc := cX10_isWithin) (maxL := 3) (ret := (some .boolean)) (by decide) rfl ?_
  intro p e s mI args below meth cO s₁ B hml hv
  obtain ⟨rfl, rfl, hP, hD0, hE⟩ := hv
  have hx := B.exec
  have hb := B.bytes
  have hr := B.returns
  have hts := atoms_spec (ws := woX10_isWithin) B.pre
  have hown : s.vm.findClass RX10 = some mI.cls := findClass_of_methodNamed B.named
  have hlocks := B.notSynchronized
  have hD := hD0.self (sz := s.heap.size)
  generalize hAe : va_A [] s.heap.size = A at hD hE ⊢
  have hA : ∀ q : Nat, s.heap.size ≤ q → A q := fun q h => by rw [← hAe]; exact Or.inr h
  have hS : va_S A s.heap s.heap [] := va_S.rf
  obtain ⟨hK, hNw, hNc, hZs, hAO1, hAO2⟩ := id hE
  have hSF : CallFix p mI cO cX10_isWithin 3 s ([.int (iI v), .int (iI a), .int (iI b)] : List Value).toArray woX10_isWithin RX10 := ⟨hx, hb, hml, hown, hts⟩
  have hl := lv_entry ([.int (iI v), .int (iI a), .int (iI b)] : List Value) (n := 3) (Nat.le_of_ble_eq_true rfl)
  rw [lg_entry_eq]
  generalize (lg_sl ([.int (iI v), .int (iI a), .int (iI b)] : List Value) ++ List.replicate (3 - (lg_sl ([.int (iI v), .int (iI a), .int (iI b)] : List Value)).length) Slot.unset).toArray = ls at hl ⊢
  have hl : lv_has ls 3 [(0, .int (iI v)), (1, .int (iI a)), (2, .int (iI b))] := hl
  refine W_gen (fun Q hQ => ?_)
  change W p l e ({ frames := 0, cells := 0, slots := 0, locals := 0 } : Room) s mI _ below meth cO s.heap [] 0 0 Q _
  have hP : va_P (dC, dI) vwCl [] s.heap := hP
  refine lv_iload_n hx hb dX10_isWithin_0 rfl (lv_at hl 0 rfl) ?_
  refine lv_iload_n hx hb dX10_isWithin_1 rfl (lv_at hl 1 rfl) ?_
  refine q_icmp_lt (tgt := 14) hx hb dX10_isWithin_2 (by decide) (by omega) (fun c2 => ?_) (fun c2 => ?_)
  · refine q_iconst hx hb dX10_isWithin_14 ?_
    rw [hQ]
    refine W.widen (k := 0) (n := 0) (Nat.le_of_ble_eq_true rfl) (Nat.le_of_ble_eq_true rfl) ?_
    exact W.zret (v := (iI 0)) hx hb hr (by first | rfl | decide) (fun t ht hW => ⟨⟨(iI 0), (), rfl, (by first | rw [wi1 (by omega)] | rw [wi0 (by omega)]), by rw [ht]; exact hP.sub [] rfl, by rw [hAe]; exact hD.sub [] (by decide) rfl⟩, hS.F ht⟩) hS.2.2 dX10_isWithin_15
  · refine lv_iload_n hx hb dX10_isWithin_5 rfl (lv_at hl 0 rfl) ?_
    refine lv_iload_n hx hb dX10_isWithin_6 rfl (lv_at hl 2 rfl) ?_
    refine q_icmp_gt (tgt := 14) hx hb dX10_isWithin_7 (by decide) (by omega) (fun c7 => ?_) (fun c7 => ?_)
    · refine q_iconst hx hb dX10_isWithin_14 ?_
      rw [hQ]
      refine W.widen (k := 0) (n := 0) (Nat.le_of_ble_eq_true rfl) (Nat.le_of_ble_eq_true rfl) ?_
      exact W.zret (v := (iI 0)) hx hb hr (by first | rfl | decide) (fun t ht hW => ⟨⟨(iI 0), (), rfl, (by first | rw [wi1 (by omega)] | rw [wi0 (by omega)]), by rw [ht]; exact hP.sub [] rfl, by rw [hAe]; exact hD.sub [] (by decide) rfl⟩, hS.F ht⟩) hS.2.2 dX10_isWithin_15
    · refine q_iconst hx hb dX10_isWithin_10 ?_
      refine lv_goto (tgt := 15) hx hb dX10_isWithin_11 (by decide) ?_
      rw [hQ]
      refine W.widen (k := 0) (n := 0) (Nat.le_of_ble_eq_true rfl) (Nat.le_of_ble_eq_true rfl) ?_
      exact W.zret (v := (iI 1)) hx hb hr (by first | rfl | decide) (fun t ht hW => ⟨⟨(iI 1), (), rfl, (by first | rw [wi1 (by omega)] | rw [wi0 (by omega)]), by rw [ht]; exact hP.sub [] rfl, by rw [hAe]; exact hD.sub [] (by decide) rfl⟩, hS.F ht⟩) hS.2.2 dX10_isWithin_15
set_option maxHeartbeats 4000000 in
set_option maxRecDepth 100000 in
/-- refusalIf -/
theorem c_X0_refusalIf (l : Launch) (dC : Nat → ClassId) (dI : Nat → Nat → Nat) (k : Nat → ClassId) (a b : Int) (hd : 0 ≤ a ∧ a ≤ 1 ∧ 0 ≤ b ∧ b ≤ 1) (sz : Nat) : Met l yX0_refusalIf woX0_refusalIf ({ frames := 0, cells := 0, slots := 0, locals := 0 } : Room) (PcW (dC, dI) k [.int (iI a), .int (iI b)] [] sz) (va_Qi (fun (r : Int32) (_ : Unit) => r = iI (if a = 0 then (if b = 0 then 0 else 2) else 1)) (QB (dC, dI) [] (fun _ => []) sz) (va_A [] sz)) 0 0 (va_A [] sz) := by
  refine Met.ofW (cc := cX0_refusalIf) (maxL := 2) (ret := (some .int)) (by decide) rfl ?_
  intro p e s mI args below meth cO s₁ B hml hv
  obtain ⟨rfl, rfl, hP, hD0, hE⟩ := hv
  have hx := B.exec
  have hb := B.bytes
  have hr := B.returns
  have hts := atoms_spec (ws := woX0_refusalIf) B.pre
  have hown : s.vm.findClass RX0 = some mI.cls := findClass_of_methodNamed B.named
  have hlocks := B.notSynchronized
  have hD := hD0.self (sz := s.heap.size)
  generalize hAe : va_A [] s.heap.size = A at hD hE ⊢
  have hA : ∀ q : Nat, s.heap.size ≤ q → A q := fun q h => by rw [← hAe]; exact Or.inr h
  have hS : va_S A s.heap s.heap [] := va_S.rf
  obtain ⟨hK, hNw, hNc, hZs, hAO1, hAO2⟩ := id hE
  have hSF : CallFix p mI cO cX0_refusalIf 2 s ([.int (iI a), .int (iI b)] : List Value).toArray woX0_refusalIf RX0 := ⟨hx, hb, hml, hown, hts⟩
  have hl := lv_entry ([.int (iI a), .int (iI b)] : List Value) (n := 2) (Nat.le_of_ble_eq_true rfl)
  rw [lg_entry_eq]
  generalize (lg_sl ([.int (iI a), .int (iI b)] : List Value) ++ List.replicate (2 - (lg_sl ([.int (iI a), .int (iI b)] : List Value)).length) Slot.unset).toArray = ls at hl ⊢
  have hl : lv_has ls 2 [(0, .int (iI a)), (1, .int (iI b))] := hl
  refine W_gen (fun Q hQ => ?_)
  change W p l e ({ frames := 0, cells := 0, slots := 0, locals := 0 } : Room) s mI _ below meth cO s.heap [] 0 0 Q _
  have hP : va_P (dC, dI) vwCl [] s.heap := hP
  refine lv_iload_n hx hb dX0_refusalIf_0 rfl (lv_at hl 0 rfl) ?_
  refine q_if_eq (tgt := 6) hx hb dX0_refusalIf_1 (by decide) (by omega) (fun c1 => ?_) (fun c1 => ?_)
  · refine lv_iload_n hx hb dX0_refusalIf_6 rfl (lv_at hl 1 rfl) ?_
    refine q_if_eq (tgt := 14) hx hb dX0_refusalIf_7 (by decide) (by omega) (fun c7 => ?_) (fun c7 => ?_)
    · refine q_iconst hx hb dX0_refusalIf_14 ?_
      rw [hQ]
      refine W.widen (k := 0) (n := 0) (Nat.le_of_ble_eq_true rfl) (Nat.le_of_ble_eq_true rfl) ?_
      exact W.iret (v := (iI 0)) hx hb hr (fun t ht hW => ⟨⟨(iI 0), (), rfl, (by first | rw [if_neg (by omega)] | rw [if_pos (by omega), if_neg (by omega)] | rw [if_pos (by omega), if_pos (by omega)]), by rw [ht]; exact hP.sub [] rfl, by rw [hAe]; exact hD.sub [] (by decide) rfl⟩, hS.F ht⟩) hS.2.2 dX0_refusalIf_15
    · refine q_iconst hx hb dX0_refusalIf_10 ?_
      refine lv_goto (tgt := 15) hx hb dX0_refusalIf_11 (by decide) ?_
      rw [hQ]
      refine W.widen (k := 0) (n := 0) (Nat.le_of_ble_eq_true rfl) (Nat.le_of_ble_eq_true rfl) ?_
      exact W.iret (v := (iI 2)) hx hb hr (fun t ht hW => ⟨⟨(iI 2), (), rfl, (by first | rw [if_neg (by omega)] | rw [if_pos (by omega), if_neg (by omega)] | rw [if_pos (by omega), if_pos (by omega)]), by rw [ht]; exact hP.sub [] rfl, by rw [hAe]; exact hD.sub [] (by decide) rfl⟩, hS.F ht⟩) hS.2.2 dX0_refusalIf_15
  · refine q_iconst hx hb dX0_refusalIf_4 ?_
    rw [hQ]
    refine W.widen (k := 0) (n := 0) (Nat.le_of_ble_eq_true rfl) (Nat.le_of_ble_eq_true rfl) ?_
    exact W.iret (v := (iI 1)) hx hb hr (fun t ht hW => ⟨⟨(iI 1), (), rfl, (by first | rw [if_neg (by omega)] | rw [if_pos (by omega), if_neg (by omega)] | rw [if_pos (by omega), if_pos (by omega)]), by rw [ht]; exact hP.sub [] rfl, by rw [hAe]; exact hD.sub [] (by decide) rfl⟩, hS.F ht⟩) hS.2.2 dX0_refusalIf_5

/-! the calendar and the rounding, as the reference has them -/
def mlE (m : Int) : Int := if m = 1 then 28 else if m = 3 ∨ m = 5 ∨ m = 8 ∨ m = 10 then 30 else 31
def c2E (w d : Int) : Int := if w < 2 then d else 360 * (d / 365) + 30 * moE (d % 365) + min (d % 365 - msE (moE (d % 365)) + 1) 30
theorem ml_all : ∀ n : Nat, n < 12 → (msE (n : Int) + mlE (n : Int) = msE ((n : Int) + 1) ∧ 28 ≤ mlE (n : Int) ∧ mlE (n : Int) ≤ 31) := by decide +kernel
theorem mls {m : Int} (h : 0 ≤ m ∧ m < 12) : msE m + mlE m = msE (m + 1) ∧ 28 ≤ mlE m ∧ mlE m ≤ 31 := by
  have h1 := ml_all m.toNat (by omega)
  rw [show ((m.toNat : Nat) : Int) = m by omega] at h1
  exact h1
theorem msE_rng {m : Int} (h : 0 ≤ m ∧ m ≤ 12) : 0 ≤ msE m ∧ msE m ≤ 365 := by
  have h0 := msF_all m.toNat
  unfold msE
  split <;> omega
theorem ms_mono_all : ∀ i : Nat, i < 12 → ∀ j : Nat, j < 12 → i < j → msE ((i : Int) + 1) ≤ msE (j : Int) := by decide +kernel
theorem mo_step {y i : Int} (hy : 0 ≤ y ∧ y < 365) (hi : 0 ≤ i ∧ i ≤ moE y) : (i = moE y ∧ y < msE (i + 1)) ∨ (i + 1 ≤ moE y ∧ msE (i + 1) ≤ y) := by
  have hc := cal hy
  by_cases h : i = moE y
  · exact Or.inl ⟨h, by rw [h]; omega⟩
  · have h1 := ms_mono_all i.toNat (by omega) (moE y).toNat (by omega) (by omega)
    rw [show ((i.toNat : Nat) : Int) = i by omega, show (((moE y).toNat : Nat) : Int) = moE y by omega] at h1
    exact Or.inr ⟨by omega, by omega⟩
theorem c2_cnt {w f t : Int} (h : 0 ≤ w ∧ w ≤ 2) : c2E w t - c2E w f = cntE w f t := by
  unfold c2E cntE
  by_cases h1 : w = 2
  · rw [if_neg (by omega), if_neg (by omega), if_pos h1]
    unfold in3
    omega
  · rw [if_pos (by omega), if_pos (by omega), if_neg h1]
theorem ce_or (w : Int) : (w = 0 ∧ ceE w = 3650000) ∨ (w ≠ 0 ∧ ceE w = 3600000) := by
  unfold ceE
  by_cases h : w = 0
  · exact Or.inl ⟨h, if_pos h⟩
  · exact Or.inr ⟨h, if_neg h⟩
theorem cn_two {w x : Int} : (2 * x + ceE w) / (2 * ceE w) = cnE w x := by
  unfold cnE
  rcases ce_or w with ⟨h1, h2⟩ | ⟨h1, h2⟩
  · rw [if_pos h1, h2]; omega
  · rw [if_neg h1, h2]; omega

set_option maxHeartbeats 4000000 in
set_option maxRecDepth 100000 in
/-- the reference: monthLength -/
theorem c_X11_monthLength (l : Launch) (dC : Nat → ClassId) (dI : Nat → Nat → Nat) (k : Nat → ClassId) (xm : Int) (hm : 0 ≤ xm ∧ xm < 12) (sz : Nat) : Met l yX11_monthLength woX11_monthLength ({ frames := 0, cells := 0, slots := 0, locals := 0 } : Room) (PcW (dC, dI) k [.int (iI xm)] [] sz) (va_Qi (fun (r : Int32) (_ : Unit) => r = iI (mlE xm)) (QB (dC, dI) [] (fun _ => []) sz) (va_A [] sz)) 0 0 (va_A [] sz) := by
  refine Met.ofW (cc := cX11_monthLength) (maxL := 1) (ret := (some .int)) (by decide) rfl ?_
  intro p e s mI args below meth cO s₁ B hml hv
  obtain ⟨rfl, rfl, hP, hD0, hE⟩ := hv
  have hx := B.exec
  have hb := B.bytes
  have hr := B.returns
  have hts := atoms_spec (ws := woX11_monthLength) B.pre
  have hown : s.vm.findClass RX11 = some mI.cls := findClass_of_methodNamed B.named
  have hlocks := B.notSynchronized
  have hD := hD0.self (sz := s.heap.size)
  generalize hAe : va_A [] s.heap.size = A at hD hE ⊢
  have hA : ∀ q : Nat, s.heap.size ≤ q → A q := fun q h => by rw [← hAe]; exact Or.inr h
  have hS : va_S A s.heap s.heap [] := va_S.rf
  obtain ⟨hK, hNw, hNc, hZs, hAO1, hAO2⟩ := id hE
  have hSF : CallFix p mI cO cX11_monthLength 1 s ([.int (iI xm)] : List Value).toArray woX11_monthLength RX11 := ⟨hx, hb, hml, hown, hts⟩
  have hl := lv_entry ([.int (iI xm)] : List Value) (n := 1) (Nat.le_of_ble_eq_true rfl)
  rw [lg_entry_eq]
  generalize (lg_sl ([.int (iI xm)] : List Value) ++ List.replicate (1 - (lg_sl ([.int (iI xm)] : List Value)).length) Slot.unset).toArray = ls at hl ⊢
  have hl : lv_has ls 1 [(0, .int (iI xm))] := hl
  refine W_gen (fun Q hQ => ?_)
  change W p l e ({ frames := 0, cells := 0, slots := 0, locals := 0 } : Room) s mI _ below meth cO s.heap [] 0 0 Q _
  have hP : va_P (dC, dI) vwCl [] s.heap := hP
  refine lv_iload_n hx hb dX11_monthLength_0 rfl (lv_at hl 0 rfl) ?_
  refine q_iconst hx hb dX11_monthLength_1 ?_
  refine q_icmp_ne (tgt := 10) hx hb dX11_monthLength_2 (by decide) (by omega) (fun c2 => ?_) (fun c2 => ?_)
  · refine lv_iload_n hx hb dX11_monthLength_10 rfl (lv_at hl 0 rfl) ?_
    refine q_iconst hx hb dX11_monthLength_11 ?_
    refine q_icmp_eq (tgt := 32) hx hb dX11_monthLength_12 (by decide) (by omega) (fun c12 => ?_) (fun c12 => ?_)
    · refine q_bipush (z := 30) hx hb dX11_monthLength_32 (by decide) ?_
      refine lv_goto (tgt := 39) hx hb dX11_monthLength_34 (by decide) ?_
      rw [hQ]
      refine W.widen (k := 0) (n := 0) (Nat.le_of_ble_eq_true rfl) (Nat.le_of_ble_eq_true rfl) ?_
      exact W.iret (v := (iI 30)) hx hb hr (fun t ht hW => ⟨⟨(iI 30), (), rfl, (by unfold mlE; first | rw [if_pos (by omega)] | rw [if_neg (by omega), if_pos (by omega)] | rw [if_neg (by omega), if_neg (by omega)]), by rw [ht]; exact hP.sub [] rfl, by rw [hAe]; exact hD.sub [] (by decide) rfl⟩, hS.F ht⟩) hS.2.2 dX11_monthLength_39
    · refine lv_iload_n hx hb dX11_monthLength_15 rfl (lv_at hl 0 rfl) ?_
      refine q_iconst hx hb dX11_monthLength_16 ?_
      refine q_icmp_eq (tgt := 32) hx hb dX11_monthLength_17 (by decide) (by omega) (fun c17 => ?_) (fun c17 => ?_)
      · refine q_bipush (z := 30) hx hb dX11_monthLength_32 (by decide) ?_
        refine lv_goto (tgt := 39) hx hb dX11_monthLength_34 (by decide) ?_
        rw [hQ]
        refine W.widen (k := 0) (n := 0) (Nat.le_of_ble_eq_true rfl) (Nat.le_of_ble_eq_true rfl) ?_
        exact W.iret (v := (iI 30)) hx hb hr (fun t ht hW => ⟨⟨(iI 30), (), rfl, (by unfold mlE; first | rw [if_pos (by omega)] | rw [if_neg (by omega), if_pos (by omega)] | rw [if_neg (by omega), if_neg (by omega)]), by rw [ht]; exact hP.sub [] rfl, by rw [hAe]; exact hD.sub [] (by decide) rfl⟩, hS.F ht⟩) hS.2.2 dX11_monthLength_39
      · refine lv_iload_n hx hb dX11_monthLength_20 rfl (lv_at hl 0 rfl) ?_
        refine q_bipush (z := 8) hx hb dX11_monthLength_21 (by decide) ?_
        refine q_icmp_eq (tgt := 32) hx hb dX11_monthLength_23 (by decide) (by omega) (fun c23 => ?_) (fun c23 => ?_)
        · refine q_bipush (z := 30) hx hb dX11_monthLength_32 (by decide) ?_
          refine lv_goto (tgt := 39) hx hb dX11_monthLength_34 (by decide) ?_
          rw [hQ]
          refine W.widen (k := 0) (n := 0) (Nat.le_of_ble_eq_true rfl) (Nat.le_of_ble_eq_true rfl) ?_
          exact W.iret (v := (iI 30)) hx hb hr (fun t ht hW => ⟨⟨(iI 30), (), rfl, (by unfold mlE; first | rw [if_pos (by omega)] | rw [if_neg (by omega), if_pos (by omega)] | rw [if_neg (by omega), if_neg (by omega)]), by rw [ht]; exact hP.sub [] rfl, by rw [hAe]; exact hD.sub [] (by decide) rfl⟩, hS.F ht⟩) hS.2.2 dX11_monthLength_39
        · refine lv_iload_n hx hb dX11_monthLength_26 rfl (lv_at hl 0 rfl) ?_
          refine q_bipush (z := 10) hx hb dX11_monthLength_27 (by decide) ?_
          refine q_icmp_ne (tgt := 37) hx hb dX11_monthLength_29 (by decide) (by omega) (fun c29 => ?_) (fun c29 => ?_)
          · refine q_bipush (z := 31) hx hb dX11_monthLength_37 (by decide) ?_
            rw [hQ]
            refine W.widen (k := 0) (n := 0) (Nat.le_of_ble_eq_true rfl) (Nat.le_of_ble_eq_true rfl) ?_
            exact W.iret (v := (iI 31)) hx hb hr (fun t ht hW => ⟨⟨(iI 31), (), rfl, (by unfold mlE; first | rw [if_pos (by omega)] | rw [if_neg (by omega), if_pos (by omega)] | rw [if_neg (by omega), if_neg (by omega)]), by rw [ht]; exact hP.sub [] rfl, by rw [hAe]; exact hD.sub [] (by decide) rfl⟩, hS.F ht⟩) hS.2.2 dX11_monthLength_39
          · refine q_bipush (z := 30) hx hb dX11_monthLength_32 (by decide) ?_
            refine lv_goto (tgt := 39) hx hb dX11_monthLength_34 (by decide) ?_
            rw [hQ]
            refine W.widen (k := 0) (n := 0) (Nat.le_of_ble_eq_true rfl) (Nat.le_of_ble_eq_true rfl) ?_
            exact W.iret (v := (iI 30)) hx hb hr (fun t ht hW => ⟨⟨(iI 30), (), rfl, (by unfold mlE; first | rw [if_pos (by omega)] | rw [if_neg (by omega), if_pos (by omega)] | rw [if_neg (by omega), if_neg (by omega)]), by rw [ht]; exact hP.sub [] rfl, by rw [hAe]; exact hD.sub [] (by decide) rfl⟩, hS.F ht⟩) hS.2.2 dX11_monthLength_39
  · refine q_bipush (z := 28) hx hb dX11_monthLength_5 (by decide) ?_
    refine lv_goto (tgt := 39) hx hb dX11_monthLength_7 (by decide) ?_
    rw [hQ]
    refine W.widen (k := 0) (n := 0) (Nat.le_of_ble_eq_true rfl) (Nat.le_of_ble_eq_true rfl) ?_
    exact W.iret (v := (iI 28)) hx hb hr (fun t ht hW => ⟨⟨(iI 28), (), rfl, (by unfold mlE; first | rw [if_pos (by omega)] | rw [if_neg (by omega), if_pos (by omega)] | rw [if_neg (by omega), if_neg (by omega)]), by rw [ht]; exact hP.sub [] rfl, by rw [hAe]; exact hD.sub [] (by decide) rfl⟩, hS.F ht⟩) hS.2.2 dX11_monthLength_39
set_option maxHeartbeats 4000000 in
set_option maxRecDepth 100000 in
/-- the reference: monthStart -/
theorem c_X11_monthStart (l : Launch) (dC : Nat → ClassId) (dI : Nat → Nat → Nat) (k : Nat → ClassId) (xm : Int) (hm : 0 ≤ xm ∧ xm ≤ 12) (sz : Nat) : Met l yX11_monthStart woX11_monthStart ({ frames := 1, cells := 0, slots := 0, locals := 20 } : Room) (PcW (dC, dI) k [.int (iI xm)] [] sz) (va_Qi (fun (r : Int32) (_ : Unit) => r = iI (msE xm)) (QB (dC, dI) [] (fun _ => []) sz) (va_A [] sz)) 0 0 (va_A [] sz) := by
  refine Met.ofW (cc := cX11_monthStart) (maxL := 3) (ret := (some .int)) (by decide) rfl ?_
  intro p e s mI args below meth cO s₁ B hml hv
  obtain ⟨rfl, rfl, hP, hD0, hE⟩ := hv
  have hx := B.exec
  have hb := B.bytes
  have hr := B.returns
  have hts := atoms_spec (ws := woX11_monthStart) B.pre
  have hown : s.vm.findClass RX11 = some mI.cls := findClass_of_methodNamed B.named
  have hlocks := B.notSynchronized
  have hD := hD0.self (sz := s.heap.size)
  generalize hAe : va_A [] s.heap.size = A at hD hE ⊢
  have hA : ∀ q : Nat, s.heap.size ≤ q → A q := fun q h => by rw [← hAe]; exact Or.inr h
  have hS : va_S A s.heap s.heap [] := va_S.rf
  obtain ⟨hK, hNw, hNc, hZs, hAO1, hAO2⟩ := id hE
  have hSF : CallFix p mI cO cX11_monthStart 3 s ([.int (iI xm)] : List Value).toArray woX11_monthStart RX11 := ⟨hx, hb, hml, hown, hts⟩
  have hl := lv_entry ([.int (iI xm)] : List Value) (n := 3) (Nat.le_of_ble_eq_true rfl)
  rw [lg_entry_eq]
  generalize (lg_sl ([.int (iI xm)] : List Value) ++ List.replicate (3 - (lg_sl ([.int (iI xm)] : List Value)).length) Slot.unset).toArray = ls at hl ⊢
  have hl : lv_has ls 3 [(0, .int (iI xm))] := hl
  refine W_gen (fun Q hQ => ?_)
  change W p l e ({ frames := 1, cells := 0, slots := 0, locals := 20 } : Room) s mI _ below meth cO s.heap [] 0 0 Q _
  have hP : va_P (dC, dI) vwCl [] s.heap := hP
  refine q_iconst hx hb dX11_monthStart_0 ?_
  refine lv_istore_n (lv' := [(1, .int (iI 0)), (0, .int (iI xm))]) hx hb dX11_monthStart_1 rfl hl (by decide) rfl (fun ls hl => ?_)
  refine q_iconst hx hb dX11_monthStart_2 ?_
  refine lv_istore_n (lv' := [(2, .int (iI 0)), (1, .int (iI 0)), (0, .int (iI xm))]) hx hb dX11_monthStart_3 rfl hl (by decide) rfl (fun ls hl => ?_)
  have LOOP_4 : ∀ (n : Nat) (i : Int), (xm - i < (n : Int)) → (0 ≤ i ∧ i ≤ xm) → ∀ (H : Heap) (locs : List Loc), va_P (dC, dI) vwCl [] H → va_D A [] → va_S A s.heap H locs → ∀ ls : Array Slot, lv_has ls 3 [(2, .int (iI i)), (1, .int (iI (msE i))), (0, .int (iI xm))] → W p l e ({ frames := 1, cells := 0, slots := 0, locals := 20 } : Room) s mI ([.int (iI xm)] : List Value).toArray below meth cO H locs 0 0 Q (F0 mI 4 ls []) := by
    intro n
    induction n with
    | zero => intro i hn hi; exact absurd hn (by omega)
    | succ n ih_4 =>
      intro i hn hi H locs hP hD hS ls hl
      refine lv_iload_n hx hb dX11_monthStart_4 rfl (lv_at hl 0 rfl) ?_
      refine lv_iload_n hx hb dX11_monthStart_5 rfl (lv_at hl 2 rfl) ?_
      refine q_icmp_ge (tgt := 22) hx hb dX11_monthStart_6 (by decide) (by omega) (fun c6 => ?_) (fun c6 => ?_)
      · refine lv_iload_n hx hb dX11_monthStart_22 rfl (lv_at hl 1 rfl) ?_
        rw [hQ]
        refine W.widen (k := 0) (n := 0) (Nat.le_of_ble_eq_true rfl) (Nat.le_of_ble_eq_true rfl) ?_
        exact W.iret (v := (iI (msE i))) hx hb hr (fun t ht hW => ⟨⟨(iI (msE i)), (), rfl, (by congr 2; omega), by rw [ht]; exact hP.sub [] rfl, by rw [hAe]; exact hD.sub [] (by decide) rfl⟩, hS.F ht⟩) hS.2.2 dX11_monthStart_23
      · refine lv_iload_n hx hb dX11_monthStart_9 rfl (lv_at hl 1 rfl) ?_
        refine lv_iload_n hx hb dX11_monthStart_10 rfl (lv_at hl 0 rfl) ?_
        refine ki (va_runS (As := [.int (iI i)]) (rest := [.int (iI (msE i))]) hSF ((c_X11_monthLength l dC dI k i (by omega)) H.size) (va_cwS 1 hts gX11_monthStart_X11_monthLength rfl rfl rfl (by decide +kernel) ⟨Nat.le_of_ble_eq_true rfl, Nat.le_of_ble_eq_true rfl⟩) (preS hP hD hE hS hA [] rfl (by decide)) rfl rfl hl.1 rfl (lv_room (Nat.le_of_ble_eq_true rfl)) dX11_monthStart_11 ⟨Nat.le_of_ble_eq_true rfl, Nat.le_of_ble_eq_true rfl⟩) hP hD hS hA [] [] rfl (wr := []) rfl (by decide) (by decide) (fun r11 _ H locs hw hP hD hS => ?_)
        obtain rfl : r11 = (iI (mlE i)) := hw
        have hP : va_P (dC, dI) vwCl [] H := hP
        have hD : va_D A [] := hD
        refine q_iadd (z := (msE (i + 1))) hx hb dX11_monthStart_14 (mls (by omega)).1 ?_
        refine lv_istore_n (lv' := [(1, .int (iI (msE (i + 1)))), (2, .int (iI i)), (0, .int (iI xm))]) hx hb dX11_monthStart_15 rfl hl (by decide) rfl (fun ls hl => ?_)
        refine lv_iinc (v := iI (i + 1)) (lv' := [(2, .int (iI (i + 1))), (1, .int (iI (msE (i + 1)))), (0, .int (iI xm))]) hx hb dX11_monthStart_16 hl (k := 1) rfl (by show iI _ + iI _ = _; rw [iI_add]; try (first | rfl | (congr 1; omega))) (by decide) rfl (fun ls hl => ?_)
        refine lv_goto (tgt := 4) hx hb dX11_monthStart_19 (by decide) ?_
        exact ih_4 (i + 1) (by omega) (by omega) _ _ (hP.sub [] rfl) (hD.sub [] (by decide) rfl) hS ls (lv_sub hl [0, 1, 2] rfl)
  exact LOOP_4 (xm.toNat + 1) (0) (by omega) (by omega) _ _ (hP.sub [] rfl) (hD.sub [] (by decide) rfl) hS ls (lv_sub hl [0, 1, 2] rfl)
set_option maxHeartbeats 4000000 in
set_option maxRecDepth 100000 in
/-- the reference: monthOf -/
theorem c_X11_monthOf (l : Launch) (dC : Nat → ClassId) (dI : Nat → Nat → Nat) (k : Nat → ClassId) (xd : Int) (hd : 0 ≤ xd ∧ xd ≤ 100000) (sz : Nat) : Met l yX11_monthOf woX11_monthOf ({ frames := 2, cells := 0, slots := 0, locals := 42 } : Room) (PcW (dC, dI) k [.int (iI xd)] [] sz) (va_Qi (fun (r : Int32) (_ : Unit) => r = iI (moE (xd % 365))) (QB (dC, dI) [] (fun _ => []) sz) (va_A [] sz)) 0 0 (va_A [] sz) := by
  refine Met.ofW (cc := cX11_monthOf) (maxL := 2) (ret := (some .int)) (by decide) rfl ?_
  intro p e s mI args below meth cO s₁ B hml hv
  obtain ⟨rfl, rfl, hP, hD0, hE⟩ := hv
  have hx := B.exec
  have hb := B.bytes
  have hr := B.returns
  have hts := atoms_spec (ws := woX11_monthOf) B.pre
  have hown : s.vm.findClass RX11 = some mI.cls := findClass_of_methodNamed B.named
  have hlocks := B.notSynchronized
  have hD := hD0.self (sz := s.heap.size)
  generalize hAe : va_A [] s.heap.size = A at hD hE ⊢
  have hA : ∀ q : Nat, s.heap.size ≤ q → A q := fun q h => by rw [← hAe]; exact Or.inr h
  have hS : va_S A s.heap s.heap [] := va_S.rf
  obtain ⟨hK, hNw, hNc, hZs, hAO1, hAO2⟩ := id hE
  have hSF : CallFix p mI cO cX11_monthOf 2 s ([.int (iI xd)] : List Value).toArray woX11_monthOf RX11 := ⟨hx, hb, hml, hown, hts⟩
  have hl := lv_entry ([.int (iI xd)] : List Value) (n := 2) (Nat.le_of_ble_eq_true rfl)
  rw [lg_entry_eq]
  generalize (lg_sl ([.int (iI xd)] : List Value) ++ List.replicate (2 - (lg_sl ([.int (iI xd)] : List Value)).length) Slot.unset).toArray = ls at hl ⊢
  have hl : lv_has ls 2 [(0, .int (iI xd))] := hl
  refine W_gen (fun Q hQ => ?_)
  change W p l e ({ frames := 2, cells := 0, slots := 0, locals := 42 } : Room) s mI _ below meth cO s.heap [] 0 0 Q _
  have hP : va_P (dC, dI) vwCl [] s.heap := hP
  have hc := cal (y := xd % 365) (by omega)
  refine q_iconst hx hb dX11_monthOf_0 ?_
  refine lv_istore_n (lv' := [(1, .int (iI 0)), (0, .int (iI xd))]) hx hb dX11_monthOf_1 rfl hl (by decide) rfl (fun ls hl => ?_)
  have LOOP_2 : ∀ (n : Nat) (i : Int), (11 - i < (n : Int)) → (0 ≤ i ∧ i ≤ moE (xd % 365)) → ∀ (H : Heap) (locs : List Loc), va_P (dC, dI) vwCl [] H → va_D A [] → va_S A s.heap H locs → ∀ ls : Array Slot, lv_has ls 2 [(1, .int (iI i)), (0, .int (iI xd))] → W p l e ({ frames := 2, cells := 0, slots := 0, locals := 42 } : Room) s mI ([.int (iI xd)] : List Value).toArray below meth cO H locs 0 0 Q (F0 mI 2 ls []) := by
    intro n
    induction n with
    | zero => intro i hn hi; exact absurd hn (by omega)
    | succ n ih_2 =>
      intro i hn hi H locs hP hD hS ls hl
      have hst := mo_step (y := xd % 365) (i := i) (by omega) hi
      have hr9 := msE_rng (m := i + 1) (by omega)
      refine lv_iload_n hx hb dX11_monthOf_2 rfl (lv_at hl 0 rfl) ?_
      refine q_bipush (z := 11) hx hb dX11_monthOf_3 (by decide) ?_
      refine q_icmp_ge (tgt := 28) hx hb dX11_monthOf_5 (by decide) (by omega) (fun c5 => ?_) (fun c5 => ?_)
      · refine lv_iload_n hx hb dX11_monthOf_28 rfl (lv_at hl 0 rfl) ?_
        rw [hQ]
        refine W.widen (k := 0) (n := 0) (Nat.le_of_ble_eq_true rfl) (Nat.le_of_ble_eq_true rfl) ?_
        exact W.iret (v := (iI i)) hx hb hr (fun t ht hW => ⟨⟨(iI i), (), rfl, (by congr 1; omega), by rw [ht]; exact hP.sub [] rfl, by rw [hAe]; exact hD.sub [] (by decide) rfl⟩, hS.F ht⟩) hS.2.2 dX11_monthOf_29
      · refine lv_iload_n hx hb dX11_monthOf_8 rfl (lv_at hl 0 rfl) ?_
        refine q_iconst hx hb dX11_monthOf_9 ?_
        refine q_iadd (z := i + 1) hx hb dX11_monthOf_10 (by omega) ?_
        refine ki (va_runS (As := [.int (iI (i + 1))]) (rest := []) hSF ((c_X11_monthStart l dC dI k (i + 1) (by omega)) H.size) (va_cwS 1 hts gX11_monthOf_X11_monthStart rfl rfl rfl (by decide +kernel) ⟨Nat.le_of_ble_eq_true rfl, Nat.le_of_ble_eq_true rfl⟩) (preS hP hD hE hS hA [] rfl (by decide)) rfl rfl hl.1 rfl (lv_room (Nat.le_of_ble_eq_true rfl)) dX11_monthOf_11 ⟨Nat.le_of_ble_eq_true rfl, Nat.le_of_ble_eq_true rfl⟩) hP hD hS hA [] [] rfl (wr := []) rfl (by decide) (by decide) (fun r11 _ H locs hw hP hD hS => ?_)
        obtain rfl : r11 = (iI (msE (i + 1))) := hw
        have hP : va_P (dC, dI) vwCl [] H := hP
        have hD : va_D A [] := hD
        refine lv_iload_n hx hb dX11_monthOf_14 rfl (lv_at hl 1 rfl) ?_
        refine q_sipush (z := 365) hx hb dX11_monthOf_15 (by decide) ?_
        refine q_irem (z := (xd % 365)) hx hb dX11_monthOf_18 (by omega) rfl ?_
        refine q_icmp_gt (tgt := 28) hx hb dX11_monthOf_19 (by decide) (by omega) (fun c19 => ?_) (fun c19 => ?_)
        · refine lv_iload_n hx hb dX11_monthOf_28 rfl (lv_at hl 0 rfl) ?_
          rw [hQ]
          refine W.widen (k := 0) (n := 0) (Nat.le_of_ble_eq_true rfl) (Nat.le_of_ble_eq_true rfl) ?_
          exact W.iret (v := (iI i)) hx hb hr (fun t ht hW => ⟨⟨(iI i), (), rfl, (by congr 1; omega), by rw [ht]; exact hP.sub [] rfl, by rw [hAe]; exact hD.sub [] (by decide) rfl⟩, hS.F ht⟩) hS.2.2 dX11_monthOf_29
        · refine lv_iinc (v := iI (i + 1)) (lv' := [(1, .int (iI (i + 1))), (0, .int (iI xd))]) hx hb dX11_monthOf_22 hl (k := 0) rfl (by show iI _ + iI _ = _; rw [iI_add]; try (first | rfl | (congr 1; omega))) (by decide) rfl (fun ls hl => ?_)
          refine lv_goto (tgt := 2) hx hb dX11_monthOf_25 (by decide) ?_
          exact ih_2 (i + 1) (by omega) (by omega) _ _ (hP.sub [] rfl) (hD.sub [] (by decide) rfl) hS ls (lv_sub hl [0, 1] rfl)
  exact LOOP_2 (12) (0) (by omega) (by omega) _ _ (hP.sub [] rfl) (hD.sub [] (by decide) rfl) hS ls (lv_sub hl [0, 1] rfl)
set_option maxHeartbeats 4000000 in
set_option maxRecDepth 100000 in
/-- the reference: numberOf -/
theorem c_X11_numberOf (l : Launch) (dC : Nat → ClassId) (dI : Nat → Nat → Nat) (k : Nat → ClassId) (xd : Int) (hd : 0 ≤ xd ∧ xd ≤ 100000) (sz : Nat) : Met l yX11_numberOf woX11_numberOf ({ frames := 3, cells := 0, slots := 0, locals := 63 } : Room) (PcW (dC, dI) k [.int (iI xd)] [] sz) (va_Qi (fun (r : Int32) (_ : Unit) => r = iI (xd % 365 - msE (moE (xd % 365)) + 1)) (QB (dC, dI) [] (fun _ => []) sz) (va_A [] sz)) 0 0 (va_A [] sz) := by
  refine Met.ofW (cc := cX11_numberOf) (maxL := 1) (ret := (some .int)) (by decide) rfl ?_
  intro p e s mI args below meth cO s₁ B hml hv
  obtain ⟨rfl, rfl, hP, hD0, hE⟩ := hv
  have hx := B.exec
  have hb := B.bytes
  have hr := B.returns
  have hts := atoms_spec (ws := woX11_numberOf) B.pre
  have hown : s.vm.findClass RX11 = some mI.cls := findClass_of_methodNamed B.named
  have hlocks := B.notSynchronized
  have hD := hD0.self (sz := s.heap.size)
  generalize hAe : va_A [] s.heap.size = A at hD hE ⊢
  have hA : ∀ q : Nat, s.heap.size ≤ q → A q := fun q h => by rw [← hAe]; exact Or.inr h
  have hS : va_S A s.heap s.heap [] := va_S.rf
  obtain ⟨hK, hNw, hNc, hZs, hAO1, hAO2⟩ := id hE
  have hSF : CallFix p mI cO cX11_numberOf 1 s ([.int (iI xd)] : List Value).toArray woX11_numberOf RX11 := ⟨hx, hb, hml, hown, hts⟩
  have hl := lv_entry ([.int (iI xd)] : List Value) (n := 1) (Nat.le_of_ble_eq_true rfl)
  rw [lg_entry_eq]
  generalize (lg_sl ([.int (iI xd)] : List Value) ++ List.replicate (1 - (lg_sl ([.int (iI xd)] : List Value)).length) Slot.unset).toArray = ls at hl ⊢
  have hl : lv_has ls 1 [(0, .int (iI xd))] := hl
  refine W_gen (fun Q hQ => ?_)
  change W p l e ({ frames := 3, cells := 0, slots := 0, locals := 63 } : Room) s mI _ below meth cO s.heap [] 0 0 Q _
  have hP : va_P (dC, dI) vwCl [] s.heap := hP
  have hc := cal (y := xd % 365) (by omega)
  refine lv_iload_n hx hb dX11_numberOf_0 rfl (lv_at hl 0 rfl) ?_
  refine q_sipush (z := 365) hx hb dX11_numberOf_1 (by decide) ?_
  refine q_irem (z := (xd % 365)) hx hb dX11_numberOf_4 (by omega) rfl ?_
  refine lv_iload_n hx hb dX11_numberOf_5 rfl (lv_at hl 0 rfl) ?_
  refine ki (va_runS (As := [.int (iI xd)]) (rest := [.int (iI (xd % 365))]) hSF ((c_X11_monthOf l dC dI k xd (by omega)) s.heap.size) (va_cwS 1 hts gX11_numberOf_X11_monthOf rfl rfl rfl (by decide +kernel) ⟨Nat.le_of_ble_eq_true rfl, Nat.le_of_ble_eq_true rfl⟩) (preS hP hD hE hS hA [] rfl (by decide)) rfl rfl hl.1 rfl (lv_room (Nat.le_of_ble_eq_true rfl)) dX11_numberOf_6 ⟨Nat.le_of_ble_eq_true rfl, Nat.le_of_ble_eq_true rfl⟩) hP hD hS hA [] [] rfl (wr := []) rfl (by decide) (by decide) (fun r6 _ H locs hw hP hD hS => ?_)
  obtain rfl : r6 = (iI (moE (xd % 365))) := hw
  have hP : va_P (dC, dI) vwCl [] H := hP
  have hD : va_D A [] := hD
  refine ki (va_runS (As := [.int (iI (moE (xd % 365)))]) (rest := [.int (iI (xd % 365))]) hSF ((c_X11_monthStart l dC dI k (moE (xd % 365)) (by omega)) H.size) (va_cwS 1 hts gX11_numberOf_X11_monthStart rfl rfl rfl (by decide +kernel) ⟨Nat.le_of_ble_eq_true rfl, Nat.le_of_ble_eq_true rfl⟩) (preS hP hD hE hS hA [] rfl (by decide)) rfl rfl hl.1 rfl (lv_room (Nat.le_of_ble_eq_true rfl)) dX11_numberOf_9 ⟨Nat.le_of_ble_eq_true rfl, Nat.le_of_ble_eq_true rfl⟩) hP hD hS hA [] [] rfl (wr := []) rfl (by decide) (by decide) (fun r9 _ H locs hw hP hD hS => ?_)
  obtain rfl : r9 = (iI (msE (moE (xd % 365)))) := hw
  have hP : va_P (dC, dI) vwCl [] H := hP
  have hD : va_D A [] := hD
  refine q_isub (z := (xd % 365) - (msE (moE (xd % 365)))) hx hb dX11_numberOf_12 (by omega) ?_
  refine q_iconst hx hb dX11_numberOf_13 ?_
  refine q_iadd (z := (xd % 365) - (msE (moE (xd % 365))) + 1) hx hb dX11_numberOf_14 (by omega) ?_
  rw [hQ]
  refine W.widen (k := 0) (n := 0) (Nat.le_of_ble_eq_true rfl) (Nat.le_of_ble_eq_true rfl) ?_
  exact W.iret (v := (iI ((xd % 365) - (msE (moE (xd % 365))) + 1))) hx hb hr (fun t ht hW => ⟨⟨(iI ((xd % 365) - (msE (moE (xd % 365))) + 1)), (), rfl, rfl, by rw [ht]; exact hP.sub [] rfl, by rw [hAe]; exact hD.sub [] (by decide) rfl⟩, hS.F ht⟩) hS.2.2 dX11_numberOf_15
set_option maxHeartbeats 4000000 in
set_option maxRecDepth 100000 in
/-- the reference: monthsAfter, from day 0 -/
theorem c_X11_monthsAfter (l : Launch) (dC : Nat → ClassId) (dI : Nat → Nat → Nat) (k : Nat → ClassId) (xn : Int) (hn : 0 ≤ xn ∧ xn ≤ 61) (sz : Nat) : Met l yX11_monthsAfter woX11_monthsAfter ({ frames := 4, cells := 0, slots := 0, locals := 83 } : Room) (PcW (dC, dI) k [.int (iI 0), .int (iI xn)] [] sz) (va_Qi (fun (r : Int32) (_ : Unit) => r = iI (ddE xn)) (QB (dC, dI) [] (fun _ => []) sz) (va_A [] sz)) 0 0 (va_A [] sz) := by
  refine Met.ofW (cc := cX11_monthsAfter) (maxL := 4) (ret := (some .int)) (by decide) rfl ?_
  intro p e s mI args below meth cO s₁ B hml hv
  obtain ⟨rfl, rfl, hP, hD0, hE⟩ := hv
  have hx := B.exec
  have hb := B.bytes
  have hr := B.returns
  have hts := atoms_spec (ws := woX11_monthsAfter) B.pre
  have hown : s.vm.findClass RX11 = some mI.cls := findClass_of_methodNamed B.named
  have hlocks := B.notSynchronized
  have hD := hD0.self (sz := s.heap.size)
  generalize hAe : va_A [] s.heap.size = A at hD hE ⊢
  have hA : ∀ q : Nat, s.heap.size ≤ q → A q := fun q h => by rw [← hAe]; exact Or.inr h
  have hS : va_S A s.heap s.heap [] := va_S.rf
  obtain ⟨hK, hNw, hNc, hZs, hAO1, hAO2⟩ := id hE
  have hSF : CallFix p mI cO cX11_monthsAfter 4 s ([.int (iI 0), .int (iI xn)] : List Value).toArray woX11_monthsAfter RX11 := ⟨hx, hb, hml, hown, hts⟩
  have hl := lv_entry ([.int (iI 0), .int (iI xn)] : List Value) (n := 4) (Nat.le_of_ble_eq_true rfl)
  rw [lg_entry_eq]
  generalize (lg_sl ([.int (iI 0), .int (iI xn)] : List Value) ++ List.replicate (4 - (lg_sl ([.int (iI 0), .int (iI xn)] : List Value)).length) Slot.unset).toArray = ls at hl ⊢
  have hl : lv_has ls 4 [(0, .int (iI 0)), (1, .int (iI xn))] := hl
  refine W_gen (fun Q hQ => ?_)
  change W p l e ({ frames := 4, cells := 0, slots := 0, locals := 83 } : Room) s mI _ below meth cO s.heap [] 0 0 Q _
  have hP : va_P (dC, dI) vwCl [] s.heap := hP
  have hm := ms (m := xn % 12) (by omega)
  have hl9 := mls (m := xn % 12) (by omega)
  refine q_bipush (z := 12) hx hb dX11_monthsAfter_0 (by decide) ?_
  refine lv_iload_n hx hb dX11_monthsAfter_2 rfl (lv_at hl 0 rfl) ?_
  refine q_sipush (z := 365) hx hb dX11_monthsAfter_3 (by decide) ?_
  refine q_idiv (z := 0) hx hb dX11_monthsAfter_6 (by omega) (by decide) ?_
  refine q_imul (z := 0) hx hb dX11_monthsAfter_7 (Int.mul_zero _) ?_
  refine lv_iload_n hx hb dX11_monthsAfter_8 rfl (lv_at hl 0 rfl) ?_
  refine ki (va_runS (As := [.int (iI 0)]) (rest := [.int (iI 0)]) hSF ((c_X11_monthOf l dC dI k 0 (by omega)) s.heap.size) (va_cwS 1 hts gX11_monthsAfter_X11_monthOf rfl rfl rfl (by decide +kernel) ⟨Nat.le_of_ble_eq_true rfl, Nat.le_of_ble_eq_true rfl⟩) (preS hP hD hE hS hA [] rfl (by decide)) rfl rfl hl.1 rfl (lv_room (Nat.le_of_ble_eq_true rfl)) dX11_monthsAfter_9 ⟨Nat.le_of_ble_eq_true rfl, Nat.le_of_ble_eq_true rfl⟩) hP hD hS hA [] [] rfl (wr := []) rfl (by decide) (by decide) (fun r9 _ H locs hw hP hD hS => ?_)
  obtain rfl : r9 = iI 0 := hw.trans (by decide)
  have hP : va_P (dC, dI) vwCl [] H := hP
  have hD : va_D A [] := hD
  refine q_iadd (z := 0) hx hb dX11_monthsAfter_12 (by omega) ?_
  refine lv_iload_n hx hb dX11_monthsAfter_13 rfl (lv_at hl 1 rfl) ?_
  refine q_iadd (z := xn) hx hb dX11_monthsAfter_14 (by omega) ?_
  refine lv_istore_n (lv' := [(2, .int (iI xn)), (0, .int (iI 0)), (1, .int (iI xn))]) hx hb dX11_monthsAfter_15 rfl hl (by decide) rfl (fun ls hl => ?_)
  refine lv_iload_n hx hb dX11_monthsAfter_16 rfl (lv_at hl 1 rfl) ?_
  refine ki (va_runS (As := [.int (iI 0)]) (rest := []) hSF ((c_X11_numberOf l dC dI k 0 (by omega)) H.size) (va_cwS 1 hts gX11_monthsAfter_X11_numberOf rfl rfl rfl (by decide +kernel) ⟨Nat.le_of_ble_eq_true rfl, Nat.le_of_ble_eq_true rfl⟩) (preS hP hD hE hS hA [] rfl (by decide)) rfl rfl hl.1 rfl (lv_room (Nat.le_of_ble_eq_true rfl)) dX11_monthsAfter_17 ⟨Nat.le_of_ble_eq_true rfl, Nat.le_of_ble_eq_true rfl⟩) hP hD hS hA [] [] rfl (wr := []) rfl (by decide) (by decide) (fun r17 _ H locs hw hP hD hS => ?_)
  obtain rfl : r17 = iI 1 := hw.trans (by decide)
  have hP : va_P (dC, dI) vwCl [] H := hP
  have hD : va_D A [] := hD
  refine lv_iload_n hx hb dX11_monthsAfter_20 rfl (lv_at hl 0 rfl) ?_
  refine q_bipush (z := 12) hx hb dX11_monthsAfter_21 (by decide) ?_
  refine q_irem (z := (xn % 12)) hx hb dX11_monthsAfter_23 (by omega) rfl ?_
  refine ki (va_runS (As := [.int (iI (xn % 12))]) (rest := [.int (iI 1)]) hSF ((c_X11_monthLength l dC dI k (xn % 12) (by omega)) H.size) (va_cwS 1 hts gX11_monthsAfter_X11_monthLength rfl rfl rfl (by decide +kernel) ⟨Nat.le_of_ble_eq_true rfl, Nat.le_of_ble_eq_true rfl⟩) (preS hP hD hE hS hA [] rfl (by decide)) rfl rfl hl.1 rfl (lv_room (Nat.le_of_ble_eq_true rfl)) dX11_monthsAfter_24 ⟨Nat.le_of_ble_eq_true rfl, Nat.le_of_ble_eq_true rfl⟩) hP hD hS hA [] [] rfl (wr := []) rfl (by decide) (by decide) (fun r24 _ H locs hw hP hD hS => ?_)
  obtain rfl : r24 = (iI (mlE (xn % 12))) := hw
  have hP : va_P (dC, dI) vwCl [] H := hP
  have hD : va_D A [] := hD
  refine q_icmp_le (tgt := 40) hx hb dX11_monthsAfter_27 (by decide) (by omega) (fun _ => ?_) (fun q => absurd q (by omega))
  refine lv_iload_n hx hb dX11_monthsAfter_40 rfl (lv_at hl 1 rfl) ?_
  refine ki (va_runS (As := [.int (iI 0)]) (rest := []) hSF ((c_X11_numberOf l dC dI k 0 (by omega)) H.size) (va_cwS 1 hts gX11_monthsAfter_X11_numberOf rfl rfl rfl (by decide +kernel) ⟨Nat.le_of_ble_eq_true rfl, Nat.le_of_ble_eq_true rfl⟩) (preS hP hD hE hS hA [] rfl (by decide)) rfl rfl hl.1 rfl (lv_room (Nat.le_of_ble_eq_true rfl)) dX11_monthsAfter_41 ⟨Nat.le_of_ble_eq_true rfl, Nat.le_of_ble_eq_true rfl⟩) hP hD hS hA [] [] rfl (wr := []) rfl (by decide) (by decide) (fun r41 _ H locs hw hP hD hS => ?_)
  obtain rfl : r41 = iI 1 := hw.trans (by decide)
  have hP : va_P (dC, dI) vwCl [] H := hP
  have hD : va_D A [] := hD
  refine lv_istore_n (lv' := [(3, .int (iI 1)), (2, .int (iI xn)), (0, .int (iI 0)), (1, .int (iI xn))]) hx hb dX11_monthsAfter_44 rfl hl (by decide) rfl (fun ls hl => ?_)
  refine q_sipush (z := 365) hx hb dX11_monthsAfter_45 (by decide) ?_
  refine lv_iload_n hx hb dX11_monthsAfter_48 rfl (lv_at hl 1 rfl) ?_
  refine q_bipush (z := 12) hx hb dX11_monthsAfter_49 (by decide) ?_
  refine q_idiv (z := (xn / 12)) hx hb dX11_monthsAfter_51 (by omega) rfl ?_
  refine q_imul (z := 365 * (xn / 12)) hx hb dX11_monthsAfter_52 (by omega) ?_
  refine lv_iload_n hx hb dX11_monthsAfter_53 rfl (lv_at hl 1 rfl) ?_
  refine q_bipush (z := 12) hx hb dX11_monthsAfter_54 (by decide) ?_
  refine q_irem (z := (xn % 12)) hx hb dX11_monthsAfter_56 (by omega) rfl ?_
  refine ki (va_runS (As := [.int (iI (xn % 12))]) (rest := [.int (iI (365 * (xn / 12)))]) hSF ((c_X11_monthStart l dC dI k (xn % 12) (by omega)) H.size) (va_cwS 1 hts gX11_monthsAfter_X11_monthStart rfl rfl rfl (by decide +kernel) ⟨Nat.le_of_ble_eq_true rfl, Nat.le_of_ble_eq_true rfl⟩) (preS hP hD hE hS hA [] rfl (by decide)) rfl rfl hl.1 rfl (lv_room (Nat.le_of_ble_eq_true rfl)) dX11_monthsAfter_57 ⟨Nat.le_of_ble_eq_true rfl, Nat.le_of_ble_eq_true rfl⟩) hP hD hS hA [] [] rfl (wr := []) rfl (by decide) (by decide) (fun r57 _ H locs hw hP hD hS => ?_)
  obtain rfl : r57 = (iI (msE (xn % 12))) := hw
  have hP : va_P (dC, dI) vwCl [] H := hP
  have hD : va_D A [] := hD
  refine q_iadd (z := 365 * (xn / 12) + (msE (xn % 12))) hx hb dX11_monthsAfter_60 (by omega) ?_
  refine lv_iload_n hx hb dX11_monthsAfter_61 rfl (lv_at hl 0 rfl) ?_
  refine q_iadd (z := 365 * (xn / 12) + (msE (xn % 12)) + 1) hx hb dX11_monthsAfter_62 (by omega) ?_
  refine q_iconst hx hb dX11_monthsAfter_63 ?_
  refine q_isub (z := 365 * (xn / 12) + (msE (xn % 12))) hx hb dX11_monthsAfter_64 (by omega) ?_
  rw [hQ]
  refine W.widen (k := 0) (n := 0) (Nat.le_of_ble_eq_true rfl) (Nat.le_of_ble_eq_true rfl) ?_
  exact W.iret (v := (iI (365 * (xn / 12) + (msE (xn % 12))))) hx hb hr (fun t ht hW => ⟨⟨(iI (365 * (xn / 12) + (msE (xn % 12)))), (), rfl, (by unfold ddE; congr 1; omega), by rw [ht]; exact hP.sub [] rfl, by rw [hAe]; exact hD.sub [] (by decide) rfl⟩, hS.F ht⟩) hS.2.2 dX11_monthsAfter_65
set_option maxHeartbeats 4000000 in
set_option maxRecDepth 100000 in
/-- the reference: counted -/
theorem c_X11_counted (l : Launch) (dC : Nat → ClassId) (dI : Nat → Nat → Nat) (k : Nat → ClassId) (xd xw : Int) (hd : 0 ≤ xd ∧ xd ≤ 100000 ∧ 0 ≤ xw ∧ xw ≤ 2) (sz : Nat) : Met l yX11_counted woX11_counted ({ frames := 4, cells := 0, slots := 0, locals := 83 } : Room) (PcW (dC, dI) k [.int (iI xd), .int (iI xw)] [] sz) (va_Qi (fun (r : Int32) (_ : Unit) => r = iI (c2E xw xd)) (QB (dC, dI) [] (fun _ => []) sz) (va_A [] sz)) 0 0 (va_A [] sz) := by
  refine Met.ofW (cc := cX11_counted) (maxL := 2) (ret := (some .int)) (by decide) rfl ?_
  intro p e s mI args below meth cO s₁ B hml hv
  obtain ⟨rfl, rfl, hP, hD0, hE⟩ := hv
  have hx := B.exec
  have hb := B.bytes
  have hr := B.returns
  have hts := atoms_spec (ws := woX11_counted) B.pre
  have hown : s.vm.findClass RX11 = some mI.cls := findClass_of_methodNamed B.named
  have hlocks := B.notSynchronized
  have hD := hD0.self (sz := s.heap.size)
  generalize hAe : va_A [] s.heap.size = A at hD hE ⊢
  have hA : ∀ q : Nat, s.heap.size ≤ q → A q := fun q h => by rw [← hAe]; exact Or.inr h
  have hS : va_S A s.heap s.heap [] := va_S.rf
  obtain ⟨hK, hNw, hNc, hZs, hAO1, hAO2⟩ := id hE
  have hSF : CallFix p mI cO cX11_counted 2 s ([.int (iI xd), .int (iI xw)] : List Value).toArray woX11_counted RX11 := ⟨hx, hb, hml, hown, hts⟩
  have hl := lv_entry ([.int (iI xd), .int (iI xw)] : List Value) (n := 2) (Nat.le_of_ble_eq_true rfl)
  rw [lg_entry_eq]
  generalize (lg_sl ([.int (iI xd), .int (iI xw)] : List Value) ++ List.replicate (2 - (lg_sl ([.int (iI xd), .int (iI xw)] : List Value)).length) Slot.unset).toArray = ls at hl ⊢
  have hl : lv_has ls 2 [(0, .int (iI xd)), (1, .int (iI xw))] := hl
  refine W_gen (fun Q hQ => ?_)
  change W p l e ({ frames := 4, cells := 0, slots := 0, locals := 83 } : Room) s mI _ below meth cO s.heap [] 0 0 Q _
  have hP : va_P (dC, dI) vwCl [] s.heap := hP
  have hc := cal (y := xd % 365) (by omega)
  refine lv_iload_n hx hb dX11_counted_0 rfl (lv_at hl 1 rfl) ?_
  refine q_iconst hx hb dX11_counted_1 ?_
  refine q_icmp_ge (tgt := 9) hx hb dX11_counted_2 (by decide) (by omega) (fun c2 => ?_) (fun c2 => ?_)
  · refine q_sipush (z := 360) hx hb dX11_counted_9 (by decide) ?_
    refine lv_iload_n hx hb dX11_counted_12 rfl (lv_at hl 0 rfl) ?_
    refine q_sipush (z := 365) hx hb dX11_counted_13 (by decide) ?_
    refine q_idiv (z := (xd / 365)) hx hb dX11_counted_16 (by omega) rfl ?_
    refine q_imul (z := 360 * (xd / 365)) hx hb dX11_counted_17 (by omega) ?_
    refine q_bipush (z := 30) hx hb dX11_counted_18 (by decide) ?_
    refine lv_iload_n hx hb dX11_counted_20 rfl (lv_at hl 0 rfl) ?_
    refine ki (va_runS (As := [.int (iI xd)]) (rest := [.int (iI 30), .int (iI (360 * (xd / 365)))]) hSF ((c_X11_monthOf l dC dI k xd (by omega)) s.heap.size) (va_cwS 1 hts gX11_counted_X11_monthOf rfl rfl rfl (by decide +kernel) ⟨Nat.le_of_ble_eq_true rfl, Nat.le_of_ble_eq_true rfl⟩) (preS hP hD hE hS hA [] rfl (by decide)) rfl rfl hl.1 rfl (lv_room (Nat.le_of_ble_eq_true rfl)) dX11_counted_21 ⟨Nat.le_of_ble_eq_true rfl, Nat.le_of_ble_eq_true rfl⟩) hP hD hS hA [] [] rfl (wr := []) rfl (by decide) (by decide) (fun r21 _ H locs hw hP hD hS => ?_)
    obtain rfl : r21 = (iI (moE (xd % 365))) := hw
    have hP : va_P (dC, dI) vwCl [] H := hP
    have hD : va_D A [] := hD
    refine q_imul (z := 30 * (moE (xd % 365))) hx hb dX11_counted_24 (by omega) ?_
    refine q_iadd (z := 360 * (xd / 365) + 30 * (moE (xd % 365))) hx hb dX11_counted_25 (by omega) ?_
    refine lv_iload_n hx hb dX11_counted_26 rfl (lv_at hl 0 rfl) ?_
    refine ki (va_runS (As := [.int (iI xd)]) (rest := [.int (iI (360 * (xd / 365) + 30 * (moE (xd % 365))))]) hSF ((c_X11_numberOf l dC dI k xd (by omega)) H.size) (va_cwS 1 hts gX11_counted_X11_numberOf rfl rfl rfl (by decide +kernel) ⟨Nat.le_of_ble_eq_true rfl, Nat.le_of_ble_eq_true rfl⟩) (preS hP hD hE hS hA [] rfl (by decide)) rfl rfl hl.1 rfl (lv_room (Nat.le_of_ble_eq_true rfl)) dX11_counted_27 ⟨Nat.le_of_ble_eq_true rfl, Nat.le_of_ble_eq_true rfl⟩) hP hD hS hA [] [] rfl (wr := []) rfl (by decide) (by decide) (fun r27 _ H locs hw hP hD hS => ?_)
    obtain rfl : r27 = (iI ((xd % 365) - (msE (moE (xd % 365))) + 1)) := hw
    have hP : va_P (dC, dI) vwCl [] H := hP
    have hD : va_D A [] := hD
    refine q_bipush (z := 30) hx hb dX11_counted_30 (by decide) ?_
    refine q_icmp_le (tgt := 40) hx hb dX11_counted_32 (by decide) (by omega) (fun c32 => ?_) (fun c32 => ?_)
    · refine lv_iload_n hx hb dX11_counted_40 rfl (lv_at hl 0 rfl) ?_
      refine ki (va_runS (As := [.int (iI xd)]) (rest := [.int (iI (360 * (xd / 365) + 30 * (moE (xd % 365))))]) hSF ((c_X11_numberOf l dC dI k xd (by omega)) H.size) (va_cwS 1 hts gX11_counted_X11_numberOf rfl rfl rfl (by decide +kernel) ⟨Nat.le_of_ble_eq_true rfl, Nat.le_of_ble_eq_true rfl⟩) (preS hP hD hE hS hA [] rfl (by decide)) rfl rfl hl.1 rfl (lv_room (Nat.le_of_ble_eq_true rfl)) dX11_counted_41 ⟨Nat.le_of_ble_eq_true rfl, Nat.le_of_ble_eq_true rfl⟩) hP hD hS hA [] [] rfl (wr := []) rfl (by decide) (by decide) (fun r41 _ H locs hw hP hD hS => ?_)
      obtain rfl : r41 = (iI ((xd % 365) - (msE (moE (xd % 365))) + 1)) := hw
      have hP : va_P (dC, dI) vwCl [] H := hP
      have hD : va_D A [] := hD
      refine q_iadd (z := 360 * (xd / 365) + 30 * (moE (xd % 365)) + (xd % 365) - (msE (moE (xd % 365))) + 1) hx hb dX11_counted_44 (by omega) ?_
      rw [hQ]
      refine W.widen (k := 0) (n := 0) (Nat.le_of_ble_eq_true rfl) (Nat.le_of_ble_eq_true rfl) ?_
      exact W.iret (v := (iI (360 * (xd / 365) + 30 * (moE (xd % 365)) + (xd % 365) - (msE (moE (xd % 365))) + 1))) hx hb hr (fun t ht hW => ⟨⟨(iI (360 * (xd / 365) + 30 * (moE (xd % 365)) + (xd % 365) - (msE (moE (xd % 365))) + 1)), (), rfl, (by unfold c2E; first | rw [if_pos (by omega)] | (rw [if_neg (by omega)]; try (congr 1; omega))), by rw [ht]; exact hP.sub [] rfl, by rw [hAe]; exact hD.sub [] (by decide) rfl⟩, hS.F ht⟩) hS.2.2 dX11_counted_45
    · refine q_bipush (z := 30) hx hb dX11_counted_35 (by decide) ?_
      refine lv_goto (tgt := 44) hx hb dX11_counted_37 (by decide) ?_
      refine q_iadd (z := 360 * (xd / 365) + 30 * (moE (xd % 365)) + 30) hx hb dX11_counted_44 (by omega) ?_
      rw [hQ]
      refine W.widen (k := 0) (n := 0) (Nat.le_of_ble_eq_true rfl) (Nat.le_of_ble_eq_true rfl) ?_
      exact W.iret (v := (iI (360 * (xd / 365) + 30 * (moE (xd % 365)) + 30))) hx hb hr (fun t ht hW => ⟨⟨(iI (360 * (xd / 365) + 30 * (moE (xd % 365)) + 30)), (), rfl, (by unfold c2E; first | rw [if_pos (by omega)] | (rw [if_neg (by omega)]; try (congr 1; omega))), by rw [ht]; exact hP.sub [] rfl, by rw [hAe]; exact hD.sub [] (by decide) rfl⟩, hS.F ht⟩) hS.2.2 dX11_counted_45
  · refine lv_iload_n hx hb dX11_counted_5 rfl (lv_at hl 0 rfl) ?_
    refine lv_goto (tgt := 45) hx hb dX11_counted_6 (by decide) ?_
    rw [hQ]
    refine W.widen (k := 0) (n := 0) (Nat.le_of_ble_eq_true rfl) (Nat.le_of_ble_eq_true rfl) ?_
    exact W.iret (v := (iI xd)) hx hb hr (fun t ht hW => ⟨⟨(iI xd), (), rfl, (by unfold c2E; first | rw [if_pos (by omega)] | (rw [if_neg (by omega)]; try (congr 1; omega))), by rw [ht]; exact hP.sub [] rfl, by rw [hAe]; exact hD.sub [] (by decide) rfl⟩, hS.F ht⟩) hS.2.2 dX11_counted_45
set_option maxHeartbeats 4000000 in
set_option maxRecDepth 100000 in
/-- the reference: partOf(0, 0) -/
theorem c_X11_partOf_0 (l : Launch) (dC : Nat → ClassId) (dI : Nat → Nat → Nat) (k : Nat → ClassId) (sz : Nat) : Met l yX11_partOf woX11_partOf ({ frames := 0, cells := 0, slots := 0, locals := 0 } : Room) (PcW (dC, dI) k [.int (iI 0), .int (iI 0)] [] sz) (va_Qi (fun (r : Int32) (_ : Unit) => r = iI 0) (QB (dC, dI) [] (fun _ => []) sz) (va_A [] sz)) 0 0 (va_A [] sz) := by
  refine Met.ofW (cc := cX11_partOf) (maxL := 2) (ret := (some .int)) (by decide) rfl ?_
  intro p e s mI args below meth cO s₁ B hml hv
  obtain ⟨rfl, rfl, hP, hD0, hE⟩ := hv
  have hx := B.exec
  have hb := B.bytes
  have hr := B.returns
  have hts := atoms_spec (ws := woX11_partOf) B.pre
  have hown : s.vm.findClass RX11 = some mI.cls := findClass_of_methodNamed B.named
  have hlocks := B.notSynchronized
  have hD := hD0.self (sz := s.heap.size)
  generalize hAe : va_A [] s.heap.size = A at hD hE ⊢
  have hA : ∀ q : Nat, s.heap.size ≤ q → A q := fun q h => by rw [← hAe]; exact Or.inr h
  have hS : va_S A s.heap s.heap [] := va_S.rf
  obtain ⟨hK, hNw, hNc, hZs, hAO1, hAO2⟩ := id hE
  have hSF : CallFix p mI cO cX11_partOf 2 s ([.int (iI 0), .int (iI 0)] : List Value).toArray woX11_partOf RX11 := ⟨hx, hb, hml, hown, hts⟩
  have hl := lv_entry ([.int (iI 0), .int (iI 0)] : List Value) (n := 2) (Nat.le_of_ble_eq_true rfl)
  rw [lg_entry_eq]
  generalize (lg_sl ([.int (iI 0), .int (iI 0)] : List Value) ++ List.replicate (2 - (lg_sl ([.int (iI 0), .int (iI 0)] : List Value)).length) Slot.unset).toArray = ls at hl ⊢
  have hl : lv_has ls 2 [(0, .int (iI 0)), (1, .int (iI 0))] := hl
  refine W_gen (fun Q hQ => ?_)
  change W p l e ({ frames := 0, cells := 0, slots := 0, locals := 0 } : Room) s mI _ below meth cO s.heap [] 0 0 Q _
  have hP : va_P (dC, dI) vwCl [] s.heap := hP
  refine lv_iload_n hx hb dX11_partOf_0 rfl (lv_at hl 1 rfl) ?_
  refine q_if_ne (tgt := 8) hx hb dX11_partOf_1 (by decide) (by omega) (fun q => absurd q (by omega)) (fun _ => ?_)
  refine lv_iload_n hx hb dX11_partOf_4 rfl (lv_at hl 0 rfl) ?_
  refine lv_goto (tgt := 37) hx hb dX11_partOf_5 (by decide) ?_
  rw [hQ]
  refine W.widen (k := 0) (n := 0) (Nat.le_of_ble_eq_true rfl) (Nat.le_of_ble_eq_true rfl) ?_
  exact W.iret (v := (iI 0)) hx hb hr (fun t ht hW => ⟨⟨(iI 0), (), rfl, rfl, by rw [ht]; exact hP.sub [] rfl, by rw [hAe]; exact hD.sub [] (by decide) rfl⟩, hS.F ht⟩) hS.2.2 dX11_partOf_37
set_option maxHeartbeats 4000000 in
set_option maxRecDepth 100000 in
/-- the reference: partOf(0, 1) -/
theorem c_X11_partOf_1 (l : Launch) (dC : Nat → ClassId) (dI : Nat → Nat → Nat) (k : Nat → ClassId) (sz : Nat) : Met l yX11_partOf woX11_partOf ({ frames := 0, cells := 0, slots := 0, locals := 0 } : Room) (PcW (dC, dI) k [.int (iI 0), .int (iI 1)] [] sz) (va_Qi (fun (r : Int32) (_ : Unit) => r = iI 0) (QB (dC, dI) [] (fun _ => []) sz) (va_A [] sz)) 0 0 (va_A [] sz) := by
  refine Met.ofW (cc := cX11_partOf) (maxL := 2) (ret := (some .int)) (by decide) rfl ?_
  intro p e s mI args below meth cO s₁ B hml hv
  obtain ⟨rfl, rfl, hP, hD0, hE⟩ := hv
  have hx := B.exec
  have hb := B.bytes
  have hr := B.returns
  have hts := atoms_spec (ws := woX11_partOf) B.pre
  have hown : s.vm.findClass RX11 = some mI.cls := findClass_of_methodNamed B.named
  have hlocks := B.notSynchronized
  have hD := hD0.self (sz := s.heap.size)
  generalize hAe : va_A [] s.heap.size = A at hD hE ⊢
  have hA : ∀ q : Nat, s.heap.size ≤ q → A q := fun q h => by rw [← hAe]; exact Or.inr h
  have hS : va_S A s.heap s.heap [] := va_S.rf
  obtain ⟨hK, hNw, hNc, hZs, hAO1, hAO2⟩ := id hE
  have hSF : CallFix p mI cO cX11_partOf 2 s ([.int (iI 0), .int (iI 1)] : List Value).toArray woX11_partOf RX11 := ⟨hx, hb, hml, hown, hts⟩
  have hl := lv_entry ([.int (iI 0), .int (iI 1)] : List Value) (n := 2) (Nat.le_of_ble_eq_true rfl)
  rw [lg_entry_eq]
  generalize (lg_sl ([.int (iI 0), .int (iI 1)] : List Value) ++ List.replicate (2 - (lg_sl ([.int (iI 0), .int (iI 1)] : List Value)).length) Slot.unset).toArray = ls at hl ⊢
  have hl : lv_has ls 2 [(0, .int (iI 0)), (1, .int (iI 1))] := hl
  refine W_gen (fun Q hQ => ?_)
  change W p l e ({ frames := 0, cells := 0, slots := 0, locals := 0 } : Room) s mI _ below meth cO s.heap [] 0 0 Q _
  have hP : va_P (dC, dI) vwCl [] s.heap := hP
  refine lv_iload_n hx hb dX11_partOf_0 rfl (lv_at hl 1 rfl) ?_
  refine q_if_ne (tgt := 8) hx hb dX11_partOf_1 (by decide) (by omega) (fun _ => ?_) (fun q => absurd q (by omega))
  refine lv_iload_n hx hb dX11_partOf_8 rfl (lv_at hl 1 rfl) ?_
  refine q_iconst hx hb dX11_partOf_9 ?_
  refine q_icmp_ne (tgt := 21) hx hb dX11_partOf_10 (by decide) (by omega) (fun q => absurd q (by omega)) (fun _ => ?_)
  refine lv_iload_n hx hb dX11_partOf_13 rfl (lv_at hl 0 rfl) ?_
  refine q_sipush (z := 365) hx hb dX11_partOf_14 (by decide) ?_
  refine q_idiv (z := 0) hx hb dX11_partOf_17 (by omega) (by decide) ?_
  refine lv_goto (tgt := 37) hx hb dX11_partOf_18 (by decide) ?_
  rw [hQ]
  refine W.widen (k := 0) (n := 0) (Nat.le_of_ble_eq_true rfl) (Nat.le_of_ble_eq_true rfl) ?_
  exact W.iret (v := (iI 0)) hx hb hr (fun t ht hW => ⟨⟨(iI 0), (), rfl, rfl, by rw [ht]; exact hP.sub [] rfl, by rw [hAe]; exact hD.sub [] (by decide) rfl⟩, hS.F ht⟩) hS.2.2 dX11_partOf_37
set_option maxHeartbeats 4000000 in
set_option maxRecDepth 100000 in
/-- the reference: partOf(0, 2) -/
theorem c_X11_partOf_2 (l : Launch) (dC : Nat → ClassId) (dI : Nat → Nat → Nat) (k : Nat → ClassId) (sz : Nat) : Met l yX11_partOf woX11_partOf ({ frames := 3, cells := 0, slots := 0, locals := 63 } : Room) (PcW (dC, dI) k [.int (iI 0), .int (iI 2)] [] sz) (va_Qi (fun (r : Int32) (_ : Unit) => r = iI 0) (QB (dC, dI) [] (fun _ => []) sz) (va_A [] sz)) 0 0 (va_A [] sz) := by
  refine Met.ofW (cc := cX11_partOf) (maxL := 2) (ret := (some .int)) (by decide) rfl ?_
  intro p e s mI args below meth cO s₁ B hml hv
  obtain ⟨rfl, rfl, hP, hD0, hE⟩ := hv
  have hx := B.exec
  have hb := B.bytes
  have hr := B.returns
  have hts := atoms_spec (ws := woX11_partOf) B.pre
  have hown : s.vm.findClass RX11 = some mI.cls := findClass_of_methodNamed B.named
  have hlocks := B.notSynchronized
  have hD := hD0.self (sz := s.heap.size)
  generalize hAe : va_A [] s.heap.size = A at hD hE ⊢
  have hA : ∀ q : Nat, s.heap.size ≤ q → A q := fun q h => by rw [← hAe]; exact Or.inr h
  have hS : va_S A s.heap s.heap [] := va_S.rf
  obtain ⟨hK, hNw, hNc, hZs, hAO1, hAO2⟩ := id hE
  have hSF : CallFix p mI cO cX11_partOf 2 s ([.int (iI 0), .int (iI 2)] : List Value).toArray woX11_partOf RX11 := ⟨hx, hb, hml, hown, hts⟩
  have hl := lv_entry ([.int (iI 0), .int (iI 2)] : List Value) (n := 2) (Nat.le_of_ble_eq_true rfl)
  rw [lg_entry_eq]
  generalize (lg_sl ([.int (iI 0), .int (iI 2)] : List Value) ++ List.replicate (2 - (lg_sl ([.int (iI 0), .int (iI 2)] : List Value)).length) Slot.unset).toArray = ls at hl ⊢
  have hl : lv_has ls 2 [(0, .int (iI 0)), (1, .int (iI 2))] := hl
  refine W_gen (fun Q hQ => ?_)
  change W p l e ({ frames := 3, cells := 0, slots := 0, locals := 63 } : Room) s mI _ below meth cO s.heap [] 0 0 Q _
  have hP : va_P (dC, dI) vwCl [] s.heap := hP
  refine lv_iload_n hx hb dX11_partOf_0 rfl (lv_at hl 1 rfl) ?_
  refine q_if_ne (tgt := 8) hx hb dX11_partOf_1 (by decide) (by omega) (fun _ => ?_) (fun q => absurd q (by omega))
  refine lv_iload_n hx hb dX11_partOf_8 rfl (lv_at hl 1 rfl) ?_
  refine q_iconst hx hb dX11_partOf_9 ?_
  refine q_icmp_ne (tgt := 21) hx hb dX11_partOf_10 (by decide) (by omega) (fun _ => ?_) (fun q => absurd q (by omega))
  refine lv_iload_n hx hb dX11_partOf_21 rfl (lv_at hl 1 rfl) ?_
  refine q_iconst hx hb dX11_partOf_22 ?_
  refine q_icmp_ne (tgt := 33) hx hb dX11_partOf_23 (by decide) (by omega) (fun q => absurd q (by omega)) (fun _ => ?_)
  refine lv_iload_n hx hb dX11_partOf_26 rfl (lv_at hl 0 rfl) ?_
  refine ki (va_runS (As := [.int (iI 0)]) (rest := []) hSF ((c_X11_monthOf l dC dI k 0 (by omega)) s.heap.size) (va_cwS 1 hts gX11_partOf_X11_monthOf rfl rfl rfl (by decide +kernel) ⟨Nat.le_of_ble_eq_true rfl, Nat.le_of_ble_eq_true rfl⟩) (preS hP hD hE hS hA [] rfl (by decide)) rfl rfl hl.1 rfl (lv_room (Nat.le_of_ble_eq_true rfl)) dX11_partOf_27 ⟨Nat.le_of_ble_eq_true rfl, Nat.le_of_ble_eq_true rfl⟩) hP hD hS hA [] [] rfl (wr := []) rfl (by decide) (by decide) (fun r27 _ H locs hw hP hD hS => ?_)
  obtain rfl : r27 = iI 0 := hw.trans (by decide)
  have hP : va_P (dC, dI) vwCl [] H := hP
  have hD : va_D A [] := hD
  refine lv_goto (tgt := 37) hx hb dX11_partOf_30 (by decide) ?_
  rw [hQ]
  refine W.widen (k := 0) (n := 0) (Nat.le_of_ble_eq_true rfl) (Nat.le_of_ble_eq_true rfl) ?_
  exact W.iret (v := (iI 0)) hx hb hr (fun t ht hW => ⟨⟨(iI 0), (), rfl, rfl, by rw [ht]; exact hP.sub [] rfl, by rw [hAe]; exact hD.sub [] (by decide) rfl⟩, hS.F ht⟩) hS.2.2 dX11_partOf_37
set_option maxHeartbeats 4000000 in
set_option maxRecDepth 100000 in
/-- the reference: partOf(0, 3) -/
theorem c_X11_partOf_3 (l : Launch) (dC : Nat → ClassId) (dI : Nat → Nat → Nat) (k : Nat → ClassId) (sz : Nat) : Met l yX11_partOf woX11_partOf ({ frames := 4, cells := 0, slots := 0, locals := 83 } : Room) (PcW (dC, dI) k [.int (iI 0), .int (iI 3)] [] sz) (va_Qi (fun (r : Int32) (_ : Unit) => r = iI 1) (QB (dC, dI) [] (fun _ => []) sz) (va_A [] sz)) 0 0 (va_A [] sz) := by
  refine Met.ofW (cc := cX11_partOf) (maxL := 2) (ret := (some .int)) (by decide) rfl ?_
  intro p e s mI args below meth cO s₁ B hml hv
  obtain ⟨rfl, rfl, hP, hD0, hE⟩ := hv
  have hx := B.exec
  have hb := B.bytes
  have hr := B.returns
  have hts := atoms_spec (ws := woX11_partOf) B.pre
  have hown : s.vm.findClass RX11 = some mI.cls := findClass_of_methodNamed B.named
  have hlocks := B.notSynchronized
  have hD := hD0.self (sz := s.heap.size)
  generalize hAe : va_A [] s.heap.size = A at hD hE ⊢
  have hA : ∀ q : Nat, s.heap.size ≤ q → A q := fun q h => by rw [← hAe]; exact Or.inr h
  have hS : va_S A s.heap s.heap [] := va_S.rf
  obtain ⟨hK, hNw, hNc, hZs, hAO1, hAO2⟩ := id hE
  have hSF : CallFix p mI cO cX11_partOf 2 s ([.int (iI 0), .int (iI 3)] : List Value).toArray woX11_partOf RX11 := ⟨hx, hb, hml, hown, hts⟩
  have hl := lv_entry ([.int (iI 0), .int (iI 3)] : List Value) (n := 2) (Nat.le_of_ble_eq_true rfl)
  rw [lg_entry_eq]
  generalize (lg_sl ([.int (iI 0), .int (iI 3)] : List Value) ++ List.replicate (2 - (lg_sl ([.int (iI 0), .int (iI 3)] : List Value)).length) Slot.unset).toArray = ls at hl ⊢
  have hl : lv_has ls 2 [(0, .int (iI 0)), (1, .int (iI 3))] := hl
  refine W_gen (fun Q hQ => ?_)
  change W p l e ({ frames := 4, cells := 0, slots := 0, locals := 83 } : Room) s mI _ below meth cO s.heap [] 0 0 Q _
  have hP : va_P (dC, dI) vwCl [] s.heap := hP
  refine lv_iload_n hx hb dX11_partOf_0 rfl (lv_at hl 1 rfl) ?_
  refine q_if_ne (tgt := 8) hx hb dX11_partOf_1 (by decide) (by omega) (fun _ => ?_) (fun q => absurd q (by omega))
  refine lv_iload_n hx hb dX11_partOf_8 rfl (lv_at hl 1 rfl) ?_
  refine q_iconst hx hb dX11_partOf_9 ?_
  refine q_icmp_ne (tgt := 21) hx hb dX11_partOf_10 (by decide) (by omega) (fun _ => ?_) (fun q => absurd q (by omega))
  refine lv_iload_n hx hb dX11_partOf_21 rfl (lv_at hl 1 rfl) ?_
  refine q_iconst hx hb dX11_partOf_22 ?_
  refine q_icmp_ne (tgt := 33) hx hb dX11_partOf_23 (by decide) (by omega) (fun _ => ?_) (fun q => absurd q (by omega))
  refine lv_iload_n hx hb dX11_partOf_33 rfl (lv_at hl 0 rfl) ?_
  refine ki (va_runS (As := [.int (iI 0)]) (rest := []) hSF ((c_X11_numberOf l dC dI k 0 (by omega)) s.heap.size) (va_cwS 1 hts gX11_partOf_X11_numberOf rfl rfl rfl (by decide +kernel) ⟨Nat.le_of_ble_eq_true rfl, Nat.le_of_ble_eq_true rfl⟩) (preS hP hD hE hS hA [] rfl (by decide)) rfl rfl hl.1 rfl (lv_room (Nat.le_of_ble_eq_true rfl)) dX11_partOf_34 ⟨Nat.le_of_ble_eq_true rfl, Nat.le_of_ble_eq_true rfl⟩) hP hD hS hA [] [] rfl (wr := []) rfl (by decide) (by decide) (fun r34 _ H locs hw hP hD hS => ?_)
  obtain rfl : r34 = iI 1 := hw.trans (by decide)
  have hP : va_P (dC, dI) vwCl [] H := hP
  have hD : va_D A [] := hD
  rw [hQ]
  refine W.widen (k := 0) (n := 0) (Nat.le_of_ble_eq_true rfl) (Nat.le_of_ble_eq_true rfl) ?_
  exact W.iret (v := (iI 1)) hx hb hr (fun t ht hW => ⟨⟨(iI 1), (), rfl, rfl, by rw [ht]; exact hP.sub [] rfl, by rw [hAe]; exact hD.sub [] (by decide) rfl⟩, hS.F ht⟩) hS.2.2 dX11_partOf_37
set_option maxHeartbeats 4000000 in
set_option maxRecDepth 100000 in
/-- the reference: in -/
theorem c_X11_in (l : Launch) (dC : Nat → ClassId) (dI : Nat → Nat → Nat) (k : Nat → ClassId) (v a b : Int) (hd : -2147483648 ≤ v ∧ v ≤ 2147483647 ∧ -2147483648 ≤ a ∧ a ≤ 2147483647 ∧ -2147483648 ≤ b ∧ b ≤ 2147483647) (sz : Nat) : Met l yX11_in woX11_in ({ frames := 0, cells := 0, slots := 0, locals := 0 } : Room) (PcW (dC, dI) k [.int (iI v), .int (iI a), .int (iI b)] [] sz) (va_Qi (fun (r : Int32) (_ : Unit) => r = iI (wiE v a b)) (QB (dC, dI) [] (fun _ => []) sz) (va_A [] sz)) 0 0 (va_A [] sz) := by
  refine Met.ofW (cc := cX11_in) (maxL := 3) (ret := (some .boolean)) (by decide) rfl ?_
  intro p e s mI args below meth cO s₁ B hml hv
  obtain ⟨rfl, rfl, hP, hD0, hE⟩ := hv
  have hx := B.exec
  have hb := B.bytes
  have hr := B.returns
  have hts := atoms_spec (ws := woX11_in) B.pre
  have hown : s.vm.findClass RX11 = some mI.cls := findClass_of_methodNamed B.named
  have hlocks := B.notSynchronized
  have hD := hD0.self (sz := s.heap.size)
  generalize hAe : va_A [] s.heap.size = A at hD hE ⊢
  have hA : ∀ q : Nat, s.heap.size ≤ q → A q := fun q h => by rw [← hAe]; exact Or.inr h
  have hS : va_S A s.heap s.heap [] := va_S.rf
  obtain ⟨hK, hNw, hNc, hZs, hAO1, hAO2⟩ := id hE
  have hSF : CallFix p mI cO cX11_in 3 s ([.int (iI v), .int (iI a), .int (iI b)] : List Value).toArray woX11_in RX11 := ⟨hx, hb, hml, hown, hts⟩
  have hl := lv_entry ([.int (iI v), .int (iI a), .int (iI b)] : List Value) (n := 3) (Nat.le_of_ble_eq_true rfl)
  rw [lg_entry_eq]
  generalize (lg_sl ([.int (iI v), .int (iI a), .int (iI b)] : List Value) ++ List.replicate (3 - (lg_sl ([.int (iI v), .int (iI a), .int (iI b)] : List Value)).length) Slot.unset).toArray = ls at hl ⊢
  have hl : lv_has ls 3 [(0, .int (iI v)), (1, .int (iI a)), (2, .int (iI b))] := hl
  refine W_gen (fun Q hQ => ?_)
  change W p l e ({ frames := 0, cells := 0, slots := 0, locals := 0 } : Room) s mI _ below meth cO s.heap [] 0 0 Q _
  have hP : va_P (dC, dI) vwCl [] s.heap := hP
  refine lv_iload_n hx hb dX11_in_0 rfl (lv_at hl 0 rfl) ?_
  refine lv_iload_n hx hb dX11_in_1 rfl (lv_at hl 1 rfl) ?_
  refine q_icmp_lt (tgt := 14) hx hb dX11_in_2 (by decide) (by omega) (fun c2 => ?_) (fun c2 => ?_)
  · refine q_iconst hx hb dX11_in_14 ?_
    rw [hQ]
    refine W.widen (k := 0) (n := 0) (Nat.le_of_ble_eq_true rfl) (Nat.le_of_ble_eq_true rfl) ?_
    exact W.zret (v := (iI 0)) hx hb hr (by first | rfl | decide) (fun t ht hW => ⟨⟨(iI 0), (), rfl, (by first | rw [wi1 (by omega)] | rw [wi0 (by omega)]), by rw [ht]; exact hP.sub [] rfl, by rw [hAe]; exact hD.sub [] (by decide) rfl⟩, hS.F ht⟩) hS.2.2 dX11_in_15
  · refine lv_iload_n hx hb dX11_in_5 rfl (lv_at hl 0 rfl) ?_
    refine lv_iload_n hx hb dX11_in_6 rfl (lv_at hl 2 rfl) ?_
    refine q_icmp_gt (tgt := 14) hx hb dX11_in_7 (by decide) (by omega) (fun c7 => ?_) (fun c7 => ?_)
    · refine q_iconst hx hb dX11_in_14 ?_
      rw [hQ]
      refine W.widen (k := 0) (n := 0) (Nat.le_of_ble_eq_true rfl) (Nat.le_of_ble_eq_true rfl) ?_
      exact W.zret (v := (iI 0)) hx hb hr (by first | rfl | decide) (fun t ht hW => ⟨⟨(iI 0), (), rfl, (by first | rw [wi1 (by omega)] | rw [wi0 (by omega)]), by rw [ht]; exact hP.sub [] rfl, by rw [hAe]; exact hD.sub [] (by decide) rfl⟩, hS.F ht⟩) hS.2.2 dX11_in_15
    · refine q_iconst hx hb dX11_in_10 ?_
      refine lv_goto (tgt := 15) hx hb dX11_in_11 (by decide) ?_
      rw [hQ]
      refine W.widen (k := 0) (n := 0) (Nat.le_of_ble_eq_true rfl) (Nat.le_of_ble_eq_true rfl) ?_
      exact W.zret (v := (iI 1)) hx hb hr (by first | rfl | decide) (fun t ht hW => ⟨⟨(iI 1), (), rfl, (by first | rw [wi1 (by omega)] | rw [wi0 (by omega)]), by rw [ht]; exact hP.sub [] rfl, by rw [hAe]; exact hD.sub [] (by decide) rfl⟩, hS.F ht⟩) hS.2.2 dX11_in_15
set_option maxHeartbeats 4000000 in
set_option maxRecDepth 100000 in
/-- the reference: bound(0) -/
theorem c_X11_bound_0 (l : Launch) (dC : Nat → ClassId) (dI : Nat → Nat → Nat) (k : Nat → ClassId) (sz : Nat) : Met l yX11_bound woX11_bound ({ frames := 0, cells := 0, slots := 0, locals := 0 } : Room) (PcW (dC, dI) k [.int (iI 0)] [] sz) (va_Qi (fun (r : Int32) (_ : Unit) => r = iI 5) (QB (dC, dI) [] (fun _ => []) sz) (va_A [] sz)) 0 0 (va_A [] sz) := by
  refine Met.ofW (cc := cX11_bound) (maxL := 1) (ret := (some .int)) (by decide) rfl ?_
  intro p e s mI args below meth cO s₁ B hml hv
  obtain ⟨rfl, rfl, hP, hD0, hE⟩ := hv
  have hx := B.exec
  have hb := B.bytes
  have hr := B.returns
  have hts := atoms_spec (ws := woX11_bound) B.pre
  have hown : s.vm.findClass RX11 = some mI.cls := findClass_of_methodNamed B.named
  have hlocks := B.notSynchronized
  have hD := hD0.self (sz := s.heap.size)
  generalize hAe : va_A [] s.heap.size = A at hD hE ⊢
  have hA : ∀ q : Nat, s.heap.size ≤ q → A q := fun q h => by rw [← hAe]; exact Or.inr h
  have hS : va_S A s.heap s.heap [] := va_S.rf
  obtain ⟨hK, hNw, hNc, hZs, hAO1, hAO2⟩ := id hE
  have hSF : CallFix p mI cO cX11_bound 1 s ([.int (iI 0)] : List Value).toArray woX11_bound RX11 := ⟨hx, hb, hml, hown, hts⟩
  have hl := lv_entry ([.int (iI 0)] : List Value) (n := 1) (Nat.le_of_ble_eq_true rfl)
  rw [lg_entry_eq]
  generalize (lg_sl ([.int (iI 0)] : List Value) ++ List.replicate (1 - (lg_sl ([.int (iI 0)] : List Value)).length) Slot.unset).toArray = ls at hl ⊢
  have hl : lv_has ls 1 [(0, .int (iI 0))] := hl
  refine W_gen (fun Q hQ => ?_)
  change W p l e ({ frames := 0, cells := 0, slots := 0, locals := 0 } : Room) s mI _ below meth cO s.heap [] 0 0 Q _
  have hP : va_P (dC, dI) vwCl [] s.heap := hP
  refine lv_iload_n hx hb dX11_bound_0 rfl (lv_at hl 0 rfl) ?_
  refine lv_tableIn (off := 31) (tgt := 32) hx hb dX11_bound_1 (by rw [iI_toInt ⟨by omega, by omega⟩]; omega) (by rw [iI_toInt ⟨by omega, by omega⟩]; omega) (by rw [iI_toInt ⟨by omega, by omega⟩]; rfl) (by decide) ?_
  refine q_iconst hx hb dX11_bound_32 ?_
  rw [hQ]
  refine W.widen (k := 0) (n := 0) (Nat.le_of_ble_eq_true rfl) (Nat.le_of_ble_eq_true rfl) ?_
  exact W.iret (v := (iI 5)) hx hb hr (fun t ht hW => ⟨⟨(iI 5), (), rfl, rfl, by rw [ht]; exact hP.sub [] rfl, by rw [hAe]; exact hD.sub [] (by decide) rfl⟩, hS.F ht⟩) hS.2.2 dX11_bound_33
set_option maxHeartbeats 4000000 in
set_option maxRecDepth 100000 in
/-- the reference: bound(1) -/
theorem c_X11_bound_1 (l : Launch) (dC : Nat → ClassId) (dI : Nat → Nat → Nat) (k : Nat → ClassId) (sz : Nat) : Met l yX11_bound woX11_bound ({ frames := 0, cells := 0, slots := 0, locals := 0 } : Room) (PcW (dC, dI) k [.int (iI 1)] [] sz) (va_Qi (fun (r : Int32) (_ : Unit) => r = iI 1) (QB (dC, dI) [] (fun _ => []) sz) (va_A [] sz)) 0 0 (va_A [] sz) := by
  refine Met.ofW (cc := cX11_bound) (maxL := 1) (ret := (some .int)) (by decide) rfl ?_
  intro p e s mI args below meth cO s₁ B hml hv
  obtain ⟨rfl, rfl, hP, hD0, hE⟩ := hv
  have hx := B.exec
  have hb := B.bytes
  have hr := B.returns
  have hts := atoms_spec (ws := woX11_bound) B.pre
  have hown : s.vm.findClass RX11 = some mI.cls := findClass_of_methodNamed B.named
  have hlocks := B.notSynchronized
  have hD := hD0.self (sz := s.heap.size)
  generalize hAe : va_A [] s.heap.size = A at hD hE ⊢
  have hA : ∀ q : Nat, s.heap.size ≤ q → A q := fun q h => by rw [← hAe]; exact Or.inr h
  have hS : va_S A s.heap s.heap [] := va_S.rf
  obtain ⟨hK, hNw, hNc, hZs, hAO1, hAO2⟩ := id hE
  have hSF : CallFix p mI cO cX11_bound 1 s ([.int (iI 1)] : List Value).toArray woX11_bound RX11 := ⟨hx, hb, hml, hown, hts⟩
  have hl := lv_entry ([.int (iI 1)] : List Value) (n := 1) (Nat.le_of_ble_eq_true rfl)
  rw [lg_entry_eq]
  generalize (lg_sl ([.int (iI 1)] : List Value) ++ List.replicate (1 - (lg_sl ([.int (iI 1)] : List Value)).length) Slot.unset).toArray = ls at hl ⊢
  have hl : lv_has ls 1 [(0, .int (iI 1))] := hl
  refine W_gen (fun Q hQ => ?_)
  change W p l e ({ frames := 0, cells := 0, slots := 0, locals := 0 } : Room) s mI _ below meth cO s.heap [] 0 0 Q _
  have hP : va_P (dC, dI) vwCl [] s.heap := hP
  refine lv_iload_n hx hb dX11_bound_0 rfl (lv_at hl 0 rfl) ?_
  refine lv_tableIn (off := 39) (tgt := 40) hx hb dX11_bound_1 (by rw [iI_toInt ⟨by omega, by omega⟩]; omega) (by rw [iI_toInt ⟨by omega, by omega⟩]; omega) (by rw [iI_toInt ⟨by omega, by omega⟩]; rfl) (by decide) ?_
  refine q_iconst hx hb dX11_bound_40 ?_
  rw [hQ]
  refine W.widen (k := 0) (n := 0) (Nat.le_of_ble_eq_true rfl) (Nat.le_of_ble_eq_true rfl) ?_
  exact W.iret (v := (iI 1)) hx hb hr (fun t ht hW => ⟨⟨(iI 1), (), rfl, rfl, by rw [ht]; exact hP.sub [] rfl, by rw [hAe]; exact hD.sub [] (by decide) rfl⟩, hS.F ht⟩) hS.2.2 dX11_bound_41
set_option maxHeartbeats 4000000 in
set_option maxRecDepth 100000 in
/-- the reference: bound(2) -/
theorem c_X11_bound_2 (l : Launch) (dC : Nat → ClassId) (dI : Nat → Nat → Nat) (k : Nat → ClassId) (sz : Nat) : Met l yX11_bound woX11_bound ({ frames := 0, cells := 0, slots := 0, locals := 0 } : Room) (PcW (dC, dI) k [.int (iI 2)] [] sz) (va_Qi (fun (r : Int32) (_ : Unit) => r = iI 30) (QB (dC, dI) [] (fun _ => []) sz) (va_A [] sz)) 0 0 (va_A [] sz) := by
  refine Met.ofW (cc := cX11_bound) (maxL := 1) (ret := (some .int)) (by decide) rfl ?_
  intro p e s mI args below meth cO s₁ B hml hv
  obtain ⟨rfl, rfl, hP, hD0, hE⟩ := hv
  have hx := B.exec
  have hb := B.bytes
  have hr := B.returns
  have hts := atoms_spec (ws := woX11_bound) B.pre
  have hown : s.vm.findClass RX11 = some mI.cls := findClass_of_methodNamed B.named
  have hlocks := B.notSynchronized
  have hD := hD0.self (sz := s.heap.size)
  generalize hAe : va_A [] s.heap.size = A at hD hE ⊢
  have hA : ∀ q : Nat, s.heap.size ≤ q → A q := fun q h => by rw [← hAe]; exact Or.inr h
  have hS : va_S A s.heap s.heap [] := va_S.rf
  obtain ⟨hK, hNw, hNc, hZs, hAO1, hAO2⟩ := id hE
  have hSF : CallFix p mI cO cX11_bound 1 s ([.int (iI 2)] : List Value).toArray woX11_bound RX11 := ⟨hx, hb, hml, hown, hts⟩
  have hl := lv_entry ([.int (iI 2)] : List Value) (n := 1) (Nat.le_of_ble_eq_true rfl)
  rw [lg_entry_eq]
  generalize (lg_sl ([.int (iI 2)] : List Value) ++ List.replicate (1 - (lg_sl ([.int (iI 2)] : List Value)).length) Slot.unset).toArray = ls at hl ⊢
  have hl : lv_has ls 1 [(0, .int (iI 2))] := hl
  refine W_gen (fun Q hQ => ?_)
  change W p l e ({ frames := 0, cells := 0, slots := 0, locals := 0 } : Room) s mI _ below meth cO s.heap [] 0 0 Q _
  have hP : va_P (dC, dI) vwCl [] s.heap := hP
  refine lv_iload_n hx hb dX11_bound_0 rfl (lv_at hl 0 rfl) ?_
  refine lv_tableIn (off := 33) (tgt := 34) hx hb dX11_bound_1 (by rw [iI_toInt ⟨by omega, by omega⟩]; omega) (by rw [iI_toInt ⟨by omega, by omega⟩]; omega) (by rw [iI_toInt ⟨by omega, by omega⟩]; rfl) (by decide) ?_
  refine q_bipush (z := 30) hx hb dX11_bound_34 (by decide) ?_
  rw [hQ]
  refine W.widen (k := 0) (n := 0) (Nat.le_of_ble_eq_true rfl) (Nat.le_of_ble_eq_true rfl) ?_
  exact W.iret (v := (iI 30)) hx hb hr (fun t ht hW => ⟨⟨(iI 30), (), rfl, rfl, by rw [ht]; exact hP.sub [] rfl, by rw [hAe]; exact hD.sub [] (by decide) rfl⟩, hS.F ht⟩) hS.2.2 dX11_bound_36
set_option maxHeartbeats 4000000 in
set_option maxRecDepth 100000 in
/-- the reference: bound(3) -/
theorem c_X11_bound_3 (l : Launch) (dC : Nat → ClassId) (dI : Nat → Nat → Nat) (k : Nat → ClassId) (sz : Nat) : Met l yX11_bound woX11_bound ({ frames := 0, cells := 0, slots := 0, locals := 0 } : Room) (PcW (dC, dI) k [.int (iI 3)] [] sz) (va_Qi (fun (r : Int32) (_ : Unit) => r = iI 100000) (QB (dC, dI) [] (fun _ => []) sz) (va_A [] sz)) 0 0 (va_A [] sz) := by
  refine Met.ofW (cc := cX11_bound) (maxL := 1) (ret := (some .int)) (by decide) rfl ?_
  intro p e s mI args below meth cO s₁ B hml hv
  obtain ⟨rfl, rfl, hP, hD0, hE⟩ := hv
  have hx := B.exec
  have hb := B.bytes
  have hr := B.returns
  have hts := atoms_spec (ws := woX11_bound) B.pre
  have hown : s.vm.findClass RX11 = some mI.cls := findClass_of_methodNamed B.named
  have hlocks := B.notSynchronized
  have hD := hD0.self (sz := s.heap.size)
  generalize hAe : va_A [] s.heap.size = A at hD hE ⊢
  have hA : ∀ q : Nat, s.heap.size ≤ q → A q := fun q h => by rw [← hAe]; exact Or.inr h
  have hS : va_S A s.heap s.heap [] := va_S.rf
  obtain ⟨hK, hNw, hNc, hZs, hAO1, hAO2⟩ := id hE
  have hSF : CallFix p mI cO cX11_bound 1 s ([.int (iI 3)] : List Value).toArray woX11_bound RX11 := ⟨hx, hb, hml, hown, hts⟩
  have hl := lv_entry ([.int (iI 3)] : List Value) (n := 1) (Nat.le_of_ble_eq_true rfl)
  rw [lg_entry_eq]
  generalize (lg_sl ([.int (iI 3)] : List Value) ++ List.replicate (1 - (lg_sl ([.int (iI 3)] : List Value)).length) Slot.unset).toArray = ls at hl ⊢
  have hl : lv_has ls 1 [(0, .int (iI 3))] := hl
  refine W_gen (fun Q hQ => ?_)
  change W p l e ({ frames := 0, cells := 0, slots := 0, locals := 0 } : Room) s mI _ below meth cO s.heap [] 0 0 Q _
  have hP : va_P (dC, dI) vwCl [] s.heap := hP
  refine lv_iload_n hx hb dX11_bound_0 rfl (lv_at hl 0 rfl) ?_
  refine lv_tableIn (off := 36) (tgt := 37) hx hb dX11_bound_1 (by rw [iI_toInt ⟨by omega, by omega⟩]; omega) (by rw [iI_toInt ⟨by omega, by omega⟩]; omega) (by rw [iI_toInt ⟨by omega, by omega⟩]; rfl) (by decide) ?_
  refine q_ldc (z := 100000) hx hb hown (hts (.constant RX11 179 (100000)) (List.mem_cons_of_mem _ (wl_25 (List.mem_of_getElem? (i := 13) rfl)))) dX11_bound_37 (by decide) ?_
  rw [hQ]
  refine W.widen (k := 0) (n := 0) (Nat.le_of_ble_eq_true rfl) (Nat.le_of_ble_eq_true rfl) ?_
  exact W.iret (v := (iI 100000)) hx hb hr (fun t ht hW => ⟨⟨(iI 100000), (), rfl, rfl, by rw [ht]; exact hP.sub [] rfl, by rw [hAe]; exact hD.sub [] (by decide) rfl⟩, hS.F ht⟩) hS.2.2 dX11_bound_39
set_option maxHeartbeats 4000000 in
set_option maxRecDepth 100000 in
/-- the reference: bound(4) -/
theorem c_X11_bound_4 (l : Launch) (dC : Nat → ClassId) (dI : Nat → Nat → Nat) (k : Nat → ClassId) (sz : Nat) : Met l yX11_bound woX11_bound ({ frames := 0, cells := 0, slots := 0, locals := 0 } : Room) (PcW (dC, dI) k [.int (iI 4)] [] sz) (va_Qi (fun (r : Int32) (_ : Unit) => r = iI 1) (QB (dC, dI) [] (fun _ => []) sz) (va_A [] sz)) 0 0 (va_A [] sz) := by
  refine Met.ofW (cc := cX11_bound) (maxL := 1) (ret := (some .int)) (by decide) rfl ?_
  intro p e s mI args below meth cO s₁ B hml hv
  obtain ⟨rfl, rfl, hP, hD0, hE⟩ := hv
  have hx := B.exec
  have hb := B.bytes
  have hr := B.returns
  have hts := atoms_spec (ws := woX11_bound) B.pre
  have hown : s.vm.findClass RX11 = some mI.cls := findClass_of_methodNamed B.named
  have hlocks := B.notSynchronized
  have hD := hD0.self (sz := s.heap.size)
  generalize hAe : va_A [] s.heap.size = A at hD hE ⊢
  have hA : ∀ q : Nat, s.heap.size ≤ q → A q := fun q h => by rw [← hAe]; exact Or.inr h
  have hS : va_S A s.heap s.heap [] := va_S.rf
  obtain ⟨hK, hNw, hNc, hZs, hAO1, hAO2⟩ := id hE
  have hSF : CallFix p mI cO cX11_bound 1 s ([.int (iI 4)] : List Value).toArray woX11_bound RX11 := ⟨hx, hb, hml, hown, hts⟩
  have hl := lv_entry ([.int (iI 4)] : List Value) (n := 1) (Nat.le_of_ble_eq_true rfl)
  rw [lg_entry_eq]
  generalize (lg_sl ([.int (iI 4)] : List Value) ++ List.replicate (1 - (lg_sl ([.int (iI 4)] : List Value)).length) Slot.unset).toArray = ls at hl ⊢
  have hl : lv_has ls 1 [(0, .int (iI 4))] := hl
  refine W_gen (fun Q hQ => ?_)
  change W p l e ({ frames := 0, cells := 0, slots := 0, locals := 0 } : Room) s mI _ below meth cO s.heap [] 0 0 Q _
  have hP : va_P (dC, dI) vwCl [] s.heap := hP
  refine lv_iload_n hx hb dX11_bound_0 rfl (lv_at hl 0 rfl) ?_
  refine lv_tableOut (tgt := 40) hx hb dX11_bound_1 (by rw [iI_toInt ⟨by omega, by omega⟩]; omega) (by decide) ?_
  refine q_iconst hx hb dX11_bound_40 ?_
  rw [hQ]
  refine W.widen (k := 0) (n := 0) (Nat.le_of_ble_eq_true rfl) (Nat.le_of_ble_eq_true rfl) ?_
  exact W.iret (v := (iI 1)) hx hb hr (fun t ht hW => ⟨⟨(iI 1), (), rfl, rfl, by rw [ht]; exact hP.sub [] rfl, by rw [hAe]; exact hD.sub [] (by decide) rfl⟩, hS.F ht⟩) hS.2.2 dX11_bound_41
set_option maxHeartbeats 4000000 in
set_option maxRecDepth 100000 in
/-- the reference: cent -/
theorem c_X11_cent (l : Launch) (dC : Nat → ClassId) (dI : Nat → Nat → Nat) (k : Nat → ClassId) (h0 hg : Nat) (xfr : List Value) (xG : Nat → Int) (hd : 0 ≤ xG 11 ∧ xG 11 ≤ 2) (sz : Nat) : Met l yX11_cent woX11_cent ({ frames := 0, cells := 0, slots := 0, locals := 0 } : Room) (PcW (dC, dI) k [.ref h0] [(h0, .inr (11, .ref hg :: xfr)), (hg, .inl (k 0, 1460, .inl (aI xG)))] sz) (va_Ql (fun (r : Int64) (_ : Unit) => r = lI (ceE (xG 11))) (QB (dC, dI) [(h0, .inr (11, .ref hg :: xfr)), (hg, .inl (k 0, 1460, .inl (aI xG)))] (fun _ => [(h0, .inr (11, .ref hg :: xfr)), (hg, .inl (k 0, 1460, .inl (aI xG)))]) sz) (va_A [(h0, .inr (11, .ref hg :: xfr)), (hg, .inl (k 0, 1460, .inl (aI xG)))] sz)) 0 0 (va_A [(h0, .inr (11, .ref hg :: xfr)), (hg, .inl (k 0, 1460, .inl (aI xG)))] sz) := by
  refine Met.ofW (cc := cX11_cent) (maxL := 1) (ret := (some .long)) (by decide) rfl ?_
  intro p e s mI args below meth cO s₁ B hml hv
  obtain ⟨rfl, rfl, hP, hD0, hE⟩ := hv
  have hx := B.exec
  have hb := B.bytes
  have hr := B.returns
  have hts := atoms_spec (ws := woX11_cent) B.pre
  have hown : s.vm.findClass RX11 = some mI.cls := findClass_of_methodNamed B.named
  have hlocks := B.notSynchronized
  have hD := hD0.self (sz := s.heap.size)
  generalize hAe : va_A [(h0, .inr (11, .ref hg :: xfr)), (hg, .inl (k 0, 1460, .inl (aI xG)))] s.heap.size = A at hD hE ⊢
  have hA : ∀ q : Nat, s.heap.size ≤ q → A q := fun q h => by rw [← hAe]; exact Or.inr h
  have hS : va_S A s.heap s.heap [] := va_S.rf
  obtain ⟨hK, hNw, hNc, hZs, hAO1, hAO2⟩ := id hE
  have hSF : CallFix p mI cO cX11_cent 1 s ([.ref h0] : List Value).toArray woX11_cent RX11 := ⟨hx, hb, hml, hown, hts⟩
  have hl := lv_entry ([.ref h0] : List Value) (n := 1) (Nat.le_of_ble_eq_true rfl)
  rw [lg_entry_eq]
  generalize (lg_sl ([.ref h0] : List Value) ++ List.replicate (1 - (lg_sl ([.ref h0] : List Value)).length) Slot.unset).toArray = ls at hl ⊢
  have hl : lv_has ls 1 [(0, .ref h0)] := hl
  refine W_gen (fun Q hQ => ?_)
  change W p l e ({ frames := 0, cells := 0, slots := 0, locals := 0 } : Room) s mI _ below meth cO s.heap [] 0 0 Q _
  have hP : va_P (dC, dI) vwCl [(h0, .inr (11, .ref hg :: xfr)), (hg, .inl (k 0, 1460, .inl (aI xG)))] s.heap := hP
  refine q_ldc2 (z := 10000) hx hb hown (hts (.constantLong RX11 106 (10000)) (List.mem_cons_of_mem _ (wl_15 (List.mem_of_getElem? (i := 19) rfl)))) dX11_cent_0 (by decide) ?_
  refine lv_aload_n hx hb dX11_cent_3 rfl (lv_at hl 0 rfl) ?_
  refine va_get (D := (dC, dI)) (ci := 11) (v := .ref hg) (C := RX11) (T := TX11) (N := 31) hx hb hts (fun _ h => List.mem_cons_of_mem _ (inlX11 _ h)) hown hK hP 0 rfl rfl 0 (by decide) (hts (.fieldLink RX11 7 "LoanServicingModel" "g" "[I") (List.mem_cons_of_mem _ (wl_5 (List.mem_of_getElem? (i := 8) rfl)))) (fun _ h9 => h9) rfl dX11_cent_4 ?_
  refine q_bipush (z := 11) hx hb dX11_cent_7 (by decide) ?_
  refine q_iald (z := (xG 11)) hx hb hK hP 1 0 rfl rfl (by omega) rfl dX11_cent_9 ?_
  refine q_if_ne (tgt := 19) hx hb dX11_cent_10 (by decide) (by omega) (fun c10 => ?_) (fun c10 => ?_)
  · refine q_sipush (z := 360) hx hb dX11_cent_19 (by decide) ?_
    refine q_i2l hx hb dX11_cent_22 (by omega) ?_
    refine q_lmul (z := 3600000) hx hb dX11_cent_23 (by omega) ?_
    rw [hQ]
    refine W.widen (k := 0) (n := 0) (Nat.le_of_ble_eq_true rfl) (Nat.le_of_ble_eq_true rfl) ?_
    exact W.lret (v := (lI 3600000)) hx hb hr (fun t ht hW => ⟨⟨(lI 3600000), (), rfl, (by rcases ce_or (xG 11) with ⟨h1, h2⟩ | ⟨h1, h2⟩ <;> first | omega | (rw [h2])), by rw [ht]; exact hP.sub [0, 1] rfl, by rw [hAe]; exact hD.sub [0, 1] (by decide) rfl⟩, hS.F ht⟩) hS.2.2 dX11_cent_24
  · refine q_sipush (z := 365) hx hb dX11_cent_13 (by decide) ?_
    refine lv_goto (tgt := 22) hx hb dX11_cent_16 (by decide) ?_
    refine q_i2l hx hb dX11_cent_22 (by omega) ?_
    refine q_lmul (z := 3650000) hx hb dX11_cent_23 (by omega) ?_
    rw [hQ]
    refine W.widen (k := 0) (n := 0) (Nat.le_of_ble_eq_true rfl) (Nat.le_of_ble_eq_true rfl) ?_
    exact W.lret (v := (lI 3650000)) hx hb hr (fun t ht hW => ⟨⟨(lI 3650000), (), rfl, (by rcases ce_or (xG 11) with ⟨h1, h2⟩ | ⟨h1, h2⟩ <;> first | omega | (rw [h2])), by rw [ht]; exact hP.sub [0, 1] rfl, by rw [hAe]; exact hD.sub [0, 1] (by decide) rfl⟩, hS.F ht⟩) hS.2.2 dX11_cent_24
set_option maxHeartbeats 4000000 in
set_option maxRecDepth 100000 in
/-- the reference: cents -/
theorem c_X11_cents (l : Launch) (dC : Nat → ClassId) (dI : Nat → Nat → Nat) (k : Nat → ClassId) (h0 hg : Nat) (xfr : List Value) (xG : Nat → Int) (x : Int) (hd : 0 ≤ xG 11 ∧ xG 11 ≤ 2) (hd2 : (xG 11 = 0 → -1825000 ≤ x) ∧ (xG 11 ≠ 0 → -1800000 ≤ x) ∧ x ≤ 4000000000000000000) (sz : Nat) : Met l yX11_cents woX11_cents ({ frames := 1, cells := 0, slots := 0, locals := 20 } : Room) (PcW (dC, dI) k [.ref h0, .long (lI x)] [(h0, .inr (11, .ref hg :: xfr)), (hg, .inl (k 0, 1460, .inl (aI xG)))] sz) (va_Ql (fun (r : Int64) (_ : Unit) => r = lI (cnE (xG 11) x)) (QB (dC, dI) [(h0, .inr (11, .ref hg :: xfr)), (hg, .inl (k 0, 1460, .inl (aI xG)))] (fun _ => [(h0, .inr (11, .ref hg :: xfr)), (hg, .inl (k 0, 1460, .inl (aI xG)))]) sz) (va_A [(h0, .inr (11, .ref hg :: xfr)), (hg, .inl (k 0, 1460, .inl (aI xG)))] sz)) 0 0 (va_A [(h0, .inr (11, .ref hg :: xfr)), (hg, .inl (k 0, 1460, .inl (aI xG)))] sz) := by
  refine Met.ofW (cc := cX11_cents) (maxL := 7) (ret := (some .long)) (by decide) rfl ?_
  intro p e s mI args below meth cO s₁ B hml hv
  obtain ⟨rfl, rfl, hP, hD0, hE⟩ := hv
  have hx := B.exec
  have hb := B.bytes
  have hr := B.returns
  have hts := atoms_spec (ws := woX11_cents) B.pre
  have hown : s.vm.findClass RX11 = some mI.cls := findClass_of_methodNamed B.named
  have hlocks := B.notSynchronized
  have hD := hD0.self (sz := s.heap.size)
  generalize hAe : va_A [(h0, .inr (11, .ref hg :: xfr)), (hg, .inl (k 0, 1460, .inl (aI xG)))] s.heap.size = A at hD hE ⊢
  have hA : ∀ q : Nat, s.heap.size ≤ q → A q := fun q h => by rw [← hAe]; exact Or.inr h
  have hS : va_S A s.heap s.heap [] := va_S.rf
  obtain ⟨hK, hNw, hNc, hZs, hAO1, hAO2⟩ := id hE
  have hSF : CallFix p mI cO cX11_cents 7 s ([.ref h0, .long (lI x)] : List Value).toArray woX11_cents RX11 := ⟨hx, hb, hml, hown, hts⟩
  have hl := lv_entry ([.ref h0, .long (lI x)] : List Value) (n := 7) (Nat.le_of_ble_eq_true rfl)
  rw [lg_entry_eq]
  generalize (lg_sl ([.ref h0, .long (lI x)] : List Value) ++ List.replicate (7 - (lg_sl ([.ref h0, .long (lI x)] : List Value)).length) Slot.unset).toArray = ls at hl ⊢
  have hl : lv_has ls 7 [(0, .ref h0), (1, .long (lI x))] := hl
  refine W_gen (fun Q hQ => ?_)
  change W p l e ({ frames := 1, cells := 0, slots := 0, locals := 20 } : Room) s mI _ below meth cO s.heap [] 0 0 Q _
  have hP : va_P (dC, dI) vwCl [(h0, .inr (11, .ref hg :: xfr)), (hg, .inl (k 0, 1460, .inl (aI xG)))] s.heap := hP
  have hce := ce_or (xG 11)
  refine q_ldc2 (z := 2) hx hb hown (hts (.constantLong RX11 108 (2)) (List.mem_cons_of_mem _ (wl_15 (List.mem_of_getElem? (i := 14) rfl)))) dX11_cents_0 (by decide) ?_
  refine lv_lload_n hx hb dX11_cents_3 rfl (lv_at hl 1 rfl) ?_
  refine q_lmul (z := 2 * x) hx hb dX11_cents_4 (by omega) ?_
  refine lv_aload_n hx hb dX11_cents_5 rfl (lv_at hl 0 rfl) ?_
  refine kl (va_runV (As := []) (rest := [.long (lI (2 * x))]) hSF ((c_X11_cent l dC dI k h0 hg xfr xG hd) s.heap.size) (cwV 0 hts gX11_cents_X11_cent rfl rfl rfl (by decide +kernel) ⟨Nat.le_of_ble_eq_true rfl, Nat.le_of_ble_eq_true rfl⟩) (preV hP hD hE hS hA [0, 1] rfl (by decide) (ci := 11) (q0 := 0) rfl rfl) rfl rfl hl.1 rfl (lv_room (Nat.le_of_ble_eq_true rfl)) dX11_cents_6 ⟨Nat.le_of_ble_eq_true rfl, Nat.le_of_ble_eq_true rfl⟩) hP hD hS hA [0, 1] [] rfl (wr := []) rfl (by decide) (by decide) (fun r6 _ H locs hw hP hD hS => ?_)
  obtain rfl : r6 = (lI (ceE (xG 11))) := hw
  have hP : va_P (dC, dI) vwCl [(h0, .inr (11, .ref hg :: xfr)), (hg, .inl (k 0, 1460, .inl (aI xG)))] H := hP
  have hD : va_D A [(h0, .inr (11, .ref hg :: xfr)), (hg, .inl (k 0, 1460, .inl (aI xG)))] := hD
  refine q_ladd (z := 2 * x + (ceE (xG 11))) hx hb dX11_cents_9 (by omega) ?_
  refine lv_lstore_n (lv' := [(3, .long (lI (2 * x + (ceE (xG 11))))), (0, .ref h0), (1, .long (lI x))]) hx hb dX11_cents_10 rfl hl (by decide) rfl (fun ls hl => ?_)
  refine lv_lload_n hx hb dX11_cents_11 rfl (lv_at hl 0 rfl) ?_
  refine q_ldc2 (z := 2) hx hb hown (hts (.constantLong RX11 108 (2)) (List.mem_cons_of_mem _ (wl_15 (List.mem_of_getElem? (i := 14) rfl)))) dX11_cents_12 (by decide) ?_
  refine lv_aload_n hx hb dX11_cents_15 rfl (lv_at hl 1 rfl) ?_
  refine kl (va_runV (As := []) (rest := [.long (lI 2), .long (lI (2 * x + (ceE (xG 11))))]) hSF ((c_X11_cent l dC dI k h0 hg xfr xG hd) H.size) (cwV 0 hts gX11_cents_X11_cent rfl rfl rfl (by decide +kernel) ⟨Nat.le_of_ble_eq_true rfl, Nat.le_of_ble_eq_true rfl⟩) (preV hP hD hE hS hA [0, 1] rfl (by decide) (ci := 11) (q0 := 0) rfl rfl) rfl rfl hl.1 rfl (lv_room (Nat.le_of_ble_eq_true rfl)) dX11_cents_16 ⟨Nat.le_of_ble_eq_true rfl, Nat.le_of_ble_eq_true rfl⟩) hP hD hS hA [0, 1] [] rfl (wr := []) rfl (by decide) (by decide) (fun r16 _ H locs hw hP hD hS => ?_)
  obtain rfl : r16 = (lI (ceE (xG 11))) := hw
  have hP : va_P (dC, dI) vwCl [(h0, .inr (11, .ref hg :: xfr)), (hg, .inl (k 0, 1460, .inl (aI xG)))] H := hP
  have hD : va_D A [(h0, .inr (11, .ref hg :: xfr)), (hg, .inl (k 0, 1460, .inl (aI xG)))] := hD
  refine q_lmul (z := 2 * (ceE (xG 11))) hx hb dX11_cents_19 (by omega) ?_
  refine q_ldiv (z := ((2 * x + (ceE (xG 11))) / (2 * (ceE (xG 11))))) hx hb dX11_cents_20 (by omega) rfl ?_
  refine lv_lstore (lv' := [(5, .long (lI ((2 * x + (ceE (xG 11))) / (2 * (ceE (xG 11)))))), (3, .long (lI (2 * x + (ceE (xG 11))))), (0, .ref h0), (1, .long (lI x))]) hx hb dX11_cents_21 hl (by decide) rfl (fun ls hl => ?_)
  refine lv_lload_n hx hb dX11_cents_23 rfl (lv_at hl 1 rfl) ?_
  refine q_lconst (z := 0) hx hb dX11_cents_24 (by decide) ?_
  refine q_lcmp hx hb dX11_cents_25 ?_
  refine q_lif_ge (tgt := 52) hx hb dX11_cents_26 (by decide) (by omega) (fun _ => ?_) (fun q => absurd q (by omega))
  refine lv_lload hx hb dX11_cents_52 (lv_at hl 0 rfl) ?_
  rw [hQ]
  refine W.widen (k := 0) (n := 0) (Nat.le_of_ble_eq_true rfl) (Nat.le_of_ble_eq_true rfl) ?_
  exact W.lret (v := (lI ((2 * x + (ceE (xG 11))) / (2 * (ceE (xG 11)))))) hx hb hr (fun t ht hW => ⟨⟨(lI ((2 * x + (ceE (xG 11))) / (2 * (ceE (xG 11))))), (), rfl, (by rw [cn_two]), by rw [ht]; exact hP.sub [0, 1] rfl, by rw [hAe]; exact hD.sub [0, 1] (by decide) rfl⟩, hS.F ht⟩) hS.2.2 dX11_cents_54
