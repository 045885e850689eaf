theorem gL_restore_X10_restore : GoodIn woL_restore (wsV RL 109 RX10 yX10_restore woX10_restore) := go_V (wl_46 (List.mem_of_getElem? (i := 17) rfl)) (wl_46 (List.mem_of_getElem? (i := 14) rfl)) (wl_46 (List.mem_of_getElem? (i := 15) rfl)) (wl_46 (List.mem_of_getElem? (i := 16) rfl)) (wl_1 (List.mem_of_getElem? (i := 2) rfl))
set_option maxHeartbeats 4000000 in
set_option maxRecDepth 100000 in
/-- the law: restore, refused -/
theorem c_L_restore (l : Launch) (hl0 : l.stackTraces = false) (dC : Nat → ClassId) (dI : Nat → Nat → Nat) (k : Nat → ClassId) (hout : Nat) (h0 hn g1 g2 hea g3 g4 g5 g6 g7 xa1 xa2 xa3 xa4 xa5 xa6 xa7 xa8 xa9 xa10 xa11 : Nat) (sz : Nat) : Met l yL_restore woL_restore ({ frames := 7, cells := 1, slots := 6, locals := 101 } : Room) (PcW (dC, dI) k [.ref h0, .ref hout] [(h0, .inr (10, [.ref hn, .ref g1, .ref g2, .ref hea, .ref g3, .ref g4, .ref g5, .ref g6, .ref g7, .int (iI 0), .int (iI 0), .int (iI 0), .int (iI (-1)), .int (iI (-1)), .int (iI 0)])), (hout, .inl (k 1, 1, .inr (.inl (aL aZ))))] sz) (va_Qi (fun (r : Int32) (_ : Unit) => r = iI 1) (QB (dC, dI) [(h0, .inr (10, [.ref hn, .ref g1, .ref g2, .ref hea, .ref g3, .ref g4, .ref g5, .ref g6, .ref g7, .int (iI 0), .int (iI 0), .int (iI 0), .int (iI (-1)), .int (iI (-1)), .int (iI 0)])), (hout, .inl (k 1, 1, .inr (.inl (aL aZ))))] (fun _ => []) sz) (va_A [(h0, .inr (10, [.ref hn, .ref g1, .ref g2, .ref hea, .ref g3, .ref g4, .ref g5, .ref g6, .ref g7, .int (iI 0), .int (iI 0), .int (iI 0), .int (iI (-1)), .int (iI (-1)), .int (iI 0)])), (hout, .inl (k 1, 1, .inr (.inl (aL aZ))))] sz)) 1 6 (va_A [(h0, .inr (10, [.ref hn, .ref g1, .ref g2, .ref hea, .ref g3, .ref g4, .ref g5, .ref g6, .ref g7, .int (iI 0), .int (iI 0), .int (iI 0), .int (iI (-1)), .int (iI (-1)), .int (iI 0)])), (hout, .inl (k 1, 1, .inr (.inl (aL aZ))))] sz) := by
  refine Met_ofWH (cc := cL_restore) (maxL := 3) (ret := (some .int)) (by decide) rfl ?_
  intro p e s mI args below meth cO s₁ B hml hv
  obtain ⟨rfl, rfl, hP, hD0, hE⟩ := hv
  have hx := B.exec
  have hb := B.bytes
  have hr := B.returns
  have hts := atoms_spec (ws := woL_restore) B.pre
  have hown : s.vm.findClass RL = some mI.cls := findClass_of_methodNamed B.named
  have hlocks := B.notSynchronized
  have htab := vx_table (x := yL_restore) B (hts (.codeWith yL_restore cL_restore 3 (some .int) [(0, 8, 11, 19)]) List.mem_cons_self)
  have hD := hD0.self (sz := s.heap.size)
  generalize hAe : va_A [(h0, .inr (10, [.ref hn, .ref g1, .ref g2, .ref hea, .ref g3, .ref g4, .ref g5, .ref g6, .ref g7, .int (iI 0), .int (iI 0), .int (iI 0), .int (iI (-1)), .int (iI (-1)), .int (iI 0)])), (hout, .inl (k 1, 1, .inr (.inl (aL aZ))))] s.heap.size = A at hD hE ⊢
  have hA : ∀ q : Nat, s.heap.size ≤ q → A q := fun q h => by rw [← hAe]; exact Or.inr h
  have hS : va_S A s.heap s.heap [] := va_S.rf
  obtain ⟨hK, hNw, hNc, hZs, hAO1, hAO2⟩ := id hE
  have hSF : CallFix p mI cO cL_restore 3 s ([.ref h0, .ref hout] : List Value).toArray woL_restore RL := ⟨hx, hb, hml, hown, hts⟩
  have hl := lv_entry ([.ref h0, .ref hout] : List Value) (n := 3) (Nat.le_of_ble_eq_true rfl)
  rw [lg_entry_eq]
  generalize (lg_sl ([.ref h0, .ref hout] : List Value) ++ List.replicate (3 - (lg_sl ([.ref h0, .ref hout] : List Value)).length) Slot.unset).toArray = ls at hl ⊢
  have hl : lv_has ls 3 [(0, .ref h0), (1, .ref hout)] := hl
  refine W_gen (fun Q hQ => ?_)
  change W p l e ({ frames := 7, cells := 1, slots := 6, locals := 101 } : Room) s mI _ below meth cO s.heap [] 0 0 Q _
  have hP : va_P (dC, dI) vwCl [(h0, .inr (10, [.ref hn, .ref g1, .ref g2, .ref hea, .ref g3, .ref g4, .ref g5, .ref g6, .ref g7, .int (iI 0), .int (iI 0), .int (iI 0), .int (iI (-1)), .int (iI (-1)), .int (iI 0)])), (hout, .inl (k 1, 1, .inr (.inl (aL aZ))))] s.heap := hP
  refine lv_aload_n hx hb dL_restore_0 rfl (lv_at hl 1 rfl) ?_
  refine q_iconst hx hb dL_restore_1 ?_
  refine lv_aload_n hx hb dL_restore_2 rfl (lv_at hl 0 rfl) ?_
  refine kxi (vx_runV (As := []) (rest := [.int (iI 0), .ref hout]) hSF ((c_X10_restore l hl0 dC dI k h0 hn g1 g2 hea g3 g4 g5 g6 g7 0 0 0 0 0 0 0 0 0 0 0) s.heap.size) (cwV 0 hts gL_restore_X10_restore rfl rfl rfl (by decide +kernel) ⟨Nat.le_of_ble_eq_true rfl, Nat.le_of_ble_eq_true rfl⟩) (preV hP hD hE hS hA [0] rfl (by decide) (ci := 10) (q0 := 0) rfl rfl) rfl rfl hl.1 rfl (lv_room (Nat.le_of_ble_eq_true rfl)) dL_restore_3 ⟨Nat.le_of_ble_eq_true rfl, Nat.le_of_ble_eq_true rfl⟩) hP hD hS hA [0] [1] rfl (wr := [(hout, .inl (k 1, 1, .inr (.inl (aL aZ))))]) rfl (by decide) (by decide) (fun ce q9 H locs hP hD hS hc9 hv9 hcl => ?_)
  refine vx_catch (own := RL) (name := "java/lang/IllegalStateException") (E := "java/lang/IllegalStateException") hown [] ⟨0, 8, 11, 19⟩ [] (by rw [htab]; rfl) (fun z hz => by cases hz) (by decide) (by decide) (hts (.classLink RL 19 "java/lang/IllegalStateException") (List.mem_cons_of_mem _ (wl_16 (List.mem_of_getElem? (i := 7) rfl)))) (va_Nw.use rfl (hNw _ (List.mem_of_getElem? (i := 67) rfl))) hc9 hv9 hcl ?_
  change W p l e _ s mI _ below meth cO H locs _ _ Q (F0 mI 11 ls [.ref q9])
  refine lv_astore_n (lv' := [(2, .ref q9), (0, .ref h0), (1, .ref hout)]) hx hb dL_restore_11 rfl hl (by decide) rfl (fun ls hl => ?_)
  refine q_iconst hx hb dL_restore_12 ?_
  rw [hQ]
  refine W.widen (k := 1) (n := 6) (Nat.le_of_ble_eq_true rfl) (Nat.le_of_ble_eq_true rfl) ?_
  exact W.iret (v := (iI 1)) hx hb hr (fun t ht hW => ⟨⟨(iI 1), (), rfl, rfl, by rw [ht]; exact hP.sub [] rfl, by rw [hAe]; exact hD.sub [] (by decide) rfl⟩, hS.F ht⟩) hS.2.2 dL_restore_13
