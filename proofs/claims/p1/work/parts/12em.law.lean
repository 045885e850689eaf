theorem gL_law_L_copyRow : GoodIn wsL_law (va_wsS RL 221 yL_copyRow woL_copyRow) := gl_S (wl_44 (List.mem_of_getElem? (i := 9) rfl)) (wl_44 (List.mem_of_getElem? (i := 7) rfl)) (wl_44 (List.mem_of_getElem? (i := 8) rfl)) (wl_6 (List.mem_of_getElem? (i := 1) rfl))
theorem gL_law_L_restore : GoodIn wsL_law (va_wsS RL 232 yL_restore woL_restore) := gl_S (wl_46 (List.mem_of_getElem? (i := 13) rfl)) (wl_46 (List.mem_of_getElem? (i := 11) rfl)) (wl_46 (List.mem_of_getElem? (i := 12) rfl)) (wl_6 (List.mem_of_getElem? (i := 1) rfl))
theorem gL_law_L_stored : GoodIn wsL_law (va_wsS RL 224 yL_stored woL_stored) := gl_S (wl_45 (List.mem_of_getElem? (i := 8) rfl)) (wl_45 (List.mem_of_getElem? (i := 6) rfl)) (wl_45 (List.mem_of_getElem? (i := 7) rfl)) (wl_6 (List.mem_of_getElem? (i := 1) rfl))
theorem gL_law_X10_snapshot : GoodIn wsL_law (wsV RL 228 RX10 yX10_snapshot woX10_snapshot) := gl_V (wl_45 (List.mem_of_getElem? (i := 22) rfl)) (wl_45 (List.mem_of_getElem? (i := 19) rfl)) (wl_45 (List.mem_of_getElem? (i := 20) rfl)) (wl_45 (List.mem_of_getElem? (i := 21) rfl)) (wl_1 (List.mem_of_getElem? (i := 2) rfl))
theorem gL_law_X11_copyRow : GoodIn wsL_law (wsV RL 223 RX11 yX11_copyRow woX11_copyRow) := gl_V (wl_45 (List.mem_of_getElem? (i := 5) rfl)) (wl_45 (List.mem_of_getElem? (i := 2) rfl)) (wl_45 (List.mem_of_getElem? (i := 3) rfl)) (wl_45 (List.mem_of_getElem? (i := 4) rfl)) (wl_1 (List.mem_of_getElem? (i := 5) rfl))
theorem gL_law_X11_restore : GoodIn wsL_law (wsV RL 234 RX11 yX11_restore woX11_restore) := gl_V (wl_46 (List.mem_of_getElem? (i := 21) rfl)) (wl_46 (List.mem_of_getElem? (i := 18) rfl)) (wl_46 (List.mem_of_getElem? (i := 19) rfl)) (wl_46 (List.mem_of_getElem? (i := 20) rfl)) (wl_1 (List.mem_of_getElem? (i := 5) rfl))
theorem gL_law_X11_snapshot : GoodIn wsL_law (wsV RL 231 RX11 yX11_snapshot woX11_snapshot) := gl_V (wl_46 (List.mem_of_getElem? (i := 8) rfl)) (wl_46 (List.mem_of_getElem? (i := 5) rfl)) (wl_46 (List.mem_of_getElem? (i := 6) rfl)) (wl_46 (List.mem_of_getElem? (i := 7) rfl)) (wl_1 (List.mem_of_getElem? (i := 5) rfl))
theorem gL_law_X11_stored : GoodIn wsL_law (wsV RL 227 RX11 yX11_stored woX11_stored) := gl_V (wl_45 (List.mem_of_getElem? (i := 18) rfl)) (wl_45 (List.mem_of_getElem? (i := 15) rfl)) (wl_45 (List.mem_of_getElem? (i := 16) rfl)) (wl_45 (List.mem_of_getElem? (i := 17) rfl)) (wl_1 (List.mem_of_getElem? (i := 5) rfl))
set_option maxHeartbeats 4000000 in
set_option maxRecDepth 100000 in
theorem law_27_1_0 (l : Launch) (dC : Nat → ClassId) (dI : Nat → Nat → Nat) (k : Nat → ClassId) {p : Program} {e : Env} {s : State} {mI : MethodId} {below : List Frame} {meth : Method} {cO : Code} {bS L : Nat} {zs : Nat → Int32} (hL5 : L = 5) (C0 : lw_At p s mI meth cO bS L zs) (hE : En (dC, dI) k (va_A [] s.heap.size) s s.heap) (hout : Nat) (h0 hn g1 g2 hea g3 g4 g5 g6 g7 xa1 xa2 xa3 xa4 xa5 xa6 xa7 xa8 xa9 xa10 xa11 xd1 xd2 xd3 xd4 xd5 xd6 hrr xw1 xw2 : Nat) (xrF : Nat → Option Nat) (hr9 : xrF 1 = some hrr) (m0 mg mk mp mpu ms mpl mpd mtx mtd mrw mrl mir hoD : Nat) (y2 : Int) (x1 : zs 1 = iI 1) (x2 : zs 2 = iI y2) (hy2 : y2 = 0 ∧ -2147483648 ≤ y2 ∧ y2 ≤ 2147483647) : ∀ (H : Heap) (locs : List Loc), va_P (dC, dI) vwCl [(h0, .inr (10, [.ref hn, .ref g1, .ref g2, .ref hea, .ref g3, .ref g4, .ref g5, .ref g6, .ref g7, .int (iI 0), .int (iI 0), .int (iI 0), .int (iI (-1)), .int (iI (-1)), .int (iI 0)])), (hn, .inr (2, [.ref xa1, .ref xa2, .ref xa3, .ref xa5, .ref xa8, .int (iI 0), .int (iI 0), .int (iI 0)])), (xa1, .inl (k 0, 5, .inl (aI (upI (upI (upI (upI (upI aZ 0 0) 1 0) 2 10) 3 500) 4 0)))), (xa3, .inr (7, [.int (iI 0), .int (iI 0), .int (iI 0), .long (lI 0), .int (iI 0), .int (iI 0), .int (iI 0), .long (lI 0), .long (lI 0), .long (lI 0), .long (lI 0), .long (lI 0), .int (iI 0), .int (iI 0), .int (iI 0), .int (iI 0), .ref xa4])), (g5, .inr (8, [.long (lI 0), .long (lI 0), .long (lI 0), .int (iI 0), .int (iI 0), .int (iI 0), .int (iI 0), .int (iI 0), .ref xd1, .ref xd2, .int (iI 0), .ref xd3, .ref xd4, .ref xd5, .ref xd6])), (g7, .inl (k 7, 2, .inr (.inr (.inr (.inr xrF))))), (hrr, .inr (9, [.ref xw1, .ref xw2, .int (iI 0), .int (iI 0), .int (iI 0)])), (hout, .inl (k 1, 1, .inr (.inl (aL aZ)))), (m0, .inr (11, [.ref mg, .long (lI 0), .ref mk, .long (lI 0), .int (iI 0), .ref mp, .ref mpu, .int (iI 0), .ref ms, .long (lI 0), .int (iI 0), .int (iI 0), .int (iI 0), .int (iI 0), .int (iI 0), .long (lI 0), .ref mpl, .int (iI 0), .ref mpd, .int (iI 0), .ref mtx, .int (iI 0), .int (iI 0), .int (iI (-1)), .int (iI (-1)), .int (iI 0), .ref mtd, .int (iI 0), .ref mrw, .ref mrl, .ref mir])), (mg, .inl (k 0, 1460, .inl (aI g0F))), (mrl, .inl (k 0, 2, .inl (aI rlF))), (mir, .inl (k 5, 2, .inl (aI aZ)))] H → va_D (va_A [] s.heap.size) [(h0, .inr (10, [.ref hn, .ref g1, .ref g2, .ref hea, .ref g3, .ref g4, .ref g5, .ref g6, .ref g7, .int (iI 0), .int (iI 0), .int (iI 0), .int (iI (-1)), .int (iI (-1)), .int (iI 0)])), (hn, .inr (2, [.ref xa1, .ref xa2, .ref xa3, .ref xa5, .ref xa8, .int (iI 0), .int (iI 0), .int (iI 0)])), (xa1, .inl (k 0, 5, .inl (aI (upI (upI (upI (upI (upI aZ 0 0) 1 0) 2 10) 3 500) 4 0)))), (xa3, .inr (7, [.int (iI 0), .int (iI 0), .int (iI 0), .long (lI 0), .int (iI 0), .int (iI 0), .int (iI 0), .long (lI 0), .long (lI 0), .long (lI 0), .long (lI 0), .long (lI 0), .int (iI 0), .int (iI 0), .int (iI 0), .int (iI 0), .ref xa4])), (g5, .inr (8, [.long (lI 0), .long (lI 0), .long (lI 0), .int (iI 0), .int (iI 0), .int (iI 0), .int (iI 0), .int (iI 0), .ref xd1, .ref xd2, .int (iI 0), .ref xd3, .ref xd4, .ref xd5, .ref xd6])), (g7, .inl (k 7, 2, .inr (.inr (.inr (.inr xrF))))), (hrr, .inr (9, [.ref xw1, .ref xw2, .int (iI 0), .int (iI 0), .int (iI 0)])), (hout, .inl (k 1, 1, .inr (.inl (aL aZ)))), (m0, .inr (11, [.ref mg, .long (lI 0), .ref mk, .long (lI 0), .int (iI 0), .ref mp, .ref mpu, .int (iI 0), .ref ms, .long (lI 0), .int (iI 0), .int (iI 0), .int (iI 0), .int (iI 0), .int (iI 0), .long (lI 0), .ref mpl, .int (iI 0), .ref mpd, .int (iI 0), .ref mtx, .int (iI 0), .int (iI 0), .int (iI (-1)), .int (iI (-1)), .int (iI 0), .ref mtd, .int (iI 0), .ref mrw, .ref mrl, .ref mir])), (mg, .inl (k 0, 1460, .inl (aI g0F))), (mrl, .inl (k 0, 2, .inl (aI rlF))), (mir, .inl (k 5, 2, .inl (aI aZ)))] → va_S (va_A [] s.heap.size) s.heap H locs → ∀ ls : Array Slot, lv_has ls 9 [(5, .int (iI 0)), (4, .ref hoD), (3, .ref hout), (2, .ref m0), (1, .ref h0), (0, .ref bS)] → W p l e room_1 s mI #[Value.ref bS] below meth cO H locs 173 27875 (lw_Z below #[Value.ref bS] s) (F0 mI 1630 ls []) := by
  intro H locs hP hD hS ls hl
  obtain ⟨hx, hb, hr, hml, hown0, hts0, hX, hbl, hlocks, hgv⟩ := id C0
  have hts : ∀ w ∈ wsL_law, w.before #[Value.ref bS] s = true := fun w h => hts0 w (wsL_law_in w h)
  have hown : s.vm.findClass RL = some mI.cls := hown0
  generalize hAe : va_A [] s.heap.size = A at hE hD hS
  have hA : ∀ q : Nat, s.heap.size ≤ q → A q := fun q h => by rw [← hAe]; exact Or.inr h
  have hbA : ¬ A bS := fa_A hAe hbl
  obtain ⟨hK, hNw, hNc, hZs, hAO1, hAO2⟩ := id hE
  have hSF : CallFix p mI cO cL_law 9 s ([.ref bS] : List Value).toArray wsL_law RL := ⟨hx, hb, hml, hown, hts⟩
  refine lv_aload_n hx hb dL_law_1630 rfl (lv_at hl 4 rfl) ?_
  refine lv_aload_n hx hb dL_law_1631 rfl (lv_at hl 5 rfl) ?_
  refine lv_iload hx hb dL_law_1632 (lv_at hl 0 rfl) ?_
  refine q_iconst hx hb dL_law_1634 ?_
  refine q_iadd (z := 1) hx hb dL_law_1635 (by omega) ?_
  refine va_sld hx hb hX hbl hbA hS (iI_in (by omega)) dL_law_1636 ?_
  rw [show (iI 1).toNatClampNeg = 1 from by decide, x1]
  refine lv_aload_n hx hb dL_law_1637 rfl (lv_at hl 5 rfl) ?_
  refine lv_iload hx hb dL_law_1638 (lv_at hl 0 rfl) ?_
  refine q_iconst hx hb dL_law_1640 ?_
  refine q_iadd (z := 2) hx hb dL_law_1641 (by omega) ?_
  refine va_sld hx hb hX hbl hbA hS (iI_in (by omega)) dL_law_1642 ?_
  rw [show (iI 2).toNatClampNeg = 2 from by decide, x2]
  refine q_if_eq (tgt := 1650) hx hb dL_law_1643 (by decide) (by omega) (fun _ => ?_) (fun q => absurd q (by omega))
  refine q_iconst hx hb dL_law_1650 ?_
  refine lv_aload_n hx hb dL_law_1651 rfl (lv_at hl 2 rfl) ?_
  refine ki (vx_runSW (As := [.ref h0, .int (iI 1), .int (iI 0), .ref hout]) (rest := []) hSF ((c_L_storeSchedule_1_0 l dC dI k hout h0 hn g1 g2 hea g3 g4 g5 g6 g7 xa1 xa2 xa3 xa4 xa5 0 0 xa8 0 0 0 xd1 xd2 xd3 xd4 xd5 xd6 hrr xw1 xw2 xrF hr9) H.size) (vx_cwSW 4 hts gL_law_L_storeSchedule rfl rfl rfl (by decide +kernel) ⟨Nat.le_of_ble_eq_true rfl, Nat.le_of_ble_eq_true rfl⟩) (preS hP hD hE hS hA [0, 1, 2, 3, 4, 5, 6, 7] rfl (by decide)) rfl rfl hl.1 rfl (lv_room (Nat.le_of_ble_eq_true rfl)) dL_law_1652 ⟨Nat.le_of_ble_eq_true rfl, Nat.le_of_ble_eq_true rfl⟩) hP hD hS hA [0, 1, 2, 3, 4, 5, 6, 7] [8, 9, 10, 11] rfl (wr := [(m0, .inr (11, [.ref mg, .long (lI 0), .ref mk, .long (lI 0), .int (iI 0), .ref mp, .ref mpu, .int (iI 0), .ref ms, .long (lI 0), .int (iI 0), .int (iI 0), .int (iI 0), .int (iI 0), .int (iI 0), .long (lI 0), .ref mpl, .int (iI 0), .ref mpd, .int (iI 0), .ref mtx, .int (iI 0), .int (iI 0), .int (iI (-1)), .int (iI (-1)), .int (iI 0), .ref mtd, .int (iI 0), .ref mrw, .ref mrl, .ref mir])), (mg, .inl (k 0, 1460, .inl (aI g0F))), (mrl, .inl (k 0, 2, .inl (aI rlF))), (mir, .inl (k 5, 2, .inl (aI aZ)))]) rfl (by decide) (by decide) (fun r1652 _ H locs hw hP hD hS => ?_)
  obtain rfl : r1652 = (iI 0) := hw
  have hP : va_P (dC, dI) vwCl [(m0, .inr (11, [.ref mg, .long (lI 0), .ref mk, .long (lI 0), .int (iI 0), .ref mp, .ref mpu, .int (iI 0), .ref ms, .long (lI 0), .int (iI 0), .int (iI 0), .int (iI 0), .int (iI 0), .int (iI 0), .long (lI 0), .ref mpl, .int (iI 0), .ref mpd, .int (iI 0), .ref mtx, .int (iI 0), .int (iI 0), .int (iI (-1)), .int (iI (-1)), .int (iI 0), .ref mtd, .int (iI 0), .ref mrw, .ref mrl, .ref mir])), (mg, .inl (k 0, 1460, .inl (aI g0F))), (mrl, .inl (k 0, 2, .inl (aI rlF))), (mir, .inl (k 5, 2, .inl (aI aZ))), (hout, .inl (k 1, 1, .inr (.inl (aL (upI aZ 0 0)))))] H := hP
  have hD : va_D A [(m0, .inr (11, [.ref mg, .long (lI 0), .ref mk, .long (lI 0), .int (iI 0), .ref mp, .ref mpu, .int (iI 0), .ref ms, .long (lI 0), .int (iI 0), .int (iI 0), .int (iI 0), .int (iI 0), .int (iI 0), .long (lI 0), .ref mpl, .int (iI 0), .ref mpd, .int (iI 0), .ref mtx, .int (iI 0), .int (iI 0), .int (iI (-1)), .int (iI (-1)), .int (iI 0), .ref mtd, .int (iI 0), .ref mrw, .ref mrl, .ref mir])), (mg, .inl (k 0, 1460, .inl (aI g0F))), (mrl, .inl (k 0, 2, .inl (aI rlF))), (mir, .inl (k 5, 2, .inl (aI aZ))), (hout, .inl (k 1, 1, .inr (.inl (aL (upI aZ 0 0)))))] := hD
  refine lv_istore (lv' := [(6, .int (iI 0)), (5, .int (iI 0)), (4, .ref hoD), (3, .ref hout), (2, .ref m0), (1, .ref h0), (0, .ref bS)]) hx hb dL_law_1655 hl (by decide) rfl (fun ls hl => ?_)
  refine lv_aload_n hx hb dL_law_1657 rfl (lv_at hl 4 rfl) ?_
  refine lv_aload_n hx hb dL_law_1658 rfl (lv_at hl 6 rfl) ?_
  refine lv_iload hx hb dL_law_1659 (lv_at hl 1 rfl) ?_
  refine q_iconst hx hb dL_law_1661 ?_
  refine q_iadd (z := 1) hx hb dL_law_1662 (by omega) ?_
  refine va_sld hx hb hX hbl hbA hS (iI_in (by omega)) dL_law_1663 ?_
  rw [show (iI 1).toNatClampNeg = 1 from by decide, x1]
  refine lv_aload_n hx hb dL_law_1664 rfl (lv_at hl 6 rfl) ?_
  refine lv_iload hx hb dL_law_1665 (lv_at hl 1 rfl) ?_
  refine q_iconst hx hb dL_law_1667 ?_
  refine q_iadd (z := 2) hx hb dL_law_1668 (by omega) ?_
  refine va_sld hx hb hX hbl hbA hS (iI_in (by omega)) dL_law_1669 ?_
  rw [show (iI 2).toNatClampNeg = 2 from by decide, x2]
  refine q_if_eq (tgt := 1677) hx hb dL_law_1670 (by decide) (by omega) (fun _ => ?_) (fun q => absurd q (by omega))
  refine q_iconst hx hb dL_law_1677 ?_
  refine ki (va_runV (As := [.int (iI 1), .int (iI 0)]) (rest := []) hSF ((c_X11_storeSchedule_1_0 l dC dI k m0 mg mk mp mpu ms mpl mpd mtx mtd mrw mrl mir) H.size) (cwV 2 hts gL_law_X11_storeSchedule rfl rfl rfl (by decide +kernel) ⟨Nat.le_of_ble_eq_true rfl, Nat.le_of_ble_eq_true rfl⟩) (preV hP hD hE hS hA [0, 1, 2, 3] rfl (by decide) (ci := 11) (q0 := 0) rfl rfl) rfl rfl hl.1 rfl (lv_room (Nat.le_of_ble_eq_true rfl)) dL_law_1678 ⟨Nat.le_of_ble_eq_true rfl, Nat.le_of_ble_eq_true rfl⟩) hP hD hS hA [0, 1, 2, 3] [4] rfl (wr := [(hout, .inl (k 1, 1, .inr (.inl (aL (upI aZ 0 0)))))]) rfl (by decide) (by decide) (fun r1678 _ H locs hw hP hD hS => ?_)
  obtain rfl : r1678 = (iI 0) := hw
  have hP : va_P (dC, dI) vwCl [(hout, .inl (k 1, 1, .inr (.inl (aL (upI aZ 0 0))))), (m0, .inr (11, [.ref mg, .long (lI 0), .ref mk, .long (lI 0), .int (iI 0), .ref mp, .ref mpu, .int (iI 0), .ref ms, .long (lI 0), .int (iI 0), .int (iI 0), .int (iI 0), .int (iI 0), .int (iI 0), .long (lI 0), .ref mpl, .int (iI 0), .ref mpd, .int (iI 0), .ref mtx, .int (iI 0), .int (iI 0), .int (iI (-1)), .int (iI (-1)), .int (iI 0), .ref mtd, .int (iI 0), .ref mrw, .ref mrl, .ref mir]))] H := hP
  have hD : va_D A [(hout, .inl (k 1, 1, .inr (.inl (aL (upI aZ 0 0))))), (m0, .inr (11, [.ref mg, .long (lI 0), .ref mk, .long (lI 0), .int (iI 0), .ref mp, .ref mpu, .int (iI 0), .ref ms, .long (lI 0), .int (iI 0), .int (iI 0), .int (iI 0), .int (iI 0), .int (iI 0), .long (lI 0), .ref mpl, .int (iI 0), .ref mpd, .int (iI 0), .ref mtx, .int (iI 0), .int (iI 0), .int (iI (-1)), .int (iI (-1)), .int (iI 0), .ref mtd, .int (iI 0), .ref mrw, .ref mrl, .ref mir]))] := hD
  refine lv_istore (lv' := [(7, .int (iI 0)), (6, .int (iI 0)), (5, .int (iI 0)), (4, .ref hoD), (3, .ref hout), (2, .ref m0), (1, .ref h0), (0, .ref bS)]) hx hb dL_law_1681 hl (by decide) rfl (fun ls hl => ?_)
  refine lv_aload_n hx hb dL_law_1683 rfl (lv_at hl 5 rfl) ?_
  refine ki (va_runV (As := []) (rest := []) hSF ((c_X11_thrown l dC dI k m0 (.ref mg) (.long (lI 0)) (.ref mk) (.long (lI 0)) (.int (iI 0)) (.ref mp) (.ref mpu) (.int (iI 0)) (.ref ms) (.long (lI 0)) (.int (iI 0)) 0 [.int (iI 0), .int (iI 0), .int (iI 0), .long (lI 0), .ref mpl, .int (iI 0), .ref mpd, .int (iI 0), .ref mtx, .int (iI 0), .int (iI 0), .int (iI (-1)), .int (iI (-1)), .int (iI 0), .ref mtd, .int (iI 0), .ref mrw, .ref mrl, .ref mir]) H.size) (cwV 0 hts gL_law_X11_thrown rfl rfl rfl (by decide +kernel) ⟨Nat.le_of_ble_eq_true rfl, Nat.le_of_ble_eq_true rfl⟩) (preV hP hD hE hS hA [1] rfl (by decide) (ci := 11) (q0 := 1) rfl rfl) rfl rfl hl.1 rfl (lv_room (Nat.le_of_ble_eq_true rfl)) dL_law_1684 ⟨Nat.le_of_ble_eq_true rfl, Nat.le_of_ble_eq_true rfl⟩) hP hD hS hA [1] [0] rfl (wr := [(hout, .inl (k 1, 1, .inr (.inl (aL (upI aZ 0 0)))))]) rfl (by decide) (by decide) (fun r1684 _ H locs hw hP hD hS => ?_)
  obtain rfl : r1684 = (iI 0) := hw
  have hP : va_P (dC, dI) vwCl [(hout, .inl (k 1, 1, .inr (.inl (aL (upI aZ 0 0))))), (m0, .inr (11, [.ref mg, .long (lI 0), .ref mk, .long (lI 0), .int (iI 0), .ref mp, .ref mpu, .int (iI 0), .ref ms, .long (lI 0), .int (iI 0), .int (iI 0), .int (iI 0), .int (iI 0), .int (iI 0), .long (lI 0), .ref mpl, .int (iI 0), .ref mpd, .int (iI 0), .ref mtx, .int (iI 0), .int (iI 0), .int (iI (-1)), .int (iI (-1)), .int (iI 0), .ref mtd, .int (iI 0), .ref mrw, .ref mrl, .ref mir]))] H := hP
  have hD : va_D A [(hout, .inl (k 1, 1, .inr (.inl (aL (upI aZ 0 0))))), (m0, .inr (11, [.ref mg, .long (lI 0), .ref mk, .long (lI 0), .int (iI 0), .ref mp, .ref mpu, .int (iI 0), .ref ms, .long (lI 0), .int (iI 0), .int (iI 0), .int (iI 0), .int (iI 0), .int (iI 0), .long (lI 0), .ref mpl, .int (iI 0), .ref mpd, .int (iI 0), .ref mtx, .int (iI 0), .int (iI 0), .int (iI (-1)), .int (iI (-1)), .int (iI 0), .ref mtd, .int (iI 0), .ref mrw, .ref mrl, .ref mir]))] := hD
  refine lv_iload hx hb dL_law_1687 (lv_at hl 1 rfl) ?_
  refine q_icmp_eq (tgt := 1694) hx hb dL_law_1689 (by decide) (by omega) (fun _ => ?_) (fun q => absurd q (by omega))
  refine lv_iload hx hb dL_law_1694 (lv_at hl 1 rfl) ?_
  refine q_if_ne (tgt := 1711) hx hb dL_law_1696 (by decide) (by omega) (fun q => absurd q (by omega)) (fun _ => ?_)
  refine lv_aload_n hx hb dL_law_1699 rfl (lv_at hl 4 rfl) ?_
  refine q_iconst hx hb dL_law_1700 ?_
  refine q_lald (z := 0) hx hb hK hP 0 1 rfl rfl (by omega) upI_s dL_law_1701 ?_
  refine lv_iload hx hb dL_law_1702 (lv_at hl 0 rfl) ?_
  refine q_i2l hx hb dL_law_1704 (by omega) ?_
  refine q_lcmp hx hb dL_law_1705 ?_
  refine q_lif_eq (tgt := 1711) hx hb dL_law_1706 (by decide) (by omega) (fun _ => ?_) (fun q => absurd q (by omega))
  refine lv_goto (tgt := 1935) hx hb dL_law_1711 (by decide) ?_
  exact law_end l hL5 C0 hAe hS (lv_sub hl [2, 7] rfl) (Nat.le_of_ble_eq_true rfl) (Nat.le_of_ble_eq_true rfl)
set_option maxHeartbeats 4000000 in
set_option maxRecDepth 100000 in
theorem law_27_1_1 (l : Launch) (dC : Nat → ClassId) (dI : Nat → Nat → Nat) (k : Nat → ClassId) {p : Program} {e : Env} {s : State} {mI : MethodId} {below : List Frame} {meth : Method} {cO : Code} {bS L : Nat} {zs : Nat → Int32} (hL5 : L = 5) (C0 : lw_At p s mI meth cO bS L zs) (hE : En (dC, dI) k (va_A [] s.heap.size) s s.heap) (hout : Nat) (h0 hn g1 g2 hea g3 g4 g5 g6 g7 xa1 xa2 xa3 xa4 xa5 xa6 xa7 xa8 xa9 xa10 xa11 xd1 xd2 xd3 xd4 xd5 xd6 hrr xw1 xw2 : Nat) (xrF : Nat → Option Nat) (hr9 : xrF 1 = some hrr) (m0 mg mk mp mpu ms mpl mpd mtx mtd mrw mrl mir hoD : Nat) (y2 : Int) (x1 : zs 1 = iI 1) (x2 : zs 2 = iI y2) (hy2 : y2 ≠ 0 ∧ -2147483648 ≤ y2 ∧ y2 ≤ 2147483647) : ∀ (H : Heap) (locs : List Loc), va_P (dC, dI) vwCl [(h0, .inr (10, [.ref hn, .ref g1, .ref g2, .ref hea, .ref g3, .ref g4, .ref g5, .ref g6, .ref g7, .int (iI 0), .int (iI 0), .int (iI 0), .int (iI (-1)), .int (iI (-1)), .int (iI 0)])), (hn, .inr (2, [.ref xa1, .ref xa2, .ref xa3, .ref xa5, .ref xa8, .int (iI 0), .int (iI 0), .int (iI 0)])), (xa1, .inl (k 0, 5, .inl (aI (upI (upI (upI (upI (upI aZ 0 0) 1 0) 2 10) 3 500) 4 0)))), (xa3, .inr (7, [.int (iI 0), .int (iI 0), .int (iI 0), .long (lI 0), .int (iI 0), .int (iI 0), .int (iI 0), .long (lI 0), .long (lI 0), .long (lI 0), .long (lI 0), .long (lI 0), .int (iI 0), .int (iI 0), .int (iI 0), .int (iI 0), .ref xa4])), (g5, .inr (8, [.long (lI 0), .long (lI 0), .long (lI 0), .int (iI 0), .int (iI 0), .int (iI 0), .int (iI 0), .int (iI 0), .ref xd1, .ref xd2, .int (iI 0), .ref xd3, .ref xd4, .ref xd5, .ref xd6])), (g7, .inl (k 7, 2, .inr (.inr (.inr (.inr xrF))))), (hrr, .inr (9, [.ref xw1, .ref xw2, .int (iI 0), .int (iI 0), .int (iI 0)])), (hout, .inl (k 1, 1, .inr (.inl (aL aZ)))), (m0, .inr (11, [.ref mg, .long (lI 0), .ref mk, .long (lI 0), .int (iI 0), .ref mp, .ref mpu, .int (iI 0), .ref ms, .long (lI 0), .int (iI 0), .int (iI 0), .int (iI 0), .int (iI 0), .int (iI 0), .long (lI 0), .ref mpl, .int (iI 0), .ref mpd, .int (iI 0), .ref mtx, .int (iI 0), .int (iI 0), .int (iI (-1)), .int (iI (-1)), .int (iI 0), .ref mtd, .int (iI 0), .ref mrw, .ref mrl, .ref mir])), (mg, .inl (k 0, 1460, .inl (aI g0F))), (mrl, .inl (k 0, 2, .inl (aI rlF))), (mir, .inl (k 5, 2, .inl (aI aZ)))] H → va_D (va_A [] s.heap.size) [(h0, .inr (10, [.ref hn, .ref g1, .ref g2, .ref hea, .ref g3, .ref g4, .ref g5, .ref g6, .ref g7, .int (iI 0), .int (iI 0), .int (iI 0), .int (iI (-1)), .int (iI (-1)), .int (iI 0)])), (hn, .inr (2, [.ref xa1, .ref xa2, .ref xa3, .ref xa5, .ref xa8, .int (iI 0), .int (iI 0), .int (iI 0)])), (xa1, .inl (k 0, 5, .inl (aI (upI (upI (upI (upI (upI aZ 0 0) 1 0) 2 10) 3 500) 4 0)))), (xa3, .inr (7, [.int (iI 0), .int (iI 0), .int (iI 0), .long (lI 0), .int (iI 0), .int (iI 0), .int (iI 0), .long (lI 0), .long (lI 0), .long (lI 0), .long (lI 0), .long (lI 0), .int (iI 0), .int (iI 0), .int (iI 0), .int (iI 0), .ref xa4])), (g5, .inr (8, [.long (lI 0), .long (lI 0), .long (lI 0), .int (iI 0), .int (iI 0), .int (iI 0), .int (iI 0), .int (iI 0), .ref xd1, .ref xd2, .int (iI 0), .ref xd3, .ref xd4, .ref xd5, .ref xd6])), (g7, .inl (k 7, 2, .inr (.inr (.inr (.inr xrF))))), (hrr, .inr (9, [.ref xw1, .ref xw2, .int (iI 0), .int (iI 0), .int (iI 0)])), (hout, .inl (k 1, 1, .inr (.inl (aL aZ)))), (m0, .inr (11, [.ref mg, .long (lI 0), .ref mk, .long (lI 0), .int (iI 0), .ref mp, .ref mpu, .int (iI 0), .ref ms, .long (lI 0), .int (iI 0), .int (iI 0), .int (iI 0), .int (iI 0), .int (iI 0), .long (lI 0), .ref mpl, .int (iI 0), .ref mpd, .int (iI 0), .ref mtx, .int (iI 0), .int (iI 0), .int (iI (-1)), .int (iI (-1)), .int (iI 0), .ref mtd, .int (iI 0), .ref mrw, .ref mrl, .ref mir])), (mg, .inl (k 0, 1460, .inl (aI g0F))), (mrl, .inl (k 0, 2, .inl (aI rlF))), (mir, .inl (k 5, 2, .inl (aI aZ)))] → va_S (va_A [] s.heap.size) s.heap H locs → ∀ ls : Array Slot, lv_has ls 9 [(5, .int (iI 0)), (4, .ref hoD), (3, .ref hout), (2, .ref m0), (1, .ref h0), (0, .ref bS)] → W p l e room_1 s mI #[Value.ref bS] below meth cO H locs 173 27875 (lw_Z below #[Value.ref bS] s) (F0 mI 1630 ls []) := by
  intro H locs hP hD hS ls hl
  obtain ⟨hx, hb, hr, hml, hown0, hts0, hX, hbl, hlocks, hgv⟩ := id C0
  have hts : ∀ w ∈ wsL_law, w.before #[Value.ref bS] s = true := fun w h => hts0 w (wsL_law_in w h)
  have hown : s.vm.findClass RL = some mI.cls := hown0
  generalize hAe : va_A [] s.heap.size = A at hE hD hS
  have hA : ∀ q : Nat, s.heap.size ≤ q → A q := fun q h => by rw [← hAe]; exact Or.inr h
  have hbA : ¬ A bS := fa_A hAe hbl
  obtain ⟨hK, hNw, hNc, hZs, hAO1, hAO2⟩ := id hE
  have hSF : CallFix p mI cO cL_law 9 s ([.ref bS] : List Value).toArray wsL_law RL := ⟨hx, hb, hml, hown, hts⟩
  refine lv_aload_n hx hb dL_law_1630 rfl (lv_at hl 4 rfl) ?_
  refine lv_aload_n hx hb dL_law_1631 rfl (lv_at hl 5 rfl) ?_
  refine lv_iload hx hb dL_law_1632 (lv_at hl 0 rfl) ?_
  refine q_iconst hx hb dL_law_1634 ?_
  refine q_iadd (z := 1) hx hb dL_law_1635 (by omega) ?_
  refine va_sld hx hb hX hbl hbA hS (iI_in (by omega)) dL_law_1636 ?_
  rw [show (iI 1).toNatClampNeg = 1 from by decide, x1]
  refine lv_aload_n hx hb dL_law_1637 rfl (lv_at hl 5 rfl) ?_
  refine lv_iload hx hb dL_law_1638 (lv_at hl 0 rfl) ?_
  refine q_iconst hx hb dL_law_1640 ?_
  refine q_iadd (z := 2) hx hb dL_law_1641 (by omega) ?_
  refine va_sld hx hb hX hbl hbA hS (iI_in (by omega)) dL_law_1642 ?_
  rw [show (iI 2).toNatClampNeg = 2 from by decide, x2]
  refine q_if_eq (tgt := 1650) hx hb dL_law_1643 (by decide) (by omega) (fun q => absurd q (by omega)) (fun _ => ?_)
  refine q_iconst hx hb dL_law_1646 ?_
  refine lv_goto (tgt := 1651) hx hb dL_law_1647 (by decide) ?_
  refine lv_aload_n hx hb dL_law_1651 rfl (lv_at hl 2 rfl) ?_
  refine ki (vx_runSW (As := [.ref h0, .int (iI 1), .int (iI 1), .ref hout]) (rest := []) hSF ((c_L_storeSchedule_1_1 l dC dI k hout h0 hn g1 g2 hea g3 g4 g5 g6 g7 xa1 xa2 xa3 xa4 xa5 0 0 xa8 0 0 0 xd1 xd2 xd3 xd4 xd5 xd6 hrr xw1 xw2 xrF hr9) H.size) (vx_cwSW 4 hts gL_law_L_storeSchedule rfl rfl rfl (by decide +kernel) ⟨Nat.le_of_ble_eq_true rfl, Nat.le_of_ble_eq_true rfl⟩) (preS hP hD hE hS hA [0, 1, 2, 3, 4, 5, 6, 7] rfl (by decide)) rfl rfl hl.1 rfl (lv_room (Nat.le_of_ble_eq_true rfl)) dL_law_1652 ⟨Nat.le_of_ble_eq_true rfl, Nat.le_of_ble_eq_true rfl⟩) hP hD hS hA [0, 1, 2, 3, 4, 5, 6, 7] [8, 9, 10, 11] rfl (wr := [(m0, .inr (11, [.ref mg, .long (lI 0), .ref mk, .long (lI 0), .int (iI 0), .ref mp, .ref mpu, .int (iI 0), .ref ms, .long (lI 0), .int (iI 0), .int (iI 0), .int (iI 0), .int (iI 0), .int (iI 0), .long (lI 0), .ref mpl, .int (iI 0), .ref mpd, .int (iI 0), .ref mtx, .int (iI 0), .int (iI 0), .int (iI (-1)), .int (iI (-1)), .int (iI 0), .ref mtd, .int (iI 0), .ref mrw, .ref mrl, .ref mir])), (mg, .inl (k 0, 1460, .inl (aI g0F))), (mrl, .inl (k 0, 2, .inl (aI rlF))), (mir, .inl (k 5, 2, .inl (aI aZ)))]) rfl (by decide) (by decide) (fun r1652 _ H locs hw hP hD hS => ?_)
  obtain rfl : r1652 = (iI 0) := hw
  have hP : va_P (dC, dI) vwCl [(m0, .inr (11, [.ref mg, .long (lI 0), .ref mk, .long (lI 0), .int (iI 0), .ref mp, .ref mpu, .int (iI 0), .ref ms, .long (lI 0), .int (iI 0), .int (iI 0), .int (iI 0), .int (iI 0), .int (iI 0), .long (lI 0), .ref mpl, .int (iI 0), .ref mpd, .int (iI 0), .ref mtx, .int (iI 0), .int (iI 0), .int (iI (-1)), .int (iI (-1)), .int (iI 0), .ref mtd, .int (iI 0), .ref mrw, .ref mrl, .ref mir])), (mg, .inl (k 0, 1460, .inl (aI g0F))), (mrl, .inl (k 0, 2, .inl (aI rlF))), (mir, .inl (k 5, 2, .inl (aI aZ))), (hout, .inl (k 1, 1, .inr (.inl (aL (upI aZ 0 0)))))] H := hP
  have hD : va_D A [(m0, .inr (11, [.ref mg, .long (lI 0), .ref mk, .long (lI 0), .int (iI 0), .ref mp, .ref mpu, .int (iI 0), .ref ms, .long (lI 0), .int (iI 0), .int (iI 0), .int (iI 0), .int (iI 0), .int (iI 0), .long (lI 0), .ref mpl, .int (iI 0), .ref mpd, .int (iI 0), .ref mtx, .int (iI 0), .int (iI 0), .int (iI (-1)), .int (iI (-1)), .int (iI 0), .ref mtd, .int (iI 0), .ref mrw, .ref mrl, .ref mir])), (mg, .inl (k 0, 1460, .inl (aI g0F))), (mrl, .inl (k 0, 2, .inl (aI rlF))), (mir, .inl (k 5, 2, .inl (aI aZ))), (hout, .inl (k 1, 1, .inr (.inl (aL (upI aZ 0 0)))))] := hD
  refine lv_istore (lv' := [(6, .int (iI 0)), (5, .int (iI 0)), (4, .ref hoD), (3, .ref hout), (2, .ref m0), (1, .ref h0), (0, .ref bS)]) hx hb dL_law_1655 hl (by decide) rfl (fun ls hl => ?_)
  refine lv_aload_n hx hb dL_law_1657 rfl (lv_at hl 4 rfl) ?_
  refine lv_aload_n hx hb dL_law_1658 rfl (lv_at hl 6 rfl) ?_
  refine lv_iload hx hb dL_law_1659 (lv_at hl 1 rfl) ?_
  refine q_iconst hx hb dL_law_1661 ?_
  refine q_iadd (z := 1) hx hb dL_law_1662 (by omega) ?_
  refine va_sld hx hb hX hbl hbA hS (iI_in (by omega)) dL_law_1663 ?_
  rw [show (iI 1).toNatClampNeg = 1 from by decide, x1]
  refine lv_aload_n hx hb dL_law_1664 rfl (lv_at hl 6 rfl) ?_
  refine lv_iload hx hb dL_law_1665 (lv_at hl 1 rfl) ?_
  refine q_iconst hx hb dL_law_1667 ?_
  refine q_iadd (z := 2) hx hb dL_law_1668 (by omega) ?_
  refine va_sld hx hb hX hbl hbA hS (iI_in (by omega)) dL_law_1669 ?_
  rw [show (iI 2).toNatClampNeg = 2 from by decide, x2]
  refine q_if_eq (tgt := 1677) hx hb dL_law_1670 (by decide) (by omega) (fun q => absurd q (by omega)) (fun _ => ?_)
  refine q_iconst hx hb dL_law_1673 ?_
  refine lv_goto (tgt := 1678) hx hb dL_law_1674 (by decide) ?_
  refine ki (va_runV (As := [.int (iI 1), .int (iI 1)]) (rest := []) hSF ((c_X11_storeSchedule_1_1 l dC dI k m0 mg mk mp mpu ms mpl mpd mtx mtd mrw mrl mir) H.size) (cwV 2 hts gL_law_X11_storeSchedule rfl rfl rfl (by decide +kernel) ⟨Nat.le_of_ble_eq_true rfl, Nat.le_of_ble_eq_true rfl⟩) (preV hP hD hE hS hA [0, 1, 2, 3] rfl (by decide) (ci := 11) (q0 := 0) rfl rfl) rfl rfl hl.1 rfl (lv_room (Nat.le_of_ble_eq_true rfl)) dL_law_1678 ⟨Nat.le_of_ble_eq_true rfl, Nat.le_of_ble_eq_true rfl⟩) hP hD hS hA [0, 1, 2, 3] [4] rfl (wr := [(hout, .inl (k 1, 1, .inr (.inl (aL (upI aZ 0 0)))))]) rfl (by decide) (by decide) (fun r1678 _ H locs hw hP hD hS => ?_)
  obtain rfl : r1678 = (iI 0) := hw
  have hP : va_P (dC, dI) vwCl [(hout, .inl (k 1, 1, .inr (.inl (aL (upI aZ 0 0))))), (m0, .inr (11, [.ref mg, .long (lI 0), .ref mk, .long (lI 0), .int (iI 0), .ref mp, .ref mpu, .int (iI 0), .ref ms, .long (lI 0), .int (iI 0), .int (iI 0), .int (iI 0), .int (iI 0), .int (iI 0), .long (lI 0), .ref mpl, .int (iI 0), .ref mpd, .int (iI 0), .ref mtx, .int (iI 0), .int (iI 0), .int (iI (-1)), .int (iI (-1)), .int (iI 0), .ref mtd, .int (iI 0), .ref mrw, .ref mrl, .ref mir]))] H := hP
  have hD : va_D A [(hout, .inl (k 1, 1, .inr (.inl (aL (upI aZ 0 0))))), (m0, .inr (11, [.ref mg, .long (lI 0), .ref mk, .long (lI 0), .int (iI 0), .ref mp, .ref mpu, .int (iI 0), .ref ms, .long (lI 0), .int (iI 0), .int (iI 0), .int (iI 0), .int (iI 0), .int (iI 0), .long (lI 0), .ref mpl, .int (iI 0), .ref mpd, .int (iI 0), .ref mtx, .int (iI 0), .int (iI 0), .int (iI (-1)), .int (iI (-1)), .int (iI 0), .ref mtd, .int (iI 0), .ref mrw, .ref mrl, .ref mir]))] := hD
  refine lv_istore (lv' := [(7, .int (iI 0)), (6, .int (iI 0)), (5, .int (iI 0)), (4, .ref hoD), (3, .ref hout), (2, .ref m0), (1, .ref h0), (0, .ref bS)]) hx hb dL_law_1681 hl (by decide) rfl (fun ls hl => ?_)
  refine lv_aload_n hx hb dL_law_1683 rfl (lv_at hl 5 rfl) ?_
  refine ki (va_runV (As := []) (rest := []) hSF ((c_X11_thrown l dC dI k m0 (.ref mg) (.long (lI 0)) (.ref mk) (.long (lI 0)) (.int (iI 0)) (.ref mp) (.ref mpu) (.int (iI 0)) (.ref ms) (.long (lI 0)) (.int (iI 0)) 0 [.int (iI 0), .int (iI 0), .int (iI 0), .long (lI 0), .ref mpl, .int (iI 0), .ref mpd, .int (iI 0), .ref mtx, .int (iI 0), .int (iI 0), .int (iI (-1)), .int (iI (-1)), .int (iI 0), .ref mtd, .int (iI 0), .ref mrw, .ref mrl, .ref mir]) H.size) (cwV 0 hts gL_law_X11_thrown rfl rfl rfl (by decide +kernel) ⟨Nat.le_of_ble_eq_true rfl, Nat.le_of_ble_eq_true rfl⟩) (preV hP hD hE hS hA [1] rfl (by decide) (ci := 11) (q0 := 1) rfl rfl) rfl rfl hl.1 rfl (lv_room (Nat.le_of_ble_eq_true rfl)) dL_law_1684 ⟨Nat.le_of_ble_eq_true rfl, Nat.le_of_ble_eq_true rfl⟩) hP hD hS hA [1] [0] rfl (wr := [(hout, .inl (k 1, 1, .inr (.inl (aL (upI aZ 0 0)))))]) rfl (by decide) (by decide) (fun r1684 _ H locs hw hP hD hS => ?_)
  obtain rfl : r1684 = (iI 0) := hw
  have hP : va_P (dC, dI) vwCl [(hout, .inl (k 1, 1, .inr (.inl (aL (upI aZ 0 0))))), (m0, .inr (11, [.ref mg, .long (lI 0), .ref mk, .long (lI 0), .int (iI 0), .ref mp, .ref mpu, .int (iI 0), .ref ms, .long (lI 0), .int (iI 0), .int (iI 0), .int (iI 0), .int (iI 0), .int (iI 0), .long (lI 0), .ref mpl, .int (iI 0), .ref mpd, .int (iI 0), .ref mtx, .int (iI 0), .int (iI 0), .int (iI (-1)), .int (iI (-1)), .int (iI 0), .ref mtd, .int (iI 0), .ref mrw, .ref mrl, .ref mir]))] H := hP
  have hD : va_D A [(hout, .inl (k 1, 1, .inr (.inl (aL (upI aZ 0 0))))), (m0, .inr (11, [.ref mg, .long (lI 0), .ref mk, .long (lI 0), .int (iI 0), .ref mp, .ref mpu, .int (iI 0), .ref ms, .long (lI 0), .int (iI 0), .int (iI 0), .int (iI 0), .int (iI 0), .int (iI 0), .long (lI 0), .ref mpl, .int (iI 0), .ref mpd, .int (iI 0), .ref mtx, .int (iI 0), .int (iI 0), .int (iI (-1)), .int (iI (-1)), .int (iI 0), .ref mtd, .int (iI 0), .ref mrw, .ref mrl, .ref mir]))] := hD
  refine lv_iload hx hb dL_law_1687 (lv_at hl 1 rfl) ?_
  refine q_icmp_eq (tgt := 1694) hx hb dL_law_1689 (by decide) (by omega) (fun _ => ?_) (fun q => absurd q (by omega))
  refine lv_iload hx hb dL_law_1694 (lv_at hl 1 rfl) ?_
  refine q_if_ne (tgt := 1711) hx hb dL_law_1696 (by decide) (by omega) (fun q => absurd q (by omega)) (fun _ => ?_)
  refine lv_aload_n hx hb dL_law_1699 rfl (lv_at hl 4 rfl) ?_
  refine q_iconst hx hb dL_law_1700 ?_
  refine q_lald (z := 0) hx hb hK hP 0 1 rfl rfl (by omega) upI_s dL_law_1701 ?_
  refine lv_iload hx hb dL_law_1702 (lv_at hl 0 rfl) ?_
  refine q_i2l hx hb dL_law_1704 (by omega) ?_
  refine q_lcmp hx hb dL_law_1705 ?_
  refine q_lif_eq (tgt := 1711) hx hb dL_law_1706 (by decide) (by omega) (fun _ => ?_) (fun q => absurd q (by omega))
  refine lv_goto (tgt := 1935) hx hb dL_law_1711 (by decide) ?_
  exact law_end l hL5 C0 hAe hS (lv_sub hl [2, 7] rfl) (Nat.le_of_ble_eq_true rfl) (Nat.le_of_ble_eq_true rfl)
set_option maxHeartbeats 4000000 in
set_option maxRecDepth 100000 in
theorem law_27_x_0 (l : Launch) (hl0 : l.stackTraces = false) (dC : Nat → ClassId) (dI : Nat → Nat → Nat) (k : Nat → ClassId) {p : Program} {e : Env} {s : State} {mI : MethodId} {below : List Frame} {meth : Method} {cO : Code} {bS L : Nat} {zs : Nat → Int32} (hL5 : L = 5) (C0 : lw_At p s mI meth cO bS L zs) (hE : En (dC, dI) k (va_A [] s.heap.size) s s.heap) (hout : Nat) (h0 hn g1 g2 hea g3 g4 g5 g6 g7 xa1 xa2 xa3 xa4 xa5 xa6 xa7 xa8 xa9 xa10 xa11 : Nat) (xrF : Nat → Option Nat) (xv xw9 : Int) (hv9 : -2147483648 ≤ xv ∧ xv ≤ 2147483647) (hv : ¬ (0 ≤ xv ∧ xv ≤ 1)) (m0 mg mk mp mpu ms mpl mpd mtx mtd mrw mrl mir hoD : Nat) (y2 : Int) (x1 : zs 1 = iI xv) (x2 : zs 2 = iI y2) (hy2 : y2 = 0 ∧ -2147483648 ≤ y2 ∧ y2 ≤ 2147483647) : ∀ (H : Heap) (locs : List Loc), va_P (dC, dI) vwCl [(h0, .inr (10, [.ref hn, .ref g1, .ref g2, .ref hea, .ref g3, .ref g4, .ref g5, .ref g6, .ref g7, .int (iI 0), .int (iI 0), .int (iI 0), .int (iI (-1)), .int (iI (-1)), .int (iI 0)])), (g7, .inl (k 7, 2, .inr (.inr (.inr (.inr xrF))))), (hout, .inl (k 1, 1, .inr (.inl (aL aZ)))), (m0, .inr (11, [.ref mg, .long (lI 0), .ref mk, .long (lI 0), .int (iI 0), .ref mp, .ref mpu, .int (iI 0), .ref ms, .long (lI 0), .int (iI 0), .int (iI 0), .int (iI 0), .int (iI 0), .int (iI 0), .long (lI 0), .ref mpl, .int (iI 0), .ref mpd, .int (iI 0), .ref mtx, .int (iI 0), .int (iI 0), .int (iI (-1)), .int (iI (-1)), .int (iI 0), .ref mtd, .int (iI 0), .ref mrw, .ref mrl, .ref mir]))] H → va_D (va_A [] s.heap.size) [(h0, .inr (10, [.ref hn, .ref g1, .ref g2, .ref hea, .ref g3, .ref g4, .ref g5, .ref g6, .ref g7, .int (iI 0), .int (iI 0), .int (iI 0), .int (iI (-1)), .int (iI (-1)), .int (iI 0)])), (g7, .inl (k 7, 2, .inr (.inr (.inr (.inr xrF))))), (hout, .inl (k 1, 1, .inr (.inl (aL aZ)))), (m0, .inr (11, [.ref mg, .long (lI 0), .ref mk, .long (lI 0), .int (iI 0), .ref mp, .ref mpu, .int (iI 0), .ref ms, .long (lI 0), .int (iI 0), .int (iI 0), .int (iI 0), .int (iI 0), .int (iI 0), .long (lI 0), .ref mpl, .int (iI 0), .ref mpd, .int (iI 0), .ref mtx, .int (iI 0), .int (iI 0), .int (iI (-1)), .int (iI (-1)), .int (iI 0), .ref mtd, .int (iI 0), .ref mrw, .ref mrl, .ref mir]))] → va_S (va_A [] s.heap.size) s.heap H locs → ∀ ls : Array Slot, lv_has ls 9 [(5, .int (iI 0)), (4, .ref hoD), (3, .ref hout), (2, .ref m0), (1, .ref h0), (0, .ref bS)] → W p l e room_1 s mI #[Value.ref bS] below meth cO H locs 173 27875 (lw_Z below #[Value.ref bS] s) (F0 mI 1630 ls []) := by
  intro H locs hP hD hS ls hl
  obtain ⟨hx, hb, hr, hml, hown0, hts0, hX, hbl, hlocks, hgv⟩ := id C0
  have hts : ∀ w ∈ wsL_law, w.before #[Value.ref bS] s = true := fun w h => hts0 w (wsL_law_in w h)
  have hown : s.vm.findClass RL = some mI.cls := hown0
  generalize hAe : va_A [] s.heap.size = A at hE hD hS
  have hA : ∀ q : Nat, s.heap.size ≤ q → A q := fun q h => by rw [← hAe]; exact Or.inr h
  have hbA : ¬ A bS := fa_A hAe hbl
  obtain ⟨hK, hNw, hNc, hZs, hAO1, hAO2⟩ := id hE
  have hSF : CallFix p mI cO cL_law 9 s ([.ref bS] : List Value).toArray wsL_law RL := ⟨hx, hb, hml, hown, hts⟩
  refine lv_aload_n hx hb dL_law_1630 rfl (lv_at hl 4 rfl) ?_
  refine lv_aload_n hx hb dL_law_1631 rfl (lv_at hl 5 rfl) ?_
  refine lv_iload hx hb dL_law_1632 (lv_at hl 0 rfl) ?_
  refine q_iconst hx hb dL_law_1634 ?_
  refine q_iadd (z := 1) hx hb dL_law_1635 (by omega) ?_
  refine va_sld hx hb hX hbl hbA hS (iI_in (by omega)) dL_law_1636 ?_
  rw [show (iI 1).toNatClampNeg = 1 from by decide, x1]
  refine lv_aload_n hx hb dL_law_1637 rfl (lv_at hl 5 rfl) ?_
  refine lv_iload hx hb dL_law_1638 (lv_at hl 0 rfl) ?_
  refine q_iconst hx hb dL_law_1640 ?_
  refine q_iadd (z := 2) hx hb dL_law_1641 (by omega) ?_
  refine va_sld hx hb hX hbl hbA hS (iI_in (by omega)) dL_law_1642 ?_
  rw [show (iI 2).toNatClampNeg = 2 from by decide, x2]
  refine q_if_eq (tgt := 1650) hx hb dL_law_1643 (by decide) (by omega) (fun _ => ?_) (fun q => absurd q (by omega))
  refine q_iconst hx hb dL_law_1650 ?_
  refine lv_aload_n hx hb dL_law_1651 rfl (lv_at hl 2 rfl) ?_
  refine ki (vx_runSW (As := [.ref h0, .int (iI xv), .int (iI 0), .ref hout]) (rest := []) hSF ((c_L_storeSchedule_x l hl0 dC dI k hout h0 hn g1 g2 hea g3 g4 g5 g6 g7 0 0 0 0 0 0 0 0 0 0 0 xrF xv 0 (by omega) (by omega)) H.size) (vx_cwSW 4 hts gL_law_L_storeSchedule rfl rfl rfl (by decide +kernel) ⟨Nat.le_of_ble_eq_true rfl, Nat.le_of_ble_eq_true rfl⟩) (preS hP hD hE hS hA [0, 1, 2] rfl (by decide)) rfl rfl hl.1 rfl (lv_room (Nat.le_of_ble_eq_true rfl)) dL_law_1652 ⟨Nat.le_of_ble_eq_true rfl, Nat.le_of_ble_eq_true rfl⟩) hP hD hS hA [0, 1, 2] [3] rfl (wr := [(m0, .inr (11, [.ref mg, .long (lI 0), .ref mk, .long (lI 0), .int (iI 0), .ref mp, .ref mpu, .int (iI 0), .ref ms, .long (lI 0), .int (iI 0), .int (iI 0), .int (iI 0), .int (iI 0), .int (iI 0), .long (lI 0), .ref mpl, .int (iI 0), .ref mpd, .int (iI 0), .ref mtx, .int (iI 0), .int (iI 0), .int (iI (-1)), .int (iI (-1)), .int (iI 0), .ref mtd, .int (iI 0), .ref mrw, .ref mrl, .ref mir]))]) rfl (by decide) (by decide) (fun r1652 _ H locs hw hP hD hS => ?_)
  obtain rfl : r1652 = (iI 1) := hw
  have hP : va_P (dC, dI) vwCl [(m0, .inr (11, [.ref mg, .long (lI 0), .ref mk, .long (lI 0), .int (iI 0), .ref mp, .ref mpu, .int (iI 0), .ref ms, .long (lI 0), .int (iI 0), .int (iI 0), .int (iI 0), .int (iI 0), .int (iI 0), .long (lI 0), .ref mpl, .int (iI 0), .ref mpd, .int (iI 0), .ref mtx, .int (iI 0), .int (iI 0), .int (iI (-1)), .int (iI (-1)), .int (iI 0), .ref mtd, .int (iI 0), .ref mrw, .ref mrl, .ref mir]))] H := hP
  have hD : va_D A [(m0, .inr (11, [.ref mg, .long (lI 0), .ref mk, .long (lI 0), .int (iI 0), .ref mp, .ref mpu, .int (iI 0), .ref ms, .long (lI 0), .int (iI 0), .int (iI 0), .int (iI 0), .int (iI 0), .int (iI 0), .long (lI 0), .ref mpl, .int (iI 0), .ref mpd, .int (iI 0), .ref mtx, .int (iI 0), .int (iI 0), .int (iI (-1)), .int (iI (-1)), .int (iI 0), .ref mtd, .int (iI 0), .ref mrw, .ref mrl, .ref mir]))] := hD
  refine lv_istore (lv' := [(6, .int (iI 1)), (5, .int (iI 0)), (4, .ref hoD), (3, .ref hout), (2, .ref m0), (1, .ref h0), (0, .ref bS)]) hx hb dL_law_1655 hl (by decide) rfl (fun ls hl => ?_)
  refine lv_aload_n hx hb dL_law_1657 rfl (lv_at hl 4 rfl) ?_
  refine lv_aload_n hx hb dL_law_1658 rfl (lv_at hl 6 rfl) ?_
  refine lv_iload hx hb dL_law_1659 (lv_at hl 1 rfl) ?_
  refine q_iconst hx hb dL_law_1661 ?_
  refine q_iadd (z := 1) hx hb dL_law_1662 (by omega) ?_
  refine va_sld hx hb hX hbl hbA hS (iI_in (by omega)) dL_law_1663 ?_
  rw [show (iI 1).toNatClampNeg = 1 from by decide, x1]
  refine lv_aload_n hx hb dL_law_1664 rfl (lv_at hl 6 rfl) ?_
  refine lv_iload hx hb dL_law_1665 (lv_at hl 1 rfl) ?_
  refine q_iconst hx hb dL_law_1667 ?_
  refine q_iadd (z := 2) hx hb dL_law_1668 (by omega) ?_
  refine va_sld hx hb hX hbl hbA hS (iI_in (by omega)) dL_law_1669 ?_
  rw [show (iI 2).toNatClampNeg = 2 from by decide, x2]
  refine q_if_eq (tgt := 1677) hx hb dL_law_1670 (by decide) (by omega) (fun _ => ?_) (fun q => absurd q (by omega))
  refine q_iconst hx hb dL_law_1677 ?_
  refine ki (va_runV (As := [.int (iI xv), .int (iI 0)]) (rest := []) hSF ((c_X11_storeSchedule_x l dC dI k m0 mg mk mp mpu ms mpl mpd mtx mtd mrw mrl mir xv 0 (by omega) (by omega)) H.size) (cwV 2 hts gL_law_X11_storeSchedule rfl rfl rfl (by decide +kernel) ⟨Nat.le_of_ble_eq_true rfl, Nat.le_of_ble_eq_true rfl⟩) (preV hP hD hE hS hA [0] rfl (by decide) (ci := 11) (q0 := 0) rfl rfl) rfl rfl hl.1 rfl (lv_room (Nat.le_of_ble_eq_true rfl)) dL_law_1678 ⟨Nat.le_of_ble_eq_true rfl, Nat.le_of_ble_eq_true rfl⟩) hP hD hS hA [0] [] rfl (wr := []) rfl (by decide) (by decide) (fun r1678 _ H locs hw hP hD hS => ?_)
  obtain rfl : r1678 = (iI 0) := hw
  have hP : va_P (dC, dI) vwCl [(m0, .inr (11, [.ref mg, .long (lI 0), .ref mk, .long (lI 0), .int (iI 0), .ref mp, .ref mpu, .int (iI 0), .ref ms, .long (lI 0), .int (iI 0), .int (iI 1), .int (iI 0), .int (iI 0), .int (iI 0), .long (lI 0), .ref mpl, .int (iI 0), .ref mpd, .int (iI 0), .ref mtx, .int (iI 0), .int (iI 0), .int (iI (-1)), .int (iI (-1)), .int (iI 0), .ref mtd, .int (iI 0), .ref mrw, .ref mrl, .ref mir]))] H := hP
  have hD : va_D A [(m0, .inr (11, [.ref mg, .long (lI 0), .ref mk, .long (lI 0), .int (iI 0), .ref mp, .ref mpu, .int (iI 0), .ref ms, .long (lI 0), .int (iI 0), .int (iI 1), .int (iI 0), .int (iI 0), .int (iI 0), .long (lI 0), .ref mpl, .int (iI 0), .ref mpd, .int (iI 0), .ref mtx, .int (iI 0), .int (iI 0), .int (iI (-1)), .int (iI (-1)), .int (iI 0), .ref mtd, .int (iI 0), .ref mrw, .ref mrl, .ref mir]))] := hD
  refine lv_istore (lv' := [(7, .int (iI 0)), (6, .int (iI 1)), (5, .int (iI 0)), (4, .ref hoD), (3, .ref hout), (2, .ref m0), (1, .ref h0), (0, .ref bS)]) hx hb dL_law_1681 hl (by decide) rfl (fun ls hl => ?_)
  refine lv_aload_n hx hb dL_law_1683 rfl (lv_at hl 5 rfl) ?_
  refine ki (va_runV (As := []) (rest := []) hSF ((c_X11_thrown l dC dI k m0 (.ref mg) (.long (lI 0)) (.ref mk) (.long (lI 0)) (.int (iI 0)) (.ref mp) (.ref mpu) (.int (iI 0)) (.ref ms) (.long (lI 0)) (.int (iI 0)) 1 [.int (iI 0), .int (iI 0), .int (iI 0), .long (lI 0), .ref mpl, .int (iI 0), .ref mpd, .int (iI 0), .ref mtx, .int (iI 0), .int (iI 0), .int (iI (-1)), .int (iI (-1)), .int (iI 0), .ref mtd, .int (iI 0), .ref mrw, .ref mrl, .ref mir]) H.size) (cwV 0 hts gL_law_X11_thrown rfl rfl rfl (by decide +kernel) ⟨Nat.le_of_ble_eq_true rfl, Nat.le_of_ble_eq_true rfl⟩) (preV hP hD hE hS hA [0] rfl (by decide) (ci := 11) (q0 := 0) rfl rfl) rfl rfl hl.1 rfl (lv_room (Nat.le_of_ble_eq_true rfl)) dL_law_1684 ⟨Nat.le_of_ble_eq_true rfl, Nat.le_of_ble_eq_true rfl⟩) hP hD hS hA [0] [] rfl (wr := []) rfl (by decide) (by decide) (fun r1684 _ H locs hw hP hD hS => ?_)
  obtain rfl : r1684 = (iI 1) := hw
  have hP : va_P (dC, dI) vwCl [(m0, .inr (11, [.ref mg, .long (lI 0), .ref mk, .long (lI 0), .int (iI 0), .ref mp, .ref mpu, .int (iI 0), .ref ms, .long (lI 0), .int (iI 0), .int (iI 1), .int (iI 0), .int (iI 0), .int (iI 0), .long (lI 0), .ref mpl, .int (iI 0), .ref mpd, .int (iI 0), .ref mtx, .int (iI 0), .int (iI 0), .int (iI (-1)), .int (iI (-1)), .int (iI 0), .ref mtd, .int (iI 0), .ref mrw, .ref mrl, .ref mir]))] H := hP
  have hD : va_D A [(m0, .inr (11, [.ref mg, .long (lI 0), .ref mk, .long (lI 0), .int (iI 0), .ref mp, .ref mpu, .int (iI 0), .ref ms, .long (lI 0), .int (iI 0), .int (iI 1), .int (iI 0), .int (iI 0), .int (iI 0), .long (lI 0), .ref mpl, .int (iI 0), .ref mpd, .int (iI 0), .ref mtx, .int (iI 0), .int (iI 0), .int (iI (-1)), .int (iI (-1)), .int (iI 0), .ref mtd, .int (iI 0), .ref mrw, .ref mrl, .ref mir]))] := hD
  refine lv_iload hx hb dL_law_1687 (lv_at hl 1 rfl) ?_
  refine q_icmp_eq (tgt := 1694) hx hb dL_law_1689 (by decide) (by omega) (fun _ => ?_) (fun q => absurd q (by omega))
  refine lv_iload hx hb dL_law_1694 (lv_at hl 1 rfl) ?_
  refine q_if_ne (tgt := 1711) hx hb dL_law_1696 (by decide) (by omega) (fun _ => ?_) (fun q => absurd q (by omega))
  refine lv_goto (tgt := 1935) hx hb dL_law_1711 (by decide) ?_
  exact law_end l hL5 C0 hAe hS (lv_sub hl [2, 7] rfl) (Nat.le_of_ble_eq_true rfl) (Nat.le_of_ble_eq_true rfl)
set_option maxHeartbeats 4000000 in
set_option maxRecDepth 100000 in
theorem law_27_x_1 (l : Launch) (hl0 : l.stackTraces = false) (dC : Nat → ClassId) (dI : Nat → Nat → Nat) (k : Nat → ClassId) {p : Program} {e : Env} {s : State} {mI : MethodId} {below : List Frame} {meth : Method} {cO : Code} {bS L : Nat} {zs : Nat → Int32} (hL5 : L = 5) (C0 : lw_At p s mI meth cO bS L zs) (hE : En (dC, dI) k (va_A [] s.heap.size) s s.heap) (hout : Nat) (h0 hn g1 g2 hea g3 g4 g5 g6 g7 xa1 xa2 xa3 xa4 xa5 xa6 xa7 xa8 xa9 xa10 xa11 : Nat) (xrF : Nat → Option Nat) (xv xw9 : Int) (hv9 : -2147483648 ≤ xv ∧ xv ≤ 2147483647) (hv : ¬ (0 ≤ xv ∧ xv ≤ 1)) (m0 mg mk mp mpu ms mpl mpd mtx mtd mrw mrl mir hoD : Nat) (y2 : Int) (x1 : zs 1 = iI xv) (x2 : zs 2 = iI y2) (hy2 : y2 ≠ 0 ∧ -2147483648 ≤ y2 ∧ y2 ≤ 2147483647) : ∀ (H : Heap) (locs : List Loc), va_P (dC, dI) vwCl [(h0, .inr (10, [.ref hn, .ref g1, .ref g2, .ref hea, .ref g3, .ref g4, .ref g5, .ref g6, .ref g7, .int (iI 0), .int (iI 0), .int (iI 0), .int (iI (-1)), .int (iI (-1)), .int (iI 0)])), (g7, .inl (k 7, 2, .inr (.inr (.inr (.inr xrF))))), (hout, .inl (k 1, 1, .inr (.inl (aL aZ)))), (m0, .inr (11, [.ref mg, .long (lI 0), .ref mk, .long (lI 0), .int (iI 0), .ref mp, .ref mpu, .int (iI 0), .ref ms, .long (lI 0), .int (iI 0), .int (iI 0), .int (iI 0), .int (iI 0), .int (iI 0), .long (lI 0), .ref mpl, .int (iI 0), .ref mpd, .int (iI 0), .ref mtx, .int (iI 0), .int (iI 0), .int (iI (-1)), .int (iI (-1)), .int (iI 0), .ref mtd, .int (iI 0), .ref mrw, .ref mrl, .ref mir]))] H → va_D (va_A [] s.heap.size) [(h0, .inr (10, [.ref hn, .ref g1, .ref g2, .ref hea, .ref g3, .ref g4, .ref g5, .ref g6, .ref g7, .int (iI 0), .int (iI 0), .int (iI 0), .int (iI (-1)), .int (iI (-1)), .int (iI 0)])), (g7, .inl (k 7, 2, .inr (.inr (.inr (.inr xrF))))), (hout, .inl (k 1, 1, .inr (.inl (aL aZ)))), (m0, .inr (11, [.ref mg, .long (lI 0), .ref mk, .long (lI 0), .int (iI 0), .ref mp, .ref mpu, .int (iI 0), .ref ms, .long (lI 0), .int (iI 0), .int (iI 0), .int (iI 0), .int (iI 0), .int (iI 0), .long (lI 0), .ref mpl, .int (iI 0), .ref mpd, .int (iI 0), .ref mtx, .int (iI 0), .int (iI 0), .int (iI (-1)), .int (iI (-1)), .int (iI 0), .ref mtd, .int (iI 0), .ref mrw, .ref mrl, .ref mir]))] → va_S (va_A [] s.heap.size) s.heap H locs → ∀ ls : Array Slot, lv_has ls 9 [(5, .int (iI 0)), (4, .ref hoD), (3, .ref hout), (2, .ref m0), (1, .ref h0), (0, .ref bS)] → W p l e room_1 s mI #[Value.ref bS] below meth cO H locs 173 27875 (lw_Z below #[Value.ref bS] s) (F0 mI 1630 ls []) := by
  intro H locs hP hD hS ls hl
  obtain ⟨hx, hb, hr, hml, hown0, hts0, hX, hbl, hlocks, hgv⟩ := id C0
  have hts : ∀ w ∈ wsL_law, w.before #[Value.ref bS] s = true := fun w h => hts0 w (wsL_law_in w h)
  have hown : s.vm.findClass RL = some mI.cls := hown0
  generalize hAe : va_A [] s.heap.size = A at hE hD hS
  have hA : ∀ q : Nat, s.heap.size ≤ q → A q := fun q h => by rw [← hAe]; exact Or.inr h
  have hbA : ¬ A bS := fa_A hAe hbl
  obtain ⟨hK, hNw, hNc, hZs, hAO1, hAO2⟩ := id hE
  have hSF : CallFix p mI cO cL_law 9 s ([.ref bS] : List Value).toArray wsL_law RL := ⟨hx, hb, hml, hown, hts⟩
  refine lv_aload_n hx hb dL_law_1630 rfl (lv_at hl 4 rfl) ?_
  refine lv_aload_n hx hb dL_law_1631 rfl (lv_at hl 5 rfl) ?_
  refine lv_iload hx hb dL_law_1632 (lv_at hl 0 rfl) ?_
  refine q_iconst hx hb dL_law_1634 ?_
  refine q_iadd (z := 1) hx hb dL_law_1635 (by omega) ?_
  refine va_sld hx hb hX hbl hbA hS (iI_in (by omega)) dL_law_1636 ?_
  rw [show (iI 1).toNatClampNeg = 1 from by decide, x1]
  refine lv_aload_n hx hb dL_law_1637 rfl (lv_at hl 5 rfl) ?_
  refine lv_iload hx hb dL_law_1638 (lv_at hl 0 rfl) ?_
  refine q_iconst hx hb dL_law_1640 ?_
  refine q_iadd (z := 2) hx hb dL_law_1641 (by omega) ?_
  refine va_sld hx hb hX hbl hbA hS (iI_in (by omega)) dL_law_1642 ?_
  rw [show (iI 2).toNatClampNeg = 2 from by decide, x2]
  refine q_if_eq (tgt := 1650) hx hb dL_law_1643 (by decide) (by omega) (fun q => absurd q (by omega)) (fun _ => ?_)
  refine q_iconst hx hb dL_law_1646 ?_
  refine lv_goto (tgt := 1651) hx hb dL_law_1647 (by decide) ?_
  refine lv_aload_n hx hb dL_law_1651 rfl (lv_at hl 2 rfl) ?_
  refine ki (vx_runSW (As := [.ref h0, .int (iI xv), .int (iI 1), .ref hout]) (rest := []) hSF ((c_L_storeSchedule_x l hl0 dC dI k hout h0 hn g1 g2 hea g3 g4 g5 g6 g7 0 0 0 0 0 0 0 0 0 0 0 xrF xv 1 (by omega) (by omega)) H.size) (vx_cwSW 4 hts gL_law_L_storeSchedule rfl rfl rfl (by decide +kernel) ⟨Nat.le_of_ble_eq_true rfl, Nat.le_of_ble_eq_true rfl⟩) (preS hP hD hE hS hA [0, 1, 2] rfl (by decide)) rfl rfl hl.1 rfl (lv_room (Nat.le_of_ble_eq_true rfl)) dL_law_1652 ⟨Nat.le_of_ble_eq_true rfl, Nat.le_of_ble_eq_true rfl⟩) hP hD hS hA [0, 1, 2] [3] rfl (wr := [(m0, .inr (11, [.ref mg, .long (lI 0), .ref mk, .long (lI 0), .int (iI 0), .ref mp, .ref mpu, .int (iI 0), .ref ms, .long (lI 0), .int (iI 0), .int (iI 0), .int (iI 0), .int (iI 0), .int (iI 0), .long (lI 0), .ref mpl, .int (iI 0), .ref mpd, .int (iI 0), .ref mtx, .int (iI 0), .int (iI 0), .int (iI (-1)), .int (iI (-1)), .int (iI 0), .ref mtd, .int (iI 0), .ref mrw, .ref mrl, .ref mir]))]) rfl (by decide) (by decide) (fun r1652 _ H locs hw hP hD hS => ?_)
  obtain rfl : r1652 = (iI 1) := hw
  have hP : va_P (dC, dI) vwCl [(m0, .inr (11, [.ref mg, .long (lI 0), .ref mk, .long (lI 0), .int (iI 0), .ref mp, .ref mpu, .int (iI 0), .ref ms, .long (lI 0), .int (iI 0), .int (iI 0), .int (iI 0), .int (iI 0), .int (iI 0), .long (lI 0), .ref mpl, .int (iI 0), .ref mpd, .int (iI 0), .ref mtx, .int (iI 0), .int (iI 0), .int (iI (-1)), .int (iI (-1)), .int (iI 0), .ref mtd, .int (iI 0), .ref mrw, .ref mrl, .ref mir]))] H := hP
  have hD : va_D A [(m0, .inr (11, [.ref mg, .long (lI 0), .ref mk, .long (lI 0), .int (iI 0), .ref mp, .ref mpu, .int (iI 0), .ref ms, .long (lI 0), .int (iI 0), .int (iI 0), .int (iI 0), .int (iI 0), .int (iI 0), .long (lI 0), .ref mpl, .int (iI 0), .ref mpd, .int (iI 0), .ref mtx, .int (iI 0), .int (iI 0), .int (iI (-1)), .int (iI (-1)), .int (iI 0), .ref mtd, .int (iI 0), .ref mrw, .ref mrl, .ref mir]))] := hD
  refine lv_istore (lv' := [(6, .int (iI 1)), (5, .int (iI 0)), (4, .ref hoD), (3, .ref hout), (2, .ref m0), (1, .ref h0), (0, .ref bS)]) hx hb dL_law_1655 hl (by decide) rfl (fun ls hl => ?_)
  refine lv_aload_n hx hb dL_law_1657 rfl (lv_at hl 4 rfl) ?_
  refine lv_aload_n hx hb dL_law_1658 rfl (lv_at hl 6 rfl) ?_
  refine lv_iload hx hb dL_law_1659 (lv_at hl 1 rfl) ?_
  refine q_iconst hx hb dL_law_1661 ?_
  refine q_iadd (z := 1) hx hb dL_law_1662 (by omega) ?_
  refine va_sld hx hb hX hbl hbA hS (iI_in (by omega)) dL_law_1663 ?_
  rw [show (iI 1).toNatClampNeg = 1 from by decide, x1]
  refine lv_aload_n hx hb dL_law_1664 rfl (lv_at hl 6 rfl) ?_
  refine lv_iload hx hb dL_law_1665 (lv_at hl 1 rfl) ?_
  refine q_iconst hx hb dL_law_1667 ?_
  refine q_iadd (z := 2) hx hb dL_law_1668 (by omega) ?_
  refine va_sld hx hb hX hbl hbA hS (iI_in (by omega)) dL_law_1669 ?_
  rw [show (iI 2).toNatClampNeg = 2 from by decide, x2]
  refine q_if_eq (tgt := 1677) hx hb dL_law_1670 (by decide) (by omega) (fun q => absurd q (by omega)) (fun _ => ?_)
  refine q_iconst hx hb dL_law_1673 ?_
  refine lv_goto (tgt := 1678) hx hb dL_law_1674 (by decide) ?_
  refine ki (va_runV (As := [.int (iI xv), .int (iI 1)]) (rest := []) hSF ((c_X11_storeSchedule_x l dC dI k m0 mg mk mp mpu ms mpl mpd mtx mtd mrw mrl mir xv 1 (by omega) (by omega)) H.size) (cwV 2 hts gL_law_X11_storeSchedule rfl rfl rfl (by decide +kernel) ⟨Nat.le_of_ble_eq_true rfl, Nat.le_of_ble_eq_true rfl⟩) (preV hP hD hE hS hA [0] rfl (by decide) (ci := 11) (q0 := 0) rfl rfl) rfl rfl hl.1 rfl (lv_room (Nat.le_of_ble_eq_true rfl)) dL_law_1678 ⟨Nat.le_of_ble_eq_true rfl, Nat.le_of_ble_eq_true rfl⟩) hP hD hS hA [0] [] rfl (wr := []) rfl (by decide) (by decide) (fun r1678 _ H locs hw hP hD hS => ?_)
  obtain rfl : r1678 = (iI 0) := hw
  have hP : va_P (dC, dI) vwCl [(m0, .inr (11, [.ref mg, .long (lI 0), .ref mk, .long (lI 0), .int (iI 0), .ref mp, .ref mpu, .int (iI 0), .ref ms, .long (lI 0), .int (iI 0), .int (iI 1), .int (iI 0), .int (iI 0), .int (iI 0), .long (lI 0), .ref mpl, .int (iI 0), .ref mpd, .int (iI 0), .ref mtx, .int (iI 0), .int (iI 0), .int (iI (-1)), .int (iI (-1)), .int (iI 0), .ref mtd, .int (iI 0), .ref mrw, .ref mrl, .ref mir]))] H := hP
  have hD : va_D A [(m0, .inr (11, [.ref mg, .long (lI 0), .ref mk, .long (lI 0), .int (iI 0), .ref mp, .ref mpu, .int (iI 0), .ref ms, .long (lI 0), .int (iI 0), .int (iI 1), .int (iI 0), .int (iI 0), .int (iI 0), .long (lI 0), .ref mpl, .int (iI 0), .ref mpd, .int (iI 0), .ref mtx, .int (iI 0), .int (iI 0), .int (iI (-1)), .int (iI (-1)), .int (iI 0), .ref mtd, .int (iI 0), .ref mrw, .ref mrl, .ref mir]))] := hD
  refine lv_istore (lv' := [(7, .int (iI 0)), (6, .int (iI 1)), (5, .int (iI 0)), (4, .ref hoD), (3, .ref hout), (2, .ref m0), (1, .ref h0), (0, .ref bS)]) hx hb dL_law_1681 hl (by decide) rfl (fun ls hl => ?_)
  refine lv_aload_n hx hb dL_law_1683 rfl (lv_at hl 5 rfl) ?_
  refine ki (va_runV (As := []) (rest := []) hSF ((c_X11_thrown l dC dI k m0 (.ref mg) (.long (lI 0)) (.ref mk) (.long (lI 0)) (.int (iI 0)) (.ref mp) (.ref mpu) (.int (iI 0)) (.ref ms) (.long (lI 0)) (.int (iI 0)) 1 [.int (iI 0), .int (iI 0), .int (iI 0), .long (lI 0), .ref mpl, .int (iI 0), .ref mpd, .int (iI 0), .ref mtx, .int (iI 0), .int (iI 0), .int (iI (-1)), .int (iI (-1)), .int (iI 0), .ref mtd, .int (iI 0), .ref mrw, .ref mrl, .ref mir]) H.size) (cwV 0 hts gL_law_X11_thrown rfl rfl rfl (by decide +kernel) ⟨Nat.le_of_ble_eq_true rfl, Nat.le_of_ble_eq_true rfl⟩) (preV hP hD hE hS hA [0] rfl (by decide) (ci := 11) (q0 := 0) rfl rfl) rfl rfl hl.1 rfl (lv_room (Nat.le_of_ble_eq_true rfl)) dL_law_1684 ⟨Nat.le_of_ble_eq_true rfl, Nat.le_of_ble_eq_true rfl⟩) hP hD hS hA [0] [] rfl (wr := []) rfl (by decide) (by decide) (fun r1684 _ H locs hw hP hD hS => ?_)
  obtain rfl : r1684 = (iI 1) := hw
  have hP : va_P (dC, dI) vwCl [(m0, .inr (11, [.ref mg, .long (lI 0), .ref mk, .long (lI 0), .int (iI 0), .ref mp, .ref mpu, .int (iI 0), .ref ms, .long (lI 0), .int (iI 0), .int (iI 1), .int (iI 0), .int (iI 0), .int (iI 0), .long (lI 0), .ref mpl, .int (iI 0), .ref mpd, .int (iI 0), .ref mtx, .int (iI 0), .int (iI 0), .int (iI (-1)), .int (iI (-1)), .int (iI 0), .ref mtd, .int (iI 0), .ref mrw, .ref mrl, .ref mir]))] H := hP
  have hD : va_D A [(m0, .inr (11, [.ref mg, .long (lI 0), .ref mk, .long (lI 0), .int (iI 0), .ref mp, .ref mpu, .int (iI 0), .ref ms, .long (lI 0), .int (iI 0), .int (iI 1), .int (iI 0), .int (iI 0), .int (iI 0), .long (lI 0), .ref mpl, .int (iI 0), .ref mpd, .int (iI 0), .ref mtx, .int (iI 0), .int (iI 0), .int (iI (-1)), .int (iI (-1)), .int (iI 0), .ref mtd, .int (iI 0), .ref mrw, .ref mrl, .ref mir]))] := hD
  refine lv_iload hx hb dL_law_1687 (lv_at hl 1 rfl) ?_
  refine q_icmp_eq (tgt := 1694) hx hb dL_law_1689 (by decide) (by omega) (fun _ => ?_) (fun q => absurd q (by omega))
  refine lv_iload hx hb dL_law_1694 (lv_at hl 1 rfl) ?_
  refine q_if_ne (tgt := 1711) hx hb dL_law_1696 (by decide) (by omega) (fun _ => ?_) (fun q => absurd q (by omega))
  refine lv_goto (tgt := 1935) hx hb dL_law_1711 (by decide) ?_
  exact law_end l hL5 C0 hAe hS (lv_sub hl [2, 7] rfl) (Nat.le_of_ble_eq_true rfl) (Nat.le_of_ble_eq_true rfl)
set_option maxHeartbeats 4000000 in
set_option maxRecDepth 100000 in
theorem law_28_1 (l : Launch) (hl0 : l.stackTraces = false) (dC : Nat → ClassId) (dI : Nat → Nat → Nat) (k : Nat → ClassId) {p : Program} {e : Env} {s : State} {mI : MethodId} {below : List Frame} {meth : Method} {cO : Code} {bS L : Nat} {zs : Nat → Int32} (hL5 : L = 5) (C0 : lw_At p s mI meth cO bS L zs) (hE : En (dC, dI) k (va_A [] s.heap.size) s s.heap) (hout : Nat) (h0 hn g1 g2 hea g3 g4 g5 g6 g7 xa1 xa2 xa3 xa4 xa5 xa6 xa7 xa8 xa9 xa10 xa11 : Nat) (xrF : Nat → Option Nat) (xv xw9 : Int) (hv9 : -2147483648 ≤ xv ∧ xv ≤ 2147483647 ∧ -2147483648 ≤ xw9 ∧ xw9 ≤ 2147483647) (hv : ¬ (0 ≤ xv ∧ xv ≤ 1)) (m0 mg mk mp mpu ms mpl mpd mtx mtd mrw mrl mir hoD : Nat) (x1 : zs 1 = iI xv) (x2 : zs 2 = iI xw9) (hw9 : -2147483648 ≤ xw9 ∧ xw9 ≤ 2147483647) : ∀ (H : Heap) (locs : List Loc), va_P (dC, dI) vwCl [(h0, .inr (10, [.ref hn, .ref g1, .ref g2, .ref hea, .ref g3, .ref g4, .ref g5, .ref g6, .ref g7, .int (iI 0), .int (iI 0), .int (iI 0), .int (iI (-1)), .int (iI (-1)), .int (iI 0)])), (g7, .inl (k 7, 2, .inr (.inr (.inr (.inr xrF))))), (hout, .inl (k 1, 1, .inr (.inl (aL aZ)))), (m0, .inr (11, [.ref mg, .long (lI 0), .ref mk, .long (lI 0), .int (iI 0), .ref mp, .ref mpu, .int (iI 0), .ref ms, .long (lI 0), .int (iI 0), .int (iI 0), .int (iI 0), .int (iI 0), .int (iI 0), .long (lI 0), .ref mpl, .int (iI 0), .ref mpd, .int (iI 0), .ref mtx, .int (iI 0), .int (iI 0), .int (iI (-1)), .int (iI (-1)), .int (iI 0), .ref mtd, .int (iI 0), .ref mrw, .ref mrl, .ref mir])), (mrl, .inl (k 0, 2, .inl (aI rlF)))] H → va_D (va_A [] s.heap.size) [(h0, .inr (10, [.ref hn, .ref g1, .ref g2, .ref hea, .ref g3, .ref g4, .ref g5, .ref g6, .ref g7, .int (iI 0), .int (iI 0), .int (iI 0), .int (iI (-1)), .int (iI (-1)), .int (iI 0)])), (g7, .inl (k 7, 2, .inr (.inr (.inr (.inr xrF))))), (hout, .inl (k 1, 1, .inr (.inl (aL aZ)))), (m0, .inr (11, [.ref mg, .long (lI 0), .ref mk, .long (lI 0), .int (iI 0), .ref mp, .ref mpu, .int (iI 0), .ref ms, .long (lI 0), .int (iI 0), .int (iI 0), .int (iI 0), .int (iI 0), .int (iI 0), .long (lI 0), .ref mpl, .int (iI 0), .ref mpd, .int (iI 0), .ref mtx, .int (iI 0), .int (iI 0), .int (iI (-1)), .int (iI (-1)), .int (iI 0), .ref mtd, .int (iI 0), .ref mrw, .ref mrl, .ref mir])), (mrl, .inl (k 0, 2, .inl (aI rlF)))] → va_S (va_A [] s.heap.size) s.heap H locs → ∀ ls : Array Slot, lv_has ls 9 [(5, .int (iI 0)), (4, .ref hoD), (3, .ref hout), (2, .ref m0), (1, .ref h0), (0, .ref bS)] → W p l e room_1 s mI #[Value.ref bS] below meth cO H locs 173 27875 (lw_Z below #[Value.ref bS] s) (F0 mI 1714 ls []) := by
  intro H locs hP hD hS ls hl
  obtain ⟨hx, hb, hr, hml, hown0, hts0, hX, hbl, hlocks, hgv⟩ := id C0
  have hts : ∀ w ∈ wsL_law, w.before #[Value.ref bS] s = true := fun w h => hts0 w (wsL_law_in w h)
  have hown : s.vm.findClass RL = some mI.cls := hown0
  generalize hAe : va_A [] s.heap.size = A at hE hD hS
  have hA : ∀ q : Nat, s.heap.size ≤ q → A q := fun q h => by rw [← hAe]; exact Or.inr h
  have hbA : ¬ A bS := fa_A hAe hbl
  obtain ⟨hK, hNw, hNc, hZs, hAO1, hAO2⟩ := id hE
  have hSF : CallFix p mI cO cL_law 9 s ([.ref bS] : List Value).toArray wsL_law RL := ⟨hx, hb, hml, hown, hts⟩
  refine lv_aload_n hx hb dL_law_1714 rfl (lv_at hl 4 rfl) ?_
  refine lv_aload_n hx hb dL_law_1715 rfl (lv_at hl 5 rfl) ?_
  refine lv_iload hx hb dL_law_1716 (lv_at hl 0 rfl) ?_
  refine q_iconst hx hb dL_law_1718 ?_
  refine q_iadd (z := 1) hx hb dL_law_1719 (by omega) ?_
  refine va_sld hx hb hX hbl hbA hS (iI_in (by omega)) dL_law_1720 ?_
  rw [show (iI 1).toNatClampNeg = 1 from by decide, x1]
  refine lv_aload_n hx hb dL_law_1721 rfl (lv_at hl 5 rfl) ?_
  refine lv_iload hx hb dL_law_1722 (lv_at hl 0 rfl) ?_
  refine q_iconst hx hb dL_law_1724 ?_
  refine q_iadd (z := 2) hx hb dL_law_1725 (by omega) ?_
  refine va_sld hx hb hX hbl hbA hS (iI_in (by omega)) dL_law_1726 ?_
  rw [show (iI 2).toNatClampNeg = 2 from by decide, x2]
  refine lv_aload_n hx hb dL_law_1727 rfl (lv_at hl 2 rfl) ?_
  refine ki (vx_runSW (As := [.ref h0, .int (iI xv), .int (iI xw9), .ref hout]) (rest := []) hSF ((c_L_copyRow_1 l hl0 dC dI k hout h0 hn g1 g2 hea g3 g4 g5 g6 g7 0 0 0 0 0 0 0 0 0 0 0 xrF xv xw9 (by omega) (by omega)) H.size) (vx_cwSW 4 hts gL_law_L_copyRow rfl rfl rfl (by decide +kernel) ⟨Nat.le_of_ble_eq_true rfl, Nat.le_of_ble_eq_true rfl⟩) (preS hP hD hE hS hA [0, 1, 2] rfl (by decide)) rfl rfl hl.1 rfl (lv_room (Nat.le_of_ble_eq_true rfl)) dL_law_1728 ⟨Nat.le_of_ble_eq_true rfl, Nat.le_of_ble_eq_true rfl⟩) hP hD hS hA [0, 1, 2] [3, 4] rfl (wr := [(m0, .inr (11, [.ref mg, .long (lI 0), .ref mk, .long (lI 0), .int (iI 0), .ref mp, .ref mpu, .int (iI 0), .ref ms, .long (lI 0), .int (iI 0), .int (iI 0), .int (iI 0), .int (iI 0), .int (iI 0), .long (lI 0), .ref mpl, .int (iI 0), .ref mpd, .int (iI 0), .ref mtx, .int (iI 0), .int (iI 0), .int (iI (-1)), .int (iI (-1)), .int (iI 0), .ref mtd, .int (iI 0), .ref mrw, .ref mrl, .ref mir])), (mrl, .inl (k 0, 2, .inl (aI rlF)))]) rfl (by decide) (by decide) (fun r1728 _ H locs hw hP hD hS => ?_)
  obtain rfl : r1728 = (iI 1) := hw
  have hP : va_P (dC, dI) vwCl [(m0, .inr (11, [.ref mg, .long (lI 0), .ref mk, .long (lI 0), .int (iI 0), .ref mp, .ref mpu, .int (iI 0), .ref ms, .long (lI 0), .int (iI 0), .int (iI 0), .int (iI 0), .int (iI 0), .int (iI 0), .long (lI 0), .ref mpl, .int (iI 0), .ref mpd, .int (iI 0), .ref mtx, .int (iI 0), .int (iI 0), .int (iI (-1)), .int (iI (-1)), .int (iI 0), .ref mtd, .int (iI 0), .ref mrw, .ref mrl, .ref mir])), (mrl, .inl (k 0, 2, .inl (aI rlF)))] H := hP
  have hD : va_D A [(m0, .inr (11, [.ref mg, .long (lI 0), .ref mk, .long (lI 0), .int (iI 0), .ref mp, .ref mpu, .int (iI 0), .ref ms, .long (lI 0), .int (iI 0), .int (iI 0), .int (iI 0), .int (iI 0), .int (iI 0), .long (lI 0), .ref mpl, .int (iI 0), .ref mpd, .int (iI 0), .ref mtx, .int (iI 0), .int (iI 0), .int (iI (-1)), .int (iI (-1)), .int (iI 0), .ref mtd, .int (iI 0), .ref mrw, .ref mrl, .ref mir])), (mrl, .inl (k 0, 2, .inl (aI rlF)))] := hD
  refine lv_istore (lv' := [(6, .int (iI 1)), (5, .int (iI 0)), (4, .ref hoD), (3, .ref hout), (2, .ref m0), (1, .ref h0), (0, .ref bS)]) hx hb dL_law_1731 hl (by decide) rfl (fun ls hl => ?_)
  refine lv_aload_n hx hb dL_law_1733 rfl (lv_at hl 4 rfl) ?_
  refine lv_aload_n hx hb dL_law_1734 rfl (lv_at hl 6 rfl) ?_
  refine lv_iload hx hb dL_law_1735 (lv_at hl 1 rfl) ?_
  refine q_iconst hx hb dL_law_1737 ?_
  refine q_iadd (z := 1) hx hb dL_law_1738 (by omega) ?_
  refine va_sld hx hb hX hbl hbA hS (iI_in (by omega)) dL_law_1739 ?_
  rw [show (iI 1).toNatClampNeg = 1 from by decide, x1]
  refine lv_aload_n hx hb dL_law_1740 rfl (lv_at hl 6 rfl) ?_
  refine lv_iload hx hb dL_law_1741 (lv_at hl 1 rfl) ?_
  refine q_iconst hx hb dL_law_1743 ?_
  refine q_iadd (z := 2) hx hb dL_law_1744 (by omega) ?_
  refine va_sld hx hb hX hbl hbA hS (iI_in (by omega)) dL_law_1745 ?_
  rw [show (iI 2).toNatClampNeg = 2 from by decide, x2]
  refine ki (va_runV (As := [.int (iI xv), .int (iI xw9)]) (rest := []) hSF ((c_X11_copyRow_1 l dC dI k m0 mg mk mp mpu ms mpl mpd mtx mtd mrw mrl mir xv xw9 (by omega) (by omega)) H.size) (cwV 2 hts gL_law_X11_copyRow rfl rfl rfl (by decide +kernel) ⟨Nat.le_of_ble_eq_true rfl, Nat.le_of_ble_eq_true rfl⟩) (preV hP hD hE hS hA [0, 1] rfl (by decide) (ci := 11) (q0 := 0) rfl rfl) rfl rfl hl.1 rfl (lv_room (Nat.le_of_ble_eq_true rfl)) dL_law_1746 ⟨Nat.le_of_ble_eq_true rfl, Nat.le_of_ble_eq_true rfl⟩) hP hD hS hA [0, 1] [] rfl (wr := []) rfl (by decide) (by decide) (fun r1746 _ H locs hw hP hD hS => ?_)
  obtain rfl : r1746 = (iI 0) := hw
  have hP : va_P (dC, dI) vwCl [(m0, .inr (11, [.ref mg, .long (lI 0), .ref mk, .long (lI 0), .int (iI 0), .ref mp, .ref mpu, .int (iI 0), .ref ms, .long (lI 0), .int (iI 0), .int (iI 1), .int (iI 0), .int (iI 0), .int (iI 0), .long (lI 0), .ref mpl, .int (iI 0), .ref mpd, .int (iI 0), .ref mtx, .int (iI 0), .int (iI 0), .int (iI (-1)), .int (iI (-1)), .int (iI 0), .ref mtd, .int (iI 0), .ref mrw, .ref mrl, .ref mir]))] H := hP
  have hD : va_D A [(m0, .inr (11, [.ref mg, .long (lI 0), .ref mk, .long (lI 0), .int (iI 0), .ref mp, .ref mpu, .int (iI 0), .ref ms, .long (lI 0), .int (iI 0), .int (iI 1), .int (iI 0), .int (iI 0), .int (iI 0), .long (lI 0), .ref mpl, .int (iI 0), .ref mpd, .int (iI 0), .ref mtx, .int (iI 0), .int (iI 0), .int (iI (-1)), .int (iI (-1)), .int (iI 0), .ref mtd, .int (iI 0), .ref mrw, .ref mrl, .ref mir]))] := hD
  refine lv_istore (lv' := [(7, .int (iI 0)), (6, .int (iI 1)), (5, .int (iI 0)), (4, .ref hoD), (3, .ref hout), (2, .ref m0), (1, .ref h0), (0, .ref bS)]) hx hb dL_law_1749 hl (by decide) rfl (fun ls hl => ?_)
  refine lv_aload_n hx hb dL_law_1751 rfl (lv_at hl 5 rfl) ?_
  refine ki (va_runV (As := []) (rest := []) hSF ((c_X11_thrown l dC dI k m0 (.ref mg) (.long (lI 0)) (.ref mk) (.long (lI 0)) (.int (iI 0)) (.ref mp) (.ref mpu) (.int (iI 0)) (.ref ms) (.long (lI 0)) (.int (iI 0)) 1 [.int (iI 0), .int (iI 0), .int (iI 0), .long (lI 0), .ref mpl, .int (iI 0), .ref mpd, .int (iI 0), .ref mtx, .int (iI 0), .int (iI 0), .int (iI (-1)), .int (iI (-1)), .int (iI 0), .ref mtd, .int (iI 0), .ref mrw, .ref mrl, .ref mir]) H.size) (cwV 0 hts gL_law_X11_thrown rfl rfl rfl (by decide +kernel) ⟨Nat.le_of_ble_eq_true rfl, Nat.le_of_ble_eq_true rfl⟩) (preV hP hD hE hS hA [0] rfl (by decide) (ci := 11) (q0 := 0) rfl rfl) rfl rfl hl.1 rfl (lv_room (Nat.le_of_ble_eq_true rfl)) dL_law_1752 ⟨Nat.le_of_ble_eq_true rfl, Nat.le_of_ble_eq_true rfl⟩) hP hD hS hA [0] [] rfl (wr := []) rfl (by decide) (by decide) (fun r1752 _ H locs hw hP hD hS => ?_)
  obtain rfl : r1752 = (iI 1) := hw
  have hP : va_P (dC, dI) vwCl [(m0, .inr (11, [.ref mg, .long (lI 0), .ref mk, .long (lI 0), .int (iI 0), .ref mp, .ref mpu, .int (iI 0), .ref ms, .long (lI 0), .int (iI 0), .int (iI 1), .int (iI 0), .int (iI 0), .int (iI 0), .long (lI 0), .ref mpl, .int (iI 0), .ref mpd, .int (iI 0), .ref mtx, .int (iI 0), .int (iI 0), .int (iI (-1)), .int (iI (-1)), .int (iI 0), .ref mtd, .int (iI 0), .ref mrw, .ref mrl, .ref mir]))] H := hP
  have hD : va_D A [(m0, .inr (11, [.ref mg, .long (lI 0), .ref mk, .long (lI 0), .int (iI 0), .ref mp, .ref mpu, .int (iI 0), .ref ms, .long (lI 0), .int (iI 0), .int (iI 1), .int (iI 0), .int (iI 0), .int (iI 0), .long (lI 0), .ref mpl, .int (iI 0), .ref mpd, .int (iI 0), .ref mtx, .int (iI 0), .int (iI 0), .int (iI (-1)), .int (iI (-1)), .int (iI 0), .ref mtd, .int (iI 0), .ref mrw, .ref mrl, .ref mir]))] := hD
  refine lv_iload hx hb dL_law_1755 (lv_at hl 1 rfl) ?_
  refine q_icmp_eq (tgt := 1762) hx hb dL_law_1757 (by decide) (by omega) (fun _ => ?_) (fun q => absurd q (by omega))
  refine lv_iload hx hb dL_law_1762 (lv_at hl 1 rfl) ?_
  refine q_if_ne (tgt := 1786) hx hb dL_law_1764 (by decide) (by omega) (fun _ => ?_) (fun q => absurd q (by omega))
  refine lv_goto (tgt := 1935) hx hb dL_law_1786 (by decide) ?_
  exact law_end l hL5 C0 hAe hS (lv_sub hl [2, 7] rfl) (Nat.le_of_ble_eq_true rfl) (Nat.le_of_ble_eq_true rfl)
set_option maxHeartbeats 4000000 in
set_option maxRecDepth 100000 in
theorem law_28_2_0 (l : Launch) (hl0 : l.stackTraces = false) (dC : Nat → ClassId) (dI : Nat → Nat → Nat) (k : Nat → ClassId) {p : Program} {e : Env} {s : State} {mI : MethodId} {below : List Frame} {meth : Method} {cO : Code} {bS L : Nat} {zs : Nat → Int32} (hL5 : L = 5) (C0 : lw_At p s mI meth cO bS L zs) (hE : En (dC, dI) k (va_A [] s.heap.size) s s.heap) (hout : Nat) (h0 hn g1 g2 hea g3 g4 g5 g6 g7 xa1 xa2 xa3 xa4 xa5 xa6 xa7 xa8 xa9 xa10 xa11 hr0 xw1 xw2 hr1 xw3 xw4 : Nat) (xrF : Nat → Option Nat) (xw9 : Int) (hz0 : xrF 0 = some hr0) (hz1 : xrF 1 = some hr1) (m0 mg mk mp mpu ms mpl mpd mtx mtd mrw mrl mir hoD : Nat) (x1 : zs 1 = iI 0) (x2 : zs 2 = iI xw9) (hw9 : -2147483648 ≤ xw9 ∧ xw9 ≤ 2147483647) : ∀ (H : Heap) (locs : List Loc), va_P (dC, dI) vwCl [(h0, .inr (10, [.ref hn, .ref g1, .ref g2, .ref hea, .ref g3, .ref g4, .ref g5, .ref g6, .ref g7, .int (iI 0), .int (iI 0), .int (iI 0), .int (iI (-1)), .int (iI (-1)), .int (iI 0)])), (g7, .inl (k 7, 2, .inr (.inr (.inr (.inr xrF))))), (hr0, .inr (9, [.ref xw1, .ref xw2, .int (iI 0), .int (iI 0), .int (iI 0)])), (hr1, .inr (9, [.ref xw3, .ref xw4, .int (iI 0), .int (iI 0), .int (iI 0)])), (hout, .inl (k 1, 1, .inr (.inl (aL aZ)))), (m0, .inr (11, [.ref mg, .long (lI 0), .ref mk, .long (lI 0), .int (iI 0), .ref mp, .ref mpu, .int (iI 0), .ref ms, .long (lI 0), .int (iI 0), .int (iI 0), .int (iI 0), .int (iI 0), .int (iI 0), .long (lI 0), .ref mpl, .int (iI 0), .ref mpd, .int (iI 0), .ref mtx, .int (iI 0), .int (iI 0), .int (iI (-1)), .int (iI (-1)), .int (iI 0), .ref mtd, .int (iI 0), .ref mrw, .ref mrl, .ref mir])), (mrl, .inl (k 0, 2, .inl (aI rlF)))] H → va_D (va_A [] s.heap.size) [(h0, .inr (10, [.ref hn, .ref g1, .ref g2, .ref hea, .ref g3, .ref g4, .ref g5, .ref g6, .ref g7, .int (iI 0), .int (iI 0), .int (iI 0), .int (iI (-1)), .int (iI (-1)), .int (iI 0)])), (g7, .inl (k 7, 2, .inr (.inr (.inr (.inr xrF))))), (hr0, .inr (9, [.ref xw1, .ref xw2, .int (iI 0), .int (iI 0), .int (iI 0)])), (hr1, .inr (9, [.ref xw3, .ref xw4, .int (iI 0), .int (iI 0), .int (iI 0)])), (hout, .inl (k 1, 1, .inr (.inl (aL aZ)))), (m0, .inr (11, [.ref mg, .long (lI 0), .ref mk, .long (lI 0), .int (iI 0), .ref mp, .ref mpu, .int (iI 0), .ref ms, .long (lI 0), .int (iI 0), .int (iI 0), .int (iI 0), .int (iI 0), .int (iI 0), .long (lI 0), .ref mpl, .int (iI 0), .ref mpd, .int (iI 0), .ref mtx, .int (iI 0), .int (iI 0), .int (iI (-1)), .int (iI (-1)), .int (iI 0), .ref mtd, .int (iI 0), .ref mrw, .ref mrl, .ref mir])), (mrl, .inl (k 0, 2, .inl (aI rlF)))] → va_S (va_A [] s.heap.size) s.heap H locs → ∀ ls : Array Slot, lv_has ls 9 [(5, .int (iI 0)), (4, .ref hoD), (3, .ref hout), (2, .ref m0), (1, .ref h0), (0, .ref bS)] → W p l e room_1 s mI #[Value.ref bS] below meth cO H locs 173 27875 (lw_Z below #[Value.ref bS] s) (F0 mI 1714 ls []) := by
  intro H locs hP hD hS ls hl
  obtain ⟨hx, hb, hr, hml, hown0, hts0, hX, hbl, hlocks, hgv⟩ := id C0
  have hts : ∀ w ∈ wsL_law, w.before #[Value.ref bS] s = true := fun w h => hts0 w (wsL_law_in w h)
  have hown : s.vm.findClass RL = some mI.cls := hown0
  generalize hAe : va_A [] s.heap.size = A at hE hD hS
  have hA : ∀ q : Nat, s.heap.size ≤ q → A q := fun q h => by rw [← hAe]; exact Or.inr h
  have hbA : ¬ A bS := fa_A hAe hbl
  obtain ⟨hK, hNw, hNc, hZs, hAO1, hAO2⟩ := id hE
  have hSF : CallFix p mI cO cL_law 9 s ([.ref bS] : List Value).toArray wsL_law RL := ⟨hx, hb, hml, hown, hts⟩
  refine lv_aload_n hx hb dL_law_1714 rfl (lv_at hl 4 rfl) ?_
  refine lv_aload_n hx hb dL_law_1715 rfl (lv_at hl 5 rfl) ?_
  refine lv_iload hx hb dL_law_1716 (lv_at hl 0 rfl) ?_
  refine q_iconst hx hb dL_law_1718 ?_
  refine q_iadd (z := 1) hx hb dL_law_1719 (by omega) ?_
  refine va_sld hx hb hX hbl hbA hS (iI_in (by omega)) dL_law_1720 ?_
  rw [show (iI 1).toNatClampNeg = 1 from by decide, x1]
  refine lv_aload_n hx hb dL_law_1721 rfl (lv_at hl 5 rfl) ?_
  refine lv_iload hx hb dL_law_1722 (lv_at hl 0 rfl) ?_
  refine q_iconst hx hb dL_law_1724 ?_
  refine q_iadd (z := 2) hx hb dL_law_1725 (by omega) ?_
  refine va_sld hx hb hX hbl hbA hS (iI_in (by omega)) dL_law_1726 ?_
  rw [show (iI 2).toNatClampNeg = 2 from by decide, x2]
  refine lv_aload_n hx hb dL_law_1727 rfl (lv_at hl 2 rfl) ?_
  refine ki (vx_runSW (As := [.ref h0, .int (iI 0), .int (iI xw9), .ref hout]) (rest := []) hSF ((c_L_copyRow_2_0 l hl0 dC dI k hout h0 hn g1 g2 hea g3 g4 g5 g6 g7 0 0 0 0 0 0 0 0 0 0 0 hr0 xw1 xw2 hr1 xw3 xw4 xrF xw9 hz0 hz1) H.size) (vx_cwSW 4 hts gL_law_L_copyRow rfl rfl rfl (by decide +kernel) ⟨Nat.le_of_ble_eq_true rfl, Nat.le_of_ble_eq_true rfl⟩) (preS hP hD hE hS hA [0, 1, 2, 3, 4] rfl (by decide)) rfl rfl hl.1 rfl (lv_room (Nat.le_of_ble_eq_true rfl)) dL_law_1728 ⟨Nat.le_of_ble_eq_true rfl, Nat.le_of_ble_eq_true rfl⟩) hP hD hS hA [0, 1, 2, 3, 4] [5, 6] rfl (wr := [(m0, .inr (11, [.ref mg, .long (lI 0), .ref mk, .long (lI 0), .int (iI 0), .ref mp, .ref mpu, .int (iI 0), .ref ms, .long (lI 0), .int (iI 0), .int (iI 0), .int (iI 0), .int (iI 0), .int (iI 0), .long (lI 0), .ref mpl, .int (iI 0), .ref mpd, .int (iI 0), .ref mtx, .int (iI 0), .int (iI 0), .int (iI (-1)), .int (iI (-1)), .int (iI 0), .ref mtd, .int (iI 0), .ref mrw, .ref mrl, .ref mir])), (mrl, .inl (k 0, 2, .inl (aI rlF)))]) rfl (by decide) (by decide) (fun r1728 _ H locs hw hP hD hS => ?_)
  obtain rfl : r1728 = (iI 2) := hw
  have hP : va_P (dC, dI) vwCl [(m0, .inr (11, [.ref mg, .long (lI 0), .ref mk, .long (lI 0), .int (iI 0), .ref mp, .ref mpu, .int (iI 0), .ref ms, .long (lI 0), .int (iI 0), .int (iI 0), .int (iI 0), .int (iI 0), .int (iI 0), .long (lI 0), .ref mpl, .int (iI 0), .ref mpd, .int (iI 0), .ref mtx, .int (iI 0), .int (iI 0), .int (iI (-1)), .int (iI (-1)), .int (iI 0), .ref mtd, .int (iI 0), .ref mrw, .ref mrl, .ref mir])), (mrl, .inl (k 0, 2, .inl (aI rlF)))] H := hP
  have hD : va_D A [(m0, .inr (11, [.ref mg, .long (lI 0), .ref mk, .long (lI 0), .int (iI 0), .ref mp, .ref mpu, .int (iI 0), .ref ms, .long (lI 0), .int (iI 0), .int (iI 0), .int (iI 0), .int (iI 0), .int (iI 0), .long (lI 0), .ref mpl, .int (iI 0), .ref mpd, .int (iI 0), .ref mtx, .int (iI 0), .int (iI 0), .int (iI (-1)), .int (iI (-1)), .int (iI 0), .ref mtd, .int (iI 0), .ref mrw, .ref mrl, .ref mir])), (mrl, .inl (k 0, 2, .inl (aI rlF)))] := hD
  refine lv_istore (lv' := [(6, .int (iI 2)), (5, .int (iI 0)), (4, .ref hoD), (3, .ref hout), (2, .ref m0), (1, .ref h0), (0, .ref bS)]) hx hb dL_law_1731 hl (by decide) rfl (fun ls hl => ?_)
  refine lv_aload_n hx hb dL_law_1733 rfl (lv_at hl 4 rfl) ?_
  refine lv_aload_n hx hb dL_law_1734 rfl (lv_at hl 6 rfl) ?_
  refine lv_iload hx hb dL_law_1735 (lv_at hl 1 rfl) ?_
  refine q_iconst hx hb dL_law_1737 ?_
  refine q_iadd (z := 1) hx hb dL_law_1738 (by omega) ?_
  refine va_sld hx hb hX hbl hbA hS (iI_in (by omega)) dL_law_1739 ?_
  rw [show (iI 1).toNatClampNeg = 1 from by decide, x1]
  refine lv_aload_n hx hb dL_law_1740 rfl (lv_at hl 6 rfl) ?_
  refine lv_iload hx hb dL_law_1741 (lv_at hl 1 rfl) ?_
  refine q_iconst hx hb dL_law_1743 ?_
  refine q_iadd (z := 2) hx hb dL_law_1744 (by omega) ?_
  refine va_sld hx hb hX hbl hbA hS (iI_in (by omega)) dL_law_1745 ?_
  rw [show (iI 2).toNatClampNeg = 2 from by decide, x2]
  refine ki (va_runV (As := [.int (iI 0), .int (iI xw9)]) (rest := []) hSF ((c_X11_copyRow_2_0 l dC dI k m0 mg mk mp mpu ms mpl mpd mtx mtd mrw mrl mir xw9 (by omega)) H.size) (cwV 2 hts gL_law_X11_copyRow rfl rfl rfl (by decide +kernel) ⟨Nat.le_of_ble_eq_true rfl, Nat.le_of_ble_eq_true rfl⟩) (preV hP hD hE hS hA [0, 1] rfl (by decide) (ci := 11) (q0 := 0) rfl rfl) rfl rfl hl.1 rfl (lv_room (Nat.le_of_ble_eq_true rfl)) dL_law_1746 ⟨Nat.le_of_ble_eq_true rfl, Nat.le_of_ble_eq_true rfl⟩) hP hD hS hA [0, 1] [] rfl (wr := []) rfl (by decide) (by decide) (fun r1746 _ H locs hw hP hD hS => ?_)
  obtain rfl : r1746 = (iI 0) := hw
  have hP : va_P (dC, dI) vwCl [(m0, .inr (11, [.ref mg, .long (lI 0), .ref mk, .long (lI 0), .int (iI 0), .ref mp, .ref mpu, .int (iI 0), .ref ms, .long (lI 0), .int (iI 0), .int (iI 2), .int (iI 0), .int (iI 0), .int (iI 0), .long (lI 0), .ref mpl, .int (iI 0), .ref mpd, .int (iI 0), .ref mtx, .int (iI 0), .int (iI 0), .int (iI (-1)), .int (iI (-1)), .int (iI 0), .ref mtd, .int (iI 0), .ref mrw, .ref mrl, .ref mir]))] H := hP
  have hD : va_D A [(m0, .inr (11, [.ref mg, .long (lI 0), .ref mk, .long (lI 0), .int (iI 0), .ref mp, .ref mpu, .int (iI 0), .ref ms, .long (lI 0), .int (iI 0), .int (iI 2), .int (iI 0), .int (iI 0), .int (iI 0), .long (lI 0), .ref mpl, .int (iI 0), .ref mpd, .int (iI 0), .ref mtx, .int (iI 0), .int (iI 0), .int (iI (-1)), .int (iI (-1)), .int (iI 0), .ref mtd, .int (iI 0), .ref mrw, .ref mrl, .ref mir]))] := hD
  refine lv_istore (lv' := [(7, .int (iI 0)), (6, .int (iI 2)), (5, .int (iI 0)), (4, .ref hoD), (3, .ref hout), (2, .ref m0), (1, .ref h0), (0, .ref bS)]) hx hb dL_law_1749 hl (by decide) rfl (fun ls hl => ?_)
  refine lv_aload_n hx hb dL_law_1751 rfl (lv_at hl 5 rfl) ?_
  refine ki (va_runV (As := []) (rest := []) hSF ((c_X11_thrown l dC dI k m0 (.ref mg) (.long (lI 0)) (.ref mk) (.long (lI 0)) (.int (iI 0)) (.ref mp) (.ref mpu) (.int (iI 0)) (.ref ms) (.long (lI 0)) (.int (iI 0)) 2 [.int (iI 0), .int (iI 0), .int (iI 0), .long (lI 0), .ref mpl, .int (iI 0), .ref mpd, .int (iI 0), .ref mtx, .int (iI 0), .int (iI 0), .int (iI (-1)), .int (iI (-1)), .int (iI 0), .ref mtd, .int (iI 0), .ref mrw, .ref mrl, .ref mir]) H.size) (cwV 0 hts gL_law_X11_thrown rfl rfl rfl (by decide +kernel) ⟨Nat.le_of_ble_eq_true rfl, Nat.le_of_ble_eq_true rfl⟩) (preV hP hD hE hS hA [0] rfl (by decide) (ci := 11) (q0 := 0) rfl rfl) rfl rfl hl.1 rfl (lv_room (Nat.le_of_ble_eq_true rfl)) dL_law_1752 ⟨Nat.le_of_ble_eq_true rfl, Nat.le_of_ble_eq_true rfl⟩) hP hD hS hA [0] [] rfl (wr := []) rfl (by decide) (by decide) (fun r1752 _ H locs hw hP hD hS => ?_)
  obtain rfl : r1752 = (iI 2) := hw
  have hP : va_P (dC, dI) vwCl [(m0, .inr (11, [.ref mg, .long (lI 0), .ref mk, .long (lI 0), .int (iI 0), .ref mp, .ref mpu, .int (iI 0), .ref ms, .long (lI 0), .int (iI 0), .int (iI 2), .int (iI 0), .int (iI 0), .int (iI 0), .long (lI 0), .ref mpl, .int (iI 0), .ref mpd, .int (iI 0), .ref mtx, .int (iI 0), .int (iI 0), .int (iI (-1)), .int (iI (-1)), .int (iI 0), .ref mtd, .int (iI 0), .ref mrw, .ref mrl, .ref mir]))] H := hP
  have hD : va_D A [(m0, .inr (11, [.ref mg, .long (lI 0), .ref mk, .long (lI 0), .int (iI 0), .ref mp, .ref mpu, .int (iI 0), .ref ms, .long (lI 0), .int (iI 0), .int (iI 2), .int (iI 0), .int (iI 0), .int (iI 0), .long (lI 0), .ref mpl, .int (iI 0), .ref mpd, .int (iI 0), .ref mtx, .int (iI 0), .int (iI 0), .int (iI (-1)), .int (iI (-1)), .int (iI 0), .ref mtd, .int (iI 0), .ref mrw, .ref mrl, .ref mir]))] := hD
  refine lv_iload hx hb dL_law_1755 (lv_at hl 1 rfl) ?_
  refine q_icmp_eq (tgt := 1762) hx hb dL_law_1757 (by decide) (by omega) (fun _ => ?_) (fun q => absurd q (by omega))
  refine lv_iload hx hb dL_law_1762 (lv_at hl 1 rfl) ?_
  refine q_if_ne (tgt := 1786) hx hb dL_law_1764 (by decide) (by omega) (fun _ => ?_) (fun q => absurd q (by omega))
  refine lv_goto (tgt := 1935) hx hb dL_law_1786 (by decide) ?_
  exact law_end l hL5 C0 hAe hS (lv_sub hl [2, 7] rfl) (Nat.le_of_ble_eq_true rfl) (Nat.le_of_ble_eq_true rfl)
set_option maxHeartbeats 4000000 in
set_option maxRecDepth 100000 in
theorem law_28_2_1 (l : Launch) (hl0 : l.stackTraces = false) (dC : Nat → ClassId) (dI : Nat → Nat → Nat) (k : Nat → ClassId) {p : Program} {e : Env} {s : State} {mI : MethodId} {below : List Frame} {meth : Method} {cO : Code} {bS L : Nat} {zs : Nat → Int32} (hL5 : L = 5) (C0 : lw_At p s mI meth cO bS L zs) (hE : En (dC, dI) k (va_A [] s.heap.size) s s.heap) (hout : Nat) (h0 hn g1 g2 hea g3 g4 g5 g6 g7 xa1 xa2 xa3 xa4 xa5 xa6 xa7 xa8 xa9 xa10 xa11 hr0 xw1 xw2 hr1 xw3 xw4 : Nat) (xrF : Nat → Option Nat) (xw9 : Int) (hz0 : xrF 0 = some hr0) (hz1 : xrF 1 = some hr1) (m0 mg mk mp mpu ms mpl mpd mtx mtd mrw mrl mir hoD : Nat) (x1 : zs 1 = iI 1) (x2 : zs 2 = iI xw9) (hw9 : -2147483648 ≤ xw9 ∧ xw9 ≤ 2147483647) : ∀ (H : Heap) (locs : List Loc), va_P (dC, dI) vwCl [(h0, .inr (10, [.ref hn, .ref g1, .ref g2, .ref hea, .ref g3, .ref g4, .ref g5, .ref g6, .ref g7, .int (iI 0), .int (iI 0), .int (iI 0), .int (iI (-1)), .int (iI (-1)), .int (iI 0)])), (g7, .inl (k 7, 2, .inr (.inr (.inr (.inr xrF))))), (hr0, .inr (9, [.ref xw1, .ref xw2, .int (iI 0), .int (iI 0), .int (iI 0)])), (hr1, .inr (9, [.ref xw3, .ref xw4, .int (iI 0), .int (iI 0), .int (iI 0)])), (hout, .inl (k 1, 1, .inr (.inl (aL aZ)))), (m0, .inr (11, [.ref mg, .long (lI 0), .ref mk, .long (lI 0), .int (iI 0), .ref mp, .ref mpu, .int (iI 0), .ref ms, .long (lI 0), .int (iI 0), .int (iI 0), .int (iI 0), .int (iI 0), .int (iI 0), .long (lI 0), .ref mpl, .int (iI 0), .ref mpd, .int (iI 0), .ref mtx, .int (iI 0), .int (iI 0), .int (iI (-1)), .int (iI (-1)), .int (iI 0), .ref mtd, .int (iI 0), .ref mrw, .ref mrl, .ref mir])), (mrl, .inl (k 0, 2, .inl (aI rlF)))] H → va_D (va_A [] s.heap.size) [(h0, .inr (10, [.ref hn, .ref g1, .ref g2, .ref hea, .ref g3, .ref g4, .ref g5, .ref g6, .ref g7, .int (iI 0), .int (iI 0), .int (iI 0), .int (iI (-1)), .int (iI (-1)), .int (iI 0)])), (g7, .inl (k 7, 2, .inr (.inr (.inr (.inr xrF))))), (hr0, .inr (9, [.ref xw1, .ref xw2, .int (iI 0), .int (iI 0), .int (iI 0)])), (hr1, .inr (9, [.ref xw3, .ref xw4, .int (iI 0), .int (iI 0), .int (iI 0)])), (hout, .inl (k 1, 1, .inr (.inl (aL aZ)))), (m0, .inr (11, [.ref mg, .long (lI 0), .ref mk, .long (lI 0), .int (iI 0), .ref mp, .ref mpu, .int (iI 0), .ref ms, .long (lI 0), .int (iI 0), .int (iI 0), .int (iI 0), .int (iI 0), .int (iI 0), .long (lI 0), .ref mpl, .int (iI 0), .ref mpd, .int (iI 0), .ref mtx, .int (iI 0), .int (iI 0), .int (iI (-1)), .int (iI (-1)), .int (iI 0), .ref mtd, .int (iI 0), .ref mrw, .ref mrl, .ref mir])), (mrl, .inl (k 0, 2, .inl (aI rlF)))] → va_S (va_A [] s.heap.size) s.heap H locs → ∀ ls : Array Slot, lv_has ls 9 [(5, .int (iI 0)), (4, .ref hoD), (3, .ref hout), (2, .ref m0), (1, .ref h0), (0, .ref bS)] → W p l e room_1 s mI #[Value.ref bS] below meth cO H locs 173 27875 (lw_Z below #[Value.ref bS] s) (F0 mI 1714 ls []) := by
  intro H locs hP hD hS ls hl
  obtain ⟨hx, hb, hr, hml, hown0, hts0, hX, hbl, hlocks, hgv⟩ := id C0
  have hts : ∀ w ∈ wsL_law, w.before #[Value.ref bS] s = true := fun w h => hts0 w (wsL_law_in w h)
  have hown : s.vm.findClass RL = some mI.cls := hown0
  generalize hAe : va_A [] s.heap.size = A at hE hD hS
  have hA : ∀ q : Nat, s.heap.size ≤ q → A q := fun q h => by rw [← hAe]; exact Or.inr h
  have hbA : ¬ A bS := fa_A hAe hbl
  obtain ⟨hK, hNw, hNc, hZs, hAO1, hAO2⟩ := id hE
  have hSF : CallFix p mI cO cL_law 9 s ([.ref bS] : List Value).toArray wsL_law RL := ⟨hx, hb, hml, hown, hts⟩
  refine lv_aload_n hx hb dL_law_1714 rfl (lv_at hl 4 rfl) ?_
  refine lv_aload_n hx hb dL_law_1715 rfl (lv_at hl 5 rfl) ?_
  refine lv_iload hx hb dL_law_1716 (lv_at hl 0 rfl) ?_
  refine q_iconst hx hb dL_law_1718 ?_
  refine q_iadd (z := 1) hx hb dL_law_1719 (by omega) ?_
  refine va_sld hx hb hX hbl hbA hS (iI_in (by omega)) dL_law_1720 ?_
  rw [show (iI 1).toNatClampNeg = 1 from by decide, x1]
  refine lv_aload_n hx hb dL_law_1721 rfl (lv_at hl 5 rfl) ?_
  refine lv_iload hx hb dL_law_1722 (lv_at hl 0 rfl) ?_
  refine q_iconst hx hb dL_law_1724 ?_
  refine q_iadd (z := 2) hx hb dL_law_1725 (by omega) ?_
  refine va_sld hx hb hX hbl hbA hS (iI_in (by omega)) dL_law_1726 ?_
  rw [show (iI 2).toNatClampNeg = 2 from by decide, x2]
  refine lv_aload_n hx hb dL_law_1727 rfl (lv_at hl 2 rfl) ?_
  refine ki (vx_runSW (As := [.ref h0, .int (iI 1), .int (iI xw9), .ref hout]) (rest := []) hSF ((c_L_copyRow_2_1 l hl0 dC dI k hout h0 hn g1 g2 hea g3 g4 g5 g6 g7 0 0 0 0 0 0 0 0 0 0 0 hr0 xw1 xw2 hr1 xw3 xw4 xrF xw9 hz0 hz1) H.size) (vx_cwSW 4 hts gL_law_L_copyRow rfl rfl rfl (by decide +kernel) ⟨Nat.le_of_ble_eq_true rfl, Nat.le_of_ble_eq_true rfl⟩) (preS hP hD hE hS hA [0, 1, 2, 3, 4] rfl (by decide)) rfl rfl hl.1 rfl (lv_room (Nat.le_of_ble_eq_true rfl)) dL_law_1728 ⟨Nat.le_of_ble_eq_true rfl, Nat.le_of_ble_eq_true rfl⟩) hP hD hS hA [0, 1, 2, 3, 4] [5, 6] rfl (wr := [(m0, .inr (11, [.ref mg, .long (lI 0), .ref mk, .long (lI 0), .int (iI 0), .ref mp, .ref mpu, .int (iI 0), .ref ms, .long (lI 0), .int (iI 0), .int (iI 0), .int (iI 0), .int (iI 0), .int (iI 0), .long (lI 0), .ref mpl, .int (iI 0), .ref mpd, .int (iI 0), .ref mtx, .int (iI 0), .int (iI 0), .int (iI (-1)), .int (iI (-1)), .int (iI 0), .ref mtd, .int (iI 0), .ref mrw, .ref mrl, .ref mir])), (mrl, .inl (k 0, 2, .inl (aI rlF)))]) rfl (by decide) (by decide) (fun r1728 _ H locs hw hP hD hS => ?_)
  obtain rfl : r1728 = (iI 2) := hw
  have hP : va_P (dC, dI) vwCl [(m0, .inr (11, [.ref mg, .long (lI 0), .ref mk, .long (lI 0), .int (iI 0), .ref mp, .ref mpu, .int (iI 0), .ref ms, .long (lI 0), .int (iI 0), .int (iI 0), .int (iI 0), .int (iI 0), .int (iI 0), .long (lI 0), .ref mpl, .int (iI 0), .ref mpd, .int (iI 0), .ref mtx, .int (iI 0), .int (iI 0), .int (iI (-1)), .int (iI (-1)), .int (iI 0), .ref mtd, .int (iI 0), .ref mrw, .ref mrl, .ref mir])), (mrl, .inl (k 0, 2, .inl (aI rlF)))] H := hP
  have hD : va_D A [(m0, .inr (11, [.ref mg, .long (lI 0), .ref mk, .long (lI 0), .int (iI 0), .ref mp, .ref mpu, .int (iI 0), .ref ms, .long (lI 0), .int (iI 0), .int (iI 0), .int (iI 0), .int (iI 0), .int (iI 0), .long (lI 0), .ref mpl, .int (iI 0), .ref mpd, .int (iI 0), .ref mtx, .int (iI 0), .int (iI 0), .int (iI (-1)), .int (iI (-1)), .int (iI 0), .ref mtd, .int (iI 0), .ref mrw, .ref mrl, .ref mir])), (mrl, .inl (k 0, 2, .inl (aI rlF)))] := hD
  refine lv_istore (lv' := [(6, .int (iI 2)), (5, .int (iI 0)), (4, .ref hoD), (3, .ref hout), (2, .ref m0), (1, .ref h0), (0, .ref bS)]) hx hb dL_law_1731 hl (by decide) rfl (fun ls hl => ?_)
  refine lv_aload_n hx hb dL_law_1733 rfl (lv_at hl 4 rfl) ?_
  refine lv_aload_n hx hb dL_law_1734 rfl (lv_at hl 6 rfl) ?_
  refine lv_iload hx hb dL_law_1735 (lv_at hl 1 rfl) ?_
  refine q_iconst hx hb dL_law_1737 ?_
  refine q_iadd (z := 1) hx hb dL_law_1738 (by omega) ?_
  refine va_sld hx hb hX hbl hbA hS (iI_in (by omega)) dL_law_1739 ?_
  rw [show (iI 1).toNatClampNeg = 1 from by decide, x1]
  refine lv_aload_n hx hb dL_law_1740 rfl (lv_at hl 6 rfl) ?_
  refine lv_iload hx hb dL_law_1741 (lv_at hl 1 rfl) ?_
  refine q_iconst hx hb dL_law_1743 ?_
  refine q_iadd (z := 2) hx hb dL_law_1744 (by omega) ?_
  refine va_sld hx hb hX hbl hbA hS (iI_in (by omega)) dL_law_1745 ?_
  rw [show (iI 2).toNatClampNeg = 2 from by decide, x2]
  refine ki (va_runV (As := [.int (iI 1), .int (iI xw9)]) (rest := []) hSF ((c_X11_copyRow_2_1 l dC dI k m0 mg mk mp mpu ms mpl mpd mtx mtd mrw mrl mir xw9 (by omega)) H.size) (cwV 2 hts gL_law_X11_copyRow rfl rfl rfl (by decide +kernel) ⟨Nat.le_of_ble_eq_true rfl, Nat.le_of_ble_eq_true rfl⟩) (preV hP hD hE hS hA [0, 1] rfl (by decide) (ci := 11) (q0 := 0) rfl rfl) rfl rfl hl.1 rfl (lv_room (Nat.le_of_ble_eq_true rfl)) dL_law_1746 ⟨Nat.le_of_ble_eq_true rfl, Nat.le_of_ble_eq_true rfl⟩) hP hD hS hA [0, 1] [] rfl (wr := []) rfl (by decide) (by decide) (fun r1746 _ H locs hw hP hD hS => ?_)
  obtain rfl : r1746 = (iI 0) := hw
  have hP : va_P (dC, dI) vwCl [(m0, .inr (11, [.ref mg, .long (lI 0), .ref mk, .long (lI 0), .int (iI 0), .ref mp, .ref mpu, .int (iI 0), .ref ms, .long (lI 0), .int (iI 0), .int (iI 2), .int (iI 0), .int (iI 0), .int (iI 0), .long (lI 0), .ref mpl, .int (iI 0), .ref mpd, .int (iI 0), .ref mtx, .int (iI 0), .int (iI 0), .int (iI (-1)), .int (iI (-1)), .int (iI 0), .ref mtd, .int (iI 0), .ref mrw, .ref mrl, .ref mir]))] H := hP
  have hD : va_D A [(m0, .inr (11, [.ref mg, .long (lI 0), .ref mk, .long (lI 0), .int (iI 0), .ref mp, .ref mpu, .int (iI 0), .ref ms, .long (lI 0), .int (iI 0), .int (iI 2), .int (iI 0), .int (iI 0), .int (iI 0), .long (lI 0), .ref mpl, .int (iI 0), .ref mpd, .int (iI 0), .ref mtx, .int (iI 0), .int (iI 0), .int (iI (-1)), .int (iI (-1)), .int (iI 0), .ref mtd, .int (iI 0), .ref mrw, .ref mrl, .ref mir]))] := hD
  refine lv_istore (lv' := [(7, .int (iI 0)), (6, .int (iI 2)), (5, .int (iI 0)), (4, .ref hoD), (3, .ref hout), (2, .ref m0), (1, .ref h0), (0, .ref bS)]) hx hb dL_law_1749 hl (by decide) rfl (fun ls hl => ?_)
  refine lv_aload_n hx hb dL_law_1751 rfl (lv_at hl 5 rfl) ?_
  refine ki (va_runV (As := []) (rest := []) hSF ((c_X11_thrown l dC dI k m0 (.ref mg) (.long (lI 0)) (.ref mk) (.long (lI 0)) (.int (iI 0)) (.ref mp) (.ref mpu) (.int (iI 0)) (.ref ms) (.long (lI 0)) (.int (iI 0)) 2 [.int (iI 0), .int (iI 0), .int (iI 0), .long (lI 0), .ref mpl, .int (iI 0), .ref mpd, .int (iI 0), .ref mtx, .int (iI 0), .int (iI 0), .int (iI (-1)), .int (iI (-1)), .int (iI 0), .ref mtd, .int (iI 0), .ref mrw, .ref mrl, .ref mir]) H.size) (cwV 0 hts gL_law_X11_thrown rfl rfl rfl (by decide +kernel) ⟨Nat.le_of_ble_eq_true rfl, Nat.le_of_ble_eq_true rfl⟩) (preV hP hD hE hS hA [0] rfl (by decide) (ci := 11) (q0 := 0) rfl rfl) rfl rfl hl.1 rfl (lv_room (Nat.le_of_ble_eq_true rfl)) dL_law_1752 ⟨Nat.le_of_ble_eq_true rfl, Nat.le_of_ble_eq_true rfl⟩) hP hD hS hA [0] [] rfl (wr := []) rfl (by decide) (by decide) (fun r1752 _ H locs hw hP hD hS => ?_)
  obtain rfl : r1752 = (iI 2) := hw
  have hP : va_P (dC, dI) vwCl [(m0, .inr (11, [.ref mg, .long (lI 0), .ref mk, .long (lI 0), .int (iI 0), .ref mp, .ref mpu, .int (iI 0), .ref ms, .long (lI 0), .int (iI 0), .int (iI 2), .int (iI 0), .int (iI 0), .int (iI 0), .long (lI 0), .ref mpl, .int (iI 0), .ref mpd, .int (iI 0), .ref mtx, .int (iI 0), .int (iI 0), .int (iI (-1)), .int (iI (-1)), .int (iI 0), .ref mtd, .int (iI 0), .ref mrw, .ref mrl, .ref mir]))] H := hP
  have hD : va_D A [(m0, .inr (11, [.ref mg, .long (lI 0), .ref mk, .long (lI 0), .int (iI 0), .ref mp, .ref mpu, .int (iI 0), .ref ms, .long (lI 0), .int (iI 0), .int (iI 2), .int (iI 0), .int (iI 0), .int (iI 0), .long (lI 0), .ref mpl, .int (iI 0), .ref mpd, .int (iI 0), .ref mtx, .int (iI 0), .int (iI 0), .int (iI (-1)), .int (iI (-1)), .int (iI 0), .ref mtd, .int (iI 0), .ref mrw, .ref mrl, .ref mir]))] := hD
  refine lv_iload hx hb dL_law_1755 (lv_at hl 1 rfl) ?_
  refine q_icmp_eq (tgt := 1762) hx hb dL_law_1757 (by decide) (by omega) (fun _ => ?_) (fun q => absurd q (by omega))
  refine lv_iload hx hb dL_law_1762 (lv_at hl 1 rfl) ?_
  refine q_if_ne (tgt := 1786) hx hb dL_law_1764 (by decide) (by omega) (fun _ => ?_) (fun q => absurd q (by omega))
  refine lv_goto (tgt := 1935) hx hb dL_law_1786 (by decide) ?_
  exact law_end l hL5 C0 hAe hS (lv_sub hl [2, 7] rfl) (Nat.le_of_ble_eq_true rfl) (Nat.le_of_ble_eq_true rfl)
set_option maxHeartbeats 4000000 in
set_option maxRecDepth 100000 in
theorem law_29_1 (l : Launch) (hl0 : l.stackTraces = false) (dC : Nat → ClassId) (dI : Nat → Nat → Nat) (k : Nat → ClassId) {p : Program} {e : Env} {s : State} {mI : MethodId} {below : List Frame} {meth : Method} {cO : Code} {bS L : Nat} {zs : Nat → Int32} (hL5 : L = 5) (C0 : lw_At p s mI meth cO bS L zs) (hE : En (dC, dI) k (va_A [] s.heap.size) s s.heap) (hout : Nat) (h0 hn g1 g2 hea g3 g4 g5 g6 g7 xa1 xa2 xa3 xa4 xa5 xa6 xa7 xa8 xa9 xa10 xa11 : Nat) (xrF : Nat → Option Nat) (xv xw9 : Int) (hv9 : -2147483648 ≤ xv ∧ xv ≤ 2147483647) (hv : ¬ (0 ≤ xv ∧ xv ≤ 1)) (m0 mg mk mp mpu ms mpl mpd mtx mtd mrw mrl mir hoL : Nat) (x1 : zs 1 = iI xv) (x2 : zs 2 = iI xw9) (hw9 : -2147483648 ≤ xw9 ∧ xw9 ≤ 2147483647) : ∀ (H : Heap) (locs : List Loc), va_P (dC, dI) vwCl [(h0, .inr (10, [.ref hn, .ref g1, .ref g2, .ref hea, .ref g3, .ref g4, .ref g5, .ref g6, .ref g7, .int (iI 0), .int (iI 0), .int (iI 0), .int (iI (-1)), .int (iI (-1)), .int (iI 0)])), (g7, .inl (k 7, 2, .inr (.inr (.inr (.inr xrF))))), (hout, .inl (k 3, 1, .inr (.inr (.inr (.inl (fun _ => FP.dconst0)))))), (m0, .inr (11, [.ref mg, .long (lI 0), .ref mk, .long (lI 0), .int (iI 0), .ref mp, .ref mpu, .int (iI 0), .ref ms, .long (lI 0), .int (iI 0), .int (iI 0), .int (iI 0), .int (iI 0), .int (iI 0), .long (lI 0), .ref mpl, .int (iI 0), .ref mpd, .int (iI 0), .ref mtx, .int (iI 0), .int (iI 0), .int (iI (-1)), .int (iI (-1)), .int (iI 0), .ref mtd, .int (iI 0), .ref mrw, .ref mrl, .ref mir])), (mrl, .inl (k 0, 2, .inl (aI rlF)))] H → va_D (va_A [] s.heap.size) [(h0, .inr (10, [.ref hn, .ref g1, .ref g2, .ref hea, .ref g3, .ref g4, .ref g5, .ref g6, .ref g7, .int (iI 0), .int (iI 0), .int (iI 0), .int (iI (-1)), .int (iI (-1)), .int (iI 0)])), (g7, .inl (k 7, 2, .inr (.inr (.inr (.inr xrF))))), (hout, .inl (k 3, 1, .inr (.inr (.inr (.inl (fun _ => FP.dconst0)))))), (m0, .inr (11, [.ref mg, .long (lI 0), .ref mk, .long (lI 0), .int (iI 0), .ref mp, .ref mpu, .int (iI 0), .ref ms, .long (lI 0), .int (iI 0), .int (iI 0), .int (iI 0), .int (iI 0), .int (iI 0), .long (lI 0), .ref mpl, .int (iI 0), .ref mpd, .int (iI 0), .ref mtx, .int (iI 0), .int (iI 0), .int (iI (-1)), .int (iI (-1)), .int (iI 0), .ref mtd, .int (iI 0), .ref mrw, .ref mrl, .ref mir])), (mrl, .inl (k 0, 2, .inl (aI rlF)))] → va_S (va_A [] s.heap.size) s.heap H locs → ∀ ls : Array Slot, lv_has ls 9 [(5, .int (iI 0)), (4, .ref hout), (3, .ref hoL), (2, .ref m0), (1, .ref h0), (0, .ref bS)] → W p l e room_1 s mI #[Value.ref bS] below meth cO H locs 173 27875 (lw_Z below #[Value.ref bS] s) (F0 mI 1789 ls []) := by
  intro H locs hP hD hS ls hl
  obtain ⟨hx, hb, hr, hml, hown0, hts0, hX, hbl, hlocks, hgv⟩ := id C0
  have hts : ∀ w ∈ wsL_law, w.before #[Value.ref bS] s = true := fun w h => hts0 w (wsL_law_in w h)
  have hown : s.vm.findClass RL = some mI.cls := hown0
  generalize hAe : va_A [] s.heap.size = A at hE hD hS
  have hA : ∀ q : Nat, s.heap.size ≤ q → A q := fun q h => by rw [← hAe]; exact Or.inr h
  have hbA : ¬ A bS := fa_A hAe hbl
  obtain ⟨hK, hNw, hNc, hZs, hAO1, hAO2⟩ := id hE
  have hSF : CallFix p mI cO cL_law 9 s ([.ref bS] : List Value).toArray wsL_law RL := ⟨hx, hb, hml, hown, hts⟩
  refine lv_aload_n hx hb dL_law_1789 rfl (lv_at hl 4 rfl) ?_
  refine lv_aload_n hx hb dL_law_1790 rfl (lv_at hl 5 rfl) ?_
  refine lv_iload hx hb dL_law_1791 (lv_at hl 0 rfl) ?_
  refine q_iconst hx hb dL_law_1793 ?_
  refine q_iadd (z := 1) hx hb dL_law_1794 (by omega) ?_
  refine va_sld hx hb hX hbl hbA hS (iI_in (by omega)) dL_law_1795 ?_
  rw [show (iI 1).toNatClampNeg = 1 from by decide, x1]
  refine lv_aload_n hx hb dL_law_1796 rfl (lv_at hl 5 rfl) ?_
  refine lv_iload hx hb dL_law_1797 (lv_at hl 0 rfl) ?_
  refine q_iconst hx hb dL_law_1799 ?_
  refine q_iadd (z := 2) hx hb dL_law_1800 (by omega) ?_
  refine va_sld hx hb hX hbl hbA hS (iI_in (by omega)) dL_law_1801 ?_
  rw [show (iI 2).toNatClampNeg = 2 from by decide, x2]
  refine lv_aload hx hb dL_law_1802 (lv_at hl 1 rfl) ?_
  refine ki (vx_runSW (As := [.ref h0, .int (iI xv), .int (iI xw9), .ref hout]) (rest := []) hSF ((c_L_stored_1 l hl0 dC dI k hout h0 hn g1 g2 hea g3 g4 g5 g6 g7 0 0 0 0 0 0 0 0 0 0 0 xrF xv xw9 (by omega) (by omega)) H.size) (vx_cwSW 4 hts gL_law_L_stored rfl rfl rfl (by decide +kernel) ⟨Nat.le_of_ble_eq_true rfl, Nat.le_of_ble_eq_true rfl⟩) (preS hP hD hE hS hA [0, 1, 2] rfl (by decide)) rfl rfl hl.1 rfl (lv_room (Nat.le_of_ble_eq_true rfl)) dL_law_1804 ⟨Nat.le_of_ble_eq_true rfl, Nat.le_of_ble_eq_true rfl⟩) hP hD hS hA [0, 1, 2] [3, 4] rfl (wr := [(m0, .inr (11, [.ref mg, .long (lI 0), .ref mk, .long (lI 0), .int (iI 0), .ref mp, .ref mpu, .int (iI 0), .ref ms, .long (lI 0), .int (iI 0), .int (iI 0), .int (iI 0), .int (iI 0), .int (iI 0), .long (lI 0), .ref mpl, .int (iI 0), .ref mpd, .int (iI 0), .ref mtx, .int (iI 0), .int (iI 0), .int (iI (-1)), .int (iI (-1)), .int (iI 0), .ref mtd, .int (iI 0), .ref mrw, .ref mrl, .ref mir])), (mrl, .inl (k 0, 2, .inl (aI rlF)))]) rfl (by decide) (by decide) (fun r1804 _ H locs hw hP hD hS => ?_)
  obtain rfl : r1804 = (iI 1) := hw
  have hP : va_P (dC, dI) vwCl [(m0, .inr (11, [.ref mg, .long (lI 0), .ref mk, .long (lI 0), .int (iI 0), .ref mp, .ref mpu, .int (iI 0), .ref ms, .long (lI 0), .int (iI 0), .int (iI 0), .int (iI 0), .int (iI 0), .int (iI 0), .long (lI 0), .ref mpl, .int (iI 0), .ref mpd, .int (iI 0), .ref mtx, .int (iI 0), .int (iI 0), .int (iI (-1)), .int (iI (-1)), .int (iI 0), .ref mtd, .int (iI 0), .ref mrw, .ref mrl, .ref mir])), (mrl, .inl (k 0, 2, .inl (aI rlF)))] H := hP
  have hD : va_D A [(m0, .inr (11, [.ref mg, .long (lI 0), .ref mk, .long (lI 0), .int (iI 0), .ref mp, .ref mpu, .int (iI 0), .ref ms, .long (lI 0), .int (iI 0), .int (iI 0), .int (iI 0), .int (iI 0), .int (iI 0), .long (lI 0), .ref mpl, .int (iI 0), .ref mpd, .int (iI 0), .ref mtx, .int (iI 0), .int (iI 0), .int (iI (-1)), .int (iI (-1)), .int (iI 0), .ref mtd, .int (iI 0), .ref mrw, .ref mrl, .ref mir])), (mrl, .inl (k 0, 2, .inl (aI rlF)))] := hD
  refine lv_istore (lv' := [(6, .int (iI 1)), (5, .int (iI 0)), (4, .ref hout), (3, .ref hoL), (2, .ref m0), (1, .ref h0), (0, .ref bS)]) hx hb dL_law_1807 hl (by decide) rfl (fun ls hl => ?_)
  refine lv_aload_n hx hb dL_law_1809 rfl (lv_at hl 4 rfl) ?_
  refine lv_aload_n hx hb dL_law_1810 rfl (lv_at hl 6 rfl) ?_
  refine lv_iload hx hb dL_law_1811 (lv_at hl 1 rfl) ?_
  refine q_iconst hx hb dL_law_1813 ?_
  refine q_iadd (z := 1) hx hb dL_law_1814 (by omega) ?_
  refine va_sld hx hb hX hbl hbA hS (iI_in (by omega)) dL_law_1815 ?_
  rw [show (iI 1).toNatClampNeg = 1 from by decide, x1]
  refine lv_aload_n hx hb dL_law_1816 rfl (lv_at hl 6 rfl) ?_
  refine lv_iload hx hb dL_law_1817 (lv_at hl 1 rfl) ?_
  refine q_iconst hx hb dL_law_1819 ?_
  refine q_iadd (z := 2) hx hb dL_law_1820 (by omega) ?_
  refine va_sld hx hb hX hbl hbA hS (iI_in (by omega)) dL_law_1821 ?_
  rw [show (iI 2).toNatClampNeg = 2 from by decide, x2]
  refine kd (va_runV (As := [.int (iI xv), .int (iI xw9)]) (rest := []) hSF ((c_X11_stored_1 l dC dI k m0 mg mk mp mpu ms mpl mpd mtx mtd mrw mrl mir xv xw9 (by omega) (by omega)) H.size) (cwV 2 hts gL_law_X11_stored rfl rfl rfl (by decide +kernel) ⟨Nat.le_of_ble_eq_true rfl, Nat.le_of_ble_eq_true rfl⟩) (preV hP hD hE hS hA [0, 1] rfl (by decide) (ci := 11) (q0 := 0) rfl rfl) rfl rfl hl.1 rfl (lv_room (Nat.le_of_ble_eq_true rfl)) dL_law_1822 ⟨Nat.le_of_ble_eq_true rfl, Nat.le_of_ble_eq_true rfl⟩) hP hD hS hA [0, 1] [] rfl (wr := []) rfl (by decide) (by decide) (fun r1822 _ H locs hw hP hD hS => ?_)
  obtain rfl : r1822 = FP.dconst0 := hw
  have hP : va_P (dC, dI) vwCl [(m0, .inr (11, [.ref mg, .long (lI 0), .ref mk, .long (lI 0), .int (iI 0), .ref mp, .ref mpu, .int (iI 0), .ref ms, .long (lI 0), .int (iI 0), .int (iI 1), .int (iI 0), .int (iI 0), .int (iI 0), .long (lI 0), .ref mpl, .int (iI 0), .ref mpd, .int (iI 0), .ref mtx, .int (iI 0), .int (iI 0), .int (iI (-1)), .int (iI (-1)), .int (iI 0), .ref mtd, .int (iI 0), .ref mrw, .ref mrl, .ref mir]))] H := hP
  have hD : va_D A [(m0, .inr (11, [.ref mg, .long (lI 0), .ref mk, .long (lI 0), .int (iI 0), .ref mp, .ref mpu, .int (iI 0), .ref ms, .long (lI 0), .int (iI 0), .int (iI 1), .int (iI 0), .int (iI 0), .int (iI 0), .long (lI 0), .ref mpl, .int (iI 0), .ref mpd, .int (iI 0), .ref mtx, .int (iI 0), .int (iI 0), .int (iI (-1)), .int (iI (-1)), .int (iI 0), .ref mtd, .int (iI 0), .ref mrw, .ref mrl, .ref mir]))] := hD
  refine lv_dstore (lv' := [(7, .double FP.dconst0), (6, .int (iI 1)), (5, .int (iI 0)), (4, .ref hout), (3, .ref hoL), (2, .ref m0), (1, .ref h0), (0, .ref bS)]) hx hb dL_law_1825 hl (by decide) rfl (fun ls hl => ?_)
  refine lv_aload_n hx hb dL_law_1827 rfl (lv_at hl 5 rfl) ?_
  refine ki (va_runV (As := []) (rest := []) hSF ((c_X11_thrown l dC dI k m0 (.ref mg) (.long (lI 0)) (.ref mk) (.long (lI 0)) (.int (iI 0)) (.ref mp) (.ref mpu) (.int (iI 0)) (.ref ms) (.long (lI 0)) (.int (iI 0)) 1 [.int (iI 0), .int (iI 0), .int (iI 0), .long (lI 0), .ref mpl, .int (iI 0), .ref mpd, .int (iI 0), .ref mtx, .int (iI 0), .int (iI 0), .int (iI (-1)), .int (iI (-1)), .int (iI 0), .ref mtd, .int (iI 0), .ref mrw, .ref mrl, .ref mir]) H.size) (cwV 0 hts gL_law_X11_thrown rfl rfl rfl (by decide +kernel) ⟨Nat.le_of_ble_eq_true rfl, Nat.le_of_ble_eq_true rfl⟩) (preV hP hD hE hS hA [0] rfl (by decide) (ci := 11) (q0 := 0) rfl rfl) rfl rfl hl.1 rfl (lv_room (Nat.le_of_ble_eq_true rfl)) dL_law_1828 ⟨Nat.le_of_ble_eq_true rfl, Nat.le_of_ble_eq_true rfl⟩) hP hD hS hA [0] [] rfl (wr := []) rfl (by decide) (by decide) (fun r1828 _ H locs hw hP hD hS => ?_)
  obtain rfl : r1828 = (iI 1) := hw
  have hP : va_P (dC, dI) vwCl [(m0, .inr (11, [.ref mg, .long (lI 0), .ref mk, .long (lI 0), .int (iI 0), .ref mp, .ref mpu, .int (iI 0), .ref ms, .long (lI 0), .int (iI 0), .int (iI 1), .int (iI 0), .int (iI 0), .int (iI 0), .long (lI 0), .ref mpl, .int (iI 0), .ref mpd, .int (iI 0), .ref mtx, .int (iI 0), .int (iI 0), .int (iI (-1)), .int (iI (-1)), .int (iI 0), .ref mtd, .int (iI 0), .ref mrw, .ref mrl, .ref mir]))] H := hP
  have hD : va_D A [(m0, .inr (11, [.ref mg, .long (lI 0), .ref mk, .long (lI 0), .int (iI 0), .ref mp, .ref mpu, .int (iI 0), .ref ms, .long (lI 0), .int (iI 0), .int (iI 1), .int (iI 0), .int (iI 0), .int (iI 0), .long (lI 0), .ref mpl, .int (iI 0), .ref mpd, .int (iI 0), .ref mtx, .int (iI 0), .int (iI 0), .int (iI (-1)), .int (iI (-1)), .int (iI 0), .ref mtd, .int (iI 0), .ref mrw, .ref mrl, .ref mir]))] := hD
  refine lv_iload hx hb dL_law_1831 (lv_at hl 1 rfl) ?_
  refine q_icmp_eq (tgt := 1838) hx hb dL_law_1833 (by decide) (by omega) (fun _ => ?_) (fun q => absurd q (by omega))
  refine lv_iload hx hb dL_law_1838 (lv_at hl 1 rfl) ?_
  refine q_if_ne (tgt := 1875) hx hb dL_law_1840 (by decide) (by omega) (fun _ => ?_) (fun q => absurd q (by omega))
  refine lv_goto (tgt := 1935) hx hb dL_law_1875 (by decide) ?_
  exact law_end l hL5 C0 hAe hS (lv_sub hl [2, 7] rfl) (Nat.le_of_ble_eq_true rfl) (Nat.le_of_ble_eq_true rfl)
set_option maxHeartbeats 4000000 in
set_option maxRecDepth 100000 in
theorem law_29_2_0 (l : Launch) (hl0 : l.stackTraces = false) (dC : Nat → ClassId) (dI : Nat → Nat → Nat) (k : Nat → ClassId) {p : Program} {e : Env} {s : State} {mI : MethodId} {below : List Frame} {meth : Method} {cO : Code} {bS L : Nat} {zs : Nat → Int32} (hL5 : L = 5) (C0 : lw_At p s mI meth cO bS L zs) (hE : En (dC, dI) k (va_A [] s.heap.size) s s.heap) (hout : Nat) (h0 hn g1 g2 hea g3 g4 g5 g6 g7 xa1 xa2 xa3 xa4 xa5 xa6 xa7 xa8 xa9 xa10 xa11 hrr xw1 xw2 : Nat) (xrF : Nat → Option Nat) (xw9 : Int) (hr9 : xrF 0 = some hrr) (m0 mg mk mp mpu ms mpl mpd mtx mtd mrw mrl mir hoL : Nat) (x1 : zs 1 = iI 0) (x2 : zs 2 = iI xw9) (hw9 : -2147483648 ≤ xw9 ∧ xw9 ≤ 2147483647) : ∀ (H : Heap) (locs : List Loc), va_P (dC, dI) vwCl [(h0, .inr (10, [.ref hn, .ref g1, .ref g2, .ref hea, .ref g3, .ref g4, .ref g5, .ref g6, .ref g7, .int (iI 0), .int (iI 0), .int (iI 0), .int (iI (-1)), .int (iI (-1)), .int (iI 0)])), (g7, .inl (k 7, 2, .inr (.inr (.inr (.inr xrF))))), (hrr, .inr (9, [.ref xw1, .ref xw2, .int (iI 0), .int (iI 0), .int (iI 0)])), (hout, .inl (k 3, 1, .inr (.inr (.inr (.inl (fun _ => FP.dconst0)))))), (m0, .inr (11, [.ref mg, .long (lI 0), .ref mk, .long (lI 0), .int (iI 0), .ref mp, .ref mpu, .int (iI 0), .ref ms, .long (lI 0), .int (iI 0), .int (iI 0), .int (iI 0), .int (iI 0), .int (iI 0), .long (lI 0), .ref mpl, .int (iI 0), .ref mpd, .int (iI 0), .ref mtx, .int (iI 0), .int (iI 0), .int (iI (-1)), .int (iI (-1)), .int (iI 0), .ref mtd, .int (iI 0), .ref mrw, .ref mrl, .ref mir])), (mrl, .inl (k 0, 2, .inl (aI rlF)))] H → va_D (va_A [] s.heap.size) [(h0, .inr (10, [.ref hn, .ref g1, .ref g2, .ref hea, .ref g3, .ref g4, .ref g5, .ref g6, .ref g7, .int (iI 0), .int (iI 0), .int (iI 0), .int (iI (-1)), .int (iI (-1)), .int (iI 0)])), (g7, .inl (k 7, 2, .inr (.inr (.inr (.inr xrF))))), (hrr, .inr (9, [.ref xw1, .ref xw2, .int (iI 0), .int (iI 0), .int (iI 0)])), (hout, .inl (k 3, 1, .inr (.inr (.inr (.inl (fun _ => FP.dconst0)))))), (m0, .inr (11, [.ref mg, .long (lI 0), .ref mk, .long (lI 0), .int (iI 0), .ref mp, .ref mpu, .int (iI 0), .ref ms, .long (lI 0), .int (iI 0), .int (iI 0), .int (iI 0), .int (iI 0), .int (iI 0), .long (lI 0), .ref mpl, .int (iI 0), .ref mpd, .int (iI 0), .ref mtx, .int (iI 0), .int (iI 0), .int (iI (-1)), .int (iI (-1)), .int (iI 0), .ref mtd, .int (iI 0), .ref mrw, .ref mrl, .ref mir])), (mrl, .inl (k 0, 2, .inl (aI rlF)))] → va_S (va_A [] s.heap.size) s.heap H locs → ∀ ls : Array Slot, lv_has ls 9 [(5, .int (iI 0)), (4, .ref hout), (3, .ref hoL), (2, .ref m0), (1, .ref h0), (0, .ref bS)] → W p l e room_1 s mI #[Value.ref bS] below meth cO H locs 173 27875 (lw_Z below #[Value.ref bS] s) (F0 mI 1789 ls []) := by
  intro H locs hP hD hS ls hl
  obtain ⟨hx, hb, hr, hml, hown0, hts0, hX, hbl, hlocks, hgv⟩ := id C0
  have hts : ∀ w ∈ wsL_law, w.before #[Value.ref bS] s = true := fun w h => hts0 w (wsL_law_in w h)
  have hown : s.vm.findClass RL = some mI.cls := hown0
  generalize hAe : va_A [] s.heap.size = A at hE hD hS
  have hA : ∀ q : Nat, s.heap.size ≤ q → A q := fun q h => by rw [← hAe]; exact Or.inr h
  have hbA : ¬ A bS := fa_A hAe hbl
  obtain ⟨hK, hNw, hNc, hZs, hAO1, hAO2⟩ := id hE
  have hSF : CallFix p mI cO cL_law 9 s ([.ref bS] : List Value).toArray wsL_law RL := ⟨hx, hb, hml, hown, hts⟩
  refine lv_aload_n hx hb dL_law_1789 rfl (lv_at hl 4 rfl) ?_
  refine lv_aload_n hx hb dL_law_1790 rfl (lv_at hl 5 rfl) ?_
  refine lv_iload hx hb dL_law_1791 (lv_at hl 0 rfl) ?_
  refine q_iconst hx hb dL_law_1793 ?_
  refine q_iadd (z := 1) hx hb dL_law_1794 (by omega) ?_
  refine va_sld hx hb hX hbl hbA hS (iI_in (by omega)) dL_law_1795 ?_
  rw [show (iI 1).toNatClampNeg = 1 from by decide, x1]
  refine lv_aload_n hx hb dL_law_1796 rfl (lv_at hl 5 rfl) ?_
  refine lv_iload hx hb dL_law_1797 (lv_at hl 0 rfl) ?_
  refine q_iconst hx hb dL_law_1799 ?_
  refine q_iadd (z := 2) hx hb dL_law_1800 (by omega) ?_
  refine va_sld hx hb hX hbl hbA hS (iI_in (by omega)) dL_law_1801 ?_
  rw [show (iI 2).toNatClampNeg = 2 from by decide, x2]
  refine lv_aload hx hb dL_law_1802 (lv_at hl 1 rfl) ?_
  refine ki (vx_runSW (As := [.ref h0, .int (iI 0), .int (iI xw9), .ref hout]) (rest := []) hSF ((c_L_stored_2_0 l hl0 dC dI k hout h0 hn g1 g2 hea g3 g4 g5 g6 g7 0 0 0 0 0 0 0 0 0 0 0 hrr xw1 xw2 xrF xw9 hr9) H.size) (vx_cwSW 4 hts gL_law_L_stored rfl rfl rfl (by decide +kernel) ⟨Nat.le_of_ble_eq_true rfl, Nat.le_of_ble_eq_true rfl⟩) (preS hP hD hE hS hA [0, 1, 2, 3] rfl (by decide)) rfl rfl hl.1 rfl (lv_room (Nat.le_of_ble_eq_true rfl)) dL_law_1804 ⟨Nat.le_of_ble_eq_true rfl, Nat.le_of_ble_eq_true rfl⟩) hP hD hS hA [0, 1, 2, 3] [4, 5] rfl (wr := [(m0, .inr (11, [.ref mg, .long (lI 0), .ref mk, .long (lI 0), .int (iI 0), .ref mp, .ref mpu, .int (iI 0), .ref ms, .long (lI 0), .int (iI 0), .int (iI 0), .int (iI 0), .int (iI 0), .int (iI 0), .long (lI 0), .ref mpl, .int (iI 0), .ref mpd, .int (iI 0), .ref mtx, .int (iI 0), .int (iI 0), .int (iI (-1)), .int (iI (-1)), .int (iI 0), .ref mtd, .int (iI 0), .ref mrw, .ref mrl, .ref mir])), (mrl, .inl (k 0, 2, .inl (aI rlF)))]) rfl (by decide) (by decide) (fun r1804 _ H locs hw hP hD hS => ?_)
  obtain rfl : r1804 = (iI 2) := hw
  have hP : va_P (dC, dI) vwCl [(m0, .inr (11, [.ref mg, .long (lI 0), .ref mk, .long (lI 0), .int (iI 0), .ref mp, .ref mpu, .int (iI 0), .ref ms, .long (lI 0), .int (iI 0), .int (iI 0), .int (iI 0), .int (iI 0), .int (iI 0), .long (lI 0), .ref mpl, .int (iI 0), .ref mpd, .int (iI 0), .ref mtx, .int (iI 0), .int (iI 0), .int (iI (-1)), .int (iI (-1)), .int (iI 0), .ref mtd, .int (iI 0), .ref mrw, .ref mrl, .ref mir])), (mrl, .inl (k 0, 2, .inl (aI rlF)))] H := hP
  have hD : va_D A [(m0, .inr (11, [.ref mg, .long (lI 0), .ref mk, .long (lI 0), .int (iI 0), .ref mp, .ref mpu, .int (iI 0), .ref ms, .long (lI 0), .int (iI 0), .int (iI 0), .int (iI 0), .int (iI 0), .int (iI 0), .long (lI 0), .ref mpl, .int (iI 0), .ref mpd, .int (iI 0), .ref mtx, .int (iI 0), .int (iI 0), .int (iI (-1)), .int (iI (-1)), .int (iI 0), .ref mtd, .int (iI 0), .ref mrw, .ref mrl, .ref mir])), (mrl, .inl (k 0, 2, .inl (aI rlF)))] := hD
  refine lv_istore (lv' := [(6, .int (iI 2)), (5, .int (iI 0)), (4, .ref hout), (3, .ref hoL), (2, .ref m0), (1, .ref h0), (0, .ref bS)]) hx hb dL_law_1807 hl (by decide) rfl (fun ls hl => ?_)
  refine lv_aload_n hx hb dL_law_1809 rfl (lv_at hl 4 rfl) ?_
  refine lv_aload_n hx hb dL_law_1810 rfl (lv_at hl 6 rfl) ?_
  refine lv_iload hx hb dL_law_1811 (lv_at hl 1 rfl) ?_
  refine q_iconst hx hb dL_law_1813 ?_
  refine q_iadd (z := 1) hx hb dL_law_1814 (by omega) ?_
  refine va_sld hx hb hX hbl hbA hS (iI_in (by omega)) dL_law_1815 ?_
  rw [show (iI 1).toNatClampNeg = 1 from by decide, x1]
  refine lv_aload_n hx hb dL_law_1816 rfl (lv_at hl 6 rfl) ?_
  refine lv_iload hx hb dL_law_1817 (lv_at hl 1 rfl) ?_
  refine q_iconst hx hb dL_law_1819 ?_
  refine q_iadd (z := 2) hx hb dL_law_1820 (by omega) ?_
  refine va_sld hx hb hX hbl hbA hS (iI_in (by omega)) dL_law_1821 ?_
  rw [show (iI 2).toNatClampNeg = 2 from by decide, x2]
  refine kd (va_runV (As := [.int (iI 0), .int (iI xw9)]) (rest := []) hSF ((c_X11_stored_2_0 l dC dI k m0 mg mk mp mpu ms mpl mpd mtx mtd mrw mrl mir xw9 (by omega)) H.size) (cwV 2 hts gL_law_X11_stored rfl rfl rfl (by decide +kernel) ⟨Nat.le_of_ble_eq_true rfl, Nat.le_of_ble_eq_true rfl⟩) (preV hP hD hE hS hA [0, 1] rfl (by decide) (ci := 11) (q0 := 0) rfl rfl) rfl rfl hl.1 rfl (lv_room (Nat.le_of_ble_eq_true rfl)) dL_law_1822 ⟨Nat.le_of_ble_eq_true rfl, Nat.le_of_ble_eq_true rfl⟩) hP hD hS hA [0, 1] [] rfl (wr := []) rfl (by decide) (by decide) (fun r1822 _ H locs hw hP hD hS => ?_)
  obtain rfl : r1822 = FP.dconst0 := hw
  have hP : va_P (dC, dI) vwCl [(m0, .inr (11, [.ref mg, .long (lI 0), .ref mk, .long (lI 0), .int (iI 0), .ref mp, .ref mpu, .int (iI 0), .ref ms, .long (lI 0), .int (iI 0), .int (iI 2), .int (iI 0), .int (iI 0), .int (iI 0), .long (lI 0), .ref mpl, .int (iI 0), .ref mpd, .int (iI 0), .ref mtx, .int (iI 0), .int (iI 0), .int (iI (-1)), .int (iI (-1)), .int (iI 0), .ref mtd, .int (iI 0), .ref mrw, .ref mrl, .ref mir]))] H := hP
  have hD : va_D A [(m0, .inr (11, [.ref mg, .long (lI 0), .ref mk, .long (lI 0), .int (iI 0), .ref mp, .ref mpu, .int (iI 0), .ref ms, .long (lI 0), .int (iI 0), .int (iI 2), .int (iI 0), .int (iI 0), .int (iI 0), .long (lI 0), .ref mpl, .int (iI 0), .ref mpd, .int (iI 0), .ref mtx, .int (iI 0), .int (iI 0), .int (iI (-1)), .int (iI (-1)), .int (iI 0), .ref mtd, .int (iI 0), .ref mrw, .ref mrl, .ref mir]))] := hD
  refine lv_dstore (lv' := [(7, .double FP.dconst0), (6, .int (iI 2)), (5, .int (iI 0)), (4, .ref hout), (3, .ref hoL), (2, .ref m0), (1, .ref h0), (0, .ref bS)]) hx hb dL_law_1825 hl (by decide) rfl (fun ls hl => ?_)
  refine lv_aload_n hx hb dL_law_1827 rfl (lv_at hl 5 rfl) ?_
  refine ki (va_runV (As := []) (rest := []) hSF ((c_X11_thrown l dC dI k m0 (.ref mg) (.long (lI 0)) (.ref mk) (.long (lI 0)) (.int (iI 0)) (.ref mp) (.ref mpu) (.int (iI 0)) (.ref ms) (.long (lI 0)) (.int (iI 0)) 2 [.int (iI 0), .int (iI 0), .int (iI 0), .long (lI 0), .ref mpl, .int (iI 0), .ref mpd, .int (iI 0), .ref mtx, .int (iI 0), .int (iI 0), .int (iI (-1)), .int (iI (-1)), .int (iI 0), .ref mtd, .int (iI 0), .ref mrw, .ref mrl, .ref mir]) H.size) (cwV 0 hts gL_law_X11_thrown rfl rfl rfl (by decide +kernel) ⟨Nat.le_of_ble_eq_true rfl, Nat.le_of_ble_eq_true rfl⟩) (preV hP hD hE hS hA [0] rfl (by decide) (ci := 11) (q0 := 0) rfl rfl) rfl rfl hl.1 rfl (lv_room (Nat.le_of_ble_eq_true rfl)) dL_law_1828 ⟨Nat.le_of_ble_eq_true rfl, Nat.le_of_ble_eq_true rfl⟩) hP hD hS hA [0] [] rfl (wr := []) rfl (by decide) (by decide) (fun r1828 _ H locs hw hP hD hS => ?_)
  obtain rfl : r1828 = (iI 2) := hw
  have hP : va_P (dC, dI) vwCl [(m0, .inr (11, [.ref mg, .long (lI 0), .ref mk, .long (lI 0), .int (iI 0), .ref mp, .ref mpu, .int (iI 0), .ref ms, .long (lI 0), .int (iI 0), .int (iI 2), .int (iI 0), .int (iI 0), .int (iI 0), .long (lI 0), .ref mpl, .int (iI 0), .ref mpd, .int (iI 0), .ref mtx, .int (iI 0), .int (iI 0), .int (iI (-1)), .int (iI (-1)), .int (iI 0), .ref mtd, .int (iI 0), .ref mrw, .ref mrl, .ref mir]))] H := hP
  have hD : va_D A [(m0, .inr (11, [.ref mg, .long (lI 0), .ref mk, .long (lI 0), .int (iI 0), .ref mp, .ref mpu, .int (iI 0), .ref ms, .long (lI 0), .int (iI 0), .int (iI 2), .int (iI 0), .int (iI 0), .int (iI 0), .long (lI 0), .ref mpl, .int (iI 0), .ref mpd, .int (iI 0), .ref mtx, .int (iI 0), .int (iI 0), .int (iI (-1)), .int (iI (-1)), .int (iI 0), .ref mtd, .int (iI 0), .ref mrw, .ref mrl, .ref mir]))] := hD
  refine lv_iload hx hb dL_law_1831 (lv_at hl 1 rfl) ?_
  refine q_icmp_eq (tgt := 1838) hx hb dL_law_1833 (by decide) (by omega) (fun _ => ?_) (fun q => absurd q (by omega))
  refine lv_iload hx hb dL_law_1838 (lv_at hl 1 rfl) ?_
  refine q_if_ne (tgt := 1875) hx hb dL_law_1840 (by decide) (by omega) (fun _ => ?_) (fun q => absurd q (by omega))
  refine lv_goto (tgt := 1935) hx hb dL_law_1875 (by decide) ?_
  exact law_end l hL5 C0 hAe hS (lv_sub hl [2, 7] rfl) (Nat.le_of_ble_eq_true rfl) (Nat.le_of_ble_eq_true rfl)
set_option maxHeartbeats 4000000 in
set_option maxRecDepth 100000 in
theorem law_29_2_1 (l : Launch) (hl0 : l.stackTraces = false) (dC : Nat → ClassId) (dI : Nat → Nat → Nat) (k : Nat → ClassId) {p : Program} {e : Env} {s : State} {mI : MethodId} {below : List Frame} {meth : Method} {cO : Code} {bS L : Nat} {zs : Nat → Int32} (hL5 : L = 5) (C0 : lw_At p s mI meth cO bS L zs) (hE : En (dC, dI) k (va_A [] s.heap.size) s s.heap) (hout : Nat) (h0 hn g1 g2 hea g3 g4 g5 g6 g7 xa1 xa2 xa3 xa4 xa5 xa6 xa7 xa8 xa9 xa10 xa11 hrr xw1 xw2 : Nat) (xrF : Nat → Option Nat) (xw9 : Int) (hr9 : xrF 1 = some hrr) (m0 mg mk mp mpu ms mpl mpd mtx mtd mrw mrl mir hoL : Nat) (x1 : zs 1 = iI 1) (x2 : zs 2 = iI xw9) (hw9 : -2147483648 ≤ xw9 ∧ xw9 ≤ 2147483647) : ∀ (H : Heap) (locs : List Loc), va_P (dC, dI) vwCl [(h0, .inr (10, [.ref hn, .ref g1, .ref g2, .ref hea, .ref g3, .ref g4, .ref g5, .ref g6, .ref g7, .int (iI 0), .int (iI 0), .int (iI 0), .int (iI (-1)), .int (iI (-1)), .int (iI 0)])), (g7, .inl (k 7, 2, .inr (.inr (.inr (.inr xrF))))), (hrr, .inr (9, [.ref xw1, .ref xw2, .int (iI 0), .int (iI 0), .int (iI 0)])), (hout, .inl (k 3, 1, .inr (.inr (.inr (.inl (fun _ => FP.dconst0)))))), (m0, .inr (11, [.ref mg, .long (lI 0), .ref mk, .long (lI 0), .int (iI 0), .ref mp, .ref mpu, .int (iI 0), .ref ms, .long (lI 0), .int (iI 0), .int (iI 0), .int (iI 0), .int (iI 0), .int (iI 0), .long (lI 0), .ref mpl, .int (iI 0), .ref mpd, .int (iI 0), .ref mtx, .int (iI 0), .int (iI 0), .int (iI (-1)), .int (iI (-1)), .int (iI 0), .ref mtd, .int (iI 0), .ref mrw, .ref mrl, .ref mir])), (mrl, .inl (k 0, 2, .inl (aI rlF)))] H → va_D (va_A [] s.heap.size) [(h0, .inr (10, [.ref hn, .ref g1, .ref g2, .ref hea, .ref g3, .ref g4, .ref g5, .ref g6, .ref g7, .int (iI 0), .int (iI 0), .int (iI 0), .int (iI (-1)), .int (iI (-1)), .int (iI 0)])), (g7, .inl (k 7, 2, .inr (.inr (.inr (.inr xrF))))), (hrr, .inr (9, [.ref xw1, .ref xw2, .int (iI 0), .int (iI 0), .int (iI 0)])), (hout, .inl (k 3, 1, .inr (.inr (.inr (.inl (fun _ => FP.dconst0)))))), (m0, .inr (11, [.ref mg, .long (lI 0), .ref mk, .long (lI 0), .int (iI 0), .ref mp, .ref mpu, .int (iI 0), .ref ms, .long (lI 0), .int (iI 0), .int (iI 0), .int (iI 0), .int (iI 0), .int (iI 0), .long (lI 0), .ref mpl, .int (iI 0), .ref mpd, .int (iI 0), .ref mtx, .int (iI 0), .int (iI 0), .int (iI (-1)), .int (iI (-1)), .int (iI 0), .ref mtd, .int (iI 0), .ref mrw, .ref mrl, .ref mir])), (mrl, .inl (k 0, 2, .inl (aI rlF)))] → va_S (va_A [] s.heap.size) s.heap H locs → ∀ ls : Array Slot, lv_has ls 9 [(5, .int (iI 0)), (4, .ref hout), (3, .ref hoL), (2, .ref m0), (1, .ref h0), (0, .ref bS)] → W p l e room_1 s mI #[Value.ref bS] below meth cO H locs 173 27875 (lw_Z below #[Value.ref bS] s) (F0 mI 1789 ls []) := by
  intro H locs hP hD hS ls hl
  obtain ⟨hx, hb, hr, hml, hown0, hts0, hX, hbl, hlocks, hgv⟩ := id C0
  have hts : ∀ w ∈ wsL_law, w.before #[Value.ref bS] s = true := fun w h => hts0 w (wsL_law_in w h)
  have hown : s.vm.findClass RL = some mI.cls := hown0
  generalize hAe : va_A [] s.heap.size = A at hE hD hS
  have hA : ∀ q : Nat, s.heap.size ≤ q → A q := fun q h => by rw [← hAe]; exact Or.inr h
  have hbA : ¬ A bS := fa_A hAe hbl
  obtain ⟨hK, hNw, hNc, hZs, hAO1, hAO2⟩ := id hE
  have hSF : CallFix p mI cO cL_law 9 s ([.ref bS] : List Value).toArray wsL_law RL := ⟨hx, hb, hml, hown, hts⟩
  refine lv_aload_n hx hb dL_law_1789 rfl (lv_at hl 4 rfl) ?_
  refine lv_aload_n hx hb dL_law_1790 rfl (lv_at hl 5 rfl) ?_
  refine lv_iload hx hb dL_law_1791 (lv_at hl 0 rfl) ?_
  refine q_iconst hx hb dL_law_1793 ?_
  refine q_iadd (z := 1) hx hb dL_law_1794 (by omega) ?_
  refine va_sld hx hb hX hbl hbA hS (iI_in (by omega)) dL_law_1795 ?_
  rw [show (iI 1).toNatClampNeg = 1 from by decide, x1]
  refine lv_aload_n hx hb dL_law_1796 rfl (lv_at hl 5 rfl) ?_
  refine lv_iload hx hb dL_law_1797 (lv_at hl 0 rfl) ?_
  refine q_iconst hx hb dL_law_1799 ?_
  refine q_iadd (z := 2) hx hb dL_law_1800 (by omega) ?_
  refine va_sld hx hb hX hbl hbA hS (iI_in (by omega)) dL_law_1801 ?_
  rw [show (iI 2).toNatClampNeg = 2 from by decide, x2]
  refine lv_aload hx hb dL_law_1802 (lv_at hl 1 rfl) ?_
  refine ki (vx_runSW (As := [.ref h0, .int (iI 1), .int (iI xw9), .ref hout]) (rest := []) hSF ((c_L_stored_2_1 l hl0 dC dI k hout h0 hn g1 g2 hea g3 g4 g5 g6 g7 0 0 0 0 0 0 0 0 0 0 0 hrr xw1 xw2 xrF xw9 hr9) H.size) (vx_cwSW 4 hts gL_law_L_stored rfl rfl rfl (by decide +kernel) ⟨Nat.le_of_ble_eq_true rfl, Nat.le_of_ble_eq_true rfl⟩) (preS hP hD hE hS hA [0, 1, 2, 3] rfl (by decide)) rfl rfl hl.1 rfl (lv_room (Nat.le_of_ble_eq_true rfl)) dL_law_1804 ⟨Nat.le_of_ble_eq_true rfl, Nat.le_of_ble_eq_true rfl⟩) hP hD hS hA [0, 1, 2, 3] [4, 5] rfl (wr := [(m0, .inr (11, [.ref mg, .long (lI 0), .ref mk, .long (lI 0), .int (iI 0), .ref mp, .ref mpu, .int (iI 0), .ref ms, .long (lI 0), .int (iI 0), .int (iI 0), .int (iI 0), .int (iI 0), .int (iI 0), .long (lI 0), .ref mpl, .int (iI 0), .ref mpd, .int (iI 0), .ref mtx, .int (iI 0), .int (iI 0), .int (iI (-1)), .int (iI (-1)), .int (iI 0), .ref mtd, .int (iI 0), .ref mrw, .ref mrl, .ref mir])), (mrl, .inl (k 0, 2, .inl (aI rlF)))]) rfl (by decide) (by decide) (fun r1804 _ H locs hw hP hD hS => ?_)
  obtain rfl : r1804 = (iI 2) := hw
  have hP : va_P (dC, dI) vwCl [(m0, .inr (11, [.ref mg, .long (lI 0), .ref mk, .long (lI 0), .int (iI 0), .ref mp, .ref mpu, .int (iI 0), .ref ms, .long (lI 0), .int (iI 0), .int (iI 0), .int (iI 0), .int (iI 0), .int (iI 0), .long (lI 0), .ref mpl, .int (iI 0), .ref mpd, .int (iI 0), .ref mtx, .int (iI 0), .int (iI 0), .int (iI (-1)), .int (iI (-1)), .int (iI 0), .ref mtd, .int (iI 0), .ref mrw, .ref mrl, .ref mir])), (mrl, .inl (k 0, 2, .inl (aI rlF)))] H := hP
  have hD : va_D A [(m0, .inr (11, [.ref mg, .long (lI 0), .ref mk, .long (lI 0), .int (iI 0), .ref mp, .ref mpu, .int (iI 0), .ref ms, .long (lI 0), .int (iI 0), .int (iI 0), .int (iI 0), .int (iI 0), .int (iI 0), .long (lI 0), .ref mpl, .int (iI 0), .ref mpd, .int (iI 0), .ref mtx, .int (iI 0), .int (iI 0), .int (iI (-1)), .int (iI (-1)), .int (iI 0), .ref mtd, .int (iI 0), .ref mrw, .ref mrl, .ref mir])), (mrl, .inl (k 0, 2, .inl (aI rlF)))] := hD
  refine lv_istore (lv' := [(6, .int (iI 2)), (5, .int (iI 0)), (4, .ref hout), (3, .ref hoL), (2, .ref m0), (1, .ref h0), (0, .ref bS)]) hx hb dL_law_1807 hl (by decide) rfl (fun ls hl => ?_)
  refine lv_aload_n hx hb dL_law_1809 rfl (lv_at hl 4 rfl) ?_
  refine lv_aload_n hx hb dL_law_1810 rfl (lv_at hl 6 rfl) ?_
  refine lv_iload hx hb dL_law_1811 (lv_at hl 1 rfl) ?_
  refine q_iconst hx hb dL_law_1813 ?_
  refine q_iadd (z := 1) hx hb dL_law_1814 (by omega) ?_
  refine va_sld hx hb hX hbl hbA hS (iI_in (by omega)) dL_law_1815 ?_
  rw [show (iI 1).toNatClampNeg = 1 from by decide, x1]
  refine lv_aload_n hx hb dL_law_1816 rfl (lv_at hl 6 rfl) ?_
  refine lv_iload hx hb dL_law_1817 (lv_at hl 1 rfl) ?_
  refine q_iconst hx hb dL_law_1819 ?_
  refine q_iadd (z := 2) hx hb dL_law_1820 (by omega) ?_
  refine va_sld hx hb hX hbl hbA hS (iI_in (by omega)) dL_law_1821 ?_
  rw [show (iI 2).toNatClampNeg = 2 from by decide, x2]
  refine kd (va_runV (As := [.int (iI 1), .int (iI xw9)]) (rest := []) hSF ((c_X11_stored_2_1 l dC dI k m0 mg mk mp mpu ms mpl mpd mtx mtd mrw mrl mir xw9 (by omega)) H.size) (cwV 2 hts gL_law_X11_stored rfl rfl rfl (by decide +kernel) ⟨Nat.le_of_ble_eq_true rfl, Nat.le_of_ble_eq_true rfl⟩) (preV hP hD hE hS hA [0, 1] rfl (by decide) (ci := 11) (q0 := 0) rfl rfl) rfl rfl hl.1 rfl (lv_room (Nat.le_of_ble_eq_true rfl)) dL_law_1822 ⟨Nat.le_of_ble_eq_true rfl, Nat.le_of_ble_eq_true rfl⟩) hP hD hS hA [0, 1] [] rfl (wr := []) rfl (by decide) (by decide) (fun r1822 _ H locs hw hP hD hS => ?_)
  obtain rfl : r1822 = FP.dconst0 := hw
  have hP : va_P (dC, dI) vwCl [(m0, .inr (11, [.ref mg, .long (lI 0), .ref mk, .long (lI 0), .int (iI 0), .ref mp, .ref mpu, .int (iI 0), .ref ms, .long (lI 0), .int (iI 0), .int (iI 2), .int (iI 0), .int (iI 0), .int (iI 0), .long (lI 0), .ref mpl, .int (iI 0), .ref mpd, .int (iI 0), .ref mtx, .int (iI 0), .int (iI 0), .int (iI (-1)), .int (iI (-1)), .int (iI 0), .ref mtd, .int (iI 0), .ref mrw, .ref mrl, .ref mir]))] H := hP
  have hD : va_D A [(m0, .inr (11, [.ref mg, .long (lI 0), .ref mk, .long (lI 0), .int (iI 0), .ref mp, .ref mpu, .int (iI 0), .ref ms, .long (lI 0), .int (iI 0), .int (iI 2), .int (iI 0), .int (iI 0), .int (iI 0), .long (lI 0), .ref mpl, .int (iI 0), .ref mpd, .int (iI 0), .ref mtx, .int (iI 0), .int (iI 0), .int (iI (-1)), .int (iI (-1)), .int (iI 0), .ref mtd, .int (iI 0), .ref mrw, .ref mrl, .ref mir]))] := hD
  refine lv_dstore (lv' := [(7, .double FP.dconst0), (6, .int (iI 2)), (5, .int (iI 0)), (4, .ref hout), (3, .ref hoL), (2, .ref m0), (1, .ref h0), (0, .ref bS)]) hx hb dL_law_1825 hl (by decide) rfl (fun ls hl => ?_)
  refine lv_aload_n hx hb dL_law_1827 rfl (lv_at hl 5 rfl) ?_
  refine ki (va_runV (As := []) (rest := []) hSF ((c_X11_thrown l dC dI k m0 (.ref mg) (.long (lI 0)) (.ref mk) (.long (lI 0)) (.int (iI 0)) (.ref mp) (.ref mpu) (.int (iI 0)) (.ref ms) (.long (lI 0)) (.int (iI 0)) 2 [.int (iI 0), .int (iI 0), .int (iI 0), .long (lI 0), .ref mpl, .int (iI 0), .ref mpd, .int (iI 0), .ref mtx, .int (iI 0), .int (iI 0), .int (iI (-1)), .int (iI (-1)), .int (iI 0), .ref mtd, .int (iI 0), .ref mrw, .ref mrl, .ref mir]) H.size) (cwV 0 hts gL_law_X11_thrown rfl rfl rfl (by decide +kernel) ⟨Nat.le_of_ble_eq_true rfl, Nat.le_of_ble_eq_true rfl⟩) (preV hP hD hE hS hA [0] rfl (by decide) (ci := 11) (q0 := 0) rfl rfl) rfl rfl hl.1 rfl (lv_room (Nat.le_of_ble_eq_true rfl)) dL_law_1828 ⟨Nat.le_of_ble_eq_true rfl, Nat.le_of_ble_eq_true rfl⟩) hP hD hS hA [0] [] rfl (wr := []) rfl (by decide) (by decide) (fun r1828 _ H locs hw hP hD hS => ?_)
  obtain rfl : r1828 = (iI 2) := hw
  have hP : va_P (dC, dI) vwCl [(m0, .inr (11, [.ref mg, .long (lI 0), .ref mk, .long (lI 0), .int (iI 0), .ref mp, .ref mpu, .int (iI 0), .ref ms, .long (lI 0), .int (iI 0), .int (iI 2), .int (iI 0), .int (iI 0), .int (iI 0), .long (lI 0), .ref mpl, .int (iI 0), .ref mpd, .int (iI 0), .ref mtx, .int (iI 0), .int (iI 0), .int (iI (-1)), .int (iI (-1)), .int (iI 0), .ref mtd, .int (iI 0), .ref mrw, .ref mrl, .ref mir]))] H := hP
  have hD : va_D A [(m0, .inr (11, [.ref mg, .long (lI 0), .ref mk, .long (lI 0), .int (iI 0), .ref mp, .ref mpu, .int (iI 0), .ref ms, .long (lI 0), .int (iI 0), .int (iI 2), .int (iI 0), .int (iI 0), .int (iI 0), .long (lI 0), .ref mpl, .int (iI 0), .ref mpd, .int (iI 0), .ref mtx, .int (iI 0), .int (iI 0), .int (iI (-1)), .int (iI (-1)), .int (iI 0), .ref mtd, .int (iI 0), .ref mrw, .ref mrl, .ref mir]))] := hD
  refine lv_iload hx hb dL_law_1831 (lv_at hl 1 rfl) ?_
  refine q_icmp_eq (tgt := 1838) hx hb dL_law_1833 (by decide) (by omega) (fun _ => ?_) (fun q => absurd q (by omega))
  refine lv_iload hx hb dL_law_1838 (lv_at hl 1 rfl) ?_
  refine q_if_ne (tgt := 1875) hx hb dL_law_1840 (by decide) (by omega) (fun _ => ?_) (fun q => absurd q (by omega))
  refine lv_goto (tgt := 1935) hx hb dL_law_1875 (by decide) ?_
  exact law_end l hL5 C0 hAe hS (lv_sub hl [2, 7] rfl) (Nat.le_of_ble_eq_true rfl) (Nat.le_of_ble_eq_true rfl)
set_option maxHeartbeats 4000000 in
set_option maxRecDepth 100000 in
theorem law_30 (l : Launch) (dC : Nat → ClassId) (dI : Nat → Nat → Nat) (k : Nat → ClassId) {p : Program} {e : Env} {s : State} {mI : MethodId} {below : List Frame} {meth : Method} {cO : Code} {bS L : Nat} {zs : Nat → Int32} (hL5 : L = 5) (C0 : lw_At p s mI meth cO bS L zs) (hE : En (dC, dI) k (va_A [] s.heap.size) s s.heap) (h0 hn g1 g2 hea g3 g4 g5 g6 g7 xa1 xa2 xa3 xa4 xa5 xa6 xa7 xa8 xa9 xa10 xa11 za1 za2 za3 za4 za5 za6 za7 za8 za9 za10 za11 xk xw xk2 xw2 : Nat) (m0 mg mk mp mpu ms mpl mpd mtx mtd mrw mrl mir hoL hoD : Nat) : ∀ (H : Heap) (locs : List Loc), va_P (dC, dI) vwCl [(h0, .inr (10, [.ref hn, .ref g1, .ref g2, .ref hea, .ref g3, .ref g4, .ref g5, .ref g6, .ref g7, .int (iI 0), .int (iI 0), .int (iI 0), .int (iI (-1)), .int (iI (-1)), .int (iI 0)])), (hn, .inr (2, [.ref xa1, .ref xa2, .ref xa3, .ref xa5, .ref xa8, .int (iI 0), .int (iI 0), .int (iI 0)])), (xa1, .inl (k 0, 5, .inl (aI (upI (upI (upI (upI (upI aZ 0 0) 1 0) 2 10) 3 500) 4 0)))), (xa2, .inl (k 0, 5, .inl (aI aZ))), (xa3, .inr (7, [.int (iI 0), .int (iI 0), .int (iI 0), .long (lI 0), .int (iI 0), .int (iI 0), .int (iI 0), .long (lI 0), .long (lI 0), .long (lI 0), .long (lI 0), .long (lI 0), .int (iI 0), .int (iI 0), .int (iI 0), .int (iI 0), .ref xa4])), (xa4, .inl (k 1, 8, .inr (.inl (aL aZ)))), (xa5, .inr (3, [.ref xa6, .ref xa7, .int (iI 0), .int (iI 0), .int (iI 0)])), (xa6, .inl (k 1, 264, .inr (.inl (aL aZ)))), (xa7, .inl (k 0, 264, .inl (aI aZ))), (xa8, .inr (6, [.ref xa9, .ref xa10, .ref xa11, .int (iI 0), .int (iI 0)])), (xa9, .inl (k 0, 60, .inl (aI aZ))), (xa10, .inl (k 0, 60, .inl (aI aZ))), (xa11, .inl (k 1, 60, .inr (.inl (aL aZ)))), (g2, .inr (2, [.ref za1, .ref za2, .ref za3, .ref za5, .ref za8, .int (iI 0), .int (iI 0), .int (iI 0)])), (za1, .inl (k 0, 5, .inl (aI (upI (upI (upI (upI (upI aZ 0 0) 1 0) 2 10) 3 500) 4 0)))), (za2, .inl (k 0, 5, .inl (aI aZ))), (za3, .inr (7, [.int (iI 0), .int (iI 0), .int (iI 0), .long (lI 0), .int (iI 0), .int (iI 0), .int (iI 0), .long (lI 0), .long (lI 0), .long (lI 0), .long (lI 0), .long (lI 0), .int (iI 0), .int (iI 0), .int (iI 0), .int (iI 0), .ref za4])), (za4, .inl (k 1, 8, .inr (.inl (aL aZ)))), (za5, .inr (3, [.ref za6, .ref za7, .int (iI 0), .int (iI 0), .int (iI 0)])), (za6, .inl (k 1, 264, .inr (.inl (aL aZ)))), (za7, .inl (k 0, 264, .inl (aI aZ))), (za8, .inr (6, [.ref za9, .ref za10, .ref za11, .int (iI 0), .int (iI 0)])), (za9, .inl (k 0, 60, .inl (aI aZ))), (za10, .inl (k 0, 60, .inl (aI aZ))), (za11, .inl (k 1, 60, .inr (.inl (aL aZ)))), (g3, .inr (4, [.ref xk, .ref xw])), (xk, .inl (k 0, 512, .inl (aI aZ))), (xw, .inl (k 0, 512, .inl (aI aZ))), (g4, .inr (4, [.ref xk2, .ref xw2])), (xk2, .inl (k 0, 512, .inl (aI aZ))), (xw2, .inl (k 0, 512, .inl (aI aZ))), (m0, .inr (11, [.ref mg, .long (lI 0), .ref mk, .long (lI 0), .int (iI 0), .ref mp, .ref mpu, .int (iI 0), .ref ms, .long (lI 0), .int (iI 0), .int (iI 0), .int (iI 0), .int (iI 0), .int (iI 0), .long (lI 0), .ref mpl, .int (iI 0), .ref mpd, .int (iI 0), .ref mtx, .int (iI 0), .int (iI 0), .int (iI (-1)), .int (iI (-1)), .int (iI 0), .ref mtd, .int (iI 0), .ref mrw, .ref mrl, .ref mir])), (mg, .inl (k 0, 1460, .inl (aI g0F))), (mk, .inl (k 0, 1460, .inl (aI aZ)))] H → va_D (va_A [] s.heap.size) [(h0, .inr (10, [.ref hn, .ref g1, .ref g2, .ref hea, .ref g3, .ref g4, .ref g5, .ref g6, .ref g7, .int (iI 0), .int (iI 0), .int (iI 0), .int (iI (-1)), .int (iI (-1)), .int (iI 0)])), (hn, .inr (2, [.ref xa1, .ref xa2, .ref xa3, .ref xa5, .ref xa8, .int (iI 0), .int (iI 0), .int (iI 0)])), (xa1, .inl (k 0, 5, .inl (aI (upI (upI (upI (upI (upI aZ 0 0) 1 0) 2 10) 3 500) 4 0)))), (xa2, .inl (k 0, 5, .inl (aI aZ))), (xa3, .inr (7, [.int (iI 0), .int (iI 0), .int (iI 0), .long (lI 0), .int (iI 0), .int (iI 0), .int (iI 0), .long (lI 0), .long (lI 0), .long (lI 0), .long (lI 0), .long (lI 0), .int (iI 0), .int (iI 0), .int (iI 0), .int (iI 0), .ref xa4])), (xa4, .inl (k 1, 8, .inr (.inl (aL aZ)))), (xa5, .inr (3, [.ref xa6, .ref xa7, .int (iI 0), .int (iI 0), .int (iI 0)])), (xa6, .inl (k 1, 264, .inr (.inl (aL aZ)))), (xa7, .inl (k 0, 264, .inl (aI aZ))), (xa8, .inr (6, [.ref xa9, .ref xa10, .ref xa11, .int (iI 0), .int (iI 0)])), (xa9, .inl (k 0, 60, .inl (aI aZ))), (xa10, .inl (k 0, 60, .inl (aI aZ))), (xa11, .inl (k 1, 60, .inr (.inl (aL aZ)))), (g2, .inr (2, [.ref za1, .ref za2, .ref za3, .ref za5, .ref za8, .int (iI 0), .int (iI 0), .int (iI 0)])), (za1, .inl (k 0, 5, .inl (aI (upI (upI (upI (upI (upI aZ 0 0) 1 0) 2 10) 3 500) 4 0)))), (za2, .inl (k 0, 5, .inl (aI aZ))), (za3, .inr (7, [.int (iI 0), .int (iI 0), .int (iI 0), .long (lI 0), .int (iI 0), .int (iI 0), .int (iI 0), .long (lI 0), .long (lI 0), .long (lI 0), .long (lI 0), .long (lI 0), .int (iI 0), .int (iI 0), .int (iI 0), .int (iI 0), .ref za4])), (za4, .inl (k 1, 8, .inr (.inl (aL aZ)))), (za5, .inr (3, [.ref za6, .ref za7, .int (iI 0), .int (iI 0), .int (iI 0)])), (za6, .inl (k 1, 264, .inr (.inl (aL aZ)))), (za7, .inl (k 0, 264, .inl (aI aZ))), (za8, .inr (6, [.ref za9, .ref za10, .ref za11, .int (iI 0), .int (iI 0)])), (za9, .inl (k 0, 60, .inl (aI aZ))), (za10, .inl (k 0, 60, .inl (aI aZ))), (za11, .inl (k 1, 60, .inr (.inl (aL aZ)))), (g3, .inr (4, [.ref xk, .ref xw])), (xk, .inl (k 0, 512, .inl (aI aZ))), (xw, .inl (k 0, 512, .inl (aI aZ))), (g4, .inr (4, [.ref xk2, .ref xw2])), (xk2, .inl (k 0, 512, .inl (aI aZ))), (xw2, .inl (k 0, 512, .inl (aI aZ))), (m0, .inr (11, [.ref mg, .long (lI 0), .ref mk, .long (lI 0), .int (iI 0), .ref mp, .ref mpu, .int (iI 0), .ref ms, .long (lI 0), .int (iI 0), .int (iI 0), .int (iI 0), .int (iI 0), .int (iI 0), .long (lI 0), .ref mpl, .int (iI 0), .ref mpd, .int (iI 0), .ref mtx, .int (iI 0), .int (iI 0), .int (iI (-1)), .int (iI (-1)), .int (iI 0), .ref mtd, .int (iI 0), .ref mrw, .ref mrl, .ref mir])), (mg, .inl (k 0, 1460, .inl (aI g0F))), (mk, .inl (k 0, 1460, .inl (aI aZ)))] → va_S (va_A [] s.heap.size) s.heap H locs → ∀ ls : Array Slot, lv_has ls 9 [(5, .int (iI 0)), (4, .ref hoD), (3, .ref hoL), (2, .ref m0), (1, .ref h0), (0, .ref bS)] → W p l e room_1 s mI #[Value.ref bS] below meth cO H locs 173 27875 (lw_Z below #[Value.ref bS] s) (F0 mI 1878 ls []) := by
  intro H locs hP hD hS ls hl
  obtain ⟨hx, hb, hr, hml, hown0, hts0, hX, hbl, hlocks, hgv⟩ := id C0
  have hts : ∀ w ∈ wsL_law, w.before #[Value.ref bS] s = true := fun w h => hts0 w (wsL_law_in w h)
  have hown : s.vm.findClass RL = some mI.cls := hown0
  generalize hAe : va_A [] s.heap.size = A at hE hD hS
  have hA : ∀ q : Nat, s.heap.size ≤ q → A q := fun q h => by rw [← hAe]; exact Or.inr h
  have hbA : ¬ A bS := fa_A hAe hbl
  obtain ⟨hK, hNw, hNc, hZs, hAO1, hAO2⟩ := id hE
  have hSF : CallFix p mI cO cL_law 9 s ([.ref bS] : List Value).toArray wsL_law RL := ⟨hx, hb, hml, hown, hts⟩
  refine lv_aload_n hx hb dL_law_1878 rfl (lv_at hl 4 rfl) ?_
  refine ki (va_runV (As := []) (rest := []) hSF ((c_X10_snapshot l dC dI k h0 hn g1 g2 hea g3 g4 g5 g6 g7 xa1 xa2 xa3 xa4 xa5 xa6 xa7 xa8 xa9 xa10 xa11 za1 za2 za3 za4 za5 za6 za7 za8 za9 za10 za11 xk xw xk2 xw2) H.size) (cwV 0 hts gL_law_X10_snapshot rfl rfl rfl (by decide +kernel) ⟨Nat.le_of_ble_eq_true rfl, Nat.le_of_ble_eq_true rfl⟩) (preV hP hD hE hS hA [0, 1, 2, 3, 4, 5, 6, 7, 8, 9, 10, 11, 12, 13, 14, 15, 16, 17, 18, 19, 20, 21, 22, 23, 24, 25, 26, 27, 28, 29, 30] rfl (by decide) (ci := 10) (q0 := 0) rfl rfl) rfl rfl hl.1 rfl (lv_room (Nat.le_of_ble_eq_true rfl)) dL_law_1879 ⟨Nat.le_of_ble_eq_true rfl, Nat.le_of_ble_eq_true rfl⟩) hP hD hS hA [0, 1, 2, 3, 4, 5, 6, 7, 8, 9, 10, 11, 12, 13, 14, 15, 16, 17, 18, 19, 20, 21, 22, 23, 24, 25, 26, 27, 28, 29, 30] [31, 32, 33] rfl (wr := [(m0, .inr (11, [.ref mg, .long (lI 0), .ref mk, .long (lI 0), .int (iI 0), .ref mp, .ref mpu, .int (iI 0), .ref ms, .long (lI 0), .int (iI 0), .int (iI 0), .int (iI 0), .int (iI 0), .int (iI 0), .long (lI 0), .ref mpl, .int (iI 0), .ref mpd, .int (iI 0), .ref mtx, .int (iI 0), .int (iI 0), .int (iI (-1)), .int (iI (-1)), .int (iI 0), .ref mtd, .int (iI 0), .ref mrw, .ref mrl, .ref mir])), (mg, .inl (k 0, 1460, .inl (aI g0F))), (mk, .inl (k 0, 1460, .inl (aI aZ)))]) rfl (by decide) (by decide) (fun r1879 _ H locs hw hP hD hS => ?_)
  obtain rfl : r1879 = (iI 0) := hw
  have hP : va_P (dC, dI) vwCl [(m0, .inr (11, [.ref mg, .long (lI 0), .ref mk, .long (lI 0), .int (iI 0), .ref mp, .ref mpu, .int (iI 0), .ref ms, .long (lI 0), .int (iI 0), .int (iI 0), .int (iI 0), .int (iI 0), .int (iI 0), .long (lI 0), .ref mpl, .int (iI 0), .ref mpd, .int (iI 0), .ref mtx, .int (iI 0), .int (iI 0), .int (iI (-1)), .int (iI (-1)), .int (iI 0), .ref mtd, .int (iI 0), .ref mrw, .ref mrl, .ref mir])), (mg, .inl (k 0, 1460, .inl (aI g0F))), (mk, .inl (k 0, 1460, .inl (aI aZ)))] H := hP
  have hD : va_D A [(m0, .inr (11, [.ref mg, .long (lI 0), .ref mk, .long (lI 0), .int (iI 0), .ref mp, .ref mpu, .int (iI 0), .ref ms, .long (lI 0), .int (iI 0), .int (iI 0), .int (iI 0), .int (iI 0), .int (iI 0), .long (lI 0), .ref mpl, .int (iI 0), .ref mpd, .int (iI 0), .ref mtx, .int (iI 0), .int (iI 0), .int (iI (-1)), .int (iI (-1)), .int (iI 0), .ref mtd, .int (iI 0), .ref mrw, .ref mrl, .ref mir])), (mg, .inl (k 0, 1460, .inl (aI g0F))), (mk, .inl (k 0, 1460, .inl (aI aZ)))] := hD
  refine lv_aload_n hx hb dL_law_1882 rfl (lv_at hl 3 rfl) ?_
  refine ki (va_runV (As := []) (rest := [.int (iI 0)]) hSF ((c_X11_snapshot l dC dI k m0 mg mk mp mpu ms mpl mpd mtx mtd mrw mrl mir) H.size) (cwV 0 hts gL_law_X11_snapshot rfl rfl rfl (by decide +kernel) ⟨Nat.le_of_ble_eq_true rfl, Nat.le_of_ble_eq_true rfl⟩) (preV hP hD hE hS hA [0, 1, 2] rfl (by decide) (ci := 11) (q0 := 0) rfl rfl) rfl rfl hl.1 rfl (lv_room (Nat.le_of_ble_eq_true rfl)) dL_law_1883 ⟨Nat.le_of_ble_eq_true rfl, Nat.le_of_ble_eq_true rfl⟩) hP hD hS hA [0, 1, 2] [] rfl (wr := []) rfl (by decide) (by decide) (fun r1883 _ H locs hw hP hD hS => ?_)
  obtain rfl : r1883 = (iI 0) := hw
  have hP : va_P (dC, dI) vwCl [(m0, .inr (11, [.ref mg, .long (lI 0), .ref mk, .long (lI 0), .int (iI 1), .ref mp, .ref mpu, .int (iI 0), .ref ms, .long (lI 0), .int (iI 0), .int (iI 0), .int (iI 0), .int (iI 0), .int (iI 0), .long (lI 0), .ref mpl, .int (iI 0), .ref mpd, .int (iI 0), .ref mtx, .int (iI 0), .int (iI 0), .int (iI (-1)), .int (iI (-1)), .int (iI 0), .ref mtd, .int (iI 0), .ref mrw, .ref mrl, .ref mir]))] H := hP
  have hD : va_D A [(m0, .inr (11, [.ref mg, .long (lI 0), .ref mk, .long (lI 0), .int (iI 1), .ref mp, .ref mpu, .int (iI 0), .ref ms, .long (lI 0), .int (iI 0), .int (iI 0), .int (iI 0), .int (iI 0), .int (iI 0), .long (lI 0), .ref mpl, .int (iI 0), .ref mpd, .int (iI 0), .ref mtx, .int (iI 0), .int (iI 0), .int (iI (-1)), .int (iI (-1)), .int (iI 0), .ref mtd, .int (iI 0), .ref mrw, .ref mrl, .ref mir]))] := hD
  refine q_icmp_eq (tgt := 1935) hx hb dL_law_1886 (by decide) (by omega) (fun _ => ?_) (fun q => absurd q (by omega))
  exact law_end l hL5 C0 hAe hS (lv_sub hl [0, 5] rfl) (Nat.le_of_ble_eq_true rfl) (Nat.le_of_ble_eq_true rfl)
set_option maxHeartbeats 4000000 in
set_option maxRecDepth 100000 in
theorem law_31 (l : Launch) (hl0 : l.stackTraces = false) (dC : Nat → ClassId) (dI : Nat → Nat → Nat) (k : Nat → ClassId) {p : Program} {e : Env} {s : State} {mI : MethodId} {below : List Frame} {meth : Method} {cO : Code} {bS L : Nat} {zs : Nat → Int32} (hL5 : L = 5) (C0 : lw_At p s mI meth cO bS L zs) (hE : En (dC, dI) k (va_A [] s.heap.size) s s.heap) (hout : Nat) (h0 hn g1 g2 hea g3 g4 g5 g6 g7 xa1 xa2 xa3 xa4 xa5 xa6 xa7 xa8 xa9 xa10 xa11 : Nat) (m0 mg mk mp mpu ms mpl mpd mtx mtd mrw mrl mir hoD : Nat) : ∀ (H : Heap) (locs : List Loc), va_P (dC, dI) vwCl [(h0, .inr (10, [.ref hn, .ref g1, .ref g2, .ref hea, .ref g3, .ref g4, .ref g5, .ref g6, .ref g7, .int (iI 0), .int (iI 0), .int (iI 0), .int (iI (-1)), .int (iI (-1)), .int (iI 0)])), (hout, .inl (k 1, 1, .inr (.inl (aL aZ)))), (m0, .inr (11, [.ref mg, .long (lI 0), .ref mk, .long (lI 0), .int (iI 0), .ref mp, .ref mpu, .int (iI 0), .ref ms, .long (lI 0), .int (iI 0), .int (iI 0), .int (iI 0), .int (iI 0), .int (iI 0), .long (lI 0), .ref mpl, .int (iI 0), .ref mpd, .int (iI 0), .ref mtx, .int (iI 0), .int (iI 0), .int (iI (-1)), .int (iI (-1)), .int (iI 0), .ref mtd, .int (iI 0), .ref mrw, .ref mrl, .ref mir]))] H → va_D (va_A [] s.heap.size) [(h0, .inr (10, [.ref hn, .ref g1, .ref g2, .ref hea, .ref g3, .ref g4, .ref g5, .ref g6, .ref g7, .int (iI 0), .int (iI 0), .int (iI 0), .int (iI (-1)), .int (iI (-1)), .int (iI 0)])), (hout, .inl (k 1, 1, .inr (.inl (aL aZ)))), (m0, .inr (11, [.ref mg, .long (lI 0), .ref mk, .long (lI 0), .int (iI 0), .ref mp, .ref mpu, .int (iI 0), .ref ms, .long (lI 0), .int (iI 0), .int (iI 0), .int (iI 0), .int (iI 0), .int (iI 0), .long (lI 0), .ref mpl, .int (iI 0), .ref mpd, .int (iI 0), .ref mtx, .int (iI 0), .int (iI 0), .int (iI (-1)), .int (iI (-1)), .int (iI 0), .ref mtd, .int (iI 0), .ref mrw, .ref mrl, .ref mir]))] → va_S (va_A [] s.heap.size) s.heap H locs → ∀ ls : Array Slot, lv_has ls 9 [(5, .int (iI 0)), (4, .ref hoD), (3, .ref hout), (2, .ref m0), (1, .ref h0), (0, .ref bS)] → W p l e room_1 s mI #[Value.ref bS] below meth cO H locs 173 27875 (lw_Z below #[Value.ref bS] s) (F0 mI 1891 ls []) := by
  intro H locs hP hD hS ls hl
  obtain ⟨hx, hb, hr, hml, hown0, hts0, hX, hbl, hlocks, hgv⟩ := id C0
  have hts : ∀ w ∈ wsL_law, w.before #[Value.ref bS] s = true := fun w h => hts0 w (wsL_law_in w h)
  have hown : s.vm.findClass RL = some mI.cls := hown0
  generalize hAe : va_A [] s.heap.size = A at hE hD hS
  have hA : ∀ q : Nat, s.heap.size ≤ q → A q := fun q h => by rw [← hAe]; exact Or.inr h
  have hbA : ¬ A bS := fa_A hAe hbl
  obtain ⟨hK, hNw, hNc, hZs, hAO1, hAO2⟩ := id hE
  have hSF : CallFix p mI cO cL_law 9 s ([.ref bS] : List Value).toArray wsL_law RL := ⟨hx, hb, hml, hown, hts⟩
  refine lv_aload_n hx hb dL_law_1891 rfl (lv_at hl 4 rfl) ?_
  refine lv_aload_n hx hb dL_law_1892 rfl (lv_at hl 2 rfl) ?_
  refine ki (vx_runSW (As := [.ref h0, .ref hout]) (rest := []) hSF ((c_L_restore l hl0 dC dI k hout h0 hn g1 g2 hea g3 g4 g5 g6 g7 0 0 0 0 0 0 0 0 0 0 0) H.size) (vx_cwSW 2 hts gL_law_L_restore rfl rfl rfl (by decide +kernel) ⟨Nat.le_of_ble_eq_true rfl, Nat.le_of_ble_eq_true rfl⟩) (preS hP hD hE hS hA [0, 1] rfl (by decide)) rfl rfl hl.1 rfl (lv_room (Nat.le_of_ble_eq_true rfl)) dL_law_1893 ⟨Nat.le_of_ble_eq_true rfl, Nat.le_of_ble_eq_true rfl⟩) hP hD hS hA [0, 1] [2] rfl (wr := [(m0, .inr (11, [.ref mg, .long (lI 0), .ref mk, .long (lI 0), .int (iI 0), .ref mp, .ref mpu, .int (iI 0), .ref ms, .long (lI 0), .int (iI 0), .int (iI 0), .int (iI 0), .int (iI 0), .int (iI 0), .long (lI 0), .ref mpl, .int (iI 0), .ref mpd, .int (iI 0), .ref mtx, .int (iI 0), .int (iI 0), .int (iI (-1)), .int (iI (-1)), .int (iI 0), .ref mtd, .int (iI 0), .ref mrw, .ref mrl, .ref mir]))]) rfl (by decide) (by decide) (fun r1893 _ H locs hw hP hD hS => ?_)
  obtain rfl : r1893 = (iI 1) := hw
  have hP : va_P (dC, dI) vwCl [(m0, .inr (11, [.ref mg, .long (lI 0), .ref mk, .long (lI 0), .int (iI 0), .ref mp, .ref mpu, .int (iI 0), .ref ms, .long (lI 0), .int (iI 0), .int (iI 0), .int (iI 0), .int (iI 0), .int (iI 0), .long (lI 0), .ref mpl, .int (iI 0), .ref mpd, .int (iI 0), .ref mtx, .int (iI 0), .int (iI 0), .int (iI (-1)), .int (iI (-1)), .int (iI 0), .ref mtd, .int (iI 0), .ref mrw, .ref mrl, .ref mir]))] H := hP
  have hD : va_D A [(m0, .inr (11, [.ref mg, .long (lI 0), .ref mk, .long (lI 0), .int (iI 0), .ref mp, .ref mpu, .int (iI 0), .ref ms, .long (lI 0), .int (iI 0), .int (iI 0), .int (iI 0), .int (iI 0), .int (iI 0), .long (lI 0), .ref mpl, .int (iI 0), .ref mpd, .int (iI 0), .ref mtx, .int (iI 0), .int (iI 0), .int (iI (-1)), .int (iI (-1)), .int (iI 0), .ref mtd, .int (iI 0), .ref mrw, .ref mrl, .ref mir]))] := hD
  refine lv_istore (lv' := [(6, .int (iI 1)), (5, .int (iI 0)), (4, .ref hoD), (3, .ref hout), (2, .ref m0), (1, .ref h0), (0, .ref bS)]) hx hb dL_law_1896 hl (by decide) rfl (fun ls hl => ?_)
  refine lv_aload_n hx hb dL_law_1898 rfl (lv_at hl 4 rfl) ?_
  refine ki (va_runV (As := []) (rest := []) hSF ((c_X11_restore l dC dI k m0 mg mk mp mpu ms mpl mpd mtx mtd mrw mrl mir) H.size) (cwV 0 hts gL_law_X11_restore rfl rfl rfl (by decide +kernel) ⟨Nat.le_of_ble_eq_true rfl, Nat.le_of_ble_eq_true rfl⟩) (preV hP hD hE hS hA [0] rfl (by decide) (ci := 11) (q0 := 0) rfl rfl) rfl rfl hl.1 rfl (lv_room (Nat.le_of_ble_eq_true rfl)) dL_law_1899 ⟨Nat.le_of_ble_eq_true rfl, Nat.le_of_ble_eq_true rfl⟩) hP hD hS hA [0] [] rfl (wr := []) rfl (by decide) (by decide) (fun r1899 _ H locs hw hP hD hS => ?_)
  obtain rfl : r1899 = (iI 0) := hw
  have hP : va_P (dC, dI) vwCl [(m0, .inr (11, [.ref mg, .long (lI 0), .ref mk, .long (lI 0), .int (iI 0), .ref mp, .ref mpu, .int (iI 0), .ref ms, .long (lI 0), .int (iI 0), .int (iI 1), .int (iI 0), .int (iI 0), .int (iI 0), .long (lI 0), .ref mpl, .int (iI 0), .ref mpd, .int (iI 0), .ref mtx, .int (iI 0), .int (iI 0), .int (iI (-1)), .int (iI (-1)), .int (iI 0), .ref mtd, .int (iI 0), .ref mrw, .ref mrl, .ref mir]))] H := hP
  have hD : va_D A [(m0, .inr (11, [.ref mg, .long (lI 0), .ref mk, .long (lI 0), .int (iI 0), .ref mp, .ref mpu, .int (iI 0), .ref ms, .long (lI 0), .int (iI 0), .int (iI 1), .int (iI 0), .int (iI 0), .int (iI 0), .long (lI 0), .ref mpl, .int (iI 0), .ref mpd, .int (iI 0), .ref mtx, .int (iI 0), .int (iI 0), .int (iI (-1)), .int (iI (-1)), .int (iI 0), .ref mtd, .int (iI 0), .ref mrw, .ref mrl, .ref mir]))] := hD
  refine lv_istore (lv' := [(7, .int (iI 0)), (6, .int (iI 1)), (5, .int (iI 0)), (4, .ref hoD), (3, .ref hout), (2, .ref m0), (1, .ref h0), (0, .ref bS)]) hx hb dL_law_1902 hl (by decide) rfl (fun ls hl => ?_)
  refine lv_aload_n hx hb dL_law_1904 rfl (lv_at hl 5 rfl) ?_
  refine ki (va_runV (As := []) (rest := []) hSF ((c_X11_thrown l dC dI k m0 (.ref mg) (.long (lI 0)) (.ref mk) (.long (lI 0)) (.int (iI 0)) (.ref mp) (.ref mpu) (.int (iI 0)) (.ref ms) (.long (lI 0)) (.int (iI 0)) 1 [.int (iI 0), .int (iI 0), .int (iI 0), .long (lI 0), .ref mpl, .int (iI 0), .ref mpd, .int (iI 0), .ref mtx, .int (iI 0), .int (iI 0), .int (iI (-1)), .int (iI (-1)), .int (iI 0), .ref mtd, .int (iI 0), .ref mrw, .ref mrl, .ref mir]) H.size) (cwV 0 hts gL_law_X11_thrown rfl rfl rfl (by decide +kernel) ⟨Nat.le_of_ble_eq_true rfl, Nat.le_of_ble_eq_true rfl⟩) (preV hP hD hE hS hA [0] rfl (by decide) (ci := 11) (q0 := 0) rfl rfl) rfl rfl hl.1 rfl (lv_room (Nat.le_of_ble_eq_true rfl)) dL_law_1905 ⟨Nat.le_of_ble_eq_true rfl, Nat.le_of_ble_eq_true rfl⟩) hP hD hS hA [0] [] rfl (wr := []) rfl (by decide) (by decide) (fun r1905 _ H locs hw hP hD hS => ?_)
  obtain rfl : r1905 = (iI 1) := hw
  have hP : va_P (dC, dI) vwCl [(m0, .inr (11, [.ref mg, .long (lI 0), .ref mk, .long (lI 0), .int (iI 0), .ref mp, .ref mpu, .int (iI 0), .ref ms, .long (lI 0), .int (iI 0), .int (iI 1), .int (iI 0), .int (iI 0), .int (iI 0), .long (lI 0), .ref mpl, .int (iI 0), .ref mpd, .int (iI 0), .ref mtx, .int (iI 0), .int (iI 0), .int (iI (-1)), .int (iI (-1)), .int (iI 0), .ref mtd, .int (iI 0), .ref mrw, .ref mrl, .ref mir]))] H := hP
  have hD : va_D A [(m0, .inr (11, [.ref mg, .long (lI 0), .ref mk, .long (lI 0), .int (iI 0), .ref mp, .ref mpu, .int (iI 0), .ref ms, .long (lI 0), .int (iI 0), .int (iI 1), .int (iI 0), .int (iI 0), .int (iI 0), .long (lI 0), .ref mpl, .int (iI 0), .ref mpd, .int (iI 0), .ref mtx, .int (iI 0), .int (iI 0), .int (iI (-1)), .int (iI (-1)), .int (iI 0), .ref mtd, .int (iI 0), .ref mrw, .ref mrl, .ref mir]))] := hD
  refine lv_iload hx hb dL_law_1908 (lv_at hl 1 rfl) ?_
  refine q_icmp_eq (tgt := 1915) hx hb dL_law_1910 (by decide) (by omega) (fun _ => ?_) (fun q => absurd q (by omega))
  refine lv_iload hx hb dL_law_1915 (lv_at hl 1 rfl) ?_
  refine q_if_ne (tgt := 1932) hx hb dL_law_1917 (by decide) (by omega) (fun _ => ?_) (fun q => absurd q (by omega))
  refine lv_goto (tgt := 1935) hx hb dL_law_1932 (by decide) ?_
  exact law_end l hL5 C0 hAe hS (lv_sub hl [2, 7] rfl) (Nat.le_of_ble_eq_true rfl) (Nat.le_of_ble_eq_true rfl)
