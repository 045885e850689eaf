theorem gL_law_L_begin : GoodIn wsL_law (va_wsS RL 116 yL_begin woL_begin) := gl_S (wl_6 (List.mem_of_getElem? (i := 2) rfl)) (wl_5 (List.mem_of_getElem? (i := 23) rfl)) (wl_6 (List.mem_of_getElem? (i := 0) rfl)) (wl_6 (List.mem_of_getElem? (i := 1) rfl))
theorem gL_law_L_countedDays : GoodIn wsL_law (va_wsS RL 132 yL_countedDays woL_countedDays) := gl_S (wl_24 (List.mem_of_getElem? (i := 10) rfl)) (wl_24 (List.mem_of_getElem? (i := 8) rfl)) (wl_24 (List.mem_of_getElem? (i := 9) rfl)) (wl_6 (List.mem_of_getElem? (i := 1) rfl))
theorem gL_law_L_date : GoodIn wsL_law (va_wsS RL 129 yL_date woL_date) := gl_S (wl_23 (List.mem_of_getElem? (i := 13) rfl)) (wl_23 (List.mem_of_getElem? (i := 11) rfl)) (wl_23 (List.mem_of_getElem? (i := 12) rfl)) (wl_6 (List.mem_of_getElem? (i := 1) rfl))
theorem gL_law_L_pass : GoodIn wsL_law (va_wsS RL 125 yL_pass woL_pass) := gl_S (wl_16 (List.mem_of_getElem? (i := 6) rfl)) (wl_16 (List.mem_of_getElem? (i := 4) rfl)) (wl_16 (List.mem_of_getElem? (i := 5) rfl)) (wl_6 (List.mem_of_getElem? (i := 1) rfl))
theorem gL_law_L_set : GoodIn wsL_law (va_wsS RL 136 yL_set woL_set) := gl_S (wl_24 (List.mem_of_getElem? (i := 22) rfl)) (wl_24 (List.mem_of_getElem? (i := 20) rfl)) (wl_24 (List.mem_of_getElem? (i := 21) rfl)) (wl_6 (List.mem_of_getElem? (i := 1) rfl))
theorem gL_law_X11_begin : GoodIn wsL_law (wsV RL 121 RX11 yX11_begin woX11_begin) := gl_V (wl_13 (List.mem_of_getElem? (i := 10) rfl)) (wl_13 (List.mem_of_getElem? (i := 7) rfl)) (wl_13 (List.mem_of_getElem? (i := 8) rfl)) (wl_13 (List.mem_of_getElem? (i := 9) rfl)) (wl_1 (List.mem_of_getElem? (i := 5) rfl))
theorem gL_law_X11_countedDays : GoodIn wsL_law (wsV RL 135 RX11 yX11_countedDays woX11_countedDays) := gl_V (wl_24 (List.mem_of_getElem? (i := 19) rfl)) (wl_24 (List.mem_of_getElem? (i := 16) rfl)) (wl_24 (List.mem_of_getElem? (i := 17) rfl)) (wl_24 (List.mem_of_getElem? (i := 18) rfl)) (wl_1 (List.mem_of_getElem? (i := 5) rfl))
theorem gL_law_X11_date : GoodIn wsL_law (wsV RL 131 RX11 yX11_date woX11_date) := gl_V (wl_24 (List.mem_of_getElem? (i := 4) rfl)) (wl_24 (List.mem_of_getElem? (i := 1) rfl)) (wl_24 (List.mem_of_getElem? (i := 2) rfl)) (wl_24 (List.mem_of_getElem? (i := 3) rfl)) (wl_1 (List.mem_of_getElem? (i := 5) rfl))
theorem gL_law_X11_pass : GoodIn wsL_law (wsV RL 128 RX11 yX11_pass woX11_pass) := gl_V (wl_22 (List.mem_of_getElem? (i := 6) rfl)) (wl_22 (List.mem_of_getElem? (i := 3) rfl)) (wl_22 (List.mem_of_getElem? (i := 4) rfl)) (wl_22 (List.mem_of_getElem? (i := 5) rfl)) (wl_1 (List.mem_of_getElem? (i := 5) rfl))
theorem gL_law_X11_set : GoodIn wsL_law (wsV RL 139 RX11 yX11_set woX11_set) := gl_V (wl_25 (List.mem_of_getElem? (i := 9) rfl)) (wl_25 (List.mem_of_getElem? (i := 6) rfl)) (wl_25 (List.mem_of_getElem? (i := 7) rfl)) (wl_25 (List.mem_of_getElem? (i := 8) rfl)) (wl_1 (List.mem_of_getElem? (i := 5) rfl))
theorem gL_law_X11_thrown : GoodIn wsL_law (wsV RL 122 RX11 yX11_thrown woX11_thrown) := gl_V (wl_16 (List.mem_of_getElem? (i := 3) rfl)) (wl_16 (List.mem_of_getElem? (i := 0) rfl)) (wl_16 (List.mem_of_getElem? (i := 1) rfl)) (wl_16 (List.mem_of_getElem? (i := 2) rfl)) (wl_1 (List.mem_of_getElem? (i := 5) rfl))

theorem fa_A {A : Nat → Prop} {n b : Nat} (hAe : va_A [] n = A) (h : b < n) : ¬ A b := by
  rw [← hAe]
  intro q
  rcases q with ⟨k, e, q⟩ | q
  · simp at q
  · exact absurd h (Nat.not_lt.mpr q)
theorem fa_A' {A : Nat → Prop} {n b : Nat} (hAe : va_A [] n = A) (h : A b) : n ≤ b := by
  rw [← hAe] at h
  rcases h with ⟨k, e, q⟩ | q
  · simp at q
  · exact q
theorem sv9 (x : Int32) : ∃ z : Int, x = iI z ∧ -2147483648 ≤ z ∧ z ≤ 2147483647 := ⟨x.toInt, iI_of x, iI_rng x⟩
theorem nI_iI (n : Nat) : nI n = iI (n : Int) := by
  unfold nI iI
  first | rfl | exact (Int32.ofInt_eq_ofNat).symm | simp
theorem ch9 (x : Int32) : ∃ z : Int, (x.toUInt32 % 65536).toInt32 = iI z ∧ 0 ≤ z ∧ z ≤ 65535 :=
  ⟨((x.toBitVec.toNat % 65536 : Nat) : Int), by rw [pk_char, nI_iI], by omega, by omega⟩
theorem and31 (x : Int32) : ∃ z : Int, x &&& iI 31 = iI z ∧ 0 ≤ z ∧ z ≤ 31 := by
  refine ⟨((x.toBitVec.toNat &&& 31 : Nat) : Int), ?_, by omega, ?_⟩
  · rw [← nI_iI]
    apply Int32.toBitVec_inj.mp
    apply BitVec.eq_of_toNat_eq
    have h1 : x.toBitVec.toNat &&& 31 ≤ 31 := Nat.and_le_right
    rw [Int32.toBitVec_and, BitVec.toNat_and]
    show x.toBitVec.toNat &&& 31 = (x.toBitVec.toNat &&& 31) % 2 ^ 32
    rw [Nat.mod_eq_of_lt (by omega)]
  · have h1 : x.toBitVec.toNat &&& 31 ≤ 31 := Nat.and_le_right
    omega
set_option maxHeartbeats 4000000 in
theorem law_out (l : Launch) {p : Program} {e : Env} {s : State} {mI : MethodId} {below : List Frame} {meth : Method} {cO : Code} {bS L : Nat} {zs : Nat → Int32} (C0 : lw_At p s mI meth cO bS L zs) {A : Nat → Prop} (hAe : va_A [] s.heap.size = A) {H : Heap} {locs : List Loc} (hS : va_S A s.heap H locs) {ls : Array Slot} {n1 n2 : Nat} (h1 : n1 ≤ 600006) (h2 : n2 ≤ 7302032) :
    W p l e room_1 s mI #[Value.ref bS] below meth cO H locs n1 n2 (lw_Z below #[Value.ref bS] s) (F0 mI 1941 ls []) := by
  obtain ⟨hx, hb, hr, hml, hown0, hts0, hX, hbl, hlocks, hgv⟩ := id C0
  refine lv_iconst (v := 1) hx hb dL_law_1941 (by decide) ?_
  refine va_forget (fun q hq => fa_A' hAe (hS.2.2 q hq)) ?_
  refine W.widen h1 h2 ?_
  exact W.base (lw_ret (Drawn.sameBut.refl s.drawn lw_cs) hx hb hr hlocks dL_law_1942)
theorem nL_iI {L : Nat} (hL : L ≤ 5) : Int32.ofNat L = iI (L : Int) := nI_iI L
set_option maxHeartbeats 4000000 in
theorem law_end (l : Launch) {p : Program} {e : Env} {s : State} {mI : MethodId} {below : List Frame} {meth : Method} {cO : Code} {bS L : Nat} {zs : Nat → Int32} (hL5 : L = 5) (C0 : lw_At p s mI meth cO bS L zs) {A : Nat → Prop} (hAe : va_A [] s.heap.size = A) {H : Heap} {locs : List Loc} (hS : va_S A s.heap H locs) {ls : Array Slot} (hl : lv_has ls 9 [(5, .int (iI 0)), (0, .ref bS)]) {n1 n2 : Nat} (h1 : n1 ≤ 600006) (h2 : n2 ≤ 7302032) :
    W p l e room_1 s mI #[Value.ref bS] below meth cO H locs n1 n2 (lw_Z below #[Value.ref bS] s) (F0 mI 1935 ls []) := by
  obtain ⟨hx, hb, hr, hml, hown0, hts0, hX, hbl, hlocks, hgv⟩ := id C0
  have hbA : ¬ A bS := fa_A hAe hbl
  refine lv_iinc (v := iI 5) (lv' := [(5, .int (iI 5)), (0, .ref bS)]) hx hb dL_law_1935 hl (k := 0) rfl (by decide) (by decide) rfl (fun ls hl => ?_)
  refine lv_goto (tgt := 28) hx hb dL_law_1938 (by decide) ?_
  refine lv_iload hx hb dL_law_28 (lv_at hl 0 rfl) ?_
  refine lv_aload_n hx hb dL_law_30 rfl (lv_at hl 1 rfl) ?_
  refine va_slen hx hb hX hbl hbA hS dL_law_31 ?_
  rw [nL_iI (by omega), hL5]
  refine q_iconst hx hb dL_law_32 ?_
  refine q_isub (z := 0) hx hb dL_law_33 (by decide) ?_
  refine q_icmp_gt (tgt := 1941) hx hb dL_law_34 (by decide) (by omega) (fun _ => ?_) (fun q => absurd q (by omega))
  exact law_out l C0 hAe hS h1 h2

set_option maxHeartbeats 4000000 in
set_option maxRecDepth 100000 in
theorem law_0_ok (l : Launch) (dC : Nat → ClassId) (dI : Nat → Nat → Nat) (k : Nat → ClassId) {p : Program} {e : Env} {s : State} {mI : MethodId} {below : List Frame} {meth : Method} {cO : Code} {bS L : Nat} {zs : Nat → Int32} (hL5 : L = 5) (C0 : lw_At p s mI meth cO bS L zs) (hE : En (dC, dI) k (va_A [] s.heap.size) s s.heap) (hout : Nat) (h0 hn g1 g2 hea g3 g4 g5 g6 g7 xa1 xa2 xa3 xa4 xa5 xa6 xa7 xa8 xa9 xa10 xa11 he0 ya1 ya2 ya3 ya4 ya5 ya6 ya7 ya8 ya9 ya10 ya11 xd1 xd2 xd3 xd4 xd5 xd6 : Nat) (xeF : Nat → Option Nat) (xP xr xcv xn : Int) (hea0 : xeF 0 = some he0) (hq9 : 1 ≤ xP ∧ xP ≤ 10000000) (hr9 : 0 ≤ xr ∧ xr ≤ 2000) (hc9 : 0 ≤ xcv ∧ xcv ≤ 2) (hn9 : 1 ≤ xn ∧ xn ≤ 60) (m0 mg mk mp mpu ms mpl mpd mtx mtd mrw mrl mir hoD : Nat) (x1 : zs 1 = iI xP) (x2 : zs 2 = iI xr) (x3 : zs 3 = iI xn) (x4 : zs 4 = iI xcv) : ∀ (H : Heap) (locs : List Loc), va_P (dC, dI) vwCl [(h0, .inr (10, [.ref hn, .ref g1, .ref g2, .ref hea, .ref g3, .ref g4, .ref g5, .ref g6, .ref g7, .int (iI 0), .int (iI 0), .int (iI 0), .int (iI (-1)), .int (iI (-1)), .int (iI 0)])), (hn, .inr (2, [.ref xa1, .ref xa2, .ref xa3, .ref xa5, .ref xa8, .int (iI 0), .int (iI 0), .int (iI 0)])), (xa1, .inl (k 0, 5, .inl (aI (upI (upI (upI (upI (upI aZ 0 0) 1 0) 2 10) 3 500) 4 0)))), (xa2, .inl (k 0, 5, .inl (aI aZ))), (xa3, .inr (7, [.int (iI 0), .int (iI 0), .int (iI 0), .long (lI 0), .int (iI 0), .int (iI 0), .int (iI 0), .long (lI 0), .long (lI 0), .long (lI 0), .long (lI 0), .long (lI 0), .int (iI 0), .int (iI 0), .int (iI 0), .int (iI 0), .ref xa4])), (xa4, .inl (k 1, 8, .inr (.inl (aL aZ)))), (xa5, .inr (3, [.ref xa6, .ref xa7, .int (iI 0), .int (iI 0), .int (iI 0)])), (xa6, .inl (k 1, 264, .inr (.inl (aL aZ)))), (xa7, .inl (k 0, 264, .inl (aI aZ))), (xa8, .inr (6, [.ref xa9, .ref xa10, .ref xa11, .int (iI 0), .int (iI 0)])), (xa9, .inl (k 0, 60, .inl (aI aZ))), (xa10, .inl (k 0, 60, .inl (aI aZ))), (xa11, .inl (k 1, 60, .inr (.inl (aL aZ)))), (hea, .inl (k 6, 8, .inr (.inr (.inr (.inr xeF))))), (he0, .inr (2, [.ref ya1, .ref ya2, .ref ya3, .ref ya5, .ref ya8, .int (iI 0), .int (iI 0), .int (iI 0)])), (ya1, .inl (k 0, 5, .inl (aI (upI (upI (upI (upI (upI aZ 0 0) 1 0) 2 10) 3 500) 4 0)))), (ya2, .inl (k 0, 5, .inl (aI aZ))), (ya3, .inr (7, [.int (iI 0), .int (iI 0), .int (iI 0), .long (lI 0), .int (iI 0), .int (iI 0), .int (iI 0), .long (lI 0), .long (lI 0), .long (lI 0), .long (lI 0), .long (lI 0), .int (iI 0), .int (iI 0), .int (iI 0), .int (iI 0), .ref ya4])), (ya4, .inl (k 1, 8, .inr (.inl (aL aZ)))), (ya5, .inr (3, [.ref ya6, .ref ya7, .int (iI 0), .int (iI 0), .int (iI 0)])), (ya6, .inl (k 1, 264, .inr (.inl (aL aZ)))), (ya7, .inl (k 0, 264, .inl (aI aZ))), (ya8, .inr (6, [.ref ya9, .ref ya10, .ref ya11, .int (iI 0), .int (iI 0)])), (ya9, .inl (k 0, 60, .inl (aI aZ))), (ya10, .inl (k 0, 60, .inl (aI aZ))), (ya11, .inl (k 1, 60, .inr (.inl (aL aZ)))), (g5, .inr (8, [.long (lI 0), .long (lI 0), .long (lI 0), .int (iI 0), .int (iI 0), .int (iI 0), .int (iI 0), .int (iI 0), .ref xd1, .ref xd2, .int (iI 0), .ref xd3, .ref xd4, .ref xd5, .ref xd6])), (xd1, .inl (k 0, 84, .inl (aI aZ))), (xd2, .inl (k 0, 84, .inl (aI aZ))), (xd3, .inl (k 0, 60, .inl (aI aZ))), (xd4, .inl (k 1, 60, .inr (.inl (aL aZ)))), (xd5, .inl (k 1, 60, .inr (.inl (aL aZ)))), (xd6, .inl (k 1, 60, .inr (.inl (aL aZ)))), (hout, .inl (k 1, 1, .inr (.inl (aL aZ)))), (m0, .inr (11, [.ref mg, .long (lI 0), .ref mk, .long (lI 0), .int (iI 0), .ref mp, .ref mpu, .int (iI 0), .ref ms, .long (lI 0), .int (iI 0), .int (iI 0), .int (iI 0), .int (iI 0), .int (iI 0), .long (lI 0), .ref mpl, .int (iI 0), .ref mpd, .int (iI 0), .ref mtx, .int (iI 0), .int (iI 0), .int (iI (-1)), .int (iI (-1)), .int (iI 0), .ref mtd, .int (iI 0), .ref mrw, .ref mrl, .ref mir])), (mg, .inl (k 0, 1460, .inl (aI g0F))), (mp, .inl (k 0, 11680, .inl (aI aZ))), (mpu, .inl (k 1, 8, .inr (.inl (aL aZ)))), (mpl, .inl (k 0, 300, .inl (aI aZ)))] H → va_D (va_A [] s.heap.size) [(h0, .inr (10, [.ref hn, .ref g1, .ref g2, .ref hea, .ref g3, .ref g4, .ref g5, .ref g6, .ref g7, .int (iI 0), .int (iI 0), .int (iI 0), .int (iI (-1)), .int (iI (-1)), .int (iI 0)])), (hn, .inr (2, [.ref xa1, .ref xa2, .ref xa3, .ref xa5, .ref xa8, .int (iI 0), .int (iI 0), .int (iI 0)])), (xa1, .inl (k 0, 5, .inl (aI (upI (upI (upI (upI (upI aZ 0 0) 1 0) 2 10) 3 500) 4 0)))), (xa2, .inl (k 0, 5, .inl (aI aZ))), (xa3, .inr (7, [.int (iI 0), .int (iI 0), .int (iI 0), .long (lI 0), .int (iI 0), .int (iI 0), .int (iI 0), .long (lI 0), .long (lI 0), .long (lI 0), .long (lI 0), .long (lI 0), .int (iI 0), .int (iI 0), .int (iI 0), .int (iI 0), .ref xa4])), (xa4, .inl (k 1, 8, .inr (.inl (aL aZ)))), (xa5, .inr (3, [.ref xa6, .ref xa7, .int (iI 0), .int (iI 0), .int (iI 0)])), (xa6, .inl (k 1, 264, .inr (.inl (aL aZ)))), (xa7, .inl (k 0, 264, .inl (aI aZ))), (xa8, .inr (6, [.ref xa9, .ref xa10, .ref xa11, .int (iI 0), .int (iI 0)])), (xa9, .inl (k 0, 60, .inl (aI aZ))), (xa10, .inl (k 0, 60, .inl (aI aZ))), (xa11, .inl (k 1, 60, .inr (.inl (aL aZ)))), (hea, .inl (k 6, 8, .inr (.inr (.inr (.inr xeF))))), (he0, .inr (2, [.ref ya1, .ref ya2, .ref ya3, .ref ya5, .ref ya8, .int (iI 0), .int (iI 0), .int (iI 0)])), (ya1, .inl (k 0, 5, .inl (aI (upI (upI (upI (upI (upI aZ 0 0) 1 0) 2 10) 3 500) 4 0)))), (ya2, .inl (k 0, 5, .inl (aI aZ))), (ya3, .inr (7, [.int (iI 0), .int (iI 0), .int (iI 0), .long (lI 0), .int (iI 0), .int (iI 0), .int (iI 0), .long (lI 0), .long (lI 0), .long (lI 0), .long (lI 0), .long (lI 0), .int (iI 0), .int (iI 0), .int (iI 0), .int (iI 0), .ref ya4])), (ya4, .inl (k 1, 8, .inr (.inl (aL aZ)))), (ya5, .inr (3, [.ref ya6, .ref ya7, .int (iI 0), .int (iI 0), .int (iI 0)])), (ya6, .inl (k 1, 264, .inr (.inl (aL aZ)))), (ya7, .inl (k 0, 264, .inl (aI aZ))), (ya8, .inr (6, [.ref ya9, .ref ya10, .ref ya11, .int (iI 0), .int (iI 0)])), (ya9, .inl (k 0, 60, .inl (aI aZ))), (ya10, .inl (k 0, 60, .inl (aI aZ))), (ya11, .inl (k 1, 60, .inr (.inl (aL aZ)))), (g5, .inr (8, [.long (lI 0), .long (lI 0), .long (lI 0), .int (iI 0), .int (iI 0), .int (iI 0), .int (iI 0), .int (iI 0), .ref xd1, .ref xd2, .int (iI 0), .ref xd3, .ref xd4, .ref xd5, .ref xd6])), (xd1, .inl (k 0, 84, .inl (aI aZ))), (xd2, .inl (k 0, 84, .inl (aI aZ))), (xd3, .inl (k 0, 60, .inl (aI aZ))), (xd4, .inl (k 1, 60, .inr (.inl (aL aZ)))), (xd5, .inl (k 1, 60, .inr (.inl (aL aZ)))), (xd6, .inl (k 1, 60, .inr (.inl (aL aZ)))), (hout, .inl (k 1, 1, .inr (.inl (aL aZ)))), (m0, .inr (11, [.ref mg, .long (lI 0), .ref mk, .long (lI 0), .int (iI 0), .ref mp, .ref mpu, .int (iI 0), .ref ms, .long (lI 0), .int (iI 0), .int (iI 0), .int (iI 0), .int (iI 0), .int (iI 0), .long (lI 0), .ref mpl, .int (iI 0), .ref mpd, .int (iI 0), .ref mtx, .int (iI 0), .int (iI 0), .int (iI (-1)), .int (iI (-1)), .int (iI 0), .ref mtd, .int (iI 0), .ref mrw, .ref mrl, .ref mir])), (mg, .inl (k 0, 1460, .inl (aI g0F))), (mp, .inl (k 0, 11680, .inl (aI aZ))), (mpu, .inl (k 1, 8, .inr (.inl (aL aZ)))), (mpl, .inl (k 0, 300, .inl (aI aZ)))] → va_S (va_A [] s.heap.size) s.heap H locs → ∀ ls : Array Slot, lv_has ls 9 [(5, .int (iI 0)), (4, .ref hoD), (3, .ref hout), (2, .ref m0), (1, .ref h0), (0, .ref bS)] → W p l e room_1 s mI #[Value.ref bS] below meth cO H locs 173 27875 (lw_Z below #[Value.ref bS] s) (F0 mI 188 ls []) := by
  intro H locs hP hD hS ls hl
  obtain ⟨hx, hb, hr, hml, hown0, hts0, hX, hbl, hlocks, hgv⟩ := id C0
  have hts : ∀ w ∈ wsL_law, w.before #[Value.ref bS] s = true := fun w h => hts0 w (wsL_law_in w h)
  have hown : s.vm.findClass RL = some mI.cls := hown0
  generalize hAe : va_A [] s.heap.size = A at hE hD hS
  have hA : ∀ q : Nat, s.heap.size ≤ q → A q := fun q h => by rw [← hAe]; exact Or.inr h
  have hbA : ¬ A bS := fa_A hAe hbl
  obtain ⟨hK, hNw, hNc, hZs, hAO1, hAO2⟩ := id hE
  have hSF : CallFix p mI cO cL_law 9 s ([.ref bS] : List Value).toArray wsL_law RL := ⟨hx, hb, hml, hown, hts⟩
  refine lv_aload_n hx hb dL_law_188 rfl (lv_at hl 4 rfl) ?_
  refine lv_aload_n hx hb dL_law_189 rfl (lv_at hl 5 rfl) ?_
  refine lv_iload hx hb dL_law_190 (lv_at hl 0 rfl) ?_
  refine q_iconst hx hb dL_law_192 ?_
  refine q_iadd (z := 1) hx hb dL_law_193 (by omega) ?_
  refine va_sld hx hb hX hbl hbA hS (iI_in (by omega)) dL_law_194 ?_
  rw [show (iI 1).toNatClampNeg = 1 from by decide, x1]
  refine lv_aload_n hx hb dL_law_195 rfl (lv_at hl 5 rfl) ?_
  refine lv_iload hx hb dL_law_196 (lv_at hl 0 rfl) ?_
  refine q_iconst hx hb dL_law_198 ?_
  refine q_iadd (z := 2) hx hb dL_law_199 (by omega) ?_
  refine va_sld hx hb hX hbl hbA hS (iI_in (by omega)) dL_law_200 ?_
  rw [show (iI 2).toNatClampNeg = 2 from by decide, x2]
  refine lv_aload_n hx hb dL_law_201 rfl (lv_at hl 5 rfl) ?_
  refine lv_iload hx hb dL_law_202 (lv_at hl 0 rfl) ?_
  refine q_iconst hx hb dL_law_204 ?_
  refine q_iadd (z := 3) hx hb dL_law_205 (by omega) ?_
  refine va_sld hx hb hX hbl hbA hS (iI_in (by omega)) dL_law_206 ?_
  rw [show (iI 3).toNatClampNeg = 3 from by decide, x3]
  refine lv_aload_n hx hb dL_law_207 rfl (lv_at hl 5 rfl) ?_
  refine lv_iload hx hb dL_law_208 (lv_at hl 0 rfl) ?_
  refine q_iconst hx hb dL_law_210 ?_
  refine q_iadd (z := 4) hx hb dL_law_211 (by omega) ?_
  refine va_sld hx hb hX hbl hbA hS (iI_in (by omega)) dL_law_212 ?_
  rw [show (iI 4).toNatClampNeg = 4 from by decide, x4]
  refine lv_aload_n hx hb dL_law_213 rfl (lv_at hl 2 rfl) ?_
  refine ki (vx_runSW (As := [.ref h0, .int (iI xP), .int (iI xr), .int (iI xn), .int (iI xcv), .ref hout]) (rest := []) hSF ((c_L_begin_ok l dC dI k hout h0 hn g1 g2 hea g3 g4 g5 g6 g7 xa1 xa2 xa3 xa4 xa5 xa6 xa7 xa8 xa9 xa10 xa11 he0 ya1 ya2 ya3 ya4 ya5 ya6 ya7 ya8 ya9 ya10 ya11 xd1 xd2 xd3 xd4 xd5 xd6 xeF xP xr xcv xn hea0 (by omega) (by omega) (by omega) (by omega)) H.size) (vx_cwSW 6 hts gL_law_L_begin rfl rfl rfl (by decide +kernel) ⟨Nat.le_of_ble_eq_true rfl, Nat.le_of_ble_eq_true rfl⟩) (preS hP hD hE hS hA [0, 1, 2, 3, 4, 5, 6, 7, 8, 9, 10, 11, 12, 13, 14, 15, 16, 17, 18, 19, 20, 21, 22, 23, 24, 25, 26, 27, 28, 29, 30, 31, 32, 33] rfl (by decide)) rfl rfl hl.1 rfl (lv_room (Nat.le_of_ble_eq_true rfl)) dL_law_214 ⟨Nat.le_of_ble_eq_true rfl, Nat.le_of_ble_eq_true rfl⟩) hP hD hS hA [0, 1, 2, 3, 4, 5, 6, 7, 8, 9, 10, 11, 12, 13, 14, 15, 16, 17, 18, 19, 20, 21, 22, 23, 24, 25, 26, 27, 28, 29, 30, 31, 32, 33] [34, 35, 36, 37, 38] rfl (wr := [(m0, .inr (11, [.ref mg, .long (lI 0), .ref mk, .long (lI 0), .int (iI 0), .ref mp, .ref mpu, .int (iI 0), .ref ms, .long (lI 0), .int (iI 0), .int (iI 0), .int (iI 0), .int (iI 0), .int (iI 0), .long (lI 0), .ref mpl, .int (iI 0), .ref mpd, .int (iI 0), .ref mtx, .int (iI 0), .int (iI 0), .int (iI (-1)), .int (iI (-1)), .int (iI 0), .ref mtd, .int (iI 0), .ref mrw, .ref mrl, .ref mir])), (mg, .inl (k 0, 1460, .inl (aI g0F))), (mp, .inl (k 0, 11680, .inl (aI aZ))), (mpu, .inl (k 1, 8, .inr (.inl (aL aZ)))), (mpl, .inl (k 0, 300, .inl (aI aZ)))]) rfl (by decide) (by decide) (fun r214 u214 H locs hw hP hD hS => ?_)
  obtain ⟨xm, rfl⟩ : ∃ z : Int, z = u214 := ⟨_, rfl⟩
  obtain ⟨rfl, hLst⟩ := hw
  have hP : va_P (dC, dI) vwCl [(m0, .inr (11, [.ref mg, .long (lI 0), .ref mk, .long (lI 0), .int (iI 0), .ref mp, .ref mpu, .int (iI 0), .ref ms, .long (lI 0), .int (iI 0), .int (iI 0), .int (iI 0), .int (iI 0), .int (iI 0), .long (lI 0), .ref mpl, .int (iI 0), .ref mpd, .int (iI 0), .ref mtx, .int (iI 0), .int (iI 0), .int (iI (-1)), .int (iI (-1)), .int (iI 0), .ref mtd, .int (iI 0), .ref mrw, .ref mrl, .ref mir])), (mg, .inl (k 0, 1460, .inl (aI g0F))), (mp, .inl (k 0, 11680, .inl (aI aZ))), (mpu, .inl (k 1, 8, .inr (.inl (aL aZ)))), (mpl, .inl (k 0, 300, .inl (aI aZ))), (hout, .inl (k 1, 1, .inr (.inl (aL (upI aZ 0 xm)))))] H := hP
  have hD : va_D A [(m0, .inr (11, [.ref mg, .long (lI 0), .ref mk, .long (lI 0), .int (iI 0), .ref mp, .ref mpu, .int (iI 0), .ref ms, .long (lI 0), .int (iI 0), .int (iI 0), .int (iI 0), .int (iI 0), .int (iI 0), .long (lI 0), .ref mpl, .int (iI 0), .ref mpd, .int (iI 0), .ref mtx, .int (iI 0), .int (iI 0), .int (iI (-1)), .int (iI (-1)), .int (iI 0), .ref mtd, .int (iI 0), .ref mrw, .ref mrl, .ref mir])), (mg, .inl (k 0, 1460, .inl (aI g0F))), (mp, .inl (k 0, 11680, .inl (aI aZ))), (mpu, .inl (k 1, 8, .inr (.inl (aL aZ)))), (mpl, .inl (k 0, 300, .inl (aI aZ))), (hout, .inl (k 1, 1, .inr (.inl (aL (upI aZ 0 xm)))))] := hD
  refine lv_istore (lv' := [(6, .int (iI 0)), (5, .int (iI 0)), (4, .ref hoD), (3, .ref hout), (2, .ref m0), (1, .ref h0), (0, .ref bS)]) hx hb dL_law_217 hl (by decide) rfl (fun ls hl => ?_)
  refine lv_aload_n hx hb dL_law_219 rfl (lv_at hl 4 rfl) ?_
  refine lv_aload_n hx hb dL_law_220 rfl (lv_at hl 6 rfl) ?_
  refine lv_iload hx hb dL_law_221 (lv_at hl 1 rfl) ?_
  refine q_iconst hx hb dL_law_223 ?_
  refine q_iadd (z := 1) hx hb dL_law_224 (by omega) ?_
  refine va_sld hx hb hX hbl hbA hS (iI_in (by omega)) dL_law_225 ?_
  rw [show (iI 1).toNatClampNeg = 1 from by decide, x1]
  refine lv_aload_n hx hb dL_law_226 rfl (lv_at hl 6 rfl) ?_
  refine lv_iload hx hb dL_law_227 (lv_at hl 1 rfl) ?_
  refine q_iconst hx hb dL_law_229 ?_
  refine q_iadd (z := 2) hx hb dL_law_230 (by omega) ?_
  refine va_sld hx hb hX hbl hbA hS (iI_in (by omega)) dL_law_231 ?_
  rw [show (iI 2).toNatClampNeg = 2 from by decide, x2]
  refine lv_aload_n hx hb dL_law_232 rfl (lv_at hl 6 rfl) ?_
  refine lv_iload hx hb dL_law_233 (lv_at hl 1 rfl) ?_
  refine q_iconst hx hb dL_law_235 ?_
  refine q_iadd (z := 3) hx hb dL_law_236 (by omega) ?_
  refine va_sld hx hb hX hbl hbA hS (iI_in (by omega)) dL_law_237 ?_
  rw [show (iI 3).toNatClampNeg = 3 from by decide, x3]
  refine lv_aload_n hx hb dL_law_238 rfl (lv_at hl 6 rfl) ?_
  refine lv_iload hx hb dL_law_239 (lv_at hl 1 rfl) ?_
  refine q_iconst hx hb dL_law_241 ?_
  refine q_iadd (z := 4) hx hb dL_law_242 (by omega) ?_
  refine va_sld hx hb hX hbl hbA hS (iI_in (by omega)) dL_law_243 ?_
  rw [show (iI 4).toNatClampNeg = 4 from by decide, x4]
  refine ki (va_runV (As := [.int (iI xP), .int (iI xr), .int (iI xn), .int (iI xcv)]) (rest := []) hSF ((c_X11_begin_ok l dC dI k m0 mg mk mp mpu ms mpl mpd mtx mtd mrw mrl mir xP xr xcv xn (by omega) (by omega) (by omega) (by omega)) H.size) (cwV 4 hts gL_law_X11_begin rfl rfl rfl (by decide +kernel) ⟨Nat.le_of_ble_eq_true rfl, Nat.le_of_ble_eq_true rfl⟩) (preV hP hD hE hS hA [0, 1, 2, 3, 4] rfl (by decide) (ci := 11) (q0 := 0) rfl rfl) rfl rfl hl.1 rfl (lv_room (Nat.le_of_ble_eq_true rfl)) dL_law_244 ⟨Nat.le_of_ble_eq_true rfl, Nat.le_of_ble_eq_true rfl⟩) hP hD hS hA [0, 1, 2, 3, 4] [5] rfl (wr := [(hout, .inl (k 1, 1, .inr (.inl (aL (upI aZ 0 xm)))))]) rfl (by decide) (by decide) (fun r244 u244 H locs hw hP hD hS => ?_)
  obtain ⟨xm2, u244_2, u244_3, u244_4, u244_5, u244_6⟩ := u244
  obtain ⟨hrw2, hLst2⟩ := hw
  obtain rfl : r244 = iI xm2 := hrw2
  change Lst xP xr xcv xn xm2 at hLst2
  have hP : va_P (dC, dI) vwCl [(hout, .inl (k 1, 1, .inr (.inl (aL (upI aZ 0 xm))))), (m0, .inr (11, [.ref mg, .long (lI 0), .ref mk, .long (lI 0), .int (iI 0), .ref mp, .ref mpu, .int (iI 1), .ref ms, .long (lI 0), .int (iI 0), .int (iI 0), .int (iI u244_2), .int (iI u244_3), .int (iI u244_4), .long (lI u244_5), .ref mpl, .int (iI u244_6), .ref mpd, .int (iI 0), .ref mtx, .int (iI 0), .int (iI 0), .int (iI (-1)), .int (iI (-1)), .int (iI 0), .ref mtd, .int (iI 0), .ref mrw, .ref mrl, .ref mir]))] H := hP
  have hD : va_D A [(hout, .inl (k 1, 1, .inr (.inl (aL (upI aZ 0 xm))))), (m0, .inr (11, [.ref mg, .long (lI 0), .ref mk, .long (lI 0), .int (iI 0), .ref mp, .ref mpu, .int (iI 1), .ref ms, .long (lI 0), .int (iI 0), .int (iI 0), .int (iI u244_2), .int (iI u244_3), .int (iI u244_4), .long (lI u244_5), .ref mpl, .int (iI u244_6), .ref mpd, .int (iI 0), .ref mtx, .int (iI 0), .int (iI 0), .int (iI (-1)), .int (iI (-1)), .int (iI 0), .ref mtd, .int (iI 0), .ref mrw, .ref mrl, .ref mir]))] := hD
  refine lv_istore (lv' := [(7, .int (iI xm2)), (6, .int (iI 0)), (5, .int (iI 0)), (4, .ref hoD), (3, .ref hout), (2, .ref m0), (1, .ref h0), (0, .ref bS)]) hx hb dL_law_247 hl (by decide) rfl (fun ls hl => ?_)
  refine lv_aload_n hx hb dL_law_249 rfl (lv_at hl 5 rfl) ?_
  refine ki (va_runV (As := []) (rest := []) hSF ((c_X11_thrown l dC dI k m0 (.ref mg) (.long (lI 0)) (.ref mk) (.long (lI 0)) (.int (iI 0)) (.ref mp) (.ref mpu) (.int (iI 1)) (.ref ms) (.long (lI 0)) (.int (iI 0)) 0 [.int (iI u244_2), .int (iI u244_3), .int (iI u244_4), .long (lI u244_5), .ref mpl, .int (iI u244_6), .ref mpd, .int (iI 0), .ref mtx, .int (iI 0), .int (iI 0), .int (iI (-1)), .int (iI (-1)), .int (iI 0), .ref mtd, .int (iI 0), .ref mrw, .ref mrl, .ref mir]) H.size) (cwV 0 hts gL_law_X11_thrown rfl rfl rfl (by decide +kernel) ⟨Nat.le_of_ble_eq_true rfl, Nat.le_of_ble_eq_true rfl⟩) (preV hP hD hE hS hA [1] rfl (by decide) (ci := 11) (q0 := 1) rfl rfl) rfl rfl hl.1 rfl (lv_room (Nat.le_of_ble_eq_true rfl)) dL_law_250 ⟨Nat.le_of_ble_eq_true rfl, Nat.le_of_ble_eq_true rfl⟩) hP hD hS hA [1] [0] rfl (wr := [(hout, .inl (k 1, 1, .inr (.inl (aL (upI aZ 0 xm)))))]) rfl (by decide) (by decide) (fun r250 _ H locs hw hP hD hS => ?_)
  obtain rfl : r250 = (iI 0) := hw
  have hP : va_P (dC, dI) vwCl [(hout, .inl (k 1, 1, .inr (.inl (aL (upI aZ 0 xm))))), (m0, .inr (11, [.ref mg, .long (lI 0), .ref mk, .long (lI 0), .int (iI 0), .ref mp, .ref mpu, .int (iI 1), .ref ms, .long (lI 0), .int (iI 0), .int (iI 0), .int (iI u244_2), .int (iI u244_3), .int (iI u244_4), .long (lI u244_5), .ref mpl, .int (iI u244_6), .ref mpd, .int (iI 0), .ref mtx, .int (iI 0), .int (iI 0), .int (iI (-1)), .int (iI (-1)), .int (iI 0), .ref mtd, .int (iI 0), .ref mrw, .ref mrl, .ref mir]))] H := hP
  have hD : va_D A [(hout, .inl (k 1, 1, .inr (.inl (aL (upI aZ 0 xm))))), (m0, .inr (11, [.ref mg, .long (lI 0), .ref mk, .long (lI 0), .int (iI 0), .ref mp, .ref mpu, .int (iI 1), .ref ms, .long (lI 0), .int (iI 0), .int (iI 0), .int (iI u244_2), .int (iI u244_3), .int (iI u244_4), .long (lI u244_5), .ref mpl, .int (iI u244_6), .ref mpd, .int (iI 0), .ref mtx, .int (iI 0), .int (iI 0), .int (iI (-1)), .int (iI (-1)), .int (iI 0), .ref mtd, .int (iI 0), .ref mrw, .ref mrl, .ref mir]))] := hD
  refine lv_iload hx hb dL_law_253 (lv_at hl 1 rfl) ?_
  refine q_icmp_eq (tgt := 260) hx hb dL_law_255 (by decide) (by omega) (fun _ => ?_) (fun q => absurd q (by omega))
  refine lv_iload hx hb dL_law_260 (lv_at hl 1 rfl) ?_
  refine q_if_ne (tgt := 277) hx hb dL_law_262 (by decide) (by omega) (fun q => absurd q (by omega)) (fun _ => ?_)
  refine lv_aload_n hx hb dL_law_265 rfl (lv_at hl 4 rfl) ?_
  refine q_iconst hx hb dL_law_266 ?_
  refine q_lald (z := xm) hx hb hK hP 0 1 rfl rfl (by omega) upI_s dL_law_267 ?_
  refine lv_iload hx hb dL_law_268 (lv_at hl 0 rfl) ?_
  have hlq := Lst_le hq9 hr9 hc9 hn9 hLst2
  have hlq1 := Lst_le hq9 hr9 hc9 hn9 hLst
  refine q_i2l hx hb dL_law_270 (by omega) ?_
  refine q_lcmp hx hb dL_law_271 ?_
  refine q_lif_eq (tgt := 277) hx hb dL_law_272 (by decide) (by omega) (fun _ => ?_) (fun q => absurd q (by have h9 := Lst_one hLst hLst2; omega))
  refine lv_goto (tgt := 1935) hx hb dL_law_277 (by decide) ?_
  exact law_end l hL5 C0 hAe hS (lv_sub hl [2, 7] rfl) (Nat.le_of_ble_eq_true rfl) (Nat.le_of_ble_eq_true rfl)
set_option maxHeartbeats 4000000 in
set_option maxRecDepth 100000 in
theorem law_0_x (l : Launch) (hl0 : l.stackTraces = false) (dC : Nat → ClassId) (dI : Nat → Nat → Nat) (k : Nat → ClassId) {p : Program} {e : Env} {s : State} {mI : MethodId} {below : List Frame} {meth : Method} {cO : Code} {bS L : Nat} {zs : Nat → Int32} (hL5 : L = 5) (C0 : lw_At p s mI meth cO bS L zs) (hE : En (dC, dI) k (va_A [] s.heap.size) s s.heap) (hout : Nat) (h0 hn g1 g2 hea g3 g4 g5 g6 g7 xa1 xa2 xa3 xa4 xa5 xa6 xa7 xa8 xa9 xa10 xa11 : Nat) (xP xr xcv xn : Int) (hv9 : -2147483648 ≤ xP ∧ xP ≤ 2147483647 ∧ -2147483648 ≤ xr ∧ xr ≤ 2147483647 ∧ -2147483648 ≤ xcv ∧ xcv ≤ 2147483647 ∧ -2147483648 ≤ xn ∧ xn ≤ 2147483647) (hv : ¬ ((1 ≤ xP ∧ xP ≤ 10000000) ∧ (0 ≤ xr ∧ xr ≤ 2000) ∧ (1 ≤ xn ∧ xn ≤ 60) ∧ 0 ≤ xcv ∧ xcv ≤ 2)) (m0 mg mk mp mpu ms mpl mpd mtx mtd mrw mrl mir hoD : Nat) (x1 : zs 1 = iI xP) (x2 : zs 2 = iI xr) (x3 : zs 3 = iI xn) (x4 : zs 4 = iI xcv) : ∀ (H : Heap) (locs : List Loc), va_P (dC, dI) vwCl [(h0, .inr (10, [.ref hn, .ref g1, .ref g2, .ref hea, .ref g3, .ref g4, .ref g5, .ref g6, .ref g7, .int (iI 0), .int (iI 0), .int (iI 0), .int (iI (-1)), .int (iI (-1)), .int (iI 0)])), (hout, .inl (k 1, 1, .inr (.inl (aL aZ)))), (m0, .inr (11, [.ref mg, .long (lI 0), .ref mk, .long (lI 0), .int (iI 0), .ref mp, .ref mpu, .int (iI 0), .ref ms, .long (lI 0), .int (iI 0), .int (iI 0), .int (iI 0), .int (iI 0), .int (iI 0), .long (lI 0), .ref mpl, .int (iI 0), .ref mpd, .int (iI 0), .ref mtx, .int (iI 0), .int (iI 0), .int (iI (-1)), .int (iI (-1)), .int (iI 0), .ref mtd, .int (iI 0), .ref mrw, .ref mrl, .ref mir]))] H → va_D (va_A [] s.heap.size) [(h0, .inr (10, [.ref hn, .ref g1, .ref g2, .ref hea, .ref g3, .ref g4, .ref g5, .ref g6, .ref g7, .int (iI 0), .int (iI 0), .int (iI 0), .int (iI (-1)), .int (iI (-1)), .int (iI 0)])), (hout, .inl (k 1, 1, .inr (.inl (aL aZ)))), (m0, .inr (11, [.ref mg, .long (lI 0), .ref mk, .long (lI 0), .int (iI 0), .ref mp, .ref mpu, .int (iI 0), .ref ms, .long (lI 0), .int (iI 0), .int (iI 0), .int (iI 0), .int (iI 0), .int (iI 0), .long (lI 0), .ref mpl, .int (iI 0), .ref mpd, .int (iI 0), .ref mtx, .int (iI 0), .int (iI 0), .int (iI (-1)), .int (iI (-1)), .int (iI 0), .ref mtd, .int (iI 0), .ref mrw, .ref mrl, .ref mir]))] → va_S (va_A [] s.heap.size) s.heap H locs → ∀ ls : Array Slot, lv_has ls 9 [(5, .int (iI 0)), (4, .ref hoD), (3, .ref hout), (2, .ref m0), (1, .ref h0), (0, .ref bS)] → W p l e room_1 s mI #[Value.ref bS] below meth cO H locs 173 27875 (lw_Z below #[Value.ref bS] s) (F0 mI 188 ls []) := by
  intro H locs hP hD hS ls hl
  obtain ⟨hx, hb, hr, hml, hown0, hts0, hX, hbl, hlocks, hgv⟩ := id C0
  have hts : ∀ w ∈ wsL_law, w.before #[Value.ref bS] s = true := fun w h => hts0 w (wsL_law_in w h)
  have hown : s.vm.findClass RL = some mI.cls := hown0
  generalize hAe : va_A [] s.heap.size = A at hE hD hS
  have hA : ∀ q : Nat, s.heap.size ≤ q → A q := fun q h => by rw [← hAe]; exact Or.inr h
  have hbA : ¬ A bS := fa_A hAe hbl
  obtain ⟨hK, hNw, hNc, hZs, hAO1, hAO2⟩ := id hE
  have hSF : CallFix p mI cO cL_law 9 s ([.ref bS] : List Value).toArray wsL_law RL := ⟨hx, hb, hml, hown, hts⟩
  refine lv_aload_n hx hb dL_law_188 rfl (lv_at hl 4 rfl) ?_
  refine lv_aload_n hx hb dL_law_189 rfl (lv_at hl 5 rfl) ?_
  refine lv_iload hx hb dL_law_190 (lv_at hl 0 rfl) ?_
  refine q_iconst hx hb dL_law_192 ?_
  refine q_iadd (z := 1) hx hb dL_law_193 (by omega) ?_
  refine va_sld hx hb hX hbl hbA hS (iI_in (by omega)) dL_law_194 ?_
  rw [show (iI 1).toNatClampNeg = 1 from by decide, x1]
  refine lv_aload_n hx hb dL_law_195 rfl (lv_at hl 5 rfl) ?_
  refine lv_iload hx hb dL_law_196 (lv_at hl 0 rfl) ?_
  refine q_iconst hx hb dL_law_198 ?_
  refine q_iadd (z := 2) hx hb dL_law_199 (by omega) ?_
  refine va_sld hx hb hX hbl hbA hS (iI_in (by omega)) dL_law_200 ?_
  rw [show (iI 2).toNatClampNeg = 2 from by decide, x2]
  refine lv_aload_n hx hb dL_law_201 rfl (lv_at hl 5 rfl) ?_
  refine lv_iload hx hb dL_law_202 (lv_at hl 0 rfl) ?_
  refine q_iconst hx hb dL_law_204 ?_
  refine q_iadd (z := 3) hx hb dL_law_205 (by omega) ?_
  refine va_sld hx hb hX hbl hbA hS (iI_in (by omega)) dL_law_206 ?_
  rw [show (iI 3).toNatClampNeg = 3 from by decide, x3]
  refine lv_aload_n hx hb dL_law_207 rfl (lv_at hl 5 rfl) ?_
  refine lv_iload hx hb dL_law_208 (lv_at hl 0 rfl) ?_
  refine q_iconst hx hb dL_law_210 ?_
  refine q_iadd (z := 4) hx hb dL_law_211 (by omega) ?_
  refine va_sld hx hb hX hbl hbA hS (iI_in (by omega)) dL_law_212 ?_
  rw [show (iI 4).toNatClampNeg = 4 from by decide, x4]
  refine lv_aload_n hx hb dL_law_213 rfl (lv_at hl 2 rfl) ?_
  refine ki (vx_runSW (As := [.ref h0, .int (iI xP), .int (iI xr), .int (iI xn), .int (iI xcv), .ref hout]) (rest := []) hSF ((c_L_begin_x l hl0 dC dI k hout h0 hn g1 g2 hea g3 g4 g5 g6 g7 0 0 0 0 0 0 0 0 0 0 0 xP xr xcv xn (by omega) (by omega)) H.size) (vx_cwSW 6 hts gL_law_L_begin rfl rfl rfl (by decide +kernel) ⟨Nat.le_of_ble_eq_true rfl, Nat.le_of_ble_eq_true rfl⟩) (preS hP hD hE hS hA [0, 1] rfl (by decide)) rfl rfl hl.1 rfl (lv_room (Nat.le_of_ble_eq_true rfl)) dL_law_214 ⟨Nat.le_of_ble_eq_true rfl, Nat.le_of_ble_eq_true rfl⟩) hP hD hS hA [0, 1] [2] rfl (wr := [(m0, .inr (11, [.ref mg, .long (lI 0), .ref mk, .long (lI 0), .int (iI 0), .ref mp, .ref mpu, .int (iI 0), .ref ms, .long (lI 0), .int (iI 0), .int (iI 0), .int (iI 0), .int (iI 0), .int (iI 0), .long (lI 0), .ref mpl, .int (iI 0), .ref mpd, .int (iI 0), .ref mtx, .int (iI 0), .int (iI 0), .int (iI (-1)), .int (iI (-1)), .int (iI 0), .ref mtd, .int (iI 0), .ref mrw, .ref mrl, .ref mir]))]) rfl (by decide) (by decide) (fun r214 _ H locs hw hP hD hS => ?_)
  obtain rfl : r214 = (iI 1) := hw
  have hP : va_P (dC, dI) vwCl [(m0, .inr (11, [.ref mg, .long (lI 0), .ref mk, .long (lI 0), .int (iI 0), .ref mp, .ref mpu, .int (iI 0), .ref ms, .long (lI 0), .int (iI 0), .int (iI 0), .int (iI 0), .int (iI 0), .int (iI 0), .long (lI 0), .ref mpl, .int (iI 0), .ref mpd, .int (iI 0), .ref mtx, .int (iI 0), .int (iI 0), .int (iI (-1)), .int (iI (-1)), .int (iI 0), .ref mtd, .int (iI 0), .ref mrw, .ref mrl, .ref mir]))] H := hP
  have hD : va_D A [(m0, .inr (11, [.ref mg, .long (lI 0), .ref mk, .long (lI 0), .int (iI 0), .ref mp, .ref mpu, .int (iI 0), .ref ms, .long (lI 0), .int (iI 0), .int (iI 0), .int (iI 0), .int (iI 0), .int (iI 0), .long (lI 0), .ref mpl, .int (iI 0), .ref mpd, .int (iI 0), .ref mtx, .int (iI 0), .int (iI 0), .int (iI (-1)), .int (iI (-1)), .int (iI 0), .ref mtd, .int (iI 0), .ref mrw, .ref mrl, .ref mir]))] := hD
  refine lv_istore (lv' := [(6, .int (iI 1)), (5, .int (iI 0)), (4, .ref hoD), (3, .ref hout), (2, .ref m0), (1, .ref h0), (0, .ref bS)]) hx hb dL_law_217 hl (by decide) rfl (fun ls hl => ?_)
  refine lv_aload_n hx hb dL_law_219 rfl (lv_at hl 4 rfl) ?_
  refine lv_aload_n hx hb dL_law_220 rfl (lv_at hl 6 rfl) ?_
  refine lv_iload hx hb dL_law_221 (lv_at hl 1 rfl) ?_
  refine q_iconst hx hb dL_law_223 ?_
  refine q_iadd (z := 1) hx hb dL_law_224 (by omega) ?_
  refine va_sld hx hb hX hbl hbA hS (iI_in (by omega)) dL_law_225 ?_
  rw [show (iI 1).toNatClampNeg = 1 from by decide, x1]
  refine lv_aload_n hx hb dL_law_226 rfl (lv_at hl 6 rfl) ?_
  refine lv_iload hx hb dL_law_227 (lv_at hl 1 rfl) ?_
  refine q_iconst hx hb dL_law_229 ?_
  refine q_iadd (z := 2) hx hb dL_law_230 (by omega) ?_
  refine va_sld hx hb hX hbl hbA hS (iI_in (by omega)) dL_law_231 ?_
  rw [show (iI 2).toNatClampNeg = 2 from by decide, x2]
  refine lv_aload_n hx hb dL_law_232 rfl (lv_at hl 6 rfl) ?_
  refine lv_iload hx hb dL_law_233 (lv_at hl 1 rfl) ?_
  refine q_iconst hx hb dL_law_235 ?_
  refine q_iadd (z := 3) hx hb dL_law_236 (by omega) ?_
  refine va_sld hx hb hX hbl hbA hS (iI_in (by omega)) dL_law_237 ?_
  rw [show (iI 3).toNatClampNeg = 3 from by decide, x3]
  refine lv_aload_n hx hb dL_law_238 rfl (lv_at hl 6 rfl) ?_
  refine lv_iload hx hb dL_law_239 (lv_at hl 1 rfl) ?_
  refine q_iconst hx hb dL_law_241 ?_
  refine q_iadd (z := 4) hx hb dL_law_242 (by omega) ?_
  refine va_sld hx hb hX hbl hbA hS (iI_in (by omega)) dL_law_243 ?_
  rw [show (iI 4).toNatClampNeg = 4 from by decide, x4]
  refine ki (va_runV (As := [.int (iI xP), .int (iI xr), .int (iI xn), .int (iI xcv)]) (rest := []) hSF ((c_X11_begin_x l dC dI k m0 mg mk mp mpu ms mpl mpd mtx mtd mrw mrl mir xP xr xcv xn (by omega) (by omega)) H.size) (cwV 4 hts gL_law_X11_begin rfl rfl rfl (by decide +kernel) ⟨Nat.le_of_ble_eq_true rfl, Nat.le_of_ble_eq_true rfl⟩) (preV hP hD hE hS hA [0] rfl (by decide) (ci := 11) (q0 := 0) rfl rfl) rfl rfl hl.1 rfl (lv_room (Nat.le_of_ble_eq_true rfl)) dL_law_244 ⟨Nat.le_of_ble_eq_true rfl, Nat.le_of_ble_eq_true rfl⟩) hP hD hS hA [0] [] rfl (wr := []) rfl (by decide) (by decide) (fun r244 _ H locs hw hP hD hS => ?_)
  obtain rfl : r244 = (iI 0) := hw
  have hP : va_P (dC, dI) vwCl [(m0, .inr (11, [.ref mg, .long (lI 0), .ref mk, .long (lI 0), .int (iI 0), .ref mp, .ref mpu, .int (iI 0), .ref ms, .long (lI 0), .int (iI 0), .int (iI 1), .int (iI 0), .int (iI 0), .int (iI 0), .long (lI 0), .ref mpl, .int (iI 0), .ref mpd, .int (iI 0), .ref mtx, .int (iI 0), .int (iI 0), .int (iI (-1)), .int (iI (-1)), .int (iI 0), .ref mtd, .int (iI 0), .ref mrw, .ref mrl, .ref mir]))] H := hP
  have hD : va_D A [(m0, .inr (11, [.ref mg, .long (lI 0), .ref mk, .long (lI 0), .int (iI 0), .ref mp, .ref mpu, .int (iI 0), .ref ms, .long (lI 0), .int (iI 0), .int (iI 1), .int (iI 0), .int (iI 0), .int (iI 0), .long (lI 0), .ref mpl, .int (iI 0), .ref mpd, .int (iI 0), .ref mtx, .int (iI 0), .int (iI 0), .int (iI (-1)), .int (iI (-1)), .int (iI 0), .ref mtd, .int (iI 0), .ref mrw, .ref mrl, .ref mir]))] := hD
  refine lv_istore (lv' := [(7, .int (iI 0)), (6, .int (iI 1)), (5, .int (iI 0)), (4, .ref hoD), (3, .ref hout), (2, .ref m0), (1, .ref h0), (0, .ref bS)]) hx hb dL_law_247 hl (by decide) rfl (fun ls hl => ?_)
  refine lv_aload_n hx hb dL_law_249 rfl (lv_at hl 5 rfl) ?_
  refine ki (va_runV (As := []) (rest := []) hSF ((c_X11_thrown l dC dI k m0 (.ref mg) (.long (lI 0)) (.ref mk) (.long (lI 0)) (.int (iI 0)) (.ref mp) (.ref mpu) (.int (iI 0)) (.ref ms) (.long (lI 0)) (.int (iI 0)) 1 [.int (iI 0), .int (iI 0), .int (iI 0), .long (lI 0), .ref mpl, .int (iI 0), .ref mpd, .int (iI 0), .ref mtx, .int (iI 0), .int (iI 0), .int (iI (-1)), .int (iI (-1)), .int (iI 0), .ref mtd, .int (iI 0), .ref mrw, .ref mrl, .ref mir]) H.size) (cwV 0 hts gL_law_X11_thrown rfl rfl rfl (by decide +kernel) ⟨Nat.le_of_ble_eq_true rfl, Nat.le_of_ble_eq_true rfl⟩) (preV hP hD hE hS hA [0] rfl (by decide) (ci := 11) (q0 := 0) rfl rfl) rfl rfl hl.1 rfl (lv_room (Nat.le_of_ble_eq_true rfl)) dL_law_250 ⟨Nat.le_of_ble_eq_true rfl, Nat.le_of_ble_eq_true rfl⟩) hP hD hS hA [0] [] rfl (wr := []) rfl (by decide) (by decide) (fun r250 _ H locs hw hP hD hS => ?_)
  obtain rfl : r250 = (iI 1) := hw
  have hP : va_P (dC, dI) vwCl [(m0, .inr (11, [.ref mg, .long (lI 0), .ref mk, .long (lI 0), .int (iI 0), .ref mp, .ref mpu, .int (iI 0), .ref ms, .long (lI 0), .int (iI 0), .int (iI 1), .int (iI 0), .int (iI 0), .int (iI 0), .long (lI 0), .ref mpl, .int (iI 0), .ref mpd, .int (iI 0), .ref mtx, .int (iI 0), .int (iI 0), .int (iI (-1)), .int (iI (-1)), .int (iI 0), .ref mtd, .int (iI 0), .ref mrw, .ref mrl, .ref mir]))] H := hP
  have hD : va_D A [(m0, .inr (11, [.ref mg, .long (lI 0), .ref mk, .long (lI 0), .int (iI 0), .ref mp, .ref mpu, .int (iI 0), .ref ms, .long (lI 0), .int (iI 0), .int (iI 1), .int (iI 0), .int (iI 0), .int (iI 0), .long (lI 0), .ref mpl, .int (iI 0), .ref mpd, .int (iI 0), .ref mtx, .int (iI 0), .int (iI 0), .int (iI (-1)), .int (iI (-1)), .int (iI 0), .ref mtd, .int (iI 0), .ref mrw, .ref mrl, .ref mir]))] := hD
  refine lv_iload hx hb dL_law_253 (lv_at hl 1 rfl) ?_
  refine q_icmp_eq (tgt := 260) hx hb dL_law_255 (by decide) (by omega) (fun _ => ?_) (fun q => absurd q (by omega))
  refine lv_iload hx hb dL_law_260 (lv_at hl 1 rfl) ?_
  refine q_if_ne (tgt := 277) hx hb dL_law_262 (by decide) (by omega) (fun _ => ?_) (fun q => absurd q (by omega))
  refine lv_goto (tgt := 1935) hx hb dL_law_277 (by decide) ?_
  exact law_end l hL5 C0 hAe hS (lv_sub hl [2, 7] rfl) (Nat.le_of_ble_eq_true rfl) (Nat.le_of_ble_eq_true rfl)
set_option maxHeartbeats 4000000 in
set_option maxRecDepth 100000 in
theorem law_1_ok (l : Launch) (dC : Nat → ClassId) (dI : Nat → Nat → Nat) (k : Nat → ClassId) {p : Program} {e : Env} {s : State} {mI : MethodId} {below : List Frame} {meth : Method} {cO : Code} {bS L : Nat} {zs : Nat → Int32} (hL5 : L = 5) (C0 : lw_At p s mI meth cO bS L zs) (hE : En (dC, dI) k (va_A [] s.heap.size) s s.heap) (hout : Nat) (h0 hn g1 g2 hea g3 g4 g5 g6 g7 xa1 xa2 xa3 xa4 xa5 xa6 xa7 xa8 xa9 xa10 xa11 he0 ya1 ya2 ya3 ya4 ya5 ya6 ya7 ya8 ya9 ya10 ya11 xk xw : Nat) (xeF : Nat → Option Nat) (xv : Int) (hea0 : xeF 0 = some he0) (hv9 : -2147483648 ≤ xv ∧ xv ≤ 2147483647) (hv : 1 ≤ xv ∧ xv ≤ 1000) (m0 mg mk mp mpu ms mpl mpd mtx mtd mrw mrl mir hoD : Nat) (x1 : zs 1 = iI xv) : ∀ (H : Heap) (locs : List Loc), va_P (dC, dI) vwCl [(h0, .inr (10, [.ref hn, .ref g1, .ref g2, .ref hea, .ref g3, .ref g4, .ref g5, .ref g6, .ref g7, .int (iI 0), .int (iI 0), .int (iI 0), .int (iI (-1)), .int (iI (-1)), .int (iI 0)])), (hn, .inr (2, [.ref xa1, .ref xa2, .ref xa3, .ref xa5, .ref xa8, .int (iI 0), .int (iI 0), .int (iI 0)])), (xa1, .inl (k 0, 5, .inl (aI (upI (upI (upI (upI (upI aZ 0 0) 1 0) 2 10) 3 500) 4 0)))), (xa2, .inl (k 0, 5, .inl (aI aZ))), (xa3, .inr (7, [.int (iI 0), .int (iI 0), .int (iI 0), .long (lI 0), .int (iI 0), .int (iI 0), .int (iI 0), .long (lI 0), .long (lI 0), .long (lI 0), .long (lI 0), .long (lI 0), .int (iI 0), .int (iI 0), .int (iI 0), .int (iI 0), .ref xa4])), (xa4, .inl (k 1, 8, .inr (.inl (aL aZ)))), (xa5, .inr (3, [.ref xa6, .ref xa7, .int (iI 0), .int (iI 0), .int (iI 0)])), (xa6, .inl (k 1, 264, .inr (.inl (aL aZ)))), (xa7, .inl (k 0, 264, .inl (aI aZ))), (xa8, .inr (6, [.ref xa9, .ref xa10, .ref xa11, .int (iI 0), .int (iI 0)])), (xa9, .inl (k 0, 60, .inl (aI aZ))), (xa10, .inl (k 0, 60, .inl (aI aZ))), (xa11, .inl (k 1, 60, .inr (.inl (aL aZ)))), (hea, .inl (k 6, 8, .inr (.inr (.inr (.inr xeF))))), (he0, .inr (2, [.ref ya1, .ref ya2, .ref ya3, .ref ya5, .ref ya8, .int (iI 0), .int (iI 0), .int (iI 0)])), (ya1, .inl (k 0, 5, .inl (aI (upI (upI (upI (upI (upI aZ 0 0) 1 0) 2 10) 3 500) 4 0)))), (ya2, .inl (k 0, 5, .inl (aI aZ))), (ya3, .inr (7, [.int (iI 0), .int (iI 0), .int (iI 0), .long (lI 0), .int (iI 0), .int (iI 0), .int (iI 0), .long (lI 0), .long (lI 0), .long (lI 0), .long (lI 0), .long (lI 0), .int (iI 0), .int (iI 0), .int (iI 0), .int (iI 0), .ref ya4])), (ya4, .inl (k 1, 8, .inr (.inl (aL aZ)))), (ya5, .inr (3, [.ref ya6, .ref ya7, .int (iI 0), .int (iI 0), .int (iI 0)])), (ya6, .inl (k 1, 264, .inr (.inl (aL aZ)))), (ya7, .inl (k 0, 264, .inl (aI aZ))), (ya8, .inr (6, [.ref ya9, .ref ya10, .ref ya11, .int (iI 0), .int (iI 0)])), (ya9, .inl (k 0, 60, .inl (aI aZ))), (ya10, .inl (k 0, 60, .inl (aI aZ))), (ya11, .inl (k 1, 60, .inr (.inl (aL aZ)))), (g3, .inr (4, [.ref xk, .ref xw])), (xk, .inl (k 0, 512, .inl (aI aZ))), (xw, .inl (k 0, 512, .inl (aI aZ))), (hout, .inl (k 1, 1, .inr (.inl (aL aZ)))), (m0, .inr (11, [.ref mg, .long (lI 0), .ref mk, .long (lI 0), .int (iI 0), .ref mp, .ref mpu, .int (iI 0), .ref ms, .long (lI 0), .int (iI 0), .int (iI 0), .int (iI 0), .int (iI 0), .int (iI 0), .long (lI 0), .ref mpl, .int (iI 0), .ref mpd, .int (iI 0), .ref mtx, .int (iI 0), .int (iI 0), .int (iI (-1)), .int (iI (-1)), .int (iI 0), .ref mtd, .int (iI 0), .ref mrw, .ref mrl, .ref mir])), (mg, .inl (k 0, 1460, .inl (aI g0F))), (mp, .inl (k 0, 11680, .inl (aI aZ))), (mpu, .inl (k 1, 8, .inr (.inl (aL aZ))))] H → va_D (va_A [] s.heap.size) [(h0, .inr (10, [.ref hn, .ref g1, .ref g2, .ref hea, .ref g3, .ref g4, .ref g5, .ref g6, .ref g7, .int (iI 0), .int (iI 0), .int (iI 0), .int (iI (-1)), .int (iI (-1)), .int (iI 0)])), (hn, .inr (2, [.ref xa1, .ref xa2, .ref xa3, .ref xa5, .ref xa8, .int (iI 0), .int (iI 0), .int (iI 0)])), (xa1, .inl (k 0, 5, .inl (aI (upI (upI (upI (upI (upI aZ 0 0) 1 0) 2 10) 3 500) 4 0)))), (xa2, .inl (k 0, 5, .inl (aI aZ))), (xa3, .inr (7, [.int (iI 0), .int (iI 0), .int (iI 0), .long (lI 0), .int (iI 0), .int (iI 0), .int (iI 0), .long (lI 0), .long (lI 0), .long (lI 0), .long (lI 0), .long (lI 0), .int (iI 0), .int (iI 0), .int (iI 0), .int (iI 0), .ref xa4])), (xa4, .inl (k 1, 8, .inr (.inl (aL aZ)))), (xa5, .inr (3, [.ref xa6, .ref xa7, .int (iI 0), .int (iI 0), .int (iI 0)])), (xa6, .inl (k 1, 264, .inr (.inl (aL aZ)))), (xa7, .inl (k 0, 264, .inl (aI aZ))), (xa8, .inr (6, [.ref xa9, .ref xa10, .ref xa11, .int (iI 0), .int (iI 0)])), (xa9, .inl (k 0, 60, .inl (aI aZ))), (xa10, .inl (k 0, 60, .inl (aI aZ))), (xa11, .inl (k 1, 60, .inr (.inl (aL aZ)))), (hea, .inl (k 6, 8, .inr (.inr (.inr (.inr xeF))))), (he0, .inr (2, [.ref ya1, .ref ya2, .ref ya3, .ref ya5, .ref ya8, .int (iI 0), .int (iI 0), .int (iI 0)])), (ya1, .inl (k 0, 5, .inl (aI (upI (upI (upI (upI (upI aZ 0 0) 1 0) 2 10) 3 500) 4 0)))), (ya2, .inl (k 0, 5, .inl (aI aZ))), (ya3, .inr (7, [.int (iI 0), .int (iI 0), .int (iI 0), .long (lI 0), .int (iI 0), .int (iI 0), .int (iI 0), .long (lI 0), .long (lI 0), .long (lI 0), .long (lI 0), .long (lI 0), .int (iI 0), .int (iI 0), .int (iI 0), .int (iI 0), .ref ya4])), (ya4, .inl (k 1, 8, .inr (.inl (aL aZ)))), (ya5, .inr (3, [.ref ya6, .ref ya7, .int (iI 0), .int (iI 0), .int (iI 0)])), (ya6, .inl (k 1, 264, .inr (.inl (aL aZ)))), (ya7, .inl (k 0, 264, .inl (aI aZ))), (ya8, .inr (6, [.ref ya9, .ref ya10, .ref ya11, .int (iI 0), .int (iI 0)])), (ya9, .inl (k 0, 60, .inl (aI aZ))), (ya10, .inl (k 0, 60, .inl (aI aZ))), (ya11, .inl (k 1, 60, .inr (.inl (aL aZ)))), (g3, .inr (4, [.ref xk, .ref xw])), (xk, .inl (k 0, 512, .inl (aI aZ))), (xw, .inl (k 0, 512, .inl (aI aZ))), (hout, .inl (k 1, 1, .inr (.inl (aL aZ)))), (m0, .inr (11, [.ref mg, .long (lI 0), .ref mk, .long (lI 0), .int (iI 0), .ref mp, .ref mpu, .int (iI 0), .ref ms, .long (lI 0), .int (iI 0), .int (iI 0), .int (iI 0), .int (iI 0), .int (iI 0), .long (lI 0), .ref mpl, .int (iI 0), .ref mpd, .int (iI 0), .ref mtx, .int (iI 0), .int (iI 0), .int (iI (-1)), .int (iI (-1)), .int (iI 0), .ref mtd, .int (iI 0), .ref mrw, .ref mrl, .ref mir])), (mg, .inl (k 0, 1460, .inl (aI g0F))), (mp, .inl (k 0, 11680, .inl (aI aZ))), (mpu, .inl (k 1, 8, .inr (.inl (aL aZ))))] → va_S (va_A [] s.heap.size) s.heap H locs → ∀ ls : Array Slot, lv_has ls 9 [(5, .int (iI 0)), (4, .ref hoD), (3, .ref hout), (2, .ref m0), (1, .ref h0), (0, .ref bS)] → W p l e room_1 s mI #[Value.ref bS] below meth cO H locs 173 27875 (lw_Z below #[Value.ref bS] s) (F0 mI 280 ls []) := by
  intro H locs hP hD hS ls hl
  obtain ⟨hx, hb, hr, hml, hown0, hts0, hX, hbl, hlocks, hgv⟩ := id C0
  have hts : ∀ w ∈ wsL_law, w.before #[Value.ref bS] s = true := fun w h => hts0 w (wsL_law_in w h)
  have hown : s.vm.findClass RL = some mI.cls := hown0
  generalize hAe : va_A [] s.heap.size = A at hE hD hS
  have hA : ∀ q : Nat, s.heap.size ≤ q → A q := fun q h => by rw [← hAe]; exact Or.inr h
  have hbA : ¬ A bS := fa_A hAe hbl
  obtain ⟨hK, hNw, hNc, hZs, hAO1, hAO2⟩ := id hE
  have hSF : CallFix p mI cO cL_law 9 s ([.ref bS] : List Value).toArray wsL_law RL := ⟨hx, hb, hml, hown, hts⟩
  refine lv_aload_n hx hb dL_law_280 rfl (lv_at hl 4 rfl) ?_
  refine lv_aload_n hx hb dL_law_281 rfl (lv_at hl 5 rfl) ?_
  refine lv_iload hx hb dL_law_282 (lv_at hl 0 rfl) ?_
  refine q_iconst hx hb dL_law_284 ?_
  refine q_iadd (z := 1) hx hb dL_law_285 (by omega) ?_
  refine va_sld hx hb hX hbl hbA hS (iI_in (by omega)) dL_law_286 ?_
  rw [show (iI 1).toNatClampNeg = 1 from by decide, x1]
  refine lv_aload_n hx hb dL_law_287 rfl (lv_at hl 2 rfl) ?_
  refine ki (vx_runSW (As := [.ref h0, .int (iI xv), .ref hout]) (rest := []) hSF ((c_L_pass_ok l dC dI k hout h0 hn g1 g2 hea g3 g4 g5 g6 g7 xa1 xa2 xa3 xa4 xa5 xa6 xa7 xa8 xa9 xa10 xa11 he0 ya1 ya2 ya3 ya4 ya5 ya6 ya7 ya8 ya9 ya10 ya11 xk xw xeF xv hea0 (by omega) (by omega)) H.size) (vx_cwSW 3 hts gL_law_L_pass rfl rfl rfl (by decide +kernel) ⟨Nat.le_of_ble_eq_true rfl, Nat.le_of_ble_eq_true rfl⟩) (preS hP hD hE hS hA [0, 1, 2, 3, 4, 5, 6, 7, 8, 9, 10, 11, 12, 13, 14, 15, 16, 17, 18, 19, 20, 21, 22, 23, 24, 25, 26, 27, 28, 29] rfl (by decide)) rfl rfl hl.1 rfl (lv_room (Nat.le_of_ble_eq_true rfl)) dL_law_288 ⟨Nat.le_of_ble_eq_true rfl, Nat.le_of_ble_eq_true rfl⟩) hP hD hS hA [0, 1, 2, 3, 4, 5, 6, 7, 8, 9, 10, 11, 12, 13, 14, 15, 16, 17, 18, 19, 20, 21, 22, 23, 24, 25, 26, 27, 28, 29] [30, 31, 32, 33] rfl (wr := [(m0, .inr (11, [.ref mg, .long (lI 0), .ref mk, .long (lI 0), .int (iI 0), .ref mp, .ref mpu, .int (iI 0), .ref ms, .long (lI 0), .int (iI 0), .int (iI 0), .int (iI 0), .int (iI 0), .int (iI 0), .long (lI 0), .ref mpl, .int (iI 0), .ref mpd, .int (iI 0), .ref mtx, .int (iI 0), .int (iI 0), .int (iI (-1)), .int (iI (-1)), .int (iI 0), .ref mtd, .int (iI 0), .ref mrw, .ref mrl, .ref mir])), (mg, .inl (k 0, 1460, .inl (aI g0F))), (mp, .inl (k 0, 11680, .inl (aI aZ))), (mpu, .inl (k 1, 8, .inr (.inl (aL aZ))))]) rfl (by decide) (by decide) (fun r288 _ H locs hw hP hD hS => ?_)
  obtain rfl : r288 = (iI 0) := hw
  have hP : va_P (dC, dI) vwCl [(m0, .inr (11, [.ref mg, .long (lI 0), .ref mk, .long (lI 0), .int (iI 0), .ref mp, .ref mpu, .int (iI 0), .ref ms, .long (lI 0), .int (iI 0), .int (iI 0), .int (iI 0), .int (iI 0), .int (iI 0), .long (lI 0), .ref mpl, .int (iI 0), .ref mpd, .int (iI 0), .ref mtx, .int (iI 0), .int (iI 0), .int (iI (-1)), .int (iI (-1)), .int (iI 0), .ref mtd, .int (iI 0), .ref mrw, .ref mrl, .ref mir])), (mg, .inl (k 0, 1460, .inl (aI g0F))), (mp, .inl (k 0, 11680, .inl (aI aZ))), (mpu, .inl (k 1, 8, .inr (.inl (aL aZ)))), (hout, .inl (k 1, 1, .inr (.inl (aL (upI aZ 0 0)))))] H := hP
  have hD : va_D A [(m0, .inr (11, [.ref mg, .long (lI 0), .ref mk, .long (lI 0), .int (iI 0), .ref mp, .ref mpu, .int (iI 0), .ref ms, .long (lI 0), .int (iI 0), .int (iI 0), .int (iI 0), .int (iI 0), .int (iI 0), .long (lI 0), .ref mpl, .int (iI 0), .ref mpd, .int (iI 0), .ref mtx, .int (iI 0), .int (iI 0), .int (iI (-1)), .int (iI (-1)), .int (iI 0), .ref mtd, .int (iI 0), .ref mrw, .ref mrl, .ref mir])), (mg, .inl (k 0, 1460, .inl (aI g0F))), (mp, .inl (k 0, 11680, .inl (aI aZ))), (mpu, .inl (k 1, 8, .inr (.inl (aL aZ)))), (hout, .inl (k 1, 1, .inr (.inl (aL (upI aZ 0 0)))))] := hD
  refine lv_istore (lv' := [(6, .int (iI 0)), (5, .int (iI 0)), (4, .ref hoD), (3, .ref hout), (2, .ref m0), (1, .ref h0), (0, .ref bS)]) hx hb dL_law_291 hl (by decide) rfl (fun ls hl => ?_)
  refine lv_aload_n hx hb dL_law_293 rfl (lv_at hl 4 rfl) ?_
  refine lv_aload_n hx hb dL_law_294 rfl (lv_at hl 6 rfl) ?_
  refine lv_iload hx hb dL_law_295 (lv_at hl 1 rfl) ?_
  refine q_iconst hx hb dL_law_297 ?_
  refine q_iadd (z := 1) hx hb dL_law_298 (by omega) ?_
  refine va_sld hx hb hX hbl hbA hS (iI_in (by omega)) dL_law_299 ?_
  rw [show (iI 1).toNatClampNeg = 1 from by decide, x1]
  refine ki (va_runV (As := [.int (iI xv)]) (rest := []) hSF ((c_X11_pass_ok l dC dI k m0 mg mk mp mpu ms mpl mpd mtx mtd mrw mrl mir xv (by omega)) H.size) (cwV 1 hts gL_law_X11_pass rfl rfl rfl (by decide +kernel) ⟨Nat.le_of_ble_eq_true rfl, Nat.le_of_ble_eq_true rfl⟩) (preV hP hD hE hS hA [0, 1, 2, 3] rfl (by decide) (ci := 11) (q0 := 0) rfl rfl) rfl rfl hl.1 rfl (lv_room (Nat.le_of_ble_eq_true rfl)) dL_law_300 ⟨Nat.le_of_ble_eq_true rfl, Nat.le_of_ble_eq_true rfl⟩) hP hD hS hA [0, 1, 2, 3] [4] rfl (wr := [(hout, .inl (k 1, 1, .inr (.inl (aL (upI aZ 0 0)))))]) rfl (by decide) (by decide) (fun r300 _ H locs hw hP hD hS => ?_)
  obtain rfl : r300 = (iI 0) := hw
  have hP : va_P (dC, dI) vwCl [(hout, .inl (k 1, 1, .inr (.inl (aL (upI aZ 0 0))))), (m0, .inr (11, [.ref mg, .long (lI 0), .ref mk, .long (lI 0), .int (iI 0), .ref mp, .ref mpu, .int (iI 1), .ref ms, .long (lI 0), .int (iI 0), .int (iI 0), .int (iI 0), .int (iI 0), .int (iI 0), .long (lI 0), .ref mpl, .int (iI 0), .ref mpd, .int (iI 0), .ref mtx, .int (iI 0), .int (iI 0), .int (iI (-1)), .int (iI (-1)), .int (iI 0), .ref mtd, .int (iI 0), .ref mrw, .ref mrl, .ref mir]))] H := hP
  have hD : va_D A [(hout, .inl (k 1, 1, .inr (.inl (aL (upI aZ 0 0))))), (m0, .inr (11, [.ref mg, .long (lI 0), .ref mk, .long (lI 0), .int (iI 0), .ref mp, .ref mpu, .int (iI 1), .ref ms, .long (lI 0), .int (iI 0), .int (iI 0), .int (iI 0), .int (iI 0), .int (iI 0), .long (lI 0), .ref mpl, .int (iI 0), .ref mpd, .int (iI 0), .ref mtx, .int (iI 0), .int (iI 0), .int (iI (-1)), .int (iI (-1)), .int (iI 0), .ref mtd, .int (iI 0), .ref mrw, .ref mrl, .ref mir]))] := hD
  refine lv_istore (lv' := [(7, .int (iI 0)), (6, .int (iI 0)), (5, .int (iI 0)), (4, .ref hoD), (3, .ref hout), (2, .ref m0), (1, .ref h0), (0, .ref bS)]) hx hb dL_law_303 hl (by decide) rfl (fun ls hl => ?_)
  refine lv_aload_n hx hb dL_law_305 rfl (lv_at hl 5 rfl) ?_
  refine ki (va_runV (As := []) (rest := []) hSF ((c_X11_thrown l dC dI k m0 (.ref mg) (.long (lI 0)) (.ref mk) (.long (lI 0)) (.int (iI 0)) (.ref mp) (.ref mpu) (.int (iI 1)) (.ref ms) (.long (lI 0)) (.int (iI 0)) 0 [.int (iI 0), .int (iI 0), .int (iI 0), .long (lI 0), .ref mpl, .int (iI 0), .ref mpd, .int (iI 0), .ref mtx, .int (iI 0), .int (iI 0), .int (iI (-1)), .int (iI (-1)), .int (iI 0), .ref mtd, .int (iI 0), .ref mrw, .ref mrl, .ref mir]) H.size) (cwV 0 hts gL_law_X11_thrown rfl rfl rfl (by decide +kernel) ⟨Nat.le_of_ble_eq_true rfl, Nat.le_of_ble_eq_true rfl⟩) (preV hP hD hE hS hA [1] rfl (by decide) (ci := 11) (q0 := 1) rfl rfl) rfl rfl hl.1 rfl (lv_room (Nat.le_of_ble_eq_true rfl)) dL_law_306 ⟨Nat.le_of_ble_eq_true rfl, Nat.le_of_ble_eq_true rfl⟩) hP hD hS hA [1] [0] rfl (wr := [(hout, .inl (k 1, 1, .inr (.inl (aL (upI aZ 0 0)))))]) rfl (by decide) (by decide) (fun r306 _ H locs hw hP hD hS => ?_)
  obtain rfl : r306 = (iI 0) := hw
  have hP : va_P (dC, dI) vwCl [(hout, .inl (k 1, 1, .inr (.inl (aL (upI aZ 0 0))))), (m0, .inr (11, [.ref mg, .long (lI 0), .ref mk, .long (lI 0), .int (iI 0), .ref mp, .ref mpu, .int (iI 1), .ref ms, .long (lI 0), .int (iI 0), .int (iI 0), .int (iI 0), .int (iI 0), .int (iI 0), .long (lI 0), .ref mpl, .int (iI 0), .ref mpd, .int (iI 0), .ref mtx, .int (iI 0), .int (iI 0), .int (iI (-1)), .int (iI (-1)), .int (iI 0), .ref mtd, .int (iI 0), .ref mrw, .ref mrl, .ref mir]))] H := hP
  have hD : va_D A [(hout, .inl (k 1, 1, .inr (.inl (aL (upI aZ 0 0))))), (m0, .inr (11, [.ref mg, .long (lI 0), .ref mk, .long (lI 0), .int (iI 0), .ref mp, .ref mpu, .int (iI 1), .ref ms, .long (lI 0), .int (iI 0), .int (iI 0), .int (iI 0), .int (iI 0), .int (iI 0), .long (lI 0), .ref mpl, .int (iI 0), .ref mpd, .int (iI 0), .ref mtx, .int (iI 0), .int (iI 0), .int (iI (-1)), .int (iI (-1)), .int (iI 0), .ref mtd, .int (iI 0), .ref mrw, .ref mrl, .ref mir]))] := hD
  refine lv_iload hx hb dL_law_309 (lv_at hl 1 rfl) ?_
  refine q_icmp_eq (tgt := 316) hx hb dL_law_311 (by decide) (by omega) (fun _ => ?_) (fun q => absurd q (by omega))
  refine lv_iload hx hb dL_law_316 (lv_at hl 1 rfl) ?_
  refine q_if_ne (tgt := 333) hx hb dL_law_318 (by decide) (by omega) (fun q => absurd q (by omega)) (fun _ => ?_)
  refine lv_aload_n hx hb dL_law_321 rfl (lv_at hl 4 rfl) ?_
  refine q_iconst hx hb dL_law_322 ?_
  refine q_lald (z := 0) hx hb hK hP 0 1 rfl rfl (by omega) upI_s dL_law_323 ?_
  refine lv_iload hx hb dL_law_324 (lv_at hl 0 rfl) ?_
  refine q_i2l hx hb dL_law_326 (by omega) ?_
  refine q_lcmp hx hb dL_law_327 ?_
  refine q_lif_eq (tgt := 333) hx hb dL_law_328 (by decide) (by omega) (fun _ => ?_) (fun q => absurd q (by omega))
  refine lv_goto (tgt := 1935) hx hb dL_law_333 (by decide) ?_
  exact law_end l hL5 C0 hAe hS (lv_sub hl [2, 7] rfl) (Nat.le_of_ble_eq_true rfl) (Nat.le_of_ble_eq_true rfl)
set_option maxHeartbeats 4000000 in
set_option maxRecDepth 100000 in
theorem law_1_x (l : Launch) (hl0 : l.stackTraces = false) (dC : Nat → ClassId) (dI : Nat → Nat → Nat) (k : Nat → ClassId) {p : Program} {e : Env} {s : State} {mI : MethodId} {below : List Frame} {meth : Method} {cO : Code} {bS L : Nat} {zs : Nat → Int32} (hL5 : L = 5) (C0 : lw_At p s mI meth cO bS L zs) (hE : En (dC, dI) k (va_A [] s.heap.size) s s.heap) (hout : Nat) (h0 hn g1 g2 hea g3 g4 g5 g6 g7 xa1 xa2 xa3 xa4 xa5 xa6 xa7 xa8 xa9 xa10 xa11 : Nat) (xv : Int) (hv9 : -2147483648 ≤ xv ∧ xv ≤ 2147483647) (hv : ¬ (1 ≤ xv ∧ xv ≤ 1000)) (m0 mg mk mp mpu ms mpl mpd mtx mtd mrw mrl mir hoD : Nat) (x1 : zs 1 = iI xv) : ∀ (H : Heap) (locs : List Loc), va_P (dC, dI) vwCl [(h0, .inr (10, [.ref hn, .ref g1, .ref g2, .ref hea, .ref g3, .ref g4, .ref g5, .ref g6, .ref g7, .int (iI 0), .int (iI 0), .int (iI 0), .int (iI (-1)), .int (iI (-1)), .int (iI 0)])), (hn, .inr (2, [.ref xa1, .ref xa2, .ref xa3, .ref xa5, .ref xa8, .int (iI 0), .int (iI 0), .int (iI 0)])), (xa3, .inr (7, [.int (iI 0), .int (iI 0), .int (iI 0), .long (lI 0), .int (iI 0), .int (iI 0), .int (iI 0), .long (lI 0), .long (lI 0), .long (lI 0), .long (lI 0), .long (lI 0), .int (iI 0), .int (iI 0), .int (iI 0), .int (iI 0), .ref xa4])), (hout, .inl (k 1, 1, .inr (.inl (aL aZ)))), (m0, .inr (11, [.ref mg, .long (lI 0), .ref mk, .long (lI 0), .int (iI 0), .ref mp, .ref mpu, .int (iI 0), .ref ms, .long (lI 0), .int (iI 0), .int (iI 0), .int (iI 0), .int (iI 0), .int (iI 0), .long (lI 0), .ref mpl, .int (iI 0), .ref mpd, .int (iI 0), .ref mtx, .int (iI 0), .int (iI 0), .int (iI (-1)), .int (iI (-1)), .int (iI 0), .ref mtd, .int (iI 0), .ref mrw, .ref mrl, .ref mir])), (mg, .inl (k 0, 1460, .inl (aI g0F)))] H → va_D (va_A [] s.heap.size) [(h0, .inr (10, [.ref hn, .ref g1, .ref g2, .ref hea, .ref g3, .ref g4, .ref g5, .ref g6, .ref g7, .int (iI 0), .int (iI 0), .int (iI 0), .int (iI (-1)), .int (iI (-1)), .int (iI 0)])), (hn, .inr (2, [.ref xa1, .ref xa2, .ref xa3, .ref xa5, .ref xa8, .int (iI 0), .int (iI 0), .int (iI 0)])), (xa3, .inr (7, [.int (iI 0), .int (iI 0), .int (iI 0), .long (lI 0), .int (iI 0), .int (iI 0), .int (iI 0), .long (lI 0), .long (lI 0), .long (lI 0), .long (lI 0), .long (lI 0), .int (iI 0), .int (iI 0), .int (iI 0), .int (iI 0), .ref xa4])), (hout, .inl (k 1, 1, .inr (.inl (aL aZ)))), (m0, .inr (11, [.ref mg, .long (lI 0), .ref mk, .long (lI 0), .int (iI 0), .ref mp, .ref mpu, .int (iI 0), .ref ms, .long (lI 0), .int (iI 0), .int (iI 0), .int (iI 0), .int (iI 0), .int (iI 0), .long (lI 0), .ref mpl, .int (iI 0), .ref mpd, .int (iI 0), .ref mtx, .int (iI 0), .int (iI 0), .int (iI (-1)), .int (iI (-1)), .int (iI 0), .ref mtd, .int (iI 0), .ref mrw, .ref mrl, .ref mir])), (mg, .inl (k 0, 1460, .inl (aI g0F)))] → va_S (va_A [] s.heap.size) s.heap H locs → ∀ ls : Array Slot, lv_has ls 9 [(5, .int (iI 0)), (4, .ref hoD), (3, .ref hout), (2, .ref m0), (1, .ref h0), (0, .ref bS)] → W p l e room_1 s mI #[Value.ref bS] below meth cO H locs 173 27875 (lw_Z below #[Value.ref bS] s) (F0 mI 280 ls []) := by
  intro H locs hP hD hS ls hl
  obtain ⟨hx, hb, hr, hml, hown0, hts0, hX, hbl, hlocks, hgv⟩ := id C0
  have hts : ∀ w ∈ wsL_law, w.before #[Value.ref bS] s = true := fun w h => hts0 w (wsL_law_in w h)
  have hown : s.vm.findClass RL = some mI.cls := hown0
  generalize hAe : va_A [] s.heap.size = A at hE hD hS
  have hA : ∀ q : Nat, s.heap.size ≤ q → A q := fun q h => by rw [← hAe]; exact Or.inr h
  have hbA : ¬ A bS := fa_A hAe hbl
  obtain ⟨hK, hNw, hNc, hZs, hAO1, hAO2⟩ := id hE
  have hSF : CallFix p mI cO cL_law 9 s ([.ref bS] : List Value).toArray wsL_law RL := ⟨hx, hb, hml, hown, hts⟩
  refine lv_aload_n hx hb dL_law_280 rfl (lv_at hl 4 rfl) ?_
  refine lv_aload_n hx hb dL_law_281 rfl (lv_at hl 5 rfl) ?_
  refine lv_iload hx hb dL_law_282 (lv_at hl 0 rfl) ?_
  refine q_iconst hx hb dL_law_284 ?_
  refine q_iadd (z := 1) hx hb dL_law_285 (by omega) ?_
  refine va_sld hx hb hX hbl hbA hS (iI_in (by omega)) dL_law_286 ?_
  rw [show (iI 1).toNatClampNeg = 1 from by decide, x1]
  refine lv_aload_n hx hb dL_law_287 rfl (lv_at hl 2 rfl) ?_
  refine ki (vx_runSW (As := [.ref h0, .int (iI xv), .ref hout]) (rest := []) hSF ((c_L_pass_1 l hl0 dC dI k hout h0 hn g1 g2 hea g3 g4 g5 g6 g7 xa1 xa2 xa3 xa4 xa5 0 0 xa8 0 0 0 xv (by omega) (by omega)) H.size) (vx_cwSW 3 hts gL_law_L_pass rfl rfl rfl (by decide +kernel) ⟨Nat.le_of_ble_eq_true rfl, Nat.le_of_ble_eq_true rfl⟩) (preS hP hD hE hS hA [0, 1, 2, 3] rfl (by decide)) rfl rfl hl.1 rfl (lv_room (Nat.le_of_ble_eq_true rfl)) dL_law_288 ⟨Nat.le_of_ble_eq_true rfl, Nat.le_of_ble_eq_true rfl⟩) hP hD hS hA [0, 1, 2, 3] [4, 5] rfl (wr := [(m0, .inr (11, [.ref mg, .long (lI 0), .ref mk, .long (lI 0), .int (iI 0), .ref mp, .ref mpu, .int (iI 0), .ref ms, .long (lI 0), .int (iI 0), .int (iI 0), .int (iI 0), .int (iI 0), .int (iI 0), .long (lI 0), .ref mpl, .int (iI 0), .ref mpd, .int (iI 0), .ref mtx, .int (iI 0), .int (iI 0), .int (iI (-1)), .int (iI (-1)), .int (iI 0), .ref mtd, .int (iI 0), .ref mrw, .ref mrl, .ref mir])), (mg, .inl (k 0, 1460, .inl (aI g0F)))]) rfl (by decide) (by decide) (fun r288 _ H locs hw hP hD hS => ?_)
  obtain rfl : r288 = (iI 1) := hw
  have hP : va_P (dC, dI) vwCl [(m0, .inr (11, [.ref mg, .long (lI 0), .ref mk, .long (lI 0), .int (iI 0), .ref mp, .ref mpu, .int (iI 0), .ref ms, .long (lI 0), .int (iI 0), .int (iI 0), .int (iI 0), .int (iI 0), .int (iI 0), .long (lI 0), .ref mpl, .int (iI 0), .ref mpd, .int (iI 0), .ref mtx, .int (iI 0), .int (iI 0), .int (iI (-1)), .int (iI (-1)), .int (iI 0), .ref mtd, .int (iI 0), .ref mrw, .ref mrl, .ref mir])), (mg, .inl (k 0, 1460, .inl (aI g0F)))] H := hP
  have hD : va_D A [(m0, .inr (11, [.ref mg, .long (lI 0), .ref mk, .long (lI 0), .int (iI 0), .ref mp, .ref mpu, .int (iI 0), .ref ms, .long (lI 0), .int (iI 0), .int (iI 0), .int (iI 0), .int (iI 0), .int (iI 0), .long (lI 0), .ref mpl, .int (iI 0), .ref mpd, .int (iI 0), .ref mtx, .int (iI 0), .int (iI 0), .int (iI (-1)), .int (iI (-1)), .int (iI 0), .ref mtd, .int (iI 0), .ref mrw, .ref mrl, .ref mir])), (mg, .inl (k 0, 1460, .inl (aI g0F)))] := hD
  refine lv_istore (lv' := [(6, .int (iI 1)), (5, .int (iI 0)), (4, .ref hoD), (3, .ref hout), (2, .ref m0), (1, .ref h0), (0, .ref bS)]) hx hb dL_law_291 hl (by decide) rfl (fun ls hl => ?_)
  refine lv_aload_n hx hb dL_law_293 rfl (lv_at hl 4 rfl) ?_
  refine lv_aload_n hx hb dL_law_294 rfl (lv_at hl 6 rfl) ?_
  refine lv_iload hx hb dL_law_295 (lv_at hl 1 rfl) ?_
  refine q_iconst hx hb dL_law_297 ?_
  refine q_iadd (z := 1) hx hb dL_law_298 (by omega) ?_
  refine va_sld hx hb hX hbl hbA hS (iI_in (by omega)) dL_law_299 ?_
  rw [show (iI 1).toNatClampNeg = 1 from by decide, x1]
  refine ki (va_runV (As := [.int (iI xv)]) (rest := []) hSF ((c_X11_pass_x l dC dI k m0 mg mk mp mpu ms mpl mpd mtx mtd mrw mrl mir xv (by omega) (by omega)) H.size) (cwV 1 hts gL_law_X11_pass rfl rfl rfl (by decide +kernel) ⟨Nat.le_of_ble_eq_true rfl, Nat.le_of_ble_eq_true rfl⟩) (preV hP hD hE hS hA [0, 1] rfl (by decide) (ci := 11) (q0 := 0) rfl rfl) rfl rfl hl.1 rfl (lv_room (Nat.le_of_ble_eq_true rfl)) dL_law_300 ⟨Nat.le_of_ble_eq_true rfl, Nat.le_of_ble_eq_true rfl⟩) hP hD hS hA [0, 1] [] rfl (wr := []) rfl (by decide) (by decide) (fun r300 _ H locs hw hP hD hS => ?_)
  obtain rfl : r300 = (iI 0) := hw
  have hP : va_P (dC, dI) vwCl [(m0, .inr (11, [.ref mg, .long (lI 0), .ref mk, .long (lI 0), .int (iI 0), .ref mp, .ref mpu, .int (iI 0), .ref ms, .long (lI 0), .int (iI 0), .int (iI 1), .int (iI 0), .int (iI 0), .int (iI 0), .long (lI 0), .ref mpl, .int (iI 0), .ref mpd, .int (iI 0), .ref mtx, .int (iI 0), .int (iI 0), .int (iI (-1)), .int (iI (-1)), .int (iI 0), .ref mtd, .int (iI 0), .ref mrw, .ref mrl, .ref mir]))] H := hP
  have hD : va_D A [(m0, .inr (11, [.ref mg, .long (lI 0), .ref mk, .long (lI 0), .int (iI 0), .ref mp, .ref mpu, .int (iI 0), .ref ms, .long (lI 0), .int (iI 0), .int (iI 1), .int (iI 0), .int (iI 0), .int (iI 0), .long (lI 0), .ref mpl, .int (iI 0), .ref mpd, .int (iI 0), .ref mtx, .int (iI 0), .int (iI 0), .int (iI (-1)), .int (iI (-1)), .int (iI 0), .ref mtd, .int (iI 0), .ref mrw, .ref mrl, .ref mir]))] := hD
  refine lv_istore (lv' := [(7, .int (iI 0)), (6, .int (iI 1)), (5, .int (iI 0)), (4, .ref hoD), (3, .ref hout), (2, .ref m0), (1, .ref h0), (0, .ref bS)]) hx hb dL_law_303 hl (by decide) rfl (fun ls hl => ?_)
  refine lv_aload_n hx hb dL_law_305 rfl (lv_at hl 5 rfl) ?_
  refine ki (va_runV (As := []) (rest := []) hSF ((c_X11_thrown l dC dI k m0 (.ref mg) (.long (lI 0)) (.ref mk) (.long (lI 0)) (.int (iI 0)) (.ref mp) (.ref mpu) (.int (iI 0)) (.ref ms) (.long (lI 0)) (.int (iI 0)) 1 [.int (iI 0), .int (iI 0), .int (iI 0), .long (lI 0), .ref mpl, .int (iI 0), .ref mpd, .int (iI 0), .ref mtx, .int (iI 0), .int (iI 0), .int (iI (-1)), .int (iI (-1)), .int (iI 0), .ref mtd, .int (iI 0), .ref mrw, .ref mrl, .ref mir]) H.size) (cwV 0 hts gL_law_X11_thrown rfl rfl rfl (by decide +kernel) ⟨Nat.le_of_ble_eq_true rfl, Nat.le_of_ble_eq_true rfl⟩) (preV hP hD hE hS hA [0] rfl (by decide) (ci := 11) (q0 := 0) rfl rfl) rfl rfl hl.1 rfl (lv_room (Nat.le_of_ble_eq_true rfl)) dL_law_306 ⟨Nat.le_of_ble_eq_true rfl, Nat.le_of_ble_eq_true rfl⟩) hP hD hS hA [0] [] rfl (wr := []) rfl (by decide) (by decide) (fun r306 _ H locs hw hP hD hS => ?_)
  obtain rfl : r306 = (iI 1) := hw
  have hP : va_P (dC, dI) vwCl [(m0, .inr (11, [.ref mg, .long (lI 0), .ref mk, .long (lI 0), .int (iI 0), .ref mp, .ref mpu, .int (iI 0), .ref ms, .long (lI 0), .int (iI 0), .int (iI 1), .int (iI 0), .int (iI 0), .int (iI 0), .long (lI 0), .ref mpl, .int (iI 0), .ref mpd, .int (iI 0), .ref mtx, .int (iI 0), .int (iI 0), .int (iI (-1)), .int (iI (-1)), .int (iI 0), .ref mtd, .int (iI 0), .ref mrw, .ref mrl, .ref mir]))] H := hP
  have hD : va_D A [(m0, .inr (11, [.ref mg, .long (lI 0), .ref mk, .long (lI 0), .int (iI 0), .ref mp, .ref mpu, .int (iI 0), .ref ms, .long (lI 0), .int (iI 0), .int (iI 1), .int (iI 0), .int (iI 0), .int (iI 0), .long (lI 0), .ref mpl, .int (iI 0), .ref mpd, .int (iI 0), .ref mtx, .int (iI 0), .int (iI 0), .int (iI (-1)), .int (iI (-1)), .int (iI 0), .ref mtd, .int (iI 0), .ref mrw, .ref mrl, .ref mir]))] := hD
  refine lv_iload hx hb dL_law_309 (lv_at hl 1 rfl) ?_
  refine q_icmp_eq (tgt := 316) hx hb dL_law_311 (by decide) (by omega) (fun _ => ?_) (fun q => absurd q (by omega))
  refine lv_iload hx hb dL_law_316 (lv_at hl 1 rfl) ?_
  refine q_if_ne (tgt := 333) hx hb dL_law_318 (by decide) (by omega) (fun _ => ?_) (fun q => absurd q (by omega))
  refine lv_goto (tgt := 1935) hx hb dL_law_333 (by decide) ?_
  exact law_end l hL5 C0 hAe hS (lv_sub hl [2, 7] rfl) (Nat.le_of_ble_eq_true rfl) (Nat.le_of_ble_eq_true rfl)
set_option maxHeartbeats 4000000 in
set_option maxRecDepth 100000 in
theorem law_2_0 (l : Launch) (dC : Nat → ClassId) (dI : Nat → Nat → Nat) (k : Nat → ClassId) {p : Program} {e : Env} {s : State} {mI : MethodId} {below : List Frame} {meth : Method} {cO : Code} {bS L : Nat} {zs : Nat → Int32} (hL5 : L = 5) (C0 : lw_At p s mI meth cO bS L zs) (hE : En (dC, dI) k (va_A [] s.heap.size) s s.heap) (hout : Nat) (h0 hn g1 g2 hea g3 g4 g5 g6 g7 xa1 xa2 xa3 xa4 xa5 xa6 xa7 xa8 xa9 xa10 xa11 : Nat) (m0 mg mk mp mpu ms mpl mpd mtx mtd mrw mrl mir hoD : Nat) (x1 : zs 1 = iI 0) : ∀ (H : Heap) (locs : List Loc), va_P (dC, dI) vwCl [(h0, .inr (10, [.ref hn, .ref g1, .ref g2, .ref hea, .ref g3, .ref g4, .ref g5, .ref g6, .ref g7, .int (iI 0), .int (iI 0), .int (iI 0), .int (iI (-1)), .int (iI (-1)), .int (iI 0)])), (hn, .inr (2, [.ref xa1, .ref xa2, .ref xa3, .ref xa5, .ref xa8, .int (iI 0), .int (iI 0), .int (iI 0)])), (hout, .inl (k 1, 1, .inr (.inl (aL aZ)))), (m0, .inr (11, [.ref mg, .long (lI 0), .ref mk, .long (lI 0), .int (iI 0), .ref mp, .ref mpu, .int (iI 0), .ref ms, .long (lI 0), .int (iI 0), .int (iI 0), .int (iI 0), .int (iI 0), .int (iI 0), .long (lI 0), .ref mpl, .int (iI 0), .ref mpd, .int (iI 0), .ref mtx, .int (iI 0), .int (iI 0), .int (iI (-1)), .int (iI (-1)), .int (iI 0), .ref mtd, .int (iI 0), .ref mrw, .ref mrl, .ref mir])), (mg, .inl (k 0, 1460, .inl (aI g0F)))] H → va_D (va_A [] s.heap.size) [(h0, .inr (10, [.ref hn, .ref g1, .ref g2, .ref hea, .ref g3, .ref g4, .ref g5, .ref g6, .ref g7, .int (iI 0), .int (iI 0), .int (iI 0), .int (iI (-1)), .int (iI (-1)), .int (iI 0)])), (hn, .inr (2, [.ref xa1, .ref xa2, .ref xa3, .ref xa5, .ref xa8, .int (iI 0), .int (iI 0), .int (iI 0)])), (hout, .inl (k 1, 1, .inr (.inl (aL aZ)))), (m0, .inr (11, [.ref mg, .long (lI 0), .ref mk, .long (lI 0), .int (iI 0), .ref mp, .ref mpu, .int (iI 0), .ref ms, .long (lI 0), .int (iI 0), .int (iI 0), .int (iI 0), .int (iI 0), .int (iI 0), .long (lI 0), .ref mpl, .int (iI 0), .ref mpd, .int (iI 0), .ref mtx, .int (iI 0), .int (iI 0), .int (iI (-1)), .int (iI (-1)), .int (iI 0), .ref mtd, .int (iI 0), .ref mrw, .ref mrl, .ref mir])), (mg, .inl (k 0, 1460, .inl (aI g0F)))] → va_S (va_A [] s.heap.size) s.heap H locs → ∀ ls : Array Slot, lv_has ls 9 [(5, .int (iI 0)), (4, .ref hoD), (3, .ref hout), (2, .ref m0), (1, .ref h0), (0, .ref bS)] → W p l e room_1 s mI #[Value.ref bS] below meth cO H locs 173 27875 (lw_Z below #[Value.ref bS] s) (F0 mI 336 ls []) := by
  intro H locs hP hD hS ls hl
  obtain ⟨hx, hb, hr, hml, hown0, hts0, hX, hbl, hlocks, hgv⟩ := id C0
  have hts : ∀ w ∈ wsL_law, w.before #[Value.ref bS] s = true := fun w h => hts0 w (wsL_law_in w h)
  have hown : s.vm.findClass RL = some mI.cls := hown0
  generalize hAe : va_A [] s.heap.size = A at hE hD hS
  have hA : ∀ q : Nat, s.heap.size ≤ q → A q := fun q h => by rw [← hAe]; exact Or.inr h
  have hbA : ¬ A bS := fa_A hAe hbl
  obtain ⟨hK, hNw, hNc, hZs, hAO1, hAO2⟩ := id hE
  have hSF : CallFix p mI cO cL_law 9 s ([.ref bS] : List Value).toArray wsL_law RL := ⟨hx, hb, hml, hown, hts⟩
  refine lv_aload_n hx hb dL_law_336 rfl (lv_at hl 4 rfl) ?_
  refine lv_aload_n hx hb dL_law_337 rfl (lv_at hl 5 rfl) ?_
  refine lv_iload hx hb dL_law_338 (lv_at hl 0 rfl) ?_
  refine q_iconst hx hb dL_law_340 ?_
  refine q_iadd (z := 1) hx hb dL_law_341 (by omega) ?_
  refine va_sld hx hb hX hbl hbA hS (iI_in (by omega)) dL_law_342 ?_
  rw [show (iI 1).toNatClampNeg = 1 from by decide, x1]
  refine lv_aload_n hx hb dL_law_343 rfl (lv_at hl 2 rfl) ?_
  refine ki (vx_runSW (As := [.ref h0, .int (iI 0), .ref hout]) (rest := []) hSF ((c_L_date_0 l dC dI k hout h0 hn g1 g2 hea g3 g4 g5 g6 g7 xa1 xa2 xa3 0 xa5 0 0 xa8 0 0 0) H.size) (vx_cwSW 3 hts gL_law_L_date rfl rfl rfl (by decide +kernel) ⟨Nat.le_of_ble_eq_true rfl, Nat.le_of_ble_eq_true rfl⟩) (preS hP hD hE hS hA [0, 1, 2] rfl (by decide)) rfl rfl hl.1 rfl (lv_room (Nat.le_of_ble_eq_true rfl)) dL_law_344 ⟨Nat.le_of_ble_eq_true rfl, Nat.le_of_ble_eq_true rfl⟩) hP hD hS hA [0, 1, 2] [3, 4] rfl (wr := [(m0, .inr (11, [.ref mg, .long (lI 0), .ref mk, .long (lI 0), .int (iI 0), .ref mp, .ref mpu, .int (iI 0), .ref ms, .long (lI 0), .int (iI 0), .int (iI 0), .int (iI 0), .int (iI 0), .int (iI 0), .long (lI 0), .ref mpl, .int (iI 0), .ref mpd, .int (iI 0), .ref mtx, .int (iI 0), .int (iI 0), .int (iI (-1)), .int (iI (-1)), .int (iI 0), .ref mtd, .int (iI 0), .ref mrw, .ref mrl, .ref mir])), (mg, .inl (k 0, 1460, .inl (aI g0F)))]) rfl (by decide) (by decide) (fun r344 _ H locs hw hP hD hS => ?_)
  obtain rfl : r344 = (iI 0) := hw
  have hP : va_P (dC, dI) vwCl [(m0, .inr (11, [.ref mg, .long (lI 0), .ref mk, .long (lI 0), .int (iI 0), .ref mp, .ref mpu, .int (iI 0), .ref ms, .long (lI 0), .int (iI 0), .int (iI 0), .int (iI 0), .int (iI 0), .int (iI 0), .long (lI 0), .ref mpl, .int (iI 0), .ref mpd, .int (iI 0), .ref mtx, .int (iI 0), .int (iI 0), .int (iI (-1)), .int (iI (-1)), .int (iI 0), .ref mtd, .int (iI 0), .ref mrw, .ref mrl, .ref mir])), (mg, .inl (k 0, 1460, .inl (aI g0F))), (hout, .inl (k 1, 1, .inr (.inl (aL (upI aZ 0 0)))))] H := hP
  have hD : va_D A [(m0, .inr (11, [.ref mg, .long (lI 0), .ref mk, .long (lI 0), .int (iI 0), .ref mp, .ref mpu, .int (iI 0), .ref ms, .long (lI 0), .int (iI 0), .int (iI 0), .int (iI 0), .int (iI 0), .int (iI 0), .long (lI 0), .ref mpl, .int (iI 0), .ref mpd, .int (iI 0), .ref mtx, .int (iI 0), .int (iI 0), .int (iI (-1)), .int (iI (-1)), .int (iI 0), .ref mtd, .int (iI 0), .ref mrw, .ref mrl, .ref mir])), (mg, .inl (k 0, 1460, .inl (aI g0F))), (hout, .inl (k 1, 1, .inr (.inl (aL (upI aZ 0 0)))))] := hD
  refine lv_istore (lv' := [(6, .int (iI 0)), (5, .int (iI 0)), (4, .ref hoD), (3, .ref hout), (2, .ref m0), (1, .ref h0), (0, .ref bS)]) hx hb dL_law_347 hl (by decide) rfl (fun ls hl => ?_)
  refine lv_aload_n hx hb dL_law_349 rfl (lv_at hl 4 rfl) ?_
  refine lv_aload_n hx hb dL_law_350 rfl (lv_at hl 6 rfl) ?_
  refine lv_iload hx hb dL_law_351 (lv_at hl 1 rfl) ?_
  refine q_iconst hx hb dL_law_353 ?_
  refine q_iadd (z := 1) hx hb dL_law_354 (by omega) ?_
  refine va_sld hx hb hX hbl hbA hS (iI_in (by omega)) dL_law_355 ?_
  rw [show (iI 1).toNatClampNeg = 1 from by decide, x1]
  refine ki (va_runV (As := [.int (iI 0)]) (rest := []) hSF ((c_X11_date_0 l dC dI k m0 mg mk mp mpu ms mpl mpd mtx mtd mrw mrl mir) H.size) (cwV 1 hts gL_law_X11_date rfl rfl rfl (by decide +kernel) ⟨Nat.le_of_ble_eq_true rfl, Nat.le_of_ble_eq_true rfl⟩) (preV hP hD hE hS hA [0, 1] rfl (by decide) (ci := 11) (q0 := 0) rfl rfl) rfl rfl hl.1 rfl (lv_room (Nat.le_of_ble_eq_true rfl)) dL_law_356 ⟨Nat.le_of_ble_eq_true rfl, Nat.le_of_ble_eq_true rfl⟩) hP hD hS hA [0, 1] [2] rfl (wr := [(hout, .inl (k 1, 1, .inr (.inl (aL (upI aZ 0 0)))))]) rfl (by decide) (by decide) (fun r356 _ H locs hw hP hD hS => ?_)
  obtain rfl : r356 = (iI 0) := hw
  have hP : va_P (dC, dI) vwCl [(hout, .inl (k 1, 1, .inr (.inl (aL (upI aZ 0 0))))), (m0, .inr (11, [.ref mg, .long (lI 0), .ref mk, .long (lI 0), .int (iI 0), .ref mp, .ref mpu, .int (iI 0), .ref ms, .long (lI 0), .int (iI 0), .int (iI 0), .int (iI 0), .int (iI 0), .int (iI 0), .long (lI 0), .ref mpl, .int (iI 0), .ref mpd, .int (iI 0), .ref mtx, .int (iI 0), .int (iI 0), .int (iI (-1)), .int (iI (-1)), .int (iI 0), .ref mtd, .int (iI 0), .ref mrw, .ref mrl, .ref mir]))] H := hP
  have hD : va_D A [(hout, .inl (k 1, 1, .inr (.inl (aL (upI aZ 0 0))))), (m0, .inr (11, [.ref mg, .long (lI 0), .ref mk, .long (lI 0), .int (iI 0), .ref mp, .ref mpu, .int (iI 0), .ref ms, .long (lI 0), .int (iI 0), .int (iI 0), .int (iI 0), .int (iI 0), .int (iI 0), .long (lI 0), .ref mpl, .int (iI 0), .ref mpd, .int (iI 0), .ref mtx, .int (iI 0), .int (iI 0), .int (iI (-1)), .int (iI (-1)), .int (iI 0), .ref mtd, .int (iI 0), .ref mrw, .ref mrl, .ref mir]))] := hD
  refine lv_istore (lv' := [(7, .int (iI 0)), (6, .int (iI 0)), (5, .int (iI 0)), (4, .ref hoD), (3, .ref hout), (2, .ref m0), (1, .ref h0), (0, .ref bS)]) hx hb dL_law_359 hl (by decide) rfl (fun ls hl => ?_)
  refine lv_aload_n hx hb dL_law_361 rfl (lv_at hl 5 rfl) ?_
  refine ki (va_runV (As := []) (rest := []) hSF ((c_X11_thrown l dC dI k m0 (.ref mg) (.long (lI 0)) (.ref mk) (.long (lI 0)) (.int (iI 0)) (.ref mp) (.ref mpu) (.int (iI 0)) (.ref ms) (.long (lI 0)) (.int (iI 0)) 0 [.int (iI 0), .int (iI 0), .int (iI 0), .long (lI 0), .ref mpl, .int (iI 0), .ref mpd, .int (iI 0), .ref mtx, .int (iI 0), .int (iI 0), .int (iI (-1)), .int (iI (-1)), .int (iI 0), .ref mtd, .int (iI 0), .ref mrw, .ref mrl, .ref mir]) H.size) (cwV 0 hts gL_law_X11_thrown rfl rfl rfl (by decide +kernel) ⟨Nat.le_of_ble_eq_true rfl, Nat.le_of_ble_eq_true rfl⟩) (preV hP hD hE hS hA [1] rfl (by decide) (ci := 11) (q0 := 1) rfl rfl) rfl rfl hl.1 rfl (lv_room (Nat.le_of_ble_eq_true rfl)) dL_law_362 ⟨Nat.le_of_ble_eq_true rfl, Nat.le_of_ble_eq_true rfl⟩) hP hD hS hA [1] [0] rfl (wr := [(hout, .inl (k 1, 1, .inr (.inl (aL (upI aZ 0 0)))))]) rfl (by decide) (by decide) (fun r362 _ H locs hw hP hD hS => ?_)
  obtain rfl : r362 = (iI 0) := hw
  have hP : va_P (dC, dI) vwCl [(hout, .inl (k 1, 1, .inr (.inl (aL (upI aZ 0 0))))), (m0, .inr (11, [.ref mg, .long (lI 0), .ref mk, .long (lI 0), .int (iI 0), .ref mp, .ref mpu, .int (iI 0), .ref ms, .long (lI 0), .int (iI 0), .int (iI 0), .int (iI 0), .int (iI 0), .int (iI 0), .long (lI 0), .ref mpl, .int (iI 0), .ref mpd, .int (iI 0), .ref mtx, .int (iI 0), .int (iI 0), .int (iI (-1)), .int (iI (-1)), .int (iI 0), .ref mtd, .int (iI 0), .ref mrw, .ref mrl, .ref mir]))] H := hP
  have hD : va_D A [(hout, .inl (k 1, 1, .inr (.inl (aL (upI aZ 0 0))))), (m0, .inr (11, [.ref mg, .long (lI 0), .ref mk, .long (lI 0), .int (iI 0), .ref mp, .ref mpu, .int (iI 0), .ref ms, .long (lI 0), .int (iI 0), .int (iI 0), .int (iI 0), .int (iI 0), .int (iI 0), .long (lI 0), .ref mpl, .int (iI 0), .ref mpd, .int (iI 0), .ref mtx, .int (iI 0), .int (iI 0), .int (iI (-1)), .int (iI (-1)), .int (iI 0), .ref mtd, .int (iI 0), .ref mrw, .ref mrl, .ref mir]))] := hD
  refine lv_iload hx hb dL_law_365 (lv_at hl 1 rfl) ?_
  refine q_icmp_eq (tgt := 372) hx hb dL_law_367 (by decide) (by omega) (fun _ => ?_) (fun q => absurd q (by omega))
  refine lv_iload hx hb dL_law_372 (lv_at hl 1 rfl) ?_
  refine q_if_ne (tgt := 389) hx hb dL_law_374 (by decide) (by omega) (fun q => absurd q (by omega)) (fun _ => ?_)
  refine lv_aload_n hx hb dL_law_377 rfl (lv_at hl 4 rfl) ?_
  refine q_iconst hx hb dL_law_378 ?_
  refine q_lald (z := 0) hx hb hK hP 0 1 rfl rfl (by omega) upI_s dL_law_379 ?_
  refine lv_iload hx hb dL_law_380 (lv_at hl 0 rfl) ?_
  refine q_i2l hx hb dL_law_382 (by omega) ?_
  refine q_lcmp hx hb dL_law_383 ?_
  refine q_lif_eq (tgt := 389) hx hb dL_law_384 (by decide) (by omega) (fun _ => ?_) (fun q => absurd q (by omega))
  refine lv_goto (tgt := 1935) hx hb dL_law_389 (by decide) ?_
  exact law_end l hL5 C0 hAe hS (lv_sub hl [2, 7] rfl) (Nat.le_of_ble_eq_true rfl) (Nat.le_of_ble_eq_true rfl)
set_option maxHeartbeats 4000000 in
set_option maxRecDepth 100000 in
theorem law_2_1 (l : Launch) (dC : Nat → ClassId) (dI : Nat → Nat → Nat) (k : Nat → ClassId) {p : Program} {e : Env} {s : State} {mI : MethodId} {below : List Frame} {meth : Method} {cO : Code} {bS L : Nat} {zs : Nat → Int32} (hL5 : L = 5) (C0 : lw_At p s mI meth cO bS L zs) (hE : En (dC, dI) k (va_A [] s.heap.size) s s.heap) (hout : Nat) (h0 hn g1 g2 hea g3 g4 g5 g6 g7 xa1 xa2 xa3 xa4 xa5 xa6 xa7 xa8 xa9 xa10 xa11 : Nat) (m0 mg mk mp mpu ms mpl mpd mtx mtd mrw mrl mir hoD : Nat) (x1 : zs 1 = iI 1) : ∀ (H : Heap) (locs : List Loc), va_P (dC, dI) vwCl [(h0, .inr (10, [.ref hn, .ref g1, .ref g2, .ref hea, .ref g3, .ref g4, .ref g5, .ref g6, .ref g7, .int (iI 0), .int (iI 0), .int (iI 0), .int (iI (-1)), .int (iI (-1)), .int (iI 0)])), (hn, .inr (2, [.ref xa1, .ref xa2, .ref xa3, .ref xa5, .ref xa8, .int (iI 0), .int (iI 0), .int (iI 0)])), (hout, .inl (k 1, 1, .inr (.inl (aL aZ)))), (m0, .inr (11, [.ref mg, .long (lI 0), .ref mk, .long (lI 0), .int (iI 0), .ref mp, .ref mpu, .int (iI 0), .ref ms, .long (lI 0), .int (iI 0), .int (iI 0), .int (iI 0), .int (iI 0), .int (iI 0), .long (lI 0), .ref mpl, .int (iI 0), .ref mpd, .int (iI 0), .ref mtx, .int (iI 0), .int (iI 0), .int (iI (-1)), .int (iI (-1)), .int (iI 0), .ref mtd, .int (iI 0), .ref mrw, .ref mrl, .ref mir])), (mg, .inl (k 0, 1460, .inl (aI g0F)))] H → va_D (va_A [] s.heap.size) [(h0, .inr (10, [.ref hn, .ref g1, .ref g2, .ref hea, .ref g3, .ref g4, .ref g5, .ref g6, .ref g7, .int (iI 0), .int (iI 0), .int (iI 0), .int (iI (-1)), .int (iI (-1)), .int (iI 0)])), (hn, .inr (2, [.ref xa1, .ref xa2, .ref xa3, .ref xa5, .ref xa8, .int (iI 0), .int (iI 0), .int (iI 0)])), (hout, .inl (k 1, 1, .inr (.inl (aL aZ)))), (m0, .inr (11, [.ref mg, .long (lI 0), .ref mk, .long (lI 0), .int (iI 0), .ref mp, .ref mpu, .int (iI 0), .ref ms, .long (lI 0), .int (iI 0), .int (iI 0), .int (iI 0), .int (iI 0), .int (iI 0), .long (lI 0), .ref mpl, .int (iI 0), .ref mpd, .int (iI 0), .ref mtx, .int (iI 0), .int (iI 0), .int (iI (-1)), .int (iI (-1)), .int (iI 0), .ref mtd, .int (iI 0), .ref mrw, .ref mrl, .ref mir])), (mg, .inl (k 0, 1460, .inl (aI g0F)))] → va_S (va_A [] s.heap.size) s.heap H locs → ∀ ls : Array Slot, lv_has ls 9 [(5, .int (iI 0)), (4, .ref hoD), (3, .ref hout), (2, .ref m0), (1, .ref h0), (0, .ref bS)] → W p l e room_1 s mI #[Value.ref bS] below meth cO H locs 173 27875 (lw_Z below #[Value.ref bS] s) (F0 mI 336 ls []) := by
  intro H locs hP hD hS ls hl
  obtain ⟨hx, hb, hr, hml, hown0, hts0, hX, hbl, hlocks, hgv⟩ := id C0
  have hts : ∀ w ∈ wsL_law, w.before #[Value.ref bS] s = true := fun w h => hts0 w (wsL_law_in w h)
  have hown : s.vm.findClass RL = some mI.cls := hown0
  generalize hAe : va_A [] s.heap.size = A at hE hD hS
  have hA : ∀ q : Nat, s.heap.size ≤ q → A q := fun q h => by rw [← hAe]; exact Or.inr h
  have hbA : ¬ A bS := fa_A hAe hbl
  obtain ⟨hK, hNw, hNc, hZs, hAO1, hAO2⟩ := id hE
  have hSF : CallFix p mI cO cL_law 9 s ([.ref bS] : List Value).toArray wsL_law RL := ⟨hx, hb, hml, hown, hts⟩
  refine lv_aload_n hx hb dL_law_336 rfl (lv_at hl 4 rfl) ?_
  refine lv_aload_n hx hb dL_law_337 rfl (lv_at hl 5 rfl) ?_
  refine lv_iload hx hb dL_law_338 (lv_at hl 0 rfl) ?_
  refine q_iconst hx hb dL_law_340 ?_
  refine q_iadd (z := 1) hx hb dL_law_341 (by omega) ?_
  refine va_sld hx hb hX hbl hbA hS (iI_in (by omega)) dL_law_342 ?_
  rw [show (iI 1).toNatClampNeg = 1 from by decide, x1]
  refine lv_aload_n hx hb dL_law_343 rfl (lv_at hl 2 rfl) ?_
  refine ki (vx_runSW (As := [.ref h0, .int (iI 1), .ref hout]) (rest := []) hSF ((c_L_date_1 l dC dI k hout h0 hn g1 g2 hea g3 g4 g5 g6 g7 xa1 xa2 xa3 0 xa5 0 0 xa8 0 0 0) H.size) (vx_cwSW 3 hts gL_law_L_date rfl rfl rfl (by decide +kernel) ⟨Nat.le_of_ble_eq_true rfl, Nat.le_of_ble_eq_true rfl⟩) (preS hP hD hE hS hA [0, 1, 2] rfl (by decide)) rfl rfl hl.1 rfl (lv_room (Nat.le_of_ble_eq_true rfl)) dL_law_344 ⟨Nat.le_of_ble_eq_true rfl, Nat.le_of_ble_eq_true rfl⟩) hP hD hS hA [0, 1, 2] [3, 4] rfl (wr := [(m0, .inr (11, [.ref mg, .long (lI 0), .ref mk, .long (lI 0), .int (iI 0), .ref mp, .ref mpu, .int (iI 0), .ref ms, .long (lI 0), .int (iI 0), .int (iI 0), .int (iI 0), .int (iI 0), .int (iI 0), .long (lI 0), .ref mpl, .int (iI 0), .ref mpd, .int (iI 0), .ref mtx, .int (iI 0), .int (iI 0), .int (iI (-1)), .int (iI (-1)), .int (iI 0), .ref mtd, .int (iI 0), .ref mrw, .ref mrl, .ref mir])), (mg, .inl (k 0, 1460, .inl (aI g0F)))]) rfl (by decide) (by decide) (fun r344 _ H locs hw hP hD hS => ?_)
  obtain rfl : r344 = (iI 0) := hw
  have hP : va_P (dC, dI) vwCl [(m0, .inr (11, [.ref mg, .long (lI 0), .ref mk, .long (lI 0), .int (iI 0), .ref mp, .ref mpu, .int (iI 0), .ref ms, .long (lI 0), .int (iI 0), .int (iI 0), .int (iI 0), .int (iI 0), .int (iI 0), .long (lI 0), .ref mpl, .int (iI 0), .ref mpd, .int (iI 0), .ref mtx, .int (iI 0), .int (iI 0), .int (iI (-1)), .int (iI (-1)), .int (iI 0), .ref mtd, .int (iI 0), .ref mrw, .ref mrl, .ref mir])), (mg, .inl (k 0, 1460, .inl (aI g0F))), (hout, .inl (k 1, 1, .inr (.inl (aL (upI aZ 0 0)))))] H := hP
  have hD : va_D A [(m0, .inr (11, [.ref mg, .long (lI 0), .ref mk, .long (lI 0), .int (iI 0), .ref mp, .ref mpu, .int (iI 0), .ref ms, .long (lI 0), .int (iI 0), .int (iI 0), .int (iI 0), .int (iI 0), .int (iI 0), .long (lI 0), .ref mpl, .int (iI 0), .ref mpd, .int (iI 0), .ref mtx, .int (iI 0), .int (iI 0), .int (iI (-1)), .int (iI (-1)), .int (iI 0), .ref mtd, .int (iI 0), .ref mrw, .ref mrl, .ref mir])), (mg, .inl (k 0, 1460, .inl (aI g0F))), (hout, .inl (k 1, 1, .inr (.inl (aL (upI aZ 0 0)))))] := hD
  refine lv_istore (lv' := [(6, .int (iI 0)), (5, .int (iI 0)), (4, .ref hoD), (3, .ref hout), (2, .ref m0), (1, .ref h0), (0, .ref bS)]) hx hb dL_law_347 hl (by decide) rfl (fun ls hl => ?_)
  refine lv_aload_n hx hb dL_law_349 rfl (lv_at hl 4 rfl) ?_
  refine lv_aload_n hx hb dL_law_350 rfl (lv_at hl 6 rfl) ?_
  refine lv_iload hx hb dL_law_351 (lv_at hl 1 rfl) ?_
  refine q_iconst hx hb dL_law_353 ?_
  refine q_iadd (z := 1) hx hb dL_law_354 (by omega) ?_
  refine va_sld hx hb hX hbl hbA hS (iI_in (by omega)) dL_law_355 ?_
  rw [show (iI 1).toNatClampNeg = 1 from by decide, x1]
  refine ki (va_runV (As := [.int (iI 1)]) (rest := []) hSF ((c_X11_date_1 l dC dI k m0 mg mk mp mpu ms mpl mpd mtx mtd mrw mrl mir) H.size) (cwV 1 hts gL_law_X11_date rfl rfl rfl (by decide +kernel) ⟨Nat.le_of_ble_eq_true rfl, Nat.le_of_ble_eq_true rfl⟩) (preV hP hD hE hS hA [0, 1] rfl (by decide) (ci := 11) (q0 := 0) rfl rfl) rfl rfl hl.1 rfl (lv_room (Nat.le_of_ble_eq_true rfl)) dL_law_356 ⟨Nat.le_of_ble_eq_true rfl, Nat.le_of_ble_eq_true rfl⟩) hP hD hS hA [0, 1] [2] rfl (wr := [(hout, .inl (k 1, 1, .inr (.inl (aL (upI aZ 0 0)))))]) rfl (by decide) (by decide) (fun r356 _ H locs hw hP hD hS => ?_)
  obtain rfl : r356 = (iI 0) := hw
  have hP : va_P (dC, dI) vwCl [(hout, .inl (k 1, 1, .inr (.inl (aL (upI aZ 0 0))))), (m0, .inr (11, [.ref mg, .long (lI 0), .ref mk, .long (lI 0), .int (iI 0), .ref mp, .ref mpu, .int (iI 0), .ref ms, .long (lI 0), .int (iI 0), .int (iI 0), .int (iI 0), .int (iI 0), .int (iI 0), .long (lI 0), .ref mpl, .int (iI 0), .ref mpd, .int (iI 0), .ref mtx, .int (iI 0), .int (iI 0), .int (iI (-1)), .int (iI (-1)), .int (iI 0), .ref mtd, .int (iI 0), .ref mrw, .ref mrl, .ref mir]))] H := hP
  have hD : va_D A [(hout, .inl (k 1, 1, .inr (.inl (aL (upI aZ 0 0))))), (m0, .inr (11, [.ref mg, .long (lI 0), .ref mk, .long (lI 0), .int (iI 0), .ref mp, .ref mpu, .int (iI 0), .ref ms, .long (lI 0), .int (iI 0), .int (iI 0), .int (iI 0), .int (iI 0), .int (iI 0), .long (lI 0), .ref mpl, .int (iI 0), .ref mpd, .int (iI 0), .ref mtx, .int (iI 0), .int (iI 0), .int (iI (-1)), .int (iI (-1)), .int (iI 0), .ref mtd, .int (iI 0), .ref mrw, .ref mrl, .ref mir]))] := hD
  refine lv_istore (lv' := [(7, .int (iI 0)), (6, .int (iI 0)), (5, .int (iI 0)), (4, .ref hoD), (3, .ref hout), (2, .ref m0), (1, .ref h0), (0, .ref bS)]) hx hb dL_law_359 hl (by decide) rfl (fun ls hl => ?_)
  refine lv_aload_n hx hb dL_law_361 rfl (lv_at hl 5 rfl) ?_
  refine ki (va_runV (As := []) (rest := []) hSF ((c_X11_thrown l dC dI k m0 (.ref mg) (.long (lI 0)) (.ref mk) (.long (lI 0)) (.int (iI 0)) (.ref mp) (.ref mpu) (.int (iI 0)) (.ref ms) (.long (lI 0)) (.int (iI 0)) 0 [.int (iI 0), .int (iI 0), .int (iI 0), .long (lI 0), .ref mpl, .int (iI 0), .ref mpd, .int (iI 0), .ref mtx, .int (iI 0), .int (iI 0), .int (iI (-1)), .int (iI (-1)), .int (iI 0), .ref mtd, .int (iI 0), .ref mrw, .ref mrl, .ref mir]) H.size) (cwV 0 hts gL_law_X11_thrown rfl rfl rfl (by decide +kernel) ⟨Nat.le_of_ble_eq_true rfl, Nat.le_of_ble_eq_true rfl⟩) (preV hP hD hE hS hA [1] rfl (by decide) (ci := 11) (q0 := 1) rfl rfl) rfl rfl hl.1 rfl (lv_room (Nat.le_of_ble_eq_true rfl)) dL_law_362 ⟨Nat.le_of_ble_eq_true rfl, Nat.le_of_ble_eq_true rfl⟩) hP hD hS hA [1] [0] rfl (wr := [(hout, .inl (k 1, 1, .inr (.inl (aL (upI aZ 0 0)))))]) rfl (by decide) (by decide) (fun r362 _ H locs hw hP hD hS => ?_)
  obtain rfl : r362 = (iI 0) := hw
  have hP : va_P (dC, dI) vwCl [(hout, .inl (k 1, 1, .inr (.inl (aL (upI aZ 0 0))))), (m0, .inr (11, [.ref mg, .long (lI 0), .ref mk, .long (lI 0), .int (iI 0), .ref mp, .ref mpu, .int (iI 0), .ref ms, .long (lI 0), .int (iI 0), .int (iI 0), .int (iI 0), .int (iI 0), .int (iI 0), .long (lI 0), .ref mpl, .int (iI 0), .ref mpd, .int (iI 0), .ref mtx, .int (iI 0), .int (iI 0), .int (iI (-1)), .int (iI (-1)), .int (iI 0), .ref mtd, .int (iI 0), .ref mrw, .ref mrl, .ref mir]))] H := hP
  have hD : va_D A [(hout, .inl (k 1, 1, .inr (.inl (aL (upI aZ 0 0))))), (m0, .inr (11, [.ref mg, .long (lI 0), .ref mk, .long (lI 0), .int (iI 0), .ref mp, .ref mpu, .int (iI 0), .ref ms, .long (lI 0), .int (iI 0), .int (iI 0), .int (iI 0), .int (iI 0), .int (iI 0), .long (lI 0), .ref mpl, .int (iI 0), .ref mpd, .int (iI 0), .ref mtx, .int (iI 0), .int (iI 0), .int (iI (-1)), .int (iI (-1)), .int (iI 0), .ref mtd, .int (iI 0), .ref mrw, .ref mrl, .ref mir]))] := hD
  refine lv_iload hx hb dL_law_365 (lv_at hl 1 rfl) ?_
  refine q_icmp_eq (tgt := 372) hx hb dL_law_367 (by decide) (by omega) (fun _ => ?_) (fun q => absurd q (by omega))
  refine lv_iload hx hb dL_law_372 (lv_at hl 1 rfl) ?_
  refine q_if_ne (tgt := 389) hx hb dL_law_374 (by decide) (by omega) (fun q => absurd q (by omega)) (fun _ => ?_)
  refine lv_aload_n hx hb dL_law_377 rfl (lv_at hl 4 rfl) ?_
  refine q_iconst hx hb dL_law_378 ?_
  refine q_lald (z := 0) hx hb hK hP 0 1 rfl rfl (by omega) upI_s dL_law_379 ?_
  refine lv_iload hx hb dL_law_380 (lv_at hl 0 rfl) ?_
  refine q_i2l hx hb dL_law_382 (by omega) ?_
  refine q_lcmp hx hb dL_law_383 ?_
  refine q_lif_eq (tgt := 389) hx hb dL_law_384 (by decide) (by omega) (fun _ => ?_) (fun q => absurd q (by omega))
  refine lv_goto (tgt := 1935) hx hb dL_law_389 (by decide) ?_
  exact law_end l hL5 C0 hAe hS (lv_sub hl [2, 7] rfl) (Nat.le_of_ble_eq_true rfl) (Nat.le_of_ble_eq_true rfl)
set_option maxHeartbeats 4000000 in
set_option maxRecDepth 100000 in
theorem law_2_2 (l : Launch) (dC : Nat → ClassId) (dI : Nat → Nat → Nat) (k : Nat → ClassId) {p : Program} {e : Env} {s : State} {mI : MethodId} {below : List Frame} {meth : Method} {cO : Code} {bS L : Nat} {zs : Nat → Int32} (hL5 : L = 5) (C0 : lw_At p s mI meth cO bS L zs) (hE : En (dC, dI) k (va_A [] s.heap.size) s s.heap) (hout : Nat) (h0 hn g1 g2 hea g3 g4 g5 g6 g7 xa1 xa2 xa3 xa4 xa5 xa6 xa7 xa8 xa9 xa10 xa11 : Nat) (m0 mg mk mp mpu ms mpl mpd mtx mtd mrw mrl mir hoD : Nat) (x1 : zs 1 = iI 2) : ∀ (H : Heap) (locs : List Loc), va_P (dC, dI) vwCl [(h0, .inr (10, [.ref hn, .ref g1, .ref g2, .ref hea, .ref g3, .ref g4, .ref g5, .ref g6, .ref g7, .int (iI 0), .int (iI 0), .int (iI 0), .int (iI (-1)), .int (iI (-1)), .int (iI 0)])), (hn, .inr (2, [.ref xa1, .ref xa2, .ref xa3, .ref xa5, .ref xa8, .int (iI 0), .int (iI 0), .int (iI 0)])), (hout, .inl (k 1, 1, .inr (.inl (aL aZ)))), (m0, .inr (11, [.ref mg, .long (lI 0), .ref mk, .long (lI 0), .int (iI 0), .ref mp, .ref mpu, .int (iI 0), .ref ms, .long (lI 0), .int (iI 0), .int (iI 0), .int (iI 0), .int (iI 0), .int (iI 0), .long (lI 0), .ref mpl, .int (iI 0), .ref mpd, .int (iI 0), .ref mtx, .int (iI 0), .int (iI 0), .int (iI (-1)), .int (iI (-1)), .int (iI 0), .ref mtd, .int (iI 0), .ref mrw, .ref mrl, .ref mir])), (mg, .inl (k 0, 1460, .inl (aI g0F)))] H → va_D (va_A [] s.heap.size) [(h0, .inr (10, [.ref hn, .ref g1, .ref g2, .ref hea, .ref g3, .ref g4, .ref g5, .ref g6, .ref g7, .int (iI 0), .int (iI 0), .int (iI 0), .int (iI (-1)), .int (iI (-1)), .int (iI 0)])), (hn, .inr (2, [.ref xa1, .ref xa2, .ref xa3, .ref xa5, .ref xa8, .int (iI 0), .int (iI 0), .int (iI 0)])), (hout, .inl (k 1, 1, .inr (.inl (aL aZ)))), (m0, .inr (11, [.ref mg, .long (lI 0), .ref mk, .long (lI 0), .int (iI 0), .ref mp, .ref mpu, .int (iI 0), .ref ms, .long (lI 0), .int (iI 0), .int (iI 0), .int (iI 0), .int (iI 0), .int (iI 0), .long (lI 0), .ref mpl, .int (iI 0), .ref mpd, .int (iI 0), .ref mtx, .int (iI 0), .int (iI 0), .int (iI (-1)), .int (iI (-1)), .int (iI 0), .ref mtd, .int (iI 0), .ref mrw, .ref mrl, .ref mir])), (mg, .inl (k 0, 1460, .inl (aI g0F)))] → va_S (va_A [] s.heap.size) s.heap H locs → ∀ ls : Array Slot, lv_has ls 9 [(5, .int (iI 0)), (4, .ref hoD), (3, .ref hout), (2, .ref m0), (1, .ref h0), (0, .ref bS)] → W p l e room_1 s mI #[Value.ref bS] below meth cO H locs 173 27875 (lw_Z below #[Value.ref bS] s) (F0 mI 336 ls []) := by
  intro H locs hP hD hS ls hl
  obtain ⟨hx, hb, hr, hml, hown0, hts0, hX, hbl, hlocks, hgv⟩ := id C0
  have hts : ∀ w ∈ wsL_law, w.before #[Value.ref bS] s = true := fun w h => hts0 w (wsL_law_in w h)
  have hown : s.vm.findClass RL = some mI.cls := hown0
  generalize hAe : va_A [] s.heap.size = A at hE hD hS
  have hA : ∀ q : Nat, s.heap.size ≤ q → A q := fun q h => by rw [← hAe]; exact Or.inr h
  have hbA : ¬ A bS := fa_A hAe hbl
  obtain ⟨hK, hNw, hNc, hZs, hAO1, hAO2⟩ := id hE
  have hSF : CallFix p mI cO cL_law 9 s ([.ref bS] : List Value).toArray wsL_law RL := ⟨hx, hb, hml, hown, hts⟩
  refine lv_aload_n hx hb dL_law_336 rfl (lv_at hl 4 rfl) ?_
  refine lv_aload_n hx hb dL_law_337 rfl (lv_at hl 5 rfl) ?_
  refine lv_iload hx hb dL_law_338 (lv_at hl 0 rfl) ?_
  refine q_iconst hx hb dL_law_340 ?_
  refine q_iadd (z := 1) hx hb dL_law_341 (by omega) ?_
  refine va_sld hx hb hX hbl hbA hS (iI_in (by omega)) dL_law_342 ?_
  rw [show (iI 1).toNatClampNeg = 1 from by decide, x1]
  refine lv_aload_n hx hb dL_law_343 rfl (lv_at hl 2 rfl) ?_
  refine ki (vx_runSW (As := [.ref h0, .int (iI 2), .ref hout]) (rest := []) hSF ((c_L_date_2 l dC dI k hout h0 hn g1 g2 hea g3 g4 g5 g6 g7 xa1 xa2 xa3 0 xa5 0 0 xa8 0 0 0) H.size) (vx_cwSW 3 hts gL_law_L_date rfl rfl rfl (by decide +kernel) ⟨Nat.le_of_ble_eq_true rfl, Nat.le_of_ble_eq_true rfl⟩) (preS hP hD hE hS hA [0, 1, 2] rfl (by decide)) rfl rfl hl.1 rfl (lv_room (Nat.le_of_ble_eq_true rfl)) dL_law_344 ⟨Nat.le_of_ble_eq_true rfl, Nat.le_of_ble_eq_true rfl⟩) hP hD hS hA [0, 1, 2] [3, 4] rfl (wr := [(m0, .inr (11, [.ref mg, .long (lI 0), .ref mk, .long (lI 0), .int (iI 0), .ref mp, .ref mpu, .int (iI 0), .ref ms, .long (lI 0), .int (iI 0), .int (iI 0), .int (iI 0), .int (iI 0), .int (iI 0), .long (lI 0), .ref mpl, .int (iI 0), .ref mpd, .int (iI 0), .ref mtx, .int (iI 0), .int (iI 0), .int (iI (-1)), .int (iI (-1)), .int (iI 0), .ref mtd, .int (iI 0), .ref mrw, .ref mrl, .ref mir])), (mg, .inl (k 0, 1460, .inl (aI g0F)))]) rfl (by decide) (by decide) (fun r344 _ H locs hw hP hD hS => ?_)
  obtain rfl : r344 = (iI 0) := hw
  have hP : va_P (dC, dI) vwCl [(m0, .inr (11, [.ref mg, .long (lI 0), .ref mk, .long (lI 0), .int (iI 0), .ref mp, .ref mpu, .int (iI 0), .ref ms, .long (lI 0), .int (iI 0), .int (iI 0), .int (iI 0), .int (iI 0), .int (iI 0), .long (lI 0), .ref mpl, .int (iI 0), .ref mpd, .int (iI 0), .ref mtx, .int (iI 0), .int (iI 0), .int (iI (-1)), .int (iI (-1)), .int (iI 0), .ref mtd, .int (iI 0), .ref mrw, .ref mrl, .ref mir])), (mg, .inl (k 0, 1460, .inl (aI g0F))), (hout, .inl (k 1, 1, .inr (.inl (aL (upI aZ 0 0)))))] H := hP
  have hD : va_D A [(m0, .inr (11, [.ref mg, .long (lI 0), .ref mk, .long (lI 0), .int (iI 0), .ref mp, .ref mpu, .int (iI 0), .ref ms, .long (lI 0), .int (iI 0), .int (iI 0), .int (iI 0), .int (iI 0), .int (iI 0), .long (lI 0), .ref mpl, .int (iI 0), .ref mpd, .int (iI 0), .ref mtx, .int (iI 0), .int (iI 0), .int (iI (-1)), .int (iI (-1)), .int (iI 0), .ref mtd, .int (iI 0), .ref mrw, .ref mrl, .ref mir])), (mg, .inl (k 0, 1460, .inl (aI g0F))), (hout, .inl (k 1, 1, .inr (.inl (aL (upI aZ 0 0)))))] := hD
  refine lv_istore (lv' := [(6, .int (iI 0)), (5, .int (iI 0)), (4, .ref hoD), (3, .ref hout), (2, .ref m0), (1, .ref h0), (0, .ref bS)]) hx hb dL_law_347 hl (by decide) rfl (fun ls hl => ?_)
  refine lv_aload_n hx hb dL_law_349 rfl (lv_at hl 4 rfl) ?_
  refine lv_aload_n hx hb dL_law_350 rfl (lv_at hl 6 rfl) ?_
  refine lv_iload hx hb dL_law_351 (lv_at hl 1 rfl) ?_
  refine q_iconst hx hb dL_law_353 ?_
  refine q_iadd (z := 1) hx hb dL_law_354 (by omega) ?_
  refine va_sld hx hb hX hbl hbA hS (iI_in (by omega)) dL_law_355 ?_
  rw [show (iI 1).toNatClampNeg = 1 from by decide, x1]
  refine ki (va_runV (As := [.int (iI 2)]) (rest := []) hSF ((c_X11_date_2 l dC dI k m0 mg mk mp mpu ms mpl mpd mtx mtd mrw mrl mir) H.size) (cwV 1 hts gL_law_X11_date rfl rfl rfl (by decide +kernel) ⟨Nat.le_of_ble_eq_true rfl, Nat.le_of_ble_eq_true rfl⟩) (preV hP hD hE hS hA [0, 1] rfl (by decide) (ci := 11) (q0 := 0) rfl rfl) rfl rfl hl.1 rfl (lv_room (Nat.le_of_ble_eq_true rfl)) dL_law_356 ⟨Nat.le_of_ble_eq_true rfl, Nat.le_of_ble_eq_true rfl⟩) hP hD hS hA [0, 1] [2] rfl (wr := [(hout, .inl (k 1, 1, .inr (.inl (aL (upI aZ 0 0)))))]) rfl (by decide) (by decide) (fun r356 _ H locs hw hP hD hS => ?_)
  obtain rfl : r356 = (iI 0) := hw
  have hP : va_P (dC, dI) vwCl [(hout, .inl (k 1, 1, .inr (.inl (aL (upI aZ 0 0))))), (m0, .inr (11, [.ref mg, .long (lI 0), .ref mk, .long (lI 0), .int (iI 0), .ref mp, .ref mpu, .int (iI 0), .ref ms, .long (lI 0), .int (iI 0), .int (iI 0), .int (iI 0), .int (iI 0), .int (iI 0), .long (lI 0), .ref mpl, .int (iI 0), .ref mpd, .int (iI 0), .ref mtx, .int (iI 0), .int (iI 0), .int (iI (-1)), .int (iI (-1)), .int (iI 0), .ref mtd, .int (iI 0), .ref mrw, .ref mrl, .ref mir]))] H := hP
  have hD : va_D A [(hout, .inl (k 1, 1, .inr (.inl (aL (upI aZ 0 0))))), (m0, .inr (11, [.ref mg, .long (lI 0), .ref mk, .long (lI 0), .int (iI 0), .ref mp, .ref mpu, .int (iI 0), .ref ms, .long (lI 0), .int (iI 0), .int (iI 0), .int (iI 0), .int (iI 0), .int (iI 0), .long (lI 0), .ref mpl, .int (iI 0), .ref mpd, .int (iI 0), .ref mtx, .int (iI 0), .int (iI 0), .int (iI (-1)), .int (iI (-1)), .int (iI 0), .ref mtd, .int (iI 0), .ref mrw, .ref mrl, .ref mir]))] := hD
  refine lv_istore (lv' := [(7, .int (iI 0)), (6, .int (iI 0)), (5, .int (iI 0)), (4, .ref hoD), (3, .ref hout), (2, .ref m0), (1, .ref h0), (0, .ref bS)]) hx hb dL_law_359 hl (by decide) rfl (fun ls hl => ?_)
  refine lv_aload_n hx hb dL_law_361 rfl (lv_at hl 5 rfl) ?_
  refine ki (va_runV (As := []) (rest := []) hSF ((c_X11_thrown l dC dI k m0 (.ref mg) (.long (lI 0)) (.ref mk) (.long (lI 0)) (.int (iI 0)) (.ref mp) (.ref mpu) (.int (iI 0)) (.ref ms) (.long (lI 0)) (.int (iI 0)) 0 [.int (iI 0), .int (iI 0), .int (iI 0), .long (lI 0), .ref mpl, .int (iI 0), .ref mpd, .int (iI 0), .ref mtx, .int (iI 0), .int (iI 0), .int (iI (-1)), .int (iI (-1)), .int (iI 0), .ref mtd, .int (iI 0), .ref mrw, .ref mrl, .ref mir]) H.size) (cwV 0 hts gL_law_X11_thrown rfl rfl rfl (by decide +kernel) ⟨Nat.le_of_ble_eq_true rfl, Nat.le_of_ble_eq_true rfl⟩) (preV hP hD hE hS hA [1] rfl (by decide) (ci := 11) (q0 := 1) rfl rfl) rfl rfl hl.1 rfl (lv_room (Nat.le_of_ble_eq_true rfl)) dL_law_362 ⟨Nat.le_of_ble_eq_true rfl, Nat.le_of_ble_eq_true rfl⟩) hP hD hS hA [1] [0] rfl (wr := [(hout, .inl (k 1, 1, .inr (.inl (aL (upI aZ 0 0)))))]) rfl (by decide) (by decide) (fun r362 _ H locs hw hP hD hS => ?_)
  obtain rfl : r362 = (iI 0) := hw
  have hP : va_P (dC, dI) vwCl [(hout, .inl (k 1, 1, .inr (.inl (aL (upI aZ 0 0))))), (m0, .inr (11, [.ref mg, .long (lI 0), .ref mk, .long (lI 0), .int (iI 0), .ref mp, .ref mpu, .int (iI 0), .ref ms, .long (lI 0), .int (iI 0), .int (iI 0), .int (iI 0), .int (iI 0), .int (iI 0), .long (lI 0), .ref mpl, .int (iI 0), .ref mpd, .int (iI 0), .ref mtx, .int (iI 0), .int (iI 0), .int (iI (-1)), .int (iI (-1)), .int (iI 0), .ref mtd, .int (iI 0), .ref mrw, .ref mrl, .ref mir]))] H := hP
  have hD : va_D A [(hout, .inl (k 1, 1, .inr (.inl (aL (upI aZ 0 0))))), (m0, .inr (11, [.ref mg, .long (lI 0), .ref mk, .long (lI 0), .int (iI 0), .ref mp, .ref mpu, .int (iI 0), .ref ms, .long (lI 0), .int (iI 0), .int (iI 0), .int (iI 0), .int (iI 0), .int (iI 0), .long (lI 0), .ref mpl, .int (iI 0), .ref mpd, .int (iI 0), .ref mtx, .int (iI 0), .int (iI 0), .int (iI (-1)), .int (iI (-1)), .int (iI 0), .ref mtd, .int (iI 0), .ref mrw, .ref mrl, .ref mir]))] := hD
  refine lv_iload hx hb dL_law_365 (lv_at hl 1 rfl) ?_
  refine q_icmp_eq (tgt := 372) hx hb dL_law_367 (by decide) (by omega) (fun _ => ?_) (fun q => absurd q (by omega))
  refine lv_iload hx hb dL_law_372 (lv_at hl 1 rfl) ?_
  refine q_if_ne (tgt := 389) hx hb dL_law_374 (by decide) (by omega) (fun q => absurd q (by omega)) (fun _ => ?_)
  refine lv_aload_n hx hb dL_law_377 rfl (lv_at hl 4 rfl) ?_
  refine q_iconst hx hb dL_law_378 ?_
  refine q_lald (z := 0) hx hb hK hP 0 1 rfl rfl (by omega) upI_s dL_law_379 ?_
  refine lv_iload hx hb dL_law_380 (lv_at hl 0 rfl) ?_
  refine q_i2l hx hb dL_law_382 (by omega) ?_
  refine q_lcmp hx hb dL_law_383 ?_
  refine q_lif_eq (tgt := 389) hx hb dL_law_384 (by decide) (by omega) (fun _ => ?_) (fun q => absurd q (by omega))
  refine lv_goto (tgt := 1935) hx hb dL_law_389 (by decide) ?_
  exact law_end l hL5 C0 hAe hS (lv_sub hl [2, 7] rfl) (Nat.le_of_ble_eq_true rfl) (Nat.le_of_ble_eq_true rfl)
set_option maxHeartbeats 4000000 in
set_option maxRecDepth 100000 in
theorem law_2_3 (l : Launch) (dC : Nat → ClassId) (dI : Nat → Nat → Nat) (k : Nat → ClassId) {p : Program} {e : Env} {s : State} {mI : MethodId} {below : List Frame} {meth : Method} {cO : Code} {bS L : Nat} {zs : Nat → Int32} (hL5 : L = 5) (C0 : lw_At p s mI meth cO bS L zs) (hE : En (dC, dI) k (va_A [] s.heap.size) s s.heap) (hout : Nat) (h0 hn g1 g2 hea g3 g4 g5 g6 g7 xa1 xa2 xa3 xa4 xa5 xa6 xa7 xa8 xa9 xa10 xa11 : Nat) (m0 mg mk mp mpu ms mpl mpd mtx mtd mrw mrl mir hoD : Nat) (x1 : zs 1 = iI 3) : ∀ (H : Heap) (locs : List Loc), va_P (dC, dI) vwCl [(h0, .inr (10, [.ref hn, .ref g1, .ref g2, .ref hea, .ref g3, .ref g4, .ref g5, .ref g6, .ref g7, .int (iI 0), .int (iI 0), .int (iI 0), .int (iI (-1)), .int (iI (-1)), .int (iI 0)])), (hn, .inr (2, [.ref xa1, .ref xa2, .ref xa3, .ref xa5, .ref xa8, .int (iI 0), .int (iI 0), .int (iI 0)])), (hout, .inl (k 1, 1, .inr (.inl (aL aZ)))), (m0, .inr (11, [.ref mg, .long (lI 0), .ref mk, .long (lI 0), .int (iI 0), .ref mp, .ref mpu, .int (iI 0), .ref ms, .long (lI 0), .int (iI 0), .int (iI 0), .int (iI 0), .int (iI 0), .int (iI 0), .long (lI 0), .ref mpl, .int (iI 0), .ref mpd, .int (iI 0), .ref mtx, .int (iI 0), .int (iI 0), .int (iI (-1)), .int (iI (-1)), .int (iI 0), .ref mtd, .int (iI 0), .ref mrw, .ref mrl, .ref mir])), (mg, .inl (k 0, 1460, .inl (aI g0F)))] H → va_D (va_A [] s.heap.size) [(h0, .inr (10, [.ref hn, .ref g1, .ref g2, .ref hea, .ref g3, .ref g4, .ref g5, .ref g6, .ref g7, .int (iI 0), .int (iI 0), .int (iI 0), .int (iI (-1)), .int (iI (-1)), .int (iI 0)])), (hn, .inr (2, [.ref xa1, .ref xa2, .ref xa3, .ref xa5, .ref xa8, .int (iI 0), .int (iI 0), .int (iI 0)])), (hout, .inl (k 1, 1, .inr (.inl (aL aZ)))), (m0, .inr (11, [.ref mg, .long (lI 0), .ref mk, .long (lI 0), .int (iI 0), .ref mp, .ref mpu, .int (iI 0), .ref ms, .long (lI 0), .int (iI 0), .int (iI 0), .int (iI 0), .int (iI 0), .int (iI 0), .long (lI 0), .ref mpl, .int (iI 0), .ref mpd, .int (iI 0), .ref mtx, .int (iI 0), .int (iI 0), .int (iI (-1)), .int (iI (-1)), .int (iI 0), .ref mtd, .int (iI 0), .ref mrw, .ref mrl, .ref mir])), (mg, .inl (k 0, 1460, .inl (aI g0F)))] → va_S (va_A [] s.heap.size) s.heap H locs → ∀ ls : Array Slot, lv_has ls 9 [(5, .int (iI 0)), (4, .ref hoD), (3, .ref hout), (2, .ref m0), (1, .ref h0), (0, .ref bS)] → W p l e room_1 s mI #[Value.ref bS] below meth cO H locs 173 27875 (lw_Z below #[Value.ref bS] s) (F0 mI 336 ls []) := by
  intro H locs hP hD hS ls hl
  obtain ⟨hx, hb, hr, hml, hown0, hts0, hX, hbl, hlocks, hgv⟩ := id C0
  have hts : ∀ w ∈ wsL_law, w.before #[Value.ref bS] s = true := fun w h => hts0 w (wsL_law_in w h)
  have hown : s.vm.findClass RL = some mI.cls := hown0
  generalize hAe : va_A [] s.heap.size = A at hE hD hS
  have hA : ∀ q : Nat, s.heap.size ≤ q → A q := fun q h => by rw [← hAe]; exact Or.inr h
  have hbA : ¬ A bS := fa_A hAe hbl
  obtain ⟨hK, hNw, hNc, hZs, hAO1, hAO2⟩ := id hE
  have hSF : CallFix p mI cO cL_law 9 s ([.ref bS] : List Value).toArray wsL_law RL := ⟨hx, hb, hml, hown, hts⟩
  refine lv_aload_n hx hb dL_law_336 rfl (lv_at hl 4 rfl) ?_
  refine lv_aload_n hx hb dL_law_337 rfl (lv_at hl 5 rfl) ?_
  refine lv_iload hx hb dL_law_338 (lv_at hl 0 rfl) ?_
  refine q_iconst hx hb dL_law_340 ?_
  refine q_iadd (z := 1) hx hb dL_law_341 (by omega) ?_
  refine va_sld hx hb hX hbl hbA hS (iI_in (by omega)) dL_law_342 ?_
  rw [show (iI 1).toNatClampNeg = 1 from by decide, x1]
  refine lv_aload_n hx hb dL_law_343 rfl (lv_at hl 2 rfl) ?_
  refine ki (vx_runSW (As := [.ref h0, .int (iI 3), .ref hout]) (rest := []) hSF ((c_L_date_3 l dC dI k hout h0 hn g1 g2 hea g3 g4 g5 g6 g7 xa1 xa2 xa3 0 xa5 0 0 xa8 0 0 0) H.size) (vx_cwSW 3 hts gL_law_L_date rfl rfl rfl (by decide +kernel) ⟨Nat.le_of_ble_eq_true rfl, Nat.le_of_ble_eq_true rfl⟩) (preS hP hD hE hS hA [0, 1, 2] rfl (by decide)) rfl rfl hl.1 rfl (lv_room (Nat.le_of_ble_eq_true rfl)) dL_law_344 ⟨Nat.le_of_ble_eq_true rfl, Nat.le_of_ble_eq_true rfl⟩) hP hD hS hA [0, 1, 2] [3, 4] rfl (wr := [(m0, .inr (11, [.ref mg, .long (lI 0), .ref mk, .long (lI 0), .int (iI 0), .ref mp, .ref mpu, .int (iI 0), .ref ms, .long (lI 0), .int (iI 0), .int (iI 0), .int (iI 0), .int (iI 0), .int (iI 0), .long (lI 0), .ref mpl, .int (iI 0), .ref mpd, .int (iI 0), .ref mtx, .int (iI 0), .int (iI 0), .int (iI (-1)), .int (iI (-1)), .int (iI 0), .ref mtd, .int (iI 0), .ref mrw, .ref mrl, .ref mir])), (mg, .inl (k 0, 1460, .inl (aI g0F)))]) rfl (by decide) (by decide) (fun r344 _ H locs hw hP hD hS => ?_)
  obtain rfl : r344 = (iI 0) := hw
  have hP : va_P (dC, dI) vwCl [(m0, .inr (11, [.ref mg, .long (lI 0), .ref mk, .long (lI 0), .int (iI 0), .ref mp, .ref mpu, .int (iI 0), .ref ms, .long (lI 0), .int (iI 0), .int (iI 0), .int (iI 0), .int (iI 0), .int (iI 0), .long (lI 0), .ref mpl, .int (iI 0), .ref mpd, .int (iI 0), .ref mtx, .int (iI 0), .int (iI 0), .int (iI (-1)), .int (iI (-1)), .int (iI 0), .ref mtd, .int (iI 0), .ref mrw, .ref mrl, .ref mir])), (mg, .inl (k 0, 1460, .inl (aI g0F))), (hout, .inl (k 1, 1, .inr (.inl (aL (upI aZ 0 1)))))] H := hP
  have hD : va_D A [(m0, .inr (11, [.ref mg, .long (lI 0), .ref mk, .long (lI 0), .int (iI 0), .ref mp, .ref mpu, .int (iI 0), .ref ms, .long (lI 0), .int (iI 0), .int (iI 0), .int (iI 0), .int (iI 0), .int (iI 0), .long (lI 0), .ref mpl, .int (iI 0), .ref mpd, .int (iI 0), .ref mtx, .int (iI 0), .int (iI 0), .int (iI (-1)), .int (iI (-1)), .int (iI 0), .ref mtd, .int (iI 0), .ref mrw, .ref mrl, .ref mir])), (mg, .inl (k 0, 1460, .inl (aI g0F))), (hout, .inl (k 1, 1, .inr (.inl (aL (upI aZ 0 1)))))] := hD
  refine lv_istore (lv' := [(6, .int (iI 0)), (5, .int (iI 0)), (4, .ref hoD), (3, .ref hout), (2, .ref m0), (1, .ref h0), (0, .ref bS)]) hx hb dL_law_347 hl (by decide) rfl (fun ls hl => ?_)
  refine lv_aload_n hx hb dL_law_349 rfl (lv_at hl 4 rfl) ?_
  refine lv_aload_n hx hb dL_law_350 rfl (lv_at hl 6 rfl) ?_
  refine lv_iload hx hb dL_law_351 (lv_at hl 1 rfl) ?_
  refine q_iconst hx hb dL_law_353 ?_
  refine q_iadd (z := 1) hx hb dL_law_354 (by omega) ?_
  refine va_sld hx hb hX hbl hbA hS (iI_in (by omega)) dL_law_355 ?_
  rw [show (iI 1).toNatClampNeg = 1 from by decide, x1]
  refine ki (va_runV (As := [.int (iI 3)]) (rest := []) hSF ((c_X11_date_3 l dC dI k m0 mg mk mp mpu ms mpl mpd mtx mtd mrw mrl mir) H.size) (cwV 1 hts gL_law_X11_date rfl rfl rfl (by decide +kernel) ⟨Nat.le_of_ble_eq_true rfl, Nat.le_of_ble_eq_true rfl⟩) (preV hP hD hE hS hA [0, 1] rfl (by decide) (ci := 11) (q0 := 0) rfl rfl) rfl rfl hl.1 rfl (lv_room (Nat.le_of_ble_eq_true rfl)) dL_law_356 ⟨Nat.le_of_ble_eq_true rfl, Nat.le_of_ble_eq_true rfl⟩) hP hD hS hA [0, 1] [2] rfl (wr := [(hout, .inl (k 1, 1, .inr (.inl (aL (upI aZ 0 1)))))]) rfl (by decide) (by decide) (fun r356 _ H locs hw hP hD hS => ?_)
  obtain rfl : r356 = (iI 1) := hw
  have hP : va_P (dC, dI) vwCl [(hout, .inl (k 1, 1, .inr (.inl (aL (upI aZ 0 1))))), (m0, .inr (11, [.ref mg, .long (lI 0), .ref mk, .long (lI 0), .int (iI 0), .ref mp, .ref mpu, .int (iI 0), .ref ms, .long (lI 0), .int (iI 0), .int (iI 0), .int (iI 0), .int (iI 0), .int (iI 0), .long (lI 0), .ref mpl, .int (iI 0), .ref mpd, .int (iI 0), .ref mtx, .int (iI 0), .int (iI 0), .int (iI (-1)), .int (iI (-1)), .int (iI 0), .ref mtd, .int (iI 0), .ref mrw, .ref mrl, .ref mir]))] H := hP
  have hD : va_D A [(hout, .inl (k 1, 1, .inr (.inl (aL (upI aZ 0 1))))), (m0, .inr (11, [.ref mg, .long (lI 0), .ref mk, .long (lI 0), .int (iI 0), .ref mp, .ref mpu, .int (iI 0), .ref ms, .long (lI 0), .int (iI 0), .int (iI 0), .int (iI 0), .int (iI 0), .int (iI 0), .long (lI 0), .ref mpl, .int (iI 0), .ref mpd, .int (iI 0), .ref mtx, .int (iI 0), .int (iI 0), .int (iI (-1)), .int (iI (-1)), .int (iI 0), .ref mtd, .int (iI 0), .ref mrw, .ref mrl, .ref mir]))] := hD
  refine lv_istore (lv' := [(7, .int (iI 1)), (6, .int (iI 0)), (5, .int (iI 0)), (4, .ref hoD), (3, .ref hout), (2, .ref m0), (1, .ref h0), (0, .ref bS)]) hx hb dL_law_359 hl (by decide) rfl (fun ls hl => ?_)
  refine lv_aload_n hx hb dL_law_361 rfl (lv_at hl 5 rfl) ?_
  refine ki (va_runV (As := []) (rest := []) hSF ((c_X11_thrown l dC dI k m0 (.ref mg) (.long (lI 0)) (.ref mk) (.long (lI 0)) (.int (iI 0)) (.ref mp) (.ref mpu) (.int (iI 0)) (.ref ms) (.long (lI 0)) (.int (iI 0)) 0 [.int (iI 0), .int (iI 0), .int (iI 0), .long (lI 0), .ref mpl, .int (iI 0), .ref mpd, .int (iI 0), .ref mtx, .int (iI 0), .int (iI 0), .int (iI (-1)), .int (iI (-1)), .int (iI 0), .ref mtd, .int (iI 0), .ref mrw, .ref mrl, .ref mir]) H.size) (cwV 0 hts gL_law_X11_thrown rfl rfl rfl (by decide +kernel) ⟨Nat.le_of_ble_eq_true rfl, Nat.le_of_ble_eq_true rfl⟩) (preV hP hD hE hS hA [1] rfl (by decide) (ci := 11) (q0 := 1) rfl rfl) rfl rfl hl.1 rfl (lv_room (Nat.le_of_ble_eq_true rfl)) dL_law_362 ⟨Nat.le_of_ble_eq_true rfl, Nat.le_of_ble_eq_true rfl⟩) hP hD hS hA [1] [0] rfl (wr := [(hout, .inl (k 1, 1, .inr (.inl (aL (upI aZ 0 1)))))]) rfl (by decide) (by decide) (fun r362 _ H locs hw hP hD hS => ?_)
  obtain rfl : r362 = (iI 0) := hw
  have hP : va_P (dC, dI) vwCl [(hout, .inl (k 1, 1, .inr (.inl (aL (upI aZ 0 1))))), (m0, .inr (11, [.ref mg, .long (lI 0), .ref mk, .long (lI 0), .int (iI 0), .ref mp, .ref mpu, .int (iI 0), .ref ms, .long (lI 0), .int (iI 0), .int (iI 0), .int (iI 0), .int (iI 0), .int (iI 0), .long (lI 0), .ref mpl, .int (iI 0), .ref mpd, .int (iI 0), .ref mtx, .int (iI 0), .int (iI 0), .int (iI (-1)), .int (iI (-1)), .int (iI 0), .ref mtd, .int (iI 0), .ref mrw, .ref mrl, .ref mir]))] H := hP
  have hD : va_D A [(hout, .inl (k 1, 1, .inr (.inl (aL (upI aZ 0 1))))), (m0, .inr (11, [.ref mg, .long (lI 0), .ref mk, .long (lI 0), .int (iI 0), .ref mp, .ref mpu, .int (iI 0), .ref ms, .long (lI 0), .int (iI 0), .int (iI 0), .int (iI 0), .int (iI 0), .int (iI 0), .long (lI 0), .ref mpl, .int (iI 0), .ref mpd, .int (iI 0), .ref mtx, .int (iI 0), .int (iI 0), .int (iI (-1)), .int (iI (-1)), .int (iI 0), .ref mtd, .int (iI 0), .ref mrw, .ref mrl, .ref mir]))] := hD
  refine lv_iload hx hb dL_law_365 (lv_at hl 1 rfl) ?_
  refine q_icmp_eq (tgt := 372) hx hb dL_law_367 (by decide) (by omega) (fun _ => ?_) (fun q => absurd q (by omega))
  refine lv_iload hx hb dL_law_372 (lv_at hl 1 rfl) ?_
  refine q_if_ne (tgt := 389) hx hb dL_law_374 (by decide) (by omega) (fun q => absurd q (by omega)) (fun _ => ?_)
  refine lv_aload_n hx hb dL_law_377 rfl (lv_at hl 4 rfl) ?_
  refine q_iconst hx hb dL_law_378 ?_
  refine q_lald (z := 1) hx hb hK hP 0 1 rfl rfl (by omega) upI_s dL_law_379 ?_
  refine lv_iload hx hb dL_law_380 (lv_at hl 0 rfl) ?_
  refine q_i2l hx hb dL_law_382 (by omega) ?_
  refine q_lcmp hx hb dL_law_383 ?_
  refine q_lif_eq (tgt := 389) hx hb dL_law_384 (by decide) (by omega) (fun _ => ?_) (fun q => absurd q (by omega))
  refine lv_goto (tgt := 1935) hx hb dL_law_389 (by decide) ?_
  exact law_end l hL5 C0 hAe hS (lv_sub hl [2, 7] rfl) (Nat.le_of_ble_eq_true rfl) (Nat.le_of_ble_eq_true rfl)
set_option maxHeartbeats 4000000 in
set_option maxRecDepth 100000 in
theorem law_2_x (l : Launch) (hl0 : l.stackTraces = false) (dC : Nat → ClassId) (dI : Nat → Nat → Nat) (k : Nat → ClassId) {p : Program} {e : Env} {s : State} {mI : MethodId} {below : List Frame} {meth : Method} {cO : Code} {bS L : Nat} {zs : Nat → Int32} (hL5 : L = 5) (C0 : lw_At p s mI meth cO bS L zs) (hE : En (dC, dI) k (va_A [] s.heap.size) s s.heap) (hout : Nat) (h0 hn g1 g2 hea g3 g4 g5 g6 g7 xa1 xa2 xa3 xa4 xa5 xa6 xa7 xa8 xa9 xa10 xa11 : Nat) (xv : Int) (hv9 : -2147483648 ≤ xv ∧ xv ≤ 2147483647) (hv : ¬ (0 ≤ xv ∧ xv ≤ 3)) (m0 mg mk mp mpu ms mpl mpd mtx mtd mrw mrl mir hoD : Nat) (x1 : zs 1 = iI xv) : ∀ (H : Heap) (locs : List Loc), va_P (dC, dI) vwCl [(h0, .inr (10, [.ref hn, .ref g1, .ref g2, .ref hea, .ref g3, .ref g4, .ref g5, .ref g6, .ref g7, .int (iI 0), .int (iI 0), .int (iI 0), .int (iI (-1)), .int (iI (-1)), .int (iI 0)])), (hout, .inl (k 1, 1, .inr (.inl (aL aZ)))), (m0, .inr (11, [.ref mg, .long (lI 0), .ref mk, .long (lI 0), .int (iI 0), .ref mp, .ref mpu, .int (iI 0), .ref ms, .long (lI 0), .int (iI 0), .int (iI 0), .int (iI 0), .int (iI 0), .int (iI 0), .long (lI 0), .ref mpl, .int (iI 0), .ref mpd, .int (iI 0), .ref mtx, .int (iI 0), .int (iI 0), .int (iI (-1)), .int (iI (-1)), .int (iI 0), .ref mtd, .int (iI 0), .ref mrw, .ref mrl, .ref mir])), (mg, .inl (k 0, 1460, .inl (aI g0F)))] H → va_D (va_A [] s.heap.size) [(h0, .inr (10, [.ref hn, .ref g1, .ref g2, .ref hea, .ref g3, .ref g4, .ref g5, .ref g6, .ref g7, .int (iI 0), .int (iI 0), .int (iI 0), .int (iI (-1)), .int (iI (-1)), .int (iI 0)])), (hout, .inl (k 1, 1, .inr (.inl (aL aZ)))), (m0, .inr (11, [.ref mg, .long (lI 0), .ref mk, .long (lI 0), .int (iI 0), .ref mp, .ref mpu, .int (iI 0), .ref ms, .long (lI 0), .int (iI 0), .int (iI 0), .int (iI 0), .int (iI 0), .int (iI 0), .long (lI 0), .ref mpl, .int (iI 0), .ref mpd, .int (iI 0), .ref mtx, .int (iI 0), .int (iI 0), .int (iI (-1)), .int (iI (-1)), .int (iI 0), .ref mtd, .int (iI 0), .ref mrw, .ref mrl, .ref mir])), (mg, .inl (k 0, 1460, .inl (aI g0F)))] → va_S (va_A [] s.heap.size) s.heap H locs → ∀ ls : Array Slot, lv_has ls 9 [(5, .int (iI 0)), (4, .ref hoD), (3, .ref hout), (2, .ref m0), (1, .ref h0), (0, .ref bS)] → W p l e room_1 s mI #[Value.ref bS] below meth cO H locs 173 27875 (lw_Z below #[Value.ref bS] s) (F0 mI 336 ls []) := by
  intro H locs hP hD hS ls hl
  obtain ⟨hx, hb, hr, hml, hown0, hts0, hX, hbl, hlocks, hgv⟩ := id C0
  have hts : ∀ w ∈ wsL_law, w.before #[Value.ref bS] s = true := fun w h => hts0 w (wsL_law_in w h)
  have hown : s.vm.findClass RL = some mI.cls := hown0
  generalize hAe : va_A [] s.heap.size = A at hE hD hS
  have hA : ∀ q : Nat, s.heap.size ≤ q → A q := fun q h => by rw [← hAe]; exact Or.inr h
  have hbA : ¬ A bS := fa_A hAe hbl
  obtain ⟨hK, hNw, hNc, hZs, hAO1, hAO2⟩ := id hE
  have hSF : CallFix p mI cO cL_law 9 s ([.ref bS] : List Value).toArray wsL_law RL := ⟨hx, hb, hml, hown, hts⟩
  refine lv_aload_n hx hb dL_law_336 rfl (lv_at hl 4 rfl) ?_
  refine lv_aload_n hx hb dL_law_337 rfl (lv_at hl 5 rfl) ?_
  refine lv_iload hx hb dL_law_338 (lv_at hl 0 rfl) ?_
  refine q_iconst hx hb dL_law_340 ?_
  refine q_iadd (z := 1) hx hb dL_law_341 (by omega) ?_
  refine va_sld hx hb hX hbl hbA hS (iI_in (by omega)) dL_law_342 ?_
  rw [show (iI 1).toNatClampNeg = 1 from by decide, x1]
  refine lv_aload_n hx hb dL_law_343 rfl (lv_at hl 2 rfl) ?_
  refine ki (vx_runSW (As := [.ref h0, .int (iI xv), .ref hout]) (rest := []) hSF ((c_L_date_x l hl0 dC dI k hout h0 hn g1 g2 hea g3 g4 g5 g6 g7 0 0 0 0 0 0 0 0 0 0 0 xv (by omega) (by omega)) H.size) (vx_cwSW 3 hts gL_law_L_date rfl rfl rfl (by decide +kernel) ⟨Nat.le_of_ble_eq_true rfl, Nat.le_of_ble_eq_true rfl⟩) (preS hP hD hE hS hA [0, 1] rfl (by decide)) rfl rfl hl.1 rfl (lv_room (Nat.le_of_ble_eq_true rfl)) dL_law_344 ⟨Nat.le_of_ble_eq_true rfl, Nat.le_of_ble_eq_true rfl⟩) hP hD hS hA [0, 1] [2, 3] rfl (wr := [(m0, .inr (11, [.ref mg, .long (lI 0), .ref mk, .long (lI 0), .int (iI 0), .ref mp, .ref mpu, .int (iI 0), .ref ms, .long (lI 0), .int (iI 0), .int (iI 0), .int (iI 0), .int (iI 0), .int (iI 0), .long (lI 0), .ref mpl, .int (iI 0), .ref mpd, .int (iI 0), .ref mtx, .int (iI 0), .int (iI 0), .int (iI (-1)), .int (iI (-1)), .int (iI 0), .ref mtd, .int (iI 0), .ref mrw, .ref mrl, .ref mir])), (mg, .inl (k 0, 1460, .inl (aI g0F)))]) rfl (by decide) (by decide) (fun r344 _ H locs hw hP hD hS => ?_)
  obtain rfl : r344 = (iI 1) := hw
  have hP : va_P (dC, dI) vwCl [(m0, .inr (11, [.ref mg, .long (lI 0), .ref mk, .long (lI 0), .int (iI 0), .ref mp, .ref mpu, .int (iI 0), .ref ms, .long (lI 0), .int (iI 0), .int (iI 0), .int (iI 0), .int (iI 0), .int (iI 0), .long (lI 0), .ref mpl, .int (iI 0), .ref mpd, .int (iI 0), .ref mtx, .int (iI 0), .int (iI 0), .int (iI (-1)), .int (iI (-1)), .int (iI 0), .ref mtd, .int (iI 0), .ref mrw, .ref mrl, .ref mir])), (mg, .inl (k 0, 1460, .inl (aI g0F)))] H := hP
  have hD : va_D A [(m0, .inr (11, [.ref mg, .long (lI 0), .ref mk, .long (lI 0), .int (iI 0), .ref mp, .ref mpu, .int (iI 0), .ref ms, .long (lI 0), .int (iI 0), .int (iI 0), .int (iI 0), .int (iI 0), .int (iI 0), .long (lI 0), .ref mpl, .int (iI 0), .ref mpd, .int (iI 0), .ref mtx, .int (iI 0), .int (iI 0), .int (iI (-1)), .int (iI (-1)), .int (iI 0), .ref mtd, .int (iI 0), .ref mrw, .ref mrl, .ref mir])), (mg, .inl (k 0, 1460, .inl (aI g0F)))] := hD
  refine lv_istore (lv' := [(6, .int (iI 1)), (5, .int (iI 0)), (4, .ref hoD), (3, .ref hout), (2, .ref m0), (1, .ref h0), (0, .ref bS)]) hx hb dL_law_347 hl (by decide) rfl (fun ls hl => ?_)
  refine lv_aload_n hx hb dL_law_349 rfl (lv_at hl 4 rfl) ?_
  refine lv_aload_n hx hb dL_law_350 rfl (lv_at hl 6 rfl) ?_
  refine lv_iload hx hb dL_law_351 (lv_at hl 1 rfl) ?_
  refine q_iconst hx hb dL_law_353 ?_
  refine q_iadd (z := 1) hx hb dL_law_354 (by omega) ?_
  refine va_sld hx hb hX hbl hbA hS (iI_in (by omega)) dL_law_355 ?_
  rw [show (iI 1).toNatClampNeg = 1 from by decide, x1]
  refine ki (va_runV (As := [.int (iI xv)]) (rest := []) hSF ((c_X11_date_x l dC dI k m0 mg mk mp mpu ms mpl mpd mtx mtd mrw mrl mir xv (by omega) (by omega)) H.size) (cwV 1 hts gL_law_X11_date rfl rfl rfl (by decide +kernel) ⟨Nat.le_of_ble_eq_true rfl, Nat.le_of_ble_eq_true rfl⟩) (preV hP hD hE hS hA [0, 1] rfl (by decide) (ci := 11) (q0 := 0) rfl rfl) rfl rfl hl.1 rfl (lv_room (Nat.le_of_ble_eq_true rfl)) dL_law_356 ⟨Nat.le_of_ble_eq_true rfl, Nat.le_of_ble_eq_true rfl⟩) hP hD hS hA [0, 1] [] rfl (wr := []) rfl (by decide) (by decide) (fun r356 _ H locs hw hP hD hS => ?_)
  obtain rfl : r356 = (iI 0) := hw
  have hP : va_P (dC, dI) vwCl [(m0, .inr (11, [.ref mg, .long (lI 0), .ref mk, .long (lI 0), .int (iI 0), .ref mp, .ref mpu, .int (iI 0), .ref ms, .long (lI 0), .int (iI 0), .int (iI 1), .int (iI 0), .int (iI 0), .int (iI 0), .long (lI 0), .ref mpl, .int (iI 0), .ref mpd, .int (iI 0), .ref mtx, .int (iI 0), .int (iI 0), .int (iI (-1)), .int (iI (-1)), .int (iI 0), .ref mtd, .int (iI 0), .ref mrw, .ref mrl, .ref mir]))] H := hP
  have hD : va_D A [(m0, .inr (11, [.ref mg, .long (lI 0), .ref mk, .long (lI 0), .int (iI 0), .ref mp, .ref mpu, .int (iI 0), .ref ms, .long (lI 0), .int (iI 0), .int (iI 1), .int (iI 0), .int (iI 0), .int (iI 0), .long (lI 0), .ref mpl, .int (iI 0), .ref mpd, .int (iI 0), .ref mtx, .int (iI 0), .int (iI 0), .int (iI (-1)), .int (iI (-1)), .int (iI 0), .ref mtd, .int (iI 0), .ref mrw, .ref mrl, .ref mir]))] := hD
  refine lv_istore (lv' := [(7, .int (iI 0)), (6, .int (iI 1)), (5, .int (iI 0)), (4, .ref hoD), (3, .ref hout), (2, .ref m0), (1, .ref h0), (0, .ref bS)]) hx hb dL_law_359 hl (by decide) rfl (fun ls hl => ?_)
  refine lv_aload_n hx hb dL_law_361 rfl (lv_at hl 5 rfl) ?_
  refine ki (va_runV (As := []) (rest := []) hSF ((c_X11_thrown l dC dI k m0 (.ref mg) (.long (lI 0)) (.ref mk) (.long (lI 0)) (.int (iI 0)) (.ref mp) (.ref mpu) (.int (iI 0)) (.ref ms) (.long (lI 0)) (.int (iI 0)) 1 [.int (iI 0), .int (iI 0), .int (iI 0), .long (lI 0), .ref mpl, .int (iI 0), .ref mpd, .int (iI 0), .ref mtx, .int (iI 0), .int (iI 0), .int (iI (-1)), .int (iI (-1)), .int (iI 0), .ref mtd, .int (iI 0), .ref mrw, .ref mrl, .ref mir]) H.size) (cwV 0 hts gL_law_X11_thrown rfl rfl rfl (by decide +kernel) ⟨Nat.le_of_ble_eq_true rfl, Nat.le_of_ble_eq_true rfl⟩) (preV hP hD hE hS hA [0] rfl (by decide) (ci := 11) (q0 := 0) rfl rfl) rfl rfl hl.1 rfl (lv_room (Nat.le_of_ble_eq_true rfl)) dL_law_362 ⟨Nat.le_of_ble_eq_true rfl, Nat.le_of_ble_eq_true rfl⟩) hP hD hS hA [0] [] rfl (wr := []) rfl (by decide) (by decide) (fun r362 _ H locs hw hP hD hS => ?_)
  obtain rfl : r362 = (iI 1) := hw
  have hP : va_P (dC, dI) vwCl [(m0, .inr (11, [.ref mg, .long (lI 0), .ref mk, .long (lI 0), .int (iI 0), .ref mp, .ref mpu, .int (iI 0), .ref ms, .long (lI 0), .int (iI 0), .int (iI 1), .int (iI 0), .int (iI 0), .int (iI 0), .long (lI 0), .ref mpl, .int (iI 0), .ref mpd, .int (iI 0), .ref mtx, .int (iI 0), .int (iI 0), .int (iI (-1)), .int (iI (-1)), .int (iI 0), .ref mtd, .int (iI 0), .ref mrw, .ref mrl, .ref mir]))] H := hP
  have hD : va_D A [(m0, .inr (11, [.ref mg, .long (lI 0), .ref mk, .long (lI 0), .int (iI 0), .ref mp, .ref mpu, .int (iI 0), .ref ms, .long (lI 0), .int (iI 0), .int (iI 1), .int (iI 0), .int (iI 0), .int (iI 0), .long (lI 0), .ref mpl, .int (iI 0), .ref mpd, .int (iI 0), .ref mtx, .int (iI 0), .int (iI 0), .int (iI (-1)), .int (iI (-1)), .int (iI 0), .ref mtd, .int (iI 0), .ref mrw, .ref mrl, .ref mir]))] := hD
  refine lv_iload hx hb dL_law_365 (lv_at hl 1 rfl) ?_
  refine q_icmp_eq (tgt := 372) hx hb dL_law_367 (by decide) (by omega) (fun _ => ?_) (fun q => absurd q (by omega))
  refine lv_iload hx hb dL_law_372 (lv_at hl 1 rfl) ?_
  refine q_if_ne (tgt := 389) hx hb dL_law_374 (by decide) (by omega) (fun _ => ?_) (fun q => absurd q (by omega))
  refine lv_goto (tgt := 1935) hx hb dL_law_389 (by decide) ?_
  exact law_end l hL5 C0 hAe hS (lv_sub hl [2, 7] rfl) (Nat.le_of_ble_eq_true rfl) (Nat.le_of_ble_eq_true rfl)
set_option maxHeartbeats 4000000 in
set_option maxRecDepth 100000 in
theorem law_3_ok (l : Launch) (dC : Nat → ClassId) (dI : Nat → Nat → Nat) (k : Nat → ClassId) {p : Program} {e : Env} {s : State} {mI : MethodId} {below : List Frame} {meth : Method} {cO : Code} {bS L : Nat} {zs : Nat → Int32} (hL5 : L = 5) (C0 : lw_At p s mI meth cO bS L zs) (hE : En (dC, dI) k (va_A [] s.heap.size) s s.heap) (hout : Nat) (h0 hn g1 g2 hea g3 g4 g5 g6 g7 xa1 xa2 xa3 xa4 xa5 xa6 xa7 xa8 xa9 xa10 xa11 : Nat) (xf xt xc : Int) (hv9 : -2147483648 ≤ xf ∧ xf ≤ 2147483647 ∧ -2147483648 ≤ xt ∧ xt ≤ 2147483647 ∧ -2147483648 ≤ xc ∧ xc ≤ 2147483647) (hv : 0 ≤ xf ∧ xf ≤ 8000 ∧ xf ≤ xt ∧ xt ≤ 8000 ∧ 0 ≤ xc ∧ xc ≤ 2) (m0 mg mk mp mpu ms mpl mpd mtx mtd mrw mrl mir hoD : Nat) (x1 : zs 1 = iI xf) (x2 : zs 2 = iI xt) (x3 : zs 3 = iI xc) : ∀ (H : Heap) (locs : List Loc), va_P (dC, dI) vwCl [(h0, .inr (10, [.ref hn, .ref g1, .ref g2, .ref hea, .ref g3, .ref g4, .ref g5, .ref g6, .ref g7, .int (iI 0), .int (iI 0), .int (iI 0), .int (iI (-1)), .int (iI (-1)), .int (iI 0)])), (hout, .inl (k 1, 1, .inr (.inl (aL aZ)))), (m0, .inr (11, [.ref mg, .long (lI 0), .ref mk, .long (lI 0), .int (iI 0), .ref mp, .ref mpu, .int (iI 0), .ref ms, .long (lI 0), .int (iI 0), .int (iI 0), .int (iI 0), .int (iI 0), .int (iI 0), .long (lI 0), .ref mpl, .int (iI 0), .ref mpd, .int (iI 0), .ref mtx, .int (iI 0), .int (iI 0), .int (iI (-1)), .int (iI (-1)), .int (iI 0), .ref mtd, .int (iI 0), .ref mrw, .ref mrl, .ref mir]))] H → va_D (va_A [] s.heap.size) [(h0, .inr (10, [.ref hn, .ref g1, .ref g2, .ref hea, .ref g3, .ref g4, .ref g5, .ref g6, .ref g7, .int (iI 0), .int (iI 0), .int (iI 0), .int (iI (-1)), .int (iI (-1)), .int (iI 0)])), (hout, .inl (k 1, 1, .inr (.inl (aL aZ)))), (m0, .inr (11, [.ref mg, .long (lI 0), .ref mk, .long (lI 0), .int (iI 0), .ref mp, .ref mpu, .int (iI 0), .ref ms, .long (lI 0), .int (iI 0), .int (iI 0), .int (iI 0), .int (iI 0), .int (iI 0), .long (lI 0), .ref mpl, .int (iI 0), .ref mpd, .int (iI 0), .ref mtx, .int (iI 0), .int (iI 0), .int (iI (-1)), .int (iI (-1)), .int (iI 0), .ref mtd, .int (iI 0), .ref mrw, .ref mrl, .ref mir]))] → va_S (va_A [] s.heap.size) s.heap H locs → ∀ ls : Array Slot, lv_has ls 9 [(5, .int (iI 0)), (4, .ref hoD), (3, .ref hout), (2, .ref m0), (1, .ref h0), (0, .ref bS)] → W p l e room_1 s mI #[Value.ref bS] below meth cO H locs 173 27875 (lw_Z below #[Value.ref bS] s) (F0 mI 392 ls []) := by
  intro H locs hP hD hS ls hl
  obtain ⟨hx, hb, hr, hml, hown0, hts0, hX, hbl, hlocks, hgv⟩ := id C0
  have hts : ∀ w ∈ wsL_law, w.before #[Value.ref bS] s = true := fun w h => hts0 w (wsL_law_in w h)
  have hown : s.vm.findClass RL = some mI.cls := hown0
  generalize hAe : va_A [] s.heap.size = A at hE hD hS
  have hA : ∀ q : Nat, s.heap.size ≤ q → A q := fun q h => by rw [← hAe]; exact Or.inr h
  have hbA : ¬ A bS := fa_A hAe hbl
  obtain ⟨hK, hNw, hNc, hZs, hAO1, hAO2⟩ := id hE
  have hSF : CallFix p mI cO cL_law 9 s ([.ref bS] : List Value).toArray wsL_law RL := ⟨hx, hb, hml, hown, hts⟩
  have hcr := cnt_rng (c := xc) (f := xf) (t := xt) (by omega)
  refine lv_aload_n hx hb dL_law_392 rfl (lv_at hl 4 rfl) ?_
  refine lv_aload_n hx hb dL_law_393 rfl (lv_at hl 5 rfl) ?_
  refine lv_iload hx hb dL_law_394 (lv_at hl 0 rfl) ?_
  refine q_iconst hx hb dL_law_396 ?_
  refine q_iadd (z := 1) hx hb dL_law_397 (by omega) ?_
  refine va_sld hx hb hX hbl hbA hS (iI_in (by omega)) dL_law_398 ?_
  rw [show (iI 1).toNatClampNeg = 1 from by decide, x1]
  refine lv_aload_n hx hb dL_law_399 rfl (lv_at hl 5 rfl) ?_
  refine lv_iload hx hb dL_law_400 (lv_at hl 0 rfl) ?_
  refine q_iconst hx hb dL_law_402 ?_
  refine q_iadd (z := 2) hx hb dL_law_403 (by omega) ?_
  refine va_sld hx hb hX hbl hbA hS (iI_in (by omega)) dL_law_404 ?_
  rw [show (iI 2).toNatClampNeg = 2 from by decide, x2]
  refine lv_aload_n hx hb dL_law_405 rfl (lv_at hl 5 rfl) ?_
  refine lv_iload hx hb dL_law_406 (lv_at hl 0 rfl) ?_
  refine q_iconst hx hb dL_law_408 ?_
  refine q_iadd (z := 3) hx hb dL_law_409 (by omega) ?_
  refine va_sld hx hb hX hbl hbA hS (iI_in (by omega)) dL_law_410 ?_
  rw [show (iI 3).toNatClampNeg = 3 from by decide, x3]
  refine lv_aload_n hx hb dL_law_411 rfl (lv_at hl 2 rfl) ?_
  refine ki (vx_runSW (As := [.ref h0, .int (iI xf), .int (iI xt), .int (iI xc), .ref hout]) (rest := []) hSF ((c_L_countedDays_ok l dC dI k hout h0 hn g1 g2 hea g3 g4 g5 g6 g7 0 0 0 0 0 0 0 0 0 0 0 xf xt xc (by omega) (by omega)) H.size) (vx_cwSW 5 hts gL_law_L_countedDays rfl rfl rfl (by decide +kernel) ⟨Nat.le_of_ble_eq_true rfl, Nat.le_of_ble_eq_true rfl⟩) (preS hP hD hE hS hA [0, 1] rfl (by decide)) rfl rfl hl.1 rfl (lv_room (Nat.le_of_ble_eq_true rfl)) dL_law_412 ⟨Nat.le_of_ble_eq_true rfl, Nat.le_of_ble_eq_true rfl⟩) hP hD hS hA [0, 1] [2] rfl (wr := [(m0, .inr (11, [.ref mg, .long (lI 0), .ref mk, .long (lI 0), .int (iI 0), .ref mp, .ref mpu, .int (iI 0), .ref ms, .long (lI 0), .int (iI 0), .int (iI 0), .int (iI 0), .int (iI 0), .int (iI 0), .long (lI 0), .ref mpl, .int (iI 0), .ref mpd, .int (iI 0), .ref mtx, .int (iI 0), .int (iI 0), .int (iI (-1)), .int (iI (-1)), .int (iI 0), .ref mtd, .int (iI 0), .ref mrw, .ref mrl, .ref mir]))]) rfl (by decide) (by decide) (fun r412 _ H locs hw hP hD hS => ?_)
  obtain rfl : r412 = (iI 0) := hw
  have hP : va_P (dC, dI) vwCl [(m0, .inr (11, [.ref mg, .long (lI 0), .ref mk, .long (lI 0), .int (iI 0), .ref mp, .ref mpu, .int (iI 0), .ref ms, .long (lI 0), .int (iI 0), .int (iI 0), .int (iI 0), .int (iI 0), .int (iI 0), .long (lI 0), .ref mpl, .int (iI 0), .ref mpd, .int (iI 0), .ref mtx, .int (iI 0), .int (iI 0), .int (iI (-1)), .int (iI (-1)), .int (iI 0), .ref mtd, .int (iI 0), .ref mrw, .ref mrl, .ref mir])), (hout, .inl (k 1, 1, .inr (.inl (aL (upI aZ 0 (cntE xc xf xt))))))] H := hP
  have hD : va_D A [(m0, .inr (11, [.ref mg, .long (lI 0), .ref mk, .long (lI 0), .int (iI 0), .ref mp, .ref mpu, .int (iI 0), .ref ms, .long (lI 0), .int (iI 0), .int (iI 0), .int (iI 0), .int (iI 0), .int (iI 0), .long (lI 0), .ref mpl, .int (iI 0), .ref mpd, .int (iI 0), .ref mtx, .int (iI 0), .int (iI 0), .int (iI (-1)), .int (iI (-1)), .int (iI 0), .ref mtd, .int (iI 0), .ref mrw, .ref mrl, .ref mir])), (hout, .inl (k 1, 1, .inr (.inl (aL (upI aZ 0 (cntE xc xf xt))))))] := hD
  refine lv_istore (lv' := [(6, .int (iI 0)), (5, .int (iI 0)), (4, .ref hoD), (3, .ref hout), (2, .ref m0), (1, .ref h0), (0, .ref bS)]) hx hb dL_law_415 hl (by decide) rfl (fun ls hl => ?_)
  refine lv_aload_n hx hb dL_law_417 rfl (lv_at hl 4 rfl) ?_
  refine lv_aload_n hx hb dL_law_418 rfl (lv_at hl 6 rfl) ?_
  refine lv_iload hx hb dL_law_419 (lv_at hl 1 rfl) ?_
  refine q_iconst hx hb dL_law_421 ?_
  refine q_iadd (z := 1) hx hb dL_law_422 (by omega) ?_
  refine va_sld hx hb hX hbl hbA hS (iI_in (by omega)) dL_law_423 ?_
  rw [show (iI 1).toNatClampNeg = 1 from by decide, x1]
  refine lv_aload_n hx hb dL_law_424 rfl (lv_at hl 6 rfl) ?_
  refine lv_iload hx hb dL_law_425 (lv_at hl 1 rfl) ?_
  refine q_iconst hx hb dL_law_427 ?_
  refine q_iadd (z := 2) hx hb dL_law_428 (by omega) ?_
  refine va_sld hx hb hX hbl hbA hS (iI_in (by omega)) dL_law_429 ?_
  rw [show (iI 2).toNatClampNeg = 2 from by decide, x2]
  refine lv_aload_n hx hb dL_law_430 rfl (lv_at hl 6 rfl) ?_
  refine lv_iload hx hb dL_law_431 (lv_at hl 1 rfl) ?_
  refine q_iconst hx hb dL_law_433 ?_
  refine q_iadd (z := 3) hx hb dL_law_434 (by omega) ?_
  refine va_sld hx hb hX hbl hbA hS (iI_in (by omega)) dL_law_435 ?_
  rw [show (iI 3).toNatClampNeg = 3 from by decide, x3]
  refine ki (va_runV (As := [.int (iI xf), .int (iI xt), .int (iI xc)]) (rest := []) hSF ((c_X11_countedDays_ok l dC dI k m0 mg mk mp mpu ms mpl mpd mtx mtd mrw mrl mir xf xt xc (by omega) (by omega)) H.size) (cwV 3 hts gL_law_X11_countedDays rfl rfl rfl (by decide +kernel) ⟨Nat.le_of_ble_eq_true rfl, Nat.le_of_ble_eq_true rfl⟩) (preV hP hD hE hS hA [0] rfl (by decide) (ci := 11) (q0 := 0) rfl rfl) rfl rfl hl.1 rfl (lv_room (Nat.le_of_ble_eq_true rfl)) dL_law_436 ⟨Nat.le_of_ble_eq_true rfl, Nat.le_of_ble_eq_true rfl⟩) hP hD hS hA [0] [1] rfl (wr := [(hout, .inl (k 1, 1, .inr (.inl (aL (upI aZ 0 (cntE xc xf xt))))))]) rfl (by decide) (by decide) (fun r436 _ H locs hw hP hD hS => ?_)
  obtain rfl : r436 = (iI (cntE xc xf xt)) := hw
  have hP : va_P (dC, dI) vwCl [(hout, .inl (k 1, 1, .inr (.inl (aL (upI aZ 0 (cntE xc xf xt)))))), (m0, .inr (11, [.ref mg, .long (lI 0), .ref mk, .long (lI 0), .int (iI 0), .ref mp, .ref mpu, .int (iI 0), .ref ms, .long (lI 0), .int (iI 0), .int (iI 0), .int (iI 0), .int (iI 0), .int (iI 0), .long (lI 0), .ref mpl, .int (iI 0), .ref mpd, .int (iI 0), .ref mtx, .int (iI 0), .int (iI 0), .int (iI (-1)), .int (iI (-1)), .int (iI 0), .ref mtd, .int (iI 0), .ref mrw, .ref mrl, .ref mir]))] H := hP
  have hD : va_D A [(hout, .inl (k 1, 1, .inr (.inl (aL (upI aZ 0 (cntE xc xf xt)))))), (m0, .inr (11, [.ref mg, .long (lI 0), .ref mk, .long (lI 0), .int (iI 0), .ref mp, .ref mpu, .int (iI 0), .ref ms, .long (lI 0), .int (iI 0), .int (iI 0), .int (iI 0), .int (iI 0), .int (iI 0), .long (lI 0), .ref mpl, .int (iI 0), .ref mpd, .int (iI 0), .ref mtx, .int (iI 0), .int (iI 0), .int (iI (-1)), .int (iI (-1)), .int (iI 0), .ref mtd, .int (iI 0), .ref mrw, .ref mrl, .ref mir]))] := hD
  refine lv_istore (lv' := [(7, .int (iI (cntE xc xf xt))), (6, .int (iI 0)), (5, .int (iI 0)), (4, .ref hoD), (3, .ref hout), (2, .ref m0), (1, .ref h0), (0, .ref bS)]) hx hb dL_law_439 hl (by decide) rfl (fun ls hl => ?_)
  refine lv_aload_n hx hb dL_law_441 rfl (lv_at hl 5 rfl) ?_
  refine ki (va_runV (As := []) (rest := []) hSF ((c_X11_thrown l dC dI k m0 (.ref mg) (.long (lI 0)) (.ref mk) (.long (lI 0)) (.int (iI 0)) (.ref mp) (.ref mpu) (.int (iI 0)) (.ref ms) (.long (lI 0)) (.int (iI 0)) 0 [.int (iI 0), .int (iI 0), .int (iI 0), .long (lI 0), .ref mpl, .int (iI 0), .ref mpd, .int (iI 0), .ref mtx, .int (iI 0), .int (iI 0), .int (iI (-1)), .int (iI (-1)), .int (iI 0), .ref mtd, .int (iI 0), .ref mrw, .ref mrl, .ref mir]) H.size) (cwV 0 hts gL_law_X11_thrown rfl rfl rfl (by decide +kernel) ⟨Nat.le_of_ble_eq_true rfl, Nat.le_of_ble_eq_true rfl⟩) (preV hP hD hE hS hA [1] rfl (by decide) (ci := 11) (q0 := 1) rfl rfl) rfl rfl hl.1 rfl (lv_room (Nat.le_of_ble_eq_true rfl)) dL_law_442 ⟨Nat.le_of_ble_eq_true rfl, Nat.le_of_ble_eq_true rfl⟩) hP hD hS hA [1] [0] rfl (wr := [(hout, .inl (k 1, 1, .inr (.inl (aL (upI aZ 0 (cntE xc xf xt))))))]) rfl (by decide) (by decide) (fun r442 _ H locs hw hP hD hS => ?_)
  obtain rfl : r442 = (iI 0) := hw
  have hP : va_P (dC, dI) vwCl [(hout, .inl (k 1, 1, .inr (.inl (aL (upI aZ 0 (cntE xc xf xt)))))), (m0, .inr (11, [.ref mg, .long (lI 0), .ref mk, .long (lI 0), .int (iI 0), .ref mp, .ref mpu, .int (iI 0), .ref ms, .long (lI 0), .int (iI 0), .int (iI 0), .int (iI 0), .int (iI 0), .int (iI 0), .long (lI 0), .ref mpl, .int (iI 0), .ref mpd, .int (iI 0), .ref mtx, .int (iI 0), .int (iI 0), .int (iI (-1)), .int (iI (-1)), .int (iI 0), .ref mtd, .int (iI 0), .ref mrw, .ref mrl, .ref mir]))] H := hP
  have hD : va_D A [(hout, .inl (k 1, 1, .inr (.inl (aL (upI aZ 0 (cntE xc xf xt)))))), (m0, .inr (11, [.ref mg, .long (lI 0), .ref mk, .long (lI 0), .int (iI 0), .ref mp, .ref mpu, .int (iI 0), .ref ms, .long (lI 0), .int (iI 0), .int (iI 0), .int (iI 0), .int (iI 0), .int (iI 0), .long (lI 0), .ref mpl, .int (iI 0), .ref mpd, .int (iI 0), .ref mtx, .int (iI 0), .int (iI 0), .int (iI (-1)), .int (iI (-1)), .int (iI 0), .ref mtd, .int (iI 0), .ref mrw, .ref mrl, .ref mir]))] := hD
  refine lv_iload hx hb dL_law_445 (lv_at hl 1 rfl) ?_
  refine q_icmp_eq (tgt := 452) hx hb dL_law_447 (by decide) (by omega) (fun _ => ?_) (fun q => absurd q (by omega))
  refine lv_iload hx hb dL_law_452 (lv_at hl 1 rfl) ?_
  refine q_if_ne (tgt := 469) hx hb dL_law_454 (by decide) (by omega) (fun q => absurd q (by omega)) (fun _ => ?_)
  refine lv_aload_n hx hb dL_law_457 rfl (lv_at hl 4 rfl) ?_
  refine q_iconst hx hb dL_law_458 ?_
  refine q_lald (z := (cntE xc xf xt)) hx hb hK hP 0 1 rfl rfl (by omega) upI_s dL_law_459 ?_
  refine lv_iload hx hb dL_law_460 (lv_at hl 0 rfl) ?_
  refine q_i2l hx hb dL_law_462 (by omega) ?_
  refine q_lcmp hx hb dL_law_463 ?_
  refine q_lif_eq (tgt := 469) hx hb dL_law_464 (by decide) (by omega) (fun _ => ?_) (fun q => absurd q (by omega))
  refine lv_goto (tgt := 1935) hx hb dL_law_469 (by decide) ?_
  exact law_end l hL5 C0 hAe hS (lv_sub hl [2, 7] rfl) (Nat.le_of_ble_eq_true rfl) (Nat.le_of_ble_eq_true rfl)
set_option maxHeartbeats 4000000 in
set_option maxRecDepth 100000 in
theorem law_3_x (l : Launch) (hl0 : l.stackTraces = false) (dC : Nat → ClassId) (dI : Nat → Nat → Nat) (k : Nat → ClassId) {p : Program} {e : Env} {s : State} {mI : MethodId} {below : List Frame} {meth : Method} {cO : Code} {bS L : Nat} {zs : Nat → Int32} (hL5 : L = 5) (C0 : lw_At p s mI meth cO bS L zs) (hE : En (dC, dI) k (va_A [] s.heap.size) s s.heap) (hout : Nat) (h0 hn g1 g2 hea g3 g4 g5 g6 g7 xa1 xa2 xa3 xa4 xa5 xa6 xa7 xa8 xa9 xa10 xa11 : Nat) (xf xt xc : Int) (hv9 : -2147483648 ≤ xf ∧ xf ≤ 2147483647 ∧ -2147483648 ≤ xt ∧ xt ≤ 2147483647 ∧ -2147483648 ≤ xc ∧ xc ≤ 2147483647) (hv : ¬ (0 ≤ xf ∧ xf ≤ 8000 ∧ xf ≤ xt ∧ xt ≤ 8000 ∧ 0 ≤ xc ∧ xc ≤ 2)) (m0 mg mk mp mpu ms mpl mpd mtx mtd mrw mrl mir hoD : Nat) (x1 : zs 1 = iI xf) (x2 : zs 2 = iI xt) (x3 : zs 3 = iI xc) : ∀ (H : Heap) (locs : List Loc), va_P (dC, dI) vwCl [(h0, .inr (10, [.ref hn, .ref g1, .ref g2, .ref hea, .ref g3, .ref g4, .ref g5, .ref g6, .ref g7, .int (iI 0), .int (iI 0), .int (iI 0), .int (iI (-1)), .int (iI (-1)), .int (iI 0)])), (hout, .inl (k 1, 1, .inr (.inl (aL aZ)))), (m0, .inr (11, [.ref mg, .long (lI 0), .ref mk, .long (lI 0), .int (iI 0), .ref mp, .ref mpu, .int (iI 0), .ref ms, .long (lI 0), .int (iI 0), .int (iI 0), .int (iI 0), .int (iI 0), .int (iI 0), .long (lI 0), .ref mpl, .int (iI 0), .ref mpd, .int (iI 0), .ref mtx, .int (iI 0), .int (iI 0), .int (iI (-1)), .int (iI (-1)), .int (iI 0), .ref mtd, .int (iI 0), .ref mrw, .ref mrl, .ref mir]))] H → va_D (va_A [] s.heap.size) [(h0, .inr (10, [.ref hn, .ref g1, .ref g2, .ref hea, .ref g3, .ref g4, .ref g5, .ref g6, .ref g7, .int (iI 0), .int (iI 0), .int (iI 0), .int (iI (-1)), .int (iI (-1)), .int (iI 0)])), (hout, .inl (k 1, 1, .inr (.inl (aL aZ)))), (m0, .inr (11, [.ref mg, .long (lI 0), .ref mk, .long (lI 0), .int (iI 0), .ref mp, .ref mpu, .int (iI 0), .ref ms, .long (lI 0), .int (iI 0), .int (iI 0), .int (iI 0), .int (iI 0), .int (iI 0), .long (lI 0), .ref mpl, .int (iI 0), .ref mpd, .int (iI 0), .ref mtx, .int (iI 0), .int (iI 0), .int (iI (-1)), .int (iI (-1)), .int (iI 0), .ref mtd, .int (iI 0), .ref mrw, .ref mrl, .ref mir]))] → va_S (va_A [] s.heap.size) s.heap H locs → ∀ ls : Array Slot, lv_has ls 9 [(5, .int (iI 0)), (4, .ref hoD), (3, .ref hout), (2, .ref m0), (1, .ref h0), (0, .ref bS)] → W p l e room_1 s mI #[Value.ref bS] below meth cO H locs 173 27875 (lw_Z below #[Value.ref bS] s) (F0 mI 392 ls []) := by
  intro H locs hP hD hS ls hl
  obtain ⟨hx, hb, hr, hml, hown0, hts0, hX, hbl, hlocks, hgv⟩ := id C0
  have hts : ∀ w ∈ wsL_law, w.before #[Value.ref bS] s = true := fun w h => hts0 w (wsL_law_in w h)
  have hown : s.vm.findClass RL = some mI.cls := hown0
  generalize hAe : va_A [] s.heap.size = A at hE hD hS
  have hA : ∀ q : Nat, s.heap.size ≤ q → A q := fun q h => by rw [← hAe]; exact Or.inr h
  have hbA : ¬ A bS := fa_A hAe hbl
  obtain ⟨hK, hNw, hNc, hZs, hAO1, hAO2⟩ := id hE
  have hSF : CallFix p mI cO cL_law 9 s ([.ref bS] : List Value).toArray wsL_law RL := ⟨hx, hb, hml, hown, hts⟩
  refine lv_aload_n hx hb dL_law_392 rfl (lv_at hl 4 rfl) ?_
  refine lv_aload_n hx hb dL_law_393 rfl (lv_at hl 5 rfl) ?_
  refine lv_iload hx hb dL_law_394 (lv_at hl 0 rfl) ?_
  refine q_iconst hx hb dL_law_396 ?_
  refine q_iadd (z := 1) hx hb dL_law_397 (by omega) ?_
  refine va_sld hx hb hX hbl hbA hS (iI_in (by omega)) dL_law_398 ?_
  rw [show (iI 1).toNatClampNeg = 1 from by decide, x1]
  refine lv_aload_n hx hb dL_law_399 rfl (lv_at hl 5 rfl) ?_
  refine lv_iload hx hb dL_law_400 (lv_at hl 0 rfl) ?_
  refine q_iconst hx hb dL_law_402 ?_
  refine q_iadd (z := 2) hx hb dL_law_403 (by omega) ?_
  refine va_sld hx hb hX hbl hbA hS (iI_in (by omega)) dL_law_404 ?_
  rw [show (iI 2).toNatClampNeg = 2 from by decide, x2]
  refine lv_aload_n hx hb dL_law_405 rfl (lv_at hl 5 rfl) ?_
  refine lv_iload hx hb dL_law_406 (lv_at hl 0 rfl) ?_
  refine q_iconst hx hb dL_law_408 ?_
  refine q_iadd (z := 3) hx hb dL_law_409 (by omega) ?_
  refine va_sld hx hb hX hbl hbA hS (iI_in (by omega)) dL_law_410 ?_
  rw [show (iI 3).toNatClampNeg = 3 from by decide, x3]
  refine lv_aload_n hx hb dL_law_411 rfl (lv_at hl 2 rfl) ?_
  refine ki (vx_runSW (As := [.ref h0, .int (iI xf), .int (iI xt), .int (iI xc), .ref hout]) (rest := []) hSF ((c_L_countedDays_x l hl0 dC dI k hout h0 hn g1 g2 hea g3 g4 g5 g6 g7 0 0 0 0 0 0 0 0 0 0 0 xf xt xc (by omega) (by omega)) H.size) (vx_cwSW 5 hts gL_law_L_countedDays rfl rfl rfl (by decide +kernel) ⟨Nat.le_of_ble_eq_true rfl, Nat.le_of_ble_eq_true rfl⟩) (preS hP hD hE hS hA [0, 1] rfl (by decide)) rfl rfl hl.1 rfl (lv_room (Nat.le_of_ble_eq_true rfl)) dL_law_412 ⟨Nat.le_of_ble_eq_true rfl, Nat.le_of_ble_eq_true rfl⟩) hP hD hS hA [0, 1] [2] rfl (wr := [(m0, .inr (11, [.ref mg, .long (lI 0), .ref mk, .long (lI 0), .int (iI 0), .ref mp, .ref mpu, .int (iI 0), .ref ms, .long (lI 0), .int (iI 0), .int (iI 0), .int (iI 0), .int (iI 0), .int (iI 0), .long (lI 0), .ref mpl, .int (iI 0), .ref mpd, .int (iI 0), .ref mtx, .int (iI 0), .int (iI 0), .int (iI (-1)), .int (iI (-1)), .int (iI 0), .ref mtd, .int (iI 0), .ref mrw, .ref mrl, .ref mir]))]) rfl (by decide) (by decide) (fun r412 _ H locs hw hP hD hS => ?_)
  obtain rfl : r412 = (iI 1) := hw
  have hP : va_P (dC, dI) vwCl [(m0, .inr (11, [.ref mg, .long (lI 0), .ref mk, .long (lI 0), .int (iI 0), .ref mp, .ref mpu, .int (iI 0), .ref ms, .long (lI 0), .int (iI 0), .int (iI 0), .int (iI 0), .int (iI 0), .int (iI 0), .long (lI 0), .ref mpl, .int (iI 0), .ref mpd, .int (iI 0), .ref mtx, .int (iI 0), .int (iI 0), .int (iI (-1)), .int (iI (-1)), .int (iI 0), .ref mtd, .int (iI 0), .ref mrw, .ref mrl, .ref mir]))] H := hP
  have hD : va_D A [(m0, .inr (11, [.ref mg, .long (lI 0), .ref mk, .long (lI 0), .int (iI 0), .ref mp, .ref mpu, .int (iI 0), .ref ms, .long (lI 0), .int (iI 0), .int (iI 0), .int (iI 0), .int (iI 0), .int (iI 0), .long (lI 0), .ref mpl, .int (iI 0), .ref mpd, .int (iI 0), .ref mtx, .int (iI 0), .int (iI 0), .int (iI (-1)), .int (iI (-1)), .int (iI 0), .ref mtd, .int (iI 0), .ref mrw, .ref mrl, .ref mir]))] := hD
  refine lv_istore (lv' := [(6, .int (iI 1)), (5, .int (iI 0)), (4, .ref hoD), (3, .ref hout), (2, .ref m0), (1, .ref h0), (0, .ref bS)]) hx hb dL_law_415 hl (by decide) rfl (fun ls hl => ?_)
  refine lv_aload_n hx hb dL_law_417 rfl (lv_at hl 4 rfl) ?_
  refine lv_aload_n hx hb dL_law_418 rfl (lv_at hl 6 rfl) ?_
  refine lv_iload hx hb dL_law_419 (lv_at hl 1 rfl) ?_
  refine q_iconst hx hb dL_law_421 ?_
  refine q_iadd (z := 1) hx hb dL_law_422 (by omega) ?_
  refine va_sld hx hb hX hbl hbA hS (iI_in (by omega)) dL_law_423 ?_
  rw [show (iI 1).toNatClampNeg = 1 from by decide, x1]
  refine lv_aload_n hx hb dL_law_424 rfl (lv_at hl 6 rfl) ?_
  refine lv_iload hx hb dL_law_425 (lv_at hl 1 rfl) ?_
  refine q_iconst hx hb dL_law_427 ?_
  refine q_iadd (z := 2) hx hb dL_law_428 (by omega) ?_
  refine va_sld hx hb hX hbl hbA hS (iI_in (by omega)) dL_law_429 ?_
  rw [show (iI 2).toNatClampNeg = 2 from by decide, x2]
  refine lv_aload_n hx hb dL_law_430 rfl (lv_at hl 6 rfl) ?_
  refine lv_iload hx hb dL_law_431 (lv_at hl 1 rfl) ?_
  refine q_iconst hx hb dL_law_433 ?_
  refine q_iadd (z := 3) hx hb dL_law_434 (by omega) ?_
  refine va_sld hx hb hX hbl hbA hS (iI_in (by omega)) dL_law_435 ?_
  rw [show (iI 3).toNatClampNeg = 3 from by decide, x3]
  refine ki (va_runV (As := [.int (iI xf), .int (iI xt), .int (iI xc)]) (rest := []) hSF ((c_X11_countedDays_x l dC dI k m0 mg mk mp mpu ms mpl mpd mtx mtd mrw mrl mir xf xt xc (by omega) (by omega)) H.size) (cwV 3 hts gL_law_X11_countedDays rfl rfl rfl (by decide +kernel) ⟨Nat.le_of_ble_eq_true rfl, Nat.le_of_ble_eq_true rfl⟩) (preV hP hD hE hS hA [0] rfl (by decide) (ci := 11) (q0 := 0) rfl rfl) rfl rfl hl.1 rfl (lv_room (Nat.le_of_ble_eq_true rfl)) dL_law_436 ⟨Nat.le_of_ble_eq_true rfl, Nat.le_of_ble_eq_true rfl⟩) hP hD hS hA [0] [] rfl (wr := []) rfl (by decide) (by decide) (fun r436 _ H locs hw hP hD hS => ?_)
  obtain rfl : r436 = (iI 0) := hw
  have hP : va_P (dC, dI) vwCl [(m0, .inr (11, [.ref mg, .long (lI 0), .ref mk, .long (lI 0), .int (iI 0), .ref mp, .ref mpu, .int (iI 0), .ref ms, .long (lI 0), .int (iI 0), .int (iI 1), .int (iI 0), .int (iI 0), .int (iI 0), .long (lI 0), .ref mpl, .int (iI 0), .ref mpd, .int (iI 0), .ref mtx, .int (iI 0), .int (iI 0), .int (iI (-1)), .int (iI (-1)), .int (iI 0), .ref mtd, .int (iI 0), .ref mrw, .ref mrl, .ref mir]))] H := hP
  have hD : va_D A [(m0, .inr (11, [.ref mg, .long (lI 0), .ref mk, .long (lI 0), .int (iI 0), .ref mp, .ref mpu, .int (iI 0), .ref ms, .long (lI 0), .int (iI 0), .int (iI 1), .int (iI 0), .int (iI 0), .int (iI 0), .long (lI 0), .ref mpl, .int (iI 0), .ref mpd, .int (iI 0), .ref mtx, .int (iI 0), .int (iI 0), .int (iI (-1)), .int (iI (-1)), .int (iI 0), .ref mtd, .int (iI 0), .ref mrw, .ref mrl, .ref mir]))] := hD
  refine lv_istore (lv' := [(7, .int (iI 0)), (6, .int (iI 1)), (5, .int (iI 0)), (4, .ref hoD), (3, .ref hout), (2, .ref m0), (1, .ref h0), (0, .ref bS)]) hx hb dL_law_439 hl (by decide) rfl (fun ls hl => ?_)
  refine lv_aload_n hx hb dL_law_441 rfl (lv_at hl 5 rfl) ?_
  refine ki (va_runV (As := []) (rest := []) hSF ((c_X11_thrown l dC dI k m0 (.ref mg) (.long (lI 0)) (.ref mk) (.long (lI 0)) (.int (iI 0)) (.ref mp) (.ref mpu) (.int (iI 0)) (.ref ms) (.long (lI 0)) (.int (iI 0)) 1 [.int (iI 0), .int (iI 0), .int (iI 0), .long (lI 0), .ref mpl, .int (iI 0), .ref mpd, .int (iI 0), .ref mtx, .int (iI 0), .int (iI 0), .int (iI (-1)), .int (iI (-1)), .int (iI 0), .ref mtd, .int (iI 0), .ref mrw, .ref mrl, .ref mir]) H.size) (cwV 0 hts gL_law_X11_thrown rfl rfl rfl (by decide +kernel) ⟨Nat.le_of_ble_eq_true rfl, Nat.le_of_ble_eq_true rfl⟩) (preV hP hD hE hS hA [0] rfl (by decide) (ci := 11) (q0 := 0) rfl rfl) rfl rfl hl.1 rfl (lv_room (Nat.le_of_ble_eq_true rfl)) dL_law_442 ⟨Nat.le_of_ble_eq_true rfl, Nat.le_of_ble_eq_true rfl⟩) hP hD hS hA [0] [] rfl (wr := []) rfl (by decide) (by decide) (fun r442 _ H locs hw hP hD hS => ?_)
  obtain rfl : r442 = (iI 1) := hw
  have hP : va_P (dC, dI) vwCl [(m0, .inr (11, [.ref mg, .long (lI 0), .ref mk, .long (lI 0), .int (iI 0), .ref mp, .ref mpu, .int (iI 0), .ref ms, .long (lI 0), .int (iI 0), .int (iI 1), .int (iI 0), .int (iI 0), .int (iI 0), .long (lI 0), .ref mpl, .int (iI 0), .ref mpd, .int (iI 0), .ref mtx, .int (iI 0), .int (iI 0), .int (iI (-1)), .int (iI (-1)), .int (iI 0), .ref mtd, .int (iI 0), .ref mrw, .ref mrl, .ref mir]))] H := hP
  have hD : va_D A [(m0, .inr (11, [.ref mg, .long (lI 0), .ref mk, .long (lI 0), .int (iI 0), .ref mp, .ref mpu, .int (iI 0), .ref ms, .long (lI 0), .int (iI 0), .int (iI 1), .int (iI 0), .int (iI 0), .int (iI 0), .long (lI 0), .ref mpl, .int (iI 0), .ref mpd, .int (iI 0), .ref mtx, .int (iI 0), .int (iI 0), .int (iI (-1)), .int (iI (-1)), .int (iI 0), .ref mtd, .int (iI 0), .ref mrw, .ref mrl, .ref mir]))] := hD
  refine lv_iload hx hb dL_law_445 (lv_at hl 1 rfl) ?_
  refine q_icmp_eq (tgt := 452) hx hb dL_law_447 (by decide) (by omega) (fun _ => ?_) (fun q => absurd q (by omega))
  refine lv_iload hx hb dL_law_452 (lv_at hl 1 rfl) ?_
  refine q_if_ne (tgt := 469) hx hb dL_law_454 (by decide) (by omega) (fun _ => ?_) (fun q => absurd q (by omega))
  refine lv_goto (tgt := 1935) hx hb dL_law_469 (by decide) ?_
  exact law_end l hL5 C0 hAe hS (lv_sub hl [2, 7] rfl) (Nat.le_of_ble_eq_true rfl) (Nat.le_of_ble_eq_true rfl)
set_option maxHeartbeats 4000000 in
set_option maxRecDepth 100000 in
theorem law_4_0 (l : Launch) (dC : Nat → ClassId) (dI : Nat → Nat → Nat) (k : Nat → ClassId) {p : Program} {e : Env} {s : State} {mI : MethodId} {below : List Frame} {meth : Method} {cO : Code} {bS L : Nat} {zs : Nat → Int32} (hL5 : L = 5) (C0 : lw_At p s mI meth cO bS L zs) (hE : En (dC, dI) k (va_A [] s.heap.size) s s.heap) (hout : Nat) (h0 hn g1 g2 hea g3 g4 g5 g6 g7 xa1 xa2 xa3 xa4 xa5 xa6 xa7 xa8 xa9 xa10 xa11 he0 ya1 ya2 ya3 ya4 ya5 ya6 ya7 ya8 ya9 ya10 ya11 xk xw : Nat) (xeF : Nat → Option Nat) (xv : Int) (hea0 : xeF 0 = some he0) (hv9 : -2147483648 ≤ xv ∧ xv ≤ 2147483647) (hv : 0 ≤ xv ∧ xv ≤ 5) (m0 mg mk mp mpu ms mpl mpd mtx mtd mrw mrl mir hoD : Nat) (x1 : zs 1 = iI 0) (x2 : zs 2 = iI xv) : ∀ (H : Heap) (locs : List Loc), va_P (dC, dI) vwCl [(h0, .inr (10, [.ref hn, .ref g1, .ref g2, .ref hea, .ref g3, .ref g4, .ref g5, .ref g6, .ref g7, .int (iI 0), .int (iI 0), .int (iI 0), .int (iI (-1)), .int (iI (-1)), .int (iI 0)])), (hn, .inr (2, [.ref xa1, .ref xa2, .ref xa3, .ref xa5, .ref xa8, .int (iI 0), .int (iI 0), .int (iI 0)])), (xa1, .inl (k 0, 5, .inl (aI (upI (upI (upI (upI (upI aZ 0 0) 1 0) 2 10) 3 500) 4 0)))), (xa2, .inl (k 0, 5, .inl (aI aZ))), (xa3, .inr (7, [.int (iI 0), .int (iI 0), .int (iI 0), .long (lI 0), .int (iI 0), .int (iI 0), .int (iI 0), .long (lI 0), .long (lI 0), .long (lI 0), .long (lI 0), .long (lI 0), .int (iI 0), .int (iI 0), .int (iI 0), .int (iI 0), .ref xa4])), (xa4, .inl (k 1, 8, .inr (.inl (aL aZ)))), (xa5, .inr (3, [.ref xa6, .ref xa7, .int (iI 0), .int (iI 0), .int (iI 0)])), (xa6, .inl (k 1, 264, .inr (.inl (aL aZ)))), (xa7, .inl (k 0, 264, .inl (aI aZ))), (xa8, .inr (6, [.ref xa9, .ref xa10, .ref xa11, .int (iI 0), .int (iI 0)])), (xa9, .inl (k 0, 60, .inl (aI aZ))), (xa10, .inl (k 0, 60, .inl (aI aZ))), (xa11, .inl (k 1, 60, .inr (.inl (aL aZ)))), (hea, .inl (k 6, 8, .inr (.inr (.inr (.inr xeF))))), (he0, .inr (2, [.ref ya1, .ref ya2, .ref ya3, .ref ya5, .ref ya8, .int (iI 0), .int (iI 0), .int (iI 0)])), (ya1, .inl (k 0, 5, .inl (aI (upI (upI (upI (upI (upI aZ 0 0) 1 0) 2 10) 3 500) 4 0)))), (ya2, .inl (k 0, 5, .inl (aI aZ))), (ya3, .inr (7, [.int (iI 0), .int (iI 0), .int (iI 0), .long (lI 0), .int (iI 0), .int (iI 0), .int (iI 0), .long (lI 0), .long (lI 0), .long (lI 0), .long (lI 0), .long (lI 0), .int (iI 0), .int (iI 0), .int (iI 0), .int (iI 0), .ref ya4])), (ya4, .inl (k 1, 8, .inr (.inl (aL aZ)))), (ya5, .inr (3, [.ref ya6, .ref ya7, .int (iI 0), .int (iI 0), .int (iI 0)])), (ya6, .inl (k 1, 264, .inr (.inl (aL aZ)))), (ya7, .inl (k 0, 264, .inl (aI aZ))), (ya8, .inr (6, [.ref ya9, .ref ya10, .ref ya11, .int (iI 0), .int (iI 0)])), (ya9, .inl (k 0, 60, .inl (aI aZ))), (ya10, .inl (k 0, 60, .inl (aI aZ))), (ya11, .inl (k 1, 60, .inr (.inl (aL aZ)))), (g3, .inr (4, [.ref xk, .ref xw])), (xk, .inl (k 0, 512, .inl (aI aZ))), (xw, .inl (k 0, 512, .inl (aI aZ))), (hout, .inl (k 1, 1, .inr (.inl (aL aZ)))), (m0, .inr (11, [.ref mg, .long (lI 0), .ref mk, .long (lI 0), .int (iI 0), .ref mp, .ref mpu, .int (iI 0), .ref ms, .long (lI 0), .int (iI 0), .int (iI 0), .int (iI 0), .int (iI 0), .int (iI 0), .long (lI 0), .ref mpl, .int (iI 0), .ref mpd, .int (iI 0), .ref mtx, .int (iI 0), .int (iI 0), .int (iI (-1)), .int (iI (-1)), .int (iI 0), .ref mtd, .int (iI 0), .ref mrw, .ref mrl, .ref mir])), (mg, .inl (k 0, 1460, .inl (aI g0F))), (mp, .inl (k 0, 11680, .inl (aI aZ))), (mpu, .inl (k 1, 8, .inr (.inl (aL aZ))))] H → va_D (va_A [] s.heap.size) [(h0, .inr (10, [.ref hn, .ref g1, .ref g2, .ref hea, .ref g3, .ref g4, .ref g5, .ref g6, .ref g7, .int (iI 0), .int (iI 0), .int (iI 0), .int (iI (-1)), .int (iI (-1)), .int (iI 0)])), (hn, .inr (2, [.ref xa1, .ref xa2, .ref xa3, .ref xa5, .ref xa8, .int (iI 0), .int (iI 0), .int (iI 0)])), (xa1, .inl (k 0, 5, .inl (aI (upI (upI (upI (upI (upI aZ 0 0) 1 0) 2 10) 3 500) 4 0)))), (xa2, .inl (k 0, 5, .inl (aI aZ))), (xa3, .inr (7, [.int (iI 0), .int (iI 0), .int (iI 0), .long (lI 0), .int (iI 0), .int (iI 0), .int (iI 0), .long (lI 0), .long (lI 0), .long (lI 0), .long (lI 0), .long (lI 0), .int (iI 0), .int (iI 0), .int (iI 0), .int (iI 0), .ref xa4])), (xa4, .inl (k 1, 8, .inr (.inl (aL aZ)))), (xa5, .inr (3, [.ref xa6, .ref xa7, .int (iI 0), .int (iI 0), .int (iI 0)])), (xa6, .inl (k 1, 264, .inr (.inl (aL aZ)))), (xa7, .inl (k 0, 264, .inl (aI aZ))), (xa8, .inr (6, [.ref xa9, .ref xa10, .ref xa11, .int (iI 0), .int (iI 0)])), (xa9, .inl (k 0, 60, .inl (aI aZ))), (xa10, .inl (k 0, 60, .inl (aI aZ))), (xa11, .inl (k 1, 60, .inr (.inl (aL aZ)))), (hea, .inl (k 6, 8, .inr (.inr (.inr (.inr xeF))))), (he0, .inr (2, [.ref ya1, .ref ya2, .ref ya3, .ref ya5, .ref ya8, .int (iI 0), .int (iI 0), .int (iI 0)])), (ya1, .inl (k 0, 5, .inl (aI (upI (upI (upI (upI (upI aZ 0 0) 1 0) 2 10) 3 500) 4 0)))), (ya2, .inl (k 0, 5, .inl (aI aZ))), (ya3, .inr (7, [.int (iI 0), .int (iI 0), .int (iI 0), .long (lI 0), .int (iI 0), .int (iI 0), .int (iI 0), .long (lI 0), .long (lI 0), .long (lI 0), .long (lI 0), .long (lI 0), .int (iI 0), .int (iI 0), .int (iI 0), .int (iI 0), .ref ya4])), (ya4, .inl (k 1, 8, .inr (.inl (aL aZ)))), (ya5, .inr (3, [.ref ya6, .ref ya7, .int (iI 0), .int (iI 0), .int (iI 0)])), (ya6, .inl (k 1, 264, .inr (.inl (aL aZ)))), (ya7, .inl (k 0, 264, .inl (aI aZ))), (ya8, .inr (6, [.ref ya9, .ref ya10, .ref ya11, .int (iI 0), .int (iI 0)])), (ya9, .inl (k 0, 60, .inl (aI aZ))), (ya10, .inl (k 0, 60, .inl (aI aZ))), (ya11, .inl (k 1, 60, .inr (.inl (aL aZ)))), (g3, .inr (4, [.ref xk, .ref xw])), (xk, .inl (k 0, 512, .inl (aI aZ))), (xw, .inl (k 0, 512, .inl (aI aZ))), (hout, .inl (k 1, 1, .inr (.inl (aL aZ)))), (m0, .inr (11, [.ref mg, .long (lI 0), .ref mk, .long (lI 0), .int (iI 0), .ref mp, .ref mpu, .int (iI 0), .ref ms, .long (lI 0), .int (iI 0), .int (iI 0), .int (iI 0), .int (iI 0), .int (iI 0), .long (lI 0), .ref mpl, .int (iI 0), .ref mpd, .int (iI 0), .ref mtx, .int (iI 0), .int (iI 0), .int (iI (-1)), .int (iI (-1)), .int (iI 0), .ref mtd, .int (iI 0), .ref mrw, .ref mrl, .ref mir])), (mg, .inl (k 0, 1460, .inl (aI g0F))), (mp, .inl (k 0, 11680, .inl (aI aZ))), (mpu, .inl (k 1, 8, .inr (.inl (aL aZ))))] → va_S (va_A [] s.heap.size) s.heap H locs → ∀ ls : Array Slot, lv_has ls 9 [(5, .int (iI 0)), (4, .ref hoD), (3, .ref hout), (2, .ref m0), (1, .ref h0), (0, .ref bS)] → W p l e room_1 s mI #[Value.ref bS] below meth cO H locs 173 27875 (lw_Z below #[Value.ref bS] s) (F0 mI 472 ls []) := by
  intro H locs hP hD hS ls hl
  obtain ⟨hx, hb, hr, hml, hown0, hts0, hX, hbl, hlocks, hgv⟩ := id C0
  have hts : ∀ w ∈ wsL_law, w.before #[Value.ref bS] s = true := fun w h => hts0 w (wsL_law_in w h)
  have hown : s.vm.findClass RL = some mI.cls := hown0
  generalize hAe : va_A [] s.heap.size = A at hE hD hS
  have hA : ∀ q : Nat, s.heap.size ≤ q → A q := fun q h => by rw [← hAe]; exact Or.inr h
  have hbA : ¬ A bS := fa_A hAe hbl
  obtain ⟨hK, hNw, hNc, hZs, hAO1, hAO2⟩ := id hE
  have hSF : CallFix p mI cO cL_law 9 s ([.ref bS] : List Value).toArray wsL_law RL := ⟨hx, hb, hml, hown, hts⟩
  refine lv_aload_n hx hb dL_law_472 rfl (lv_at hl 4 rfl) ?_
  refine lv_aload_n hx hb dL_law_473 rfl (lv_at hl 5 rfl) ?_
  refine lv_iload hx hb dL_law_474 (lv_at hl 0 rfl) ?_
  refine q_iconst hx hb dL_law_476 ?_
  refine q_iadd (z := 1) hx hb dL_law_477 (by omega) ?_
  refine va_sld hx hb hX hbl hbA hS (iI_in (by omega)) dL_law_478 ?_
  rw [show (iI 1).toNatClampNeg = 1 from by decide, x1]
  refine lv_aload_n hx hb dL_law_479 rfl (lv_at hl 5 rfl) ?_
  refine lv_iload hx hb dL_law_480 (lv_at hl 0 rfl) ?_
  refine q_iconst hx hb dL_law_482 ?_
  refine q_iadd (z := 2) hx hb dL_law_483 (by omega) ?_
  refine va_sld hx hb hX hbl hbA hS (iI_in (by omega)) dL_law_484 ?_
  rw [show (iI 2).toNatClampNeg = 2 from by decide, x2]
  refine lv_aload_n hx hb dL_law_485 rfl (lv_at hl 2 rfl) ?_
  refine ki (vx_runSW (As := [.ref h0, .int (iI 0), .int (iI xv), .ref hout]) (rest := []) hSF ((c_L_set_0 l dC dI k hout h0 hn g1 g2 hea g3 g4 g5 g6 g7 xa1 xa2 xa3 xa4 xa5 xa6 xa7 xa8 xa9 xa10 xa11 he0 ya1 ya2 ya3 ya4 ya5 ya6 ya7 ya8 ya9 ya10 ya11 xk xw xeF xv hea0 (by omega) (by omega)) H.size) (vx_cwSW 4 hts gL_law_L_set rfl rfl rfl (by decide +kernel) ⟨Nat.le_of_ble_eq_true rfl, Nat.le_of_ble_eq_true rfl⟩) (preS hP hD hE hS hA [0, 1, 2, 3, 4, 5, 6, 7, 8, 9, 10, 11, 12, 13, 14, 15, 16, 17, 18, 19, 20, 21, 22, 23, 24, 25, 26, 27, 28, 29] rfl (by decide)) rfl rfl hl.1 rfl (lv_room (Nat.le_of_ble_eq_true rfl)) dL_law_486 ⟨Nat.le_of_ble_eq_true rfl, Nat.le_of_ble_eq_true rfl⟩) hP hD hS hA [0, 1, 2, 3, 4, 5, 6, 7, 8, 9, 10, 11, 12, 13, 14, 15, 16, 17, 18, 19, 20, 21, 22, 23, 24, 25, 26, 27, 28, 29] [30, 31, 32, 33] rfl (wr := [(m0, .inr (11, [.ref mg, .long (lI 0), .ref mk, .long (lI 0), .int (iI 0), .ref mp, .ref mpu, .int (iI 0), .ref ms, .long (lI 0), .int (iI 0), .int (iI 0), .int (iI 0), .int (iI 0), .int (iI 0), .long (lI 0), .ref mpl, .int (iI 0), .ref mpd, .int (iI 0), .ref mtx, .int (iI 0), .int (iI 0), .int (iI (-1)), .int (iI (-1)), .int (iI 0), .ref mtd, .int (iI 0), .ref mrw, .ref mrl, .ref mir])), (mg, .inl (k 0, 1460, .inl (aI g0F))), (mp, .inl (k 0, 11680, .inl (aI aZ))), (mpu, .inl (k 1, 8, .inr (.inl (aL aZ))))]) rfl (by decide) (by decide) (fun r486 _ H locs hw hP hD hS => ?_)
  obtain rfl : r486 = (iI 0) := hw
  have hP : va_P (dC, dI) vwCl [(m0, .inr (11, [.ref mg, .long (lI 0), .ref mk, .long (lI 0), .int (iI 0), .ref mp, .ref mpu, .int (iI 0), .ref ms, .long (lI 0), .int (iI 0), .int (iI 0), .int (iI 0), .int (iI 0), .int (iI 0), .long (lI 0), .ref mpl, .int (iI 0), .ref mpd, .int (iI 0), .ref mtx, .int (iI 0), .int (iI 0), .int (iI (-1)), .int (iI (-1)), .int (iI 0), .ref mtd, .int (iI 0), .ref mrw, .ref mrl, .ref mir])), (mg, .inl (k 0, 1460, .inl (aI g0F))), (mp, .inl (k 0, 11680, .inl (aI aZ))), (mpu, .inl (k 1, 8, .inr (.inl (aL aZ)))), (hout, .inl (k 1, 1, .inr (.inl (aL (upI aZ 0 0)))))] H := hP
  have hD : va_D A [(m0, .inr (11, [.ref mg, .long (lI 0), .ref mk, .long (lI 0), .int (iI 0), .ref mp, .ref mpu, .int (iI 0), .ref ms, .long (lI 0), .int (iI 0), .int (iI 0), .int (iI 0), .int (iI 0), .int (iI 0), .long (lI 0), .ref mpl, .int (iI 0), .ref mpd, .int (iI 0), .ref mtx, .int (iI 0), .int (iI 0), .int (iI (-1)), .int (iI (-1)), .int (iI 0), .ref mtd, .int (iI 0), .ref mrw, .ref mrl, .ref mir])), (mg, .inl (k 0, 1460, .inl (aI g0F))), (mp, .inl (k 0, 11680, .inl (aI aZ))), (mpu, .inl (k 1, 8, .inr (.inl (aL aZ)))), (hout, .inl (k 1, 1, .inr (.inl (aL (upI aZ 0 0)))))] := hD
  refine lv_istore (lv' := [(6, .int (iI 0)), (5, .int (iI 0)), (4, .ref hoD), (3, .ref hout), (2, .ref m0), (1, .ref h0), (0, .ref bS)]) hx hb dL_law_489 hl (by decide) rfl (fun ls hl => ?_)
  refine lv_aload_n hx hb dL_law_491 rfl (lv_at hl 4 rfl) ?_
  refine lv_aload_n hx hb dL_law_492 rfl (lv_at hl 6 rfl) ?_
  refine lv_iload hx hb dL_law_493 (lv_at hl 1 rfl) ?_
  refine q_iconst hx hb dL_law_495 ?_
  refine q_iadd (z := 1) hx hb dL_law_496 (by omega) ?_
  refine va_sld hx hb hX hbl hbA hS (iI_in (by omega)) dL_law_497 ?_
  rw [show (iI 1).toNatClampNeg = 1 from by decide, x1]
  refine lv_aload_n hx hb dL_law_498 rfl (lv_at hl 6 rfl) ?_
  refine lv_iload hx hb dL_law_499 (lv_at hl 1 rfl) ?_
  refine q_iconst hx hb dL_law_501 ?_
  refine q_iadd (z := 2) hx hb dL_law_502 (by omega) ?_
  refine va_sld hx hb hX hbl hbA hS (iI_in (by omega)) dL_law_503 ?_
  rw [show (iI 2).toNatClampNeg = 2 from by decide, x2]
  refine ki (va_runV (As := [.int (iI 0), .int (iI xv)]) (rest := []) hSF ((c_X11_set_0 l dC dI k m0 mg mk mp mpu ms mpl mpd mtx mtd mrw mrl mir xv (by omega) (by omega)) H.size) (cwV 2 hts gL_law_X11_set rfl rfl rfl (by decide +kernel) ⟨Nat.le_of_ble_eq_true rfl, Nat.le_of_ble_eq_true rfl⟩) (preV hP hD hE hS hA [0, 1, 2, 3] rfl (by decide) (ci := 11) (q0 := 0) rfl rfl) rfl rfl hl.1 rfl (lv_room (Nat.le_of_ble_eq_true rfl)) dL_law_504 ⟨Nat.le_of_ble_eq_true rfl, Nat.le_of_ble_eq_true rfl⟩) hP hD hS hA [0, 1, 2, 3] [4] rfl (wr := [(hout, .inl (k 1, 1, .inr (.inl (aL (upI aZ 0 0)))))]) rfl (by decide) (by decide) (fun r504 _ H locs hw hP hD hS => ?_)
  obtain rfl : r504 = (iI 0) := hw
  have hP : va_P (dC, dI) vwCl [(hout, .inl (k 1, 1, .inr (.inl (aL (upI aZ 0 0))))), (m0, .inr (11, [.ref mg, .long (lI 0), .ref mk, .long (lI 0), .int (iI 0), .ref mp, .ref mpu, .int (iI 1), .ref ms, .long (lI 0), .int (iI 0), .int (iI 0), .int (iI 0), .int (iI 0), .int (iI 0), .long (lI 0), .ref mpl, .int (iI 0), .ref mpd, .int (iI 0), .ref mtx, .int (iI 0), .int (iI 0), .int (iI (-1)), .int (iI (-1)), .int (iI 0), .ref mtd, .int (iI 0), .ref mrw, .ref mrl, .ref mir]))] H := hP
  have hD : va_D A [(hout, .inl (k 1, 1, .inr (.inl (aL (upI aZ 0 0))))), (m0, .inr (11, [.ref mg, .long (lI 0), .ref mk, .long (lI 0), .int (iI 0), .ref mp, .ref mpu, .int (iI 1), .ref ms, .long (lI 0), .int (iI 0), .int (iI 0), .int (iI 0), .int (iI 0), .int (iI 0), .long (lI 0), .ref mpl, .int (iI 0), .ref mpd, .int (iI 0), .ref mtx, .int (iI 0), .int (iI 0), .int (iI (-1)), .int (iI (-1)), .int (iI 0), .ref mtd, .int (iI 0), .ref mrw, .ref mrl, .ref mir]))] := hD
  refine lv_istore (lv' := [(7, .int (iI 0)), (6, .int (iI 0)), (5, .int (iI 0)), (4, .ref hoD), (3, .ref hout), (2, .ref m0), (1, .ref h0), (0, .ref bS)]) hx hb dL_law_507 hl (by decide) rfl (fun ls hl => ?_)
  refine lv_aload_n hx hb dL_law_509 rfl (lv_at hl 5 rfl) ?_
  refine ki (va_runV (As := []) (rest := []) hSF ((c_X11_thrown l dC dI k m0 (.ref mg) (.long (lI 0)) (.ref mk) (.long (lI 0)) (.int (iI 0)) (.ref mp) (.ref mpu) (.int (iI 1)) (.ref ms) (.long (lI 0)) (.int (iI 0)) 0 [.int (iI 0), .int (iI 0), .int (iI 0), .long (lI 0), .ref mpl, .int (iI 0), .ref mpd, .int (iI 0), .ref mtx, .int (iI 0), .int (iI 0), .int (iI (-1)), .int (iI (-1)), .int (iI 0), .ref mtd, .int (iI 0), .ref mrw, .ref mrl, .ref mir]) H.size) (cwV 0 hts gL_law_X11_thrown rfl rfl rfl (by decide +kernel) ⟨Nat.le_of_ble_eq_true rfl, Nat.le_of_ble_eq_true rfl⟩) (preV hP hD hE hS hA [1] rfl (by decide) (ci := 11) (q0 := 1) rfl rfl) rfl rfl hl.1 rfl (lv_room (Nat.le_of_ble_eq_true rfl)) dL_law_510 ⟨Nat.le_of_ble_eq_true rfl, Nat.le_of_ble_eq_true rfl⟩) hP hD hS hA [1] [0] rfl (wr := [(hout, .inl (k 1, 1, .inr (.inl (aL (upI aZ 0 0)))))]) rfl (by decide) (by decide) (fun r510 _ H locs hw hP hD hS => ?_)
  obtain rfl : r510 = (iI 0) := hw
  have hP : va_P (dC, dI) vwCl [(hout, .inl (k 1, 1, .inr (.inl (aL (upI aZ 0 0))))), (m0, .inr (11, [.ref mg, .long (lI 0), .ref mk, .long (lI 0), .int (iI 0), .ref mp, .ref mpu, .int (iI 1), .ref ms, .long (lI 0), .int (iI 0), .int (iI 0), .int (iI 0), .int (iI 0), .int (iI 0), .long (lI 0), .ref mpl, .int (iI 0), .ref mpd, .int (iI 0), .ref mtx, .int (iI 0), .int (iI 0), .int (iI (-1)), .int (iI (-1)), .int (iI 0), .ref mtd, .int (iI 0), .ref mrw, .ref mrl, .ref mir]))] H := hP
  have hD : va_D A [(hout, .inl (k 1, 1, .inr (.inl (aL (upI aZ 0 0))))), (m0, .inr (11, [.ref mg, .long (lI 0), .ref mk, .long (lI 0), .int (iI 0), .ref mp, .ref mpu, .int (iI 1), .ref ms, .long (lI 0), .int (iI 0), .int (iI 0), .int (iI 0), .int (iI 0), .int (iI 0), .long (lI 0), .ref mpl, .int (iI 0), .ref mpd, .int (iI 0), .ref mtx, .int (iI 0), .int (iI 0), .int (iI (-1)), .int (iI (-1)), .int (iI 0), .ref mtd, .int (iI 0), .ref mrw, .ref mrl, .ref mir]))] := hD
  refine lv_iload hx hb dL_law_513 (lv_at hl 1 rfl) ?_
  refine q_icmp_eq (tgt := 520) hx hb dL_law_515 (by decide) (by omega) (fun _ => ?_) (fun q => absurd q (by omega))
  refine lv_iload hx hb dL_law_520 (lv_at hl 1 rfl) ?_
  refine q_if_ne (tgt := 537) hx hb dL_law_522 (by decide) (by omega) (fun q => absurd q (by omega)) (fun _ => ?_)
  refine lv_aload_n hx hb dL_law_525 rfl (lv_at hl 4 rfl) ?_
  refine q_iconst hx hb dL_law_526 ?_
  refine q_lald (z := 0) hx hb hK hP 0 1 rfl rfl (by omega) upI_s dL_law_527 ?_
  refine lv_iload hx hb dL_law_528 (lv_at hl 0 rfl) ?_
  refine q_i2l hx hb dL_law_530 (by omega) ?_
  refine q_lcmp hx hb dL_law_531 ?_
  refine q_lif_eq (tgt := 537) hx hb dL_law_532 (by decide) (by omega) (fun _ => ?_) (fun q => absurd q (by omega))
  refine lv_goto (tgt := 1935) hx hb dL_law_537 (by decide) ?_
  exact law_end l hL5 C0 hAe hS (lv_sub hl [2, 7] rfl) (Nat.le_of_ble_eq_true rfl) (Nat.le_of_ble_eq_true rfl)
set_option maxHeartbeats 4000000 in
set_option maxRecDepth 100000 in
theorem law_4_0_x (l : Launch) (hl0 : l.stackTraces = false) (dC : Nat → ClassId) (dI : Nat → Nat → Nat) (k : Nat → ClassId) {p : Program} {e : Env} {s : State} {mI : MethodId} {below : List Frame} {meth : Method} {cO : Code} {bS L : Nat} {zs : Nat → Int32} (hL5 : L = 5) (C0 : lw_At p s mI meth cO bS L zs) (hE : En (dC, dI) k (va_A [] s.heap.size) s s.heap) (hout : Nat) (h0 hn g1 g2 hea g3 g4 g5 g6 g7 xa1 xa2 xa3 xa4 xa5 xa6 xa7 xa8 xa9 xa10 xa11 : Nat) (xv : Int) (hv9 : -2147483648 ≤ xv ∧ xv ≤ 2147483647) (hv : ¬ (0 ≤ xv ∧ xv ≤ 5)) (m0 mg mk mp mpu ms mpl mpd mtx mtd mrw mrl mir hoD : Nat) (x1 : zs 1 = iI 0) (x2 : zs 2 = iI xv) : ∀ (H : Heap) (locs : List Loc), va_P (dC, dI) vwCl [(h0, .inr (10, [.ref hn, .ref g1, .ref g2, .ref hea, .ref g3, .ref g4, .ref g5, .ref g6, .ref g7, .int (iI 0), .int (iI 0), .int (iI 0), .int (iI (-1)), .int (iI (-1)), .int (iI 0)])), (hn, .inr (2, [.ref xa1, .ref xa2, .ref xa3, .ref xa5, .ref xa8, .int (iI 0), .int (iI 0), .int (iI 0)])), (xa3, .inr (7, [.int (iI 0), .int (iI 0), .int (iI 0), .long (lI 0), .int (iI 0), .int (iI 0), .int (iI 0), .long (lI 0), .long (lI 0), .long (lI 0), .long (lI 0), .long (lI 0), .int (iI 0), .int (iI 0), .int (iI 0), .int (iI 0), .ref xa4])), (hout, .inl (k 1, 1, .inr (.inl (aL aZ)))), (m0, .inr (11, [.ref mg, .long (lI 0), .ref mk, .long (lI 0), .int (iI 0), .ref mp, .ref mpu, .int (iI 0), .ref ms, .long (lI 0), .int (iI 0), .int (iI 0), .int (iI 0), .int (iI 0), .int (iI 0), .long (lI 0), .ref mpl, .int (iI 0), .ref mpd, .int (iI 0), .ref mtx, .int (iI 0), .int (iI 0), .int (iI (-1)), .int (iI (-1)), .int (iI 0), .ref mtd, .int (iI 0), .ref mrw, .ref mrl, .ref mir])), (mg, .inl (k 0, 1460, .inl (aI g0F)))] H → va_D (va_A [] s.heap.size) [(h0, .inr (10, [.ref hn, .ref g1, .ref g2, .ref hea, .ref g3, .ref g4, .ref g5, .ref g6, .ref g7, .int (iI 0), .int (iI 0), .int (iI 0), .int (iI (-1)), .int (iI (-1)), .int (iI 0)])), (hn, .inr (2, [.ref xa1, .ref xa2, .ref xa3, .ref xa5, .ref xa8, .int (iI 0), .int (iI 0), .int (iI 0)])), (xa3, .inr (7, [.int (iI 0), .int (iI 0), .int (iI 0), .long (lI 0), .int (iI 0), .int (iI 0), .int (iI 0), .long (lI 0), .long (lI 0), .long (lI 0), .long (lI 0), .long (lI 0), .int (iI 0), .int (iI 0), .int (iI 0), .int (iI 0), .ref xa4])), (hout, .inl (k 1, 1, .inr (.inl (aL aZ)))), (m0, .inr (11, [.ref mg, .long (lI 0), .ref mk, .long (lI 0), .int (iI 0), .ref mp, .ref mpu, .int (iI 0), .ref ms, .long (lI 0), .int (iI 0), .int (iI 0), .int (iI 0), .int (iI 0), .int (iI 0), .long (lI 0), .ref mpl, .int (iI 0), .ref mpd, .int (iI 0), .ref mtx, .int (iI 0), .int (iI 0), .int (iI (-1)), .int (iI (-1)), .int (iI 0), .ref mtd, .int (iI 0), .ref mrw, .ref mrl, .ref mir])), (mg, .inl (k 0, 1460, .inl (aI g0F)))] → va_S (va_A [] s.heap.size) s.heap H locs → ∀ ls : Array Slot, lv_has ls 9 [(5, .int (iI 0)), (4, .ref hoD), (3, .ref hout), (2, .ref m0), (1, .ref h0), (0, .ref bS)] → W p l e room_1 s mI #[Value.ref bS] below meth cO H locs 173 27875 (lw_Z below #[Value.ref bS] s) (F0 mI 472 ls []) := by
  intro H locs hP hD hS ls hl
  obtain ⟨hx, hb, hr, hml, hown0, hts0, hX, hbl, hlocks, hgv⟩ := id C0
  have hts : ∀ w ∈ wsL_law, w.before #[Value.ref bS] s = true := fun w h => hts0 w (wsL_law_in w h)
  have hown : s.vm.findClass RL = some mI.cls := hown0
  generalize hAe : va_A [] s.heap.size = A at hE hD hS
  have hA : ∀ q : Nat, s.heap.size ≤ q → A q := fun q h => by rw [← hAe]; exact Or.inr h
  have hbA : ¬ A bS := fa_A hAe hbl
  obtain ⟨hK, hNw, hNc, hZs, hAO1, hAO2⟩ := id hE
  have hSF : CallFix p mI cO cL_law 9 s ([.ref bS] : List Value).toArray wsL_law RL := ⟨hx, hb, hml, hown, hts⟩
  refine lv_aload_n hx hb dL_law_472 rfl (lv_at hl 4 rfl) ?_
  refine lv_aload_n hx hb dL_law_473 rfl (lv_at hl 5 rfl) ?_
  refine lv_iload hx hb dL_law_474 (lv_at hl 0 rfl) ?_
  refine q_iconst hx hb dL_law_476 ?_
  refine q_iadd (z := 1) hx hb dL_law_477 (by omega) ?_
  refine va_sld hx hb hX hbl hbA hS (iI_in (by omega)) dL_law_478 ?_
  rw [show (iI 1).toNatClampNeg = 1 from by decide, x1]
  refine lv_aload_n hx hb dL_law_479 rfl (lv_at hl 5 rfl) ?_
  refine lv_iload hx hb dL_law_480 (lv_at hl 0 rfl) ?_
  refine q_iconst hx hb dL_law_482 ?_
  refine q_iadd (z := 2) hx hb dL_law_483 (by omega) ?_
  refine va_sld hx hb hX hbl hbA hS (iI_in (by omega)) dL_law_484 ?_
  rw [show (iI 2).toNatClampNeg = 2 from by decide, x2]
  refine lv_aload_n hx hb dL_law_485 rfl (lv_at hl 2 rfl) ?_
  refine ki (vx_runSW (As := [.ref h0, .int (iI 0), .int (iI xv), .ref hout]) (rest := []) hSF ((c_L_set_0_x l hl0 dC dI k hout h0 hn g1 g2 hea g3 g4 g5 g6 g7 xa1 xa2 xa3 xa4 xa5 0 0 xa8 0 0 0 xv (by omega) (by omega)) H.size) (vx_cwSW 4 hts gL_law_L_set rfl rfl rfl (by decide +kernel) ⟨Nat.le_of_ble_eq_true rfl, Nat.le_of_ble_eq_true rfl⟩) (preS hP hD hE hS hA [0, 1, 2, 3] rfl (by decide)) rfl rfl hl.1 rfl (lv_room (Nat.le_of_ble_eq_true rfl)) dL_law_486 ⟨Nat.le_of_ble_eq_true rfl, Nat.le_of_ble_eq_true rfl⟩) hP hD hS hA [0, 1, 2, 3] [4, 5] rfl (wr := [(m0, .inr (11, [.ref mg, .long (lI 0), .ref mk, .long (lI 0), .int (iI 0), .ref mp, .ref mpu, .int (iI 0), .ref ms, .long (lI 0), .int (iI 0), .int (iI 0), .int (iI 0), .int (iI 0), .int (iI 0), .long (lI 0), .ref mpl, .int (iI 0), .ref mpd, .int (iI 0), .ref mtx, .int (iI 0), .int (iI 0), .int (iI (-1)), .int (iI (-1)), .int (iI 0), .ref mtd, .int (iI 0), .ref mrw, .ref mrl, .ref mir])), (mg, .inl (k 0, 1460, .inl (aI g0F)))]) rfl (by decide) (by decide) (fun r486 _ H locs hw hP hD hS => ?_)
  obtain rfl : r486 = (iI 2) := hw
  have hP : va_P (dC, dI) vwCl [(m0, .inr (11, [.ref mg, .long (lI 0), .ref mk, .long (lI 0), .int (iI 0), .ref mp, .ref mpu, .int (iI 0), .ref ms, .long (lI 0), .int (iI 0), .int (iI 0), .int (iI 0), .int (iI 0), .int (iI 0), .long (lI 0), .ref mpl, .int (iI 0), .ref mpd, .int (iI 0), .ref mtx, .int (iI 0), .int (iI 0), .int (iI (-1)), .int (iI (-1)), .int (iI 0), .ref mtd, .int (iI 0), .ref mrw, .ref mrl, .ref mir])), (mg, .inl (k 0, 1460, .inl (aI g0F)))] H := hP
  have hD : va_D A [(m0, .inr (11, [.ref mg, .long (lI 0), .ref mk, .long (lI 0), .int (iI 0), .ref mp, .ref mpu, .int (iI 0), .ref ms, .long (lI 0), .int (iI 0), .int (iI 0), .int (iI 0), .int (iI 0), .int (iI 0), .long (lI 0), .ref mpl, .int (iI 0), .ref mpd, .int (iI 0), .ref mtx, .int (iI 0), .int (iI 0), .int (iI (-1)), .int (iI (-1)), .int (iI 0), .ref mtd, .int (iI 0), .ref mrw, .ref mrl, .ref mir])), (mg, .inl (k 0, 1460, .inl (aI g0F)))] := hD
  refine lv_istore (lv' := [(6, .int (iI 2)), (5, .int (iI 0)), (4, .ref hoD), (3, .ref hout), (2, .ref m0), (1, .ref h0), (0, .ref bS)]) hx hb dL_law_489 hl (by decide) rfl (fun ls hl => ?_)
  refine lv_aload_n hx hb dL_law_491 rfl (lv_at hl 4 rfl) ?_
  refine lv_aload_n hx hb dL_law_492 rfl (lv_at hl 6 rfl) ?_
  refine lv_iload hx hb dL_law_493 (lv_at hl 1 rfl) ?_
  refine q_iconst hx hb dL_law_495 ?_
  refine q_iadd (z := 1) hx hb dL_law_496 (by omega) ?_
  refine va_sld hx hb hX hbl hbA hS (iI_in (by omega)) dL_law_497 ?_
  rw [show (iI 1).toNatClampNeg = 1 from by decide, x1]
  refine lv_aload_n hx hb dL_law_498 rfl (lv_at hl 6 rfl) ?_
  refine lv_iload hx hb dL_law_499 (lv_at hl 1 rfl) ?_
  refine q_iconst hx hb dL_law_501 ?_
  refine q_iadd (z := 2) hx hb dL_law_502 (by omega) ?_
  refine va_sld hx hb hX hbl hbA hS (iI_in (by omega)) dL_law_503 ?_
  rw [show (iI 2).toNatClampNeg = 2 from by decide, x2]
  refine ki (va_runV (As := [.int (iI 0), .int (iI xv)]) (rest := []) hSF ((c_X11_set_0_x l dC dI k m0 mg mk mp mpu ms mpl mpd mtx mtd mrw mrl mir xv (by omega) (by omega)) H.size) (cwV 2 hts gL_law_X11_set rfl rfl rfl (by decide +kernel) ⟨Nat.le_of_ble_eq_true rfl, Nat.le_of_ble_eq_true rfl⟩) (preV hP hD hE hS hA [0, 1] rfl (by decide) (ci := 11) (q0 := 0) rfl rfl) rfl rfl hl.1 rfl (lv_room (Nat.le_of_ble_eq_true rfl)) dL_law_504 ⟨Nat.le_of_ble_eq_true rfl, Nat.le_of_ble_eq_true rfl⟩) hP hD hS hA [0, 1] [] rfl (wr := []) rfl (by decide) (by decide) (fun r504 _ H locs hw hP hD hS => ?_)
  obtain rfl : r504 = (iI 0) := hw
  have hP : va_P (dC, dI) vwCl [(m0, .inr (11, [.ref mg, .long (lI 0), .ref mk, .long (lI 0), .int (iI 0), .ref mp, .ref mpu, .int (iI 0), .ref ms, .long (lI 0), .int (iI 0), .int (iI 2), .int (iI 0), .int (iI 0), .int (iI 0), .long (lI 0), .ref mpl, .int (iI 0), .ref mpd, .int (iI 0), .ref mtx, .int (iI 0), .int (iI 0), .int (iI (-1)), .int (iI (-1)), .int (iI 0), .ref mtd, .int (iI 0), .ref mrw, .ref mrl, .ref mir]))] H := hP
  have hD : va_D A [(m0, .inr (11, [.ref mg, .long (lI 0), .ref mk, .long (lI 0), .int (iI 0), .ref mp, .ref mpu, .int (iI 0), .ref ms, .long (lI 0), .int (iI 0), .int (iI 2), .int (iI 0), .int (iI 0), .int (iI 0), .long (lI 0), .ref mpl, .int (iI 0), .ref mpd, .int (iI 0), .ref mtx, .int (iI 0), .int (iI 0), .int (iI (-1)), .int (iI (-1)), .int (iI 0), .ref mtd, .int (iI 0), .ref mrw, .ref mrl, .ref mir]))] := hD
  refine lv_istore (lv' := [(7, .int (iI 0)), (6, .int (iI 2)), (5, .int (iI 0)), (4, .ref hoD), (3, .ref hout), (2, .ref m0), (1, .ref h0), (0, .ref bS)]) hx hb dL_law_507 hl (by decide) rfl (fun ls hl => ?_)
  refine lv_aload_n hx hb dL_law_509 rfl (lv_at hl 5 rfl) ?_
  refine ki (va_runV (As := []) (rest := []) hSF ((c_X11_thrown l dC dI k m0 (.ref mg) (.long (lI 0)) (.ref mk) (.long (lI 0)) (.int (iI 0)) (.ref mp) (.ref mpu) (.int (iI 0)) (.ref ms) (.long (lI 0)) (.int (iI 0)) 2 [.int (iI 0), .int (iI 0), .int (iI 0), .long (lI 0), .ref mpl, .int (iI 0), .ref mpd, .int (iI 0), .ref mtx, .int (iI 0), .int (iI 0), .int (iI (-1)), .int (iI (-1)), .int (iI 0), .ref mtd, .int (iI 0), .ref mrw, .ref mrl, .ref mir]) H.size) (cwV 0 hts gL_law_X11_thrown rfl rfl rfl (by decide +kernel) ⟨Nat.le_of_ble_eq_true rfl, Nat.le_of_ble_eq_true rfl⟩) (preV hP hD hE hS hA [0] rfl (by decide) (ci := 11) (q0 := 0) rfl rfl) rfl rfl hl.1 rfl (lv_room (Nat.le_of_ble_eq_true rfl)) dL_law_510 ⟨Nat.le_of_ble_eq_true rfl, Nat.le_of_ble_eq_true rfl⟩) hP hD hS hA [0] [] rfl (wr := []) rfl (by decide) (by decide) (fun r510 _ H locs hw hP hD hS => ?_)
  obtain rfl : r510 = (iI 2) := hw
  have hP : va_P (dC, dI) vwCl [(m0, .inr (11, [.ref mg, .long (lI 0), .ref mk, .long (lI 0), .int (iI 0), .ref mp, .ref mpu, .int (iI 0), .ref ms, .long (lI 0), .int (iI 0), .int (iI 2), .int (iI 0), .int (iI 0), .int (iI 0), .long (lI 0), .ref mpl, .int (iI 0), .ref mpd, .int (iI 0), .ref mtx, .int (iI 0), .int (iI 0), .int (iI (-1)), .int (iI (-1)), .int (iI 0), .ref mtd, .int (iI 0), .ref mrw, .ref mrl, .ref mir]))] H := hP
  have hD : va_D A [(m0, .inr (11, [.ref mg, .long (lI 0), .ref mk, .long (lI 0), .int (iI 0), .ref mp, .ref mpu, .int (iI 0), .ref ms, .long (lI 0), .int (iI 0), .int (iI 2), .int (iI 0), .int (iI 0), .int (iI 0), .long (lI 0), .ref mpl, .int (iI 0), .ref mpd, .int (iI 0), .ref mtx, .int (iI 0), .int (iI 0), .int (iI (-1)), .int (iI (-1)), .int (iI 0), .ref mtd, .int (iI 0), .ref mrw, .ref mrl, .ref mir]))] := hD
  refine lv_iload hx hb dL_law_513 (lv_at hl 1 rfl) ?_
  refine q_icmp_eq (tgt := 520) hx hb dL_law_515 (by decide) (by omega) (fun _ => ?_) (fun q => absurd q (by omega))
  refine lv_iload hx hb dL_law_520 (lv_at hl 1 rfl) ?_
  refine q_if_ne (tgt := 537) hx hb dL_law_522 (by decide) (by omega) (fun _ => ?_) (fun q => absurd q (by omega))
  refine lv_goto (tgt := 1935) hx hb dL_law_537 (by decide) ?_
  exact law_end l hL5 C0 hAe hS (lv_sub hl [2, 7] rfl) (Nat.le_of_ble_eq_true rfl) (Nat.le_of_ble_eq_true rfl)
set_option maxHeartbeats 4000000 in
set_option maxRecDepth 100000 in
theorem law_4_1 (l : Launch) (dC : Nat → ClassId) (dI : Nat → Nat → Nat) (k : Nat → ClassId) {p : Program} {e : Env} {s : State} {mI : MethodId} {below : List Frame} {meth : Method} {cO : Code} {bS L : Nat} {zs : Nat → Int32} (hL5 : L = 5) (C0 : lw_At p s mI meth cO bS L zs) (hE : En (dC, dI) k (va_A [] s.heap.size) s s.heap) (hout : Nat) (h0 hn g1 g2 hea g3 g4 g5 g6 g7 xa1 xa2 xa3 xa4 xa5 xa6 xa7 xa8 xa9 xa10 xa11 he0 ya1 ya2 ya3 ya4 ya5 ya6 ya7 ya8 ya9 ya10 ya11 xk xw : Nat) (xeF : Nat → Option Nat) (xv : Int) (hea0 : xeF 0 = some he0) (hv9 : -2147483648 ≤ xv ∧ xv ≤ 2147483647) (hv : 0 ≤ xv ∧ xv ≤ 1) (m0 mg mk mp mpu ms mpl mpd mtx mtd mrw mrl mir hoD : Nat) (x1 : zs 1 = iI 1) (x2 : zs 2 = iI xv) : ∀ (H : Heap) (locs : List Loc), va_P (dC, dI) vwCl [(h0, .inr (10, [.ref hn, .ref g1, .ref g2, .ref hea, .ref g3, .ref g4, .ref g5, .ref g6, .ref g7, .int (iI 0), .int (iI 0), .int (iI 0), .int (iI (-1)), .int (iI (-1)), .int (iI 0)])), (hn, .inr (2, [.ref xa1, .ref xa2, .ref xa3, .ref xa5, .ref xa8, .int (iI 0), .int (iI 0), .int (iI 0)])), (xa1, .inl (k 0, 5, .inl (aI (upI (upI (upI (upI (upI aZ 0 0) 1 0) 2 10) 3 500) 4 0)))), (xa2, .inl (k 0, 5, .inl (aI aZ))), (xa3, .inr (7, [.int (iI 0), .int (iI 0), .int (iI 0), .long (lI 0), .int (iI 0), .int (iI 0), .int (iI 0), .long (lI 0), .long (lI 0), .long (lI 0), .long (lI 0), .long (lI 0), .int (iI 0), .int (iI 0), .int (iI 0), .int (iI 0), .ref xa4])), (xa4, .inl (k 1, 8, .inr (.inl (aL aZ)))), (xa5, .inr (3, [.ref xa6, .ref xa7, .int (iI 0), .int (iI 0), .int (iI 0)])), (xa6, .inl (k 1, 264, .inr (.inl (aL aZ)))), (xa7, .inl (k 0, 264, .inl (aI aZ))), (xa8, .inr (6, [.ref xa9, .ref xa10, .ref xa11, .int (iI 0), .int (iI 0)])), (xa9, .inl (k 0, 60, .inl (aI aZ))), (xa10, .inl (k 0, 60, .inl (aI aZ))), (xa11, .inl (k 1, 60, .inr (.inl (aL aZ)))), (hea, .inl (k 6, 8, .inr (.inr (.inr (.inr xeF))))), (he0, .inr (2, [.ref ya1, .ref ya2, .ref ya3, .ref ya5, .ref ya8, .int (iI 0), .int (iI 0), .int (iI 0)])), (ya1, .inl (k 0, 5, .inl (aI (upI (upI (upI (upI (upI aZ 0 0) 1 0) 2 10) 3 500) 4 0)))), (ya2, .inl (k 0, 5, .inl (aI aZ))), (ya3, .inr (7, [.int (iI 0), .int (iI 0), .int (iI 0), .long (lI 0), .int (iI 0), .int (iI 0), .int (iI 0), .long (lI 0), .long (lI 0), .long (lI 0), .long (lI 0), .long (lI 0), .int (iI 0), .int (iI 0), .int (iI 0), .int (iI 0), .ref ya4])), (ya4, .inl (k 1, 8, .inr (.inl (aL aZ)))), (ya5, .inr (3, [.ref ya6, .ref ya7, .int (iI 0), .int (iI 0), .int (iI 0)])), (ya6, .inl (k 1, 264, .inr (.inl (aL aZ)))), (ya7, .inl (k 0, 264, .inl (aI aZ))), (ya8, .inr (6, [.ref ya9, .ref ya10, .ref ya11, .int (iI 0), .int (iI 0)])), (ya9, .inl (k 0, 60, .inl (aI aZ))), (ya10, .inl (k 0, 60, .inl (aI aZ))), (ya11, .inl (k 1, 60, .inr (.inl (aL aZ)))), (g3, .inr (4, [.ref xk, .ref xw])), (xk, .inl (k 0, 512, .inl (aI aZ))), (xw, .inl (k 0, 512, .inl (aI aZ))), (hout, .inl (k 1, 1, .inr (.inl (aL aZ)))), (m0, .inr (11, [.ref mg, .long (lI 0), .ref mk, .long (lI 0), .int (iI 0), .ref mp, .ref mpu, .int (iI 0), .ref ms, .long (lI 0), .int (iI 0), .int (iI 0), .int (iI 0), .int (iI 0), .int (iI 0), .long (lI 0), .ref mpl, .int (iI 0), .ref mpd, .int (iI 0), .ref mtx, .int (iI 0), .int (iI 0), .int (iI (-1)), .int (iI (-1)), .int (iI 0), .ref mtd, .int (iI 0), .ref mrw, .ref mrl, .ref mir])), (mg, .inl (k 0, 1460, .inl (aI g0F))), (mp, .inl (k 0, 11680, .inl (aI aZ))), (mpu, .inl (k 1, 8, .inr (.inl (aL aZ))))] H → va_D (va_A [] s.heap.size) [(h0, .inr (10, [.ref hn, .ref g1, .ref g2, .ref hea, .ref g3, .ref g4, .ref g5, .ref g6, .ref g7, .int (iI 0), .int (iI 0), .int (iI 0), .int (iI (-1)), .int (iI (-1)), .int (iI 0)])), (hn, .inr (2, [.ref xa1, .ref xa2, .ref xa3, .ref xa5, .ref xa8, .int (iI 0), .int (iI 0), .int (iI 0)])), (xa1, .inl (k 0, 5, .inl (aI (upI (upI (upI (upI (upI aZ 0 0) 1 0) 2 10) 3 500) 4 0)))), (xa2, .inl (k 0, 5, .inl (aI aZ))), (xa3, .inr (7, [.int (iI 0), .int (iI 0), .int (iI 0), .long (lI 0), .int (iI 0), .int (iI 0), .int (iI 0), .long (lI 0), .long (lI 0), .long (lI 0), .long (lI 0), .long (lI 0), .int (iI 0), .int (iI 0), .int (iI 0), .int (iI 0), .ref xa4])), (xa4, .inl (k 1, 8, .inr (.inl (aL aZ)))), (xa5, .inr (3, [.ref xa6, .ref xa7, .int (iI 0), .int (iI 0), .int (iI 0)])), (xa6, .inl (k 1, 264, .inr (.inl (aL aZ)))), (xa7, .inl (k 0, 264, .inl (aI aZ))), (xa8, .inr (6, [.ref xa9, .ref xa10, .ref xa11, .int (iI 0), .int (iI 0)])), (xa9, .inl (k 0, 60, .inl (aI aZ))), (xa10, .inl (k 0, 60, .inl (aI aZ))), (xa11, .inl (k 1, 60, .inr (.inl (aL aZ)))), (hea, .inl (k 6, 8, .inr (.inr (.inr (.inr xeF))))), (he0, .inr (2, [.ref ya1, .ref ya2, .ref ya3, .ref ya5, .ref ya8, .int (iI 0), .int (iI 0), .int (iI 0)])), (ya1, .inl (k 0, 5, .inl (aI (upI (upI (upI (upI (upI aZ 0 0) 1 0) 2 10) 3 500) 4 0)))), (ya2, .inl (k 0, 5, .inl (aI aZ))), (ya3, .inr (7, [.int (iI 0), .int (iI 0), .int (iI 0), .long (lI 0), .int (iI 0), .int (iI 0), .int (iI 0), .long (lI 0), .long (lI 0), .long (lI 0), .long (lI 0), .long (lI 0), .int (iI 0), .int (iI 0), .int (iI 0), .int (iI 0), .ref ya4])), (ya4, .inl (k 1, 8, .inr (.inl (aL aZ)))), (ya5, .inr (3, [.ref ya6, .ref ya7, .int (iI 0), .int (iI 0), .int (iI 0)])), (ya6, .inl (k 1, 264, .inr (.inl (aL aZ)))), (ya7, .inl (k 0, 264, .inl (aI aZ))), (ya8, .inr (6, [.ref ya9, .ref ya10, .ref ya11, .int (iI 0), .int (iI 0)])), (ya9, .inl (k 0, 60, .inl (aI aZ))), (ya10, .inl (k 0, 60, .inl (aI aZ))), (ya11, .inl (k 1, 60, .inr (.inl (aL aZ)))), (g3, .inr (4, [.ref xk, .ref xw])), (xk, .inl (k 0, 512, .inl (aI aZ))), (xw, .inl (k 0, 512, .inl (aI aZ))), (hout, .inl (k 1, 1, .inr (.inl (aL aZ)))), (m0, .inr (11, [.ref mg, .long (lI 0), .ref mk, .long (lI 0), .int (iI 0), .ref mp, .ref mpu, .int (iI 0), .ref ms, .long (lI 0), .int (iI 0), .int (iI 0), .int (iI 0), .int (iI 0), .int (iI 0), .long (lI 0), .ref mpl, .int (iI 0), .ref mpd, .int (iI 0), .ref mtx, .int (iI 0), .int (iI 0), .int (iI (-1)), .int (iI (-1)), .int (iI 0), .ref mtd, .int (iI 0), .ref mrw, .ref mrl, .ref mir])), (mg, .inl (k 0, 1460, .inl (aI g0F))), (mp, .inl (k 0, 11680, .inl (aI aZ))), (mpu, .inl (k 1, 8, .inr (.inl (aL aZ))))] → va_S (va_A [] s.heap.size) s.heap H locs → ∀ ls : Array Slot, lv_has ls 9 [(5, .int (iI 0)), (4, .ref hoD), (3, .ref hout), (2, .ref m0), (1, .ref h0), (0, .ref bS)] → W p l e room_1 s mI #[Value.ref bS] below meth cO H locs 173 27875 (lw_Z below #[Value.ref bS] s) (F0 mI 472 ls []) := by
  intro H locs hP hD hS ls hl
  obtain ⟨hx, hb, hr, hml, hown0, hts0, hX, hbl, hlocks, hgv⟩ := id C0
  have hts : ∀ w ∈ wsL_law, w.before #[Value.ref bS] s = true := fun w h => hts0 w (wsL_law_in w h)
  have hown : s.vm.findClass RL = some mI.cls := hown0
  generalize hAe : va_A [] s.heap.size = A at hE hD hS
  have hA : ∀ q : Nat, s.heap.size ≤ q → A q := fun q h => by rw [← hAe]; exact Or.inr h
  have hbA : ¬ A bS := fa_A hAe hbl
  obtain ⟨hK, hNw, hNc, hZs, hAO1, hAO2⟩ := id hE
  have hSF : CallFix p mI cO cL_law 9 s ([.ref bS] : List Value).toArray wsL_law RL := ⟨hx, hb, hml, hown, hts⟩
  refine lv_aload_n hx hb dL_law_472 rfl (lv_at hl 4 rfl) ?_
  refine lv_aload_n hx hb dL_law_473 rfl (lv_at hl 5 rfl) ?_
  refine lv_iload hx hb dL_law_474 (lv_at hl 0 rfl) ?_
  refine q_iconst hx hb dL_law_476 ?_
  refine q_iadd (z := 1) hx hb dL_law_477 (by omega) ?_
  refine va_sld hx hb hX hbl hbA hS (iI_in (by omega)) dL_law_478 ?_
  rw [show (iI 1).toNatClampNeg = 1 from by decide, x1]
  refine lv_aload_n hx hb dL_law_479 rfl (lv_at hl 5 rfl) ?_
  refine lv_iload hx hb dL_law_480 (lv_at hl 0 rfl) ?_
  refine q_iconst hx hb dL_law_482 ?_
  refine q_iadd (z := 2) hx hb dL_law_483 (by omega) ?_
  refine va_sld hx hb hX hbl hbA hS (iI_in (by omega)) dL_law_484 ?_
  rw [show (iI 2).toNatClampNeg = 2 from by decide, x2]
  refine lv_aload_n hx hb dL_law_485 rfl (lv_at hl 2 rfl) ?_
  refine ki (vx_runSW (As := [.ref h0, .int (iI 1), .int (iI xv), .ref hout]) (rest := []) hSF ((c_L_set_1 l dC dI k hout h0 hn g1 g2 hea g3 g4 g5 g6 g7 xa1 xa2 xa3 xa4 xa5 xa6 xa7 xa8 xa9 xa10 xa11 he0 ya1 ya2 ya3 ya4 ya5 ya6 ya7 ya8 ya9 ya10 ya11 xk xw xeF xv hea0 (by omega) (by omega)) H.size) (vx_cwSW 4 hts gL_law_L_set rfl rfl rfl (by decide +kernel) ⟨Nat.le_of_ble_eq_true rfl, Nat.le_of_ble_eq_true rfl⟩) (preS hP hD hE hS hA [0, 1, 2, 3, 4, 5, 6, 7, 8, 9, 10, 11, 12, 13, 14, 15, 16, 17, 18, 19, 20, 21, 22, 23, 24, 25, 26, 27, 28, 29] rfl (by decide)) rfl rfl hl.1 rfl (lv_room (Nat.le_of_ble_eq_true rfl)) dL_law_486 ⟨Nat.le_of_ble_eq_true rfl, Nat.le_of_ble_eq_true rfl⟩) hP hD hS hA [0, 1, 2, 3, 4, 5, 6, 7, 8, 9, 10, 11, 12, 13, 14, 15, 16, 17, 18, 19, 20, 21, 22, 23, 24, 25, 26, 27, 28, 29] [30, 31, 32, 33] rfl (wr := [(m0, .inr (11, [.ref mg, .long (lI 0), .ref mk, .long (lI 0), .int (iI 0), .ref mp, .ref mpu, .int (iI 0), .ref ms, .long (lI 0), .int (iI 0), .int (iI 0), .int (iI 0), .int (iI 0), .int (iI 0), .long (lI 0), .ref mpl, .int (iI 0), .ref mpd, .int (iI 0), .ref mtx, .int (iI 0), .int (iI 0), .int (iI (-1)), .int (iI (-1)), .int (iI 0), .ref mtd, .int (iI 0), .ref mrw, .ref mrl, .ref mir])), (mg, .inl (k 0, 1460, .inl (aI g0F))), (mp, .inl (k 0, 11680, .inl (aI aZ))), (mpu, .inl (k 1, 8, .inr (.inl (aL aZ))))]) rfl (by decide) (by decide) (fun r486 _ H locs hw hP hD hS => ?_)
  obtain rfl : r486 = (iI 0) := hw
  have hP : va_P (dC, dI) vwCl [(m0, .inr (11, [.ref mg, .long (lI 0), .ref mk, .long (lI 0), .int (iI 0), .ref mp, .ref mpu, .int (iI 0), .ref ms, .long (lI 0), .int (iI 0), .int (iI 0), .int (iI 0), .int (iI 0), .int (iI 0), .long (lI 0), .ref mpl, .int (iI 0), .ref mpd, .int (iI 0), .ref mtx, .int (iI 0), .int (iI 0), .int (iI (-1)), .int (iI (-1)), .int (iI 0), .ref mtd, .int (iI 0), .ref mrw, .ref mrl, .ref mir])), (mg, .inl (k 0, 1460, .inl (aI g0F))), (mp, .inl (k 0, 11680, .inl (aI aZ))), (mpu, .inl (k 1, 8, .inr (.inl (aL aZ)))), (hout, .inl (k 1, 1, .inr (.inl (aL (upI aZ 0 0)))))] H := hP
  have hD : va_D A [(m0, .inr (11, [.ref mg, .long (lI 0), .ref mk, .long (lI 0), .int (iI 0), .ref mp, .ref mpu, .int (iI 0), .ref ms, .long (lI 0), .int (iI 0), .int (iI 0), .int (iI 0), .int (iI 0), .int (iI 0), .long (lI 0), .ref mpl, .int (iI 0), .ref mpd, .int (iI 0), .ref mtx, .int (iI 0), .int (iI 0), .int (iI (-1)), .int (iI (-1)), .int (iI 0), .ref mtd, .int (iI 0), .ref mrw, .ref mrl, .ref mir])), (mg, .inl (k 0, 1460, .inl (aI g0F))), (mp, .inl (k 0, 11680, .inl (aI aZ))), (mpu, .inl (k 1, 8, .inr (.inl (aL aZ)))), (hout, .inl (k 1, 1, .inr (.inl (aL (upI aZ 0 0)))))] := hD
  refine lv_istore (lv' := [(6, .int (iI 0)), (5, .int (iI 0)), (4, .ref hoD), (3, .ref hout), (2, .ref m0), (1, .ref h0), (0, .ref bS)]) hx hb dL_law_489 hl (by decide) rfl (fun ls hl => ?_)
  refine lv_aload_n hx hb dL_law_491 rfl (lv_at hl 4 rfl) ?_
  refine lv_aload_n hx hb dL_law_492 rfl (lv_at hl 6 rfl) ?_
  refine lv_iload hx hb dL_law_493 (lv_at hl 1 rfl) ?_
  refine q_iconst hx hb dL_law_495 ?_
  refine q_iadd (z := 1) hx hb dL_law_496 (by omega) ?_
  refine va_sld hx hb hX hbl hbA hS (iI_in (by omega)) dL_law_497 ?_
  rw [show (iI 1).toNatClampNeg = 1 from by decide, x1]
  refine lv_aload_n hx hb dL_law_498 rfl (lv_at hl 6 rfl) ?_
  refine lv_iload hx hb dL_law_499 (lv_at hl 1 rfl) ?_
  refine q_iconst hx hb dL_law_501 ?_
  refine q_iadd (z := 2) hx hb dL_law_502 (by omega) ?_
  refine va_sld hx hb hX hbl hbA hS (iI_in (by omega)) dL_law_503 ?_
  rw [show (iI 2).toNatClampNeg = 2 from by decide, x2]
  refine ki (va_runV (As := [.int (iI 1), .int (iI xv)]) (rest := []) hSF ((c_X11_set_1 l dC dI k m0 mg mk mp mpu ms mpl mpd mtx mtd mrw mrl mir xv (by omega) (by omega)) H.size) (cwV 2 hts gL_law_X11_set rfl rfl rfl (by decide +kernel) ⟨Nat.le_of_ble_eq_true rfl, Nat.le_of_ble_eq_true rfl⟩) (preV hP hD hE hS hA [0, 1, 2, 3] rfl (by decide) (ci := 11) (q0 := 0) rfl rfl) rfl rfl hl.1 rfl (lv_room (Nat.le_of_ble_eq_true rfl)) dL_law_504 ⟨Nat.le_of_ble_eq_true rfl, Nat.le_of_ble_eq_true rfl⟩) hP hD hS hA [0, 1, 2, 3] [4] rfl (wr := [(hout, .inl (k 1, 1, .inr (.inl (aL (upI aZ 0 0)))))]) rfl (by decide) (by decide) (fun r504 _ H locs hw hP hD hS => ?_)
  obtain rfl : r504 = (iI 0) := hw
  have hP : va_P (dC, dI) vwCl [(hout, .inl (k 1, 1, .inr (.inl (aL (upI aZ 0 0))))), (m0, .inr (11, [.ref mg, .long (lI 0), .ref mk, .long (lI 0), .int (iI 0), .ref mp, .ref mpu, .int (iI 1), .ref ms, .long (lI 0), .int (iI 0), .int (iI 0), .int (iI 0), .int (iI 0), .int (iI 0), .long (lI 0), .ref mpl, .int (iI 0), .ref mpd, .int (iI 0), .ref mtx, .int (iI 0), .int (iI 0), .int (iI (-1)), .int (iI (-1)), .int (iI 0), .ref mtd, .int (iI 0), .ref mrw, .ref mrl, .ref mir]))] H := hP
  have hD : va_D A [(hout, .inl (k 1, 1, .inr (.inl (aL (upI aZ 0 0))))), (m0, .inr (11, [.ref mg, .long (lI 0), .ref mk, .long (lI 0), .int (iI 0), .ref mp, .ref mpu, .int (iI 1), .ref ms, .long (lI 0), .int (iI 0), .int (iI 0), .int (iI 0), .int (iI 0), .int (iI 0), .long (lI 0), .ref mpl, .int (iI 0), .ref mpd, .int (iI 0), .ref mtx, .int (iI 0), .int (iI 0), .int (iI (-1)), .int (iI (-1)), .int (iI 0), .ref mtd, .int (iI 0), .ref mrw, .ref mrl, .ref mir]))] := hD
  refine lv_istore (lv' := [(7, .int (iI 0)), (6, .int (iI 0)), (5, .int (iI 0)), (4, .ref hoD), (3, .ref hout), (2, .ref m0), (1, .ref h0), (0, .ref bS)]) hx hb dL_law_507 hl (by decide) rfl (fun ls hl => ?_)
  refine lv_aload_n hx hb dL_law_509 rfl (lv_at hl 5 rfl) ?_
  refine ki (va_runV (As := []) (rest := []) hSF ((c_X11_thrown l dC dI k m0 (.ref mg) (.long (lI 0)) (.ref mk) (.long (lI 0)) (.int (iI 0)) (.ref mp) (.ref mpu) (.int (iI 1)) (.ref ms) (.long (lI 0)) (.int (iI 0)) 0 [.int (iI 0), .int (iI 0), .int (iI 0), .long (lI 0), .ref mpl, .int (iI 0), .ref mpd, .int (iI 0), .ref mtx, .int (iI 0), .int (iI 0), .int (iI (-1)), .int (iI (-1)), .int (iI 0), .ref mtd, .int (iI 0), .ref mrw, .ref mrl, .ref mir]) H.size) (cwV 0 hts gL_law_X11_thrown rfl rfl rfl (by decide +kernel) ⟨Nat.le_of_ble_eq_true rfl, Nat.le_of_ble_eq_true rfl⟩) (preV hP hD hE hS hA [1] rfl (by decide) (ci := 11) (q0 := 1) rfl rfl) rfl rfl hl.1 rfl (lv_room (Nat.le_of_ble_eq_true rfl)) dL_law_510 ⟨Nat.le_of_ble_eq_true rfl, Nat.le_of_ble_eq_true rfl⟩) hP hD hS hA [1] [0] rfl (wr := [(hout, .inl (k 1, 1, .inr (.inl (aL (upI aZ 0 0)))))]) rfl (by decide) (by decide) (fun r510 _ H locs hw hP hD hS => ?_)
  obtain rfl : r510 = (iI 0) := hw
  have hP : va_P (dC, dI) vwCl [(hout, .inl (k 1, 1, .inr (.inl (aL (upI aZ 0 0))))), (m0, .inr (11, [.ref mg, .long (lI 0), .ref mk, .long (lI 0), .int (iI 0), .ref mp, .ref mpu, .int (iI 1), .ref ms, .long (lI 0), .int (iI 0), .int (iI 0), .int (iI 0), .int (iI 0), .int (iI 0), .long (lI 0), .ref mpl, .int (iI 0), .ref mpd, .int (iI 0), .ref mtx, .int (iI 0), .int (iI 0), .int (iI (-1)), .int (iI (-1)), .int (iI 0), .ref mtd, .int (iI 0), .ref mrw, .ref mrl, .ref mir]))] H := hP
  have hD : va_D A [(hout, .inl (k 1, 1, .inr (.inl (aL (upI aZ 0 0))))), (m0, .inr (11, [.ref mg, .long (lI 0), .ref mk, .long (lI 0), .int (iI 0), .ref mp, .ref mpu, .int (iI 1), .ref ms, .long (lI 0), .int (iI 0), .int (iI 0), .int (iI 0), .int (iI 0), .int (iI 0), .long (lI 0), .ref mpl, .int (iI 0), .ref mpd, .int (iI 0), .ref mtx, .int (iI 0), .int (iI 0), .int (iI (-1)), .int (iI (-1)), .int (iI 0), .ref mtd, .int (iI 0), .ref mrw, .ref mrl, .ref mir]))] := hD
  refine lv_iload hx hb dL_law_513 (lv_at hl 1 rfl) ?_
  refine q_icmp_eq (tgt := 520) hx hb dL_law_515 (by decide) (by omega) (fun _ => ?_) (fun q => absurd q (by omega))
  refine lv_iload hx hb dL_law_520 (lv_at hl 1 rfl) ?_
  refine q_if_ne (tgt := 537) hx hb dL_law_522 (by decide) (by omega) (fun q => absurd q (by omega)) (fun _ => ?_)
  refine lv_aload_n hx hb dL_law_525 rfl (lv_at hl 4 rfl) ?_
  refine q_iconst hx hb dL_law_526 ?_
  refine q_lald (z := 0) hx hb hK hP 0 1 rfl rfl (by omega) upI_s dL_law_527 ?_
  refine lv_iload hx hb dL_law_528 (lv_at hl 0 rfl) ?_
  refine q_i2l hx hb dL_law_530 (by omega) ?_
  refine q_lcmp hx hb dL_law_531 ?_
  refine q_lif_eq (tgt := 537) hx hb dL_law_532 (by decide) (by omega) (fun _ => ?_) (fun q => absurd q (by omega))
  refine lv_goto (tgt := 1935) hx hb dL_law_537 (by decide) ?_
  exact law_end l hL5 C0 hAe hS (lv_sub hl [2, 7] rfl) (Nat.le_of_ble_eq_true rfl) (Nat.le_of_ble_eq_true rfl)
set_option maxHeartbeats 4000000 in
set_option maxRecDepth 100000 in
theorem law_4_1_x (l : Launch) (hl0 : l.stackTraces = false) (dC : Nat → ClassId) (dI : Nat → Nat → Nat) (k : Nat → ClassId) {p : Program} {e : Env} {s : State} {mI : MethodId} {below : List Frame} {meth : Method} {cO : Code} {bS L : Nat} {zs : Nat → Int32} (hL5 : L = 5) (C0 : lw_At p s mI meth cO bS L zs) (hE : En (dC, dI) k (va_A [] s.heap.size) s s.heap) (hout : Nat) (h0 hn g1 g2 hea g3 g4 g5 g6 g7 xa1 xa2 xa3 xa4 xa5 xa6 xa7 xa8 xa9 xa10 xa11 : Nat) (xv : Int) (hv9 : -2147483648 ≤ xv ∧ xv ≤ 2147483647) (hv : ¬ (0 ≤ xv ∧ xv ≤ 1)) (m0 mg mk mp mpu ms mpl mpd mtx mtd mrw mrl mir hoD : Nat) (x1 : zs 1 = iI 1) (x2 : zs 2 = iI xv) : ∀ (H : Heap) (locs : List Loc), va_P (dC, dI) vwCl [(h0, .inr (10, [.ref hn, .ref g1, .ref g2, .ref hea, .ref g3, .ref g4, .ref g5, .ref g6, .ref g7, .int (iI 0), .int (iI 0), .int (iI 0), .int (iI (-1)), .int (iI (-1)), .int (iI 0)])), (hn, .inr (2, [.ref xa1, .ref xa2, .ref xa3, .ref xa5, .ref xa8, .int (iI 0), .int (iI 0), .int (iI 0)])), (xa3, .inr (7, [.int (iI 0), .int (iI 0), .int (iI 0), .long (lI 0), .int (iI 0), .int (iI 0), .int (iI 0), .long (lI 0), .long (lI 0), .long (lI 0), .long (lI 0), .long (lI 0), .int (iI 0), .int (iI 0), .int (iI 0), .int (iI 0), .ref xa4])), (hout, .inl (k 1, 1, .inr (.inl (aL aZ)))), (m0, .inr (11, [.ref mg, .long (lI 0), .ref mk, .long (lI 0), .int (iI 0), .ref mp, .ref mpu, .int (iI 0), .ref ms, .long (lI 0), .int (iI 0), .int (iI 0), .int (iI 0), .int (iI 0), .int (iI 0), .long (lI 0), .ref mpl, .int (iI 0), .ref mpd, .int (iI 0), .ref mtx, .int (iI 0), .int (iI 0), .int (iI (-1)), .int (iI (-1)), .int (iI 0), .ref mtd, .int (iI 0), .ref mrw, .ref mrl, .ref mir])), (mg, .inl (k 0, 1460, .inl (aI g0F)))] H → va_D (va_A [] s.heap.size) [(h0, .inr (10, [.ref hn, .ref g1, .ref g2, .ref hea, .ref g3, .ref g4, .ref g5, .ref g6, .ref g7, .int (iI 0), .int (iI 0), .int (iI 0), .int (iI (-1)), .int (iI (-1)), .int (iI 0)])), (hn, .inr (2, [.ref xa1, .ref xa2, .ref xa3, .ref xa5, .ref xa8, .int (iI 0), .int (iI 0), .int (iI 0)])), (xa3, .inr (7, [.int (iI 0), .int (iI 0), .int (iI 0), .long (lI 0), .int (iI 0), .int (iI 0), .int (iI 0), .long (lI 0), .long (lI 0), .long (lI 0), .long (lI 0), .long (lI 0), .int (iI 0), .int (iI 0), .int (iI 0), .int (iI 0), .ref xa4])), (hout, .inl (k 1, 1, .inr (.inl (aL aZ)))), (m0, .inr (11, [.ref mg, .long (lI 0), .ref mk, .long (lI 0), .int (iI 0), .ref mp, .ref mpu, .int (iI 0), .ref ms, .long (lI 0), .int (iI 0), .int (iI 0), .int (iI 0), .int (iI 0), .int (iI 0), .long (lI 0), .ref mpl, .int (iI 0), .ref mpd, .int (iI 0), .ref mtx, .int (iI 0), .int (iI 0), .int (iI (-1)), .int (iI (-1)), .int (iI 0), .ref mtd, .int (iI 0), .ref mrw, .ref mrl, .ref mir])), (mg, .inl (k 0, 1460, .inl (aI g0F)))] → va_S (va_A [] s.heap.size) s.heap H locs → ∀ ls : Array Slot, lv_has ls 9 [(5, .int (iI 0)), (4, .ref hoD), (3, .ref hout), (2, .ref m0), (1, .ref h0), (0, .ref bS)] → W p l e room_1 s mI #[Value.ref bS] below meth cO H locs 173 27875 (lw_Z below #[Value.ref bS] s) (F0 mI 472 ls []) := by
  intro H locs hP hD hS ls hl
  obtain ⟨hx, hb, hr, hml, hown0, hts0, hX, hbl, hlocks, hgv⟩ := id C0
  have hts : ∀ w ∈ wsL_law, w.before #[Value.ref bS] s = true := fun w h => hts0 w (wsL_law_in w h)
  have hown : s.vm.findClass RL = some mI.cls := hown0
  generalize hAe : va_A [] s.heap.size = A at hE hD hS
  have hA : ∀ q : Nat, s.heap.size ≤ q → A q := fun q h => by rw [← hAe]; exact Or.inr h
  have hbA : ¬ A bS := fa_A hAe hbl
  obtain ⟨hK, hNw, hNc, hZs, hAO1, hAO2⟩ := id hE
  have hSF : CallFix p mI cO cL_law 9 s ([.ref bS] : List Value).toArray wsL_law RL := ⟨hx, hb, hml, hown, hts⟩
  refine lv_aload_n hx hb dL_law_472 rfl (lv_at hl 4 rfl) ?_
  refine lv_aload_n hx hb dL_law_473 rfl (lv_at hl 5 rfl) ?_
  refine lv_iload hx hb dL_law_474 (lv_at hl 0 rfl) ?_
  refine q_iconst hx hb dL_law_476 ?_
  refine q_iadd (z := 1) hx hb dL_law_477 (by omega) ?_
  refine va_sld hx hb hX hbl hbA hS (iI_in (by omega)) dL_law_478 ?_
  rw [show (iI 1).toNatClampNeg = 1 from by decide, x1]
  refine lv_aload_n hx hb dL_law_479 rfl (lv_at hl 5 rfl) ?_
  refine lv_iload hx hb dL_law_480 (lv_at hl 0 rfl) ?_
  refine q_iconst hx hb dL_law_482 ?_
  refine q_iadd (z := 2) hx hb dL_law_483 (by omega) ?_
  refine va_sld hx hb hX hbl hbA hS (iI_in (by omega)) dL_law_484 ?_
  rw [show (iI 2).toNatClampNeg = 2 from by decide, x2]
  refine lv_aload_n hx hb dL_law_485 rfl (lv_at hl 2 rfl) ?_
  refine ki (vx_runSW (As := [.ref h0, .int (iI 1), .int (iI xv), .ref hout]) (rest := []) hSF ((c_L_set_1_x l hl0 dC dI k hout h0 hn g1 g2 hea g3 g4 g5 g6 g7 xa1 xa2 xa3 xa4 xa5 0 0 xa8 0 0 0 xv (by omega) (by omega)) H.size) (vx_cwSW 4 hts gL_law_L_set rfl rfl rfl (by decide +kernel) ⟨Nat.le_of_ble_eq_true rfl, Nat.le_of_ble_eq_true rfl⟩) (preS hP hD hE hS hA [0, 1, 2, 3] rfl (by decide)) rfl rfl hl.1 rfl (lv_room (Nat.le_of_ble_eq_true rfl)) dL_law_486 ⟨Nat.le_of_ble_eq_true rfl, Nat.le_of_ble_eq_true rfl⟩) hP hD hS hA [0, 1, 2, 3] [4, 5] rfl (wr := [(m0, .inr (11, [.ref mg, .long (lI 0), .ref mk, .long (lI 0), .int (iI 0), .ref mp, .ref mpu, .int (iI 0), .ref ms, .long (lI 0), .int (iI 0), .int (iI 0), .int (iI 0), .int (iI 0), .int (iI 0), .long (lI 0), .ref mpl, .int (iI 0), .ref mpd, .int (iI 0), .ref mtx, .int (iI 0), .int (iI 0), .int (iI (-1)), .int (iI (-1)), .int (iI 0), .ref mtd, .int (iI 0), .ref mrw, .ref mrl, .ref mir])), (mg, .inl (k 0, 1460, .inl (aI g0F)))]) rfl (by decide) (by decide) (fun r486 _ H locs hw hP hD hS => ?_)
  obtain rfl : r486 = (iI 2) := hw
  have hP : va_P (dC, dI) vwCl [(m0, .inr (11, [.ref mg, .long (lI 0), .ref mk, .long (lI 0), .int (iI 0), .ref mp, .ref mpu, .int (iI 0), .ref ms, .long (lI 0), .int (iI 0), .int (iI 0), .int (iI 0), .int (iI 0), .int (iI 0), .long (lI 0), .ref mpl, .int (iI 0), .ref mpd, .int (iI 0), .ref mtx, .int (iI 0), .int (iI 0), .int (iI (-1)), .int (iI (-1)), .int (iI 0), .ref mtd, .int (iI 0), .ref mrw, .ref mrl, .ref mir])), (mg, .inl (k 0, 1460, .inl (aI g0F)))] H := hP
  have hD : va_D A [(m0, .inr (11, [.ref mg, .long (lI 0), .ref mk, .long (lI 0), .int (iI 0), .ref mp, .ref mpu, .int (iI 0), .ref ms, .long (lI 0), .int (iI 0), .int (iI 0), .int (iI 0), .int (iI 0), .int (iI 0), .long (lI 0), .ref mpl, .int (iI 0), .ref mpd, .int (iI 0), .ref mtx, .int (iI 0), .int (iI 0), .int (iI (-1)), .int (iI (-1)), .int (iI 0), .ref mtd, .int (iI 0), .ref mrw, .ref mrl, .ref mir])), (mg, .inl (k 0, 1460, .inl (aI g0F)))] := hD
  refine lv_istore (lv' := [(6, .int (iI 2)), (5, .int (iI 0)), (4, .ref hoD), (3, .ref hout), (2, .ref m0), (1, .ref h0), (0, .ref bS)]) hx hb dL_law_489 hl (by decide) rfl (fun ls hl => ?_)
  refine lv_aload_n hx hb dL_law_491 rfl (lv_at hl 4 rfl) ?_
  refine lv_aload_n hx hb dL_law_492 rfl (lv_at hl 6 rfl) ?_
  refine lv_iload hx hb dL_law_493 (lv_at hl 1 rfl) ?_
  refine q_iconst hx hb dL_law_495 ?_
  refine q_iadd (z := 1) hx hb dL_law_496 (by omega) ?_
  refine va_sld hx hb hX hbl hbA hS (iI_in (by omega)) dL_law_497 ?_
  rw [show (iI 1).toNatClampNeg = 1 from by decide, x1]
  refine lv_aload_n hx hb dL_law_498 rfl (lv_at hl 6 rfl) ?_
  refine lv_iload hx hb dL_law_499 (lv_at hl 1 rfl) ?_
  refine q_iconst hx hb dL_law_501 ?_
  refine q_iadd (z := 2) hx hb dL_law_502 (by omega) ?_
  refine va_sld hx hb hX hbl hbA hS (iI_in (by omega)) dL_law_503 ?_
  rw [show (iI 2).toNatClampNeg = 2 from by decide, x2]
  refine ki (va_runV (As := [.int (iI 1), .int (iI xv)]) (rest := []) hSF ((c_X11_set_1_x l dC dI k m0 mg mk mp mpu ms mpl mpd mtx mtd mrw mrl mir xv (by omega) (by omega)) H.size) (cwV 2 hts gL_law_X11_set rfl rfl rfl (by decide +kernel) ⟨Nat.le_of_ble_eq_true rfl, Nat.le_of_ble_eq_true rfl⟩) (preV hP hD hE hS hA [0, 1] rfl (by decide) (ci := 11) (q0 := 0) rfl rfl) rfl rfl hl.1 rfl (lv_room (Nat.le_of_ble_eq_true rfl)) dL_law_504 ⟨Nat.le_of_ble_eq_true rfl, Nat.le_of_ble_eq_true rfl⟩) hP hD hS hA [0, 1] [] rfl (wr := []) rfl (by decide) (by decide) (fun r504 _ H locs hw hP hD hS => ?_)
  obtain rfl : r504 = (iI 0) := hw
  have hP : va_P (dC, dI) vwCl [(m0, .inr (11, [.ref mg, .long (lI 0), .ref mk, .long (lI 0), .int (iI 0), .ref mp, .ref mpu, .int (iI 0), .ref ms, .long (lI 0), .int (iI 0), .int (iI 2), .int (iI 0), .int (iI 0), .int (iI 0), .long (lI 0), .ref mpl, .int (iI 0), .ref mpd, .int (iI 0), .ref mtx, .int (iI 0), .int (iI 0), .int (iI (-1)), .int (iI (-1)), .int (iI 0), .ref mtd, .int (iI 0), .ref mrw, .ref mrl, .ref mir]))] H := hP
  have hD : va_D A [(m0, .inr (11, [.ref mg, .long (lI 0), .ref mk, .long (lI 0), .int (iI 0), .ref mp, .ref mpu, .int (iI 0), .ref ms, .long (lI 0), .int (iI 0), .int (iI 2), .int (iI 0), .int (iI 0), .int (iI 0), .long (lI 0), .ref mpl, .int (iI 0), .ref mpd, .int (iI 0), .ref mtx, .int (iI 0), .int (iI 0), .int (iI (-1)), .int (iI (-1)), .int (iI 0), .ref mtd, .int (iI 0), .ref mrw, .ref mrl, .ref mir]))] := hD
  refine lv_istore (lv' := [(7, .int (iI 0)), (6, .int (iI 2)), (5, .int (iI 0)), (4, .ref hoD), (3, .ref hout), (2, .ref m0), (1, .ref h0), (0, .ref bS)]) hx hb dL_law_507 hl (by decide) rfl (fun ls hl => ?_)
  refine lv_aload_n hx hb dL_law_509 rfl (lv_at hl 5 rfl) ?_
  refine ki (va_runV (As := []) (rest := []) hSF ((c_X11_thrown l dC dI k m0 (.ref mg) (.long (lI 0)) (.ref mk) (.long (lI 0)) (.int (iI 0)) (.ref mp) (.ref mpu) (.int (iI 0)) (.ref ms) (.long (lI 0)) (.int (iI 0)) 2 [.int (iI 0), .int (iI 0), .int (iI 0), .long (lI 0), .ref mpl, .int (iI 0), .ref mpd, .int (iI 0), .ref mtx, .int (iI 0), .int (iI 0), .int (iI (-1)), .int (iI (-1)), .int (iI 0), .ref mtd, .int (iI 0), .ref mrw, .ref mrl, .ref mir]) H.size) (cwV 0 hts gL_law_X11_thrown rfl rfl rfl (by decide +kernel) ⟨Nat.le_of_ble_eq_true rfl, Nat.le_of_ble_eq_true rfl⟩) (preV hP hD hE hS hA [0] rfl (by decide) (ci := 11) (q0 := 0) rfl rfl) rfl rfl hl.1 rfl (lv_room (Nat.le_of_ble_eq_true rfl)) dL_law_510 ⟨Nat.le_of_ble_eq_true rfl, Nat.le_of_ble_eq_true rfl⟩) hP hD hS hA [0] [] rfl (wr := []) rfl (by decide) (by decide) (fun r510 _ H locs hw hP hD hS => ?_)
  obtain rfl : r510 = (iI 2) := hw
  have hP : va_P (dC, dI) vwCl [(m0, .inr (11, [.ref mg, .long (lI 0), .ref mk, .long (lI 0), .int (iI 0), .ref mp, .ref mpu, .int (iI 0), .ref ms, .long (lI 0), .int (iI 0), .int (iI 2), .int (iI 0), .int (iI 0), .int (iI 0), .long (lI 0), .ref mpl, .int (iI 0), .ref mpd, .int (iI 0), .ref mtx, .int (iI 0), .int (iI 0), .int (iI (-1)), .int (iI (-1)), .int (iI 0), .ref mtd, .int (iI 0), .ref mrw, .ref mrl, .ref mir]))] H := hP
  have hD : va_D A [(m0, .inr (11, [.ref mg, .long (lI 0), .ref mk, .long (lI 0), .int (iI 0), .ref mp, .ref mpu, .int (iI 0), .ref ms, .long (lI 0), .int (iI 0), .int (iI 2), .int (iI 0), .int (iI 0), .int (iI 0), .long (lI 0), .ref mpl, .int (iI 0), .ref mpd, .int (iI 0), .ref mtx, .int (iI 0), .int (iI 0), .int (iI (-1)), .int (iI (-1)), .int (iI 0), .ref mtd, .int (iI 0), .ref mrw, .ref mrl, .ref mir]))] := hD
  refine lv_iload hx hb dL_law_513 (lv_at hl 1 rfl) ?_
  refine q_icmp_eq (tgt := 520) hx hb dL_law_515 (by decide) (by omega) (fun _ => ?_) (fun q => absurd q (by omega))
  refine lv_iload hx hb dL_law_520 (lv_at hl 1 rfl) ?_
  refine q_if_ne (tgt := 537) hx hb dL_law_522 (by decide) (by omega) (fun _ => ?_) (fun q => absurd q (by omega))
  refine lv_goto (tgt := 1935) hx hb dL_law_537 (by decide) ?_
  exact law_end l hL5 C0 hAe hS (lv_sub hl [2, 7] rfl) (Nat.le_of_ble_eq_true rfl) (Nat.le_of_ble_eq_true rfl)
