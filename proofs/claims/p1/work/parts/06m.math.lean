
/-! the least installment, as a number: both sides come to it -/
def cK (cv i : Int) : Int := cntE cv (ddE i) (ddE (i + 1))
/-- the last amount of the projected schedule for y and n payments, with f of them to come, the next one at the due day i + 1 -/
def prj (r cv y n : Int) : Nat → Int → Int → Int → Int → Int
  | 0, _, _, _, _ => 0
  | f + 1, i, P, I, U =>
    if i = n - 1 ∨ P + (I + cnE cv (U + P * r * cK cv i)) ≤ y then P + (I + cnE cv (U + P * r * cK cv i))
    else prj r cv y n f (i + 1) (P - (y - min y (I + cnE cv (U + P * r * cK cv i)))) (I + cnE cv (U + P * r * cK cv i) - min y (I + cnE cv (U + P * r * cK cv i))) (U + P * r * cK cv i - cnE cv (U + P * r * cK cv i) * ceE cv)
theorem prj_step {r cv y n i P I U : Int} (hi : i < n) : prj r cv y n (n - i).toNat i P I U =
    if i = n - 1 ∨ P + (I + cnE cv (U + P * r * cK cv i)) ≤ y then P + (I + cnE cv (U + P * r * cK cv i))
    else prj r cv y n (n - (i + 1)).toNat (i + 1) (P - (y - min y (I + cnE cv (U + P * r * cK cv i)))) (I + cnE cv (U + P * r * cK cv i) - min y (I + cnE cv (U + P * r * cK cv i))) (U + P * r * cK cv i - cnE cv (U + P * r * cK cv i) * ceE cv) := by
  rw [show (n - i).toNat = (n - (i + 1)).toNat + 1 by omega]
  rfl
theorem prj_next {r cv y n i P I U L c P' I' U' : Int} (hi : i < n) (h : prj r cv y n (n - i).toNat i P I U = L) (hc : c = cnE cv (U + P * r * cK cv i)) (h1 : ¬ (i = n - 1 ∨ P + (I + c) ≤ y)) (e1 : P' = P - (y - min y (I + c))) (e2 : I' = I + c - min y (I + c)) (e3 : U' = U + P * r * cK cv i - c * ceE cv) : prj r cv y n (n - (i + 1)).toNat (i + 1) P' I' U' = L := by
  subst hc
  rw [prj_step hi, if_neg h1] at h
  rw [e1, e2, e3]
  exact h
theorem prj_last {r cv y n i P I U L c T : Int} (hi : i < n) (h : prj r cv y n (n - i).toNat i P I U = L) (hc : c = cnE cv (U + P * r * cK cv i)) (h1 : i = n - 1 ∨ P + (I + c) ≤ y) (e : T = P + (I + c)) : T = L := by
  subst hc
  rw [prj_step hi, if_pos h1] at h
  rw [e]
  exact h
theorem cK_rng {cv i : Int} (hc : 0 ≤ cv ∧ cv ≤ 2) (hi : 0 ≤ i ∧ i < 60) : 0 ≤ cK cv i ∧ cK cv i ≤ 31 := by
  have h := dd (n := i) (by omega)
  have h' := dd (n := i + 1) (by omega)
  unfold cK cntE
  split <;> omega
theorem prd {P r k : Int} (hP : 0 ≤ P ∧ P ≤ 10000000) (hr : 0 ≤ r ∧ r ≤ 2000) (hk : 0 ≤ k ∧ k ≤ 31) : 0 ≤ P * r * k ∧ P * r * k ≤ 620000000000 := by
  have h1 : 0 ≤ P * r := Int.mul_nonneg hP.1 hr.1
  have h2 : P * r ≤ 10000000 * 2000 := Int.mul_le_mul hP.2 hr.2 hr.1 (by omega)
  have h3 : P * r * k ≤ 20000000000 * 31 := Int.mul_le_mul (by omega) hk.2 hk.1 (by omega)
  exact ⟨Int.mul_nonneg h1 hk.1, by omega⟩
theorem cn_spec (cv x : Int) : (cv = 0 ∧ 3650000 * cnE cv x ≤ x + 1825000 ∧ x + 1825000 < 3650000 * cnE cv x + 3650000 ∧ cnE cv x * ceE cv = 3650000 * cnE cv x) ∨ (cv ≠ 0 ∧ 3600000 * cnE cv x ≤ x + 1800000 ∧ x + 1800000 < 3600000 * cnE cv x + 3600000 ∧ cnE cv x * ceE cv = 3600000 * cnE cv x) := by
  unfold cnE ceE
  by_cases h : cv = 0
  · rw [if_pos h, if_pos h]
    exact Or.inl ⟨h, by omega, by omega, by omega⟩
  · rw [if_neg h, if_neg h]
    exact Or.inr ⟨h, by omega, by omega, by omega⟩
/-- what holds of a schedule's state ahead of the due day i + 1 -/
def Okp (cv i P I U : Int) : Prop := 0 ≤ P ∧ P ≤ 10000000 ∧ 0 ≤ I ∧ I ≤ 200000 * i ∧ -1825000 ≤ U ∧ U ≤ 1825000 ∧ (cv ≠ 0 → -1800000 ≤ U)
theorem okp_c {r cv n i P I U : Int} (hr : 0 ≤ r ∧ r ≤ 2000) (hc : 0 ≤ cv ∧ cv ≤ 2) (hi : 0 ≤ i ∧ i < n ∧ n ≤ 60) (h : Okp cv i P I U) : 0 ≤ P * r * cK cv i ∧ P * r * cK cv i ≤ 620000000000 ∧ 0 ≤ cnE cv (U + P * r * cK cv i) ∧ cnE cv (U + P * r * cK cv i) ≤ 200000 := by
  obtain ⟨h1, h2, h3, h4, h5, h6, h7⟩ := h
  have hk := cK_rng hc (i := i) (by omega)
  have hp := prd (P := P) (r := r) (k := cK cv i) ⟨h1, h2⟩ hr hk
  have hs := cn_spec cv (U + P * r * cK cv i)
  generalize P * r * cK cv i = X at hp hs ⊢
  generalize cnE cv (U + X) = c at hs ⊢
  refine ⟨hp.1, hp.2, ?_, ?_⟩ <;> rcases hs with hs | hs <;> omega
theorem okp_next {r cv y n i P I U c P' I' U' : Int} (hy : 0 ≤ y) (hr : 0 ≤ r ∧ r ≤ 2000) (hc : 0 ≤ cv ∧ cv ≤ 2) (hi : 0 ≤ i ∧ i < n ∧ n ≤ 60) (h : Okp cv i P I U) (hcc : c = cnE cv (U + P * r * cK cv i)) (h1 : ¬ (i = n - 1 ∨ P + (I + c) ≤ y)) (e1 : P' = P - (y - min y (I + c))) (e2 : I' = I + c - min y (I + c)) (e3 : U' = U + P * r * cK cv i - c * ceE cv) : Okp cv (i + 1) P' I' U' := by
  have hb := okp_c hr hc hi h
  obtain ⟨g1, g2, g3, g4, g5, g6, g7⟩ := h
  have hs := cn_spec cv (U + P * r * cK cv i)
  rw [← hcc] at hs hb
  generalize P * r * cK cv i = X at hb hs e3
  generalize c * ceE cv = Z at hs e3
  subst e1; subst e2; subst e3
  unfold Okp
  refine ⟨by omega, by omega, by omega, by omega, ?_, ?_, ?_⟩ <;> rcases hs with hs | hs <;> omega
/-- the schedule from the beginning of a loan -/
def LA (P0 r cv n y : Int) : Int := prj r cv y n n.toNat 0 P0 0 0
/-- the least amount with which the last payment isn't greater -/
def Lst (P0 r cv n m : Int) : Prop := 1 ≤ m ∧ LA P0 r cv n m ≤ m ∧ ∀ y : Int, 1 ≤ y → y < m → ¬ LA P0 r cv n y ≤ y
theorem Lst_one {P0 r cv n a b : Int} (ha : Lst P0 r cv n a) (hb : Lst P0 r cv n b) : a = b := by
  rcases Int.lt_trichotomy a b with h | h | h
  · exact absurd ha.2.1 (hb.2.2 a ha.1 h)
  · exact h
  · exact absurd hb.2.1 (ha.2.2 b hb.1 h)
/-- the exact debt: cents taken as units, and the units -/
def DE (cv P I U : Int) : Int := ceE cv * (P + I) + U
/-- the sum of principal and interest behind the posting: of the exact debt alone -/
theorem T_of {cv P I U X : Int} : P + (I + cnE cv (U + X)) = cnE cv (DE cv P I U + X) := by
  unfold DE cnE ceE
  by_cases h : cv = 0
  · rw [if_pos h, if_pos h, if_pos h]; omega
  · rw [if_neg h, if_neg h, if_neg h]; omega
theorem cn_mono {cv x x' : Int} (h : x' ≤ x) : cnE cv x' ≤ cnE cv x := by
  unfold cnE
  split <;> omega
theorem D_next {cv P I U X c y : Int} : DE cv (P - (y - min y (I + c))) (I + c - min y (I + c)) (U + X - c * ceE cv) = DE cv P I U + X - ceE cv * y := by
  unfold DE
  have e : P - (y - min y (I + c)) + (I + c - min y (I + c)) = P + I + c - y := by omega
  rw [e, Int.mul_sub, Int.mul_add, Int.mul_comm c]
  omega
theorem mul_mono3 {P P' r k : Int} (h : P' ≤ P) (hr : 0 ≤ r) (hk : 0 ≤ k) : P' * r * k ≤ P * r * k :=
  Int.mul_le_mul_of_nonneg_right (Int.mul_le_mul_of_nonneg_right h hr) hk
theorem ce_pos (cv : Int) : 0 < ceE cv := by
  unfold ceE
  split <;> omega
/-- a greater installment, no more principal and no more debt: the test is met again -/
theorem prj_mono {r cv n y y' : Int} (hr : 0 ≤ r ∧ r ≤ 2000) (hc : 0 ≤ cv ∧ cv ≤ 2) (hn : n ≤ 60) (hy : 0 ≤ y ∧ y ≤ y') : ∀ (f : Nat) (i P I U P' I' U' : Int), 0 ≤ i → i < n → f = (n - i).toNat → P' ≤ P → DE cv P' I' U' ≤ DE cv P I U → prj r cv y n f i P I U ≤ y → prj r cv y' n f i P' I' U' ≤ y' := by
  intro f
  induction f with
  | zero => intro i P I U P' I' U' h0 h1 h2; omega
  | succ f ih =>
    intro i P I U P' I' U' h0 h1 h2 hP hD h
    have hk := cK_rng hc (i := i) (by omega)
    have hm := mul_mono3 hP hr.1 hk.1
    have hT : P' + (I' + cnE cv (U' + P' * r * cK cv i)) ≤ P + (I + cnE cv (U + P * r * cK cv i)) := by
      rw [T_of, T_of]
      exact cn_mono (by omega)
    rw [h2, prj_step h1] at h ⊢
    by_cases hl : i = n - 1 ∨ P + (I + cnE cv (U + P * r * cK cv i)) ≤ y
    · rw [if_pos hl] at h
      rw [if_pos (by omega)]
      omega
    · rw [if_neg hl] at h
      by_cases hl' : i = n - 1 ∨ P' + (I' + cnE cv (U' + P' * r * cK cv i)) ≤ y'
      · rw [if_pos hl']
        omega
      · rw [if_neg hl']
        have hf : f = (n - (i + 1)).toNat := by omega
        rw [← hf] at h ⊢
        refine ih (i + 1) _ _ _ _ _ _ (by omega) (by omega) hf ?_ ?_ h
        · omega
        · rw [D_next, D_next]
          have hce : ceE cv * y ≤ ceE cv * y' := Int.mul_le_mul_of_nonneg_left hy.2 (by have := ce_pos cv; omega)
          omega
theorem LA_mono {P0 r cv n y y' : Int} (hr : 0 ≤ r ∧ r ≤ 2000) (hc : 0 ≤ cv ∧ cv ≤ 2) (hn : 1 ≤ n ∧ n ≤ 60) (hy : 0 ≤ y ∧ y ≤ y') (h : LA P0 r cv n y ≤ y) : LA P0 r cv n y' ≤ y' :=
  prj_mono hr hc hn.2 hy n.toNat 0 P0 0 0 P0 0 0 (by omega) (by omega) (by omega) (Int.le_refl _) (Int.le_refl _) h
/-- payments come to at least what is owed -/
theorem prj_low {r cv n y : Int} (hr : 0 ≤ r ∧ r ≤ 2000) (hc : 0 ≤ cv ∧ cv ≤ 2) (hn : n ≤ 60) (hy : 0 ≤ y) : ∀ (f : Nat) (i P I U : Int), 0 ≤ i → i < n → f = (n - i).toNat → 0 ≤ P → (0 < I + cnE cv (U + P * r * cK cv i) ∨ 0 ≤ I + cnE cv (U + P * r * cK cv i)) → prj r cv y n f i P I U ≤ y → P + (I + cnE cv (U + P * r * cK cv i)) ≤ (n - i) * y := by
  intro f
  induction f with
  | zero => intro i P I U h0 h1 h2; omega
  | succ f ih =>
    intro i P I U h0 h1 h2 hP hI h
    rw [h2, prj_step h1] at h
    have hny : y ≤ (n - i) * y := by
      have := Int.mul_le_mul_of_nonneg_right (show 1 ≤ n - i by omega) hy
      omega
    by_cases hl : i = n - 1 ∨ P + (I + cnE cv (U + P * r * cK cv i)) ≤ y
    · rw [if_pos hl] at h
      omega
    · rw [if_neg hl] at h
      have hf : f = (n - (i + 1)).toNat := by omega
      rw [← hf] at h
      generalize hc1 : cnE cv (U + P * r * cK cv i) = c at h hl hI ⊢
      have hP' : 0 ≤ P - (y - min y (I + c)) := by omega
      have hk := cK_rng hc (i := i + 1) (by omega)
      have hX := Int.mul_nonneg (Int.mul_nonneg hP' hr.1) hk.1
      have h3 := ih (i + 1) (P - (y - min y (I + c))) (I + c - min y (I + c)) (U + P * r * cK cv i - c * ceE cv) (by omega) (by omega) hf hP' ?_ h
      · rw [T_of, D_next] at h3
        have h4 : P + (I + c) = cnE cv (DE cv P I U + P * r * cK cv i) := by rw [← hc1, T_of]
        have h5 : cnE cv (DE cv P I U + P * r * cK cv i - ceE cv * y) = cnE cv (DE cv P I U + P * r * cK cv i) - y := by
          unfold cnE ceE
          split <;> omega
        have h6 : cnE cv (DE cv P I U + P * r * cK cv i - ceE cv * y) ≤ cnE cv (DE cv P I U + P * r * cK cv i - ceE cv * y + (P - (y - min y (I + c))) * r * cK cv (i + 1)) := cn_mono (by omega)
        have h7 : (n - i) * y = (n - (i + 1)) * y + y := by
          rw [show n - i = n - (i + 1) + 1 by omega, Int.add_mul, Int.one_mul]
        omega
      · have hs := cn_spec cv (U + P * r * cK cv i)
        have hs2 := cn_spec cv (U + P * r * cK cv i - c * ceE cv + (P - (y - min y (I + c))) * r * cK cv (i + 1))
        rw [hc1] at hs
        generalize (P - (y - min y (I + c))) * r * cK cv (i + 1) = X2 at hX hs2 ⊢
        generalize c * ceE cv = Z at hs hs2 ⊢
        generalize P * r * cK cv i = X1 at hs hs2 ⊢
        right
        rcases hs with hs | hs <;> rcases hs2 with hs2 | hs2 <;> omega
theorem LA_low {P0 r cv n y : Int} (hP : 1 ≤ P0 ∧ P0 ≤ 10000000) (hr : 0 ≤ r ∧ r ≤ 2000) (hc : 0 ≤ cv ∧ cv ≤ 2) (hn : 1 ≤ n ∧ n ≤ 60) (hy : 0 ≤ y) (h : LA P0 r cv n y ≤ y) : P0 ≤ n * y := by
  have hk := cK_rng hc (i := 0) (by omega)
  have hp := prd (P := P0) (r := r) (k := cK cv 0) (by omega) hr hk
  have hs := cn_spec cv (0 + P0 * r * cK cv 0)
  have hb : 0 ≤ cnE cv (0 + P0 * r * cK cv 0) := by
    generalize P0 * r * cK cv 0 = X at hp hs ⊢
    rcases hs with hs | hs <;> omega
  have h1 := prj_low hr hc hn.2 hy n.toNat 0 P0 0 0 (by omega) (by omega) (by omega) (by omega) (by omega) h
  rw [show n - 0 = n by omega] at h1
  omega
/-- a schedule of payments y against one of payments 0, k of them made -/
theorem prj_up {r cv n y : Int} (hr : 0 ≤ r ∧ r ≤ 2000) (hc : 0 ≤ cv ∧ cv ≤ 2) (hn : n ≤ 60) (hy : 0 ≤ y) : ∀ (f : Nat) (i P I U P' I' U' : Int), 0 ≤ i → i < n → f = (n - i).toNat → P' ≤ P → DE cv P' I' U' ≤ DE cv P I U - ceE cv * (i * y) → prj r cv 0 n f i P I U ≤ n * y → prj r cv y n f i P' I' U' ≤ y := by
  intro f
  induction f with
  | zero => intro i P I U P' I' U' h0 h1 h2; omega
  | succ f ih =>
    intro i P I U P' I' U' h0 h1 h2 hP hD h
    have hk := cK_rng hc (i := i) (by omega)
    have hm := mul_mono3 hP hr.1 hk.1
    have hiy := Int.mul_nonneg h0 hy
    have hT : P' + (I' + cnE cv (U' + P' * r * cK cv i)) ≤ P + (I + cnE cv (U + P * r * cK cv i)) - i * y := by
      rw [T_of, T_of]
      have h8 : cnE cv (DE cv P' I' U' + P' * r * cK cv i) ≤ cnE cv (DE cv P I U + P * r * cK cv i - ceE cv * (i * y)) := cn_mono (by omega)
      have h9 : cnE cv (DE cv P I U + P * r * cK cv i - ceE cv * (i * y)) = cnE cv (DE cv P I U + P * r * cK cv i) - i * y := by
        unfold cnE ceE
        split <;> omega
      omega
    rw [h2, prj_step h1] at h ⊢
    by_cases hl' : i = n - 1 ∨ P' + (I' + cnE cv (U' + P' * r * cK cv i)) ≤ y
    · rw [if_pos hl']
      rcases hl' with e | e
      · rw [if_pos (Or.inl e)] at h
        have h7 : n * y = i * y + y := by
          rw [show n = i + 1 by omega, Int.add_mul, Int.one_mul]
        omega
      · exact e
    · rw [if_neg hl']
      by_cases hl : i = n - 1 ∨ P + (I + cnE cv (U + P * r * cK cv i)) ≤ 0
      · omega
      · rw [if_neg hl] at h
        have hf : f = (n - (i + 1)).toNat := by omega
        rw [← hf] at h ⊢
        refine ih (i + 1) _ _ _ _ _ _ (by omega) (by omega) hf ?_ ?_ h
        · omega
        · rw [D_next, D_next]
          have h7 : ceE cv * ((i + 1) * y) = ceE cv * (i * y) + ceE cv * y := by
            rw [Int.add_mul, Int.one_mul, Int.mul_add]
          rw [h7, Int.mul_zero]
          omega
theorem LA_up {P0 r cv n y : Int} (hr : 0 ≤ r ∧ r ≤ 2000) (hc : 0 ≤ cv ∧ cv ≤ 2) (hn : 1 ≤ n ∧ n ≤ 60) (hy : 0 ≤ y) (h : LA P0 r cv n 0 ≤ n * y) : LA P0 r cv n y ≤ y :=
  prj_up hr hc hn.2 hy n.toNat 0 P0 0 0 P0 0 0 (by omega) (by omega) (by omega) (Int.le_refl _) (by rw [Int.zero_mul, Int.mul_zero]; omega) h
/-- what a schedule's last amount can be -/
theorem prj_rng {r cv n y : Int} (hr : 0 ≤ r ∧ r ≤ 2000) (hc : 0 ≤ cv ∧ cv ≤ 2) (hn : n ≤ 60) (hy : 0 ≤ y) : ∀ (f : Nat) (i P I U : Int), 0 ≤ i → i < n → f = (n - i).toNat → Okp cv i P I U → 0 ≤ prj r cv y n f i P I U ∧ prj r cv y n f i P I U ≤ 22200000 := by
  intro f
  induction f with
  | zero => intro i P I U h0 h1 h2; omega
  | succ f ih =>
    intro i P I U h0 h1 h2 h
    have hb := okp_c hr hc ⟨h0, h1, hn⟩ h
    rw [h2, prj_step h1]
    by_cases hl : i = n - 1 ∨ P + (I + cnE cv (U + P * r * cK cv i)) ≤ y
    · rw [if_pos hl]
      obtain ⟨g1, g2, g3, g4, -⟩ := h
      omega
    · rw [if_neg hl]
      have hf : f = (n - (i + 1)).toNat := by omega
      rw [← hf]
      exact ih (i + 1) _ _ _ (by omega) (by omega) hf (okp_next hy hr hc ⟨h0, h1, hn⟩ h rfl hl rfl rfl rfl)
theorem LA_rng {P0 r cv n y : Int} (hP : 1 ≤ P0 ∧ P0 ≤ 10000000) (hr : 0 ≤ r ∧ r ≤ 2000) (hc : 0 ≤ cv ∧ cv ≤ 2) (hn : 1 ≤ n ∧ n ≤ 60) (hy : 0 ≤ y) : 0 ≤ LA P0 r cv n y ∧ LA P0 r cv n y ≤ 22200000 :=
  prj_rng hr hc hn.2 hy n.toNat 0 P0 0 0 (by omega) (by omega) (by omega) (by unfold Okp; omega)

def pw (k : Nat) : Int := 2 ^ k
theorem pw_0 : pw 0 = 1 := rfl
theorem pw_64 : (30000001 : Int) ≤ pw 64 := by unfold pw; decide
theorem pw_half {i : Int} (h : 0 ≤ i ∧ i < 64) : pw (64 - i).toNat = 2 * pw (64 - (i + 1)).toNat := by
  rw [show (64 - i).toNat = (64 - (i + 1)).toNat + 1 by omega]
  unfold pw
  rw [Int.pow_succ, Int.mul_comm]
theorem pw_z {i : Int} (h : 64 ≤ i) : pw (64 - i).toNat = 1 := by
  rw [show (64 - i).toNat = 0 by omega]
  rfl
theorem shr9 {x n : Int} (hx : 0 ≤ x) (hn : 1 ≤ n ∧ n ≤ 60) : 0 ≤ (x + n - 1) / n ∧ (x + n - 1) / n ≤ x + n - 1 ∧ x ≤ n * ((x + n - 1) / n) ∧ n * ((x + n - 1) / n) ≤ x + n - 1 := by
  have h0 : 0 ≤ (x + n - 1) / n := Int.ediv_nonneg (by omega) (by omega)
  have h1 := Int.mul_ediv_add_emod (x + n - 1) n
  have h2 := Int.emod_nonneg (x + n - 1) (show n ≠ 0 by omega)
  have h3 := Int.emod_lt_of_pos (x + n - 1) (show 0 < n by omega)
  have h4 : (x + n - 1) / n ≤ x + n - 1 := Int.ediv_le_self n (by omega)
  exact ⟨h0, h4, by omega, by omega⟩
theorem lst_hi {P0 r cv n H : Int} (hP : 1 ≤ P0 ∧ P0 ≤ 10000000) (hr : 0 ≤ r ∧ r ≤ 2000) (hc : 0 ≤ cv ∧ cv ≤ 2) (hn : 1 ≤ n ∧ n ≤ 60) (hH : 0 ≤ H) (hs : 0 ≤ (LA P0 r cv n 0 + n - 1) / n ∧ (LA P0 r cv n 0 + n - 1) / n ≤ LA P0 r cv n 0 + n - 1 ∧ LA P0 r cv n 0 ≤ n * ((LA P0 r cv n 0 + n - 1) / n) ∧ n * ((LA P0 r cv n 0 + n - 1) / n) ≤ LA P0 r cv n 0 + n - 1) (h : (LA P0 r cv n 0 + n - 1) / n ≤ H) : LA P0 r cv n H ≤ H := by
  refine LA_up hr hc hn hH ?_
  have h1 : n * ((LA P0 r cv n 0 + n - 1) / n) ≤ n * H := Int.mul_le_mul_of_nonneg_left h (by omega)
  omega
theorem lst_low {P0 r cv n B : Int} (hP : 1 ≤ P0 ∧ P0 ≤ 10000000) (hr : 0 ≤ r ∧ r ≤ 2000) (hc : 0 ≤ cv ∧ cv ≤ 2) (hn : 1 ≤ n ∧ n ≤ 60) (hs : 0 ≤ (P0 + n - 1) / n ∧ (P0 + n - 1) / n ≤ P0 + n - 1 ∧ P0 ≤ n * ((P0 + n - 1) / n) ∧ n * ((P0 + n - 1) / n) ≤ P0 + n - 1) (hB : B ≤ max 1 ((P0 + n - 1) / n)) : ∀ y : Int, 1 ≤ y → y < B → ¬ LA P0 r cv n y ≤ y := by
  intro y h1 h2 h3
  have h4 := LA_low hP hr hc hn (by omega) h3
  have h5 : y + 1 ≤ (P0 + n - 1) / n := by omega
  have h6 : n * (y + 1) ≤ n * ((P0 + n - 1) / n) := Int.mul_le_mul_of_nonneg_left h5 (by omega)
  have h7 : n * (y + 1) = n * y + n := by rw [Int.mul_add, Int.mul_one]
  omega
theorem lst_lo {P0 r cv n lo m y : Int} (hr : 0 ≤ r ∧ r ≤ 2000) (hc : 0 ≤ cv ∧ cv ≤ 2) (hn : 1 ≤ n ∧ n ≤ 60) (hb : ∀ y : Int, 1 ≤ y → y < lo → ¬ LA P0 r cv n y ≤ y) (h1 : 1 ≤ y) (h2 : y ≤ m) (h3 : m < LA P0 r cv n m) : ¬ LA P0 r cv n y ≤ y := by
  intro h
  have h4 := LA_mono hr hc hn (y := y) (y' := m) (by omega) h
  omega
