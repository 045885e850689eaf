section
/-! numbers of the machine by their values -/
def iI (z : Int) : Int32 := Int32.ofInt z
def lI (z : Int) : Int64 := Int64.ofInt z
theorem iI_toInt {z : Int} (h : -2147483648 ≤ z ∧ z ≤ 2147483647) : (iI z).toInt = z := by
  unfold iI
  have e : (Int32.size : Int) = 4294967296 := rfl
  rw [Int32.toInt_ofInt, Int.bmod_eq_of_le (by omega) (by omega)]
theorem lI_toInt {z : Int} (h : -9223372036854775808 ≤ z ∧ z ≤ 9223372036854775807) : (lI z).toInt = z := by
  unfold lI
  have e : (Int64.size : Int) = 18446744073709551616 := rfl
  rw [Int64.toInt_ofInt, Int.bmod_eq_of_le (by omega) (by omega)]
theorem iI_of (x : Int32) : x = iI x.toInt := (Int32.ofInt_toInt x).symm
theorem iI_rng (x : Int32) : -2147483648 ≤ x.toInt ∧ x.toInt ≤ 2147483647 := by
  have h1 := Int32.le_toInt x
  have h2 := Int32.toInt_lt x
  omega
theorem iI_add (a b : Int) : iI a + iI b = iI (a + b) := (Int32.ofInt_add a b).symm
theorem iI_sub (a b : Int) : iI a - iI b = iI (a - b) := (Int32.ofInt_sub a b).symm
theorem iI_mul (a b : Int) : iI a * iI b = iI (a * b) := (Int32.ofInt_mul a b).symm
theorem lI_add (a b : Int) : lI a + lI b = lI (a + b) := (Int64.ofInt_add a b).symm
theorem lI_sub (a b : Int) : lI a - lI b = lI (a - b) := (Int64.ofInt_sub a b).symm
theorem lI_mul (a b : Int) : lI a * lI b = lI (a * b) := (Int64.ofInt_mul a b).symm
theorem iI_l {z : Int} (h : -2147483648 ≤ z ∧ z ≤ 2147483647) : (iI z).toInt64 = lI z := by
  rw [← Int64.toInt_inj, Int32.toInt_toInt64, iI_toInt h, lI_toInt ⟨by omega, by omega⟩]
theorem lI_i (z : Int) : (lI z).toInt32 = iI z := by
  rw [← Int32.toInt_inj, Int64.toInt_toInt32]
  unfold lI iI
  rw [Int64.toInt_ofInt, Int32.toInt_ofInt]
  exact Int.bmod_bmod_of_dvd (by decide)
theorem iI_lt {a b : Int} (h : -2147483648 ≤ a ∧ a ≤ 2147483647 ∧ -2147483648 ≤ b ∧ b ≤ 2147483647) : iI a < iI b ↔ a < b := by
  rw [Int32.lt_iff_toInt_lt, iI_toInt ⟨h.1, h.2.1⟩, iI_toInt h.2.2]
theorem iI_le {a b : Int} (h : -2147483648 ≤ a ∧ a ≤ 2147483647 ∧ -2147483648 ≤ b ∧ b ≤ 2147483647) : iI a ≤ iI b ↔ a ≤ b := by
  rw [Int32.le_iff_toInt_le, iI_toInt ⟨h.1, h.2.1⟩, iI_toInt h.2.2]
theorem iI_eq {a b : Int} (h : -2147483648 ≤ a ∧ a ≤ 2147483647 ∧ -2147483648 ≤ b ∧ b ≤ 2147483647) : iI a = iI b ↔ a = b := by
  rw [← Int32.toInt_inj, iI_toInt ⟨h.1, h.2.1⟩, iI_toInt h.2.2]
theorem lI_lt {a b : Int} (h : -9223372036854775808 ≤ a ∧ a ≤ 9223372036854775807 ∧ -9223372036854775808 ≤ b ∧ b ≤ 9223372036854775807) : lI a < lI b ↔ a < b := by
  rw [Int64.lt_iff_toInt_lt, lI_toInt ⟨h.1, h.2.1⟩, lI_toInt h.2.2]
theorem lI_eq {a b : Int} (h : -9223372036854775808 ≤ a ∧ a ≤ 9223372036854775807 ∧ -9223372036854775808 ≤ b ∧ b ≤ 9223372036854775807) : lI a = lI b ↔ a = b := by
  rw [← Int64.toInt_inj, lI_toInt ⟨h.1, h.2.1⟩, lI_toInt h.2.2]
theorem iI_0 : (0 : Int32) = iI 0 := by decide
theorem lI_0 : (0 : Int64) = lI 0 := by decide
theorem iI_cl {z : Int} (h : 0 ≤ z ∧ z ≤ 2147483647) : (iI z).toNatClampNeg = z.toNat := by
  show (iI z).toInt.toNat = _
  rw [iI_toInt ⟨by omega, h.2⟩]
theorem iI_in {z : Int} {n : Nat} (h : 0 ≤ z ∧ z < (n : Int) ∧ (n : Int) ≤ 2147483648) : vp_in (iI z) n := by
  refine vp_in_iff.mpr ?_
  rw [iI_toInt ⟨by omega, by omega⟩]
  omega
theorem iI_div {a b : Int} (h : 0 ≤ a ∧ a ≤ 2147483647 ∧ 0 < b ∧ b ≤ 2147483647) : iI a / iI b = iI (a / b) := by
  have h3 : a / b ≤ a := Int.ediv_le_self b h.1
  have h4 : 0 ≤ a / b := Int.ediv_nonneg h.1 (by omega)
  rw [← Int32.toInt_inj, Int32.toInt_div, iI_toInt ⟨by omega, h.2.1⟩, iI_toInt ⟨by omega, h.2.2.2⟩, iI_toInt ⟨by omega, by omega⟩, Int.tdiv_eq_ediv_of_nonneg h.1, Int.bmod_eq_of_le (by omega) (by omega)]
theorem lI_div {a b : Int} (h : 0 ≤ a ∧ a ≤ 9223372036854775807 ∧ 0 < b ∧ b ≤ 9223372036854775807) : lI a / lI b = lI (a / b) := by
  have h3 : a / b ≤ a := Int.ediv_le_self b h.1
  have h4 : 0 ≤ a / b := Int.ediv_nonneg h.1 (by omega)
  rw [← Int64.toInt_inj, Int64.toInt_div, lI_toInt ⟨by omega, h.2.1⟩, lI_toInt ⟨by omega, h.2.2.2⟩, lI_toInt ⟨by omega, by omega⟩, Int.tdiv_eq_ediv_of_nonneg h.1, Int.bmod_eq_of_le (by omega) (by omega)]
theorem iI_rem {a b : Int} (h : 0 ≤ a ∧ a ≤ 2147483647 ∧ 0 < b ∧ b ≤ 2147483647) : iI a - iI a / iI b * iI b = iI (a % b) := by
  rw [iI_div h, iI_mul, iI_sub, Int.emod_def, Int.mul_comm]
theorem iI_nz {b : Int} (h : b ≠ 0 ∧ -2147483648 ≤ b ∧ b ≤ 2147483647) : ¬ iI b = 0 := by
  rw [iI_0, iI_eq ⟨h.2.1, h.2.2, by omega, by omega⟩]
  exact h.1
theorem lI_nz {b : Int} (h : b ≠ 0 ∧ -9223372036854775808 ≤ b ∧ b ≤ 9223372036854775807) : ¬ lI b = 0 := by
  rw [lI_0, lI_eq ⟨h.2.1, h.2.2, by omega, by omega⟩]
  exact h.1
/-- rows of numbers, by their values -/
def aI (F : Nat → Int) : Nat → Int32 := fun j => iI (F j)
def aL (F : Nat → Int) : Nat → Int64 := fun j => lI (F j)
def upI (F : Nat → Int) (i : Nat) (z : Int) : Nat → Int := fun j => if j = i then z else F j
def aZ : Nat → Int := fun _ => 0
theorem aI_up (F : Nat → Int) (i : Nat) (z : Int) : upd (aI F) i (iI z) = aI (upI F i z) := by
  funext j
  by_cases h : j = i
  · subst h; simp [upd, aI, upI]
  · simp [upd, aI, upI, h]
theorem aL_up (F : Nat → Int) (i : Nat) (z : Int) : vp_updL (aL F) i (lI z) = aL (upI F i z) := by
  funext j
  by_cases h : j = i
  · subst h; simp [vp_updL, aL, upI]
  · simp [vp_updL, aL, upI, h]
theorem aI_z : (fun _ => (0 : Int32) : Nat → Int32) = aI aZ := by funext j; show (0 : Int32) = iI 0; exact iI_0
theorem aL_z : (fun _ => (0 : Int64) : Nat → Int64) = aL aZ := by funext j; show (0 : Int64) = lI 0; exact lI_0
theorem upI_s {F : Nat → Int} {i : Nat} {z : Int} : upI F i z i = z := if_pos rfl
theorem upI_n {F : Nat → Int} {i j : Nat} {z : Int} (h : j ≠ i) : upI F i z j = F j := if_neg h
theorem upI_same {F : Nat → Int} {i : Nat} {z : Int} (h : F i = z) : upI F i z = F := by
  funext j
  by_cases e : j = i
  · subst e; rw [upI_s, h]
  · rw [upI_n e]
end
section
variable {p : Program} {l : Launch} {e : Env} {R : Room} {s : State} {m : MethodId} {args : Array Value} {below : List Frame} {meth : Method} {c : Code} {H : Heap} {locs : List Loc} {cells slots : Nat} {Q : State → Prop} {cc : ByteArray} {pc : Nat} {ls : Array Slot} {rest : List Value}
variable {D : va_G} {cl : List vw_C} {ws : va_W} {tys : List (ClassId × FieldType)} {A : Nat → Prop} {H0 : Heap} {a : Nat}
theorem q_iconst (hx : p.tables.exec = Jvm.exec) (hb : c.code = cc) {n : Int} (hdg : decode cc pc = .ok (.iconst n, 1)) (k : W p l e R s m args below meth c H locs cells slots Q (F0 m (pc + 1) ls (.int (iI n) :: rest))) : W p l e R s m args below meth c H locs cells slots Q (F0 m pc ls (rest)) :=
  lv_iconst hx hb hdg rfl k
theorem q_bipush (hx : p.tables.exec = Jvm.exec) (hb : c.code = cc) {n z : Int} (hdg : decode cc pc = .ok (.bipush n, 2)) (hv : (Int8.ofInt n).toInt32 = iI z) (k : W p l e R s m args below meth c H locs cells slots Q (F0 m (pc + 2) ls (.int (iI z) :: rest))) : W p l e R s m args below meth c H locs cells slots Q (F0 m pc ls (rest)) :=
  lv_bipush hx hb hdg hv k
theorem q_sipush (hx : p.tables.exec = Jvm.exec) (hb : c.code = cc) {n z : Int} (hdg : decode cc pc = .ok (.sipush n, 3)) (hv : (Int16.ofInt n).toInt32 = iI z) (k : W p l e R s m args below meth c H locs cells slots Q (F0 m (pc + 3) ls (.int (iI z) :: rest))) : W p l e R s m args below meth c H locs cells slots Q (F0 m pc ls (rest)) :=
  lv_sipush hx hb hdg hv k
theorem q_lconst (hx : p.tables.exec = Jvm.exec) (hb : c.code = cc) {n : Fin 2} {z : Int} (hdg : decode cc pc = .ok (.lconst n, 1)) (hv : Int64.ofNat (n : Nat) = lI z) (k : W p l e R s m args below meth c H locs cells slots Q (F0 m (pc + 1) ls (.long (lI z) :: rest))) : W p l e R s m args below meth c H locs cells slots Q (F0 m pc ls (rest)) :=
  lv_lconst hx hb hdg hv k
theorem q_ldc (hx : p.tables.exec = Jvm.exec) (hb : c.code = cc) {own : String} {index : Nat} {v : Int32} {z : Int} (hown : s.vm.findClass own = some m.cls) (hconst : (Jvm.Cond.constant own index v).before args s = true) (hdg : decode cc pc = .ok (.ldc index, 2)) (hv : v = iI z) (k : W p l e R s m args below meth c H locs cells slots Q (F0 m (pc + 2) ls (.int (iI z) :: rest))) : W p l e R s m args below meth c H locs cells slots Q (F0 m pc ls (rest)) :=
  lv_ldc hx hb hown hconst hdg (hv ▸ k)
theorem q_ldcw (hx : p.tables.exec = Jvm.exec) (hb : c.code = cc) {own : String} {index : Nat} {v : Int32} {z : Int} (hown : s.vm.findClass own = some m.cls) (hconst : (Jvm.Cond.constant own index v).before args s = true) (hdg : decode cc pc = .ok (.ldc_w index, 3)) (hv : v = iI z) (k : W p l e R s m args below meth c H locs cells slots Q (F0 m (pc + 3) ls (.int (iI z) :: rest))) : W p l e R s m args below meth c H locs cells slots Q (F0 m pc ls (rest)) :=
  lv_ldcw hx hb hown hconst hdg (hv ▸ k)
theorem q_ldc2 (hx : p.tables.exec = Jvm.exec) (hb : c.code = cc) {own : String} {index : Nat} {v : Int64} {z : Int} (hown : s.vm.findClass own = some m.cls) (hconst : (Jvm.Cond.constantLong own index v).before args s = true) (hdg : decode cc pc = .ok (.ldc2_w index, 3)) (hv : v = lI z) (k : W p l e R s m args below meth c H locs cells slots Q (F0 m (pc + 3) ls (.long (lI z) :: rest))) : W p l e R s m args below meth c H locs cells slots Q (F0 m pc ls (rest)) :=
  lv_ldc2 hx hb hown hconst hdg (hv ▸ k)
theorem q_iadd (hx : p.tables.exec = Jvm.exec) (hb : c.code = cc) {a b z : Int} (hdg : decode cc pc = .ok (.iadd, 1)) (hz : a + b = z) (k : W p l e R s m args below meth c H locs cells slots Q (F0 m (pc + 1) ls (.int (iI z) :: rest))) : W p l e R s m args below meth c H locs cells slots Q (F0 m pc ls (.int (iI b) :: .int (iI a) :: rest)) :=
  lv_iadd hx hb hdg (by rw [iI_add, hz]; exact k)
theorem q_isub (hx : p.tables.exec = Jvm.exec) (hb : c.code = cc) {a b z : Int} (hdg : decode cc pc = .ok (.isub, 1)) (hz : a - b = z) (k : W p l e R s m args below meth c H locs cells slots Q (F0 m (pc + 1) ls (.int (iI z) :: rest))) : W p l e R s m args below meth c H locs cells slots Q (F0 m pc ls (.int (iI b) :: .int (iI a) :: rest)) :=
  lv_isub hx hb hdg (by rw [iI_sub, hz]; exact k)
theorem q_imul (hx : p.tables.exec = Jvm.exec) (hb : c.code = cc) {a b z : Int} (hdg : decode cc pc = .ok (.imul, 1)) (hz : a * b = z) (k : W p l e R s m args below meth c H locs cells slots Q (F0 m (pc + 1) ls (.int (iI z) :: rest))) : W p l e R s m args below meth c H locs cells slots Q (F0 m pc ls (.int (iI b) :: .int (iI a) :: rest)) :=
  lv_imul hx hb hdg (by rw [iI_mul, hz]; exact k)
theorem q_ladd (hx : p.tables.exec = Jvm.exec) (hb : c.code = cc) {a b z : Int} (hdg : decode cc pc = .ok (.ladd, 1)) (hz : a + b = z) (k : W p l e R s m args below meth c H locs cells slots Q (F0 m (pc + 1) ls (.long (lI z) :: rest))) : W p l e R s m args below meth c H locs cells slots Q (F0 m pc ls (.long (lI b) :: .long (lI a) :: rest)) :=
  lv_ladd hx hb hdg (by rw [lI_add, hz]; exact k)
theorem q_lsub (hx : p.tables.exec = Jvm.exec) (hb : c.code = cc) {a b z : Int} (hdg : decode cc pc = .ok (.lsub, 1)) (hz : a - b = z) (k : W p l e R s m args below meth c H locs cells slots Q (F0 m (pc + 1) ls (.long (lI z) :: rest))) : W p l e R s m args below meth c H locs cells slots Q (F0 m pc ls (.long (lI b) :: .long (lI a) :: rest)) :=
  lv_lsub hx hb hdg (by rw [lI_sub, hz]; exact k)
theorem q_lmul (hx : p.tables.exec = Jvm.exec) (hb : c.code = cc) {a b z : Int} (hdg : decode cc pc = .ok (.lmul, 1)) (hz : a * b = z) (k : W p l e R s m args below meth c H locs cells slots Q (F0 m (pc + 1) ls (.long (lI z) :: rest))) : W p l e R s m args below meth c H locs cells slots Q (F0 m pc ls (.long (lI b) :: .long (lI a) :: rest)) :=
  lv_lmul hx hb hdg (by rw [lI_mul, hz]; exact k)
theorem q_idiv (hx : p.tables.exec = Jvm.exec) (hb : c.code = cc) {a b z : Int} (hdg : decode cc pc = .ok (.idiv, 1)) (h : 0 ≤ a ∧ a ≤ 2147483647 ∧ 0 < b ∧ b ≤ 2147483647) (hz : a / b = z) (k : W p l e R s m args below meth c H locs cells slots Q (F0 m (pc + 1) ls (.int (iI z) :: rest))) : W p l e R s m args below meth c H locs cells slots Q (F0 m pc ls (.int (iI b) :: .int (iI a) :: rest)) :=
  lv_idiv hx hb hdg (iI_nz ⟨by omega, by omega, by omega⟩) (by rw [iI_div h, hz]; exact k)
theorem q_irem (hx : p.tables.exec = Jvm.exec) (hb : c.code = cc) {a b z : Int} (hdg : decode cc pc = .ok (.irem, 1)) (h : 0 ≤ a ∧ a ≤ 2147483647 ∧ 0 < b ∧ b ≤ 2147483647) (hz : a % b = z) (k : W p l e R s m args below meth c H locs cells slots Q (F0 m (pc + 1) ls (.int (iI z) :: rest))) : W p l e R s m args below meth c H locs cells slots Q (F0 m pc ls (.int (iI b) :: .int (iI a) :: rest)) :=
  lv_irem hx hb hdg (iI_nz ⟨by omega, by omega, by omega⟩) (by rw [iI_rem h, hz]; exact k)
theorem q_ldiv (hx : p.tables.exec = Jvm.exec) (hb : c.code = cc) {a b z : Int} (hdg : decode cc pc = .ok (.ldiv, 1)) (h : 0 ≤ a ∧ a ≤ 9223372036854775807 ∧ 0 < b ∧ b ≤ 9223372036854775807) (hz : a / b = z) (k : W p l e R s m args below meth c H locs cells slots Q (F0 m (pc + 1) ls (.long (lI z) :: rest))) : W p l e R s m args below meth c H locs cells slots Q (F0 m pc ls (.long (lI b) :: .long (lI a) :: rest)) :=
  lv_ldiv hx hb hdg (lI_nz ⟨by omega, by omega, by omega⟩) (by rw [lI_div h, hz]; exact k)
theorem q_i2l (hx : p.tables.exec = Jvm.exec) (hb : c.code = cc) {z : Int} (hdg : decode cc pc = .ok (.i2l, 1)) (h : -2147483648 ≤ z ∧ z ≤ 2147483647) (k : W p l e R s m args below meth c H locs cells slots Q (F0 m (pc + 1) ls (.long (lI z) :: rest))) : W p l e R s m args below meth c H locs cells slots Q (F0 m pc ls (.int (iI z) :: rest)) :=
  lv_i2l hx hb hdg (iI_l h) k
theorem q_l2i (hx : p.tables.exec = Jvm.exec) (hb : c.code = cc) {z : Int} (hdg : decode cc pc = .ok (.l2i, 1)) (k : W p l e R s m args below meth c H locs cells slots Q (F0 m (pc + 1) ls (.int (iI z) :: rest))) : W p l e R s m args below meth c H locs cells slots Q (F0 m pc ls (.long (lI z) :: rest)) :=
  lv_l2i hx hb hdg (lI_i z) k
theorem q_ishr0 (hx : p.tables.exec = Jvm.exec) (hb : c.code = cc) {y : Int32} (hdg : decode cc pc = .ok (.ishr, 1)) (k : W p l e R s m args below meth c H locs cells slots Q (F0 m (pc + 1) ls (.int (iI 0) :: rest))) : W p l e R s m args below meth c H locs cells slots Q (F0 m pc ls (.int y :: .int (iI 0) :: rest)) :=
  lv_ishr hx hb hdg (by rw [show iI 0 >>> (y &&& 31) = iI 0 from by rw [← iI_0]; exact Int32.zero_shiftRight]; exact k)
theorem q_iand (hx : p.tables.exec = Jvm.exec) (hb : c.code = cc) {x y z : Int} (hdg : decode cc pc = .ok (.iand, 1)) (hz : iI x &&& iI y = iI z) (k : W p l e R s m args below meth c H locs cells slots Q (F0 m (pc + 1) ls (.int (iI z) :: rest))) : W p l e R s m args below meth c H locs cells slots Q (F0 m pc ls (.int (iI y) :: .int (iI x) :: rest)) :=
  lv_iand hx hb hdg (by rw [hz]; exact k)
theorem q_lcmp (hx : p.tables.exec = Jvm.exec) (hb : c.code = cc) {a b : Int} (hdg : decode cc pc = .ok (.lcmp, 1)) (k : W p l e R s m args below meth c H locs cells slots Q (F0 m (pc + 1) ls (.int (lg_cmp (lI a) (lI b)) :: rest))) : W p l e R s m args below meth c H locs cells slots Q (F0 m pc ls (.long (lI b) :: .long (lI a) :: rest)) :=
  W.lcmp hx hb hdg k
theorem cmp_v {a b : Int} (h : -9223372036854775808 ≤ a ∧ a ≤ 9223372036854775807 ∧ -9223372036854775808 ≤ b ∧ b ≤ 9223372036854775807) : lg_cmp (lI a) (lI b) = if b < a then iI 1 else if a = b then iI 0 else iI (-1) := by
  unfold lg_cmp
  simp only [gt_iff_lt, lI_lt (a := b) (b := a) ⟨h.2.2.1, h.2.2.2, h.1, h.2.1⟩, lI_eq h]
  rfl
theorem iff_icmplt {a b : Int} (h : -2147483648 ≤ a ∧ a ≤ 2147483647 ∧ -2147483648 ≤ b ∧ b ≤ 2147483647) : (iI a < iI b) ↔ (a < b) := iI_lt h
theorem q_icmp_lt (hx : p.tables.exec = Jvm.exec) (hb : c.code = cc) {a b : Int} {off : Int} {tgt : Nat} (hdg : decode cc pc = .ok (.if_icmp .lt off, 3)) (ht : (pc : Int) + off = (tgt : Int)) (h : -2147483648 ≤ a ∧ a ≤ 2147483647 ∧ -2147483648 ≤ b ∧ b ≤ 2147483647) (kt : a < b → W p l e R s m args below meth c H locs cells slots Q (F0 m tgt ls rest)) (kf : b ≤ a → W p l e R s m args below meth c H locs cells slots Q (F0 m (pc + 3) ls rest)) : W p l e R s m args below meth c H locs cells slots Q (F0 m pc ls (.int (iI b) :: .int (iI a) :: rest)) :=
  lv_icmp_lt hx hb hdg ht (fun q => kt ((iff_icmplt h).mp q)) (fun q => kf (by have z := mt (iff_icmplt h).mpr q; omega))
theorem iff_iflt {a : Int} (h : -2147483648 ≤ a ∧ a ≤ 2147483647) : (iI a < 0) ↔ (a < 0) := iI_lt (b := 0) ⟨h.1, h.2, by omega, by omega⟩
theorem q_if_lt (hx : p.tables.exec = Jvm.exec) (hb : c.code = cc) {a : Int} {off : Int} {tgt : Nat} (hdg : decode cc pc = .ok (.ifCond .lt off, 3)) (ht : (pc : Int) + off = (tgt : Int)) (h : -2147483648 ≤ a ∧ a ≤ 2147483647) (kt : a < 0 → W p l e R s m args below meth c H locs cells slots Q (F0 m tgt ls rest)) (kf : 0 ≤ a → W p l e R s m args below meth c H locs cells slots Q (F0 m (pc + 3) ls rest)) : W p l e R s m args below meth c H locs cells slots Q (F0 m pc ls (.int (iI a) :: rest)) :=
  lv_if_lt hx hb hdg ht (fun q => kt ((iff_iflt h).mp q)) (fun q => kf (by have z := mt (iff_iflt h).mpr q; omega))
theorem iff_llt {a b : Int} (h : -9223372036854775808 ≤ a ∧ a ≤ 9223372036854775807 ∧ -9223372036854775808 ≤ b ∧ b ≤ 9223372036854775807) : (lg_cmp (lI a) (lI b) < 0) ↔ (a < b) := by
  rw [cmp_v h]
  by_cases h1 : b < a
  · rw [if_pos h1]
    exact ⟨fun q => by first | omega | exact absurd q (by decide), fun q => by first | decide | omega⟩
  · rw [if_neg h1]
    by_cases h2 : a = b
    · rw [if_pos h2]
      exact ⟨fun q => by first | omega | exact absurd q (by decide), fun q => by first | decide | omega⟩
    · rw [if_neg h2]
      exact ⟨fun q => by first | omega | exact absurd q (by decide), fun q => by first | decide | omega⟩
theorem q_lif_lt (hx : p.tables.exec = Jvm.exec) (hb : c.code = cc) {a b : Int} {off : Int} {tgt : Nat} (hdg : decode cc pc = .ok (.ifCond .lt off, 3)) (ht : (pc : Int) + off = (tgt : Int)) (h : -9223372036854775808 ≤ a ∧ a ≤ 9223372036854775807 ∧ -9223372036854775808 ≤ b ∧ b ≤ 9223372036854775807) (kt : a < b → W p l e R s m args below meth c H locs cells slots Q (F0 m tgt ls rest)) (kf : b ≤ a → W p l e R s m args below meth c H locs cells slots Q (F0 m (pc + 3) ls rest)) : W p l e R s m args below meth c H locs cells slots Q (F0 m pc ls (.int (lg_cmp (lI a) (lI b)) :: rest)) :=
  lv_if_lt hx hb hdg ht (fun q => kt ((iff_llt h).mp q)) (fun q => kf (by have z := mt (iff_llt h).mpr q; omega))
theorem iff_icmpge {a b : Int} (h : -2147483648 ≤ a ∧ a ≤ 2147483647 ∧ -2147483648 ≤ b ∧ b ≤ 2147483647) : (iI b ≤ iI a) ↔ (b ≤ a) := iI_le ⟨h.2.2.1, h.2.2.2, h.1, h.2.1⟩
theorem q_icmp_ge (hx : p.tables.exec = Jvm.exec) (hb : c.code = cc) {a b : Int} {off : Int} {tgt : Nat} (hdg : decode cc pc = .ok (.if_icmp .ge off, 3)) (ht : (pc : Int) + off = (tgt : Int)) (h : -2147483648 ≤ a ∧ a ≤ 2147483647 ∧ -2147483648 ≤ b ∧ b ≤ 2147483647) (kt : b ≤ a → W p l e R s m args below meth c H locs cells slots Q (F0 m tgt ls rest)) (kf : a < b → W p l e R s m args below meth c H locs cells slots Q (F0 m (pc + 3) ls rest)) : W p l e R s m args below meth c H locs cells slots Q (F0 m pc ls (.int (iI b) :: .int (iI a) :: rest)) :=
  lv_icmp_ge hx hb hdg ht (fun q => kt ((iff_icmpge h).mp q)) (fun q => kf (by have z := mt (iff_icmpge h).mpr q; omega))
theorem iff_ifge {a : Int} (h : -2147483648 ≤ a ∧ a ≤ 2147483647) : (0 ≤ iI a) ↔ (0 ≤ a) := iI_le (a := 0) ⟨by omega, by omega, h.1, h.2⟩
theorem q_if_ge (hx : p.tables.exec = Jvm.exec) (hb : c.code = cc) {a : Int} {off : Int} {tgt : Nat} (hdg : decode cc pc = .ok (.ifCond .ge off, 3)) (ht : (pc : Int) + off = (tgt : Int)) (h : -2147483648 ≤ a ∧ a ≤ 2147483647) (kt : 0 ≤ a → W p l e R s m args below meth c H locs cells slots Q (F0 m tgt ls rest)) (kf : a < 0 → W p l e R s m args below meth c H locs cells slots Q (F0 m (pc + 3) ls rest)) : W p l e R s m args below meth c H locs cells slots Q (F0 m pc ls (.int (iI a) :: rest)) :=
  lv_if_ge hx hb hdg ht (fun q => kt ((iff_ifge h).mp q)) (fun q => kf (by have z := mt (iff_ifge h).mpr q; omega))
theorem iff_lge {a b : Int} (h : -9223372036854775808 ≤ a ∧ a ≤ 9223372036854775807 ∧ -9223372036854775808 ≤ b ∧ b ≤ 9223372036854775807) : (0 ≤ lg_cmp (lI a) (lI b)) ↔ (b ≤ a) := by
  rw [cmp_v h]
  by_cases h1 : b < a
  · rw [if_pos h1]
    exact ⟨fun q => by first | omega | exact absurd q (by decide), fun q => by first | decide | omega⟩
  · rw [if_neg h1]
    by_cases h2 : a = b
    · rw [if_pos h2]
      exact ⟨fun q => by first | omega | exact absurd q (by decide), fun q => by first | decide | omega⟩
    · rw [if_neg h2]
      exact ⟨fun q => by first | omega | exact absurd q (by decide), fun q => by first | decide | omega⟩
theorem q_lif_ge (hx : p.tables.exec = Jvm.exec) (hb : c.code = cc) {a b : Int} {off : Int} {tgt : Nat} (hdg : decode cc pc = .ok (.ifCond .ge off, 3)) (ht : (pc : Int) + off = (tgt : Int)) (h : -9223372036854775808 ≤ a ∧ a ≤ 9223372036854775807 ∧ -9223372036854775808 ≤ b ∧ b ≤ 9223372036854775807) (kt : b ≤ a → W p l e R s m args below meth c H locs cells slots Q (F0 m tgt ls rest)) (kf : a < b → W p l e R s m args below meth c H locs cells slots Q (F0 m (pc + 3) ls rest)) : W p l e R s m args below meth c H locs cells slots Q (F0 m pc ls (.int (lg_cmp (lI a) (lI b)) :: rest)) :=
  lv_if_ge hx hb hdg ht (fun q => kt ((iff_lge h).mp q)) (fun q => kf (by have z := mt (iff_lge h).mpr q; omega))
theorem iff_icmpgt {a b : Int} (h : -2147483648 ≤ a ∧ a ≤ 2147483647 ∧ -2147483648 ≤ b ∧ b ≤ 2147483647) : (iI b < iI a) ↔ (b < a) := iI_lt ⟨h.2.2.1, h.2.2.2, h.1, h.2.1⟩
theorem q_icmp_gt (hx : p.tables.exec = Jvm.exec) (hb : c.code = cc) {a b : Int} {off : Int} {tgt : Nat} (hdg : decode cc pc = .ok (.if_icmp .gt off, 3)) (ht : (pc : Int) + off = (tgt : Int)) (h : -2147483648 ≤ a ∧ a ≤ 2147483647 ∧ -2147483648 ≤ b ∧ b ≤ 2147483647) (kt : b < a → W p l e R s m args below meth c H locs cells slots Q (F0 m tgt ls rest)) (kf : a ≤ b → W p l e R s m args below meth c H locs cells slots Q (F0 m (pc + 3) ls rest)) : W p l e R s m args below meth c H locs cells slots Q (F0 m pc ls (.int (iI b) :: .int (iI a) :: rest)) :=
  lv_icmp_gt hx hb hdg ht (fun q => kt ((iff_icmpgt h).mp q)) (fun q => kf (by have z := mt (iff_icmpgt h).mpr q; omega))
theorem iff_ifgt {a : Int} (h : -2147483648 ≤ a ∧ a ≤ 2147483647) : (0 < iI a) ↔ (0 < a) := iI_lt (a := 0) ⟨by omega, by omega, h.1, h.2⟩
theorem q_if_gt (hx : p.tables.exec = Jvm.exec) (hb : c.code = cc) {a : Int} {off : Int} {tgt : Nat} (hdg : decode cc pc = .ok (.ifCond .gt off, 3)) (ht : (pc : Int) + off = (tgt : Int)) (h : -2147483648 ≤ a ∧ a ≤ 2147483647) (kt : 0 < a → W p l e R s m args below meth c H locs cells slots Q (F0 m tgt ls rest)) (kf : a ≤ 0 → W p l e R s m args below meth c H locs cells slots Q (F0 m (pc + 3) ls rest)) : W p l e R s m args below meth c H locs cells slots Q (F0 m pc ls (.int (iI a) :: rest)) :=
  lv_if_gt hx hb hdg ht (fun q => kt ((iff_ifgt h).mp q)) (fun q => kf (by have z := mt (iff_ifgt h).mpr q; omega))
theorem iff_lgt {a b : Int} (h : -9223372036854775808 ≤ a ∧ a ≤ 9223372036854775807 ∧ -9223372036854775808 ≤ b ∧ b ≤ 9223372036854775807) : (0 < lg_cmp (lI a) (lI b)) ↔ (b < a) := by
  rw [cmp_v h]
  by_cases h1 : b < a
  · rw [if_pos h1]
    exact ⟨fun q => by first | omega | exact absurd q (by decide), fun q => by first | decide | omega⟩
  · rw [if_neg h1]
    by_cases h2 : a = b
    · rw [if_pos h2]
      exact ⟨fun q => by first | omega | exact absurd q (by decide), fun q => by first | decide | omega⟩
    · rw [if_neg h2]
      exact ⟨fun q => by first | omega | exact absurd q (by decide), fun q => by first | decide | omega⟩
theorem q_lif_gt (hx : p.tables.exec = Jvm.exec) (hb : c.code = cc) {a b : Int} {off : Int} {tgt : Nat} (hdg : decode cc pc = .ok (.ifCond .gt off, 3)) (ht : (pc : Int) + off = (tgt : Int)) (h : -9223372036854775808 ≤ a ∧ a ≤ 9223372036854775807 ∧ -9223372036854775808 ≤ b ∧ b ≤ 9223372036854775807) (kt : b < a → W p l e R s m args below meth c H locs cells slots Q (F0 m tgt ls rest)) (kf : a ≤ b → W p l e R s m args below meth c H locs cells slots Q (F0 m (pc + 3) ls rest)) : W p l e R s m args below meth c H locs cells slots Q (F0 m pc ls (.int (lg_cmp (lI a) (lI b)) :: rest)) :=
  lv_if_gt hx hb hdg ht (fun q => kt ((iff_lgt h).mp q)) (fun q => kf (by have z := mt (iff_lgt h).mpr q; omega))
theorem iff_icmple {a b : Int} (h : -2147483648 ≤ a ∧ a ≤ 2147483647 ∧ -2147483648 ≤ b ∧ b ≤ 2147483647) : (iI a ≤ iI b) ↔ (a ≤ b) := iI_le h
theorem q_icmp_le (hx : p.tables.exec = Jvm.exec) (hb : c.code = cc) {a b : Int} {off : Int} {tgt : Nat} (hdg : decode cc pc = .ok (.if_icmp .le off, 3)) (ht : (pc : Int) + off = (tgt : Int)) (h : -2147483648 ≤ a ∧ a ≤ 2147483647 ∧ -2147483648 ≤ b ∧ b ≤ 2147483647) (kt : a ≤ b → W p l e R s m args below meth c H locs cells slots Q (F0 m tgt ls rest)) (kf : b < a → W p l e R s m args below meth c H locs cells slots Q (F0 m (pc + 3) ls rest)) : W p l e R s m args below meth c H locs cells slots Q (F0 m pc ls (.int (iI b) :: .int (iI a) :: rest)) :=
  lv_icmp_le hx hb hdg ht (fun q => kt ((iff_icmple h).mp q)) (fun q => kf (by have z := mt (iff_icmple h).mpr q; omega))
theorem iff_ifle {a : Int} (h : -2147483648 ≤ a ∧ a ≤ 2147483647) : (iI a ≤ 0) ↔ (a ≤ 0) := iI_le (b := 0) ⟨h.1, h.2, by omega, by omega⟩
theorem q_if_le (hx : p.tables.exec = Jvm.exec) (hb : c.code = cc) {a : Int} {off : Int} {tgt : Nat} (hdg : decode cc pc = .ok (.ifCond .le off, 3)) (ht : (pc : Int) + off = (tgt : Int)) (h : -2147483648 ≤ a ∧ a ≤ 2147483647) (kt : a ≤ 0 → W p l e R s m args below meth c H locs cells slots Q (F0 m tgt ls rest)) (kf : 0 < a → W p l e R s m args below meth c H locs cells slots Q (F0 m (pc + 3) ls rest)) : W p l e R s m args below meth c H locs cells slots Q (F0 m pc ls (.int (iI a) :: rest)) :=
  lv_if_le hx hb hdg ht (fun q => kt ((iff_ifle h).mp q)) (fun q => kf (by have z := mt (iff_ifle h).mpr q; omega))
theorem iff_lle {a b : Int} (h : -9223372036854775808 ≤ a ∧ a ≤ 9223372036854775807 ∧ -9223372036854775808 ≤ b ∧ b ≤ 9223372036854775807) : (lg_cmp (lI a) (lI b) ≤ 0) ↔ (a ≤ b) := by
  rw [cmp_v h]
  by_cases h1 : b < a
  · rw [if_pos h1]
    exact ⟨fun q => by first | omega | exact absurd q (by decide), fun q => by first | decide | omega⟩
  · rw [if_neg h1]
    by_cases h2 : a = b
    · rw [if_pos h2]
      exact ⟨fun q => by first | omega | exact absurd q (by decide), fun q => by first | decide | omega⟩
    · rw [if_neg h2]
      exact ⟨fun q => by first | omega | exact absurd q (by decide), fun q => by first | decide | omega⟩
theorem q_lif_le (hx : p.tables.exec = Jvm.exec) (hb : c.code = cc) {a b : Int} {off : Int} {tgt : Nat} (hdg : decode cc pc = .ok (.ifCond .le off, 3)) (ht : (pc : Int) + off = (tgt : Int)) (h : -9223372036854775808 ≤ a ∧ a ≤ 9223372036854775807 ∧ -9223372036854775808 ≤ b ∧ b ≤ 9223372036854775807) (kt : a ≤ b → W p l e R s m args below meth c H locs cells slots Q (F0 m tgt ls rest)) (kf : b < a → W p l e R s m args below meth c H locs cells slots Q (F0 m (pc + 3) ls rest)) : W p l e R s m args below meth c H locs cells slots Q (F0 m pc ls (.int (lg_cmp (lI a) (lI b)) :: rest)) :=
  lv_if_le hx hb hdg ht (fun q => kt ((iff_lle h).mp q)) (fun q => kf (by have z := mt (iff_lle h).mpr q; omega))
theorem iff_icmpeq {a b : Int} (h : -2147483648 ≤ a ∧ a ≤ 2147483647 ∧ -2147483648 ≤ b ∧ b ≤ 2147483647) : (iI a = iI b) ↔ (a = b) := iI_eq h
theorem q_icmp_eq (hx : p.tables.exec = Jvm.exec) (hb : c.code = cc) {a b : Int} {off : Int} {tgt : Nat} (hdg : decode cc pc = .ok (.if_icmp .eq off, 3)) (ht : (pc : Int) + off = (tgt : Int)) (h : -2147483648 ≤ a ∧ a ≤ 2147483647 ∧ -2147483648 ≤ b ∧ b ≤ 2147483647) (kt : a = b → W p l e R s m args below meth c H locs cells slots Q (F0 m tgt ls rest)) (kf : a ≠ b → W p l e R s m args below meth c H locs cells slots Q (F0 m (pc + 3) ls rest)) : W p l e R s m args below meth c H locs cells slots Q (F0 m pc ls (.int (iI b) :: .int (iI a) :: rest)) :=
  lv_icmp_eq hx hb hdg ht (fun q => kt ((iff_icmpeq h).mp q)) (fun q => kf (by have z := mt (iff_icmpeq h).mpr q; omega))
theorem iff_ifeq {a : Int} (h : -2147483648 ≤ a ∧ a ≤ 2147483647) : (iI a = 0) ↔ (a = 0) := iI_eq (b := 0) ⟨h.1, h.2, by omega, by omega⟩
theorem q_if_eq (hx : p.tables.exec = Jvm.exec) (hb : c.code = cc) {a : Int} {off : Int} {tgt : Nat} (hdg : decode cc pc = .ok (.ifCond .eq off, 3)) (ht : (pc : Int) + off = (tgt : Int)) (h : -2147483648 ≤ a ∧ a ≤ 2147483647) (kt : a = 0 → W p l e R s m args below meth c H locs cells slots Q (F0 m tgt ls rest)) (kf : a ≠ 0 → W p l e R s m args below meth c H locs cells slots Q (F0 m (pc + 3) ls rest)) : W p l e R s m args below meth c H locs cells slots Q (F0 m pc ls (.int (iI a) :: rest)) :=
  lv_if_eq hx hb hdg ht (fun q => kt ((iff_ifeq h).mp q)) (fun q => kf (by have z := mt (iff_ifeq h).mpr q; omega))
theorem iff_leq {a b : Int} (h : -9223372036854775808 ≤ a ∧ a ≤ 9223372036854775807 ∧ -9223372036854775808 ≤ b ∧ b ≤ 9223372036854775807) : (lg_cmp (lI a) (lI b) = 0) ↔ (a = b) := by
  rw [cmp_v h]
  by_cases h1 : b < a
  · rw [if_pos h1]
    exact ⟨fun q => by first | omega | exact absurd q (by decide), fun q => by first | decide | omega⟩
  · rw [if_neg h1]
    by_cases h2 : a = b
    · rw [if_pos h2]
      exact ⟨fun q => by first | omega | exact absurd q (by decide), fun q => by first | decide | omega⟩
    · rw [if_neg h2]
      exact ⟨fun q => by first | omega | exact absurd q (by decide), fun q => by first | decide | omega⟩
theorem q_lif_eq (hx : p.tables.exec = Jvm.exec) (hb : c.code = cc) {a b : Int} {off : Int} {tgt : Nat} (hdg : decode cc pc = .ok (.ifCond .eq off, 3)) (ht : (pc : Int) + off = (tgt : Int)) (h : -9223372036854775808 ≤ a ∧ a ≤ 9223372036854775807 ∧ -9223372036854775808 ≤ b ∧ b ≤ 9223372036854775807) (kt : a = b → W p l e R s m args below meth c H locs cells slots Q (F0 m tgt ls rest)) (kf : a ≠ b → W p l e R s m args below meth c H locs cells slots Q (F0 m (pc + 3) ls rest)) : W p l e R s m args below meth c H locs cells slots Q (F0 m pc ls (.int (lg_cmp (lI a) (lI b)) :: rest)) :=
  lv_if_eq hx hb hdg ht (fun q => kt ((iff_leq h).mp q)) (fun q => kf (by have z := mt (iff_leq h).mpr q; omega))
theorem iff_icmpne {a b : Int} (h : -2147483648 ≤ a ∧ a ≤ 2147483647 ∧ -2147483648 ≤ b ∧ b ≤ 2147483647) : (iI a ≠ iI b) ↔ (a ≠ b) := not_congr (iI_eq h)
theorem q_icmp_ne (hx : p.tables.exec = Jvm.exec) (hb : c.code = cc) {a b : Int} {off : Int} {tgt : Nat} (hdg : decode cc pc = .ok (.if_icmp .ne off, 3)) (ht : (pc : Int) + off = (tgt : Int)) (h : -2147483648 ≤ a ∧ a ≤ 2147483647 ∧ -2147483648 ≤ b ∧ b ≤ 2147483647) (kt : a ≠ b → W p l e R s m args below meth c H locs cells slots Q (F0 m tgt ls rest)) (kf : a = b → W p l e R s m args below meth c H locs cells slots Q (F0 m (pc + 3) ls rest)) : W p l e R s m args below meth c H locs cells slots Q (F0 m pc ls (.int (iI b) :: .int (iI a) :: rest)) :=
  lv_icmp_ne hx hb hdg ht (fun q => kt ((iff_icmpne h).mp q)) (fun q => kf (by have z : ¬ (a ≠ b) := fun h9 => ((iff_icmpne h).mpr h9) q; omega))
theorem iff_ifne {a : Int} (h : -2147483648 ≤ a ∧ a ≤ 2147483647) : (iI a ≠ 0) ↔ (a ≠ 0) := not_congr (iI_eq (b := 0) ⟨h.1, h.2, by omega, by omega⟩)
theorem q_if_ne (hx : p.tables.exec = Jvm.exec) (hb : c.code = cc) {a : Int} {off : Int} {tgt : Nat} (hdg : decode cc pc = .ok (.ifCond .ne off, 3)) (ht : (pc : Int) + off = (tgt : Int)) (h : -2147483648 ≤ a ∧ a ≤ 2147483647) (kt : a ≠ 0 → W p l e R s m args below meth c H locs cells slots Q (F0 m tgt ls rest)) (kf : a = 0 → W p l e R s m args below meth c H locs cells slots Q (F0 m (pc + 3) ls rest)) : W p l e R s m args below meth c H locs cells slots Q (F0 m pc ls (.int (iI a) :: rest)) :=
  lv_if_ne hx hb hdg ht (fun q => kt ((iff_ifne h).mp q)) (fun q => kf (by have z : ¬ (a ≠ 0) := fun h9 => ((iff_ifne h).mpr h9) q; omega))
theorem iff_lne {a b : Int} (h : -9223372036854775808 ≤ a ∧ a ≤ 9223372036854775807 ∧ -9223372036854775808 ≤ b ∧ b ≤ 9223372036854775807) : (lg_cmp (lI a) (lI b) ≠ 0) ↔ (a ≠ b) := by
  rw [cmp_v h]
  by_cases h1 : b < a
  · rw [if_pos h1]
    exact ⟨fun q => by first | omega | exact absurd q (by decide), fun q => by first | decide | omega⟩
  · rw [if_neg h1]
    by_cases h2 : a = b
    · rw [if_pos h2]
      exact ⟨fun q => by first | omega | exact absurd q (by decide), fun q => by first | decide | omega⟩
    · rw [if_neg h2]
      exact ⟨fun q => by first | omega | exact absurd q (by decide), fun q => by first | decide | omega⟩
theorem q_lif_ne (hx : p.tables.exec = Jvm.exec) (hb : c.code = cc) {a b : Int} {off : Int} {tgt : Nat} (hdg : decode cc pc = .ok (.ifCond .ne off, 3)) (ht : (pc : Int) + off = (tgt : Int)) (h : -9223372036854775808 ≤ a ∧ a ≤ 9223372036854775807 ∧ -9223372036854775808 ≤ b ∧ b ≤ 9223372036854775807) (kt : a ≠ b → W p l e R s m args below meth c H locs cells slots Q (F0 m tgt ls rest)) (kf : a = b → W p l e R s m args below meth c H locs cells slots Q (F0 m (pc + 3) ls rest)) : W p l e R s m args below meth c H locs cells slots Q (F0 m pc ls (.int (lg_cmp (lI a) (lI b)) :: rest)) :=
  lv_if_ne hx hb hdg ht (fun q => kt ((iff_lne h).mp q)) (fun q => kf (by have z : ¬ (a ≠ b) := fun h9 => ((iff_lne h).mpr h9) q; omega))
theorem q_iald (hx : p.tables.exec = Jvm.exec) (hb : c.code = cc) (hK : va_K D cl tys s) (hP : va_P D cl ws H) (q0 t0 : Nat) {cA : ClassId} {n : Nat} {F : Nat → Int} (ha : ws[q0]? = some (a, .inl (cA, n, .inl (aI F)))) (ht : tys[t0]? = some (cA, .int)) {i z : Int} (h : 0 ≤ i ∧ i < (n : Int) ∧ (n : Int) ≤ 2147483648) (hz : F i.toNat = z) (hdg : decode cc pc = .ok (.iaload, 1)) (k : W p l e R s m args below meth c H locs cells slots Q (F0 m (pc + 1) ls (.int (iI z) :: rest))) : W p l e R s m args below meth c H locs cells slots Q (F0 m pc ls (.int (iI i) :: .ref a :: rest)) :=
  va_iald hx hb hK hP q0 t0 ha ht (iI_in h) hdg (by rw [iI_cl ⟨h.1, by omega⟩]; show W p l e R s m args below meth c H locs cells slots Q (F0 m (pc + 1) ls (.int (iI (F i.toNat)) :: rest)); rw [hz]; exact k)
theorem q_lald (hx : p.tables.exec = Jvm.exec) (hb : c.code = cc) (hK : va_K D cl tys s) (hP : va_P D cl ws H) (q0 t0 : Nat) {cA : ClassId} {n : Nat} {F : Nat → Int} (ha : ws[q0]? = some (a, .inl (cA, n, .inr (.inl (aL F))))) (ht : tys[t0]? = some (cA, .long)) {i z : Int} (h : 0 ≤ i ∧ i < (n : Int) ∧ (n : Int) ≤ 2147483648) (hz : F i.toNat = z) (hdg : decode cc pc = .ok (.laload, 1)) (k : W p l e R s m args below meth c H locs cells slots Q (F0 m (pc + 1) ls (.long (lI z) :: rest))) : W p l e R s m args below meth c H locs cells slots Q (F0 m pc ls (.int (iI i) :: .ref a :: rest)) :=
  va_lald hx hb hK hP q0 t0 ha ht (iI_in h) hdg (by rw [iI_cl ⟨h.1, by omega⟩]; show W p l e R s m args below meth c H locs cells slots Q (F0 m (pc + 1) ls (.long (lI (F i.toNat)) :: rest)); rw [hz]; exact k)
theorem q_iast (hx : p.tables.exec = Jvm.exec) (hb : c.code = cc) (hK : va_K D cl tys s) (hP : va_P D cl ws H) (hD : va_D A ws) (hS : va_S A H0 H locs) (q0 t0 : Nat) {cA : ClassId} {n : Nat} {F : Nat → Int} (ha : ws[q0]? = some (a, .inl (cA, n, .inl (aI F)))) (ht : tys[t0]? = some (cA, .int)) {i x : Int} (h : 0 ≤ i ∧ i < (n : Int) ∧ (n : Int) ≤ 2147483648) {G : Nat → Int} (hz : upI F i.toNat x = G) (hdg : decode cc pc = .ok (.iastore, 1))
    (kk : ∀ (H1 : Heap) (locs1 : List Loc), va_P D cl (ws.set q0 (a, .inl (cA, n, .inl (aI G)))) H1 → va_D A (ws.set q0 (a, .inl (cA, n, .inl (aI G)))) → va_S A H0 H1 locs1 → W p l e R s m args below meth c H1 locs1 cells slots Q (F0 m (pc + 1) ls rest)) : W p l e R s m args below meth c H locs cells slots Q (F0 m pc ls (.int (iI x) :: .int (iI i) :: .ref a :: rest)) := by
  refine va_iast hx hb hK hP hD hS q0 t0 ha ht (iI_in h) hdg (fun H1 locs1 hP hD hS => ?_)
  rw [iI_cl ⟨h.1, by omega⟩, aI_up, hz] at hP hD
  exact kk H1 locs1 hP hD hS
theorem q_last (hx : p.tables.exec = Jvm.exec) (hb : c.code = cc) (hK : va_K D cl tys s) (hP : va_P D cl ws H) (hD : va_D A ws) (hS : va_S A H0 H locs) (q0 t0 : Nat) {cA : ClassId} {n : Nat} {F : Nat → Int} (ha : ws[q0]? = some (a, .inl (cA, n, .inr (.inl (aL F))))) (ht : tys[t0]? = some (cA, .long)) {i x : Int} (h : 0 ≤ i ∧ i < (n : Int) ∧ (n : Int) ≤ 2147483648) {G : Nat → Int} (hz : upI F i.toNat x = G) (hdg : decode cc pc = .ok (.lastore, 1))
    (kk : ∀ (H1 : Heap) (locs1 : List Loc), va_P D cl (ws.set q0 (a, .inl (cA, n, .inr (.inl (aL G))))) H1 → va_D A (ws.set q0 (a, .inl (cA, n, .inr (.inl (aL G))))) → va_S A H0 H1 locs1 → W p l e R s m args below meth c H1 locs1 cells slots Q (F0 m (pc + 1) ls rest)) : W p l e R s m args below meth c H locs cells slots Q (F0 m pc ls (.long (lI x) :: .int (iI i) :: .ref a :: rest)) := by
  refine va_last hx hb hK hP hD hS q0 t0 ha ht (iI_in h) hdg (fun H1 locs1 hP hD hS => ?_)
  rw [iI_cl ⟨h.1, by omega⟩, aL_up, hz] at hP hD
  exact kk H1 locs1 hP hD hS
theorem q_sti (hx : p.tables.exec = Jvm.exec) (hb : c.code = cc) {t N : Nat} {F : Nat → Int} (hT : va_T .int t N (fun j => .int (aI F j)) A s s.heap) (hS : va_S A s.heap H locs) {i z : Int} (h : 0 ≤ i ∧ i < (N : Int) ∧ (N : Int) ≤ 2147483648) (hz : F i.toNat = z) (hdg : decode cc pc = .ok (.iaload, 1)) (k : W p l e R s m args below meth c H locs cells slots Q (F0 m (pc + 1) ls (.int (iI z) :: rest))) : W p l e R s m args below meth c H locs cells slots Q (F0 m pc ls (.int (iI i) :: .ref t :: rest)) :=
  va_ti hx hb hT hS (iI_in h) (by rw [iI_cl ⟨h.1, by omega⟩]; show Value.int (iI (F i.toNat)) = _; rw [hz]) hdg k
theorem q_newI (hx : p.tables.exec = Jvm.exec) (hb : c.code = cc) (harr : (Cond.arrayClass (newarray.typeOf .int)).before args s = true) (hK : va_K D cl tys s) (t0 : Nat) {cI : ClassId} (ht : tys[t0]? = some (cI, .int)) (hP : va_P D cl ws H) (hD : va_D A ws) (hS : va_S A H0 H locs) (hA : ∀ q, H0.size ≤ q → A q) {n : Int} {N : Nat} (hn : n = (N : Int) ∧ (N : Int) ≤ 100000) (hcells : cells + 1 ≤ R.cells) (hslots : slots + N ≤ R.slots) (hdg : decode cc pc = .ok (.newarray .int, 2))
    (kk : ∀ (q : Nat) (H1 : Heap), va_P D cl (ws ++ [(q, .inl (cI, N, .inl (aI aZ)))]) H1 → va_D A (ws ++ [(q, .inl (cI, N, .inl (aI aZ)))]) → va_S A H0 H1 locs → W p l e R s m args below meth c H1 locs (cells + 1) (slots + N) Q (F0 m (pc + 2) ls (.ref q :: rest))) : W p l e R s m args below meth c H locs cells slots Q (F0 m pc ls (.int (iI n) :: rest)) := by
  refine va_newa (a0 := (N, .inl (aI aZ))) (atype := .int) hx hb harr (ty := .int) rfl hK hP hD hS hA (fun cA => by rw [← aI_z]; rfl) (by rw [iI_0, iI_lt ⟨by omega, by omega, by omega, by omega⟩]; omega) (N' := N) (by rw [iI_cl ⟨by omega, by omega⟩]; omega) (by show N * 4 ≤ _; omega) hcells hslots hdg (fun q cA H1 hK1 hP hD hS => ?_)
  have e : cA = cI := by
    have h1 := (hK1.2 tys.length (cA, .int) (by simp)).2
    have h2 := (hK.2 t0 _ ht).2
    exact Option.some.inj (h1.symm.trans h2)
  subst e
  exact kk q H1 hP hD hS
theorem q_newL (hx : p.tables.exec = Jvm.exec) (hb : c.code = cc) (harr : (Cond.arrayClass (newarray.typeOf .long)).before args s = true) (hK : va_K D cl tys s) (t0 : Nat) {cI : ClassId} (ht : tys[t0]? = some (cI, .long)) (hP : va_P D cl ws H) (hD : va_D A ws) (hS : va_S A H0 H locs) (hA : ∀ q, H0.size ≤ q → A q) {n : Int} {N : Nat} (hn : n = (N : Int) ∧ (N : Int) ≤ 100000) (hcells : cells + 1 ≤ R.cells) (hslots : slots + N ≤ R.slots) (hdg : decode cc pc = .ok (.newarray .long, 2))
    (kk : ∀ (q : Nat) (H1 : Heap), va_P D cl (ws ++ [(q, .inl (cI, N, .inr (.inl (aL aZ))))]) H1 → va_D A (ws ++ [(q, .inl (cI, N, .inr (.inl (aL aZ))))]) → va_S A H0 H1 locs → W p l e R s m args below meth c H1 locs (cells + 1) (slots + N) Q (F0 m (pc + 2) ls (.ref q :: rest))) : W p l e R s m args below meth c H locs cells slots Q (F0 m pc ls (.int (iI n) :: rest)) := by
  refine va_newa (a0 := (N, .inr (.inl (aL aZ)))) (atype := .long) hx hb harr (ty := .long) rfl hK hP hD hS hA (fun cA => by rw [← aL_z]; rfl) (by rw [iI_0, iI_lt ⟨by omega, by omega, by omega, by omega⟩]; omega) (N' := N) (by rw [iI_cl ⟨by omega, by omega⟩]; omega) (by show N * 8 ≤ _; omega) hcells hslots hdg (fun q cA H1 hK1 hP hD hS => ?_)
  have e : cA = cI := by
    have h1 := (hK1.2 tys.length (cA, .long) (by simp)).2
    have h2 := (hK.2 t0 _ ht).2
    exact Option.some.inj (h1.symm.trans h2)
  subst e
  exact kk q H1 hP hD hS
theorem q_newC (hx : p.tables.exec = Jvm.exec) (hb : c.code = cc) (harr : (Cond.arrayClass (newarray.typeOf .char)).before args s = true) (hK : va_K D cl tys s) (t0 : Nat) {cI : ClassId} (ht : tys[t0]? = some (cI, .char)) (hP : va_P D cl ws H) (hD : va_D A ws) (hS : va_S A H0 H locs) (hA : ∀ q, H0.size ≤ q → A q) {n : Int} {N : Nat} (hn : n = (N : Int) ∧ (N : Int) ≤ 100000) (hcells : cells + 1 ≤ R.cells) (hslots : slots + N ≤ R.slots) (hdg : decode cc pc = .ok (.newarray .char, 2))
    (kk : ∀ (q : Nat) (H1 : Heap), va_P D cl (ws ++ [(q, .inl (cI, N, .inl (aI aZ)))]) H1 → va_D A (ws ++ [(q, .inl (cI, N, .inl (aI aZ)))]) → va_S A H0 H1 locs → W p l e R s m args below meth c H1 locs (cells + 1) (slots + N) Q (F0 m (pc + 2) ls (.ref q :: rest))) : W p l e R s m args below meth c H locs cells slots Q (F0 m pc ls (.int (iI n) :: rest)) := by
  refine va_newa (a0 := (N, .inl (aI aZ))) (atype := .char) hx hb harr (ty := .char) rfl hK hP hD hS hA (fun cA => by rw [← aI_z]; rfl) (by rw [iI_0, iI_lt ⟨by omega, by omega, by omega, by omega⟩]; omega) (N' := N) (by rw [iI_cl ⟨by omega, by omega⟩]; omega) (by show N * 2 ≤ _; omega) hcells hslots hdg (fun q cA H1 hK1 hP hD hS => ?_)
  have e : cA = cI := by
    have h1 := (hK1.2 tys.length (cA, .char) (by simp)).2
    have h2 := (hK.2 t0 _ ht).2
    exact Option.some.inj (h1.symm.trans h2)
  subst e
  exact kk q H1 hP hD hS
theorem q_newZ (hx : p.tables.exec = Jvm.exec) (hb : c.code = cc) (harr : (Cond.arrayClass (newarray.typeOf .boolean)).before args s = true) (hK : va_K D cl tys s) (t0 : Nat) {cI : ClassId} (ht : tys[t0]? = some (cI, .boolean)) (hP : va_P D cl ws H) (hD : va_D A ws) (hS : va_S A H0 H locs) (hA : ∀ q, H0.size ≤ q → A q) {n : Int} {N : Nat} (hn : n = (N : Int) ∧ (N : Int) ≤ 100000) (hcells : cells + 1 ≤ R.cells) (hslots : slots + N ≤ R.slots) (hdg : decode cc pc = .ok (.newarray .boolean, 2))
    (kk : ∀ (q : Nat) (H1 : Heap), va_P D cl (ws ++ [(q, .inl (cI, N, .inl (aI aZ)))]) H1 → va_D A (ws ++ [(q, .inl (cI, N, .inl (aI aZ)))]) → va_S A H0 H1 locs → W p l e R s m args below meth c H1 locs (cells + 1) (slots + N) Q (F0 m (pc + 2) ls (.ref q :: rest))) : W p l e R s m args below meth c H locs cells slots Q (F0 m pc ls (.int (iI n) :: rest)) := by
  refine va_newa (a0 := (N, .inl (aI aZ))) (atype := .boolean) hx hb harr (ty := .boolean) rfl hK hP hD hS hA (fun cA => by rw [← aI_z]; rfl) (by rw [iI_0, iI_lt ⟨by omega, by omega, by omega, by omega⟩]; omega) (N' := N) (by rw [iI_cl ⟨by omega, by omega⟩]; omega) (by show N * 1 ≤ _; omega) hcells hslots hdg (fun q cA H1 hK1 hP hD hS => ?_)
  have e : cA = cI := by
    have h1 := (hK1.2 tys.length (cA, .boolean) (by simp)).2
    have h2 := (hK.2 t0 _ ht).2
    exact Option.some.inj (h1.symm.trans h2)
  subst e
  exact kk q H1 hP hD hS
theorem q_newD (hx : p.tables.exec = Jvm.exec) (hb : c.code = cc) (harr : (Cond.arrayClass (newarray.typeOf .double)).before args s = true) (hK : va_K D cl tys s) (t0 : Nat) {cI : ClassId} (ht : tys[t0]? = some (cI, .double)) (hP : va_P D cl ws H) (hD : va_D A ws) (hS : va_S A H0 H locs) (hA : ∀ q, H0.size ≤ q → A q) {n : Int} {N : Nat} (hn : n = (N : Int) ∧ (N : Int) ≤ 100000) (hcells : cells + 1 ≤ R.cells) (hslots : slots + N ≤ R.slots) (hdg : decode cc pc = .ok (.newarray .double, 2))
    (kk : ∀ (q : Nat) (H1 : Heap), va_P D cl (ws ++ [(q, .inl (cI, N, .inr (.inr (.inr (.inl (fun _ => FP.dconst0))))))]) H1 → va_D A (ws ++ [(q, .inl (cI, N, .inr (.inr (.inr (.inl (fun _ => FP.dconst0))))))]) → va_S A H0 H1 locs → W p l e R s m args below meth c H1 locs (cells + 1) (slots + N) Q (F0 m (pc + 2) ls (.ref q :: rest))) : W p l e R s m args below meth c H locs cells slots Q (F0 m pc ls (.int (iI n) :: rest)) := by
  refine va_newa (a0 := (N, .inr (.inr (.inr (.inl (fun _ => FP.dconst0)))))) (atype := .double) hx hb harr (ty := .double) rfl hK hP hD hS hA (fun cA => by rfl) (by rw [iI_0, iI_lt ⟨by omega, by omega, by omega, by omega⟩]; omega) (N' := N) (by rw [iI_cl ⟨by omega, by omega⟩]; omega) (by show N * 8 ≤ _; omega) hcells hslots hdg (fun q cA H1 hK1 hP hD hS => ?_)
  have e : cA = cI := by
    have h1 := (hK1.2 tys.length (cA, .double) (by simp)).2
    have h2 := (hK.2 t0 _ ht).2
    exact Option.some.inj (h1.symm.trans h2)
  subst e
  exact kk q H1 hP hD hS
theorem q_newF (hx : p.tables.exec = Jvm.exec) (hb : c.code = cc) (harr : (Cond.arrayClass (newarray.typeOf .float)).before args s = true) (hK : va_K D cl tys s) (t0 : Nat) {cI : ClassId} (ht : tys[t0]? = some (cI, .float)) (hP : va_P D cl ws H) (hD : va_D A ws) (hS : va_S A H0 H locs) (hA : ∀ q, H0.size ≤ q → A q) {n : Int} {N : Nat} (hn : n = (N : Int) ∧ (N : Int) ≤ 100000) (hcells : cells + 1 ≤ R.cells) (hslots : slots + N ≤ R.slots) (hdg : decode cc pc = .ok (.newarray .float, 2))
    (kk : ∀ (q : Nat) (H1 : Heap), va_P D cl (ws ++ [(q, .inl (cI, N, .inr (.inr (.inl (fun _ => FP.fconst0)))))]) H1 → va_D A (ws ++ [(q, .inl (cI, N, .inr (.inr (.inl (fun _ => FP.fconst0)))))]) → va_S A H0 H1 locs → W p l e R s m args below meth c H1 locs (cells + 1) (slots + N) Q (F0 m (pc + 2) ls (.ref q :: rest))) : W p l e R s m args below meth c H locs cells slots Q (F0 m pc ls (.int (iI n) :: rest)) := by
  refine va_newa (a0 := (N, .inr (.inr (.inl (fun _ => FP.fconst0))))) (atype := .float) hx hb harr (ty := .float) rfl hK hP hD hS hA (fun cA => by rfl) (by rw [iI_0, iI_lt ⟨by omega, by omega, by omega, by omega⟩]; omega) (N' := N) (by rw [iI_cl ⟨by omega, by omega⟩]; omega) (by show N * 4 ≤ _; omega) hcells hslots hdg (fun q cA H1 hK1 hP hD hS => ?_)
  have e : cA = cI := by
    have h1 := (hK1.2 tys.length (cA, .float) (by simp)).2
    have h2 := (hK.2 t0 _ ht).2
    exact Option.some.inj (h1.symm.trans h2)
  subst e
  exact kk q H1 hP hD hS
theorem q_mmin {a b z : Int} (h : -2147483648 ≤ a ∧ a ≤ 2147483647 ∧ -2147483648 ≤ b ∧ b ≤ 2147483647) (hz : (a ≤ b → z = a) ∧ (b ≤ a → z = b)) : (if iI b < iI a then iI b else iI a) = iI z := by
  simp only [iI_lt (a := b) (b := a) ⟨h.2.2.1, h.2.2.2, h.1, h.2.1⟩]
  by_cases q : b < a
  · rw [if_pos q, hz.2 (by omega)]
  · rw [if_neg q, hz.1 (by omega)]
theorem q_mmax {a b z : Int} (h : -2147483648 ≤ a ∧ a ≤ 2147483647 ∧ -2147483648 ≤ b ∧ b ≤ 2147483647) (hz : (a ≤ b → z = b) ∧ (b ≤ a → z = a)) : (if iI a < iI b then iI b else iI a) = iI z := by
  simp only [iI_lt h]
  by_cases q : a < b
  · rw [if_pos q, hz.1 (by omega)]
  · rw [if_neg q, hz.2 (by omega)]
theorem q_mmin_long {a b z : Int} (h : -9223372036854775808 ≤ a ∧ a ≤ 9223372036854775807 ∧ -9223372036854775808 ≤ b ∧ b ≤ 9223372036854775807) (hz : (a ≤ b → z = a) ∧ (b ≤ a → z = b)) : (if lI b < lI a then lI b else lI a) = lI z := by
  simp only [lI_lt (a := b) (b := a) ⟨h.2.2.1, h.2.2.2, h.1, h.2.1⟩]
  by_cases q : b < a
  · rw [if_pos q, hz.2 (by omega)]
  · rw [if_neg q, hz.1 (by omega)]
theorem q_mmax_long {a b z : Int} (h : -9223372036854775808 ≤ a ∧ a ≤ 9223372036854775807 ∧ -9223372036854775808 ≤ b ∧ b ≤ 9223372036854775807) (hz : (a ≤ b → z = b) ∧ (b ≤ a → z = a)) : (if lI b < lI a then lI a else lI b) = lI z := by
  simp only [lI_lt (a := b) (b := a) ⟨h.2.2.1, h.2.2.2, h.1, h.2.1⟩]
  by_cases q : b < a
  · rw [if_pos q, hz.2 (by omega)]
  · rw [if_neg q, hz.1 (by omega)]
theorem q_cpyi (hx : p.tables.exec = Jvm.exec) (hb : c.code = cc) (hml : c.maxLocals = ls.size) {own : String} {index : Nat} (hown : s.vm.findClass own = some m.cls) (hlink : (Cond.methodLink own index arraycopyName).before args s = true) (hnat : (Cond.native arraycopyName).before args s = true) (hstat : (Cond.static arraycopyName).before args s = true) (hini : (Cond.initialized "java/lang/System").before args s = true)
    (hK : va_K D cl tys s) (hP : va_P D cl ws H) (hD : va_D A ws) (hS : va_S A H0 H locs) (q0 q1 t0 t1 : Nat) {a0 : Nat} {c0 c1 : ClassId} {n0 n1 : Nat} {F G : Nat → Int} (ha0 : ws[q0]? = some (a0, .inl (c0, n0, .inl (aI F)))) (ha1 : ws[q1]? = some (a, .inl (c1, n1, .inl (aI G)))) (ht0 : tys[t0]? = some (c0, .int)) (ht1 : tys[t1]? = some (c1, .int)) {n : Int} {N : Nat} (hn : n = (N : Int) ∧ (N : Int) ≤ 100000) (h4 : N ≤ n0) (h5 : N ≤ n1)
    (hframes : 1 ≤ R.frames) (hlocals : (rest.map fun v => v.category).sum + (nativeFrameWords "java/lang/System" "arraycopy" 5 + 11) ≤ R.locals) (hdg : decode cc pc = .ok (.invokestatic index, 3))
    (kk : ∀ (H1 : Heap) (locs1 : List Loc), va_P D cl (ws.set q1 (a, .inl (c1, n1, .inl (aI (va_cpy F G 0 0 N))))) H1 → va_D A (ws.set q1 (a, .inl (c1, n1, .inl (aI (va_cpy F G 0 0 N))))) → va_S A H0 H1 locs1 → W p l e R s m args below meth c H1 locs1 cells slots Q (F0 m (pc + 3) ls rest)) : W p l e R s m args below meth c H locs cells slots Q (F0 m pc ls (.int (iI n) :: .int (iI 0) :: .ref a :: .int (iI 0) :: .ref a0 :: rest)) := by
  have e0 : (iI 0).toNatClampNeg = 0 := by decide
  have en : (iI n).toNatClampNeg = N := by rw [iI_cl ⟨by omega, by omega⟩]; omega
  refine va_copyi hx hb hml hown hlink hnat hstat hini hK hP hD hS q0 q1 t0 t1 ha0 ha1 ht0 ht1 rfl (by decide) (by decide) (by rw [iI_0, iI_lt ⟨by omega, by omega, by omega, by omega⟩]; omega) (by rw [e0, en]; omega) (by rw [e0, en]; omega) (fun i _ => rfl) hframes hlocals hdg (fun H1 locs1 hP hD hS => ?_)
  rw [e0, en] at hP hD
  have e1 : va_cpy (aI F) (aI G) 0 0 N = aI (va_cpy F G 0 0 N) := by
    funext j
    show (if 0 ≤ j ∧ j < 0 + N then iI (F (0 + (j - 0))) else iI (G j)) = iI (if 0 ≤ j ∧ j < 0 + N then F (0 + (j - 0)) else G j)
    by_cases h : 0 ≤ j ∧ j < 0 + N
    · rw [if_pos h, if_pos h]
    · rw [if_neg h, if_neg h]
  rw [e1] at hP hD
  exact kk H1 locs1 hP hD hS
theorem q_cpyl (hx : p.tables.exec = Jvm.exec) (hb : c.code = cc) (hml : c.maxLocals = ls.size) {own : String} {index : Nat} (hown : s.vm.findClass own = some m.cls) (hlink : (Cond.methodLink own index arraycopyName).before args s = true) (hnat : (Cond.native arraycopyName).before args s = true) (hstat : (Cond.static arraycopyName).before args s = true) (hini : (Cond.initialized "java/lang/System").before args s = true)
    (hK : va_K D cl tys s) (hP : va_P D cl ws H) (hD : va_D A ws) (hS : va_S A H0 H locs) (q0 q1 t0 t1 : Nat) {a0 : Nat} {c0 c1 : ClassId} {n0 n1 : Nat} {F G : Nat → Int} (ha0 : ws[q0]? = some (a0, .inl (c0, n0, .inr (.inl (aL F))))) (ha1 : ws[q1]? = some (a, .inl (c1, n1, .inr (.inl (aL G))))) (ht0 : tys[t0]? = some (c0, .long)) (ht1 : tys[t1]? = some (c1, .long)) {n : Int} {N : Nat} (hn : n = (N : Int) ∧ (N : Int) ≤ 100000) (h4 : N ≤ n0) (h5 : N ≤ n1)
    (hframes : 1 ≤ R.frames) (hlocals : (rest.map fun v => v.category).sum + (nativeFrameWords "java/lang/System" "arraycopy" 5 + 11) ≤ R.locals) (hdg : decode cc pc = .ok (.invokestatic index, 3))
    (kk : ∀ (H1 : Heap) (locs1 : List Loc), va_P D cl (ws.set q1 (a, .inl (c1, n1, .inr (.inl (aL (va_cpy F G 0 0 N)))))) H1 → va_D A (ws.set q1 (a, .inl (c1, n1, .inr (.inl (aL (va_cpy F G 0 0 N)))))) → va_S A H0 H1 locs1 → W p l e R s m args below meth c H1 locs1 cells slots Q (F0 m (pc + 3) ls rest)) : W p l e R s m args below meth c H locs cells slots Q (F0 m pc ls (.int (iI n) :: .int (iI 0) :: .ref a :: .int (iI 0) :: .ref a0 :: rest)) := by
  have e0 : (iI 0).toNatClampNeg = 0 := by decide
  have en : (iI n).toNatClampNeg = N := by rw [iI_cl ⟨by omega, by omega⟩]; omega
  refine va_copyl hx hb hml hown hlink hnat hstat hini hK hP hD hS q0 q1 t0 t1 ha0 ha1 ht0 ht1 rfl (by decide) (by decide) (by rw [iI_0, iI_lt ⟨by omega, by omega, by omega, by omega⟩]; omega) (by rw [e0, en]; omega) (by rw [e0, en]; omega) (fun i _ => rfl) hframes hlocals hdg (fun H1 locs1 hP hD hS => ?_)
  rw [e0, en] at hP hD
  have e1 : va_cpy (aL F) (aL G) 0 0 N = aL (va_cpy F G 0 0 N) := by
    funext j
    show (if 0 ≤ j ∧ j < 0 + N then lI (F (0 + (j - 0))) else lI (G j)) = lI (if 0 ≤ j ∧ j < 0 + N then F (0 + (j - 0)) else G j)
    by_cases h : 0 ≤ j ∧ j < 0 + N
    · rw [if_pos h, if_pos h]
    · rw [if_neg h, if_neg h]
  rw [e1] at hP hD
  exact kk H1 locs1 hP hD hS
theorem q_newq (hx : p.tables.exec = Jvm.exec) (hb : c.code = cc) {own C : String} {index : Nat} (hown : s.vm.findClass own = some m.cls) (hclink : (Cond.classLink own index C).before args s = true) (hover : va_AO C s) (hK : va_K D cl tys s) (t0 : Nat) {cI : ClassId} (ht : tys[t0]? = some (cI, .object C)) (hP : va_P D cl ws H) (hD : va_D A ws) (hS : va_S A H0 H locs) (hA : ∀ q, H0.size ≤ q → A q) {n : Int} {N : Nat} (hn : n = (N : Int) ∧ (N : Int) ≤ 100000) (hcells : cells + 1 ≤ R.cells) (hslots : slots + N ≤ R.slots) (hdg : decode cc pc = .ok (.anewarray index, 3))
    (kk : ∀ (q : Nat) (H1 : Heap), va_P D cl (ws ++ [(q, .inl (cI, N, .inr (.inr (.inr (.inr (fun _ => none))))))]) H1 → va_D A (ws ++ [(q, .inl (cI, N, .inr (.inr (.inr (.inr (fun _ => none))))))]) → va_S A H0 H1 locs → W p l e R s m args below meth c H1 locs (cells + 1) (slots + N) Q (F0 m (pc + 3) ls (.ref q :: rest))) : W p l e R s m args below meth c H locs cells slots Q (F0 m pc ls (.int (iI n) :: rest)) := by
  refine va_newq hx hb hown hclink hover hK hP hD hS hA (by rw [iI_0, iI_lt ⟨by omega, by omega, by omega, by omega⟩]; omega) (N' := N) (by rw [iI_cl ⟨by omega, by omega⟩]; omega) (by omega) hcells hslots hdg (fun q cA H1 hK1 hP hD hS => ?_)
  have e : cA = cI := by
    obtain ⟨kA, comp, -, -, -, h1⟩ := (hK1.2 tys.length (cA, .object C) (by simp)).2
    obtain ⟨kA', comp', -, -, -, h2⟩ := (hK.2 t0 _ ht).2
    exact Option.some.inj (h1.symm.trans h2)
  subst e
  exact kk q H1 hP hD hS
end
section
/-! the words that are no good words: links of nest mates, what throws declare and cast -/
def NWf : List (String × Nat × String × String × String) := [("LoanServicing", 136, "LoanServicing$Loan", "sums", "[J"), ("LoanServicing", 140, "LoanServicing$Account", "bills", "LLoanServicing$Bills;"), ("LoanServicing", 156, "LoanServicing$Loan", "remaining", "I"), ("LoanServicing", 159, "LoanServicing$Loan", "principal", "J"), ("LoanServicing", 162, "LoanServicing$Loan", "interest", "J"), ("LoanServicing", 165, "LoanServicing$Loan", "fees", "J"), ("LoanServicing", 171, "LoanServicing$Loan", "nextDueDay", "I"), ("LoanServicing", 178, "LoanServicing$Loan", "rate", "I"), ("LoanServicing", 181, "LoanServicing$Loan", "units", "J"), ("LoanServicing", 184, "LoanServicing$Loan", "exists", "Z"), ("LoanServicing", 198, "LoanServicing$Loan", "firstPrincipal", "J"), ("LoanServicing", 207, "LoanServicing$Projection", "payments", "I"), ("LoanServicing", 233, "LoanServicing$InputText", "length", "I"), ("LoanServicing", 242, "LoanServicing$InputText", "commands", "I"), ("LoanServicing", 264, "LoanServicing$Account", "ledger", "LLoanServicing$Ledger;"), ("LoanServicing", 268, "LoanServicing$Ledger", "size", "I"), ("LoanServicing", 285, "LoanServicing$Loan", "firstDay", "I"), ("LoanServicing", 288, "LoanServicing$Account", "firstRules", "[I"), ("LoanServicing", 296, "LoanServicing$Loan", "firstRate", "I"), ("LoanServicing", 299, "LoanServicing$Loan", "firstInstallments", "I"), ("LoanServicing", 302, "LoanServicing$Loan", "convention", "I"), ("LoanServicing", 319, "LoanServicing$Row", "isFilled", "Z"), ("LoanServicing", 322, "LoanServicing$Row", "isExact", "Z"), ("LoanServicing", 325, "LoanServicing$Row", "length", "I"), ("LoanServicing", 79, "LoanServicing$Account", "historyEnd", "I"), ("LoanServicing", 82, "LoanServicing$Account", "historyStart", "I"), ("LoanServicing", 85, "LoanServicing$Account", "loan", "LLoanServicing$Loan;"), ("LoanServicing", 89, "LoanServicing$Loan", "installment", "J"), ("LoanServicing", 99, "LoanServicing$Account", "day", "I"), ("LoanServicing$Account", 109, "LoanServicing$Loan", "remaining", "I"), ("LoanServicing$Account", 115, "LoanServicing$Loan", "fees", "J"), ("LoanServicing$Account", 125, "LoanServicing$Loan", "rate", "I"), ("LoanServicing$Account", 136, "LoanServicing$Loan", "holidays", "I"), ("LoanServicing$Account", 155, "LoanServicing$Loan", "nextDueDay", "I"), ("LoanServicing$Account", 168, "LoanServicing$Loan", "sums", "[J"), ("LoanServicing$Account", 186, "LoanServicing$Loan", "principal", "J"), ("LoanServicing$Account", 189, "LoanServicing$Loan", "interest", "J"), ("LoanServicing$Account", 218, "LoanServicing$Loan", "units", "J"), ("LoanServicing$Account", 228, "LoanServicing$Projection", "payments", "I"), ("LoanServicing$Account", 67, "LoanServicing$Loan", "installment", "J"), ("LoanServicing$History", 16, "LoanServicing$Account", "historyEnd", "I"), ("LoanServicing$Projection", 31, "LoanServicing$Account", "loan", "LLoanServicing$Loan;"), ("LoanServicing$Projection", 37, "LoanServicing$Loan", "principal", "J"), ("LoanServicing$Projection", 46, "LoanServicing$Loan", "interest", "J"), ("LoanServicing$Projection", 52, "LoanServicing$Loan", "units", "J"), ("LoanServicing$Projection", 58, "LoanServicing$Loan", "rate", "I"), ("LoanServicing$Projection", 63, "LoanServicing$Loan", "convention", "I"), ("LoanServicing$Projection", 67, "LoanServicing$Loan", "holidays", "I"), ("LoanServicing$Projection", 71, "LoanServicing$Account", "rules", "[I"), ("LoanServicing$Projection", 93, "LoanServicing$Account", "day", "I"), ("LoanServicing$Projection", 96, "LoanServicing$Loan", "firstDay", "I"), ("LoanServicing$Projection", 99, "LoanServicing$Loan", "nextDue", "I"), ("LoanServicing$Row", 26, "LoanServicing$Projection", "payments", "I")]
def NWm : List (String × Nat × MethodName) := [("LoanServicing", 28, ⟨"LoanServicing$History", "<init>", "()V"⟩), ("LoanServicing", 38, ⟨"LoanServicing$Projection", "<init>", "()V"⟩), ("LoanServicing", 45, ⟨"LoanServicing$InputText", "<init>", "()V"⟩), ("LoanServicing", 63, ⟨"LoanServicing$Row", "<init>", "()V"⟩), ("LoanServicing", 9, ⟨"LoanServicing$Account", "<init>", "()V"⟩), ("LoanServicing$Account", 20, ⟨"LoanServicing$Loan", "<init>", "()V"⟩), ("LoanServicing$Account", 27, ⟨"LoanServicing$Bills", "<init>", "()V"⟩), ("LoanServicing$Account", 34, ⟨"LoanServicing$Ledger", "<init>", "()V"⟩), ("LoanServicing$Account", 97, ⟨"LoanServicing", "isWithin", "(III)Z"⟩)]
def NWd : List MethodName := [⟨"java/lang/Exception", "<init>", "()V"⟩, ⟨"java/lang/IndexOutOfBoundsException", "<init>", "()V"⟩, ⟨"java/lang/RuntimeException", "<init>", "()V"⟩, ⟨"java/lang/Throwable", "<init>", "()V"⟩]
def NWc : List (String × String) := [("java/lang/IllegalArgumentException", "java/lang/IllegalArgumentException"), ("java/lang/IllegalStateException", "java/lang/IllegalStateException"), ("java/lang/IndexOutOfBoundsException", "java/lang/IndexOutOfBoundsException"), ("java/util/NoSuchElementException", "java/util/NoSuchElementException"), ("java/lang/ArithmeticException", "java/lang/ArithmeticException"), ("java/lang/UnsupportedOperationException", "java/lang/UnsupportedOperationException")]
def NWn : List (String × String) := [("java/lang/IllegalArgumentException", "java/lang/IllegalStateException"), ("java/lang/IllegalArgumentException", "java/lang/IndexOutOfBoundsException"), ("java/lang/IllegalArgumentException", "java/util/NoSuchElementException"), ("java/lang/IllegalArgumentException", "java/lang/ArithmeticException"), ("java/lang/IllegalArgumentException", "java/lang/UnsupportedOperationException"), ("java/lang/IllegalStateException", "java/lang/IllegalArgumentException"), ("java/lang/IllegalStateException", "java/lang/IndexOutOfBoundsException"), ("java/lang/IllegalStateException", "java/util/NoSuchElementException"), ("java/lang/IllegalStateException", "java/lang/ArithmeticException"), ("java/lang/IllegalStateException", "java/lang/UnsupportedOperationException"), ("java/lang/IndexOutOfBoundsException", "java/lang/IllegalArgumentException"), ("java/lang/IndexOutOfBoundsException", "java/lang/IllegalStateException"), ("java/lang/IndexOutOfBoundsException", "java/util/NoSuchElementException"), ("java/lang/IndexOutOfBoundsException", "java/lang/ArithmeticException"), ("java/lang/IndexOutOfBoundsException", "java/lang/UnsupportedOperationException"), ("java/util/NoSuchElementException", "java/lang/IllegalArgumentException"), ("java/util/NoSuchElementException", "java/lang/IllegalStateException"), ("java/util/NoSuchElementException", "java/lang/IndexOutOfBoundsException"), ("java/util/NoSuchElementException", "java/lang/ArithmeticException"), ("java/util/NoSuchElementException", "java/lang/UnsupportedOperationException"), ("java/lang/ArithmeticException", "java/lang/IllegalArgumentException"), ("java/lang/ArithmeticException", "java/lang/IllegalStateException"), ("java/lang/ArithmeticException", "java/lang/IndexOutOfBoundsException"), ("java/lang/ArithmeticException", "java/util/NoSuchElementException"), ("java/lang/ArithmeticException", "java/lang/UnsupportedOperationException"), ("java/lang/UnsupportedOperationException", "java/lang/IllegalArgumentException"), ("java/lang/UnsupportedOperationException", "java/lang/IllegalStateException"), ("java/lang/UnsupportedOperationException", "java/lang/IndexOutOfBoundsException"), ("java/lang/UnsupportedOperationException", "java/util/NoSuchElementException"), ("java/lang/UnsupportedOperationException", "java/lang/ArithmeticException")]
def NW : List Cond := NWf.map (fun q => .fieldLinkNest q.1 q.2.1 q.2.2.1 q.2.2.2.1 q.2.2.2.2 "LoanServicing") ++ (NWm.map (fun q => .methodLinkNest q.1 q.2.1 q.2.2 "LoanServicing") ++ (NWd.map (fun q => .declares q) ++ NWc.map (fun q => .castable q.1 q.2)))
theorem NW_warm {w : Cond} (hw : w ∈ NW) {s U : State} (hW : s.WarmedH U.vm) (h : va_Nw w s) : va_Nw w U := by
  rcases List.mem_append.mp hw with h1 | h1
  · obtain ⟨q, -, rfl⟩ := List.mem_map.mp h1; exact va_Nw.warmF hW h
  · rcases List.mem_append.mp h1 with h1 | h1
    · obtain ⟨q, -, rfl⟩ := List.mem_map.mp h1; exact va_Nw.warmM hW h
    · rcases List.mem_append.mp h1 with h1 | h1
      · obtain ⟨q, -, rfl⟩ := List.mem_map.mp h1; exact va_Nw.warmD hW h
      · obtain ⟨q, -, rfl⟩ := List.mem_map.mp h1; exact va_Nw.warmC hW h
theorem NW_on {w : Cond} (hw : w ∈ NW) : w.onTables = true := by
  rcases List.mem_append.mp hw with h1 | h1
  · obtain ⟨q, -, rfl⟩ := List.mem_map.mp h1; rfl
  · rcases List.mem_append.mp h1 with h1 | h1
    · obtain ⟨q, -, rfl⟩ := List.mem_map.mp h1; rfl
    · rcases List.mem_append.mp h1 with h1 | h1
      · obtain ⟨q, -, rfl⟩ := List.mem_map.mp h1; rfl
      · obtain ⟨q, -, rfl⟩ := List.mem_map.mp h1; rfl
/-- the array classes' places in every world's list -/
abbrev TY (k : Nat → ClassId) : List (ClassId × FieldType) := [(k 0, .int), (k 1, .long), (k 2, .char), (k 3, .double), (k 4, .float), (k 5, .boolean), (k 6, .object "LoanServicing$Account"), (k 7, .object "LoanServicing$Row")]
def MSt : List Int := [0, 31, 59, 90, 120, 151, 181, 212, 243, 273, 304, 334]
def msF (j : Nat) : Int := MSt.getD j 0
def MRt : List Int := [5, 1, 30, 100000, 1]
def mrF (j : Nat) : Int := MRt.getD j 0
def Zs (A : Nat → Prop) (U : State) (H : Heap) : Prop :=
  (∃ t : Nat, va_Z "LoanServicing$Days" "MONTH_STARTS" "[I" (.ref t) A U H ∧ va_T .int t 12 (fun j => .int (aI msF j)) A U H) ∧
  (∃ t : Nat, va_Z "LoanServicing$Account" "MOST_OF_RULES" "[I" (.ref t) A U H ∧ va_T .int t 5 (fun j => .int (aI mrF j)) A U H) ∧
  vx_Zq Bundle.tN "UNASSIGNED_STACK" Bundle.steD A U H ∧ vx_Zq Bundle.tN "SUPPRESSED_SENTINEL" Bundle.listD A U H
theorem Zs.moved {A : Nat → Prop} {u U : State} {H : Heap} (hvm : u.vm.Alike U.vm) (h : Zs A u H) : Zs A U H := by
  obtain ⟨⟨t, h1, h2⟩, ⟨t', h3, h4⟩, h5, h6⟩ := h
  exact ⟨⟨t, h1.moved hvm, h2.moved hvm⟩, ⟨t', h3.moved hvm, h4.moved hvm⟩, h5.moved hvm, h6.moved hvm⟩
theorem Zs.kept {A : Nat → Prop} {U : State} {H H1 : Heap} (h : Zs A U H) (hq : ∀ a : Nat, a < H.size → ¬ A a → H1[a]? = H[a]?) : Zs A U H1 := by
  obtain ⟨⟨t, h1, h2⟩, ⟨t', h3, h4⟩, h5, h6⟩ := h
  exact ⟨⟨t, h1.kept hq, h2.kept hq⟩, ⟨t', h3.kept hq, h4.kept hq⟩, h5.kept hq, h6.kept hq⟩
theorem Zs.narrow {A B : Nat → Prop} {U : State} {H : Heap} (h : Zs A U H) (hAB : ∀ q, B q → A q) : Zs B U H := by
  obtain ⟨⟨t, h1, h2⟩, ⟨t', h3, h4⟩, h5, h6⟩ := h
  exact ⟨⟨t, h1.narrow hAB, h2.narrow hAB⟩, ⟨t', h3.narrow hAB, h4.narrow hAB⟩, h5.narrow hAB, h6.narrow hAB⟩
/-- what every contract takes as given, beside its own cells -/
def En (D : va_G) (k : Nat → ClassId) (A : Nat → Prop) (U : State) (H : Heap) : Prop :=
  va_K D vwCl (TY k) U ∧ (∀ w ∈ NW, va_Nw w U) ∧ (∀ q ∈ NWn, va_Nc q.1 q.2 U) ∧ Zs A U H ∧ va_AO "LoanServicing$Account" U ∧ va_AO "LoanServicing$Row" U
theorem En.call {D : va_G} {k : Nat → ClassId} {A A' : Nat → Prop} {s : State} {H : Heap} {locs : List Loc} (h : En D k A s s.heap) (hS : va_S A s.heap H locs) (hF : ∀ q, A' q → A q) {U : State} (hU : U.heap = H) (hW : s.WarmedH U.vm) : En D k A' U U.heap := by
  obtain ⟨h1, h2, h3, h4, h5, h6⟩ := h
  refine ⟨h1.moved hW.alike, fun w hw => NW_warm hw hW (h2 w hw), fun q hq => (h3 q hq).moved hW.alike, ?_, h5.moved hW.alike, h6.moved hW.alike⟩
  rw [hU]
  exact ((h4.kept hS.2.1).moved hW.alike).narrow hF
theorem En.blind {D : va_G} {k : Nat → ClassId} {A : Nat → Prop} {U : State} {g : JFrame} {mk : MethodId} {a : Array Value} (h : En D k A U U.heap) : En D k A (U.calling g mk a) (U.calling g mk a).heap := by
  obtain ⟨h1, h2, h3, h4, h5, h6⟩ := h
  exact ⟨va_K.moved (u := U) (U := U.calling g mk a) (Vm.Alike.refl U.vm) h1, fun w hw => va_Nw.same (NW_on hw) (u := U) (U := U.calling g mk a) rfl (h2 w hw), fun q hq => va_Nc.moved (u := U) (U := U.calling g mk a) (Vm.Alike.refl U.vm) (h3 q hq), Zs.moved (u := U) (U := U.calling g mk a) (Vm.Alike.refl U.vm) h4, va_AO.moved (u := U) (U := U.calling g mk a) (Vm.Alike.refl U.vm) h5, va_AO.moved (u := U) (U := U.calling g mk a) (Vm.Alike.refl U.vm) h6⟩
/-- a contract's start: its arguments, its cells w, what is given -/
def PcW (D : va_G) (k : Nat → ClassId) (av : List Value) (w : va_W) (sz : Nat) : Array Value → State → Prop :=
  va_Pc av (fun U => U.heap.size = sz ∧ va_P D vwCl w U.heap ∧ va_D (fun _ => True) w ∧ En D k (va_A w sz) U U.heap)
/-- a contract's cells behind it -/
def QB {S : Type} (D : va_G) (w : va_W) (wo : S → va_W) (sz : Nat) : S → State → Prop := fun u t => va_P D vwCl (wo u) t.heap ∧ va_D (va_A w sz) (wo u)
theorem PcW_blind {D : va_G} {k : Nat → ClassId} {av : List Value} {w : va_W} {sz : Nat} : FrameBlind (PcW D k av w sz) := by
  intro a U g mk h
  obtain ⟨h0, h1, h2, h3, h4⟩ := h
  exact ⟨h0, h1, h2, h3, h4.blind⟩
theorem mp_fm {ws wc : va_W} {is : List Nat} (h : is.map (fun i => ws[i]?) = wc.map some) : is.filterMap (fun i => ws[i]?) = wc := by
  have h1 : (is.map (fun i => ws[i]?)).filterMap id = (wc.map some).filterMap id := by rw [h]
  simpa [List.filterMap_map] using h1
theorem preS {D : va_G} {k : Nat → ClassId} {A : Nat → Prop} {s : State} {H : Heap} {locs : List Loc} {W0 w : va_W} {As : List Value} (hP : va_P D vwCl W0 H) (hD : va_D A W0) (hE : En D k A s s.heap) (hS : va_S A s.heap H locs) (hA : ∀ q, s.heap.size ≤ q → A q)
    (isC : List Nat) (hC : isC.map (fun i => W0[i]?) = w.map some) (hn : va_nd isC = true) : PreS s H (PcW D k As w H.size) As :=
  ⟨PcW_blind, fun U hU hW => ⟨rfl, by rw [hU], by rw [hU]; exact hP.sub isC (mp_fm hC), (hD.sub isC hn hC).weaken (fun _ _ _ _ => trivial), hE.call hS (va_free hD hS hA isC hC) hU hW⟩⟩
theorem preV {D : va_G} {k : Nat → ClassId} {A : Nat → Prop} {s : State} {H : Heap} {locs : List Loc} {W0 w : va_W} {b : Nat} {As : List Value} (hP : va_P D vwCl W0 H) (hD : va_D A W0) (hE : En D k A s s.heap) (hS : va_S A s.heap H locs) (hA : ∀ q, s.heap.size ≤ q → A q)
    (isC : List Nat) (hC : isC.map (fun i => W0[i]?) = w.map some) (hn : va_nd isC = true) {C : String} {T : u_T} {N ci q0 : Nat} {fs : List Value} (hc : vwCl[ci]? = some (C, T, N)) (he : W0[q0]? = some (b, .inr (ci, fs))) : PreV s H C b (PcW D k (.ref b :: As) w H.size) As :=
  ⟨PcW_blind, va_recv hE.1 hP hc he, fun U hU hW => ⟨rfl, by rw [hU], by rw [hU]; exact hP.sub isC (mp_fm hC), (hD.sub isC hn hC).weaken (fun _ _ _ _ => trivial), hE.call hS (va_free hD hS hA isC hC) hU hW⟩⟩
theorem W_gen {p : Program} {l : Launch} {e : Env} {R : Room} {s : State} {m : MethodId} {args : Array Value} {below : List Frame} {meth : Method} {c : Code} {H : Heap} {locs : List Loc} {cells slots : Nat} {Q : State → Prop} {g : JFrame} (h : ∀ Q' : State → Prop, Q' = Q → W p l e R s m args below meth c H locs cells slots Q' g) : W p l e R s m args below meth c H locs cells slots Q g := h Q rfl
end
section
variable {p : Program} {l : Launch} {e : Env} {R : Room} {s : State} {m : MethodId} {args : Array Value} {below : List Frame} {meth : Method} {c : Code} {H : Heap} {locs : List Loc} {cells slots : Nat} {Q : State → Prop} {pc : Nat} {ls : Array Slot} {rest : List Value}
variable {D : va_G} {A : Nat → Prop} {H0 : Heap} {W0 w wr : va_W} {mc ms : Nat} {st0 : List Value} {av : Array Value} {locs : List Loc} {S : Type} {wo : S → va_W}
theorem ki {post : Int32 → S → Prop} (hr : va_Run p l e R s m args below meth c H locs cells slots mc ms (F0 m pc ls st0) rest (va_Qi post (QB D w wo H.size) (va_A w H.size) av) (va_A w H.size)) (hP : va_P D vwCl W0 H) (hD : va_D A W0) (hS : va_S A H0 H locs) (hA : ∀ q, H0.size ≤ q → A q)
    (isC isR : List Nat) (hC : isC.map (fun i => W0[i]?) = w.map some) (hR : isR.map (fun i => W0[i]?) = wr.map some) (hn : va_nd isR = true) (hdis : ∀ i ∈ isR, i ∉ isC)
    (kk : ∀ (r : Int32) (u : S) (H1 : Heap) (locs1 : List Loc), post r u → va_P D vwCl (wr ++ wo u) H1 → va_D A (wr ++ wo u) → va_S A H0 H1 locs1 → W p l e R s m args below meth c H1 locs1 (cells + mc) (slots + ms) Q (F0 m (pc + 3) ls (.int r :: rest))) : W p l e R s m args below meth c H locs cells slots Q (F0 m pc ls st0) := by
  have hF := va_free hD hS hA isC hC
  refine va_calli hr hS (fun q _ h => hF q h) hF (fun r u t H1 locs1 ht hvm hw hB hz hk hS1 => ?_)
  obtain ⟨hP1, hD1⟩ := hB
  rw [ht] at hP1
  obtain ⟨a1, a2⟩ := va_join hP hD isC isR hC hR hn hdis hk hF hP1 hD1
  exact kk r u H1 locs1 hw a1 a2 hS1
theorem kl {post : Int64 → S → Prop} (hr : va_Run p l e R s m args below meth c H locs cells slots mc ms (F0 m pc ls st0) rest (va_Ql post (QB D w wo H.size) (va_A w H.size) av) (va_A w H.size)) (hP : va_P D vwCl W0 H) (hD : va_D A W0) (hS : va_S A H0 H locs) (hA : ∀ q, H0.size ≤ q → A q)
    (isC isR : List Nat) (hC : isC.map (fun i => W0[i]?) = w.map some) (hR : isR.map (fun i => W0[i]?) = wr.map some) (hn : va_nd isR = true) (hdis : ∀ i ∈ isR, i ∉ isC)
    (kk : ∀ (r : Int64) (u : S) (H1 : Heap) (locs1 : List Loc), post r u → va_P D vwCl (wr ++ wo u) H1 → va_D A (wr ++ wo u) → va_S A H0 H1 locs1 → W p l e R s m args below meth c H1 locs1 (cells + mc) (slots + ms) Q (F0 m (pc + 3) ls (.long r :: rest))) : W p l e R s m args below meth c H locs cells slots Q (F0 m pc ls st0) := by
  have hF := va_free hD hS hA isC hC
  refine va_calll hr hS (fun q _ h => hF q h) hF (fun r u t H1 locs1 ht hvm hw hB hz hk hS1 => ?_)
  obtain ⟨hP1, hD1⟩ := hB
  rw [ht] at hP1
  obtain ⟨a1, a2⟩ := va_join hP hD isC isR hC hR hn hdis hk hF hP1 hD1
  exact kk r u H1 locs1 hw a1 a2 hS1
theorem kf {post : UInt32 → S → Prop} (hr : va_Run p l e R s m args below meth c H locs cells slots mc ms (F0 m pc ls st0) rest (va_Qf post (QB D w wo H.size) (va_A w H.size) av) (va_A w H.size)) (hP : va_P D vwCl W0 H) (hD : va_D A W0) (hS : va_S A H0 H locs) (hA : ∀ q, H0.size ≤ q → A q)
    (isC isR : List Nat) (hC : isC.map (fun i => W0[i]?) = w.map some) (hR : isR.map (fun i => W0[i]?) = wr.map some) (hn : va_nd isR = true) (hdis : ∀ i ∈ isR, i ∉ isC)
    (kk : ∀ (r : UInt32) (u : S) (H1 : Heap) (locs1 : List Loc), post r u → va_P D vwCl (wr ++ wo u) H1 → va_D A (wr ++ wo u) → va_S A H0 H1 locs1 → W p l e R s m args below meth c H1 locs1 (cells + mc) (slots + ms) Q (F0 m (pc + 3) ls (.float r :: rest))) : W p l e R s m args below meth c H locs cells slots Q (F0 m pc ls st0) := by
  have hF := va_free hD hS hA isC hC
  refine va_callf hr hS (fun q _ h => hF q h) hF (fun r u t H1 locs1 ht hvm hw hB hz hk hS1 => ?_)
  obtain ⟨hP1, hD1⟩ := hB
  rw [ht] at hP1
  obtain ⟨a1, a2⟩ := va_join hP hD isC isR hC hR hn hdis hk hF hP1 hD1
  exact kk r u H1 locs1 hw a1 a2 hS1
theorem kd {post : UInt64 → S → Prop} (hr : va_Run p l e R s m args below meth c H locs cells slots mc ms (F0 m pc ls st0) rest (va_Qd post (QB D w wo H.size) (va_A w H.size) av) (va_A w H.size)) (hP : va_P D vwCl W0 H) (hD : va_D A W0) (hS : va_S A H0 H locs) (hA : ∀ q, H0.size ≤ q → A q)
    (isC isR : List Nat) (hC : isC.map (fun i => W0[i]?) = w.map some) (hR : isR.map (fun i => W0[i]?) = wr.map some) (hn : va_nd isR = true) (hdis : ∀ i ∈ isR, i ∉ isC)
    (kk : ∀ (r : UInt64) (u : S) (H1 : Heap) (locs1 : List Loc), post r u → va_P D vwCl (wr ++ wo u) H1 → va_D A (wr ++ wo u) → va_S A H0 H1 locs1 → W p l e R s m args below meth c H1 locs1 (cells + mc) (slots + ms) Q (F0 m (pc + 3) ls (.double r :: rest))) : W p l e R s m args below meth c H locs cells slots Q (F0 m pc ls st0) := by
  have hF := va_free hD hS hA isC hC
  refine va_calld hr hS (fun q _ h => hF q h) hF (fun r u t H1 locs1 ht hvm hw hB hz hk hS1 => ?_)
  obtain ⟨hP1, hD1⟩ := hB
  rw [ht] at hP1
  obtain ⟨a1, a2⟩ := va_join hP hD isC isR hC hR hn hdis hk hF hP1 hD1
  exact kk r u H1 locs1 hw a1 a2 hS1
theorem kv {post : S → Prop} (hr : va_Run p l e R s m args below meth c H locs cells slots mc ms (F0 m pc ls st0) rest (va_Qv post (QB D w wo H.size) (va_A w H.size) av) (va_A w H.size)) (hP : va_P D vwCl W0 H) (hD : va_D A W0) (hS : va_S A H0 H locs) (hA : ∀ q, H0.size ≤ q → A q)
    (isC isR : List Nat) (hC : isC.map (fun i => W0[i]?) = w.map some) (hR : isR.map (fun i => W0[i]?) = wr.map some) (hn : va_nd isR = true) (hdis : ∀ i ∈ isR, i ∉ isC)
    (kk : ∀ (u : S) (H1 : Heap) (locs1 : List Loc), post u → va_P D vwCl (wr ++ wo u) H1 → va_D A (wr ++ wo u) → va_S A H0 H1 locs1 → W p l e R s m args below meth c H1 locs1 (cells + mc) (slots + ms) Q (F0 m (pc + 3) ls (rest))) : W p l e R s m args below meth c H locs cells slots Q (F0 m pc ls st0) := by
  have hF := va_free hD hS hA isC hC
  refine va_callv hr hS (fun q _ h => hF q h) hF (fun u t H1 locs1 ht hvm hw hB hz hk hS1 => ?_)
  obtain ⟨hP1, hD1⟩ := hB
  rw [ht] at hP1
  obtain ⟨a1, a2⟩ := va_join hP hD isC isR hC hR hn hdis hk hF hP1 hD1
  exact kk u H1 locs1 hw a1 a2 hS1
/-- a call that always throws E: what is thrown, the heap behind it; the cells outside stay -/
def XE (E0 : String) (w : va_W) (sz : Nat) : String → State → State → Prop := vx_X (fun _ : Unit => True) (fun E _ _ => E = E0) (va_A w sz)
theorem kxi {E0 : String} (hr : vx_Run p l e R s m args below meth c H locs cells slots mc ms (F0 m pc ls st0) rest (va_Qi (fun (_ : Int32) (_ : Unit) => False) (fun _ _ => True) (va_A w H.size) av) (XE E0 w H.size) (va_A w H.size)) (hP : va_P D vwCl W0 H) (hD : va_D A W0) (hS : va_S A H0 H locs) (hA : ∀ q, H0.size ≤ q → A q)
    (isC isR : List Nat) (hC : isC.map (fun i => W0[i]?) = w.map some) (hR : isR.map (fun i => W0[i]?) = wr.map some) (hn : va_nd isR = true) (hdis : ∀ i ∈ isR, i ∉ isC)
    (kk : ∀ (ce : Cell) (q9 : Addr) (H1 : Heap) (locs1 : List Loc), va_P D vwCl wr H1 → va_D A wr → va_S A H0 H1 locs1 → H1[q9]? = some ce → ce.vm = .none → s.vm.findClass E0 = some ce.cls → vx_W p l e R s m args below meth c H1 locs1 (cells + mc) (slots + ms) Q (F0 m pc ls rest) q9) : W p l e R s m args below meth c H locs cells slots Q (F0 m pc ls st0) := by
  have hF := va_free hD hS hA isC hC
  refine vx_calli hr hS (fun q _ h => hF q h) hF (fun q _ h => hF q h) (fun E ce q9 u t H1 locs1 ht hvm _ hB hz hk hS1 hc9 hv9 hcl => ?_) (fun _ u _ _ _ _ _ hw => hw.elim)
  cases (show E = E0 from hB)
  have hj := va_join (w1 := []) hP hD isC isR hC hR hn hdis hk hF (fun k q h => by simp at h) ⟨fun i j p q h => by simp at h, fun k q h => by simp at h⟩
  rw [List.append_nil] at hj
  exact kk ce q9 H1 locs1 hj.1 hj.2 hS1 hc9 hv9 hcl
theorem kxl {E0 : String} (hr : vx_Run p l e R s m args below meth c H locs cells slots mc ms (F0 m pc ls st0) rest (va_Ql (fun (_ : Int64) (_ : Unit) => False) (fun _ _ => True) (va_A w H.size) av) (XE E0 w H.size) (va_A w H.size)) (hP : va_P D vwCl W0 H) (hD : va_D A W0) (hS : va_S A H0 H locs) (hA : ∀ q, H0.size ≤ q → A q)
    (isC isR : List Nat) (hC : isC.map (fun i => W0[i]?) = w.map some) (hR : isR.map (fun i => W0[i]?) = wr.map some) (hn : va_nd isR = true) (hdis : ∀ i ∈ isR, i ∉ isC)
    (kk : ∀ (ce : Cell) (q9 : Addr) (H1 : Heap) (locs1 : List Loc), va_P D vwCl wr H1 → va_D A wr → va_S A H0 H1 locs1 → H1[q9]? = some ce → ce.vm = .none → s.vm.findClass E0 = some ce.cls → vx_W p l e R s m args below meth c H1 locs1 (cells + mc) (slots + ms) Q (F0 m pc ls rest) q9) : W p l e R s m args below meth c H locs cells slots Q (F0 m pc ls st0) := by
  have hF := va_free hD hS hA isC hC
  refine vx_calll hr hS (fun q _ h => hF q h) hF (fun q _ h => hF q h) (fun E ce q9 u t H1 locs1 ht hvm _ hB hz hk hS1 hc9 hv9 hcl => ?_) (fun _ u _ _ _ _ _ hw => hw.elim)
  cases (show E = E0 from hB)
  have hj := va_join (w1 := []) hP hD isC isR hC hR hn hdis hk hF (fun k q h => by simp at h) ⟨fun i j p q h => by simp at h, fun k q h => by simp at h⟩
  rw [List.append_nil] at hj
  exact kk ce q9 H1 locs1 hj.1 hj.2 hS1 hc9 hv9 hcl
theorem kxf {E0 : String} (hr : vx_Run p l e R s m args below meth c H locs cells slots mc ms (F0 m pc ls st0) rest (va_Qf (fun (_ : UInt32) (_ : Unit) => False) (fun _ _ => True) (va_A w H.size) av) (XE E0 w H.size) (va_A w H.size)) (hP : va_P D vwCl W0 H) (hD : va_D A W0) (hS : va_S A H0 H locs) (hA : ∀ q, H0.size ≤ q → A q)
    (isC isR : List Nat) (hC : isC.map (fun i => W0[i]?) = w.map some) (hR : isR.map (fun i => W0[i]?) = wr.map some) (hn : va_nd isR = true) (hdis : ∀ i ∈ isR, i ∉ isC)
    (kk : ∀ (ce : Cell) (q9 : Addr) (H1 : Heap) (locs1 : List Loc), va_P D vwCl wr H1 → va_D A wr → va_S A H0 H1 locs1 → H1[q9]? = some ce → ce.vm = .none → s.vm.findClass E0 = some ce.cls → vx_W p l e R s m args below meth c H1 locs1 (cells + mc) (slots + ms) Q (F0 m pc ls rest) q9) : W p l e R s m args below meth c H locs cells slots Q (F0 m pc ls st0) := by
  have hF := va_free hD hS hA isC hC
  refine vx_callf hr hS (fun q _ h => hF q h) hF (fun q _ h => hF q h) (fun E ce q9 u t H1 locs1 ht hvm _ hB hz hk hS1 hc9 hv9 hcl => ?_) (fun _ u _ _ _ _ _ hw => hw.elim)
  cases (show E = E0 from hB)
  have hj := va_join (w1 := []) hP hD isC isR hC hR hn hdis hk hF (fun k q h => by simp at h) ⟨fun i j p q h => by simp at h, fun k q h => by simp at h⟩
  rw [List.append_nil] at hj
  exact kk ce q9 H1 locs1 hj.1 hj.2 hS1 hc9 hv9 hcl
theorem kxd {E0 : String} (hr : vx_Run p l e R s m args below meth c H locs cells slots mc ms (F0 m pc ls st0) rest (va_Qd (fun (_ : UInt64) (_ : Unit) => False) (fun _ _ => True) (va_A w H.size) av) (XE E0 w H.size) (va_A w H.size)) (hP : va_P D vwCl W0 H) (hD : va_D A W0) (hS : va_S A H0 H locs) (hA : ∀ q, H0.size ≤ q → A q)
    (isC isR : List Nat) (hC : isC.map (fun i => W0[i]?) = w.map some) (hR : isR.map (fun i => W0[i]?) = wr.map some) (hn : va_nd isR = true) (hdis : ∀ i ∈ isR, i ∉ isC)
    (kk : ∀ (ce : Cell) (q9 : Addr) (H1 : Heap) (locs1 : List Loc), va_P D vwCl wr H1 → va_D A wr → va_S A H0 H1 locs1 → H1[q9]? = some ce → ce.vm = .none → s.vm.findClass E0 = some ce.cls → vx_W p l e R s m args below meth c H1 locs1 (cells + mc) (slots + ms) Q (F0 m pc ls rest) q9) : W p l e R s m args below meth c H locs cells slots Q (F0 m pc ls st0) := by
  have hF := va_free hD hS hA isC hC
  refine vx_calld hr hS (fun q _ h => hF q h) hF (fun q _ h => hF q h) (fun E ce q9 u t H1 locs1 ht hvm _ hB hz hk hS1 hc9 hv9 hcl => ?_) (fun _ u _ _ _ _ _ hw => hw.elim)
  cases (show E = E0 from hB)
  have hj := va_join (w1 := []) hP hD isC isR hC hR hn hdis hk hF (fun k q h => by simp at h) ⟨fun i j p q h => by simp at h, fun k q h => by simp at h⟩
  rw [List.append_nil] at hj
  exact kk ce q9 H1 locs1 hj.1 hj.2 hS1 hc9 hv9 hcl
theorem kxv {E0 : String} (hr : vx_Run p l e R s m args below meth c H locs cells slots mc ms (F0 m pc ls st0) rest (va_Qv (fun (_ : Unit) => False) (fun _ _ => True) (va_A w H.size) av) (XE E0 w H.size) (va_A w H.size)) (hP : va_P D vwCl W0 H) (hD : va_D A W0) (hS : va_S A H0 H locs) (hA : ∀ q, H0.size ≤ q → A q)
    (isC isR : List Nat) (hC : isC.map (fun i => W0[i]?) = w.map some) (hR : isR.map (fun i => W0[i]?) = wr.map some) (hn : va_nd isR = true) (hdis : ∀ i ∈ isR, i ∉ isC)
    (kk : ∀ (ce : Cell) (q9 : Addr) (H1 : Heap) (locs1 : List Loc), va_P D vwCl wr H1 → va_D A wr → va_S A H0 H1 locs1 → H1[q9]? = some ce → ce.vm = .none → s.vm.findClass E0 = some ce.cls → vx_W p l e R s m args below meth c H1 locs1 (cells + mc) (slots + ms) Q (F0 m pc ls rest) q9) : W p l e R s m args below meth c H locs cells slots Q (F0 m pc ls st0) := by
  have hF := va_free hD hS hA isC hC
  refine vx_callv hr hS (fun q _ h => hF q h) hF (fun q _ h => hF q h) (fun E ce q9 u t H1 locs1 ht hvm _ hB hz hk hS1 hc9 hv9 hcl => ?_) (fun u _ _ _ _ _ hw => hw.elim)
  cases (show E = E0 from hB)
  have hj := va_join (w1 := []) hP hD isC isR hC hR hn hdis hk hF (fun k q h => by simp at h) ⟨fun i j p q h => by simp at h, fun k q h => by simp at h⟩
  rw [List.append_nil] at hj
  exact kk ce q9 H1 locs1 hj.1 hj.2 hS1 hc9 hv9 hcl
end
theorem XE_of {E0 : String} {w : va_W} {s t : State} {A : Nat → Prop} {H : Heap} {locs : List Loc} (hAe : va_A w s.heap.size = A) (hS : va_S A s.heap H locs) (hz : H.size ≤ t.heap.size) (hq : ∀ q : Nat, q < H.size → t.heap[q]? = H[q]?) : XE E0 w s.heap.size E0 s t :=
  ⟨(), trivial, rfl, Nat.le_trans hS.1 hz, fun q h1 h2 => (hq q (Nat.lt_of_lt_of_le h1 hS.1)).trans (hS.2.1 q h1 (by rw [← hAe]; exact h2))⟩
/-- a body with a table of its own that always returns -/
theorem Met_ofWH {l : Launch} {y : MethodName} {ws ws' : List Cond} {rm : Room} {Pc : Array Value → State → Prop} {Qc : Array Value → State → Outcome → State → Prop} {mc ms : Nat} {free : Addr → Prop} {cc : ByteArray} {maxL : Nat} {ret : Option FieldType} {hh : List (Nat × Nat × Nat × Nat)}
    (hy : plainName y.cls = true) (hw : ws = Cond.codeWith y cc maxL ret hh :: ws')
    (body : ∀ p e s m args below meth c s₁, BodyLoose p l y (headSpec ws rm) cc maxL ret e s m args below meth c s₁ → c.maxLocals = maxL → Pc args s →
      W p l e (headSpec ws rm).room s m args below meth c s.heap [] 0 0 (MQ below Qc args s mc ms free) (entryFrame m args maxL)) : Met l y ws rm Pc Qc mc ms free := by
  refine MetFree.of_bodyS (code := cc) (maxLocals := maxL) (ret := ret) hy ?_ ?_
  · intro args s m h hn
    obtain ⟨m9, meth, c, hn9, h1, h2, h3, h4, -, h5, h6, -⟩ := Cond.codeWith_spec (atoms_spec (ws := ws) h _ (by rw [hw]; exact List.mem_cons_self))
    cases hn.symm.trans hn9
    exact ⟨meth, c, h1, h2, h3, h4, h5, h6⟩
  · intro p e s m args below meth c s₁ B hml hP _
    have hh0 : s₁.heap = s.heap := by rw [B.state]; rfl
    obtain ⟨t, a1, o, b1, b2, b3⟩ := body p e s m args below meth c s₁ B hml hP s₁ hh0 (Stand.of_body B)
    exact ⟨t, o, a1, b1, b2, b3⟩
theorem Met_ofWF {l : Launch} {y : MethodName} {ws ws' : List Cond} {rm : Room} {Pc : Array Value → State → Prop} {Qc : Array Value → State → Outcome → State → Prop} {mc ms : Nat} {free : Addr → Prop} {cc : ByteArray} {maxL : Nat} {ret : Option FieldType}
    (hy : plainFor y = true) (hw : ws = Cond.code y cc maxL ret :: ws')
    (body : ∀ p e s m args below meth c s₁, BodyLoose p l y (headSpec ws rm) cc maxL ret e s m args below meth c s₁ → c.maxLocals = maxL → Pc args s →
      W p l e (headSpec ws rm).room s m args below meth c s.heap [] 0 0 (MQ below Qc args s mc ms free) (entryFrame m args maxL)) : Met l y ws rm Pc Qc mc ms free := by
  refine MetFree.of_bodySF (code := cc) (maxLocals := maxL) (ret := ret) hy ?_ ?_
  · intro args s m h hn
    obtain ⟨meth, c, h1, h2, h3, h4, h5, h6, -, -⟩ := Cond.code_spec hn (atoms_spec (ws := ws) h _ (by rw [hw]; exact List.mem_cons_self))
    exact ⟨meth, c, h1, h2, h3, h4, h5, h6⟩
  · intro p e s m args below meth c s₁ B hml hP _
    have hh0 : s₁.heap = s.heap := by rw [B.state]; rfl
    obtain ⟨t, a1, o, b1, b2, b3⟩ := body p e s m args below meth c s₁ B hml hP s₁ hh0 (Stand.of_body B)
    exact ⟨t, o, a1, b1, b2, ⟨b3.1, b3.2⟩⟩
