/-! numbers of the machine, 0.0 or more and finite: by their bits, and in units of the least one -/
def uN (x : UInt64) : Nat := FP.Core.unitsOf FP.Core.b64 x.toNat
def NF (x : UInt64) : Prop := x.toNat < 9218868437227405312
theorem NF.mag {x : UInt64} (h : NF x) : x.toNat % 2 ^ 63 = x.toNat := Nat.mod_eq_of_lt (by unfold NF at h; omega)
theorem NF.fin {x : UInt64} (h : NF x) : FP.Core.DFin x := (FP.Core.fin_bits x).mpr (by rw [h.mag]; exact h)
theorem NF.nn {x : UInt64} (h : NF x) : FP.Core.val64 x ≠ .nan := h.fin.ne_nan
theorem NF.vf {x : UInt64} (h : NF x) : vf_n64 x := fp_vf h.fin.notNaN
theorem vf_lt {x : UInt64} (h : x.toNat ≤ 9218868437227405312) : vf_n64 x := by
  unfold vf_n64
  rw [UInt64.le_iff_toNat_le, FP.Core.mask_toNat, Nat.mod_eq_of_lt (by omega)]
  exact h
theorem NF.shape {x : UInt64} (h : NF x) : ∃ c q, FP.Core.val64 x = .fin false c q ∧ FP.Core.fits FP.Core.b64 (.fin false c q) ∧ FP.Core.zmag FP.Core.b64 (.fin false c q) = uN x := by
  have hm : FP.Core.mag FP.Core.b64 x.toNat = x.toNat := by rw [FP.Core.mag_toNat64]; exact h.mag
  obtain ⟨s, c, q, h1, h2, h3⟩ := FP.Core.fin_of_mag FP.Core.good_b64 (n := x.toNat) (by rw [hm, FP.Core.infBits_b64]; exact h)
  have hs : s = false := by
    have h9 := FP.Core.sign_bits (a := x) (s := s) (Or.inl ⟨c, q, h1⟩)
    unfold NF at h
    cases s with
    | false => rfl
    | true => have := h9.mp rfl; omega
  subst hs
  exact ⟨c, q, h1, h2, by rw [h3, hm]; rfl⟩
theorem rr_bits {z : UInt64} {A B : Nat} {e : Int} (h : FP.Core.val64 z = FP.Core.roundRatio FP.Core.b64 false A B e) : z.toNat < 2 ^ 63 := by
  have h1 : FP.Core.val64 z ≠ .nan := h ▸ FP.Core.roundRatio_ne_nan FP.Core.b64 false A B e
  have h2 := FP.Core.sgn_bits h1
  rw [h, FP.Core.sgn_roundRatio] at h2
  have h3 := of_decide_eq_false h2.symm
  omega
theorem rr_le {z : UInt64} {A B m : Nat} {e e0 : Int} (h : FP.Core.val64 z = FP.Core.roundRatio FP.Core.b64 false A B e) (hB : 0 < B) (h0 : e0 ≤ FP.Core.b64.qmin) (h0e : e0 ≤ e) (hh : FP.Core.inUnits A e e0 ≤ FP.Core.unitsOf FP.Core.b64 m * 2 ^ (FP.Core.b64.qmin - e0).toNat * B) : z.toNat ≤ m := by
  have h1 := FP.Core.mag_le FP.Core.good_b64 (n := z.toNat) (m := m) h hB h0 h0e hh
  rwa [FP.Core.mag_toNat64, Nat.mod_eq_of_lt (rr_bits h)] at h1
theorem rr_ge {z : UInt64} {A B m : Nat} {e e0 : Int} (h : FP.Core.val64 z = FP.Core.roundRatio FP.Core.b64 false A B e) (hB : 0 < B) (h0 : e0 ≤ FP.Core.b64.qmin) (h0e : e0 ≤ e) (hm : m ≤ 9218868437227405312) (hh : FP.Core.unitsOf FP.Core.b64 m * 2 ^ (FP.Core.b64.qmin - e0).toNat * B ≤ FP.Core.inUnits A e e0) : m ≤ z.toNat := by
  have h1 := FP.Core.mag_ge FP.Core.good_b64 (n := z.toNat) (m := m) h hB h0 h0e (by rw [FP.Core.infBits_b64]; exact hm) hh
  rwa [FP.Core.mag_toNat64, Nat.mod_eq_of_lt (rr_bits h)] at h1
theorem uN_pos {x : UInt64} : 0 < uN x ↔ 0 < x.toNat := by
  have := FP.Core.unitsOf_eq_zero (f := FP.Core.b64) (m := x.toNat)
  unfold uN; omega
theorem uN_le {x y : UInt64} : uN x ≤ uN y ↔ x.toNat ≤ y.toNat := FP.Core.unitsOf_le_iff
theorem uN_lt {x y : UInt64} : uN x < uN y ↔ x.toNat < y.toNat := FP.Core.unitsOf_lt_iff
/-! sums -/
theorem add_shape {x y : UInt64} (hx : NF x) (hy : NF y) (hp : 0 < uN x + uN y) : ∃ (v : Nat) (e : Int), FP.Core.val64 (FP.dadd x y) = FP.Core.roundRatio FP.Core.b64 false v 1 e ∧ FP.Core.b64.qmin ≤ e ∧ FP.Core.inUnits v e FP.Core.b64.qmin = uN x + uN y := by
  obtain ⟨c, q, x1, x2, x3⟩ := hx.shape
  obtain ⟨d, r, y1, y2, y3⟩ := hy.shape
  obtain ⟨sg, v, e, p1, p2, p3⟩ := FP.Core.sum_units x2 y2
  have hz : FP.Core.signed sg (FP.Core.inUnits v e FP.Core.b64.qmin) = ((uN x + uN y : Nat) : Int) := by
    rw [p3]; unfold FP.Core.zval; rw [x3, y3]; simp [FP.Core.signed, FP.Core.sgn]
  have hsg : sg = false ∧ FP.Core.inUnits v e FP.Core.b64.qmin = uN x + uN y := by
    cases sg with
    | false => exact ⟨rfl, by simp only [FP.Core.signed, Bool.false_eq_true, if_false] at hz; omega⟩
    | true => simp only [FP.Core.signed, if_true] at hz; omega
  obtain ⟨rfl, hu⟩ := hsg
  refine ⟨v, e, ?_, p2, hu⟩
  have := FP.Core.val64_dadd x y
  rw [x1, y1, p1] at this
  exact this
theorem add_le {x y : UInt64} (hx : NF x) (hy : NF y) (hp : 0 < uN x + uN y) {m : Nat} (h : uN x + uN y ≤ FP.Core.unitsOf FP.Core.b64 m) : (FP.dadd x y).toNat ≤ m := by
  obtain ⟨v, e, h1, h2, h3⟩ := add_shape hx hy hp
  refine rr_le h1 (by decide) (Int.le_refl _) h2 ?_
  rw [h3, Int.sub_self, Int.toNat_zero, Nat.pow_zero, Nat.mul_one, Nat.mul_one]; exact h
theorem add_ge {x y : UInt64} (hx : NF x) (hy : NF y) (hp : 0 < uN x + uN y) {m : Nat} (hm : m ≤ 9218868437227405312) (h : FP.Core.unitsOf FP.Core.b64 m ≤ uN x + uN y) : m ≤ (FP.dadd x y).toNat := by
  obtain ⟨v, e, h1, h2, h3⟩ := add_shape hx hy hp
  refine rr_ge h1 (by decide) (Int.le_refl _) h2 hm ?_
  rw [h3, Int.sub_self, Int.toNat_zero, Nat.pow_zero, Nat.mul_one, Nat.mul_one]; exact h
/-! products -/
theorem pow1074 : (FP.Core.b64.qmin - 2 * FP.Core.b64.qmin).toNat = 1074 := by decide
theorem mul_shape {x y : UInt64} (hx : NF x) (hy : NF y) : ∃ (v : Nat) (e : Int), FP.Core.val64 (FP.dmul x y) = FP.Core.roundRatio FP.Core.b64 false v 1 e ∧ 2 * FP.Core.b64.qmin ≤ e ∧ FP.Core.inUnits v e (2 * FP.Core.b64.qmin) = uN x * uN y := by
  obtain ⟨c, q, x1, x2, x3⟩ := hx.shape
  obtain ⟨d, r, y1, y2, y3⟩ := hy.shape
  obtain ⟨p1, p2, p3⟩ := FP.Core.product_units x2 y2
  refine ⟨c * d, q + r, ?_, p2, by rw [p3, x3, y3]⟩
  have := FP.Core.val64_dmul x y
  rw [x1, y1, p1] at this
  exact this
theorem mul_le {x y : UInt64} (hx : NF x) (hy : NF y) {m : Nat} (h : uN x * uN y ≤ FP.Core.unitsOf FP.Core.b64 m * 2 ^ 1074) : (FP.dmul x y).toNat ≤ m := by
  obtain ⟨v, e, h1, h2, h3⟩ := mul_shape hx hy
  refine rr_le h1 (by decide) (e0 := 2 * FP.Core.b64.qmin) (by decide) h2 ?_
  rw [h3, Nat.mul_one, pow1074]; exact h
theorem mul_ge {x y : UInt64} (hx : NF x) (hy : NF y) {m : Nat} (hm : m ≤ 9218868437227405312) (h : FP.Core.unitsOf FP.Core.b64 m * 2 ^ 1074 ≤ uN x * uN y) : m ≤ (FP.dmul x y).toNat := by
  obtain ⟨v, e, h1, h2, h3⟩ := mul_shape hx hy
  refine rr_ge h1 (by decide) (e0 := 2 * FP.Core.b64.qmin) (by decide) h2 hm ?_
  rw [h3, Nat.mul_one, pow1074]; exact h
/-! quotients -/
theorem div_shape {x y : UInt64} (hx : NF x) (hy : NF y) (h0 : 0 < uN y) : ∃ (c d : Nat) (e r : Int), FP.Core.val64 (FP.ddiv x y) = FP.Core.roundRatio FP.Core.b64 false c d e ∧ 0 < d ∧ 2 * FP.Core.b64.qmin - r ≤ FP.Core.b64.qmin ∧ 2 * FP.Core.b64.qmin - r ≤ e ∧ FP.Core.inUnits c e (2 * FP.Core.b64.qmin - r) = uN x * 2 ^ 1074 ∧ 2 ^ (FP.Core.b64.qmin - (2 * FP.Core.b64.qmin - r)).toNat * d = uN y := by
  obtain ⟨c, q, x1, x2, x3⟩ := hx.shape
  obtain ⟨d, r, y1, y2, y3⟩ := hy.shape
  have hd0 : d ≠ 0 := by
    rintro rfl
    have h1 : FP.Core.zmag FP.Core.b64 (.fin false 0 r) = 0 := Nat.zero_mul _
    omega
  have hx1 := x2.2.1
  have hy1 := y2.2.1
  have hq : FP.Core.b64.qmin = -1074 := FP.Core.qmin_b64
  refine ⟨c, d, q - r, r, ?_, by omega, by omega, by omega, ?_, ?_⟩
  · have := FP.Core.val64_ddiv x y
    rw [x1, y1] at this
    rw [this]
    simp only [FP.Core.quotient, if_neg hd0]
    rfl
  · rw [← x3]
    show c * _ = c * _ * _
    rw [Nat.mul_assoc, ← Nat.pow_add]; congr 2; omega
  · rw [← y3]
    show _ = d * _
    rw [Nat.mul_comm]; congr 2; omega
theorem div_le {x y : UInt64} (hx : NF x) (hy : NF y) (h0 : 0 < uN y) {m : Nat} (h : uN x * 2 ^ 1074 ≤ FP.Core.unitsOf FP.Core.b64 m * uN y) : (FP.ddiv x y).toNat ≤ m := by
  obtain ⟨c, d, e, r, h1, h2, h3, h4, h5, h6⟩ := div_shape hx hy h0
  refine rr_le h1 h2 h3 h4 ?_
  rw [h5, Nat.mul_assoc, h6]; exact h
theorem div_ge {x y : UInt64} (hx : NF x) (hy : NF y) (h0 : 0 < uN y) {m : Nat} (hm : m ≤ 9218868437227405312) (h : FP.Core.unitsOf FP.Core.b64 m * uN y ≤ uN x * 2 ^ 1074) : m ≤ (FP.ddiv x y).toNat := by
  obtain ⟨c, d, e, r, h1, h2, h3, h4, h5, h6⟩ := div_shape hx hy h0
  refine rr_ge h1 h2 h3 h4 hm ?_
  rw [h5, Nat.mul_assoc, h6]; exact h
/-! whole numbers -/
theorem uN_whole {x : UInt64} {n : Nat} (hn : 0 < n) (hi : FP.Core.DInt n x) (hf : FP.Core.DFin x) : NF x ∧ uN x = n * 2 ^ 1074 := by
  have hz := FP.Core.DInt_zval hi
  have hnn := FP.Core.DInt_ne_nan hi
  have hone : (FP.Core.one64 : Int) = ((2 ^ 1074 : Nat) : Int) := rfl
  have hb : x.toNat < 2 ^ 63 := by
    refine Nat.lt_of_not_le fun h9 => ?_
    have h1 := FP.Core.zval_nonpos hnn h9
    rw [hz] at h1
    have h2 : (0 : Int) < (n : Int) * (FP.Core.one64 : Int) := Int.mul_pos (by omega) (by rw [hone]; exact Int.natCast_pos.mpr (Nat.two_pow_pos _))
    omega
  have hNF : NF x := by
    have := (FP.Core.fin_bits x).mp hf
    rw [Nat.mod_eq_of_lt hb] at this
    exact this
  refine ⟨hNF, ?_⟩
  obtain ⟨c, q, h1, h2, h3⟩ := hNF.shape
  rw [h1] at hz
  unfold FP.Core.zval at hz
  rw [h3] at hz
  simp only [FP.Core.signed, FP.Core.sgn, Bool.false_eq_true, if_false] at hz
  rw [hone, ← Int.natCast_mul] at hz
  exact Int.ofNat.inj hz
theorem uN_zero : uN 0 = 0 := FP.Core.unitsOf_zero FP.Core.b64
theorem NF_zero : NF 0 := by unfold NF; decide
theorem uN_i2d {n : Nat} (h : n < 2 ^ 31) : NF (FP.i2d (nI n)) ∧ uN (FP.i2d (nI n)) = n * 2 ^ 1074 := by
  rcases Nat.eq_zero_or_pos n with h0 | h0
  · subst h0
    rw [show FP.i2d (nI 0) = 0 by decide +kernel, uN_zero, Nat.zero_mul]
    exact ⟨NF_zero, rfl⟩
  · have hi := FP.Core.i2d_int (nI n)
    rw [nI_toInt h] at hi
    exact uN_whole h0 hi (FP.Core.i2d_fin _)
theorem uN_l2d {n : Nat} (h : n ≤ 2 ^ 53) : NF (FP.l2d (lN n)) ∧ uN (FP.l2d (lN n)) = n * 2 ^ 1074 := by
  have ht : (lN n).toInt = n := Int64.toInt_ofNat_of_lt (by omega)
  rcases Nat.eq_zero_or_pos n with h0 | h0
  · subst h0
    rw [show FP.l2d (lN 0) = 0 by decide +kernel, uN_zero, Nat.zero_mul]
    exact ⟨NF_zero, rfl⟩
  · have hi := FP.Core.l2d_int (a := lN n) (by rw [ht]; omega)
    rw [ht] at hi
    exact uN_whole h0 hi (FP.Core.l2d_fin _)
/-! within powers of two: by the numbers of the exponents, 1023 is 1.0 -/
theorem uN_start {K : Nat} (h : 1 ≤ K) : FP.Core.unitsOf FP.Core.b64 (K * 2 ^ 52) = 2 ^ (51 + K) := by
  have := FP.Core.unitsOf_start (f := FP.Core.b64) h
  rw [FP.Core.tails_b64] at this
  rw [this, ← Nat.pow_add]; congr 1; omega
def Rg (a b : Nat) (x : UInt64) : Prop := NF x ∧ 2 ^ (51 + a) ≤ uN x ∧ uN x ≤ 2 ^ (51 + b)
theorem Rg.pos {a b : Nat} {x : UInt64} (h : Rg a b x) : 0 < uN x := Nat.lt_of_lt_of_le (Nat.two_pow_pos _) h.2.1
theorem Rg.le {a b : Nat} {x : UInt64} (h : Rg a b x) : a ≤ b := by
  have := (Nat.pow_le_pow_iff_right (a := 2) (by decide)).mp (Nat.le_trans h.2.1 h.2.2)
  omega
theorem Rg.mono {a b a' b' : Nat} {x : UInt64} (h : Rg a b x) (h1 : a' ≤ a) (h2 : b ≤ b') : Rg a' b' x := ⟨h.1, Nat.le_trans (Nat.pow_le_pow_right (by decide) (by omega)) h.2.1, Nat.le_trans h.2.2 (Nat.pow_le_pow_right (by decide) (by omega))⟩
theorem NF_of_le {x : UInt64} {b : Nat} (hb : b ≤ 2046) (h : x.toNat ≤ b * 2 ^ 52) : NF x := by unfold NF; omega
theorem uN_ub {x : UInt64} {b : Nat} (h1 : 1 ≤ b) (h : x.toNat ≤ b * 2 ^ 52) : uN x ≤ 2 ^ (51 + b) := by rw [← uN_start h1]; exact FP.Core.unitsOf_le_iff.mpr h
theorem uN_lb {x : UInt64} {a : Nat} (h1 : 1 ≤ a) (h : a * 2 ^ 52 ≤ x.toNat) : 2 ^ (51 + a) ≤ uN x := by rw [← uN_start h1]; exact FP.Core.unitsOf_le_iff.mpr h
/-- at most 2^b, perhaps 0.0 -/
def Ub (b : Nat) (x : UInt64) : Prop := NF x ∧ uN x ≤ 2 ^ (51 + b)
theorem Rg.ub {a b : Nat} {x : UInt64} (h : Rg a b x) : Ub b x := ⟨h.1, h.2.2⟩
theorem Ub.mono {b b' : Nat} {x : UInt64} (h : Ub b x) (h2 : b ≤ b') : Ub b' x := ⟨h.1, Nat.le_trans h.2 (Nat.pow_le_pow_right (by decide) (by omega))⟩
theorem Ub_zero (b : Nat) : Ub b 0 := ⟨NF_zero, by rw [uN_zero]; exact Nat.zero_le _⟩
theorem eq_zero_of {x : UInt64} (h : uN x = 0) : x = 0 := by
  have h1 : ¬ 0 < x.toNat := fun z => by have := uN_pos.mpr z; omega
  exact UInt64.toNat.inj (by rw [show (0 : UInt64).toNat = 0 from rfl]; omega)
theorem add_zero {x : UInt64} (h : NF x) : FP.dadd x 0 = x := FP.Core.dadd_zero h.nn (fun z => by rw [z] at h; exact absurd h (by unfold NF; decide))
theorem zero_add {x : UInt64} (h : NF x) : FP.dadd 0 x = x := by
  have := FP.Core.dadd_comm 0 x
  exact this.trans (add_zero h)
theorem add_Ub {x y : UInt64} {b b' : Nat} (hx : Ub b x) (hy : Ub b' y) (hb : 1 ≤ max b b') (hb2 : max b b' ≤ 2045) : Ub (max b b' + 1) (FP.dadd x y) := by
  by_cases hp : 0 < uN x + uN y
  · have h1 := (hx.mono (Nat.le_max_left b b')).2
    have h2 := (hy.mono (Nat.le_max_right b b')).2
    have h3 := add_le hx.1 hy.1 hp (m := (max b b' + 1) * 2 ^ 52) (by rw [uN_start (by omega), show 51 + (max b b' + 1) = (51 + max b b') + 1 by omega, Nat.pow_succ]; omega)
    exact ⟨NF_of_le (by omega) h3, uN_ub (by omega) h3⟩
  · rw [eq_zero_of (x := x) (by omega), eq_zero_of (x := y) (by omega), add_zero NF_zero]
    exact Ub_zero _
/-- a sum is no less than each of the two -/
theorem add_grow {x y : UInt64} (hx : NF x) (hy : NF y) : uN x ≤ uN (FP.dadd x y) ∧ uN y ≤ uN (FP.dadd x y) := by
  by_cases hp : 0 < uN x + uN y
  · exact ⟨uN_le.mpr (add_ge hx hy hp (by unfold NF at hx; omega) (by show uN x ≤ _; omega)), uN_le.mpr (add_ge hx hy hp (by unfold NF at hy; omega) (by show uN y ≤ _; omega))⟩
  · omega
theorem mul_Ub {x y : UInt64} {b b' : Nat} (hx : Ub b x) (hy : Ub b' y) (hb : 1024 ≤ b + b') (hb2 : b + b' ≤ 3069) : Ub (b + b' - 1023) (FP.dmul x y) := by
  have h1 : uN x * uN y ≤ 2 ^ (51 + b) * 2 ^ (51 + b') := Nat.mul_le_mul hx.2 hy.2
  have h3 := mul_le hx.1 hy.1 (m := (b + b' - 1023) * 2 ^ 52) (by rw [uN_start (by omega), ← Nat.pow_add]; rw [← Nat.pow_add] at h1; exact Nat.le_trans h1 (Nat.pow_le_pow_right (by decide) (by omega)))
  exact ⟨NF_of_le (by omega) h3, uN_ub (by omega) h3⟩
theorem mul_Rg {x y : UInt64} {a b a' b' : Nat} (hx : Rg a b x) (hy : Rg a' b' y) (ha : 1024 ≤ a + a') (hb2 : b + b' ≤ 3069) : Rg (a + a' - 1023) (b + b' - 1023) (FP.dmul x y) := by
  have hab := hx.le
  have hab' := hy.le
  obtain ⟨u1, u2⟩ := mul_Ub hx.ub hy.ub (by omega) hb2
  have h1 : 2 ^ (51 + a) * 2 ^ (51 + a') ≤ uN x * uN y := Nat.mul_le_mul hx.2.1 hy.2.1
  have h3 := mul_ge hx.1 hy.1 (m := (a + a' - 1023) * 2 ^ 52) (by omega) (by rw [uN_start (by omega), ← Nat.pow_add]; rw [← Nat.pow_add] at h1; exact Nat.le_trans (Nat.pow_le_pow_right (by decide) (by omega)) h1)
  exact ⟨u1, uN_lb (by omega) h3, u2⟩
theorem div_Ub {x y : UInt64} {b a' b' : Nat} (hx : Ub b x) (hy : Rg a' b' y) (hb : a' ≤ b + 1022) (hb2 : b ≤ a' + 1023) : Ub (b + 1023 - a') (FP.ddiv x y) := by
  have h3 := div_le hx.1 hy.1 hy.pos (m := (b + 1023 - a') * 2 ^ 52) (by
    rw [uN_start (by omega)]
    calc uN x * 2 ^ 1074 ≤ 2 ^ (51 + b) * 2 ^ 1074 := Nat.mul_le_mul_right _ hx.2
      _ = 2 ^ (51 + (b + 1023 - a')) * 2 ^ (51 + a') := by rw [← Nat.pow_add, ← Nat.pow_add]; congr 1; omega
      _ ≤ _ := Nat.mul_le_mul_left _ hy.2.1)
  exact ⟨NF_of_le (by omega) h3, uN_ub (by omega) h3⟩
theorem div_Rg {x y : UInt64} {a b a' b' : Nat} (hx : Rg a b x) (hy : Rg a' b' y) (hb : b' ≤ a + 1022) (hb2 : b ≤ a' + 1023) : Rg (a + 1023 - b') (b + 1023 - a') (FP.ddiv x y) := by
  have hab := hx.le
  have hab' := hy.le
  obtain ⟨u1, u2⟩ := div_Ub hx.ub hy (by omega) hb2
  have h3 := div_ge hx.1 hy.1 hy.pos (m := (a + 1023 - b') * 2 ^ 52) (by omega) (by
    rw [uN_start (by omega)]
    calc 2 ^ (51 + (a + 1023 - b')) * uN y ≤ 2 ^ (51 + (a + 1023 - b')) * 2 ^ (51 + b') := Nat.mul_le_mul_left _ hy.2.2
      _ = 2 ^ (51 + a) * 2 ^ 1074 := by rw [← Nat.pow_add, ← Nat.pow_add]; congr 1; omega
      _ ≤ _ := Nat.mul_le_mul_right _ hx.2.1)
  exact ⟨u1, uN_lb (by omega) h3, u2⟩
/-! comparisons -/
theorem cmp_uN {x y : UInt64} (hx : NF x) (hy : NF y) : (Dlt x y ↔ uN x < uN y) ∧ (Deq x y ↔ uN x = uN y) ∧ (Dgt x y ↔ uN y < uN x) := by
  have h := FP.Core.mono_bits hx.nn hy.nn (by unfold NF at hx; omega) (by unfold NF at hy; omega)
  refine ⟨h.1.trans uN_lt.symm, h.2.1.trans ?_, h.2.2.trans uN_lt.symm⟩
  have h1 := uN_le (x := x) (y := y)
  have h2 := uN_le (x := y) (y := x)
  omega
theorem gt0 {x : UInt64} (hx : NF x) : Dgt x 0 ↔ 0 < uN x := by rw [(cmp_uN hx NF_zero).2.2, uN_zero]
theorem le0 {x : UInt64} (hx : NF x) : Dle x 0 ↔ uN x = 0 := by
  have h := cmp_uN hx NF_zero
  rw [uN_zero] at h
  constructor
  · rintro (q | q)
    · have := h.1.mp q; omega
    · exact h.2.1.mp q
  · exact fun q => Or.inr (h.2.1.mpr q)
theorem NF.P0 {x : UInt64} (h : NF x) : P0 x := by
  rcases Nat.eq_zero_or_pos (uN x) with q | q
  · exact Or.inl (eq_zero_of q)
  · exact Or.inr ((gt0 h).mpr q)
theorem le_uN {x y : UInt64} (hx : NF x) (hy : NF y) : Dle x y ↔ uN x ≤ uN y := by
  have h := cmp_uN hx hy
  constructor
  · rintro (q | q)
    · have := h.1.mp q; omega
    · have := h.2.1.mp q; omega
  · intro q
    rcases Nat.lt_or_eq_of_le q with z | z
    · exact Or.inl (h.1.mpr z)
    · exact Or.inr (h.2.1.mpr z)
theorem ge_uN {x y : UInt64} (hx : NF x) (hy : NF y) : Dge x y ↔ uN y ≤ uN x := by
  have h := cmp_uN hx hy
  constructor
  · rintro (q | q)
    · have := h.2.2.mp q; omega
    · have := h.2.1.mp q; omega
  · intro q
    rcases Nat.lt_or_eq_of_le q with z | z
    · exact Or.inl (h.2.2.mpr z)
    · exact Or.inr (h.2.1.mpr z.symm)
