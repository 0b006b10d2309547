/-! numbers of the machine: sums and means of numbers within powers of two, rates, shares -/
theorem unitsOf_up {m : Nat} (h : 2 ^ 52 ≤ m) (k : Nat) : FP.Core.unitsOf FP.Core.b64 (m + k * 2 ^ 52) = 2 ^ k * FP.Core.unitsOf FP.Core.b64 m := by
  have h1 : (m + k * 2 ^ 52) % 2 ^ 52 = m % 2 ^ 52 := Nat.add_mul_mod_self_right _ _ _
  have h2 : (m + k * 2 ^ 52) / 2 ^ 52 = m / 2 ^ 52 + k := Nat.add_mul_div_right _ _ (by decide)
  have h3 : 1 ≤ m / 2 ^ 52 := (Nat.le_div_iff_mul_le (by decide)).mpr (by omega)
  unfold FP.Core.unitsOf
  rw [FP.Core.tails_b64, if_neg (by omega), if_neg (by omega), h1, h2, show m / 2 ^ 52 + k - 1 = k + (m / 2 ^ 52 - 1) by omega, Nat.pow_add]
  ac_rfl
theorem mult_ex {n a : Nat} (h0 : 0 < n) (hn : n ≤ 16) (ha : 1 ≤ a) (ha2 : a ≤ 2040) : ∃ m : Nat, m ≤ 9218868437227405312 ∧ FP.Core.unitsOf FP.Core.b64 m = n * 2 ^ (51 + a) := by
  obtain ⟨h1, h2⟩ := uN_i2d (n := n) (by omega)
  have hlo : 1023 * 2 ^ 52 ≤ (FP.i2d (nI n)).toNat := by
    refine (FP.Core.unitsOf_le_iff (f := FP.Core.b64)).mp ?_
    rw [uN_start (by decide)]
    show _ ≤ uN _
    rw [h2]
    exact Nat.le_mul_of_pos_left _ h0
  have hhi : (FP.i2d (nI n)).toNat ≤ 1027 * 2 ^ 52 := by
    refine (FP.Core.unitsOf_le_iff (f := FP.Core.b64)).mp ?_
    rw [uN_start (by decide)]
    show uN _ ≤ _
    rw [h2, show 51 + 1027 = 4 + 1074 by decide, Nat.pow_add 2 4]
    exact Nat.mul_le_mul_right _ (by omega)
  have hu : FP.Core.unitsOf FP.Core.b64 (FP.i2d (nI n)).toNat = n * 2 ^ 1074 := h2
  generalize (FP.i2d (nI n)).toNat = z at hlo hhi hu
  rcases Nat.lt_or_ge a 1023 with h | h
  · refine ⟨z - (1023 - a) * 2 ^ 52, by omega, ?_⟩
    have h4 := unitsOf_up (m := z - (1023 - a) * 2 ^ 52) (by omega) (1023 - a)
    have e : n * 2 ^ 1074 = 2 ^ (1023 - a) * (n * 2 ^ (51 + a)) := by rw [Nat.mul_left_comm, ← Nat.pow_add, show 1023 - a + (51 + a) = 1074 by omega]
    have e3 : z - (1023 - a) * 2 ^ 52 + (1023 - a) * 2 ^ 52 = z := by omega
    rw [e3] at h4
    exact (Nat.eq_of_mul_eq_mul_left (Nat.two_pow_pos (1023 - a)) (e.symm.trans (hu.symm.trans h4))).symm
  · refine ⟨z + (a - 1023) * 2 ^ 52, by omega, ?_⟩
    rw [unitsOf_up (by omega), hu, show 51 + a = (a - 1023) + 1074 by omega, Nat.pow_add]
    exact Nat.mul_left_comm _ _ _
theorem mult_NF {n b : Nat} (hn : n ≤ 16) (hb : b ≤ 2040) {x : UInt64} (h1 : 1 ≤ b) (h : ∀ m : Nat, FP.Core.unitsOf FP.Core.b64 m = n * 2 ^ (51 + b) → x.toNat ≤ m) (h0 : 0 < n) : NF x ∧ uN x ≤ n * 2 ^ (51 + b) := by
  obtain ⟨m, k1, k2⟩ := mult_ex h0 hn h1 hb
  have h2 := h m k2
  refine ⟨?_, by rw [← k2]; exact FP.Core.unitsOf_le_iff.mpr h2⟩
  have h3 : m ≤ 2045 * 2 ^ 52 := by
    refine (FP.Core.unitsOf_le_iff (f := FP.Core.b64)).mp ?_
    rw [k2, uN_start (by decide), show 51 + 2045 = 5 + (51 + 2040) by decide, Nat.pow_add 2 5]
    exact Nat.mul_le_mul (by omega) (Nat.pow_le_pow_right (by decide) (by omega))
  unfold NF; omega
/-- a sum of n numbers between 2^a and 2^b lies between n 2^a and n 2^b -/
theorem mS_mul {M : Nat → Bool} {f : Nat → UInt64} {k0 a b n : Nat} (hn : n ≤ 16) (ha : 1 ≤ a) (hb1 : 1 ≤ b) (hb : b ≤ 2040) (h : ∀ j, j < n → M (k0 + j) = true → NF (f (k0 + j)) ∧ (2 ^ (51 + a) ≤ uN (f (k0 + j))) ∧ uN (f (k0 + j)) ≤ 2 ^ (51 + b)) (hab : a ≤ 2040) :
    ∀ j, j ≤ n → NF (mS M f k0 j) ∧ mN M k0 j * 2 ^ (51 + a) ≤ uN (mS M f k0 j) ∧ uN (mS M f k0 j) ≤ mN M k0 j * 2 ^ (51 + b)
  | 0, _ => by
    refine ⟨NF_zero, ?_, ?_⟩ <;> show _ ≤ _ <;> simp [mN, mS, uN_zero]
  | j + 1, hj => by
    obtain ⟨i1, i2, i3⟩ := mS_mul hn ha hb1 hb h hab j (by omega)
    by_cases hM : M (k0 + j) = true
    · obtain ⟨f1, f2, f3⟩ := h j (by omega) hM
      have hc := mN_le (M := M) (k0 := k0) j
      have e1 : mS M f k0 (j + 1) = FP.dadd (mS M f k0 j) (f (k0 + j)) := by show (if _ then _ else _) = _; rw [if_pos hM]
      have e2 : mN M k0 (j + 1) = mN M k0 j + 1 := by show (if _ then _ else _) = _; rw [if_pos hM]
      have hp : 0 < uN (mS M f k0 j) + uN (f (k0 + j)) := by have := Nat.two_pow_pos (51 + a); omega
      rw [e1, e2]
      obtain ⟨m, k1, k2⟩ := mult_ex (n := mN M k0 j + 1) (a := a) (by omega) (by omega) ha hab
      have hlo := add_ge i1 f1 hp k1 (by rw [k2, Nat.add_mul, Nat.one_mul]; omega)
      obtain ⟨n1, n2⟩ := mult_NF (n := mN M k0 j + 1) (b := b) (x := FP.dadd (mS M f k0 j) (f (k0 + j))) (by omega) hb hb1 (fun m hm => add_le i1 f1 hp (by rw [hm, Nat.add_mul, Nat.one_mul]; omega)) (by omega)
      exact ⟨n1, by rw [← k2]; exact FP.Core.unitsOf_le_iff.mpr hlo, n2⟩
    · have e1 : mS M f k0 (j + 1) = mS M f k0 j := by show (if _ then _ else _) = _; rw [if_neg hM]
      have e2 : mN M k0 (j + 1) = mN M k0 j := by show (if _ then _ else _) = _; rw [if_neg hM]
      rw [e1, e2]; exact ⟨i1, i2, i3⟩
/-- a mean of them lies between 2^a and 2^b -/
theorem mean_Rg {S : UInt64} {n a b : Nat} (h0 : 0 < n) (hn : n ≤ 16) (ha : 1 ≤ a) (hb : b ≤ 2040) (hS : NF S) (h1 : n * 2 ^ (51 + a) ≤ uN S) (h2 : uN S ≤ n * 2 ^ (51 + b)) : Rg a b (FP.ddiv S (FP.i2d (nI n))) := by
  obtain ⟨k1, k2⟩ := uN_i2d (n := n) (by omega)
  have hp : 0 < uN (FP.i2d (nI n)) := by rw [k2]; exact Nat.mul_pos h0 (Nat.two_pow_pos _)
  have hab : a ≤ b := by
    have := Nat.le_of_mul_le_mul_left (Nat.le_trans h1 h2) h0
    have := (Nat.pow_le_pow_iff_right (a := 2) (by decide)).mp this
    omega
  have hu := div_le hS k1 hp (m := b * 2 ^ 52) (by
    rw [uN_start (by omega), k2, ← Nat.mul_assoc, Nat.mul_comm (2 ^ (51 + b))]
    exact Nat.mul_le_mul_right _ h2)
  have hl := div_ge hS k1 hp (m := a * 2 ^ 52) (by omega) (by
    rw [uN_start (by omega), k2, ← Nat.mul_assoc, Nat.mul_comm (2 ^ (51 + a))]
    exact Nat.mul_le_mul_right _ h1)
  exact ⟨NF_of_le (by omega) hu, uN_lb ha hl, uN_ub (by omega) hu⟩
/-- n over a sum of n of them -/
theorem harm_Rg {S : UInt64} {n a b : Nat} (h0 : 0 < n) (hn : n ≤ 16) (ha : 1 ≤ a) (hb : b ≤ 2040) (hS : NF S) (h1 : n * 2 ^ (51 + a) ≤ uN S) (h2 : uN S ≤ n * 2 ^ (51 + b)) (hab : b ≤ 2045) (ha2 : 6 ≤ a) : Rg (2046 - b) (2046 - a) (FP.ddiv (FP.i2d (nI n)) S) := by
  obtain ⟨k1, k2⟩ := uN_i2d (n := n) (by omega)
  have hp : 0 < uN S := Nat.lt_of_lt_of_le (Nat.mul_pos h0 (Nat.two_pow_pos _)) h1
  have hab : a ≤ b := by
    have := Nat.le_of_mul_le_mul_left (Nat.le_trans h1 h2) h0
    have := (Nat.pow_le_pow_iff_right (a := 2) (by decide)).mp this
    omega
  have hu := div_le k1 hS hp (m := (2046 - a) * 2 ^ 52) (by
    rw [uN_start (by omega), k2]
    calc n * 2 ^ 1074 * 2 ^ 1074 = 2 ^ (51 + (2046 - a)) * (n * 2 ^ (51 + a)) := by
          rw [Nat.mul_assoc, ← Nat.pow_add, Nat.mul_left_comm, ← Nat.pow_add]; congr 2; omega
      _ ≤ _ := Nat.mul_le_mul_left _ h1)
  have hl := div_ge k1 hS hp (m := (2046 - b) * 2 ^ 52) (by omega) (by
    rw [uN_start (by omega), k2]
    calc 2 ^ (51 + (2046 - b)) * uN S ≤ 2 ^ (51 + (2046 - b)) * (n * 2 ^ (51 + b)) := Nat.mul_le_mul_left _ h2
      _ = n * 2 ^ 1074 * 2 ^ 1074 := by
          rw [Nat.mul_assoc, ← Nat.pow_add, Nat.mul_left_comm, ← Nat.pow_add]; congr 2; omega)
  exact ⟨NF_of_le (by omega) hu, uN_lb (by omega) hl, uN_ub (by omega) hu⟩
/-- a sum is at most twice the greater one -/
theorem add_dbl {x y : UInt64} (hx : NF x) (hy : NF y) {B : Nat} (h1 : uN x ≤ B) (h2 : uN y ≤ B) (h : 2 ^ 52 ≤ x.toNat ∨ 2 ^ 52 ≤ y.toNat) : uN (FP.dadd x y) ≤ 2 * B := by
  have key : ∀ u v : UInt64, NF u → NF v → uN u ≤ uN v → 2 ^ 52 ≤ v.toNat → uN (FP.dadd u v) ≤ 2 * uN v := by
    intro u v hu hv huv hb
    have hp : 0 < uN u + uN v := by have := uN_pos.mpr (show 0 < v.toNat by omega); omega
    have e : FP.Core.unitsOf FP.Core.b64 (v.toNat + 1 * 2 ^ 52) = 2 ^ 1 * uN v := unitsOf_up hb 1
    have h3 := add_le hu hv hp (m := v.toNat + 1 * 2 ^ 52) (by rw [e]; omega)
    have h4 : FP.Core.unitsOf FP.Core.b64 (FP.dadd u v).toNat ≤ FP.Core.unitsOf FP.Core.b64 (v.toNat + 1 * 2 ^ 52) := FP.Core.unitsOf_le_iff.mpr h3
    rw [e] at h4
    exact h4
  rcases Nat.le_total (uN x) (uN y) with q | q
  · have h5 := uN_le.mp q
    have := key x y hx hy q (by omega)
    omega
  · have h5 := uN_le.mp q
    have := key y x hy hx q (by omega)
    have e : FP.dadd y x = FP.dadd x y := FP.Core.dadd_comm y x
    rw [e] at this
    omega
