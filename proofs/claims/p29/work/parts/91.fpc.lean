/-! numbers of the machine: rates, matches, means of matches, prices -/
def RZ (a b : Nat) (x : UInt64) : Prop := x = 0 ∨ Rg a b x
theorem RZ.nf {a b : Nat} {x : UInt64} (h : RZ a b x) : NF x := h.elim (fun e => e ▸ NF_zero) (fun q => q.1)
theorem RZ.mono {a b a' b' : Nat} {x : UInt64} (h : RZ a b x) (h1 : a' ≤ a) (h2 : b ≤ b') : RZ a' b' x := h.elim Or.inl (fun q => Or.inr (q.mono h1 h2))
theorem RZ.p0 {a b : Nat} {x : UInt64} (h : RZ a b x) : P0 x := h.nf.P0
theorem RZ.rg {a b : Nat} {x : UInt64} (h : RZ a b x) (h1 : 0 < uN x) : Rg a b x := h.resolve_left (fun e => by rw [e, uN_zero] at h1; omega)
theorem RZ.ub {a b : Nat} {x : UInt64} (h : RZ a b x) : Ub b x := h.elim (fun e => e ▸ Ub_zero b) (fun q => q.ub)
theorem vf_add {x y : UInt64} (hx : NF x) (hy : NF y) : vf_n64 (FP.dadd x y) := fp_vf (FP.Core.dadd_out hx.fin.notNaN hy.fin)
theorem vf_mul {x y : UInt64} (hx : NF x) (hy : NF y) : vf_n64 (FP.dmul x y) := fp_vf (FP.Core.dmul_out hx.fin hy.fin)
theorem nz_of {x : UInt64} (hx : NF x) (h : 0 < uN x) : ¬ FP.Core.DZero x := fun z => by
  have := (FP.Core.zero_bits2 x).mp z
  rw [hx.mag] at this
  have := uN_pos.mp h
  omega
theorem vf_div {x y : UInt64} (hx : NF x) (hy : NF y) (h : 0 < uN y) : vf_n64 (FP.ddiv x y) := fp_vf (FP.Core.ddiv_out hx.fin.notNaN hy.fin (nz_of hy h))
theorem i2d_Rg {n K : Nat} (h0 : 1 ≤ n) (h : n ≤ 2 ^ K) (hK : K ≤ 30) : Rg 1023 (1023 + K) (FP.i2d (nI n)) := by
  have hn : n < 2 ^ 31 := Nat.lt_of_le_of_lt (Nat.le_trans h (Nat.pow_le_pow_right (by decide) hK)) (by decide)
  obtain ⟨h1, h2⟩ := uN_i2d hn
  refine ⟨h1, ?_, ?_⟩
  · rw [h2]; exact Nat.le_mul_of_pos_left _ h0
  · rw [h2, show 51 + (1023 + K) = K + 1074 by omega, Nat.pow_add]; exact Nat.mul_le_mul_right _ h
theorem rate_Rg {c g : Nat} (h1 : 1 ≤ c) (h2 : c ≤ 100000) (h3 : 1 ≤ g) (h4 : g ≤ 10000) : Rg 1009 1040 (FP.ddiv (FP.i2d (nI c)) (FP.i2d (nI g))) :=
  (div_Rg (i2d_Rg (K := 17) h1 (by omega) (by decide)) (i2d_Rg (K := 14) h3 (by omega) (by decide)) (by decide) (by decide)).mono (by decide) (by decide)
theorem div_0 {y : UInt64} (hy : NF y) (h : 0 < uN y) : FP.ddiv 0 y = 0 := by
  have h1 := div_le NF_zero hy h (m := 0) (by rw [uN_zero, Nat.zero_mul]; exact Nat.zero_le _)
  exact UInt64.toNat.inj (by rw [show (0 : UInt64).toNat = 0 from rfl]; omega)
theorem sRate_RZ {c g : Nat → Nat} {k : Nat} (bc : c k ≤ 100000) (bg : g k ≤ 10000) : RZ 1009 1040 (sRate c g k) := by
  unfold sRate
  by_cases hg : g k = 0
  · rw [if_pos hg]; exact Or.inl rfl
  · rw [if_neg hg]
    rcases Nat.eq_zero_or_pos (c k) with hc | hc
    · rw [hc, show FP.i2d (nI 0) = 0 by decide +kernel]
      have hq := i2d_Rg (n := g k) (K := 14) (by omega) (by omega) (by decide)
      exact Or.inl (div_0 hq.1 hq.pos)
    · exact Or.inr (rate_Rg hc bc (by omega) bg)
/-- a price of the month t -/
def PB (t : Nat) (x : UInt64) : Prop := RZ (1009 - 8 * t) (1040 + 8 * t) x
/-- a base of the month t -/
def BB (t : Nat) (x : UInt64) : Prop := RZ (1017 - 8 * t) (1032 + 8 * t) x
theorem BB.wide {t : Nat} {x : UInt64} (h : BB t x) (ht : t < 24) : RZ 833 1216 x := RZ.mono h (by omega) (by omega)
theorem sBase_BB {lc lg : Nat → Nat} {pr : Nat → UInt64} (blc : ∀ k, lc k ≤ 100000) (blg : ∀ k, lg k ≤ 10000) {t k : Nat} (h1 : t * 48 ≤ k) (h2 : k < t * 48 + 48) (hpr : ∀ q, q + 48 = k → PB (t - 1) (pr q)) (ht : t < 24) : BB t (sBase lc lg pr k) := by
  unfold sBase
  by_cases hk : k < 48
  · rw [if_pos hk]; exact Or.inl rfl
  · rw [if_neg hk]
    by_cases hl : lc (k - 48) = 0
    · rw [if_pos hl]
      exact RZ.mono (hpr (k - 48) (by omega)) (by omega) (by omega)
    · rw [if_neg hl]
      exact RZ.mono (sRate_RZ (blc _) (blg _)) (by omega) (by omega)
theorem bound_30 : NF 4629137466983448576 ∧ uN 4629137466983448576 = 30 * 2 ^ 1074 := ⟨by unfold NF; decide, by decide +kernel⟩
theorem bound_3 : NF 4613937818241073152 ∧ uN 4613937818241073152 = 3 * 2 ^ 1074 := ⟨by unfold NF; decide, by decide +kernel⟩
theorem one_uN : NF FP.dconst1 ∧ uN FP.dconst1 = 2 ^ 1074 := ⟨by unfold NF; decide +kernel, by decide +kernel⟩
theorem one_Rg : Rg 1023 1023 FP.dconst1 := ⟨one_uN.1, Nat.le_of_eq one_uN.2.symm, Nat.le_of_eq one_uN.2⟩
theorem sBound_uN (cf : Bool) : NF (sBound cf) ∧ 3 * 2 ^ 1074 ≤ uN (sBound cf) ∧ uN (sBound cf) ≤ 30 * 2 ^ 1074 := by
  unfold sBound
  cases cf
  · rw [if_neg (by decide)]; exact ⟨bound_3.1, by rw [bound_3.2]; exact Nat.le_refl _, by rw [bound_3.2]; exact Nat.mul_le_mul_right _ (by decide)⟩
  · rw [if_pos rfl]; exact ⟨bound_30.1, by rw [bound_30.2]; exact Nat.mul_le_mul_right _ (by decide), by rw [bound_30.2]; exact Nat.le_refl _⟩
theorem sBound_Ub (cf : Bool) : Ub 1028 (sBound cf) := ⟨(sBound_uN cf).1, Nat.le_trans (sBound_uN cf).2.2 (by rw [show 51 + 1028 = 5 + 1074 by decide, Nat.pow_add 2 5]; exact Nat.mul_le_mul_right _ (by decide))⟩
theorem nnIn_of {cf : Bool} {r b : UInt64} (hr : RZ 1009 1040 r) (hb : RZ 833 1216 b) : nnIn cf r b := by
  intro h1 h2
  have p1 : 0 < uN r := Nat.pos_of_ne_zero fun z => h1 ((le0 hr.nf).mpr z)
  have p2 : 0 < uN b := Nat.pos_of_ne_zero fun z => h2 ((le0 hb.nf).mpr z)
  have hq := div_Rg (hr.rg p1) (hb.rg p2) (by decide) (by decide)
  exact ⟨hq.1.vf, vf_mul hq.1 (sBound_uN cf).1⟩
def F15 : Nat := 4606619468846596096
theorem F15_u : FP.Core.unitsOf FP.Core.b64 F15 = 15 * 2 ^ 1070 := by decide +kernel
/-- what a match says of its rate and its base -/
theorem sIn_all {cf : Bool} {r b : UInt64} (hr : RZ 1009 1040 r) (hb : RZ 833 1216 b) (h : sIn cf r b = true) : Rg 1009 1040 r ∧ Rg 833 1216 b ∧ Rg 1018 1028 (FP.ddiv r b) ∧ uN r ≤ 32 * uN b ∧ uN b ≤ 32 * uN r := by
  obtain ⟨h1, h2, h3, h4⟩ := of_decide_eq_true h
  have p1 : 0 < uN r := Nat.pos_of_ne_zero fun z => h1 ((le0 hr.nf).mpr z)
  have p2 : 0 < uN b := Nat.pos_of_ne_zero fun z => h2 ((le0 hb.nf).mpr z)
  have gr := hr.rg p1
  have gb9 := hb.rg p2
  have hq := div_Rg gr gb9 (by decide) (by decide)
  obtain ⟨s1, s2, s3⟩ := sBound_uN cf
  have hup := Nat.le_trans ((le_uN hq.1 s1).mp h3) s3
  have hm := mul_Ub hq.ub (sBound_Ub cf) (by decide) (by decide)
  have hlo0 := (ge_uN hm.1 one_uN.1).mp h4
  rw [one_uN.2] at hlo0
  have hlo : 2 ^ 1069 < uN (FP.ddiv r b) := by
    refine Nat.lt_of_not_le fun z => ?_
    have h5 := mul_le hq.1 s1 (m := F15) (by
      rw [F15_u]
      calc uN (FP.ddiv r b) * uN (sBound cf) ≤ 2 ^ 1069 * (30 * 2 ^ 1074) := Nat.mul_le_mul z s3
        _ ≤ 15 * 2 ^ 1070 * 2 ^ 1074 := by decide +kernel)
    have h6 : uN (FP.dmul (FP.ddiv r b) (sBound cf)) ≤ 15 * 2 ^ 1070 := by rw [← F15_u]; exact FP.Core.unitsOf_le_iff.mpr h5
    exact absurd (Nat.le_trans hlo0 h6) (by decide +kernel)
  refine ⟨gr, gb9, ⟨hq.1, ?_, ?_⟩, ?_, ?_⟩
  · exact Nat.le_of_lt hlo
  · exact Nat.le_trans hup (by decide +kernel)
  · refine Nat.le_of_not_lt fun z => ?_
    have h5 := div_ge gr.1 gb9.1 p2 (m := 1028 * 2 ^ 52) (by decide) (by
      rw [uN_start (by decide), show 51 + 1028 = 5 + 1074 by decide, Nat.pow_add 2 5, Nat.mul_right_comm]
      exact Nat.mul_le_mul_right _ (Nat.le_of_lt z))
    have h6 := uN_lb (x := FP.ddiv r b) (by decide) h5
    exact absurd (Nat.le_trans h6 hup) (by decide +kernel)
  · refine Nat.le_of_not_lt fun z => ?_
    have h5 := div_le gr.1 gb9.1 p2 (m := 1018 * 2 ^ 52) (by
      rw [uN_start (by decide), show 1074 = 5 + 1069 by decide, Nat.pow_add 2 5, ← Nat.mul_assoc, Nat.mul_comm (2 ^ (51 + 1018))]
      exact Nat.mul_le_mul_right _ (by omega))
    have h6 := uN_ub (x := FP.ddiv r b) (by decide) h5
    exact absurd (Nat.lt_of_lt_of_le hlo h6) (Nat.lt_irrefl _)
theorem inv_Rg {q : UInt64} (h : Rg 1018 1028 q) : Rg 1018 1028 (FP.ddiv FP.dconst1 q) := (div_Rg one_Rg h (by decide) (by decide)).mono (by decide) (by decide)
/-- what the marked ones of four say -/
def MK (M : Nat → Bool) (o t : Nat → UInt64) (k0 : Nat) : Prop := ∀ j, j < 4 → M (k0 + j) = true → Rg 833 1216 (o (k0 + j)) ∧ Rg 833 1216 (t (k0 + j)) ∧ Rg 1018 1028 (FP.ddiv (o (k0 + j)) (t (k0 + j))) ∧ uN (o (k0 + j)) ≤ 32 * uN (t (k0 + j)) ∧ uN (t (k0 + j)) ≤ 32 * uN (o (k0 + j))
theorem nrm_of {a b : Nat} {x : UInt64} (h : Rg a b x) (ha : 1 ≤ a) : 2 ^ 52 ≤ x.toNat := by
  have h1 : FP.Core.unitsOf FP.Core.b64 (a * 2 ^ 52) ≤ FP.Core.unitsOf FP.Core.b64 x.toNat := by rw [uN_start ha]; exact h.2.1
  have := FP.Core.unitsOf_le_iff.mp h1
  omega
theorem mS_ratio {M : Nat → Bool} {o t : Nat → UInt64} {k0 : Nat} (ho : ∀ j, j < 4 → M (k0 + j) = true → Rg 833 1216 (o (k0 + j)) ∧ Rg 833 1216 (t (k0 + j)) ∧ uN (o (k0 + j)) ≤ 32 * uN (t (k0 + j))) (n1 : ∀ j, j ≤ 4 → NF (mS M o k0 j)) (n2 : ∀ j, j ≤ 4 → NF (mS M t k0 j)) :
    ∀ j, j ≤ 4 → (mN M k0 j = 0 → mS M o k0 j = 0 ∧ mS M t k0 j = 0) ∧ (0 < mN M k0 j → uN (mS M o k0 j) ≤ 2 ^ (4 + mN M k0 j) * uN (mS M t k0 j))
  | 0, _ => ⟨fun _ => ⟨rfl, rfl⟩, fun h => absurd h (Nat.lt_irrefl 0)⟩
  | j + 1, hj => by
    obtain ⟨i1, i2⟩ := mS_ratio ho n1 n2 j (by omega)
    by_cases hM : M (k0 + j) = true
    · obtain ⟨r1, r2, r3⟩ := ho j (by omega) hM
      have e1 : mS M o k0 (j + 1) = FP.dadd (mS M o k0 j) (o (k0 + j)) := by show (if _ then _ else _) = _; rw [if_pos hM]
      have e3 : mS M t k0 (j + 1) = FP.dadd (mS M t k0 j) (t (k0 + j)) := by show (if _ then _ else _) = _; rw [if_pos hM]
      rw [mN_t hM, e1, e3]
      refine ⟨fun h => absurd h (by omega), fun _ => ?_⟩
      rcases Nat.eq_zero_or_pos (mN M k0 j) with hz | hz
      · obtain ⟨z1, z2⟩ := i1 hz
        rw [hz, z1, z2, zero_add r1.1, zero_add r2.1]
        exact r3
      · have h4 := i2 hz
        have gw := add_grow (n2 j (by omega)) r2.1
        have p1 : 2 ^ (4 + mN M k0 j) * uN (mS M t k0 j) ≤ 2 ^ (4 + mN M k0 j) * uN (FP.dadd (mS M t k0 j) (t (k0 + j))) := Nat.mul_le_mul_left _ gw.1
        have p2 : 32 * uN (t (k0 + j)) ≤ 2 ^ (4 + mN M k0 j) * uN (FP.dadd (mS M t k0 j) (t (k0 + j))) := Nat.mul_le_mul (by
          have : 2 ^ 5 ≤ 2 ^ (4 + mN M k0 j) := Nat.pow_le_pow_right (by decide) (by omega)
          exact this) gw.2
        have h5 := add_dbl (n1 j (by omega)) r1.1 (Nat.le_trans h4 p1) (Nat.le_trans r3 p2) (Or.inr (nrm_of r1 (by decide)))
        rw [show 4 + (mN M k0 j + 1) = (4 + mN M k0 j) + 1 by omega, Nat.pow_succ, Nat.mul_comm _ 2, Nat.mul_assoc]
        exact h5
    · have hM' : M (k0 + j) = false := by cases h : M (k0 + j) <;> simp_all
      have e1 : mS M o k0 (j + 1) = mS M o k0 j := by show (if _ then _ else _) = _; rw [if_neg hM]
      have e3 : mS M t k0 (j + 1) = mS M t k0 j := by show (if _ then _ else _) = _; rw [if_neg hM]
      rw [mN_f hM', e1, e3]; exact ⟨i1, i2⟩
theorem mean_all {mean : Nat} {M : Nat → Bool} {o t : Nat → UInt64} {k0 : Nat} (h : MK M o t k0) : nnMean mean M o t k0 ∧ RZ 1015 1031 (sMean mean M o t k0) := by
  have so := mS_mul (M := M) (f := o) (k0 := k0) (a := 833) (b := 1216) (n := 4) (by decide) (by decide) (by decide) (by decide) (fun j hj hM => (h j hj hM).1) (by decide)
  have st := mS_mul (M := M) (f := t) (k0 := k0) (a := 833) (b := 1216) (n := 4) (by decide) (by decide) (by decide) (by decide) (fun j hj hM => (h j hj hM).2.1) (by decide)
  have sq := mS_mul (M := M) (f := qF o t) (k0 := k0) (a := 1018) (b := 1028) (n := 4) (by decide) (by decide) (by decide) (by decide) (fun j hj hM => (h j hj hM).2.2.1) (by decide)
  have sv := mS_mul (M := M) (f := vF o t) (k0 := k0) (a := 1018) (b := 1028) (n := 4) (by decide) (by decide) (by decide) (by decide) (fun j hj hM => inv_Rg (h j hj hM).2.2.1) (by decide)
  have h4 := mN_le M k0 4
  have r1 := mS_ratio (M := M) (o := o) (t := t) (k0 := k0) (fun j hj hM => ⟨(h j hj hM).1, (h j hj hM).2.1, (h j hj hM).2.2.2.1⟩) (fun j hj => (so j hj).1) (fun j hj => (st j hj).1) 4 (by decide)
  have r2 := mS_ratio (M := M) (o := t) (t := o) (k0 := k0) (fun j hj hM => ⟨(h j hj hM).2.1, (h j hj hM).1, (h j hj hM).2.2.2.2⟩) (fun j hj => (st j hj).1) (fun j hj => (so j hj).1) 4 (by decide)
  have main : ∀ n, mN M k0 4 = n → 0 < n → Rg 1018 1028 (FP.ddiv (mS M (qF o t) k0 4) (FP.i2d (nI n))) ∧ Rg 1015 1031 (FP.ddiv (mS M o k0 4) (mS M t k0 4)) ∧ Rg 1018 1028 (FP.ddiv (FP.i2d (nI n)) (mS M (vF o t) k0 4)) := by
    intro n hn hp
    have q1 := sq 4 (by decide)
    have q2 := sv 4 (by decide)
    have q3 := st 4 (by decide)
    rw [hn] at q1 q2 q3 h4 r1 r2
    refine ⟨mean_Rg hp (by omega) (by decide) (by decide) q1.1 q1.2.1 q1.2.2, ?_, (harm_Rg (a := 1018) (b := 1028) hp (by omega) (by decide) (by decide) q2.1 q2.2.1 q2.2.2 (by decide) (by decide)).mono (by decide) (by decide)⟩
    have hy : 0 < uN (mS M t k0 4) := Nat.lt_of_lt_of_le (Nat.mul_pos hp (Nat.two_pow_pos _)) q3.2.1
    have e8 : 2 ^ (4 + n) ≤ 2 ^ 8 := Nat.pow_le_pow_right (by decide) (by omega)
    have a1 := Nat.le_trans (r1.2 hp) (Nat.mul_le_mul_right _ e8)
    have a2 := Nat.le_trans (r2.2 hp) (Nat.mul_le_mul_right _ e8)
    have hu := div_le (so 4 (by decide)).1 q3.1 hy (m := 1031 * 2 ^ 52) (by
      rw [uN_start (by decide), show 51 + 1031 = 8 + 1074 by decide, Nat.pow_add 2 8, Nat.mul_right_comm]
      exact Nat.mul_le_mul_right _ a1)
    have hl := div_ge (so 4 (by decide)).1 q3.1 hy (m := 1015 * 2 ^ 52) (by decide) (by
      rw [uN_start (by decide), show 1074 = 8 + 1066 by decide, Nat.pow_add 2 8, ← Nat.mul_assoc, Nat.mul_comm (2 ^ (51 + 1015)), Nat.mul_comm _ (2 ^ 8)]
      exact Nat.mul_le_mul_right _ a2)
    exact ⟨NF_of_le (by decide) hu, uN_lb (by decide) hl, uN_ub (by decide) hu⟩
  refine ⟨⟨fun j hj hM => ?_, fun h0 => ?_⟩, ?_⟩
  · obtain ⟨f1, f2, f3, -, -⟩ := h j hj hM
    exact ⟨vf_add (so j (by omega)).1 f1.1, vf_add (st j (by omega)).1 f2.1, f3.1.vf, vf_add (sq j (by omega)).1 f3.1, (inv_Rg f3).1.vf, vf_add (sv j (by omega)).1 (inv_Rg f3).1⟩
  · obtain ⟨m1, m2, m3⟩ := main _ rfl (by omega)
    exact ⟨fun _ => m1.1.vf, fun _ => m2.1.vf, fun _ _ => m3.1.vf⟩
  · unfold sMean sRel
    by_cases h0 : mN M k0 4 = 0
    · rw [if_pos h0]; exact Or.inl rfl
    · rw [if_neg h0]
      obtain ⟨m1, m2, m3⟩ := main _ rfl (by omega)
      by_cases hm0 : mean = 0
      · rw [if_pos hm0]; exact Or.inr (m1.mono (by decide) (by decide))
      · rw [if_neg hm0]
        by_cases hm1 : mean = 1
        · rw [if_pos hm1]; exact Or.inr m2
        · rw [if_neg hm1]; exact Or.inr (m3.mono (by decide) (by decide))
