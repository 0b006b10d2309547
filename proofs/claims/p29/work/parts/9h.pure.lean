/-! the law's rows in the words of a series -/
def sl (a : Nat) : Nat := a / 12 * 48 + a % 12 / 3 * 4 + 0 + oo (a % 3)
theorem sl_at {t k j : Nat} (hk : k < 4) (hj : j < 3) : sl (12 * t + 3 * k + j) = t * 48 + k * 4 + 0 + oo j := by
  unfold sl
  rw [show (12 * t + 3 * k + j) / 12 = t by omega, show (12 * t + 3 * k + j) % 12 / 3 = k by omega, show (12 * t + 3 * k + j) % 3 = j by omega]
theorem oo_lt {j : Nat} (hj : j < 3) : oo j < 4 := by
  unfold oo
  split <;> omega
theorem lR_eq {wf : Bool} {zf zc zg c g : Nat → Nat} {a k : Nat} (h1 : lIts wf zf zc a = c k) (h2 : zg a = g k) (h3 : c k = 0 ↔ g k = 0) : lRate wf zf zc zg a = sRate c g k := by
  unfold lRate sRate
  rw [h1, h2]
  by_cases h : g k = 0
  · rw [if_pos h, if_pos (h3.mpr h), h3.mpr h]
    decide +kernel
  · rw [if_neg h, if_neg (fun z => h (h3.mp z))]
theorem baseA {zl zr lc lg : Nat → Nat} {pr : Nat → UInt64} {t k j : Nat} (ht : t < 5) (hk : k < 4) (hj : j < 3) (hl : ∀ a, a < 60 → zl a = lc (sl a) ∧ zr a = lg (sl a)) (hlg : ∀ q, lg q = 0 → lc q = 0) : BaseA (nI (12 * t + 3 * k + j) - nI 12) zl zr (pvF pr k (oo j) t) (sBase lc lg pr (t * 48 + k * 4 + 0 + oo j)) := by
  have ho := oo_lt hj
  by_cases h0 : t = 0
  · subst h0
    refine Or.inl ⟨pk_sneg (by decide) (by omega), ?_⟩
    unfold sBase pvF
    rw [if_pos (by omega), if_pos rfl]
  · refine Or.inr ⟨12 * (t - 1) + 3 * k + j, ?_, by omega, ?_, ?_⟩
    · rw [pk_sub (by omega)]
      congr 1; omega
    · obtain ⟨h1, h2⟩ := hl (12 * (t - 1) + 3 * k + j) (by omega)
      intro h
      rw [h1] at h
      rw [h2]
      exact Nat.pos_of_ne_zero (fun z => h (hlg _ z))
    · obtain ⟨h1, h2⟩ := hl (12 * (t - 1) + 3 * k + j) (by omega)
      rw [sl_at hk hj] at h1 h2
      unfold sBase
      rw [if_neg (by omega), show t * 48 + k * 4 + 0 + oo j - 48 = (t - 1) * 48 + k * 4 + 0 + oo j by omega, h1, h2]
      unfold pvF
      rw [if_neg h0]
      by_cases hz : lc ((t - 1) * 48 + k * 4 + 0 + oo j) = 0
      · rw [if_pos hz, if_pos hz]
      · rw [if_neg hz, if_neg hz]
        unfold sRate
        rw [if_neg (fun z => hz (hlg _ z))]
theorem sMs_up {ad : Nat → Nat} {kd g : Nat} (b : ∀ k, ad k ≤ 1000000000) (hg : g < 4) : ∀ j, j ≤ 3 → NF (sMs ad kd g j) ∧ uN (sMs ad kd g j) ≤ j * 2 ^ (51 + 1023)
  | 0, _ => ⟨NF_zero, by rw [show sMs ad kd g 0 = 0 from rfl, uN_zero]; exact Nat.zero_le _⟩
  | j + 1, hj => by
    obtain ⟨h1, h2⟩ := sMs_up (kd := kd) b hg j (by omega)
    have h3 := shH_Ub b (h := j) hg
    by_cases h : 0 < uS ad (j * 4) 4 ∧ mCt kd j = true
    · rw [sMs_t h.1 h.2]
      exact sum_mul (by omega) (by decide) (by decide) h1 h2 h3.1 h3.2
    · rw [sMs_f h]
      exact ⟨h1, Nat.le_trans h2 (Nat.mul_le_mul_right _ (by omega))⟩
theorem nnSh_all {ad : Nat → Nat} {kd g : Nat} (b : ∀ k, ad k ≤ 1000000000) (hg : g < 4) : nnSh ad kd g := by
  refine ⟨fun j hj => vf_add (sMs_up b hg j (by omega)).1 (shH_Ub b hg).1, fun h1 h => ?_⟩
  subst h1
  refine (shM_all b hg).1.2 ?_
  rw [mAl_lo (by decide)] at h
  have : mhN ad 3 ≠ 0 := fun z => h ((mhN_zw (ad := ad) (j := 3)).mp z)
  omega
theorem numNF {x : UInt64} {b : Nat} (hb : 1000 ≤ b) (hb2 : b ≤ 1300) (h : Ub b x) : NF (FP.dadd (FP.dmul x 4621819117588971520) 4602678819172646912) :=
  (add_Ub (mul_Ub h ten_Rg.ub (by omega) (by omega)) half_Rg.ub (by omega) (by omega)).1
theorem GK_of {wf : Bool} {cf : Nat → Bool} {cw g lc lg MM G : Nat → Nat} {shr rel pr grp idx : Nat → UInt64} {n T : Nat} {zc zg zf zn zl zr : Nat → Nat} (hT : T ≤ 5)
    (hE : ∀ a, a < 60 → lIts wf zf zc a = cw (sl a) ∧ zg a = g (sl a) ∧ zl a = lc (sl a) ∧ zr a = lg (sl a) ∧ decide (zn a = 1) = cf (sl a))
    (hcg : ∀ k, cw k = 0 ↔ g k = 0) (hlg : ∀ k, lg k = 0 → lc k = 0) (hz2 : ∀ t i, t < 5 → i < 4 → g (t * 48 + i * 4 + 0 + 2) = 0)
    (hb : DatB cw g lc lg) (hs : SerOK cf cw g lc lg MM G shr rel pr grp idx T) (hB : ∀ t, t < T → SerB rel pr grp idx t) {k t : Nat} (hk : k < 4) (ht : t < T) :
    GK wf zc zg zf zn zl zr k (MM k) (rK cf cw g lc lg pr) (sRate cw g) (sBase lc lg pr) pr t ∧ sMean (MM k) (rK cf cw g lc lg pr) (sRate cw g) (sBase lc lg pr) (t * 48 + k * 4 + 0) = rel (t * 12 + k) := by
  obtain ⟨r1, p1, g1, x1⟩ := hs t ht
  have hrel : sMean (MM k) (rK cf cw g lc lg pr) (sRate cw g) (sBase lc lg pr) (t * 48 + k * 4 + 0) = rel (t * 12 + k) := (r1 k (by omega)).symm
  have hpv : ∀ q, q < t * 48 → (t - 1) * 48 ≤ q → PB (t - 1) (pr q) := fun q h1 h2 => (hB (t - 1) (by omega)).prev (by omega) (by omega)
  obtain ⟨i1, i2, i3⟩ := item_all (cf := cf) (mean := MM k) hb.1 hb.2.1 hb.2.2.1 hb.2.2.2 (t := t) (i := k) (by omega) (by omega) hpv
  obtain ⟨b1, b2⟩ := bounce_at (cf := cf) (mean := MM k) hb hB (by omega) ht (i := k) (by omega)
  have hrb : ∀ q, t * 48 ≤ q → q < t * 48 + 48 → RZ 1009 1040 (sRate cw g q) ∧ RZ 833 1216 (sBase lc lg pr q) := fun q h1 h2 => ⟨sRate_RZ (hb.1 _) (hb.2.1 _), base_at hb hB (by omega) ht h1 h2⟩
  refine ⟨⟨fun j hj => ?_, fun j hj => ?_, fun j hj => ?_, ?_, fun j hj => ?_, fun j hj => ?_, i1.2.1, b1, i2.p0, vf_mul i2.nf b2⟩, hrel⟩
  · obtain ⟨e1, e2, e3, e4, e5⟩ := hE (12 * t + 3 * k + j) (by omega)
    rw [sl_at hk hj] at e1 e2
    refine ⟨lR_eq e1 e2 (hcg _), fun h => ?_⟩
    rw [e1] at h
    rw [e2]
    exact Nat.pos_of_ne_zero (fun z => h ((hcg _).mpr z))
  · exact baseA (by omega) hk hj (fun a ha => ⟨(hE a ha).2.2.1, (hE a ha).2.2.2.1⟩) hlg
  · obtain ⟨e1, e2, e3, e4, e5⟩ := hE (12 * t + 3 * k + j) (by omega)
    rw [sl_at hk hj] at e5
    rw [e5]
    rfl
  · unfold rK
    rw [show sRate cw g (t * 48 + k * 4 + 0 + 2) = 0 from if_pos (hz2 t k (by omega) hk)]
    exact sIn_00 _ _
  · rw [hrel]
    exact p1 k (by omega) (oo j) (oo_lt hj)
  · have ho := oo_lt hj
    obtain ⟨e1, e2, e3, e4, e5⟩ := hE (12 * t + 3 * k + j) (by omega)
    rw [sl_at hk hj] at e5
    obtain ⟨q1, q2⟩ := hrb (t * 48 + k * 4 + 0 + oo j) (by omega) (by omega)
    refine ⟨q1.p0, q2.p0, ?_, ?_⟩
    · rw [e5]; exact nnIn_of q1 q2
    · exact vf_mul q2.nf i2.nf
theorem LSer_of {wf : Bool} {cf : Nat → Bool} {cw g lc lg MM G : Nat → Nat} {shr rel pr grp idx : Nat → UInt64} {n T : Nat} {zi zc zg zf zn zl zr ze zq : Nat → Nat} (h0 : zq 0 = n) (hn : n ≤ 4) (hT : T ≤ 5)
    (hi : ∀ k, k < n → zi (3 * k) = G k ∧ zi (3 * k + 1) = MM k) (hM2 : ∀ k, MM k ≤ 2)
    (hE : ∀ a, a < 60 → lIts wf zf zc a = cw (sl a) ∧ zg a = g (sl a) ∧ zl a = lc (sl a) ∧ zr a = lg (sl a) ∧ decide (zn a = 1) = cf (sl a))
    (hcg : ∀ k, cw k = 0 ↔ g k = 0) (hlg : ∀ k, lg k = 0 → lc k = 0) (hz2 : ∀ t i, t < 5 → i < 4 → g (t * 48 + i * 4 + 0 + 2) = 0)
    (hZ : ∀ t i, n ≤ i → i < 12 → ∀ j, j < 4 → g (t * 48 + i * 4 + 0 + j) = 0)
    (hb : DatB cw g lc lg) (hs : SerOK cf cw g lc lg MM G shr rel pr grp idx T) (bze : ∀ k, ze k ≤ 1000000000)
    (hsh : ∀ t, t < T → ∀ kd, kd < 5 → ∀ g9, g9 < 4 → mShr (fun q => ze (12 * t + q)) kd g9 = shr ((t * 5 + kd) * 4 + g9)) :
    LSer wf zi zc zg zf zn zl zr ze zq n T MM G (rK cf cw g lc lg pr) (sRate cw g) (sBase lc lg pr) pr rel grp shr idx ∧ ∀ t, t < T → SerB rel pr grp idx t := by
  have hS : ShB shr T := ShB_of (f := fun t q => ze (12 * t + q)) (fun t q => bze _) hsh
  have hB := SerOK.bounds hb hS (by omega) hs
  refine ⟨⟨⟨h0, hn, hT⟩, fun k hk => ⟨(hi k hk).1, (hi k hk).2, by have := hM2 k; omega⟩, fun k hk t ht => GK_of hT hE hcg hlg hz2 hb hs hB (n := n) (by omega) ht, fun t ht g9 hg9 => ?_, fun t ht kd hkd g9 hg9 => ⟨nnSh_all (fun k => bze _) hg9, hsh t ht kd hkd g9 hg9⟩, fun h kd hkd => ?_, fun t ht h kd hkd => ?_, fun t ht => ?_⟩, hB⟩
  · obtain ⟨r1, p1, g1, x1⟩ := hs t ht
    refine ⟨(grp_all (by omega) (fun i hi9 => (hB t ht).2.1 i (by omega))).1, ?_⟩
    rw [g1 g9 hg9]
    have e2 := sGrp_more (G := G) (rel := rel) (n := n) (q := g9) (t := t) (12 - n) (fun i h1 h2 => by rw [r1 i (by omega)]; exact rel_Z (fun j hj => hZ t i h1 (by omega) j hj))
    rw [show n + (12 - n) = 12 by omega] at e2
    exact e2.symm
  · rw [(hs 0 h).2.2.2 kd hkd]
    exact if_pos rfl
  · have e := (hs t ht).2.2.2 kd hkd
    unfold ixV at e
    rw [if_neg h] at e
    exact ⟨(step_all ((hS t ht).1 kd hkd) (hB t ht).2.2.1).1, (ix_all (idx := idx) (by omega) ((hS t ht).1 kd hkd) (hB t ht).2.2.1 (fun h9 => (hB (t - 1) (by omega)).2.2.2.1 kd hkd)).1 h, e.symm⟩
  · exact ⟨(num_all (by omega) (by omega) ((hB t ht).2.2.2.1 0 (by decide))).1, numNF (by omega) (by omega) ((hB t ht).2.2.2.1 0 (by decide))⟩
