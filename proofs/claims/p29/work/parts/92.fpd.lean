/-! numbers of the machine: items, groups, steps, indexes, what is told of them -/
theorem MK_of {cf : Nat → Bool} {c g lc lg : Nat → Nat} {pr : Nat → UInt64} (bc : ∀ k, c k ≤ 100000) (bg : ∀ k, g k ≤ 10000) (blc : ∀ k, lc k ≤ 100000) (blg : ∀ k, lg k ≤ 10000) {t i : Nat} (ht : t < 24) (hi : i < 12) (hpr : ∀ q, q < t * 48 → (t - 1) * 48 ≤ q → PB (t - 1) (pr q)) : MK (rK cf c g lc lg pr) (sRate c g) (sBase lc lg pr) (t * 48 + i * 4 + 0) := fun j hj hM => by
  obtain ⟨f1, f2, f3, f4, f5⟩ := sIn_all (sRate_RZ (bc _) (bg _)) ((sBase_BB (t := t) blc blg (by omega) (by omega) (fun q hq => hpr q (by omega) (by omega)) ht).wide ht) hM
  exact ⟨f1.mono (by decide) (by decide), f2, f3, f4, f5⟩
theorem MK.swap {M : Nat → Bool} {o t : Nat → UInt64} {k0 : Nat} (h : MK M o t k0) : MK M t o k0 := fun j hj hM => by
  obtain ⟨f1, f2, f3, f4, f5⟩ := h j hj hM
  have hu := div_le f2.1 f1.1 f1.pos (m := 1028 * 2 ^ 52) (by
    rw [uN_start (by decide), show 51 + 1028 = 5 + 1074 by decide, Nat.pow_add 2 5, Nat.mul_right_comm]
    exact Nat.mul_le_mul_right _ f5)
  have hl := div_ge f2.1 f1.1 f1.pos (m := 1018 * 2 ^ 52) (by decide) (by
    rw [uN_start (by decide), show 1074 = 5 + 1069 by decide, Nat.pow_add 2 5, ← Nat.mul_assoc, Nat.mul_comm (2 ^ (51 + 1018)), Nat.mul_comm _ (2 ^ 5)]
    exact Nat.mul_le_mul_right _ f4)
  exact ⟨f2, f1, ⟨NF_of_le (by decide) hu, uN_lb (by decide) hl, uN_ub (by decide) hu⟩, f5, f4⟩
theorem item_all {cf : Nat → Bool} {c g lc lg : Nat → Nat} {pr : Nat → UInt64} {mean : Nat} (bc : ∀ k, c k ≤ 100000) (bg : ∀ k, g k ≤ 10000) (blc : ∀ k, lc k ≤ 100000) (blg : ∀ k, lg k ≤ 10000) {t i : Nat} (ht : t < 24) (hi : i < 12) (hpr : ∀ q, q < t * 48 → (t - 1) * 48 ≤ q → PB (t - 1) (pr q)) :
    nnItem cf c g lc lg pr mean t i ∧ RZ 1015 1031 (sRelI cf c g lc lg pr mean t i) ∧ ∀ j, j < 4 → PB t (rPrice (rK cf c g lc lg pr) (sRate c g) (sBase lc lg pr) (sRelI cf c g lc lg pr mean t i) (t * 48 + i * 4 + 0 + j)) := by
  obtain ⟨m1, m2⟩ := mean_all (mean := mean) (MK_of (cf := cf) bc bg blc blg ht hi hpr)
  have hb : ∀ j, j < 4 → BB t (sBase lc lg pr (t * 48 + i * 4 + 0 + j)) := fun j hj => sBase_BB (t := t) blc blg (by omega) (by omega) (fun q hq => hpr q (by omega) (by omega)) ht
  have hr : ∀ k, RZ 1009 1040 (sRate c g k) := fun k => sRate_RZ (bc _) (bg _)
  refine ⟨⟨fun j hj => nnIn_of (hr _) ((hb j hj).wide ht), m1, fun j hj => vf_mul (hb j hj).nf (RZ.nf m2)⟩, m2, fun j hj => ?_⟩
  have hb' := hb j hj
  unfold rPrice
  by_cases h1 : Dle (sBase lc lg pr (t * 48 + i * 4 + 0 + j)) 0 ∨ rK cf c g lc lg pr (t * 48 + i * 4 + 0 + j) = true
  · rw [if_pos h1]; exact (hr _).mono (by omega) (by omega)
  · rw [if_neg h1]
    by_cases h2 : Dgt (sRelI cf c g lc lg pr mean t i) 0
    · rw [if_pos h2]
      have p1 : 0 < uN (sBase lc lg pr (t * 48 + i * 4 + 0 + j)) := Nat.pos_of_ne_zero fun z => h1 (Or.inl ((le0 hb'.nf).mpr z))
      have p2 := (gt0 (RZ.nf m2)).mp h2
      exact Or.inr ((mul_Rg (RZ.rg hb' p1) (RZ.rg m2 p2) (by omega) (by omega)).mono (by omega) (by omega))
    · rw [if_neg h2]; exact RZ.mono hb' (by omega) (by omega)
theorem grp_all {G : Nat → Nat} {rel : Nat → UInt64} {n g t : Nat} (hn : n ≤ 12) (h : ∀ i, i < n → RZ 1015 1031 (rel (t * 12 + i))) : nnGrp G rel n g t ∧ Rg 1015 1031 (sGrp G rel n g t) := by
  have hs := mS_mul (M := gM G rel g t) (f := rel) (k0 := t * 12) (a := 1015) (b := 1031) (n := n) (by omega) (by decide) (by decide) (by decide) (fun j hj hM => by
    have h1 := (of_decide_eq_true hM).2
    exact (h j hj).rg ((gt0 (h j hj).nf).mp h1)) (by decide)
  have hc := mN_le (gM G rel g t) (t * 12) n
  have hm : mN (gM G rel g t) (t * 12) n ≠ 0 → Rg 1015 1031 (FP.ddiv (mS (gM G rel g t) rel (t * 12) n) (FP.i2d (nI (mN (gM G rel g t) (t * 12) n)))) := fun h0 => by
    obtain ⟨q1, q2, q3⟩ := hs n (Nat.le_refl n)
    exact mean_Rg (by omega) (by omega) (by decide) (by decide) q1 q2 q3
  refine ⟨⟨fun j hj hM => vf_add (hs j (by omega)).1 (h j hj).nf, fun h0 => (hm h0).1.vf⟩, ?_⟩
  unfold sGrp
  by_cases h0 : mN (gM G rel g t) (t * 12) n = 0
  · rw [if_pos h0]; exact one_Rg.mono (by decide) (by decide)
  · rw [if_neg h0]; exact hm h0
/-- one more of at most 2^b on a sum of j of them -/
theorem sum_mul {x y : UInt64} {j b : Nat} (hj : j + 1 ≤ 16) (hb1 : 1 ≤ b) (hb : b ≤ 2040) (hx : NF x) (hx2 : uN x ≤ j * 2 ^ (51 + b)) (hy : NF y) (hy2 : uN y ≤ 2 ^ (51 + b)) : NF (FP.dadd x y) ∧ uN (FP.dadd x y) ≤ (j + 1) * 2 ^ (51 + b) := by
  by_cases hp : 0 < uN x + uN y
  · exact mult_NF (n := j + 1) (b := b) hj hb hb1 (fun m hm => add_le hx hy hp (by rw [hm, Nat.add_mul, Nat.one_mul]; omega)) (by omega)
  · rw [eq_zero_of (x := x) (by omega), eq_zero_of (x := y) (by omega), add_zero NF_zero, uN_zero]
    exact ⟨NF_zero, Nat.zero_le _⟩
theorem step_up {shr grp : Nat → UInt64} {kd t : Nat} (hs : ∀ j, j < 4 → Ub 1023 (shr ((t * 5 + kd) * 4 + j))) (hg : ∀ j, j < 4 → Rg 1015 1031 (grp (t * 4 + j))) : ∀ j, j ≤ 4 → NF (sStep shr grp kd t j) ∧ uN (sStep shr grp kd t j) ≤ j * 2 ^ (51 + 1031)
  | 0, _ => ⟨NF_zero, by rw [show sStep shr grp kd t 0 = 0 from rfl, uN_zero]; exact Nat.zero_le _⟩
  | j + 1, hj => by
    obtain ⟨i1, i2⟩ := step_up hs hg j (by omega)
    have hm := (mul_Ub (hs j (by omega)) (hg j (by omega)).ub (by decide) (by decide)).mono (b' := 1031) (by decide)
    exact sum_mul (by omega) (by decide) (by decide) i1 i2 hm.1 hm.2
theorem step_all {shr grp : Nat → UInt64} {kd t : Nat} (hs : ∀ j, j < 4 → Ub 1023 (shr ((t * 5 + kd) * 4 + j))) (hg : ∀ j, j < 4 → Rg 1015 1031 (grp (t * 4 + j))) : nnStep shr grp kd t ∧ Ub 1033 (sStep shr grp kd t 4) := by
  have hu := step_up hs hg
  refine ⟨fun j hj => ?_, (hu 4 (by decide)).1, Nat.le_trans (hu 4 (by decide)).2 (by decide +kernel)⟩
  have hm := mul_Ub (hs j hj) (hg j hj).ub (by decide) (by decide)
  exact ⟨hm.1.vf, vf_add (hu j (by omega)).1 hm.1⟩
theorem step_lo {shr grp : Nat → UInt64} {kd t j0 : Nat} (hs : ∀ j, j < 4 → Ub 1023 (shr ((t * 5 + kd) * 4 + j))) (hg : ∀ j, j < 4 → Rg 1015 1031 (grp (t * 4 + j))) (h0 : j0 < 4) (hl : Rg 1021 1023 (shr ((t * 5 + kd) * 4 + j0))) : ∀ j, j ≤ 4 → j0 < j → 2 ^ (51 + 1013) ≤ uN (sStep shr grp kd t j)
  | 0, _, h => absurd h (Nat.not_lt_zero _)
  | j + 1, hj, h => by
    have hm := mul_Ub (hs j (by omega)) (hg j (by omega)).ub (by decide) (by decide)
    have gw := add_grow (step_up hs hg j (by omega)).1 hm.1
    rcases Nat.lt_or_eq_of_le (Nat.le_of_lt_succ h) with q | q
    · exact Nat.le_trans (step_lo hs hg h0 hl j (by omega) q) gw.1
    · subst q
      have hr := (mul_Rg hl (hg j0 h0) (by decide) (by decide)).mono (a' := 1013) (b' := 1100) (by decide) (by decide)
      exact Nat.le_trans hr.2.1 gw.2
theorem hund_Rg : Rg 1029 1030 4636737291354636288 := ⟨by unfold NF; decide, by decide +kernel, by decide +kernel⟩
theorem ix_all {shr grp idx : Nat → UInt64} {t k : Nat} (ht : t < 24) (hs : ∀ j, j < 4 → Ub 1023 (shr ((t * 5 + k) * 4 + j))) (hg : ∀ j, j < 4 → Rg 1015 1031 (grp (t * 4 + j))) (hx : t ≠ 0 → Ub (1030 + 10 * (t - 1)) (idx ((t - 1) * 5 + k))) : (t ≠ 0 → vf_n64 (FP.dmul (idx ((t - 1) * 5 + k)) (sStep shr grp k t 4))) ∧ Ub (1030 + 10 * t) (ixV shr grp idx t k) := by
  have hst := (step_all hs hg).2
  refine ⟨fun h => vf_mul (hx h).1 hst.1, ?_⟩
  unfold ixV
  by_cases h : t = 0
  · rw [if_pos h]; exact hund_Rg.ub.mono (by omega)
  · rw [if_neg h]; exact (mul_Ub (hx h) hst (by omega) (by omega)).mono (by omega)
theorem ix_lo {shr grp idx : Nat → UInt64} {t k j0 : Nat} (ht : t < 24) (hs : ∀ j, j < 4 → Ub 1023 (shr ((t * 5 + k) * 4 + j))) (hg : ∀ j, j < 4 → Rg 1015 1031 (grp (t * 4 + j))) (h0 : j0 < 4) (hl : Rg 1021 1023 (shr ((t * 5 + k) * 4 + j0))) (hx : t ≠ 0 → Rg (1029 - 10 * (t - 1)) (1030 + 10 * (t - 1)) (idx ((t - 1) * 5 + k))) : Rg (1029 - 10 * t) (1030 + 10 * t) (ixV shr grp idx t k) := by
  have hst := (step_all hs hg).2
  have hr : Rg 1013 1033 (sStep shr grp k t 4) := ⟨hst.1, step_lo hs hg h0 hl 4 (by decide) h0, hst.2⟩
  unfold ixV
  by_cases h : t = 0
  · rw [if_pos h]; exact hund_Rg.mono (by omega) (by omega)
  · rw [if_neg h]; exact (mul_Rg (hx h) hr (by omega) (by omega)).mono (by omega) (by omega)
/-! what is told of the groups and the indexes -/
theorem sm_up {gr : Nat → UInt64} {t gt ls : Nat} (hg : ∀ j, j < 4 → Rg 1015 1031 (gr (t * 4 + j))) : ∀ j, j ≤ 4 → NF (smF gr t gt ls j) ∧ uN (smF gr t gt ls j) ≤ j * 2 ^ (51 + 1031)
  | 0, _ => ⟨NF_zero, by rw [show smF gr t gt ls 0 = 0 from rfl, uN_zero]; exact Nat.zero_le _⟩
  | j + 1, hj => by
    obtain ⟨i1, i2⟩ := sm_up (gt := gt) (ls := ls) hg j (by omega)
    show NF (if _ then _ else _) ∧ uN (if _ then _ else _) ≤ _
    split
    · exact sum_mul (by omega) (by decide) (by decide) i1 i2 (hg j (by omega)).1 (hg j (by omega)).2.2
    · exact ⟨i1, Nat.le_trans i2 (Nat.mul_le_mul_right _ (by omega))⟩
theorem two_Rg : Rg 1024 1024 4611686018427387904 := ⟨by unfold NF; decide, by decide +kernel, by decide +kernel⟩
theorem core_all {gr : Nat → UInt64} {t : Nat} (hg : ∀ j, j < 4 → Rg 1015 1031 (gr (t * 4 + j))) : nnCore gr t :=
  fun gt ls j hj => ⟨vf_add (sm_up hg j (by omega)).1 (hg j hj).1, vf_div (sm_up hg 4 (by decide)).1 two_Rg.1 two_Rg.pos⟩
theorem prod_Rg {gr : Nat → UInt64} {g t : Nat} (ht : t ≤ 24) (hg : ∀ j, j < t → Rg 1015 1031 (gr ((1 + j) * 4 + g))) : ∀ j, j ≤ t → Rg (1023 - 8 * j) (1023 + 8 * j) (prodF gr g j)
  | 0, _ => one_Rg
  | j + 1, hj => (mul_Rg (prod_Rg ht hg j (by omega)) (hg j (by omega)) (by omega) (by omega)).mono (by omega) (by omega)
theorem direct_all {shr gr : Nat → UInt64} {t : Nat} (ht : t < 24) (hs : ∀ j, j < 4 → Ub 1023 (shr ((t * 5 + 0) * 4 + j))) (hg : ∀ m, m ≤ t → ∀ j, j < 4 → Rg 1015 1031 (gr (m * 4 + j))) : nnDirect shr gr t := by
  have hp : ∀ g, g < 4 → ∀ j, j ≤ t → Rg (1023 - 8 * j) (1023 + 8 * j) (prodF gr g j) := fun g hg' => prod_Rg (by omega) (fun j hj => hg (1 + j) (by omega) g hg')
  have hm : ∀ g, g < 4 → Ub 1207 (FP.dmul (shr ((t * 5 + 0) * 4 + g)) (prodF gr g t)) := fun g hg' => (mul_Ub (hs g hg') ((hp g hg' t (Nat.le_refl t)).ub.mono (b' := 1207) (by omega)) (by decide) (by decide)).mono (by decide)
  have hd : ∀ j, j ≤ 4 → NF (drF shr gr t j) ∧ uN (drF shr gr t j) ≤ j * 2 ^ (51 + 1207) := by
    intro j
    induction j with
    | zero => exact fun _ => ⟨NF_zero, by rw [show drF shr gr t 0 = 0 from rfl, uN_zero]; exact Nat.zero_le _⟩
    | succ j ih => exact fun hj => sum_mul (by omega) (by decide) (by decide) (ih (by omega)).1 (ih (by omega)).2 (hm j (by omega)).1 (hm j (by omega)).2
  exact ⟨fun g hg' j hj => vf_mul (hp g hg' j (by omega)).1 (hg (1 + j) (by omega) g hg').1, fun g hg' => ⟨(hm g hg').1.vf, vf_add (hd g (by omega)).1 (hm g hg').1⟩, vf_mul hund_Rg.1 (hd 4 (by decide)).1⟩
theorem ten_Rg : Rg 1026 1027 4621819117588971520 := ⟨by unfold NF; decide, by decide +kernel, by decide +kernel⟩
theorem half_Rg : Rg 1022 1022 4602678819172646912 := ⟨by unfold NF; decide, by decide +kernel, by decide +kernel⟩
theorem d2i_pos {z : UInt64} (hz : NF z) (h : 2 ^ 1074 ≤ uN z) : 1 ≤ (FP.d2i z).toInt := by
  have h1 := FP.Core.d2i_val hz.nn
  obtain ⟨c, q, k1, k2, k3⟩ := hz.shape
  rw [k1, k3] at h1
  have h2 : (FP.d2i z).toInt = max (-2 ^ 31) (min (2 ^ 31 - 1) (((uN z / FP.Core.one64 : Nat)) : Int)) := h1
  have h3 : 1 ≤ uN z / FP.Core.one64 := (Nat.le_div_iff_mul_le (Nat.two_pow_pos 1074)).mpr (by rw [Nat.one_mul]; exact h)
  generalize uN z / FP.Core.one64 = w at *
  omega
theorem num_all {x : UInt64} {b : Nat} (hb : 1000 ≤ b) (hb2 : b ≤ 1300) (h : Ub b x) : nnNum x ∧ 1 ≤ sNumN x := by
  have m1 := mul_Ub h ten_Rg.ub (by omega) (by omega)
  have m2 := add_Ub m1 half_Rg.ub (by omega) (by omega)
  have hp : 1 ≤ (sNum x).toInt := by
    unfold sNum
    split
    · decide
    · split
      · decide
      · rename_i h1 h2
        refine d2i_pos m2.1 ?_
        have h3 := (cmp_uN m2.1 one_uN.1).1
        rw [one_uN.2] at h3
        exact Nat.le_of_not_lt fun z => h2 (h3.mpr z)
  refine ⟨⟨m1.1.vf, m2.1.vf, by omega⟩, ?_⟩
  unfold sNumN
  omega
/-! numbers of the smaller size -/
theorem fp_vf32 {r : UInt32} (h : FP.Core.fIsNaN r = false) : vf_n32 r := by
  unfold vf_n32
  have h1 : ¬ 2139095040 < r.toNat % 2 ^ 31 := fun z => by
    rw [← FP.Core.isNaN_bits32, h] at z
    cases z
  rw [UInt32.le_iff_toNat_le, FP.Core.mask_toNat32]
  exact Nat.not_lt.mp h1
theorem d2f_c {a : UInt64} (h : FP.Core.dIsNaN a = false) : FP.d2f a = FP.Core.d2f a := by
  show (if FP.Core.dIsNaN a then _ else _) = _
  rw [h]; rfl
theorem f2d_c {a : UInt32} (h : FP.Core.fIsNaN a = false) : FP.f2d a = FP.Core.f2d a := by
  show (if FP.Core.fIsNaN a then _ else _) = _
  rw [h]; rfl
theorem d2f_in_range {x : UInt64} (h : Rg 880 1145 x) : FP.Core.FFin (FP.d2f x) ∧ ¬ FP.Core.FZero (FP.d2f x) := by
  obtain ⟨c, q, k1, k2, k3⟩ := h.1.shape
  have hd : FP.Core.val32 (FP.d2f x) = FP.Core.roundRatio FP.Core.b32 false c 1 q := by
    have := FP.Core.val32_d2f x
    rw [k1, ← d2f_c h.1.fin.notNaN] at this
    exact this
  have hq : FP.Core.b64.qmin ≤ q := k2.2.1
  have hu : FP.Core.inUnits c q FP.Core.b64.qmin = uN x := k3
  have e925 : (FP.Core.b32.qmin - FP.Core.b64.qmin).toNat = 925 := by decide
  have hle := FP.Core.mag_le FP.Core.good_b32 (n := (FP.d2f x).toNat) (m := 253 * 2 ^ 23) hd (by decide) (e0 := FP.Core.b64.qmin) (by decide) hq (by
    rw [hu, e925, Nat.mul_one]
    exact Nat.le_trans h.2.2 (by decide +kernel))
  have hge := FP.Core.mag_ge FP.Core.good_b32 (n := (FP.d2f x).toNat) (m := 1) hd (by decide) (e0 := FP.Core.b64.qmin) (by decide) hq (by decide) (by
    rw [hu, e925, Nat.mul_one]
    exact Nat.le_trans (by decide +kernel) h.2.1)
  rw [FP.Core.mag_toNat32] at hle hge
  exact ⟨(FP.Core.fin_bits32 _).mpr (by omega), fun z => by have := (FP.Core.zero_bits232 _).mp z; omega⟩
theorem onef_fin : FP.Core.FFin 1065353216 := (FP.Core.fin_bits32 _).mpr (by decide)
theorem grow_all {x : Nat → UInt64} {t : Nat} (h1 : NF (x (t * 5 + 0))) (h2 : Rg 880 1145 (x ((t - 12) * 5 + 0))) : nnGrow x t ∧ vf_n64 (FP.f2d (sGrow x t)) := by
  obtain ⟨f1, f2⟩ := d2f_in_range h2
  have a1 := FP.Core.d2f_out h1.fin.notNaN
  rw [← d2f_c h1.fin.notNaN] at a1
  have a2 := FP.Core.fdiv_out a1 f1 f2
  have a3 := FP.Core.fsub_out a2 onef_fin
  exact ⟨⟨fp_vf32 a1, fp_vf32 f1.notNaN, fp_vf32 a2, fp_vf32 a3⟩, fp_vf ((congrArg FP.Core.dIsNaN (f2d_c (a := sGrow x t) a3)).trans (FP.Core.f2d_out a3))⟩
/-! shares -/
theorem quarter_Rg : Rg 1021 1021 4598175219545276416 := ⟨by unfold NF; decide, by decide +kernel, by decide +kernel⟩
theorem frac_Ub {x y : UInt64} {m n : Nat} (hx : NF x ∧ uN x = m * 2 ^ 1074) (hy : NF y ∧ uN y = n * 2 ^ 1074) (h0 : 0 < n) (h : m ≤ n) : Ub 1023 (FP.ddiv x y) := by
  have hp : 0 < uN y := by rw [hy.2]; exact Nat.mul_pos h0 (Nat.two_pow_pos _)
  have h1 := div_le hx.1 hy.1 hp (m := 1023 * 2 ^ 52) (by
    rw [uN_start (by decide), hx.2, hy.2, Nat.mul_comm (2 ^ (51 + 1023))]
    exact Nat.mul_le_mul_right _ (Nat.mul_le_mul_right _ h))
  exact ⟨NF_of_le (by decide) h1, uN_ub (by decide) h1⟩
theorem frac_Rg {x y : UInt64} {m n : Nat} (hx : NF x ∧ uN x = m * 2 ^ 1074) (hy : NF y ∧ uN y = n * 2 ^ 1074) (h0 : 0 < n) (h : m ≤ n) (h4 : n ≤ 4 * m) : Rg 1021 1023 (FP.ddiv x y) := by
  have hp : 0 < uN y := by rw [hy.2]; exact Nat.mul_pos h0 (Nat.two_pow_pos _)
  have hu := frac_Ub hx hy h0 h
  have h1 := div_ge hx.1 hy.1 hp (m := 1021 * 2 ^ 52) (by decide) (by
    rw [uN_start (by decide), hx.2, hy.2]
    calc 2 ^ (51 + 1021) * (n * 2 ^ 1074) ≤ 2 ^ (51 + 1021) * (4 * m * 2 ^ 1074) := Nat.mul_le_mul_left _ (Nat.mul_le_mul_right _ h4)
      _ = m * 2 ^ 1074 * 2 ^ 1074 := by
        rw [show 4 * m = 2 ^ 2 * m from rfl, Nat.mul_assoc (2 ^ 2), Nat.mul_left_comm (2 ^ (51 + 1021)), ← Nat.mul_assoc, ← Nat.pow_add, show 2 + (51 + 1021) = 1074 by decide, Nat.mul_comm])
  exact ⟨hu.1, uN_lb (by decide) h1, hu.2⟩
theorem vS_3 (ad : Nat → Nat) (g : Nat) : vS ad g 3 = ad (0 * 4 + g) + ad (1 * 4 + g) + ad (2 * 4 + g) := by simp [vS]
theorem uS_4 (ad : Nat → Nat) (k : Nat) : uS ad k 4 = ad (k + 0) + ad (k + 1) + ad (k + 2) + ad (k + 3) := by simp [uS]
theorem wS_3 (ad : Nat → Nat) : wS ad 3 = uS ad (0 * 4) 4 + uS ad (1 * 4) 4 + uS ad (2 * 4) 4 := by simp [wS]
theorem shA_all {ad : Nat → Nat} (b : ∀ k, ad k ≤ 1000000000) : (∀ g, g < 4 → Ub 1023 (sShA ad g)) ∧ ∃ g, g < 4 ∧ Rg 1021 1023 (sShA ad g) := by
  have e0 := vS_3 ad 0
  have e1 := vS_3 ad 1
  have e2 := vS_3 ad 2
  have e3 := vS_3 ad 3
  have ew := wS_3 ad
  rw [uS_4, uS_4, uS_4] at ew
  simp only [Nat.zero_mul, Nat.one_mul, Nat.zero_add, Nat.reduceMul, Nat.reduceAdd] at e0 e1 e2 e3 ew
  have b0 := b 0; have b1 := b 1; have b2 := b 2; have b3 := b 3; have b4 := b 4; have b5 := b 5
  have b6 := b 6; have b7 := b 7; have b8 := b 8; have b9 := b 9; have b10 := b 10; have b11 := b 11
  unfold sShA
  by_cases hw : 0 < wS ad 3
  · simp only [if_pos hw]
    have hy := uN_l2d (n := wS ad 3) (by omega)
    have hall : ∀ g, g < 4 → vS ad g 3 ≤ wS ad 3 := by
      intro g hg
      rcases (show g = 0 ∨ g = 1 ∨ g = 2 ∨ g = 3 by omega) with rfl | rfl | rfl | rfl <;> omega
    refine ⟨fun g hg => frac_Ub (uN_l2d (by have := hall g hg; omega)) hy hw (hall g hg), ?_⟩
    rcases (show wS ad 3 ≤ 4 * vS ad 0 3 ∨ wS ad 3 ≤ 4 * vS ad 1 3 ∨ wS ad 3 ≤ 4 * vS ad 2 3 ∨ wS ad 3 ≤ 4 * vS ad 3 3 by omega) with h | h | h | h
    · exact ⟨0, by decide, frac_Rg (uN_l2d (by have := hall 0 (by decide); omega)) hy hw (hall 0 (by decide)) h⟩
    · exact ⟨1, by decide, frac_Rg (uN_l2d (by have := hall 1 (by decide); omega)) hy hw (hall 1 (by decide)) h⟩
    · exact ⟨2, by decide, frac_Rg (uN_l2d (by have := hall 2 (by decide); omega)) hy hw (hall 2 (by decide)) h⟩
    · exact ⟨3, by decide, frac_Rg (uN_l2d (by have := hall 3 (by decide); omega)) hy hw (hall 3 (by decide)) h⟩
  · simp only [if_neg hw]
    exact ⟨fun _ _ => quarter_Rg.ub.mono (by decide), 0, by decide, quarter_Rg.mono (by decide) (by decide)⟩
theorem shH_Ub {ad : Nat → Nat} (b : ∀ k, ad k ≤ 1000000000) {h g : Nat} (hg : g < 4) : Ub 1023 (sShH ad h g) := by
  unfold sShH
  have e := uS_4 ad (h * 4)
  have b0 := b (h * 4 + 0); have b1 := b (h * 4 + 1); have b2 := b (h * 4 + 2); have b3 := b (h * 4 + 3)
  split
  · rename_i hw
    have hle : ad (h * 4 + g) ≤ uS ad (h * 4) 4 := by
      rcases (show g = 0 ∨ g = 1 ∨ g = 2 ∨ g = 3 by omega) with rfl | rfl | rfl | rfl <;> omega
    exact frac_Ub (uN_i2d (by have := b (h * 4 + g); omega)) (uN_l2d (by omega)) hw hle
  · exact quarter_Rg.ub.mono (by decide)
theorem mhS_up {ad : Nat → Nat} (b : ∀ k, ad k ≤ 1000000000) {g : Nat} (hg : g < 4) : ∀ j, j ≤ 3 → NF (mhS ad g j) ∧ uN (mhS ad g j) ≤ mhN ad j * 2 ^ (51 + 1023)
  | 0, _ => ⟨NF_zero, by rw [show mhS ad g 0 = 0 from rfl, uN_zero]; exact Nat.zero_le _⟩
  | j + 1, hj => by
    obtain ⟨i1, i2⟩ := mhS_up b hg j (by omega)
    have hN := mhN_le ad j
    have hs := shH_Ub b (h := j) hg
    by_cases hu : 0 < uS ad (j * 4) 4
    · have e1 : mhS ad g (j + 1) = FP.dadd (mhS ad g j) (sShH ad j g) := by show (if _ then _ else _) = _; rw [if_pos hu]
      have e2 : mhN ad (j + 1) = mhN ad j + 1 := by show (if _ then _ else _) = _; rw [if_pos hu]
      rw [e1, e2]
      exact sum_mul (by omega) (by decide) (by decide) i1 i2 hs.1 hs.2
    · have e1 : mhS ad g (j + 1) = mhS ad g j := by show (if _ then _ else _) = _; rw [if_neg hu]
      have e2 : mhN ad (j + 1) = mhN ad j := by show (if _ then _ else _) = _; rw [if_neg hu]
      rw [e1, e2]; exact ⟨i1, i2⟩
theorem shM_all {ad : Nat → Nat} (b : ∀ k, ad k ≤ 1000000000) {g : Nat} (hg : g < 4) : nnShM ad g ∧ Ub 1023 (sShM ad g) := by
  obtain ⟨m1, m2⟩ := mhS_up b hg 3 (by decide)
  have hN := mhN_le ad 3
  have hd : 0 < mhN ad 3 → Ub 1023 (FP.ddiv (mhS ad g 3) (FP.i2d (nI (mhN ad 3)))) := fun h0 => by
    obtain ⟨k1, k2⟩ := uN_i2d (n := mhN ad 3) (by omega)
    have hp : 0 < uN (FP.i2d (nI (mhN ad 3))) := by rw [k2]; exact Nat.mul_pos h0 (Nat.two_pow_pos _)
    have h1 := div_le m1 k1 hp (m := 1023 * 2 ^ 52) (by
      rw [uN_start (by decide), k2, Nat.mul_comm (2 ^ (51 + 1023))]
      exact Nat.mul_le_mul_right _ m2)
    exact ⟨NF_of_le (by decide) h1, uN_ub (by decide) h1⟩
  refine ⟨⟨fun j hj => vf_add (mhS_up b hg j (by omega)).1 (shH_Ub b hg).1, fun h0 => (hd h0).1.vf⟩, ?_⟩
  unfold sShM
  split
  · rename_i h0; exact hd h0
  · exact quarter_Rg.ub.mono (by decide)
theorem mShr_Ub {ad : Nat → Nat} (b : ∀ k, ad k ≤ 1000000000) {kd g : Nat} (hg : g < 4) : Ub 1023 (mShr ad kd g) := by
  unfold mShr
  split
  · exact (shA_all b).1 g hg
  · split
    · exact (shM_all b hg).2
    · exact shH_Ub b hg
