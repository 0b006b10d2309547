/-! a month published: what holds then -/
theorem hF_at {ad : Nat → Nat} {t g : Nat} {f : Nat → UInt64} : ∀ {m h : Nat}, h < m → hF ad t g f m (t * 5 * 4 + g + (2 + h) * 4) = sShH ad h g
  | 0, _, h => absurd h (Nat.not_lt_zero _)
  | m + 1, h, hh => by
    show vf_upd _ _ _ _ = _
    by_cases e : h = m
    · subst e; exact upd_eq
    · rw [upd_ne (by omega)]; exact hF_at (by omega)
theorem hF_out {ad : Nat → Nat} {t g : Nat} {f : Nat → UInt64} {k : Nat} : ∀ {m : Nat}, (∀ h, h < m → k ≠ t * 5 * 4 + g + (2 + h) * 4) → hF ad t g f m k = f k
  | 0, _ => rfl
  | m + 1, hh => by
    show vf_upd _ _ _ _ = _
    rw [upd_ne (hh m (by omega))]; exact hF_out (fun h q => hh h (by omega))
theorem shF_in {ad : Nat → Nat} {t : Nat} {shr : Nat → UInt64} {kd g : Nat} (hkd : kd < 5) : ∀ {m : Nat}, g < m → m ≤ 4 → shF ad t shr m ((t * 5 + kd) * 4 + g) = mShr ad kd g
  | 0, h, _ => absurd h (Nat.not_lt_zero _)
  | m + 1, h, hm => by
    show hF ad t m (vf_upd (vf_upd (shF ad t shr m) _ _) _ _) 3 _ = _
    by_cases e : g = m
    · subst e
      rcases (show kd = 0 ∨ kd = 1 ∨ ∃ h, h < 3 ∧ kd = 2 + h from by
        rcases (show kd = 0 ∨ kd = 1 ∨ 2 ≤ kd by omega) with q | q | q
        · exact Or.inl q
        · exact Or.inr (Or.inl q)
        · exact Or.inr (Or.inr ⟨kd - 2, by omega, by omega⟩)) with q | q | ⟨h', q1, q2⟩
      · subst q
        rw [hF_out (fun h hh => by omega), upd_ne (by omega), show (t * 5 + 0) * 4 + g = t * 5 * 4 + g by omega, upd_eq]
        rfl
      · subst q
        rw [hF_out (fun h hh => by omega), show (t * 5 + 1) * 4 + g = t * 5 * 4 + g + 4 by omega, upd_eq]
        rfl
      · subst q2
        rw [show (t * 5 + (2 + h')) * 4 + g = t * 5 * 4 + g + (2 + h') * 4 by omega, hF_at q1]
        unfold mShr
        rw [if_neg (by omega), if_neg (by omega), Nat.add_sub_cancel_left]
    · rw [hF_out (fun h hh => by omega), upd_ne (by omega), upd_ne (by omega)]
      exact shF_in hkd (by omega) (by omega)
theorem shF_out {ad : Nat → Nat} {t : Nat} {shr : Nat → UInt64} {k : Nat} (hk : k < t * 20 ∨ t * 20 + 20 ≤ k) : ∀ {m : Nat}, m ≤ 4 → shF ad t shr m k = shr k
  | 0, _ => rfl
  | m + 1, hm => by
    show hF ad t m (vf_upd (vf_upd (shF ad t shr m) _ _) _ _) 3 _ = _
    rw [hF_out (fun h hh => by omega), upd_ne (by omega), upd_ne (by omega)]
    exact shF_out hk (by omega)
theorem mShr_congr {ad ad' : Nat → Nat} (h : ∀ q, q < 12 → ad q = ad' q) {kd g : Nat} (hkd : kd < 5) (hg : g < 4) : mShr ad kd g = mShr ad' kd g := by
  have hu : ∀ j, j < 3 → uS ad (j * 4) 4 = uS ad' (j * 4) 4 := fun j hj => by
    rw [uS_4, uS_4, h _ (by omega), h _ (by omega), h _ (by omega), h _ (by omega)]
  have hw : wS ad 3 = wS ad' 3 := by rw [wS_3, wS_3, hu 0 (by decide), hu 1 (by decide), hu 2 (by decide)]
  have hv : vS ad g 3 = vS ad' g 3 := by rw [vS_3, vS_3, h _ (by omega), h _ (by omega), h _ (by omega)]
  have hH : ∀ j, j < 3 → sShH ad j g = sShH ad' j g := fun j hj => by unfold sShH; rw [hu j hj, h _ (by omega)]
  have hN : ∀ j, j ≤ 3 → mhN ad j = mhN ad' j ∧ mhS ad g j = mhS ad' g j := by
    intro j
    induction j with
    | zero => exact fun _ => ⟨rfl, rfl⟩
    | succ j ih =>
      intro hj
      obtain ⟨i1, i2⟩ := ih (by omega)
      constructor
      · show (if _ then _ else _) = (if _ then _ else _)
        rw [hu j (by omega), i1]
      · show (if _ then _ else _) = (if _ then _ else _)
        rw [hu j (by omega), i2, hH j (by omega)]
  unfold mShr
  by_cases h0 : kd = 0
  · rw [if_pos h0, if_pos h0]; unfold sShA; rw [hw, hv]
  · rw [if_neg h0, if_neg h0]
    by_cases h1 : kd = 1
    · rw [if_pos h1, if_pos h1]; unfold sShM; rw [(hN 3 (by decide)).1, (hN 3 (by decide)).2]
    · rw [if_neg h1, if_neg h1]; exact hH _ (by omega)
theorem payS_num {lag trig t : Nat} {fl : Bool} {num num' : Nat → Nat} {c : Nat × Nat × Nat × Nat} (h : num (t - lag) = num' (t - lag)) : payS lag trig fl num t c = payS lag trig fl num' t c := by unfold payS; rw [h]
theorem rCw_0 (fx c : Nat → Nat) : rCw 0 fx c = c := by funext k; exact if_neg (fun z => by have := z.1; omega)
theorem sCw_f (cc c : Nat → Nat) : sCw false cc c = c := rfl
theorem sCw_t (cc c : Nat → Nat) : sCw true cc c = cc := rfl
/-- shares that stand in the rows of shares -/
theorem ShB_of {shr : Nat → UInt64} {f : Nat → Nat → Nat} {T : Nat} (b : ∀ t q, f t q ≤ 1000000000) (h : ∀ t, t < T → ∀ kd, kd < 5 → ∀ g, g < 4 → mShr (f t) kd g = shr ((t * 5 + kd) * 4 + g)) : ShB shr T := fun t ht => by
  refine ⟨fun kd hkd j hj => by rw [← h t ht kd hkd j hj]; exact mShr_Ub (b t) hj, ?_⟩
  obtain ⟨g, hg, hr⟩ := (shA_all (b t)).2
  exact ⟨g, hg, by rw [← h t ht 0 (by decide) g hg]; exact hr⟩
theorem payS_nx {lag trig t : Nat} {fl : Bool} {num : Nat → Nat} {c : Nat × Nat × Nat × Nat} (hn : ∀ q, q ≤ t → 1 ≤ num q) (hl : 1 ≤ c.2.1) (hm : c.2.2.1 < t) : 1 ≤ (payS lag trig fl num t c).2.1 ∧ (payS lag trig fl num t c).2.2.1 < t + 1 := by
  unfold payS
  split
  · exact ⟨hn _ (by omega), by show t - lag < t + 1; omega⟩
  · exact ⟨hl, by show c.2.2.1 < t + 1; omega⟩
theorem payS_b2 {lag trig t : Nat} {fl : Bool} {num : Nat → Nat} {c : Nat × Nat × Nat × Nat} (hn : ∀ k, num k ≤ 2147483647) (ht : t < 24) (h1 : c.1 ≤ 1000000000) (h2 : c.2.1 ≤ 2147483647) (h3 : c.2.2.1 ≤ 23) : (payS lag trig fl num t c).1 ≤ 1000000000 ∧ (payS lag trig fl num t c).2.1 ≤ 2147483647 ∧ (payS lag trig fl num t c).2.2.1 ≤ 23 := by
  unfold payS
  split
  · exact ⟨pW_le _ _ _, hn _, by show t - lag ≤ 23; omega⟩
  · exact ⟨h1, h2, h3⟩
theorem cuF_bd {f a : Nat → Nat} {B : Nat} (h1 : ∀ k, f k ≤ B) (h2 : ∀ k, a k ≤ B) : ∀ j k, cuF f a j k ≤ B
  | 0 => h2
  | j + 1 => upd_bd (cuF_bd h1 h2 j) (h1 j)
theorem PInv.publish {nw : Nat} {n : Nat} {nc : Nat} {cents : Nat → Nat} {grams : Nat → Nat} {cf : Nat → Bool} {cc : Nat → Nat} {fx : Nat → Bool} {lc : Nat → Nat} {lg : Nat → Nat} {told : Nat → Nat} {adp : Nat → Nat} {shr : Nat → UInt64} {pr : Nat → UInt64} {rel : Nat → UInt64} {grp : Nat → UInt64} {idx : Nat → UInt64} {rel2 : Nat → UInt64} {pr2 : Nat → UInt64} {num : Nat → Nat} {cnum : Nat → Nat} {mgr : Nat → Nat} {mme : Nat → Nat} {mse : Nat → Nat} {mfx : Nat → Nat} {msp : Nat → Nat} {mpr : Nat → UInt64} {mim : Nat → Bool} {mre : Nat → UInt64} {mog : Nat → UInt64} {mix : Nat → UInt64} {mnu : Nat → Nat} {mla : Nat → Nat} {mtr : Nat → Nat} {mfw : Nat → Nat} {mfm : Nat → Nat} {mwa : Nat → Nat} {mls : Nat → Nat} {mlm : Nat → Nat} {mpa : Nat → Nat} {mfl : Nat → Bool} {shr1 : Nat → UInt64} {rel1 : Nat → UInt64} {pr1 : Nat → UInt64} {grp1 : Nat → UInt64} {idx1 : Nat → UInt64} {num1 : Nat → Nat} {msp1 : Nat → Nat} {mre1 : Nat → UInt64} {mog1 : Nat → UInt64} {mix1 : Nat → UInt64} {mim1 : Nat → Bool} {mpr1 : Nat → UInt64} {mnu1 : Nat → Nat} (h : PInv nw n nc cents grams cf cc fx lc lg told adp shr pr rel grp idx rel2 pr2 num cnum mgr mme mse mfx msp mpr mim mre mog mix mnu mla mtr mfw mfm mwa mls mlm mpa) (hnw : nw < 24) (hshr1 : shr1 = shF adp nw shr 4) (hrel1 : rel1 = relF (sIts cf cents grams lc lg pr mme nw) nw rel n) (hpr1 : pr1 = prF (sVal cf cents grams lc lg pr mme nw) nw pr n) (hgrp1 : grp1 = grpF mgr rel1 n nw grp 4) (hidx1 : idx1 = idxF shr1 grp1 idx nw 5) (hnum1 : num1 = vf_upd num nw (sNumN (idx1 (nw * 5 + 0)))) (hmsp1 : msp1 = nF adp (12 * nw) msp 12) (hmre1 : mre1 = uF (sIts cf cents grams lc lg pr mme nw) (12 * (24 * 0 + nw)) mre n) (hmog1 : mog1 = uF (fun g => sGrp mgr (fun k => mre1 (288 * 0 + k)) n g nw) (4 * (24 * 0 + nw)) mog 4) (hmix1 : mix1 = uF (fun k => ixV shr1 (fun k => mog1 (96 * 0 + k)) (fun q => mix (120 * 0 + q)) nw k) (5 * (24 * 0 + nw)) mix 5) (hmim1 : mim1 = bO (rK cf cents grams lc lg pr) (1152 * 0) nw mim n) (hmpr1 : mpr1 = prO (sVal cf cents grams lc lg pr mme nw) (1152 * 0) nw mpr n) (hmnu1 : mnu1 = vf_upd mnu (24 * 0 + nw) (sNumN (mix1 (120 * 0 + (nw * 5 + 0))))) : (∀ g, g < 4 → nnShM adp g) ∧ nnMonth cf cents grams lc lg pr mgr mme n nw rel1 shr1 grp1 idx ∧ nnNum (idx1 (nw * 5 + 0)) ∧ (∀ i, i < n → ∀ j, j < 4 → P0 (sRate cents grams (48 * nw + 4 * i + j)) ∧ P0 (sBase lc lg pr (48 * nw + 4 * i + j))) ∧ (∀ i, i < n → nnItem cf cents grams lc lg pr (mme i) nw i) ∧ (∀ g, g < 4 → nnGrp mgr (fun k => mre1 (288 * 0 + k)) n g nw) ∧ (∀ g, g < 4 → nnShM (fun k => msp1 (12 * nw + k)) g) ∧ (∀ k, k < 5 → ∀ g, g < 4 → mShr (fun k => msp1 (12 * nw + k)) k g = shr1 ((nw * 5 + k) * 4 + g)) ∧ (∀ k, k < 5 → nnStep shr1 (fun k => mog1 (96 * 0 + k)) k nw) ∧ (∀ k, k < 5 → nw ≠ 0 → vf_n64 (FP.dmul (mix (120 * 0 + ((nw - 1) * 5 + k))) (sStep shr1 (fun k => mog1 (96 * 0 + k)) k nw 4))) ∧ nnNum (mix1 (120 * 0 + (nw * 5 + 0))) ∧ mnu1 nw = sNumN (idx1 (nw * 5 + 0)) ∧ (∀ k, k < nc → payS (mla k) (mtr k) (mfl k) num1 nw (mwa k, mls k, mlm k, mpa k) = pyM mla mtr mfl mnu1 nw mwa mls mlm mpa k) ∧ PInv (nw + 1) n nc cents grams cf cc fx lc lg told adp shr1 pr1 rel1 grp1 idx1 rel2 pr2 num1 cnum mgr mme mse mfx msp1 mpr1 mim1 mre1 mog1 mix1 mnu1 mla mtr mfw mfm (cuF (fun k => (pyM mla mtr mfl mnu1 nw mwa mls mlm mpa k).1) mwa nc) (cuF (fun k => (pyM mla mtr mfl mnu1 nw mwa mls mlm mpa k).2.1) mls nc) (cuF (fun k => (pyM mla mtr mfl mnu1 nw mwa mls mlm mpa k).2.2.1) mlm nc) (cuF (fun k => (pyM mla mtr mfl mnu1 nw mwa mls mlm mpa k).2.2.2) mpa nc) := by
  obtain ⟨hw, hn, hc, b_cents, b_grams, b_cc, b_lc, b_lg, b_told, b_adp, b_num, b_cnum, b_mgr, b_mme, b_mse, b_mfx, b_msp, b_mnu, b_mla, b_mtr, b_mfw, b_mfm, b_mwa, b_mls, b_mlm, hcg, hgm, hlg, hcc, hfx, hdz, hser, hz1, hz2, hz3, hm1, hm2, hm3, hm4, hm5, hm6, hm7, hsh, hk1, hk2, hpa⟩ := h
  have hb : DatB cents grams lc lg := ⟨b_cents, b_grams, b_lc, b_lg⟩
  have hb2 : ∀ k, msp1 k ≤ 1000000000 := by rw [hmsp1]; exact nF_le b_msp b_adp 12
  have hmi : ∀ q, q < 12 → msp1 (12 * nw + q) = adp q := fun q hq => by rw [hmsp1]; exact nF_in hq
  have hmo : ∀ k, k < 12 * nw → msp1 k = msp k := fun k hk => by rw [hmsp1]; exact nF_out (Or.inl hk)
  have hs1 : ∀ t, t < nw + 1 → ∀ kd, kd < 5 → ∀ g, g < 4 → mShr (fun q => msp1 (12 * t + q)) kd g = shr1 ((t * 5 + kd) * 4 + g) := fun t ht kd hkd g hg => by
    rcases Nat.lt_or_ge t nw with q | q
    · rw [hshr1, shF_out (Or.inl (by omega)) (Nat.le_refl 4), ← hsh t q kd hkd g hg]
      exact mShr_congr (fun q' hq' => hmo _ (by omega)) hkd hg
    · have e : t = nw := by omega
      subst e
      rw [hshr1, shF_in hkd hg (Nat.le_refl 4)]
      exact mShr_congr (fun q' hq' => hmi q' hq') hkd hg
  have hS : ShB shr1 (nw + 1) := ShB_of (f := fun t q => msp1 (12 * t + q)) (fun t q => hb2 _) hs1
  have hserA : SerOK cf cents grams lc lg mme mgr shr1 rel pr grp idx nw := hser.congr (fun k _ => ⟨rfl, rfl, rfl, rfl, rfl⟩) (fun k hk => by rw [hshr1]; exact (shF_out (Or.inl (by omega)) (Nat.le_refl 4)).symm) (fun _ _ => Or.inl ⟨rfl, rfl⟩)
  have hM : Mth cf cents grams lc lg mme mgr n shr1 pr rel pr grp idx rel1 pr1 grp1 idx1 nw := by rw [hidx1, hgrp1, hpr1, hrel1]; exact Mth_F
  have hserB := SerOK.step hn hnw hserA (fun _ _ => rfl) hdz hz1 hM
  have hB := SerOK.bounds hb hS (by omega) hserB
  have hpv : nw ≠ 0 → SerB rel pr grp idx (nw - 1) := fun h0 => SerOK.bounds hb (fun t ht => hS t (by omega)) (by omega) hserA (nw - 1) (by omega)
  obtain ⟨a1, a2, a3, a4, a5, a6⟩ := month_nn (cf := cf) (M := mme) (G := mgr) (pr0 := pr) hn hb hS hnw (fun _ _ => rfl) hpv (hB nw (by omega))
  have er : ∀ k, k < 288 → mre1 k = rel1 k := fun k hk => by
    rcases Nat.lt_or_ge k (nw * 12) with q | q
    · rw [hmre1, hrel1, uF_out (Or.inl (by omega)), relF_out (Or.inl q)]; exact hm2 k hk
    · rcases Nat.lt_or_ge k (nw * 12 + n) with q2 | q2
      · have e : k = nw * 12 + (k - nw * 12) := by omega
        rw [hmre1, hrel1, e, uF_at (i := k - nw * 12) (by omega) (by omega), relF_in (by omega)]
      · rw [hmre1, hrel1, uF_out (Or.inr (by omega)), relF_out (Or.inr q2)]; exact hm2 k hk
  have hMU : Mth cf cents grams lc lg mme mgr n shr1 pr (fun k => mre (288 * 0 + k)) (fun k => mpr (1152 * 0 + k)) (fun k => mog (96 * 0 + k)) (fun k => mix (120 * 0 + k)) (fun k => mre1 (288 * 0 + k)) (fun k => mpr1 (1152 * 0 + k)) (fun k => mog1 (96 * 0 + k)) (fun k => mix1 (120 * 0 + k)) nw := by
    rw [hmix1, hmog1, hmpr1, hmre1]; exact Mth_U (s := (mim, mre, mpr, mog, mix, mnu)) hn
  have eg : ∀ k, k < 96 → mog1 k = grp1 k := fun k hk => by
    rcases Nat.lt_or_ge k (nw * 4) with q | q
    · rw [hmog1, hgrp1, uF_out (Or.inl (by omega)), grpF_out (Or.inl q)]; exact hm3 k hk
    · rcases Nat.lt_or_ge k (nw * 4 + 4) with q2 | q2
      · have e : k = nw * 4 + (k - nw * 4) := by omega
        rw [hmog1, hgrp1, e, uF_at (i := k - nw * 4) (by omega) (by omega), grpF_in (by omega)]
        exact sGrp_congr (fun i hi => ⟨by show mre1 (288 * 0 + (nw * 12 + i)) = _; rw [show 288 * 0 + (nw * 12 + i) = nw * 12 + i by omega]; exact er _ (by omega), Or.inl rfl⟩)
      · rw [hmog1, hgrp1, uF_out (Or.inr (by omega)), grpF_out (Or.inr q2)]; exact hm3 k hk
  have eg' : ∀ i, i < 4 → mog1 (96 * 0 + (nw * 4 + i)) = grp1 (nw * 4 + i) := fun i hi => by rw [show 96 * 0 + (nw * 4 + i) = nw * 4 + i by omega]; exact eg _ (by omega)
  have ex : ∀ k, k < 120 → mix1 k = idx1 k := fun k hk => by
    rcases Nat.lt_or_ge k (nw * 5) with q | q
    · rw [hmix1, hidx1, uF_out (Or.inl (by omega)), idxF_out (Or.inl q)]; exact hm4 k hk
    · rcases Nat.lt_or_ge k (nw * 5 + 5) with q2 | q2
      · have e : k = nw * 5 + (k - nw * 5) := by omega
        rw [hmix1, hidx1, e, uF_at (i := k - nw * 5) (by omega) (by omega), idxF_in (by omega)]
        exact ixV_congr (fun i hi => ⟨rfl, eg' i hi⟩) (fun h0 => by show mix (120 * 0 + _) = _; rw [show 120 * 0 + ((nw - 1) * 5 + (k - nw * 5)) = (nw - 1) * 5 + (k - nw * 5) by omega]; exact hm4 _ (by omega))
      · rw [hmix1, hidx1, uF_out (Or.inr (by omega)), idxF_out (Or.inr q2)]; exact hm4 k hk
  have ep : ∀ k, k < 1152 → mpr1 k = pr1 k := fun k hk => by
    rcases Nat.lt_or_ge k (nw * 48) with q | q
    · rw [hmpr1, hpr1, prO_out (Or.inl (by omega)), prF_out (Or.inl q)]; exact hm1 k hk
    · rcases Nat.lt_or_ge k (nw * 48 + n * 4) with q2 | q2
      · have e : k = nw * 48 + (k - nw * 48) / 4 * 4 + 0 + (k - nw * 48) % 4 := by omega
        have e2 : k = 1152 * 0 + (nw * 48 + (k - nw * 48) / 4 * 4 + 0 + (k - nw * 48) % 4) := by omega
        have l1 : mpr1 k = sVal cf cents grams lc lg pr mme nw ((k - nw * 48) / 4) (nw * 48 + (k - nw * 48) / 4 * 4 + 0 + (k - nw * 48) % 4) := (congrArg mpr1 e2).trans (by rw [hmpr1]; exact prO_in (by omega) (by omega))
        have l2 : pr1 k = sVal cf cents grams lc lg pr mme nw ((k - nw * 48) / 4) (nw * 48 + (k - nw * 48) / 4 * 4 + 0 + (k - nw * 48) % 4) := (congrArg pr1 e).trans (by rw [hpr1]; exact prF_in (by omega) (by omega))
        exact l1.trans l2.symm
      · rw [hmpr1, hpr1, prO_out (Or.inr (by omega)), prF_out (Or.inr q2)]; exact hm1 k hk
  have hpp : prEq nw pr1 pr := fun k hk => hM.p3 k hk
  have exn : mix1 (120 * 0 + (nw * 5 + 0)) = idx1 (nw * 5 + 0) := by rw [show 120 * 0 + (nw * 5 + 0) = nw * 5 + 0 by omega]; exact ex _ (by omega)
  have enu : ∀ k, k < 24 → mnu1 k = num1 k := fun k hk => by
    rw [hmnu1, hnum1, exn, show 24 * 0 + nw = nw by omega]
    by_cases e : k = nw
    · rw [e, upd_eq, upd_eq]
    · rw [upd_ne e, upd_ne e]; exact hm5 k hk
  have hnu : ∀ t, t < nw + 1 → 1 ≤ num1 t := fun t ht => by
    rw [hnum1]
    by_cases e : t = nw
    · rw [e, upd_eq]; exact a6
    · rw [upd_ne e]; exact hk2 t (by omega)
  have b_num1 : ∀ k, num1 k ≤ 2147483647 := by rw [hnum1]; exact upd_bd b_num (sNumN_le _)
  have b_mnu1 : ∀ k, mnu1 k ≤ 2147483647 := by rw [hmnu1]; exact upd_bd b_mnu (sNumN_le _)
  have hpy : ∀ k, (pyM mla mtr mfl mnu1 nw mwa mls mlm mpa k).1 ≤ 1000000000 ∧ (pyM mla mtr mfl mnu1 nw mwa mls mlm mpa k).2.1 ≤ 2147483647 ∧ (pyM mla mtr mfl mnu1 nw mwa mls mlm mpa k).2.2.1 ≤ 23 := fun k => payS_b2 b_mnu1 hnw (b_mwa k) (b_mls k) (b_mlm k)
  have hstep := hS nw (by omega)
  have hgB : ∀ j, j < 4 → Rg 1015 1031 ((fun k => mog1 (96 * 0 + k)) (nw * 4 + j)) := fun j hj => by show Rg _ _ (mog1 (96 * 0 + (nw * 4 + j))); rw [eg' j hj]; exact (hB nw (by omega)).2.2.1 j hj
  refine ⟨fun g hg => (shM_all b_adp hg).1, ⟨a1, a2, fun k hk h0 => ⟨a3 k hk, a4 k hk h0⟩⟩, a5, fun i hi j hj => (pos_of hb hnw (fun _ _ => rfl) hpv).2 _ (by omega) (by omega), a1, fun g hg => (grp_all hn (fun i hi => ?_)).1, fun g hg => (shM_all (fun k => hb2 _) hg).1, fun k hk g hg => hs1 nw (by omega) k hk g hg, fun k hk => (step_all (hstep.1 k hk) hgB).1, fun k hk h0 => ?_, by rw [exn]; exact a5, ?_, fun k hk => ?_, ?_⟩
  · show RZ _ _ (mre1 (288 * 0 + (nw * 12 + i)))
    rw [show 288 * 0 + (nw * 12 + i) = nw * 12 + i by omega, er _ (by omega)]
    exact (hB nw (by omega)).2.1 i (by omega)
  · rw [show 120 * 0 + ((nw - 1) * 5 + k) = (nw - 1) * 5 + k by omega, hm4 _ (by omega)]
    exact (ix_all hnw (hstep.1 k hk) hgB (fun h => (hpv h).2.2.2.1 k hk)).1 h0
  · rw [enu nw hnw, hnum1, upd_eq]
  · exact payS_num (enu _ (by omega)).symm
  · exact ⟨hnw, hn, hc, b_cents, b_grams, b_cc, b_lc, b_lg, b_told, b_adp, b_num1, b_cnum, b_mgr, b_mme, b_mse, b_mfx, hb2, b_mnu1, b_mla, b_mtr, b_mfw, b_mfm, cuF_bd (fun k => (hpy k).1) b_mwa nc, cuF_bd (fun k => (hpy k).2.1) b_mls nc, cuF_bd (fun k => (hpy k).2.2) b_mlm nc, hcg, hgm, hlg, hcc, hfx, hdz, hserB, RowZ.step hz1 hM (fun k hk => by rw [hrel1]; exact relF_out (Or.inr (by omega))) (fun k hk => by rw [hpr1]; exact prF_out (Or.inr (by omega))), hz2, fun t ht i h1 h2 => by
      obtain ⟨z1, z2⟩ := hz3 t ht i h1 h2
      refine ⟨?_, fun j hj => ?_⟩
      · show mre1 (288 * 1 + (t * 12 + i)) = 0
        rw [hmre1, uF_out (Or.inr (by omega))]; exact z1
      · show mpr1 (1152 * 1 + (t * 48 + i * 4 + 0 + j)) = 0
        rw [hmpr1, prO_out (Or.inr (by omega))]; exact z2 j hj, ep, er, eg, ex, enu, fun k hk => by
      rw [rK_eq hpp (by omega)]
      rcases Nat.lt_or_ge k (nw * 48) with q | q
      · rw [hmim1, bO_out (Or.inl (by omega))]; exact hm6 k q
      · rcases Nat.lt_or_ge k (nw * 48 + n * 4) with q2 | q2
        · have e : k = nw * 48 + (k - nw * 48) / 4 * 4 + 0 + (k - nw * 48) % 4 := by omega
          have e2 : k = 1152 * 0 + (nw * 48 + (k - nw * 48) / 4 * 4 + 0 + (k - nw * 48) % 4) := by omega
          have l1 : mim1 k = rK cf cents grams lc lg pr (nw * 48 + (k - nw * 48) / 4 * 4 + 0 + (k - nw * 48) % 4) := (congrArg mim1 e2).trans (by rw [hmim1]; exact bO_in (by omega) (by omega))
          exact l1.trans (congrArg _ e.symm)
        · rw [hmim1, bO_out (Or.inr (by omega)), hm7 k (by omega) (by omega)]
          have e : k = nw * 48 + (k - nw * 48) / 4 * 4 + 0 + (k - nw * 48) % 4 := by omega
          have hg0 := (hdz nw ((k - nw * 48) / 4) (by omega) (by omega) ((k - nw * 48) % 4) (by omega)).2.1
          rw [← e] at hg0
          unfold rK
          rw [show sRate cents grams k = 0 from if_pos hg0]
          exact (sIn_00 _ _).symm, fun k h1 h2 => by rw [hmim1, bO_out (Or.inr (by omega))]; exact hm7 k (by omega) h2, hs1, fun k hk => by
      obtain ⟨k1, k2, k3⟩ := hk1 k hk
      rw [cuF_lo hk, cuF_lo hk]
      obtain ⟨n1, n2⟩ := payS_nx (lag := mla k) (trig := mtr k) (fl := mfl k) (num := mnu1) (t := nw) (c := (mwa k, mls k, mlm k, mpa k)) (fun q hq => by rw [enu q (by omega)]; exact hnu q (by omega)) k1 k2
      exact ⟨n1, n2, by omega⟩, hnu, fun k hk => (cuF_hi hk).trans (hpa k hk)⟩
