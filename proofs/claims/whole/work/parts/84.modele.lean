theorem c_X7_meanOf_f (l : Launch) {D : va_G} {y : Nat → Nat} {ws : va_W} {x_mod_0 : Value} {x_mod_1 : Value} {x_mod_2 : Value} {x_mod_4 : Value} {x_mod_5 : Value} {x_mod_6 : Value} {x_mod_7 : Value} {x_mod_11 : Value} {x_mod_14 : Value} {x_mod_15 : Value} {x_mod_16 : Value} {x_mod_19 : Value} {x_mod_20 : Value} {x_mod_21 : Value} {x_mod_22 : Value} {x_mod_23 : Value} {x_mod_24 : Value} {x_mod_25 : Value} {x_mod_26 : Value} {x_mod_27 : Value} {x_mod_28 : Value} {x_mod_29 : Value} {x_mod_30 : Value} {x_mod_31 : Value} {x_mod_32 : Value} {p_mod p_mce p_mgm p_mfx p_mlc p_mlg p_mpr p_mim p_mme a_mod a_mce a_mgm a_mfx a_mlc a_mlg a_mpr a_mim a_mme : Nat} {mce : Nat → Nat} {mgm : Nat → Nat} {mfx : Nat → Nat} {mlc : Nat → Nat} {mlg : Nat → Nat} {mpr : Nat → UInt64} {mim : Nat → Bool} {mme : Nat → Nat} {t i sd : Nat} (f0_mod : ws[p_mod]? = some (a_mod, .inr (8, x_mod_0 :: x_mod_1 :: x_mod_2 :: .ref a_mme :: x_mod_4 :: x_mod_5 :: x_mod_6 :: x_mod_7 :: .ref a_mce :: .ref a_mgm :: .ref a_mfx :: x_mod_11 :: .ref a_mlc :: .ref a_mlg :: x_mod_14 :: x_mod_15 :: x_mod_16 :: .ref a_mpr :: .ref a_mim :: x_mod_19 :: x_mod_20 :: x_mod_21 :: x_mod_22 :: x_mod_23 :: x_mod_24 :: x_mod_25 :: x_mod_26 :: x_mod_27 :: x_mod_28 :: x_mod_29 :: x_mod_30 :: x_mod_31 :: x_mod_32 :: []))) (f0_mce : ws[p_mce]? = some (a_mce, eN y 1152 mce)) (f0_mgm : ws[p_mgm]? = some (a_mgm, eN y 1152 mgm)) (f0_mfx : ws[p_mfx]? = some (a_mfx, eN y 1152 mfx)) (f0_mlc : ws[p_mlc]? = some (a_mlc, eN y 1152 mlc)) (f0_mlg : ws[p_mlg]? = some (a_mlg, eN y 1152 mlg)) (f0_mpr : ws[p_mpr]? = some (a_mpr, eD y 2304 mpr)) (f0_mim : ws[p_mim]? = some (a_mim, eZ y 2304 mim)) (f0_mme : ws[p_mme]? = some (a_mme, eN y 12 mme)) (b_mce : ∀ k, mce k ≤ 100000) (b_mgm : ∀ k, mgm k ≤ 10000) (b_mfx : ∀ k, mfx k ≤ 100000) (b_mlc : ∀ k, mlc k ≤ 100000) (b_mlg : ∀ k, mlg k ≤ 10000) (b_mme : ∀ k, mme k ≤ 2) (ht : t < 24) (hi : i < 12) (hsd : sd ≤ 1) (hgm : ∀ k, mgm k = 0 → mce k = 0 ∧ mfx k = 0) (hlg : ∀ k, mlg k = 0 → mlc k = 0) (hm : nnMean (mme i) (fun k => mim (1152 * sd + k)) (mRate (rCw sd mfx mce) mgm) (sBase mlc mlg (fun k => mpr (1152 * sd + k))) (48 * t + 4 * i)) : gMd l yX7_meanOf wsX7_meanOf ({ frames := 2, cells := 0, slots := 0, locals := 47 }) D y [.ref a_mod, .int (nI (t)), .int (nI (i)), .int (nI (sd)), .int (gb (false))] ws (fun r (_ : Unit) => r = sMean (mme i) (fun k => mim (1152 * sd + k)) (mRate (rCw sd mfx mce) mgm) (sBase mlc mlg (fun k => mpr (1152 * sd + k))) (48 * t + 4 * i)) (fun (_ : Unit) => ws) := by
  by_cases hz : mme i = 0
  · exact c_X7_meanOf_f0 l f0_mod f0_mce f0_mgm f0_mfx f0_mlc f0_mlg f0_mpr f0_mim f0_mme b_mce b_mgm b_mfx b_mlc b_mlg b_mme ht hi hsd hgm hlg hz hm
  · exact c_X7_meanOf_f1 l f0_mod f0_mce f0_mgm f0_mfx f0_mlc f0_mlg f0_mpr f0_mim f0_mme b_mce b_mgm b_mfx b_mlc b_mlg b_mme ht hi hsd hgm hlg hz hm

theorem c_X7_meanOf_t (l : Launch) {D : va_G} {y : Nat → Nat} {ws : va_W} {x_mod_0 : Value} {x_mod_1 : Value} {x_mod_2 : Value} {x_mod_4 : Value} {x_mod_5 : Value} {x_mod_6 : Value} {x_mod_7 : Value} {x_mod_11 : Value} {x_mod_14 : Value} {x_mod_15 : Value} {x_mod_16 : Value} {x_mod_19 : Value} {x_mod_20 : Value} {x_mod_21 : Value} {x_mod_22 : Value} {x_mod_23 : Value} {x_mod_24 : Value} {x_mod_25 : Value} {x_mod_26 : Value} {x_mod_27 : Value} {x_mod_28 : Value} {x_mod_29 : Value} {x_mod_30 : Value} {x_mod_31 : Value} {x_mod_32 : Value} {p_mod p_mce p_mgm p_mfx p_mlc p_mlg p_mpr p_mim p_mme a_mod a_mce a_mgm a_mfx a_mlc a_mlg a_mpr a_mim a_mme : Nat} {mce : Nat → Nat} {mgm : Nat → Nat} {mfx : Nat → Nat} {mlc : Nat → Nat} {mlg : Nat → Nat} {mpr : Nat → UInt64} {mim : Nat → Bool} {mme : Nat → Nat} {t i sd : Nat} (f0_mod : ws[p_mod]? = some (a_mod, .inr (8, x_mod_0 :: x_mod_1 :: x_mod_2 :: .ref a_mme :: x_mod_4 :: x_mod_5 :: x_mod_6 :: x_mod_7 :: .ref a_mce :: .ref a_mgm :: .ref a_mfx :: x_mod_11 :: .ref a_mlc :: .ref a_mlg :: x_mod_14 :: x_mod_15 :: x_mod_16 :: .ref a_mpr :: .ref a_mim :: x_mod_19 :: x_mod_20 :: x_mod_21 :: x_mod_22 :: x_mod_23 :: x_mod_24 :: x_mod_25 :: x_mod_26 :: x_mod_27 :: x_mod_28 :: x_mod_29 :: x_mod_30 :: x_mod_31 :: x_mod_32 :: []))) (f0_mce : ws[p_mce]? = some (a_mce, eN y 1152 mce)) (f0_mgm : ws[p_mgm]? = some (a_mgm, eN y 1152 mgm)) (f0_mfx : ws[p_mfx]? = some (a_mfx, eN y 1152 mfx)) (f0_mlc : ws[p_mlc]? = some (a_mlc, eN y 1152 mlc)) (f0_mlg : ws[p_mlg]? = some (a_mlg, eN y 1152 mlg)) (f0_mpr : ws[p_mpr]? = some (a_mpr, eD y 2304 mpr)) (f0_mim : ws[p_mim]? = some (a_mim, eZ y 2304 mim)) (f0_mme : ws[p_mme]? = some (a_mme, eN y 12 mme)) (b_mce : ∀ k, mce k ≤ 100000) (b_mgm : ∀ k, mgm k ≤ 10000) (b_mfx : ∀ k, mfx k ≤ 100000) (b_mlc : ∀ k, mlc k ≤ 100000) (b_mlg : ∀ k, mlg k ≤ 10000) (b_mme : ∀ k, mme k ≤ 2) (ht : t < 24) (hi : i < 12) (hsd : sd ≤ 1) (hgm : ∀ k, mgm k = 0 → mce k = 0 ∧ mfx k = 0) (hlg : ∀ k, mlg k = 0 → mlc k = 0) (hm : nnMean (mme i) (fun k => mim (1152 * sd + k)) (sBase mlc mlg (fun k => mpr (1152 * sd + k))) (mRate (rCw sd mfx mce) mgm) (48 * t + 4 * i)) : gMd l yX7_meanOf wsX7_meanOf ({ frames := 2, cells := 0, slots := 0, locals := 47 }) D y [.ref a_mod, .int (nI (t)), .int (nI (i)), .int (nI (sd)), .int (gb (true))] ws (fun r (_ : Unit) => r = sMean (mme i) (fun k => mim (1152 * sd + k)) (sBase mlc mlg (fun k => mpr (1152 * sd + k))) (mRate (rCw sd mfx mce) mgm) (48 * t + 4 * i)) (fun (_ : Unit) => ws) := by
  by_cases hz : mme i = 0
  · exact c_X7_meanOf_t0 l f0_mod f0_mce f0_mgm f0_mfx f0_mlc f0_mlg f0_mpr f0_mim f0_mme b_mce b_mgm b_mfx b_mlc b_mlg b_mme ht hi hsd hgm hlg hz hm
  · exact c_X7_meanOf_t1 l f0_mod f0_mce f0_mgm f0_mfx f0_mlc f0_mlg f0_mpr f0_mim f0_mme b_mce b_mgm b_mfx b_mlc b_mlg b_mme ht hi hsd hgm hlg hz hm

def mTie (last trig : Nat) (fl : Bool) (n : Nat) : Bool := decide (last * (1000 + trig) ≤ n * 1000 ∨ (fl = false ∧ n * 1000 ≤ last * (1000 - trig)))
theorem mTie_eq {last trig : Nat} {fl : Bool} {n : Nat} (h : 1 ≤ last) : mTie last trig fl n = tie last trig fl n := by
  unfold mTie tie
  refine decide_eq_decide.mpr ?_
  exact ⟨fun z => ⟨h, z⟩, fun z => z.2⟩
theorem in_c_X7_ties_RX7 : ∀ w ∈ wsX70, w ∈ wsX7_ties := by decide +kernel
set_option maxHeartbeats 4000000 in
set_option maxRecDepth 100000 in
theorem c_X7_ties (l : Launch) {D : va_G} {y : Nat → Nat} {ws : va_W} {x_mod_0 : Value} {x_mod_1 : Value} {x_mod_2 : Value} {x_mod_3 : Value} {x_mod_4 : Value} {x_mod_5 : Value} {x_mod_6 : Value} {x_mod_7 : Value} {x_mod_8 : Value} {x_mod_9 : Value} {x_mod_10 : Value} {x_mod_11 : Value} {x_mod_12 : Value} {x_mod_13 : Value} {x_mod_14 : Value} {x_mod_15 : Value} {x_mod_16 : Value} {x_mod_17 : Value} {x_mod_18 : Value} {x_mod_19 : Value} {x_mod_20 : Value} {x_mod_21 : Value} {x_mod_22 : Value} {x_mod_23 : Value} {x_mod_24 : Value} {x_mod_27 : Value} {x_mod_28 : Value} {x_mod_29 : Value} {x_mod_30 : Value} {x_mod_31 : Value} {x_mod_32 : Value} {p_mod p_mtr p_mfl a_mod a_mtr a_mfl : Nat} {mtr : Nat → Nat} {mfl : Nat → Bool} {c9 its was : Nat} (f0_mod : ws[p_mod]? = some (a_mod, .inr (8, x_mod_0 :: x_mod_1 :: x_mod_2 :: x_mod_3 :: x_mod_4 :: x_mod_5 :: x_mod_6 :: x_mod_7 :: x_mod_8 :: x_mod_9 :: x_mod_10 :: x_mod_11 :: x_mod_12 :: x_mod_13 :: x_mod_14 :: x_mod_15 :: x_mod_16 :: x_mod_17 :: x_mod_18 :: x_mod_19 :: x_mod_20 :: x_mod_21 :: x_mod_22 :: x_mod_23 :: x_mod_24 :: .ref a_mtr :: .ref a_mfl :: x_mod_27 :: x_mod_28 :: x_mod_29 :: x_mod_30 :: x_mod_31 :: x_mod_32 :: []))) (f0_mtr : ws[p_mtr]? = some (a_mtr, eN y 10 mtr)) (f0_mfl : ws[p_mfl]? = some (a_mfl, eZ y 10 mfl)) (b_mtr : ∀ k, mtr k ≤ 500) (hc : c9 < 10) (hits : its ≤ 2147483647) (hwas : was ≤ 2147483647) : gMi l yX7_ties wsX7_ties ({ frames := 0, cells := 0, slots := 0, locals := 0 }) D y [.ref a_mod, .int (nI (c9)), .long (lN (its)), .long (lN (was))] ws (fun r (_ : Unit) => r = gb (mTie was (mtr c9) (mfl c9) its)) (fun (_ : Unit) => ws) := by
  refine g_met_z (cc := cX7_ties) (maxL := 6) (by decide) rfl (Nat.le_of_ble_eq_true rfl) ?_
  intro p e s m below meth c A hx hb hml hr hts hown hnm hlocks hE hP hD hS hA ls hl
  have hown : s.vm.findClass RX7 = some m.cls := hown
  have hl : lv_has ls 6 [(0, .ref a_mod), (1, .int (nI (c9))), (2, .long (lN (its))), (4, .long (lN (was)))] := hl
  have in_RX7 := in_c_X7_ties_RX7
  refine lv_lload_n hx hb dX7_ties_0 rfl (lv_at hl 2 rfl) ?_
  refine lv_ldc2 (v := 1000) hx hb hown (hts (.constantLong RX7 170 (1000)) (by decide +kernel)) dX7_ties_1 ?_
  rw [show (1000 : Int64) = lN 1000 from by decide]
  refine g_lmul hx hb dX7_ties_4 (lN_mul _ _) ?_
  refine lv_lload hx hb dX7_ties_5 (lv_at hl 3 rfl) ?_
  refine lv_ldc2 (v := 1000) hx hb hown (hts (.constantLong RX7 170 (1000)) (by decide +kernel)) dX7_ties_7 ?_
  rw [show (1000 : Int64) = lN 1000 from by decide]
  refine lv_aload_n hx hb dX7_ties_10 rfl (lv_at hl 0 rfl) ?_
  refine va_get (D := D) (ci := 8) (v := .ref a_mtr) (C := RX7) (T := TX7) (N := 33) hx hb hts in_RX7 hown hE.1 (gv1 hP f0_mod) 0 rfl rfl 25 (by decide) (hts (.fieldLink RX7 69 "BasketryOfficeModel" "trigger" "[I") (by decide +kernel)) (fun _ h9 => h9) rfl dX7_ties_11 ?_
  refine lv_iload_n hx hb dX7_ties_14 rfl (lv_at hl 1 rfl) ?_
  refine g_nald hx hb hE hP _ f0_mtr (by omega) (by decide) dX7_ties_15 ?_
  have bd_15_1 := b_mtr (c9)
  refine lv_i2l (v := lN (mtr c9)) hx hb dX7_ties_16 (nI_l (by omega)) ?_
  refine g_ladd hx hb dX7_ties_17 (lN_add _ _) ?_
  refine g_lmul hx hb dX7_ties_18 (lN_mul _ _) ?_
  refine g_lcmp_ge (tgt := 55) hx hb (by omega) (by have := tie_bd (a := was) (b := 1000 + mtr c9) hwas (by omega); omega) dX7_ties_19 dX7_ties_20 (by decide) (fun c_19 => ?_) (fun c_19 => ?_)
  · refine lv_iconst (v := nI 1) hx hb dX7_ties_55 (by decide) ?_
    refine lv_goto (tgt := 60) hx hb dX7_ties_56 (by decide) ?_
    refine g_zret (r := (gb (true))) hx hb hr hlocks () dX7_ties_60 (gb_narrow _) hS hP hD ?_
    have h : mTie was (mtr c9) (mfl c9) its = true := decide_eq_true (Or.inl (by omega))
    rw [h]
  · refine lv_aload_n hx hb dX7_ties_23 rfl (lv_at hl 0 rfl) ?_
    refine va_get (D := D) (ci := 8) (v := .ref a_mfl) (C := RX7) (T := TX7) (N := 33) hx hb hts in_RX7 hown hE.1 (gv1 hP f0_mod) 0 rfl rfl 26 (by decide) (hts (.fieldLink RX7 72 "BasketryOfficeModel" "hasFloor" "[Z") (by decide +kernel)) (fun _ h9 => h9) rfl dX7_ties_24 ?_
    refine lv_iload_n hx hb dX7_ties_27 rfl (lv_at hl 1 rfl) ?_
    refine g_zald hx hb hE hP _ f0_mfl (by omega) (by decide) dX7_ties_28 ?_
    refine g_bif_ne (tgt := 59) hx hb dX7_ties_29 (by decide) (fun c_29 => ?_) (fun c_29 => ?_)
    · refine lv_iconst (v := nI 0) hx hb dX7_ties_59 (by decide) ?_
      refine g_zret (r := (gb (false))) hx hb hr hlocks () dX7_ties_60 (gb_narrow _) hS hP hD ?_
      have h : mTie was (mtr c9) (mfl c9) its = false := decide_eq_false (fun z => z.elim (fun w => by omega) (fun w => by have h9 := w.1; rw [c_29] at h9; cases h9))
      rw [h]
    · refine lv_lload_n hx hb dX7_ties_32 rfl (lv_at hl 2 rfl) ?_
      refine lv_ldc2 (v := 1000) hx hb hown (hts (.constantLong RX7 170 (1000)) (by decide +kernel)) dX7_ties_33 ?_
      rw [show (1000 : Int64) = lN 1000 from by decide]
      refine g_lmul hx hb dX7_ties_36 (lN_mul _ _) ?_
      refine lv_lload hx hb dX7_ties_37 (lv_at hl 3 rfl) ?_
      refine lv_ldc2 (v := 1000) hx hb hown (hts (.constantLong RX7 170 (1000)) (by decide +kernel)) dX7_ties_39 ?_
      rw [show (1000 : Int64) = lN 1000 from by decide]
      refine lv_aload_n hx hb dX7_ties_42 rfl (lv_at hl 0 rfl) ?_
      refine va_get (D := D) (ci := 8) (v := .ref a_mtr) (C := RX7) (T := TX7) (N := 33) hx hb hts in_RX7 hown hE.1 (gv1 hP f0_mod) 0 rfl rfl 25 (by decide) (hts (.fieldLink RX7 69 "BasketryOfficeModel" "trigger" "[I") (by decide +kernel)) (fun _ h9 => h9) rfl dX7_ties_43 ?_
      refine lv_iload_n hx hb dX7_ties_46 rfl (lv_at hl 1 rfl) ?_
      refine g_nald hx hb hE hP _ f0_mtr (by omega) (by decide) dX7_ties_47 ?_
      have bd_47_2 := b_mtr (c9)
      refine lv_i2l (v := lN (mtr c9)) hx hb dX7_ties_48 (nI_l (by omega)) ?_
      refine g_lsub hx hb dX7_ties_49  (lN_sub (by omega)) ?_
      refine g_lmul hx hb dX7_ties_50 (lN_mul _ _) ?_
      refine g_lcmp_gt (tgt := 59) hx hb (by omega) (by have := tie_bd (a := was) (b := 1000 - mtr c9) hwas (by omega); omega) dX7_ties_51 dX7_ties_52 (by decide) (fun c_51 => ?_) (fun c_51 => ?_)
      · refine lv_iconst (v := nI 0) hx hb dX7_ties_59 (by decide) ?_
        refine g_zret (r := (gb (false))) hx hb hr hlocks () dX7_ties_60 (gb_narrow _) hS hP hD ?_
        have h : mTie was (mtr c9) (mfl c9) its = false := decide_eq_false (fun z => z.elim (fun w => by omega) (fun w => by have := w.2; omega))
        rw [h]
      · refine lv_iconst (v := nI 1) hx hb dX7_ties_55 (by decide) ?_
        refine lv_goto (tgt := 60) hx hb dX7_ties_56 (by decide) ?_
        refine g_zret (r := (gb (true))) hx hb hr hlocks () dX7_ties_60 (gb_narrow _) hS hP hD ?_
        have h : mTie was (mtr c9) (mfl c9) its = true := decide_eq_true (Or.inr ⟨c_29, by omega⟩)
        rw [h]

set_option maxHeartbeats 4000000 in
set_option maxRecDepth 100000 in
theorem c_X7_tied (l : Launch) {D : va_G} {y : Nat → Nat} {ws : va_W}  {its bw was : Nat} (hi : its ≤ 1000000000) (hb9 : bw ≤ 2147483647) (h0 : 1 ≤ was) (hwas : was ≤ 2147483647) : gMl l yX7_tied wsX7_tied ({ frames := 0, cells := 0, slots := 0, locals := 0 }) D y [.long (lN (its)), .long (lN (bw)), .long (lN (was))] ws (fun r (_ : Unit) => r = lN (pW its bw was)) (fun (_ : Unit) => ws) := by
  refine g_met_l (cc := cX7_tied) (maxL := 8) (by decide) rfl (Nat.le_of_ble_eq_true rfl) ?_
  intro p e s m below meth c A hx hb hml hr hts hown hnm hlocks hE hP hD hS hA ls hl
  have hown : s.vm.findClass RX7 = some m.cls := hown
  have hl : lv_has ls 8 [(0, .long (lN (its))), (2, .long (lN (bw))), (4, .long (lN (was)))] := hl
  refine lv_lload_n hx hb dX7_tied_0 rfl (lv_at hl 0 rfl) ?_
  refine lv_lload_n hx hb dX7_tied_1 rfl (lv_at hl 1 rfl) ?_
  refine g_lmul hx hb dX7_tied_2 (lN_mul _ _) ?_
  refine lv_lload hx hb dX7_tied_3 (lv_at hl 2 rfl) ?_
  refine g_ldiv hx hb dX7_tied_5 (fp_lN_ne (by omega) (by omega)) (pk_lDiv (pay_bd hi hb9) (by omega) (by omega)) ?_
  refine lv_lstore (lv' := [(6, .long (lN (its * bw / was))), (0, .long (lN (its))), (2, .long (lN (bw))), (4, .long (lN (was)))]) hx hb dX7_tied_6 hl (by decide) rfl (fun ls hl => ?_)
  refine lv_lload hx hb dX7_tied_8 (lv_at hl 0 rfl) ?_
  refine lv_ldc2 (v := 1000000000) hx hb hown (hts (.constantLong RX7 172 (1000000000)) (by decide +kernel)) dX7_tied_10 ?_
  rw [show (1000000000 : Int64) = lN 1000000000 from by decide]
  refine g_lcmp_le (tgt := 23) hx hb (Nat.lt_of_le_of_lt (Nat.div_le_self _ _) (pay_bd hi hb9)) (by decide) dX7_tied_13 dX7_tied_14 (by decide) (fun c_13 => ?_) (fun c_13 => ?_)
  · refine lv_lload hx hb dX7_tied_23 (lv_at hl 0 rfl) ?_
    refine g_lret hx hb hr hlocks () dX7_tied_25 hS hP hD ?_
    unfold pW
    rw [if_neg (by omega)]
  · refine lv_ldc2 (v := 1000000000) hx hb hown (hts (.constantLong RX7 172 (1000000000)) (by decide +kernel)) dX7_tied_17 ?_
    rw [show (1000000000 : Int64) = lN 1000000000 from by decide]
    refine lv_goto (tgt := 25) hx hb dX7_tied_20 (by decide) ?_
    refine g_lret hx hb hr hlocks () dX7_tied_25 hS hP hD ?_
    unfold pW
    rw [if_pos (by omega)]

theorem in_c_X7_adopt_RX7 : ∀ w ∈ wsX70, w ∈ wsX7_adopt := by decide +kernel
set_option maxHeartbeats 4000000 in
set_option maxRecDepth 100000 in
theorem c_X7_adopt (l : Launch) {D : va_G} {y : Nat → Nat} {ws : va_W} {x_mod_1 : Value} {x_mod_2 : Value} {x_mod_3 : Value} {x_mod_4 : Value} {x_mod_5 : Value} {x_mod_6 : Value} {x_mod_7 : Value} {x_mod_8 : Value} {x_mod_9 : Value} {x_mod_10 : Value} {x_mod_11 : Value} {x_mod_12 : Value} {x_mod_13 : Value} {x_mod_16 : Value} {x_mod_17 : Value} {x_mod_18 : Value} {x_mod_19 : Value} {x_mod_20 : Value} {x_mod_21 : Value} {x_mod_22 : Value} {x_mod_23 : Value} {x_mod_24 : Value} {x_mod_25 : Value} {x_mod_26 : Value} {x_mod_27 : Value} {x_mod_28 : Value} {x_mod_29 : Value} {x_mod_30 : Value} {x_mod_31 : Value} {x_mod_32 : Value} {p_mod p_mto p_mad a_mod a_mto a_mad : Nat} {mto : Nat → Nat} {mad : Nat → Nat} {th : Nat} (f0_mod : ws[p_mod]? = some (a_mod, .inr (8, .int (nI (th)) :: x_mod_1 :: x_mod_2 :: x_mod_3 :: x_mod_4 :: x_mod_5 :: x_mod_6 :: x_mod_7 :: x_mod_8 :: x_mod_9 :: x_mod_10 :: x_mod_11 :: x_mod_12 :: x_mod_13 :: .ref a_mto :: .ref a_mad :: x_mod_16 :: x_mod_17 :: x_mod_18 :: x_mod_19 :: x_mod_20 :: x_mod_21 :: x_mod_22 :: x_mod_23 :: x_mod_24 :: x_mod_25 :: x_mod_26 :: x_mod_27 :: x_mod_28 :: x_mod_29 :: x_mod_30 :: x_mod_31 :: x_mod_32 :: []))) (f0_mto : ws[p_mto]? = some (a_mto, eN y 12 mto)) (f0_mad : ws[p_mad]? = some (a_mad, eN y 12 mad)) (b_mto : ∀ k, mto k ≤ 1000000000) (b_mad : ∀ k, mad k ≤ 1000000000) (hdis : p_mto ≠ p_mad) : gMl l yX7_adopt wsX7_adopt ({ frames := 0, cells := 0, slots := 0, locals := 0 }) D y [.ref a_mod] ws (fun r (_ : Unit) => r = lN (tS mto 12)) (fun (_ : Unit) => ((ws.set p_mod (a_mod, .inr (8, .int (nI (0)) :: x_mod_1 :: x_mod_2 :: x_mod_3 :: x_mod_4 :: x_mod_5 :: x_mod_6 :: x_mod_7 :: x_mod_8 :: x_mod_9 :: x_mod_10 :: x_mod_11 :: x_mod_12 :: x_mod_13 :: .ref a_mto :: .ref a_mad :: x_mod_16 :: x_mod_17 :: x_mod_18 :: x_mod_19 :: x_mod_20 :: x_mod_21 :: x_mod_22 :: x_mod_23 :: x_mod_24 :: x_mod_25 :: x_mod_26 :: x_mod_27 :: x_mod_28 :: x_mod_29 :: x_mod_30 :: x_mod_31 :: x_mod_32 :: []))).set p_mad (a_mad, eN y 12 (adF mto mad 12)))) := by
  refine g_met_l (cc := cX7_adopt) (maxL := 4) (by decide) rfl (Nat.le_of_ble_eq_true rfl) ?_
  intro p e s m below meth c A hx hb hml hr hts hown hnm hlocks hE hP hD hS hA ls hl
  have hown : s.vm.findClass RX7 = some m.cls := hown
  have hl : lv_has ls 4 [(0, .ref a_mod)] := hl
  have in_RX7 := in_c_X7_adopt_RX7
  refine lv_aload_n hx hb dX7_adopt_0 rfl (lv_at hl 0 rfl) ?_
  refine lv_iconst (v := nI 0) hx hb dX7_adopt_1 (by decide) ?_
  refine gv_set f0_mod rfl (by rfl) (fun k9 h9 kk9 => va_put (D := D) (ci := 8) (v := .int (nI (0))) (ty := .int) (C := RX7) (T := TX7) (N := 33) hx hb hts in_RX7 tyX7 tyX7_ok nmX7 hown hE.1 hP hD hS k9 h9 rfl 0 (by decide) (hts (.fieldLink RX7 94 "BasketryOfficeModel" "thrown" "I") (by decide +kernel)) (fun _ h9 => h9) rfl (by decide +kernel) rfl rfl (Nat.le_of_ble_eq_true rfl) dX7_adopt_2 kk9) (fun H locs hP hD hS => ?_)
  have f_mod := g_eq (x := (a_mod, .inr (8, .int (nI (0)) :: x_mod_1 :: x_mod_2 :: x_mod_3 :: x_mod_4 :: x_mod_5 :: x_mod_6 :: x_mod_7 :: x_mod_8 :: x_mod_9 :: x_mod_10 :: x_mod_11 :: x_mod_12 :: x_mod_13 :: .ref a_mto :: .ref a_mad :: x_mod_16 :: x_mod_17 :: x_mod_18 :: x_mod_19 :: x_mod_20 :: x_mod_21 :: x_mod_22 :: x_mod_23 :: x_mod_24 :: x_mod_25 :: x_mod_26 :: x_mod_27 :: x_mod_28 :: x_mod_29 :: x_mod_30 :: x_mod_31 :: x_mod_32 :: []))) (f0_mod)
  have f_mto := g_ne (x := (a_mod, .inr (8, .int (nI (0)) :: x_mod_1 :: x_mod_2 :: x_mod_3 :: x_mod_4 :: x_mod_5 :: x_mod_6 :: x_mod_7 :: x_mod_8 :: x_mod_9 :: x_mod_10 :: x_mod_11 :: x_mod_12 :: x_mod_13 :: .ref a_mto :: .ref a_mad :: x_mod_16 :: x_mod_17 :: x_mod_18 :: x_mod_19 :: x_mod_20 :: x_mod_21 :: x_mod_22 :: x_mod_23 :: x_mod_24 :: x_mod_25 :: x_mod_26 :: x_mod_27 :: x_mod_28 :: x_mod_29 :: x_mod_30 :: x_mod_31 :: x_mod_32 :: []))) (g_kne f0_mod f0_mto (Nat.ne_of_beq_eq_false rfl)) (f0_mto)
  have f_mad := g_ne (x := (a_mod, .inr (8, .int (nI (0)) :: x_mod_1 :: x_mod_2 :: x_mod_3 :: x_mod_4 :: x_mod_5 :: x_mod_6 :: x_mod_7 :: x_mod_8 :: x_mod_9 :: x_mod_10 :: x_mod_11 :: x_mod_12 :: x_mod_13 :: .ref a_mto :: .ref a_mad :: x_mod_16 :: x_mod_17 :: x_mod_18 :: x_mod_19 :: x_mod_20 :: x_mod_21 :: x_mod_22 :: x_mod_23 :: x_mod_24 :: x_mod_25 :: x_mod_26 :: x_mod_27 :: x_mod_28 :: x_mod_29 :: x_mod_30 :: x_mod_31 :: x_mod_32 :: []))) (g_kne f0_mod f0_mad (Nat.ne_of_beq_eq_false rfl)) (f0_mad)
  refine lv_lconst (v := lN 0) hx hb dX7_adopt_5 (by decide) ?_
  refine lv_lstore_n (lv' := [(1, .long (lN (0))), (0, .ref a_mod)]) hx hb dX7_adopt_6 rfl hl (by decide) rfl (fun ls hl => ?_)
  refine lv_iconst (v := nI 0) hx hb dX7_adopt_7 (by decide) ?_
  refine lv_istore_n (lv' := [(3, .int (nI (0))), (1, .long (lN (0))), (0, .ref a_mod)]) hx hb dX7_adopt_8 rfl hl (by decide) rfl (fun ls hl => ?_)
  have hP := g_trP (g_same f_mad) hP
  have hD := g_trD (g_same f_mad) hD
  have f_mod := g_ne (x := (a_mad, eN y 12 mad)) (g_kne f0_mad f0_mod (Nat.ne_of_beq_eq_false rfl)) (g_eq (x := (a_mod, .inr (8, .int (nI (0)) :: x_mod_1 :: x_mod_2 :: x_mod_3 :: x_mod_4 :: x_mod_5 :: x_mod_6 :: x_mod_7 :: x_mod_8 :: x_mod_9 :: x_mod_10 :: x_mod_11 :: x_mod_12 :: x_mod_13 :: .ref a_mto :: .ref a_mad :: x_mod_16 :: x_mod_17 :: x_mod_18 :: x_mod_19 :: x_mod_20 :: x_mod_21 :: x_mod_22 :: x_mod_23 :: x_mod_24 :: x_mod_25 :: x_mod_26 :: x_mod_27 :: x_mod_28 :: x_mod_29 :: x_mod_30 :: x_mod_31 :: x_mod_32 :: []))) (f0_mod))
  have f_mto := g_ne (x := (a_mad, eN y 12 mad)) (Ne.symm hdis) (g_ne (x := (a_mod, .inr (8, .int (nI (0)) :: x_mod_1 :: x_mod_2 :: x_mod_3 :: x_mod_4 :: x_mod_5 :: x_mod_6 :: x_mod_7 :: x_mod_8 :: x_mod_9 :: x_mod_10 :: x_mod_11 :: x_mod_12 :: x_mod_13 :: .ref a_mto :: .ref a_mad :: x_mod_16 :: x_mod_17 :: x_mod_18 :: x_mod_19 :: x_mod_20 :: x_mod_21 :: x_mod_22 :: x_mod_23 :: x_mod_24 :: x_mod_25 :: x_mod_26 :: x_mod_27 :: x_mod_28 :: x_mod_29 :: x_mod_30 :: x_mod_31 :: x_mod_32 :: []))) (g_kne f0_mod f0_mto (Nat.ne_of_beq_eq_false rfl)) (f0_mto))
  have f_mad := g_eq (x := (a_mad, eN y 12 mad)) (g_ne (x := (a_mod, .inr (8, .int (nI (0)) :: x_mod_1 :: x_mod_2 :: x_mod_3 :: x_mod_4 :: x_mod_5 :: x_mod_6 :: x_mod_7 :: x_mod_8 :: x_mod_9 :: x_mod_10 :: x_mod_11 :: x_mod_12 :: x_mod_13 :: .ref a_mto :: .ref a_mad :: x_mod_16 :: x_mod_17 :: x_mod_18 :: x_mod_19 :: x_mod_20 :: x_mod_21 :: x_mod_22 :: x_mod_23 :: x_mod_24 :: x_mod_25 :: x_mod_26 :: x_mod_27 :: x_mod_28 :: x_mod_29 :: x_mod_30 :: x_mod_31 :: x_mod_32 :: []))) (g_kne f0_mod f0_mad (Nat.ne_of_beq_eq_false rfl)) (f0_mad))
  have hP : gvP D vwCl ((ws.set p_mod (a_mod, .inr (8, .int (nI (0)) :: x_mod_1 :: x_mod_2 :: x_mod_3 :: x_mod_4 :: x_mod_5 :: x_mod_6 :: x_mod_7 :: x_mod_8 :: x_mod_9 :: x_mod_10 :: x_mod_11 :: x_mod_12 :: x_mod_13 :: .ref a_mto :: .ref a_mad :: x_mod_16 :: x_mod_17 :: x_mod_18 :: x_mod_19 :: x_mod_20 :: x_mod_21 :: x_mod_22 :: x_mod_23 :: x_mod_24 :: x_mod_25 :: x_mod_26 :: x_mod_27 :: x_mod_28 :: x_mod_29 :: x_mod_30 :: x_mod_31 :: x_mod_32 :: []))).set p_mad (a_mad, eN y 12 (adF mto mad (0)))) _ := g_trP (rfl) hP
  have hD : gvD A ((ws.set p_mod (a_mod, .inr (8, .int (nI (0)) :: x_mod_1 :: x_mod_2 :: x_mod_3 :: x_mod_4 :: x_mod_5 :: x_mod_6 :: x_mod_7 :: x_mod_8 :: x_mod_9 :: x_mod_10 :: x_mod_11 :: x_mod_12 :: x_mod_13 :: .ref a_mto :: .ref a_mad :: x_mod_16 :: x_mod_17 :: x_mod_18 :: x_mod_19 :: x_mod_20 :: x_mod_21 :: x_mod_22 :: x_mod_23 :: x_mod_24 :: x_mod_25 :: x_mod_26 :: x_mod_27 :: x_mod_28 :: x_mod_29 :: x_mod_30 :: x_mod_31 :: x_mod_32 :: []))).set p_mad (a_mad, eN y 12 (adF mto mad (0)))) := g_trD (rfl) hD
  refine g_for (fun j => ((ws.set p_mod (a_mod, .inr (8, .int (nI (0)) :: x_mod_1 :: x_mod_2 :: x_mod_3 :: x_mod_4 :: x_mod_5 :: x_mod_6 :: x_mod_7 :: x_mod_8 :: x_mod_9 :: x_mod_10 :: x_mod_11 :: x_mod_12 :: x_mod_13 :: .ref a_mto :: .ref a_mad :: x_mod_16 :: x_mod_17 :: x_mod_18 :: x_mod_19 :: x_mod_20 :: x_mod_21 :: x_mod_22 :: x_mod_23 :: x_mod_24 :: x_mod_25 :: x_mod_26 :: x_mod_27 :: x_mod_28 :: x_mod_29 :: x_mod_30 :: x_mod_31 :: x_mod_32 :: []))).set p_mad (a_mad, eN y 12 (adF mto mad (j))))) (fun j => [(0, .ref a_mod), (1, .long (lN (tS mto (j)))), (3, .int (nI (j)))]) (12) (0) (by omega) ?_ ?_ hP hD hS (lv_sub hl [2, 1, 0] rfl)
  · intro H locs ls hP hD hS hl
    have hP : gvP D vwCl ((ws.set p_mod (a_mod, .inr (8, .int (nI (0)) :: x_mod_1 :: x_mod_2 :: x_mod_3 :: x_mod_4 :: x_mod_5 :: x_mod_6 :: x_mod_7 :: x_mod_8 :: x_mod_9 :: x_mod_10 :: x_mod_11 :: x_mod_12 :: x_mod_13 :: .ref a_mto :: .ref a_mad :: x_mod_16 :: x_mod_17 :: x_mod_18 :: x_mod_19 :: x_mod_20 :: x_mod_21 :: x_mod_22 :: x_mod_23 :: x_mod_24 :: x_mod_25 :: x_mod_26 :: x_mod_27 :: x_mod_28 :: x_mod_29 :: x_mod_30 :: x_mod_31 :: x_mod_32 :: []))).set p_mad (a_mad, eN y 12 (adF mto mad (12)))) H := hP
    have hD : gvD A ((ws.set p_mod (a_mod, .inr (8, .int (nI (0)) :: x_mod_1 :: x_mod_2 :: x_mod_3 :: x_mod_4 :: x_mod_5 :: x_mod_6 :: x_mod_7 :: x_mod_8 :: x_mod_9 :: x_mod_10 :: x_mod_11 :: x_mod_12 :: x_mod_13 :: .ref a_mto :: .ref a_mad :: x_mod_16 :: x_mod_17 :: x_mod_18 :: x_mod_19 :: x_mod_20 :: x_mod_21 :: x_mod_22 :: x_mod_23 :: x_mod_24 :: x_mod_25 :: x_mod_26 :: x_mod_27 :: x_mod_28 :: x_mod_29 :: x_mod_30 :: x_mod_31 :: x_mod_32 :: []))).set p_mad (a_mad, eN y 12 (adF mto mad (12)))) := hD
    have hl : lv_has ls 4 [(0, .ref a_mod), (1, .long (lN (tS mto (12)))), (3, .int (nI (12)))] := hl
    have f_mod := g_ne (x := (a_mad, eN y 12 (adF mto mad (12)))) (g_kne f0_mad f0_mod (Nat.ne_of_beq_eq_false rfl)) (g_eq (x := (a_mod, .inr (8, .int (nI (0)) :: x_mod_1 :: x_mod_2 :: x_mod_3 :: x_mod_4 :: x_mod_5 :: x_mod_6 :: x_mod_7 :: x_mod_8 :: x_mod_9 :: x_mod_10 :: x_mod_11 :: x_mod_12 :: x_mod_13 :: .ref a_mto :: .ref a_mad :: x_mod_16 :: x_mod_17 :: x_mod_18 :: x_mod_19 :: x_mod_20 :: x_mod_21 :: x_mod_22 :: x_mod_23 :: x_mod_24 :: x_mod_25 :: x_mod_26 :: x_mod_27 :: x_mod_28 :: x_mod_29 :: x_mod_30 :: x_mod_31 :: x_mod_32 :: []))) (f0_mod))
    have f_mto := g_ne (x := (a_mad, eN y 12 (adF mto mad (12)))) (Ne.symm hdis) (g_ne (x := (a_mod, .inr (8, .int (nI (0)) :: x_mod_1 :: x_mod_2 :: x_mod_3 :: x_mod_4 :: x_mod_5 :: x_mod_6 :: x_mod_7 :: x_mod_8 :: x_mod_9 :: x_mod_10 :: x_mod_11 :: x_mod_12 :: x_mod_13 :: .ref a_mto :: .ref a_mad :: x_mod_16 :: x_mod_17 :: x_mod_18 :: x_mod_19 :: x_mod_20 :: x_mod_21 :: x_mod_22 :: x_mod_23 :: x_mod_24 :: x_mod_25 :: x_mod_26 :: x_mod_27 :: x_mod_28 :: x_mod_29 :: x_mod_30 :: x_mod_31 :: x_mod_32 :: []))) (g_kne f0_mod f0_mto (Nat.ne_of_beq_eq_false rfl)) (f0_mto))
    have f_mad := g_eq (x := (a_mad, eN y 12 (adF mto mad (12)))) (g_ne (x := (a_mod, .inr (8, .int (nI (0)) :: x_mod_1 :: x_mod_2 :: x_mod_3 :: x_mod_4 :: x_mod_5 :: x_mod_6 :: x_mod_7 :: x_mod_8 :: x_mod_9 :: x_mod_10 :: x_mod_11 :: x_mod_12 :: x_mod_13 :: .ref a_mto :: .ref a_mad :: x_mod_16 :: x_mod_17 :: x_mod_18 :: x_mod_19 :: x_mod_20 :: x_mod_21 :: x_mod_22 :: x_mod_23 :: x_mod_24 :: x_mod_25 :: x_mod_26 :: x_mod_27 :: x_mod_28 :: x_mod_29 :: x_mod_30 :: x_mod_31 :: x_mod_32 :: []))) (g_kne f0_mod f0_mad (Nat.ne_of_beq_eq_false rfl)) (f0_mad))
    refine lv_iload_n hx hb dX7_adopt_9 rfl (lv_at hl 2 rfl) ?_
    refine lv_bipush (v := nI 12) hx hb dX7_adopt_10 (by decide) ?_
    refine g_icmp_ge (tgt := 43) hx hb (by omega) (by omega) dX7_adopt_12 (by decide) (fun c_12 => ?_) (fun c_12 => absurd c_12 (by omega))
    refine lv_lload_n hx hb dX7_adopt_43 rfl (lv_at hl 1 rfl) ?_
    refine g_lret hx hb hr hlocks () dX7_adopt_44 hS hP hD ?_
    exact rfl
  · intro j hj_j ih_j H locs ls hP hD hS hl
    have hP : gvP D vwCl ((ws.set p_mod (a_mod, .inr (8, .int (nI (0)) :: x_mod_1 :: x_mod_2 :: x_mod_3 :: x_mod_4 :: x_mod_5 :: x_mod_6 :: x_mod_7 :: x_mod_8 :: x_mod_9 :: x_mod_10 :: x_mod_11 :: x_mod_12 :: x_mod_13 :: .ref a_mto :: .ref a_mad :: x_mod_16 :: x_mod_17 :: x_mod_18 :: x_mod_19 :: x_mod_20 :: x_mod_21 :: x_mod_22 :: x_mod_23 :: x_mod_24 :: x_mod_25 :: x_mod_26 :: x_mod_27 :: x_mod_28 :: x_mod_29 :: x_mod_30 :: x_mod_31 :: x_mod_32 :: []))).set p_mad (a_mad, eN y 12 (adF mto mad (j)))) H := hP
    have hD : gvD A ((ws.set p_mod (a_mod, .inr (8, .int (nI (0)) :: x_mod_1 :: x_mod_2 :: x_mod_3 :: x_mod_4 :: x_mod_5 :: x_mod_6 :: x_mod_7 :: x_mod_8 :: x_mod_9 :: x_mod_10 :: x_mod_11 :: x_mod_12 :: x_mod_13 :: .ref a_mto :: .ref a_mad :: x_mod_16 :: x_mod_17 :: x_mod_18 :: x_mod_19 :: x_mod_20 :: x_mod_21 :: x_mod_22 :: x_mod_23 :: x_mod_24 :: x_mod_25 :: x_mod_26 :: x_mod_27 :: x_mod_28 :: x_mod_29 :: x_mod_30 :: x_mod_31 :: x_mod_32 :: []))).set p_mad (a_mad, eN y 12 (adF mto mad (j)))) := hD
    have hl : lv_has ls 4 [(0, .ref a_mod), (1, .long (lN (tS mto (j)))), (3, .int (nI (j)))] := hl
    have f_mod := g_ne (x := (a_mad, eN y 12 (adF mto mad (j)))) (g_kne f0_mad f0_mod (Nat.ne_of_beq_eq_false rfl)) (g_eq (x := (a_mod, .inr (8, .int (nI (0)) :: x_mod_1 :: x_mod_2 :: x_mod_3 :: x_mod_4 :: x_mod_5 :: x_mod_6 :: x_mod_7 :: x_mod_8 :: x_mod_9 :: x_mod_10 :: x_mod_11 :: x_mod_12 :: x_mod_13 :: .ref a_mto :: .ref a_mad :: x_mod_16 :: x_mod_17 :: x_mod_18 :: x_mod_19 :: x_mod_20 :: x_mod_21 :: x_mod_22 :: x_mod_23 :: x_mod_24 :: x_mod_25 :: x_mod_26 :: x_mod_27 :: x_mod_28 :: x_mod_29 :: x_mod_30 :: x_mod_31 :: x_mod_32 :: []))) (f0_mod))
    have f_mto := g_ne (x := (a_mad, eN y 12 (adF mto mad (j)))) (Ne.symm hdis) (g_ne (x := (a_mod, .inr (8, .int (nI (0)) :: x_mod_1 :: x_mod_2 :: x_mod_3 :: x_mod_4 :: x_mod_5 :: x_mod_6 :: x_mod_7 :: x_mod_8 :: x_mod_9 :: x_mod_10 :: x_mod_11 :: x_mod_12 :: x_mod_13 :: .ref a_mto :: .ref a_mad :: x_mod_16 :: x_mod_17 :: x_mod_18 :: x_mod_19 :: x_mod_20 :: x_mod_21 :: x_mod_22 :: x_mod_23 :: x_mod_24 :: x_mod_25 :: x_mod_26 :: x_mod_27 :: x_mod_28 :: x_mod_29 :: x_mod_30 :: x_mod_31 :: x_mod_32 :: []))) (g_kne f0_mod f0_mto (Nat.ne_of_beq_eq_false rfl)) (f0_mto))
    have f_mad := g_eq (x := (a_mad, eN y 12 (adF mto mad (j)))) (g_ne (x := (a_mod, .inr (8, .int (nI (0)) :: x_mod_1 :: x_mod_2 :: x_mod_3 :: x_mod_4 :: x_mod_5 :: x_mod_6 :: x_mod_7 :: x_mod_8 :: x_mod_9 :: x_mod_10 :: x_mod_11 :: x_mod_12 :: x_mod_13 :: .ref a_mto :: .ref a_mad :: x_mod_16 :: x_mod_17 :: x_mod_18 :: x_mod_19 :: x_mod_20 :: x_mod_21 :: x_mod_22 :: x_mod_23 :: x_mod_24 :: x_mod_25 :: x_mod_26 :: x_mod_27 :: x_mod_28 :: x_mod_29 :: x_mod_30 :: x_mod_31 :: x_mod_32 :: []))) (g_kne f0_mod f0_mad (Nat.ne_of_beq_eq_false rfl)) (f0_mad))
    refine lv_iload_n hx hb dX7_adopt_9 rfl (lv_at hl 2 rfl) ?_
    refine lv_bipush (v := nI 12) hx hb dX7_adopt_10 (by decide) ?_
    refine g_icmp_ge (tgt := 43) hx hb (by omega) (by omega) dX7_adopt_12 (by decide) (fun c_12 => absurd c_12 (by omega)) (fun c_12 => ?_)
    refine lv_aload_n hx hb dX7_adopt_15 rfl (lv_at hl 0 rfl) ?_
    refine va_get (D := D) (ci := 8) (v := .ref a_mad) (C := RX7) (T := TX7) (N := 33) hx hb hts in_RX7 hown hE.1 (gv1 hP f_mod) 0 rfl rfl 15 (by decide) (hts (.fieldLink RX7 41 "BasketryOfficeModel" "adopted" "[I") (by decide +kernel)) (fun _ h9 => h9) rfl dX7_adopt_16 ?_
    refine lv_iload_n hx hb dX7_adopt_19 rfl (lv_at hl 2 rfl) ?_
    refine lv_aload_n hx hb dX7_adopt_20 rfl (lv_at hl 0 rfl) ?_
    refine va_get (D := D) (ci := 8) (v := .ref a_mto) (C := RX7) (T := TX7) (N := 33) hx hb hts in_RX7 hown hE.1 (gv1 hP f_mod) 0 rfl rfl 14 (by decide) (hts (.fieldLink RX7 38 "BasketryOfficeModel" "told" "[I") (by decide +kernel)) (fun _ h9 => h9) rfl dX7_adopt_21 ?_
    refine lv_iload_n hx hb dX7_adopt_24 rfl (lv_at hl 2 rfl) ?_
    refine g_nald hx hb hE hP _ f_mto (by omega) (by decide) dX7_adopt_25 ?_
    have bd_25_1 := b_mto (j)
    refine g_nast hx hb hE hP hD hS _ f_mad (by omega) (by decide) dX7_adopt_26 (fun H locs hP hD hS => ?_)
    have hP := g_trP g_ss hP
    have hD := g_trD g_ss hD
    have f_mod := g_ne (x := (a_mad, eN y 12 (vf_upd (adF mto mad (j)) (j) (mto j)))) (g_kne f0_mad f0_mod (Nat.ne_of_beq_eq_false rfl)) (g_eq (x := (a_mod, .inr (8, .int (nI (0)) :: x_mod_1 :: x_mod_2 :: x_mod_3 :: x_mod_4 :: x_mod_5 :: x_mod_6 :: x_mod_7 :: x_mod_8 :: x_mod_9 :: x_mod_10 :: x_mod_11 :: x_mod_12 :: x_mod_13 :: .ref a_mto :: .ref a_mad :: x_mod_16 :: x_mod_17 :: x_mod_18 :: x_mod_19 :: x_mod_20 :: x_mod_21 :: x_mod_22 :: x_mod_23 :: x_mod_24 :: x_mod_25 :: x_mod_26 :: x_mod_27 :: x_mod_28 :: x_mod_29 :: x_mod_30 :: x_mod_31 :: x_mod_32 :: []))) (f0_mod))
    have f_mto := g_ne (x := (a_mad, eN y 12 (vf_upd (adF mto mad (j)) (j) (mto j)))) (Ne.symm hdis) (g_ne (x := (a_mod, .inr (8, .int (nI (0)) :: x_mod_1 :: x_mod_2 :: x_mod_3 :: x_mod_4 :: x_mod_5 :: x_mod_6 :: x_mod_7 :: x_mod_8 :: x_mod_9 :: x_mod_10 :: x_mod_11 :: x_mod_12 :: x_mod_13 :: .ref a_mto :: .ref a_mad :: x_mod_16 :: x_mod_17 :: x_mod_18 :: x_mod_19 :: x_mod_20 :: x_mod_21 :: x_mod_22 :: x_mod_23 :: x_mod_24 :: x_mod_25 :: x_mod_26 :: x_mod_27 :: x_mod_28 :: x_mod_29 :: x_mod_30 :: x_mod_31 :: x_mod_32 :: []))) (g_kne f0_mod f0_mto (Nat.ne_of_beq_eq_false rfl)) (f0_mto))
    have f_mad := g_eq (x := (a_mad, eN y 12 (vf_upd (adF mto mad (j)) (j) (mto j)))) (g_ne (x := (a_mod, .inr (8, .int (nI (0)) :: x_mod_1 :: x_mod_2 :: x_mod_3 :: x_mod_4 :: x_mod_5 :: x_mod_6 :: x_mod_7 :: x_mod_8 :: x_mod_9 :: x_mod_10 :: x_mod_11 :: x_mod_12 :: x_mod_13 :: .ref a_mto :: .ref a_mad :: x_mod_16 :: x_mod_17 :: x_mod_18 :: x_mod_19 :: x_mod_20 :: x_mod_21 :: x_mod_22 :: x_mod_23 :: x_mod_24 :: x_mod_25 :: x_mod_26 :: x_mod_27 :: x_mod_28 :: x_mod_29 :: x_mod_30 :: x_mod_31 :: x_mod_32 :: []))) (g_kne f0_mod f0_mad (Nat.ne_of_beq_eq_false rfl)) (f0_mad))
    refine lv_lload_n hx hb dX7_adopt_27 rfl (lv_at hl 1 rfl) ?_
    refine lv_aload_n hx hb dX7_adopt_28 rfl (lv_at hl 0 rfl) ?_
    refine va_get (D := D) (ci := 8) (v := .ref a_mto) (C := RX7) (T := TX7) (N := 33) hx hb hts in_RX7 hown hE.1 (gv1 hP f_mod) 0 rfl rfl 14 (by decide) (hts (.fieldLink RX7 38 "BasketryOfficeModel" "told" "[I") (by decide +kernel)) (fun _ h9 => h9) rfl dX7_adopt_29 ?_
    refine lv_iload_n hx hb dX7_adopt_32 rfl (lv_at hl 2 rfl) ?_
    refine g_nald hx hb hE hP _ f_mto (by omega) (by decide) dX7_adopt_33 ?_
    have bd_33_2 := b_mto (j)
    refine lv_i2l (v := lN (mto j)) hx hb dX7_adopt_34 (nI_l (by omega)) ?_
    refine g_ladd hx hb dX7_adopt_35 (lN_add _ _) ?_
    refine lv_lstore_n (lv' := [(1, .long (lN ((tS mto (j)) + (mto j)))), (0, .ref a_mod), (3, .int (nI (j)))]) hx hb dX7_adopt_36 rfl hl (by decide) rfl (fun ls hl => ?_)
    refine lv_iinc (v := nI (j + 1)) (lv' := [(3, .int (nI (j + 1))), (1, .long (lN ((tS mto (j)) + (mto j)))), (0, .ref a_mod)]) hx hb dX7_adopt_37 hl (k := 2) rfl (nI_add _ 1) (by decide) rfl (fun ls hl => ?_)
    refine lv_goto (tgt := 9) hx hb dX7_adopt_40 (by decide) ?_
    have hP : gvP D vwCl ((ws.set p_mod (a_mod, .inr (8, .int (nI (0)) :: x_mod_1 :: x_mod_2 :: x_mod_3 :: x_mod_4 :: x_mod_5 :: x_mod_6 :: x_mod_7 :: x_mod_8 :: x_mod_9 :: x_mod_10 :: x_mod_11 :: x_mod_12 :: x_mod_13 :: .ref a_mto :: .ref a_mad :: x_mod_16 :: x_mod_17 :: x_mod_18 :: x_mod_19 :: x_mod_20 :: x_mod_21 :: x_mod_22 :: x_mod_23 :: x_mod_24 :: x_mod_25 :: x_mod_26 :: x_mod_27 :: x_mod_28 :: x_mod_29 :: x_mod_30 :: x_mod_31 :: x_mod_32 :: []))).set p_mad (a_mad, eN y 12 (adF mto mad (j + 1)))) _ := g_trP (rfl) hP
    have hD : gvD A ((ws.set p_mod (a_mod, .inr (8, .int (nI (0)) :: x_mod_1 :: x_mod_2 :: x_mod_3 :: x_mod_4 :: x_mod_5 :: x_mod_6 :: x_mod_7 :: x_mod_8 :: x_mod_9 :: x_mod_10 :: x_mod_11 :: x_mod_12 :: x_mod_13 :: .ref a_mto :: .ref a_mad :: x_mod_16 :: x_mod_17 :: x_mod_18 :: x_mod_19 :: x_mod_20 :: x_mod_21 :: x_mod_22 :: x_mod_23 :: x_mod_24 :: x_mod_25 :: x_mod_26 :: x_mod_27 :: x_mod_28 :: x_mod_29 :: x_mod_30 :: x_mod_31 :: x_mod_32 :: []))).set p_mad (a_mad, eN y 12 (adF mto mad (j + 1)))) := g_trD (rfl) hD
    exact ih_j H locs ls hP hD hS (lv_sub hl [2, 1, 0] rfl)
