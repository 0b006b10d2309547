theorem in_c_X7_rate_RX7 : ∀ w ∈ wsX70, w ∈ wsX7_rate := by decide +kernel
set_option maxHeartbeats 4000000 in
set_option maxRecDepth 100000 in
theorem c_X7_rate (l : Launch) {D : va_G} {y : Nat → Nat} {ws : va_W} {x_mod_0 : Value} {x_mod_1 : Value} {x_mod_2 : Value} {x_mod_3 : Value} {x_mod_4 : Value} {x_mod_5 : Value} {x_mod_6 : Value} {x_mod_7 : Value} {x_mod_11 : Value} {x_mod_12 : Value} {x_mod_13 : Value} {x_mod_14 : Value} {x_mod_15 : Value} {x_mod_16 : Value} {x_mod_17 : Value} {x_mod_18 : Value} {x_mod_19 : Value} {x_mod_20 : Value} {x_mod_21 : Value} {x_mod_22 : Value} {x_mod_23 : Value} {x_mod_24 : Value} {x_mod_25 : Value} {x_mod_26 : Value} {x_mod_27 : Value} {x_mod_28 : Value} {x_mod_29 : Value} {x_mod_30 : Value} {x_mod_31 : Value} {x_mod_32 : Value} {p_mod p_mce p_mgm p_mfx a_mod a_mce a_mgm a_mfx : Nat} {mce : Nat → Nat} {mgm : Nat → Nat} {mfx : Nat → Nat} {k sd : Nat} (f0_mod : ws[p_mod]? = some (a_mod, .inr (8, x_mod_0 :: x_mod_1 :: x_mod_2 :: x_mod_3 :: x_mod_4 :: x_mod_5 :: x_mod_6 :: x_mod_7 :: .ref a_mce :: .ref a_mgm :: .ref a_mfx :: x_mod_11 :: x_mod_12 :: x_mod_13 :: x_mod_14 :: x_mod_15 :: x_mod_16 :: x_mod_17 :: x_mod_18 :: x_mod_19 :: x_mod_20 :: x_mod_21 :: x_mod_22 :: x_mod_23 :: x_mod_24 :: x_mod_25 :: x_mod_26 :: x_mod_27 :: x_mod_28 :: x_mod_29 :: x_mod_30 :: x_mod_31 :: x_mod_32 :: []))) (f0_mce : ws[p_mce]? = some (a_mce, eN y 1152 mce)) (f0_mgm : ws[p_mgm]? = some (a_mgm, eN y 1152 mgm)) (f0_mfx : ws[p_mfx]? = some (a_mfx, eN y 1152 mfx)) (b_mce : ∀ k, mce k ≤ 100000) (b_mgm : ∀ k, mgm k ≤ 10000) (b_mfx : ∀ k, mfx k ≤ 100000) (hk : k < 1152) (hsd : sd ≤ 1) (hg : mgm k = 0 → mce k = 0 ∧ mfx k = 0) : gMd l yX7_rate wsX7_rate ({ frames := 0, cells := 0, slots := 0, locals := 0 }) D y [.ref a_mod, .int (nI (k)), .int (nI (sd))] ws (fun r (_ : Unit) => r = mRate (rCw sd mfx mce) mgm k) (fun (_ : Unit) => ws) := by
  refine g_met_d (cc := cX7_rate) (maxL := 4) (by decide) rfl (Nat.le_of_ble_eq_true rfl) ?_
  intro p e s m below meth c A hx hb hml hr hts hown hnm hlocks hE hP hD hS hA ls hl
  have hown : s.vm.findClass RX7 = some m.cls := hown
  have hl : lv_has ls 4 [(0, .ref a_mod), (1, .int (nI (k))), (2, .int (nI (sd)))] := hl
  have in_RX7 := in_c_X7_rate_RX7
  refine lv_iload_n hx hb dX7_rate_0 rfl (lv_at hl 2 rfl) ?_
  refine lv_iconst (v := nI 1) hx hb dX7_rate_1 (by decide) ?_
  refine g_icmp_ne (tgt := 23) hx hb (by omega) (by omega) dX7_rate_2 (by decide) (fun c_2 => ?_) (fun c_2 => ?_)
  · refine lv_aload_n hx hb dX7_rate_23 rfl (lv_at hl 0 rfl) ?_
    refine va_get (D := D) (ci := 8) (v := .ref a_mce) (C := RX7) (T := TX7) (N := 33) hx hb hts in_RX7 hown hE.1 (gv1 hP f0_mod) 0 rfl rfl 8 (by decide) (hts (.fieldLink RX7 19 "BasketryOfficeModel" "cents" "[I") (by decide +kernel)) (fun _ h9 => h9) rfl dX7_rate_24 ?_
    refine lv_iload_n hx hb dX7_rate_27 rfl (lv_at hl 1 rfl) ?_
    refine g_nald hx hb hE hP _ f0_mce (by omega) (by decide) dX7_rate_28 ?_
    have bd_28_1 := b_mce (k)
    refine lv_istore_n (lv' := [(3, .int (nI (mce k))), (0, .ref a_mod), (1, .int (nI (k))), (2, .int (nI (sd)))]) hx hb dX7_rate_29 rfl hl (by decide) rfl (fun ls hl => ?_)
    refine lv_iload_n hx hb dX7_rate_30 rfl (lv_at hl 0 rfl) ?_
    refine g_if_ne (tgt := 38) hx hb (by omega) dX7_rate_31 (by decide) (fun c_31 => ?_) (fun c_31 => ?_)
    · refine lv_iload_n hx hb dX7_rate_38 rfl (lv_at hl 0 rfl) ?_
      refine lv_i2d hx hb dX7_rate_39 ?_
      refine lv_aload_n hx hb dX7_rate_40 rfl (lv_at hl 1 rfl) ?_
      refine va_get (D := D) (ci := 8) (v := .ref a_mgm) (C := RX7) (T := TX7) (N := 33) hx hb hts in_RX7 hown hE.1 (gv1 hP f0_mod) 0 rfl rfl 9 (by decide) (hts (.fieldLink RX7 22 "BasketryOfficeModel" "grams" "[I") (by decide +kernel)) (fun _ h9 => h9) rfl dX7_rate_41 ?_
      refine lv_iload_n hx hb dX7_rate_44 rfl (lv_at hl 2 rfl) ?_
      refine g_nald hx hb hE hP _ f0_mgm (by omega) (by decide) dX7_rate_45 ?_
      have bd_45_2 := b_mgm (k)
      refine lv_i2d hx hb dX7_rate_46 ?_
      refine lv_ddiv hx hb dX7_rate_47 (fp_rate _ (by omega) (by omega)) ?_
      refine g_dret hx hb hr hlocks () dX7_rate_48 hS hP hD ?_
      have e1 : rCw sd mfx mce k = mce k := if_neg (fun z => c_2 z.1)
      unfold mRate
      rw [e1, if_neg (by omega)]
    · refine g_dconst0 hx hb dX7_rate_34 ?_
      refine lv_goto (tgt := 48) hx hb dX7_rate_35 (by decide) ?_
      refine g_dret hx hb hr hlocks () dX7_rate_48 hS hP hD ?_
      have e1 : rCw sd mfx mce k = mce k := if_neg (fun z => c_2 z.1)
      unfold mRate
      rw [e1, if_pos (by omega)]
  · refine lv_aload_n hx hb dX7_rate_5 rfl (lv_at hl 0 rfl) ?_
    refine va_get (D := D) (ci := 8) (v := .ref a_mfx) (C := RX7) (T := TX7) (N := 33) hx hb hts in_RX7 hown hE.1 (gv1 hP f0_mod) 0 rfl rfl 10 (by decide) (hts (.fieldLink RX7 25 "BasketryOfficeModel" "fixed" "[I") (by decide +kernel)) (fun _ h9 => h9) rfl dX7_rate_6 ?_
    refine lv_iload_n hx hb dX7_rate_9 rfl (lv_at hl 1 rfl) ?_
    refine g_nald hx hb hE hP _ f0_mfx (by omega) (by decide) dX7_rate_10 ?_
    have bd_10_3 := b_mfx (k)
    refine g_if_le (tgt := 23) hx hb (by omega) dX7_rate_11 (by decide) (fun c_11 => ?_) (fun c_11 => ?_)
    · refine lv_aload_n hx hb dX7_rate_23 rfl (lv_at hl 0 rfl) ?_
      refine va_get (D := D) (ci := 8) (v := .ref a_mce) (C := RX7) (T := TX7) (N := 33) hx hb hts in_RX7 hown hE.1 (gv1 hP f0_mod) 0 rfl rfl 8 (by decide) (hts (.fieldLink RX7 19 "BasketryOfficeModel" "cents" "[I") (by decide +kernel)) (fun _ h9 => h9) rfl dX7_rate_24 ?_
      refine lv_iload_n hx hb dX7_rate_27 rfl (lv_at hl 1 rfl) ?_
      refine g_nald hx hb hE hP _ f0_mce (by omega) (by decide) dX7_rate_28 ?_
      have bd_28_4 := b_mce (k)
      refine lv_istore_n (lv' := [(3, .int (nI (mce k))), (0, .ref a_mod), (1, .int (nI (k))), (2, .int (nI (sd)))]) hx hb dX7_rate_29 rfl hl (by decide) rfl (fun ls hl => ?_)
      refine lv_iload_n hx hb dX7_rate_30 rfl (lv_at hl 0 rfl) ?_
      refine g_if_ne (tgt := 38) hx hb (by omega) dX7_rate_31 (by decide) (fun c_31 => ?_) (fun c_31 => ?_)
      · refine lv_iload_n hx hb dX7_rate_38 rfl (lv_at hl 0 rfl) ?_
        refine lv_i2d hx hb dX7_rate_39 ?_
        refine lv_aload_n hx hb dX7_rate_40 rfl (lv_at hl 1 rfl) ?_
        refine va_get (D := D) (ci := 8) (v := .ref a_mgm) (C := RX7) (T := TX7) (N := 33) hx hb hts in_RX7 hown hE.1 (gv1 hP f0_mod) 0 rfl rfl 9 (by decide) (hts (.fieldLink RX7 22 "BasketryOfficeModel" "grams" "[I") (by decide +kernel)) (fun _ h9 => h9) rfl dX7_rate_41 ?_
        refine lv_iload_n hx hb dX7_rate_44 rfl (lv_at hl 2 rfl) ?_
        refine g_nald hx hb hE hP _ f0_mgm (by omega) (by decide) dX7_rate_45 ?_
        have bd_45_5 := b_mgm (k)
        refine lv_i2d hx hb dX7_rate_46 ?_
        refine lv_ddiv hx hb dX7_rate_47 (fp_rate _ (by omega) (by omega)) ?_
        refine g_dret hx hb hr hlocks () dX7_rate_48 hS hP hD ?_
        have e1 : rCw sd mfx mce k = mce k := if_neg (fun z => by have := z.2; omega)
        unfold mRate
        rw [e1, if_neg (by omega)]
      · refine g_dconst0 hx hb dX7_rate_34 ?_
        refine lv_goto (tgt := 48) hx hb dX7_rate_35 (by decide) ?_
        refine g_dret hx hb hr hlocks () dX7_rate_48 hS hP hD ?_
        have e1 : rCw sd mfx mce k = mce k := if_neg (fun z => by have := z.2; omega)
        unfold mRate
        rw [e1, if_pos (by omega)]
    · refine lv_aload_n hx hb dX7_rate_14 rfl (lv_at hl 0 rfl) ?_
      refine va_get (D := D) (ci := 8) (v := .ref a_mfx) (C := RX7) (T := TX7) (N := 33) hx hb hts in_RX7 hown hE.1 (gv1 hP f0_mod) 0 rfl rfl 10 (by decide) (hts (.fieldLink RX7 25 "BasketryOfficeModel" "fixed" "[I") (by decide +kernel)) (fun _ h9 => h9) rfl dX7_rate_15 ?_
      refine lv_iload_n hx hb dX7_rate_18 rfl (lv_at hl 1 rfl) ?_
      refine g_nald hx hb hE hP _ f0_mfx (by omega) (by decide) dX7_rate_19 ?_
      have bd_19_6 := b_mfx (k)
      refine lv_goto (tgt := 29) hx hb dX7_rate_20 (by decide) ?_
      refine lv_istore_n (lv' := [(3, .int (nI (mfx k))), (0, .ref a_mod), (1, .int (nI (k))), (2, .int (nI (sd)))]) hx hb dX7_rate_29 rfl hl (by decide) rfl (fun ls hl => ?_)
      refine lv_iload_n hx hb dX7_rate_30 rfl (lv_at hl 0 rfl) ?_
      refine g_if_ne (tgt := 38) hx hb (by omega) dX7_rate_31 (by decide) (fun c_31 => ?_) (fun c_31 => ?_)
      · refine lv_iload_n hx hb dX7_rate_38 rfl (lv_at hl 0 rfl) ?_
        refine lv_i2d hx hb dX7_rate_39 ?_
        refine lv_aload_n hx hb dX7_rate_40 rfl (lv_at hl 1 rfl) ?_
        refine va_get (D := D) (ci := 8) (v := .ref a_mgm) (C := RX7) (T := TX7) (N := 33) hx hb hts in_RX7 hown hE.1 (gv1 hP f0_mod) 0 rfl rfl 9 (by decide) (hts (.fieldLink RX7 22 "BasketryOfficeModel" "grams" "[I") (by decide +kernel)) (fun _ h9 => h9) rfl dX7_rate_41 ?_
        refine lv_iload_n hx hb dX7_rate_44 rfl (lv_at hl 2 rfl) ?_
        refine g_nald hx hb hE hP _ f0_mgm (by omega) (by decide) dX7_rate_45 ?_
        have bd_45_7 := b_mgm (k)
        refine lv_i2d hx hb dX7_rate_46 ?_
        refine lv_ddiv hx hb dX7_rate_47 (fp_rate _ (by omega) (by omega)) ?_
        refine g_dret hx hb hr hlocks () dX7_rate_48 hS hP hD ?_
        have e1 : rCw sd mfx mce k = mfx k := if_pos ⟨by omega, by omega⟩
        unfold mRate
        rw [e1, if_neg (by omega)]
      · refine g_dconst0 hx hb dX7_rate_34 ?_
        refine lv_goto (tgt := 48) hx hb dX7_rate_35 (by decide) ?_
        refine g_dret hx hb hr hlocks () dX7_rate_48 hS hP hD ?_
        have e1 : rCw sd mfx mce k = mfx k := if_pos ⟨by omega, by omega⟩
        unfold mRate
        rw [e1, if_pos (by omega)]

theorem in_c_X7_base_RX7 : ∀ w ∈ wsX70, w ∈ wsX7_base := by decide +kernel
set_option maxHeartbeats 4000000 in
set_option maxRecDepth 100000 in
theorem c_X7_base (l : Launch) {D : va_G} {y : Nat → Nat} {ws : va_W} {x_mod_0 : Value} {x_mod_1 : Value} {x_mod_2 : Value} {x_mod_3 : Value} {x_mod_4 : Value} {x_mod_5 : Value} {x_mod_6 : Value} {x_mod_7 : Value} {x_mod_8 : Value} {x_mod_9 : Value} {x_mod_10 : Value} {x_mod_11 : Value} {x_mod_14 : Value} {x_mod_15 : Value} {x_mod_16 : Value} {x_mod_18 : Value} {x_mod_19 : Value} {x_mod_20 : Value} {x_mod_21 : Value} {x_mod_22 : Value} {x_mod_23 : Value} {x_mod_24 : Value} {x_mod_25 : Value} {x_mod_26 : Value} {x_mod_27 : Value} {x_mod_28 : Value} {x_mod_29 : Value} {x_mod_30 : Value} {x_mod_31 : Value} {x_mod_32 : Value} {p_mod p_mlc p_mlg p_mpr a_mod a_mlc a_mlg a_mpr : Nat} {mlc : Nat → Nat} {mlg : Nat → Nat} {mpr : Nat → UInt64} {t i o sd : Nat} (f0_mod : ws[p_mod]? = some (a_mod, .inr (8, x_mod_0 :: x_mod_1 :: x_mod_2 :: x_mod_3 :: x_mod_4 :: x_mod_5 :: x_mod_6 :: x_mod_7 :: x_mod_8 :: x_mod_9 :: x_mod_10 :: x_mod_11 :: .ref a_mlc :: .ref a_mlg :: x_mod_14 :: x_mod_15 :: x_mod_16 :: .ref a_mpr :: x_mod_18 :: x_mod_19 :: x_mod_20 :: x_mod_21 :: x_mod_22 :: x_mod_23 :: x_mod_24 :: x_mod_25 :: x_mod_26 :: x_mod_27 :: x_mod_28 :: x_mod_29 :: x_mod_30 :: x_mod_31 :: x_mod_32 :: []))) (f0_mlc : ws[p_mlc]? = some (a_mlc, eN y 1152 mlc)) (f0_mlg : ws[p_mlg]? = some (a_mlg, eN y 1152 mlg)) (f0_mpr : ws[p_mpr]? = some (a_mpr, eD y 2304 mpr)) (b_mlc : ∀ k, mlc k ≤ 100000) (b_mlg : ∀ k, mlg k ≤ 10000) (ht : t < 24) (hi : i < 12) (ho : o < 4) (hsd : sd ≤ 1) (hlg : ∀ k, mlg k = 0 → mlc k = 0) : gMd l yX7_base wsX7_base ({ frames := 1, cells := 0, slots := 0, locals := 22 }) D y [.ref a_mod, .int (nI (t)), .int (nI (i)), .int (nI (o)), .int (nI (sd))] ws (fun r (_ : Unit) => r = mBase mlc mlg mpr t i o sd) (fun (_ : Unit) => ws) := by
  refine g_met_d (cc := cX7_base) (maxL := 6) (by decide) rfl (Nat.le_of_ble_eq_true rfl) ?_
  intro p e s m below meth c A hx hb hml hr hts hown hnm hlocks hE hP hD hS hA ls hl
  have hown : s.vm.findClass RX7 = some m.cls := hown
  have hl : lv_has ls 6 [(0, .ref a_mod), (1, .int (nI (t))), (2, .int (nI (i))), (3, .int (nI (o))), (4, .int (nI (sd)))] := hl
  have in_RX7 := in_c_X7_base_RX7
  refine lv_iload_n hx hb dX7_base_0 rfl (lv_at hl 1 rfl) ?_
  refine g_if_ne (tgt := 6) hx hb (by omega) dX7_base_1 (by decide) (fun c_1 => ?_) (fun c_1 => ?_)
  · refine lv_iload_n hx hb dX7_base_6 rfl (lv_at hl 1 rfl) ?_
    refine lv_iconst (v := nI 1) hx hb dX7_base_7 (by decide) ?_
    refine g_isub hx hb dX7_base_8 (pk_sub (by omega)) ?_
    refine lv_iload_n hx hb dX7_base_9 rfl (lv_at hl 2 rfl) ?_
    refine lv_iload_n hx hb dX7_base_10 rfl (lv_at hl 3 rfl) ?_
    refine gc_S_i (As := [.int (nI ((t) - (1))), .int (nI (i)), .int (nI (o))]) (rest := []) (c_X7_cell l) ⟨hx, hb, hml, hown, hts⟩ (va_cwS 3 hts gX7_base_X7_cell rfl rfl rfl (by decide +kernel) ⟨Nat.le_of_ble_eq_true rfl, Nat.le_of_ble_eq_true rfl⟩) hE hP hD hS hA rfl rfl hl.1 (Nat.le_of_ble_eq_true rfl) dX7_base_11 ⟨Nat.le_of_ble_eq_true rfl, Nat.le_of_ble_eq_true rfl⟩ (fun r_11 u_11 H locs hP hD hS q_11 => ?_)
    subst q_11
    refine lv_istore (lv' := [(5, .int (nI (48 * ((t) - (1)) + 4 * (i) + (o)))), (0, .ref a_mod), (1, .int (nI (t))), (2, .int (nI (i))), (3, .int (nI (o))), (4, .int (nI (sd)))]) hx hb dX7_base_14 hl (by decide) rfl (fun ls hl => ?_)
    refine lv_aload_n hx hb dX7_base_16 rfl (lv_at hl 1 rfl) ?_
    refine va_get (D := D) (ci := 8) (v := .ref a_mlc) (C := RX7) (T := TX7) (N := 33) hx hb hts in_RX7 hown hE.1 (gv1 hP f0_mod) 0 rfl rfl 12 (by decide) (hts (.fieldLink RX7 32 "BasketryOfficeModel" "linkCents" "[I") (by decide +kernel)) (fun _ h9 => h9) rfl dX7_base_17 ?_
    refine lv_iload hx hb dX7_base_20 (lv_at hl 0 rfl) ?_
    refine g_nald hx hb hE hP _ f0_mlc (by omega) (by decide) dX7_base_22 ?_
    have bd_22_1 := b_mlc (48 * ((t) - (1)) + 4 * (i) + (o))
    refine g_if_le (tgt := 46) hx hb (by omega) dX7_base_23 (by decide) (fun c_23 => ?_) (fun c_23 => ?_)
    · refine lv_aload_n hx hb dX7_base_46 rfl (lv_at hl 1 rfl) ?_
      refine va_get (D := D) (ci := 8) (v := .ref a_mpr) (C := RX7) (T := TX7) (N := 33) hx hb hts in_RX7 hown hE.1 (gv1 hP f0_mod) 0 rfl rfl 17 (by decide) (hts (.fieldLink RX7 47 "BasketryOfficeModel" "price" "[D") (by decide +kernel)) (fun _ h9 => h9) rfl dX7_base_47 ?_
      refine lv_sipush (v := nI 1152) hx hb dX7_base_50 (by decide) ?_
      refine lv_iload hx hb dX7_base_53 (lv_at hl 5 rfl) ?_
      refine g_imul hx hb dX7_base_55 (pk_mul _ _) ?_
      refine lv_iload hx hb dX7_base_56 (lv_at hl 0 rfl) ?_
      refine g_iadd hx hb dX7_base_58 (nI_add _ _) ?_
      refine g_dald hx hb hE hP _ f0_mpr (by omega) (by decide) dX7_base_59 ?_
      refine g_dret hx hb hr hlocks () dX7_base_60 hS hP hD ?_
      unfold mBase
      rw [if_neg (by omega), if_neg (by omega)]
    · refine lv_aload_n hx hb dX7_base_26 rfl (lv_at hl 1 rfl) ?_
      refine va_get (D := D) (ci := 8) (v := .ref a_mlc) (C := RX7) (T := TX7) (N := 33) hx hb hts in_RX7 hown hE.1 (gv1 hP f0_mod) 0 rfl rfl 12 (by decide) (hts (.fieldLink RX7 32 "BasketryOfficeModel" "linkCents" "[I") (by decide +kernel)) (fun _ h9 => h9) rfl dX7_base_27 ?_
      refine lv_iload hx hb dX7_base_30 (lv_at hl 0 rfl) ?_
      refine g_nald hx hb hE hP _ f0_mlc (by omega) (by decide) dX7_base_32 ?_
      have bd_32_2 := b_mlc (48 * ((t) - (1)) + 4 * (i) + (o))
      refine lv_i2d hx hb dX7_base_33 ?_
      refine lv_aload_n hx hb dX7_base_34 rfl (lv_at hl 1 rfl) ?_
      refine va_get (D := D) (ci := 8) (v := .ref a_mlg) (C := RX7) (T := TX7) (N := 33) hx hb hts in_RX7 hown hE.1 (gv1 hP f0_mod) 0 rfl rfl 13 (by decide) (hts (.fieldLink RX7 35 "BasketryOfficeModel" "linkGrams" "[I") (by decide +kernel)) (fun _ h9 => h9) rfl dX7_base_35 ?_
      refine lv_iload hx hb dX7_base_38 (lv_at hl 0 rfl) ?_
      refine g_nald hx hb hE hP _ f0_mlg (by omega) (by decide) dX7_base_40 ?_
      have bd_40_3 := b_mlg (48 * ((t) - (1)) + 4 * (i) + (o))
      refine lv_i2d hx hb dX7_base_41 ?_
      refine lv_ddiv hx hb dX7_base_42 (fp_rate _ (by have := hlg (48 * (t - 1) + 4 * i + o); omega) (by omega)) ?_
      refine lv_goto (tgt := 60) hx hb dX7_base_43 (by decide) ?_
      refine g_dret hx hb hr hlocks () dX7_base_60 hS hP hD ?_
      unfold mBase
      rw [if_neg (by omega), if_pos (by omega)]
  · refine g_dconst0 hx hb dX7_base_4 ?_
    refine g_dret hx hb hr hlocks () dX7_base_5 hS hP hD ?_
    unfold mBase
    rw [if_pos (by omega)]
