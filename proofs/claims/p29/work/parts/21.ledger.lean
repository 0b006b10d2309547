theorem in_c_X2_hasQuote_RX2 : ∀ w ∈ wsX20, w ∈ wsX2_hasQuote := by decide +kernel
set_option maxHeartbeats 4000000 in
set_option maxRecDepth 100000 in
theorem c_X2_hasQuote (l : Launch) {D : va_G} {y : Nat → Nat} {ws : va_W} {x_led_0 : Value} {x_led_2 : Value} {x_led_3 : Value} {x_led_4 : Value} {x_led_5 : Value} {x_led_6 : Value} {x_led_7 : Value} {x_led_8 : Value} {x_led_9 : Value} {p_led p_cents a_led a_cents : Nat} {cents : Nat → Nat} {k : Nat} (f0_led : ws[p_led]? = some (a_led, .inr (3, [x_led_0, .ref a_cents, x_led_2, x_led_3, x_led_4, x_led_5, x_led_6, x_led_7, x_led_8, x_led_9]))) (f0_cents : ws[p_cents]? = some (a_cents, eN y 1152 cents)) (b_cents : ∀ k, cents k ≤ 100000) (hk : k < 1152) : gMi l yX2_hasQuote wsX2_hasQuote ({ frames := 0, cells := 0, slots := 0, locals := 0 }) D y [.ref a_led, .int (nI (k))] ws (fun r (_ : Unit) => r = gb (decide (0 < cents k))) (fun (_ : Unit) => ws) := by
  refine g_met_z (cc := cX2_hasQuote) (maxL := 2) (by decide) rfl (Nat.le_of_ble_eq_true rfl) ?_
  intro p e s m below meth c A hx hb hml hr hts hown hnm hlocks hE hP hD hS hA ls hl
  have hown : s.vm.findClass RX2 = some m.cls := hown
  have hl : lv_has ls 2 [(0, .ref a_led), (1, .int (nI (k)))] := hl
  have in_RX2 := in_c_X2_hasQuote_RX2
  refine lv_aload_n hx hb dX2_hasQuote_0 rfl (lv_at hl 0 rfl) ?_
  refine va_get (D := D) (ci := 3) (v := .ref a_cents) (C := RX2) (T := TX2) (N := 10) hx hb hts in_RX2 hown hE.1 (gv1 hP f0_led) 0 rfl rfl 1 (by decide) (hts (.fieldLink RX2 18 "BasketryOffice$Ledger" "cents" "[I") (by decide +kernel)) (fun _ h9 => h9) rfl dX2_hasQuote_1 ?_
  refine lv_iload_n hx hb dX2_hasQuote_4 rfl (lv_at hl 1 rfl) ?_
  refine g_nald hx hb hE hP _ f0_cents (by omega) (by decide) dX2_hasQuote_5 ?_
  have bd_5_1 := b_cents (k)
  refine g_if_le (tgt := 13) hx hb (by omega) dX2_hasQuote_6 (by decide) (fun c_6 => ?_) (fun c_6 => ?_)
  · refine lv_iconst (v := nI 0) hx hb dX2_hasQuote_13 (by decide) ?_
    refine g_zret (r := (gb (false))) hx hb hr hlocks () dX2_hasQuote_14 (gb_narrow _) hS hP hD ?_
    have := c_6
    simp [gb]
    try omega
  · refine lv_iconst (v := nI 1) hx hb dX2_hasQuote_9 (by decide) ?_
    refine lv_goto (tgt := 14) hx hb dX2_hasQuote_10 (by decide) ?_
    refine g_zret (r := (gb (true))) hx hb hr hlocks () dX2_hasQuote_14 (gb_narrow _) hS hP hD ?_
    have := c_6
    simp [gb]
    try omega

theorem in_c_X2_hasLink_RX2 : ∀ w ∈ wsX20, w ∈ wsX2_hasLink := by decide +kernel
set_option maxHeartbeats 4000000 in
set_option maxRecDepth 100000 in
theorem c_X2_hasLink (l : Launch) {D : va_G} {y : Nat → Nat} {ws : va_W} {x_led_0 : Value} {x_led_1 : Value} {x_led_2 : Value} {x_led_3 : Value} {x_led_4 : Value} {x_led_5 : Value} {x_led_7 : Value} {x_led_8 : Value} {x_led_9 : Value} {p_led p_lc a_led a_lc : Nat} {lc : Nat → Nat} {k : Nat} (f0_led : ws[p_led]? = some (a_led, .inr (3, [x_led_0, x_led_1, x_led_2, x_led_3, x_led_4, x_led_5, .ref a_lc, x_led_7, x_led_8, x_led_9]))) (f0_lc : ws[p_lc]? = some (a_lc, eN y 1152 lc)) (b_lc : ∀ k, lc k ≤ 100000) (hk : k < 1152) : gMi l yX2_hasLink wsX2_hasLink ({ frames := 0, cells := 0, slots := 0, locals := 0 }) D y [.ref a_led, .int (nI (k))] ws (fun r (_ : Unit) => r = gb (decide (0 < lc k))) (fun (_ : Unit) => ws) := by
  refine g_met_z (cc := cX2_hasLink) (maxL := 2) (by decide) rfl (Nat.le_of_ble_eq_true rfl) ?_
  intro p e s m below meth c A hx hb hml hr hts hown hnm hlocks hE hP hD hS hA ls hl
  have hown : s.vm.findClass RX2 = some m.cls := hown
  have hl : lv_has ls 2 [(0, .ref a_led), (1, .int (nI (k)))] := hl
  have in_RX2 := in_c_X2_hasLink_RX2
  refine lv_aload_n hx hb dX2_hasLink_0 rfl (lv_at hl 0 rfl) ?_
  refine va_get (D := D) (ci := 3) (v := .ref a_lc) (C := RX2) (T := TX2) (N := 10) hx hb hts in_RX2 hown hE.1 (gv1 hP f0_led) 0 rfl rfl 6 (by decide) (hts (.fieldLink RX2 35 "BasketryOffice$Ledger" "linkCents" "[I") (by decide +kernel)) (fun _ h9 => h9) rfl dX2_hasLink_1 ?_
  refine lv_iload_n hx hb dX2_hasLink_4 rfl (lv_at hl 1 rfl) ?_
  refine g_nald hx hb hE hP _ f0_lc (by omega) (by decide) dX2_hasLink_5 ?_
  have bd_5_1 := b_lc (k)
  refine g_if_le (tgt := 13) hx hb (by omega) dX2_hasLink_6 (by decide) (fun c_6 => ?_) (fun c_6 => ?_)
  · refine lv_iconst (v := nI 0) hx hb dX2_hasLink_13 (by decide) ?_
    refine g_zret (r := (gb (false))) hx hb hr hlocks () dX2_hasLink_14 (gb_narrow _) hS hP hD ?_
    have := c_6
    simp [gb]
    try omega
  · refine lv_iconst (v := nI 1) hx hb dX2_hasLink_9 (by decide) ?_
    refine lv_goto (tgt := 14) hx hb dX2_hasLink_10 (by decide) ?_
    refine g_zret (r := (gb (true))) hx hb hr hlocks () dX2_hasLink_14 (gb_narrow _) hS hP hD ?_
    have := c_6
    simp [gb]
    try omega

theorem in_c_X2_rateOf_RX2 : ∀ w ∈ wsX20, w ∈ wsX2_rateOf := by decide +kernel
set_option maxHeartbeats 4000000 in
set_option maxRecDepth 100000 in
theorem c_X2_rateOf (l : Launch) {D : va_G} {y : Nat → Nat} {ws : va_W} {x_led_0 : Value} {x_led_3 : Value} {x_led_5 : Value} {x_led_6 : Value} {x_led_7 : Value} {x_led_8 : Value} {x_led_9 : Value} {p_led p_cents p_grams p_cc a_led a_cents a_grams a_cc : Nat} {cents : Nat → Nat} {grams : Nat → Nat} {cc : Nat → Nat} {k : Nat} {wf : Bool} (f0_led : ws[p_led]? = some (a_led, .inr (3, [x_led_0, .ref a_cents, .ref a_grams, x_led_3, .ref a_cc, x_led_5, x_led_6, x_led_7, x_led_8, x_led_9]))) (f0_cents : ws[p_cents]? = some (a_cents, eN y 1152 cents)) (f0_grams : ws[p_grams]? = some (a_grams, eN y 1152 grams)) (f0_cc : ws[p_cc]? = some (a_cc, eN y 1152 cc)) (b_cents : ∀ k, cents k ≤ 100000) (b_grams : ∀ k, grams k ≤ 10000) (b_cc : ∀ k, cc k ≤ 100000) (hk : k < 1152) : gMd l yX2_rateOf wsX2_rateOf ({ frames := 0, cells := 0, slots := 0, locals := 0 }) D y [.ref a_led, .int (nI (k)), .int (gb (wf))] ws (fun r (_ : Unit) => r = sRate (sCw wf cc cents) grams k) (fun (_ : Unit) => ws) := by
  refine g_met_d (cc := cX2_rateOf) (maxL := 4) (by decide) rfl (Nat.le_of_ble_eq_true rfl) ?_
  intro p e s m below meth c A hx hb hml hr hts hown hnm hlocks hE hP hD hS hA ls hl
  have hown : s.vm.findClass RX2 = some m.cls := hown
  have hl : lv_has ls 4 [(0, .ref a_led), (1, .int (nI (k))), (2, .int (gb (wf)))] := hl
  have in_RX2 := in_c_X2_rateOf_RX2
  refine lv_aload_n hx hb dX2_rateOf_0 rfl (lv_at hl 0 rfl) ?_
  refine va_get (D := D) (ci := 3) (v := .ref a_grams) (C := RX2) (T := TX2) (N := 10) hx hb hts in_RX2 hown hE.1 (gv1 hP f0_led) 0 rfl rfl 2 (by decide) (hts (.fieldLink RX2 22 "BasketryOffice$Ledger" "grams" "[I") (by decide +kernel)) (fun _ h9 => h9) rfl dX2_rateOf_1 ?_
  refine lv_iload_n hx hb dX2_rateOf_4 rfl (lv_at hl 1 rfl) ?_
  refine g_nald hx hb hE hP _ f0_grams (by omega) (by decide) dX2_rateOf_5 ?_
  have bd_5_1 := b_grams (k)
  refine lv_iconst (v := nI 1) hx hb dX2_rateOf_6 (by decide) ?_
  refine g_icmp_ge (tgt := 12) hx hb (by omega) (by omega) dX2_rateOf_7 (by decide) (fun c_7 => ?_) (fun c_7 => ?_)
  · refine lv_iload_n hx hb dX2_rateOf_12 rfl (lv_at hl 2 rfl) ?_
    refine g_bif_eq (tgt := 25) hx hb dX2_rateOf_13 (by decide) (fun c_13 => ?_) (fun c_13 => ?_)
    · refine lv_aload_n hx hb dX2_rateOf_25 rfl (lv_at hl 0 rfl) ?_
      refine va_get (D := D) (ci := 3) (v := .ref a_cents) (C := RX2) (T := TX2) (N := 10) hx hb hts in_RX2 hown hE.1 (gv1 hP f0_led) 0 rfl rfl 1 (by decide) (hts (.fieldLink RX2 18 "BasketryOffice$Ledger" "cents" "[I") (by decide +kernel)) (fun _ h9 => h9) rfl dX2_rateOf_26 ?_
      refine lv_iload_n hx hb dX2_rateOf_29 rfl (lv_at hl 1 rfl) ?_
      refine g_nald hx hb hE hP _ f0_cents (by omega) (by decide) dX2_rateOf_30 ?_
      have bd_30_2 := b_cents (k)
      refine lv_istore_n (lv' := [(3, .int (nI (cents k))), (0, .ref a_led), (1, .int (nI (k))), (2, .int (gb (wf)))]) hx hb dX2_rateOf_31 rfl hl (by decide) rfl (fun ls hl => ?_)
      refine lv_iload_n hx hb dX2_rateOf_32 rfl (lv_at hl 0 rfl) ?_
      refine lv_i2d hx hb dX2_rateOf_33 ?_
      refine lv_aload_n hx hb dX2_rateOf_34 rfl (lv_at hl 1 rfl) ?_
      refine va_get (D := D) (ci := 3) (v := .ref a_grams) (C := RX2) (T := TX2) (N := 10) hx hb hts in_RX2 hown hE.1 (gv1 hP f0_led) 0 rfl rfl 2 (by decide) (hts (.fieldLink RX2 22 "BasketryOffice$Ledger" "grams" "[I") (by decide +kernel)) (fun _ h9 => h9) rfl dX2_rateOf_35 ?_
      refine lv_iload_n hx hb dX2_rateOf_38 rfl (lv_at hl 2 rfl) ?_
      refine g_nald hx hb hE hP _ f0_grams (by omega) (by decide) dX2_rateOf_39 ?_
      have bd_39_3 := b_grams (k)
      refine lv_i2d hx hb dX2_rateOf_40 ?_
      refine lv_ddiv hx hb dX2_rateOf_41 (fp_rate _ (by omega) (by omega)) ?_
      refine g_dret hx hb hr hlocks () dX2_rateOf_42 hS hP hD ?_
      have h : grams k ≠ 0 := by omega
      simp [sRate, sCw, h, *]
    · refine lv_aload_n hx hb dX2_rateOf_16 rfl (lv_at hl 0 rfl) ?_
      refine va_get (D := D) (ci := 3) (v := .ref a_cc) (C := RX2) (T := TX2) (N := 10) hx hb hts in_RX2 hown hE.1 (gv1 hP f0_led) 0 rfl rfl 4 (by decide) (hts (.fieldLink RX2 29 "BasketryOffice$Ledger" "correctedCents" "[I") (by decide +kernel)) (fun _ h9 => h9) rfl dX2_rateOf_17 ?_
      refine lv_iload_n hx hb dX2_rateOf_20 rfl (lv_at hl 1 rfl) ?_
      refine g_nald hx hb hE hP _ f0_cc (by omega) (by decide) dX2_rateOf_21 ?_
      have bd_21_4 := b_cc (k)
      refine lv_goto (tgt := 31) hx hb dX2_rateOf_22 (by decide) ?_
      refine lv_istore_n (lv' := [(3, .int (nI (cc k))), (0, .ref a_led), (1, .int (nI (k))), (2, .int (gb (wf)))]) hx hb dX2_rateOf_31 rfl hl (by decide) rfl (fun ls hl => ?_)
      refine lv_iload_n hx hb dX2_rateOf_32 rfl (lv_at hl 0 rfl) ?_
      refine lv_i2d hx hb dX2_rateOf_33 ?_
      refine lv_aload_n hx hb dX2_rateOf_34 rfl (lv_at hl 1 rfl) ?_
      refine va_get (D := D) (ci := 3) (v := .ref a_grams) (C := RX2) (T := TX2) (N := 10) hx hb hts in_RX2 hown hE.1 (gv1 hP f0_led) 0 rfl rfl 2 (by decide) (hts (.fieldLink RX2 22 "BasketryOffice$Ledger" "grams" "[I") (by decide +kernel)) (fun _ h9 => h9) rfl dX2_rateOf_35 ?_
      refine lv_iload_n hx hb dX2_rateOf_38 rfl (lv_at hl 2 rfl) ?_
      refine g_nald hx hb hE hP _ f0_grams (by omega) (by decide) dX2_rateOf_39 ?_
      have bd_39_5 := b_grams (k)
      refine lv_i2d hx hb dX2_rateOf_40 ?_
      refine lv_ddiv hx hb dX2_rateOf_41 (fp_rate _ (by omega) (by omega)) ?_
      refine g_dret hx hb hr hlocks () dX2_rateOf_42 hS hP hD ?_
      have h : grams k ≠ 0 := by omega
      simp [sRate, sCw, h, *]
  · refine g_dconst0 hx hb dX2_rateOf_10 ?_
    refine g_dret hx hb hr hlocks () dX2_rateOf_11 hS hP hD ?_
    have h : grams k = 0 := by omega
    simp [sRate, h]

theorem in_c_X2_linkRateOf_RX2 : ∀ w ∈ wsX20, w ∈ wsX2_linkRateOf := by decide +kernel
set_option maxHeartbeats 4000000 in
set_option maxRecDepth 100000 in
theorem c_X2_linkRateOf (l : Launch) {D : va_G} {y : Nat → Nat} {ws : va_W} {x_led_0 : Value} {x_led_1 : Value} {x_led_2 : Value} {x_led_3 : Value} {x_led_4 : Value} {x_led_5 : Value} {x_led_8 : Value} {x_led_9 : Value} {p_led p_lc p_lg a_led a_lc a_lg : Nat} {lc : Nat → Nat} {lg : Nat → Nat} {k : Nat} (f0_led : ws[p_led]? = some (a_led, .inr (3, [x_led_0, x_led_1, x_led_2, x_led_3, x_led_4, x_led_5, .ref a_lc, .ref a_lg, x_led_8, x_led_9]))) (f0_lc : ws[p_lc]? = some (a_lc, eN y 1152 lc)) (f0_lg : ws[p_lg]? = some (a_lg, eN y 1152 lg)) (b_lc : ∀ k, lc k ≤ 100000) (b_lg : ∀ k, lg k ≤ 10000) (hk : k < 1152) : gMd l yX2_linkRateOf wsX2_linkRateOf ({ frames := 0, cells := 0, slots := 0, locals := 0 }) D y [.ref a_led, .int (nI (k))] ws (fun r (_ : Unit) => r = sRate lc lg k) (fun (_ : Unit) => ws) := by
  refine g_met_d (cc := cX2_linkRateOf) (maxL := 2) (by decide) rfl (Nat.le_of_ble_eq_true rfl) ?_
  intro p e s m below meth c A hx hb hml hr hts hown hnm hlocks hE hP hD hS hA ls hl
  have hown : s.vm.findClass RX2 = some m.cls := hown
  have hl : lv_has ls 2 [(0, .ref a_led), (1, .int (nI (k)))] := hl
  have in_RX2 := in_c_X2_linkRateOf_RX2
  refine lv_aload_n hx hb dX2_linkRateOf_0 rfl (lv_at hl 0 rfl) ?_
  refine va_get (D := D) (ci := 3) (v := .ref a_lg) (C := RX2) (T := TX2) (N := 10) hx hb hts in_RX2 hown hE.1 (gv1 hP f0_led) 0 rfl rfl 7 (by decide) (hts (.fieldLink RX2 38 "BasketryOffice$Ledger" "linkGrams" "[I") (by decide +kernel)) (fun _ h9 => h9) rfl dX2_linkRateOf_1 ?_
  refine lv_iload_n hx hb dX2_linkRateOf_4 rfl (lv_at hl 1 rfl) ?_
  refine g_nald hx hb hE hP _ f0_lg (by omega) (by decide) dX2_linkRateOf_5 ?_
  have bd_5_1 := b_lg (k)
  refine lv_iconst (v := nI 1) hx hb dX2_linkRateOf_6 (by decide) ?_
  refine g_icmp_ge (tgt := 12) hx hb (by omega) (by omega) dX2_linkRateOf_7 (by decide) (fun c_7 => ?_) (fun c_7 => ?_)
  · refine lv_aload_n hx hb dX2_linkRateOf_12 rfl (lv_at hl 0 rfl) ?_
    refine va_get (D := D) (ci := 3) (v := .ref a_lc) (C := RX2) (T := TX2) (N := 10) hx hb hts in_RX2 hown hE.1 (gv1 hP f0_led) 0 rfl rfl 6 (by decide) (hts (.fieldLink RX2 35 "BasketryOffice$Ledger" "linkCents" "[I") (by decide +kernel)) (fun _ h9 => h9) rfl dX2_linkRateOf_13 ?_
    refine lv_iload_n hx hb dX2_linkRateOf_16 rfl (lv_at hl 1 rfl) ?_
    refine g_nald hx hb hE hP _ f0_lc (by omega) (by decide) dX2_linkRateOf_17 ?_
    have bd_17_2 := b_lc (k)
    refine lv_i2d hx hb dX2_linkRateOf_18 ?_
    refine lv_aload_n hx hb dX2_linkRateOf_19 rfl (lv_at hl 0 rfl) ?_
    refine va_get (D := D) (ci := 3) (v := .ref a_lg) (C := RX2) (T := TX2) (N := 10) hx hb hts in_RX2 hown hE.1 (gv1 hP f0_led) 0 rfl rfl 7 (by decide) (hts (.fieldLink RX2 38 "BasketryOffice$Ledger" "linkGrams" "[I") (by decide +kernel)) (fun _ h9 => h9) rfl dX2_linkRateOf_20 ?_
    refine lv_iload_n hx hb dX2_linkRateOf_23 rfl (lv_at hl 1 rfl) ?_
    refine g_nald hx hb hE hP _ f0_lg (by omega) (by decide) dX2_linkRateOf_24 ?_
    have bd_24_3 := b_lg (k)
    refine lv_i2d hx hb dX2_linkRateOf_25 ?_
    refine lv_ddiv hx hb dX2_linkRateOf_26 (fp_rate _ (by omega) (by omega)) ?_
    refine g_dret hx hb hr hlocks () dX2_linkRateOf_27 hS hP hD ?_
    have h : lg k ≠ 0 := by omega
    simp [sRate, h, *]
  · refine g_dconst0 hx hb dX2_linkRateOf_10 ?_
    refine g_dret hx hb hr hlocks () dX2_linkRateOf_11 hS hP hD ?_
    have h : lg k = 0 := by omega
    simp [sRate, h]

theorem in_c_X2_putQuote_RX2 : ∀ w ∈ wsX20, w ∈ wsX2_putQuote := by decide +kernel
set_option maxHeartbeats 4000000 in
set_option maxRecDepth 100000 in
theorem c_X2_putQuote (l : Launch) {D : va_G} {y : Nat → Nat} {ws : va_W} {x_led_0 : Value} {x_led_3 : Value} {p_led p_cents p_grams p_cc a_led a_cents a_grams a_cc a_fx a_lc a_lg : Nat} {cents : Nat → Nat} {grams : Nat → Nat} {cc : Nat → Nat} {k ce gr qn fq : Nat} (f0_led : ws[p_led]? = some (a_led, .inr (3, [x_led_0, .ref a_cents, .ref a_grams, x_led_3, .ref a_cc, .ref a_fx, .ref a_lc, .ref a_lg, .int (nI (qn)), .int (nI (fq))]))) (f0_cents : ws[p_cents]? = some (a_cents, eN y 1152 cents)) (f0_grams : ws[p_grams]? = some (a_grams, eN y 1152 grams)) (f0_cc : ws[p_cc]? = some (a_cc, eN y 1152 cc)) (b_cents : ∀ k, cents k ≤ 100000) (b_grams : ∀ k, grams k ≤ 10000) (b_cc : ∀ k, cc k ≤ 100000) (hk : k < 1152) (hdis : p_cents ≠ p_grams ∧ p_cents ≠ p_cc ∧ p_grams ≠ p_cc) : gMv l yX2_putQuote wsX2_putQuote ({ frames := 0, cells := 0, slots := 0, locals := 0 }) D y [.ref a_led, .int (nI (k)), .int (nI (ce)), .int (nI (gr))] ws (fun (_ : Unit) => True) (fun (_ : Unit) => ((((ws.set p_cents (a_cents, eN y 1152 (vf_upd cents (k) (ce)))).set p_cc (a_cc, eN y 1152 (vf_upd cc (k) (ce)))).set p_grams (a_grams, eN y 1152 (vf_upd grams (k) (gr)))).set p_led (a_led, .inr (3, [x_led_0, .ref a_cents, .ref a_grams, x_led_3, .ref a_cc, .ref a_fx, .ref a_lc, .ref a_lg, .int (nI (qn + 1)), .int (nI (fq))])))) := by
  refine g_met_v (cc := cX2_putQuote) (maxL := 4) (by decide) rfl (Nat.le_of_ble_eq_true rfl) ?_
  intro p e s m below meth c A hx hb hml hr hts hown hnm hlocks hE hP hD hS hA ls hl
  have hown : s.vm.findClass RX2 = some m.cls := hown
  have hl : lv_has ls 4 [(0, .ref a_led), (1, .int (nI (k))), (2, .int (nI (ce))), (3, .int (nI (gr)))] := hl
  have in_RX2 := in_c_X2_putQuote_RX2
  refine lv_aload_n hx hb dX2_putQuote_0 rfl (lv_at hl 0 rfl) ?_
  refine va_get (D := D) (ci := 3) (v := .ref a_cents) (C := RX2) (T := TX2) (N := 10) hx hb hts in_RX2 hown hE.1 (gv1 hP f0_led) 0 rfl rfl 1 (by decide) (hts (.fieldLink RX2 18 "BasketryOffice$Ledger" "cents" "[I") (by decide +kernel)) (fun _ h9 => h9) rfl dX2_putQuote_1 ?_
  refine lv_iload_n hx hb dX2_putQuote_4 rfl (lv_at hl 1 rfl) ?_
  refine lv_iload_n hx hb dX2_putQuote_5 rfl (lv_at hl 2 rfl) ?_
  refine g_nast hx hb hE hP hD hS _ f0_cents (by omega) (by decide) dX2_putQuote_6 (fun H locs hP hD hS => ?_)
  have f_led := g_ne (x := (a_cents, eN y 1152 (vf_upd cents (k) (ce)))) (g_kne f0_cents f0_led (Nat.ne_of_beq_eq_false rfl)) (f0_led)
  have f_cents := g_eq (x := (a_cents, eN y 1152 (vf_upd cents (k) (ce)))) (f0_cents)
  have f_grams := g_ne (x := (a_cents, eN y 1152 (vf_upd cents (k) (ce)))) hdis.1 (f0_grams)
  have f_cc := g_ne (x := (a_cents, eN y 1152 (vf_upd cents (k) (ce)))) hdis.2.1 (f0_cc)
  refine lv_aload_n hx hb dX2_putQuote_7 rfl (lv_at hl 0 rfl) ?_
  refine va_get (D := D) (ci := 3) (v := .ref a_cc) (C := RX2) (T := TX2) (N := 10) hx hb hts in_RX2 hown hE.1 (gv1 hP f_led) 0 rfl rfl 4 (by decide) (hts (.fieldLink RX2 29 "BasketryOffice$Ledger" "correctedCents" "[I") (by decide +kernel)) (fun _ h9 => h9) rfl dX2_putQuote_8 ?_
  refine lv_iload_n hx hb dX2_putQuote_11 rfl (lv_at hl 1 rfl) ?_
  refine lv_iload_n hx hb dX2_putQuote_12 rfl (lv_at hl 2 rfl) ?_
  refine g_nast hx hb hE hP hD hS _ f_cc (by omega) (by decide) dX2_putQuote_13 (fun H locs hP hD hS => ?_)
  have f_led := g_ne (x := (a_cc, eN y 1152 (vf_upd cc (k) (ce)))) (g_kne f0_cc f0_led (Nat.ne_of_beq_eq_false rfl)) (g_ne (x := (a_cents, eN y 1152 (vf_upd cents (k) (ce)))) (g_kne f0_cents f0_led (Nat.ne_of_beq_eq_false rfl)) (f0_led))
  have f_cents := g_ne (x := (a_cc, eN y 1152 (vf_upd cc (k) (ce)))) (Ne.symm hdis.2.1) (g_eq (x := (a_cents, eN y 1152 (vf_upd cents (k) (ce)))) (f0_cents))
  have f_grams := g_ne (x := (a_cc, eN y 1152 (vf_upd cc (k) (ce)))) (Ne.symm hdis.2.2) (g_ne (x := (a_cents, eN y 1152 (vf_upd cents (k) (ce)))) hdis.1 (f0_grams))
  have f_cc := g_eq (x := (a_cc, eN y 1152 (vf_upd cc (k) (ce)))) (g_ne (x := (a_cents, eN y 1152 (vf_upd cents (k) (ce)))) hdis.2.1 (f0_cc))
  refine lv_aload_n hx hb dX2_putQuote_14 rfl (lv_at hl 0 rfl) ?_
  refine va_get (D := D) (ci := 3) (v := .ref a_grams) (C := RX2) (T := TX2) (N := 10) hx hb hts in_RX2 hown hE.1 (gv1 hP f_led) 0 rfl rfl 2 (by decide) (hts (.fieldLink RX2 22 "BasketryOffice$Ledger" "grams" "[I") (by decide +kernel)) (fun _ h9 => h9) rfl dX2_putQuote_15 ?_
  refine lv_iload_n hx hb dX2_putQuote_18 rfl (lv_at hl 1 rfl) ?_
  refine lv_iload_n hx hb dX2_putQuote_19 rfl (lv_at hl 3 rfl) ?_
  refine g_nast hx hb hE hP hD hS _ f_grams (by omega) (by decide) dX2_putQuote_20 (fun H locs hP hD hS => ?_)
  have f_led := g_ne (x := (a_grams, eN y 1152 (vf_upd grams (k) (gr)))) (g_kne f0_grams f0_led (Nat.ne_of_beq_eq_false rfl)) (g_ne (x := (a_cc, eN y 1152 (vf_upd cc (k) (ce)))) (g_kne f0_cc f0_led (Nat.ne_of_beq_eq_false rfl)) (g_ne (x := (a_cents, eN y 1152 (vf_upd cents (k) (ce)))) (g_kne f0_cents f0_led (Nat.ne_of_beq_eq_false rfl)) (f0_led)))
  have f_cents := g_ne (x := (a_grams, eN y 1152 (vf_upd grams (k) (gr)))) (Ne.symm hdis.1) (g_ne (x := (a_cc, eN y 1152 (vf_upd cc (k) (ce)))) (Ne.symm hdis.2.1) (g_eq (x := (a_cents, eN y 1152 (vf_upd cents (k) (ce)))) (f0_cents)))
  have f_grams := g_eq (x := (a_grams, eN y 1152 (vf_upd grams (k) (gr)))) (g_ne (x := (a_cc, eN y 1152 (vf_upd cc (k) (ce)))) (Ne.symm hdis.2.2) (g_ne (x := (a_cents, eN y 1152 (vf_upd cents (k) (ce)))) hdis.1 (f0_grams)))
  have f_cc := g_ne (x := (a_grams, eN y 1152 (vf_upd grams (k) (gr)))) hdis.2.2 (g_eq (x := (a_cc, eN y 1152 (vf_upd cc (k) (ce)))) (g_ne (x := (a_cents, eN y 1152 (vf_upd cents (k) (ce)))) hdis.2.1 (f0_cc)))
  refine lv_aload_n hx hb dX2_putQuote_21 rfl (lv_at hl 0 rfl) ?_
  refine lv_dup hx hb dX2_putQuote_22 rfl ?_
  refine va_get (D := D) (ci := 3) (v := .int (nI (qn))) (C := RX2) (T := TX2) (N := 10) hx hb hts in_RX2 hown hE.1 (gv1 hP f_led) 0 rfl rfl 8 (by decide) (hts (.fieldLink RX2 41 "BasketryOffice$Ledger" "quotesOfNow" "I") (by decide +kernel)) (fun _ h9 => h9) rfl dX2_putQuote_23 ?_
  refine lv_iconst (v := nI 1) hx hb dX2_putQuote_26 (by decide) ?_
  refine g_iadd hx hb dX2_putQuote_27 (nI_add _ _) ?_
  refine gv_set f_led rfl (by rfl) (fun k9 h9 kk9 => va_put (D := D) (ci := 3) (v := .int (nI (qn + 1))) (ty := .int) (C := RX2) (T := TX2) (N := 10) hx hb hts in_RX2 tyX2 tyX2_ok nmX2 hown hE.1 hP hD hS k9 h9 rfl 8 (by decide) (hts (.fieldLink RX2 41 "BasketryOffice$Ledger" "quotesOfNow" "I") (by decide +kernel)) (fun _ h9 => h9) rfl (by decide +kernel) rfl rfl (Nat.le_of_ble_eq_true rfl) dX2_putQuote_28 kk9) (fun H locs hP hD hS => ?_)
  have f_led := g_eq (x := (a_led, .inr (3, [x_led_0, .ref a_cents, .ref a_grams, x_led_3, .ref a_cc, .ref a_fx, .ref a_lc, .ref a_lg, .int (nI (qn + 1)), .int (nI (fq))]))) (g_ne (x := (a_grams, eN y 1152 (vf_upd grams (k) (gr)))) (g_kne f0_grams f0_led (Nat.ne_of_beq_eq_false rfl)) (g_ne (x := (a_cc, eN y 1152 (vf_upd cc (k) (ce)))) (g_kne f0_cc f0_led (Nat.ne_of_beq_eq_false rfl)) (g_ne (x := (a_cents, eN y 1152 (vf_upd cents (k) (ce)))) (g_kne f0_cents f0_led (Nat.ne_of_beq_eq_false rfl)) (f0_led))))
  have f_cents := g_ne (x := (a_led, .inr (3, [x_led_0, .ref a_cents, .ref a_grams, x_led_3, .ref a_cc, .ref a_fx, .ref a_lc, .ref a_lg, .int (nI (qn + 1)), .int (nI (fq))]))) (g_kne f0_led f0_cents (Nat.ne_of_beq_eq_false rfl)) (g_ne (x := (a_grams, eN y 1152 (vf_upd grams (k) (gr)))) (Ne.symm hdis.1) (g_ne (x := (a_cc, eN y 1152 (vf_upd cc (k) (ce)))) (Ne.symm hdis.2.1) (g_eq (x := (a_cents, eN y 1152 (vf_upd cents (k) (ce)))) (f0_cents))))
  have f_grams := g_ne (x := (a_led, .inr (3, [x_led_0, .ref a_cents, .ref a_grams, x_led_3, .ref a_cc, .ref a_fx, .ref a_lc, .ref a_lg, .int (nI (qn + 1)), .int (nI (fq))]))) (g_kne f0_led f0_grams (Nat.ne_of_beq_eq_false rfl)) (g_eq (x := (a_grams, eN y 1152 (vf_upd grams (k) (gr)))) (g_ne (x := (a_cc, eN y 1152 (vf_upd cc (k) (ce)))) (Ne.symm hdis.2.2) (g_ne (x := (a_cents, eN y 1152 (vf_upd cents (k) (ce)))) hdis.1 (f0_grams))))
  have f_cc := g_ne (x := (a_led, .inr (3, [x_led_0, .ref a_cents, .ref a_grams, x_led_3, .ref a_cc, .ref a_fx, .ref a_lc, .ref a_lg, .int (nI (qn + 1)), .int (nI (fq))]))) (g_kne f0_led f0_cc (Nat.ne_of_beq_eq_false rfl)) (g_ne (x := (a_grams, eN y 1152 (vf_upd grams (k) (gr)))) hdis.2.2 (g_eq (x := (a_cc, eN y 1152 (vf_upd cc (k) (ce)))) (g_ne (x := (a_cents, eN y 1152 (vf_upd cents (k) (ce)))) hdis.2.1 (f0_cc))))
  refine g_vret hx hb hr hlocks () dX2_putQuote_31 hS hP hD ?_
  exact trivial

theorem in_c_X2_putLink_RX2 : ∀ w ∈ wsX20, w ∈ wsX2_putLink := by decide +kernel
set_option maxHeartbeats 4000000 in
set_option maxRecDepth 100000 in
theorem c_X2_putLink (l : Launch) {D : va_G} {y : Nat → Nat} {ws : va_W} {x_led_0 : Value} {x_led_1 : Value} {x_led_2 : Value} {x_led_3 : Value} {x_led_4 : Value} {x_led_5 : Value} {x_led_8 : Value} {x_led_9 : Value} {p_led p_lc p_lg a_led a_lc a_lg : Nat} {lc : Nat → Nat} {lg : Nat → Nat} {k ce gr : Nat} (f0_led : ws[p_led]? = some (a_led, .inr (3, [x_led_0, x_led_1, x_led_2, x_led_3, x_led_4, x_led_5, .ref a_lc, .ref a_lg, x_led_8, x_led_9]))) (f0_lc : ws[p_lc]? = some (a_lc, eN y 1152 lc)) (f0_lg : ws[p_lg]? = some (a_lg, eN y 1152 lg)) (b_lc : ∀ k, lc k ≤ 100000) (b_lg : ∀ k, lg k ≤ 10000) (hk : k < 1152) (hdis : p_lc ≠ p_lg) : gMv l yX2_putLink wsX2_putLink ({ frames := 0, cells := 0, slots := 0, locals := 0 }) D y [.ref a_led, .int (nI (k)), .int (nI (ce)), .int (nI (gr))] ws (fun (_ : Unit) => True) (fun (_ : Unit) => ((ws.set p_lc (a_lc, eN y 1152 (vf_upd lc (k) (ce)))).set p_lg (a_lg, eN y 1152 (vf_upd lg (k) (gr))))) := by
  refine g_met_v (cc := cX2_putLink) (maxL := 4) (by decide) rfl (Nat.le_of_ble_eq_true rfl) ?_
  intro p e s m below meth c A hx hb hml hr hts hown hnm hlocks hE hP hD hS hA ls hl
  have hown : s.vm.findClass RX2 = some m.cls := hown
  have hl : lv_has ls 4 [(0, .ref a_led), (1, .int (nI (k))), (2, .int (nI (ce))), (3, .int (nI (gr)))] := hl
  have in_RX2 := in_c_X2_putLink_RX2
  refine lv_aload_n hx hb dX2_putLink_0 rfl (lv_at hl 0 rfl) ?_
  refine va_get (D := D) (ci := 3) (v := .ref a_lc) (C := RX2) (T := TX2) (N := 10) hx hb hts in_RX2 hown hE.1 (gv1 hP f0_led) 0 rfl rfl 6 (by decide) (hts (.fieldLink RX2 35 "BasketryOffice$Ledger" "linkCents" "[I") (by decide +kernel)) (fun _ h9 => h9) rfl dX2_putLink_1 ?_
  refine lv_iload_n hx hb dX2_putLink_4 rfl (lv_at hl 1 rfl) ?_
  refine lv_iload_n hx hb dX2_putLink_5 rfl (lv_at hl 2 rfl) ?_
  refine g_nast hx hb hE hP hD hS _ f0_lc (by omega) (by decide) dX2_putLink_6 (fun H locs hP hD hS => ?_)
  have f_led := g_ne (x := (a_lc, eN y 1152 (vf_upd lc (k) (ce)))) (g_kne f0_lc f0_led (Nat.ne_of_beq_eq_false rfl)) (f0_led)
  have f_lc := g_eq (x := (a_lc, eN y 1152 (vf_upd lc (k) (ce)))) (f0_lc)
  have f_lg := g_ne (x := (a_lc, eN y 1152 (vf_upd lc (k) (ce)))) hdis (f0_lg)
  refine lv_aload_n hx hb dX2_putLink_7 rfl (lv_at hl 0 rfl) ?_
  refine va_get (D := D) (ci := 3) (v := .ref a_lg) (C := RX2) (T := TX2) (N := 10) hx hb hts in_RX2 hown hE.1 (gv1 hP f_led) 0 rfl rfl 7 (by decide) (hts (.fieldLink RX2 38 "BasketryOffice$Ledger" "linkGrams" "[I") (by decide +kernel)) (fun _ h9 => h9) rfl dX2_putLink_8 ?_
  refine lv_iload_n hx hb dX2_putLink_11 rfl (lv_at hl 1 rfl) ?_
  refine lv_iload_n hx hb dX2_putLink_12 rfl (lv_at hl 3 rfl) ?_
  refine g_nast hx hb hE hP hD hS _ f_lg (by omega) (by decide) dX2_putLink_13 (fun H locs hP hD hS => ?_)
  have f_led := g_ne (x := (a_lg, eN y 1152 (vf_upd lg (k) (gr)))) (g_kne f0_lg f0_led (Nat.ne_of_beq_eq_false rfl)) (g_ne (x := (a_lc, eN y 1152 (vf_upd lc (k) (ce)))) (g_kne f0_lc f0_led (Nat.ne_of_beq_eq_false rfl)) (f0_led))
  have f_lc := g_ne (x := (a_lg, eN y 1152 (vf_upd lg (k) (gr)))) (Ne.symm hdis) (g_eq (x := (a_lc, eN y 1152 (vf_upd lc (k) (ce)))) (f0_lc))
  have f_lg := g_eq (x := (a_lg, eN y 1152 (vf_upd lg (k) (gr)))) (g_ne (x := (a_lc, eN y 1152 (vf_upd lc (k) (ce)))) hdis (f0_lg))
  refine g_vret hx hb hr hlocks () dX2_putLink_14 hS hP hD ?_
  exact trivial
