set_option maxHeartbeats 4000000 in
set_option maxRecDepth 100000 in
theorem c_X6_slotOf (l : Launch) {D : va_G} {y : Nat → Nat} {ws : va_W}  {i o t : Nat} : gMi l yX6_slotOf wsX6_slotOf ({ frames := 0, cells := 0, slots := 0, locals := 0 }) D y [.int (nI (i)), .int (nI (o)), .int (nI (t))] ws (fun r (_ : Unit) => r = nI (t * 48 + i * 4 + o)) (fun (_ : Unit) => ws) := by
  refine g_met_i (cc := cX6_slotOf) (maxL := 3) (by decide) rfl (Nat.le_of_ble_eq_true rfl) ?_
  intro p e s m below meth c A hx hb hml hr hts hown hnm hlocks hE hP hD hS hA ls hl
  have hown : s.vm.findClass RX6 = some m.cls := hown
  have hl : lv_has ls 3 [(0, .int (nI (i))), (1, .int (nI (o))), (2, .int (nI (t)))] := hl
  refine lv_iload_n hx hb dX6_slotOf_0 rfl (lv_at hl 2 rfl) ?_
  refine lv_bipush (v := nI 48) hx hb dX6_slotOf_1 (by decide) ?_
  refine g_imul hx hb dX6_slotOf_3 (pk_mul _ _) ?_
  refine lv_iload_n hx hb dX6_slotOf_4 rfl (lv_at hl 0 rfl) ?_
  refine lv_iconst (v := nI 4) hx hb dX6_slotOf_5 (by decide) ?_
  refine g_imul hx hb dX6_slotOf_6 (pk_mul _ _) ?_
  refine g_iadd hx hb dX6_slotOf_7 (nI_add _ _) ?_
  refine lv_iload_n hx hb dX6_slotOf_8 rfl (lv_at hl 1 rfl) ?_
  refine g_iadd hx hb dX6_slotOf_9 (nI_add _ _) ?_
  refine g_iret hx hb hr hlocks () dX6_slotOf_10 hS hP hD ?_
  exact rfl

theorem in_c_X3_relativeOf_RX3 : ∀ w ∈ wsX30, w ∈ wsX3_relativeOf := by decide +kernel
set_option maxHeartbeats 4000000 in
set_option maxRecDepth 100000 in
theorem c_X3_relativeOf (l : Launch) {D : va_G} {y : Nat → Nat} {ws : va_W} {x_ser_0 : Value} {x_ser_1 : Value} {x_ser_2 : Value} {x_ser_3 : Value} {x_ser_5 : Value} {x_ser_6 : Value} {x_ser_7 : Value} {p_ser p_rel a_ser a_rel : Nat} {rel : Nat → UInt64} {i t : Nat} (f0_ser : ws[p_ser]? = some (a_ser, .inr (4, [x_ser_0, x_ser_1, x_ser_2, x_ser_3, .ref a_rel, x_ser_5, x_ser_6, x_ser_7]))) (f0_rel : ws[p_rel]? = some (a_rel, eD y 288 rel)) (hi : i < 12) (ht : t < 24) : gMd l yX3_relativeOf wsX3_relativeOf ({ frames := 0, cells := 0, slots := 0, locals := 0 }) D y [.ref a_ser, .int (nI (i)), .int (nI (t))] ws (fun r (_ : Unit) => r = rel (t * 12 + i)) (fun (_ : Unit) => ws) := by
  refine g_met_d (cc := cX3_relativeOf) (maxL := 3) (by decide) rfl (Nat.le_of_ble_eq_true rfl) ?_
  intro p e s m below meth c A hx hb hml hr hts hown hnm hlocks hE hP hD hS hA ls hl
  have hown : s.vm.findClass RX3 = some m.cls := hown
  have hl : lv_has ls 3 [(0, .ref a_ser), (1, .int (nI (i))), (2, .int (nI (t)))] := hl
  have in_RX3 := in_c_X3_relativeOf_RX3
  refine lv_aload_n hx hb dX3_relativeOf_0 rfl (lv_at hl 0 rfl) ?_
  refine va_get (D := D) (ci := 4) (v := .ref a_rel) (C := RX3) (T := TX3) (N := 8) hx hb hts in_RX3 hown hE.1 (gv1 hP f0_ser) 0 rfl rfl 4 (by decide) (hts (.fieldLink RX3 22 "BasketryOffice$Series" "relatives" "[D") (by decide +kernel)) (fun _ h9 => h9) rfl dX3_relativeOf_1 ?_
  refine lv_iload_n hx hb dX3_relativeOf_4 rfl (lv_at hl 2 rfl) ?_
  refine lv_bipush (v := nI 12) hx hb dX3_relativeOf_5 (by decide) ?_
  refine g_imul hx hb dX3_relativeOf_7 (pk_mul _ _) ?_
  refine lv_iload_n hx hb dX3_relativeOf_8 rfl (lv_at hl 1 rfl) ?_
  refine g_iadd hx hb dX3_relativeOf_9 (nI_add _ _) ?_
  refine g_dald hx hb hE hP _ f0_rel (by omega) (by decide) dX3_relativeOf_10 ?_
  refine g_dret hx hb hr hlocks () dX3_relativeOf_11 hS hP hD ?_
  exact rfl

theorem in_c_X3_groupRelativeOf_RX3 : ∀ w ∈ wsX30, w ∈ wsX3_groupRelativeOf := by decide +kernel
set_option maxHeartbeats 4000000 in
set_option maxRecDepth 100000 in
theorem c_X3_groupRelativeOf (l : Launch) {D : va_G} {y : Nat → Nat} {ws : va_W} {x_ser_0 : Value} {x_ser_1 : Value} {x_ser_2 : Value} {x_ser_3 : Value} {x_ser_4 : Value} {x_ser_6 : Value} {x_ser_7 : Value} {p_ser p_grp a_ser a_grp : Nat} {grp : Nat → UInt64} {i t : Nat} (f0_ser : ws[p_ser]? = some (a_ser, .inr (4, [x_ser_0, x_ser_1, x_ser_2, x_ser_3, x_ser_4, .ref a_grp, x_ser_6, x_ser_7]))) (f0_grp : ws[p_grp]? = some (a_grp, eD y 96 grp)) (hi : i < 4) (ht : t < 24) : gMd l yX3_groupRelativeOf wsX3_groupRelativeOf ({ frames := 0, cells := 0, slots := 0, locals := 0 }) D y [.ref a_ser, .int (nI (i)), .int (nI (t))] ws (fun r (_ : Unit) => r = grp (t * 4 + i)) (fun (_ : Unit) => ws) := by
  refine g_met_d (cc := cX3_groupRelativeOf) (maxL := 3) (by decide) rfl (Nat.le_of_ble_eq_true rfl) ?_
  intro p e s m below meth c A hx hb hml hr hts hown hnm hlocks hE hP hD hS hA ls hl
  have hown : s.vm.findClass RX3 = some m.cls := hown
  have hl : lv_has ls 3 [(0, .ref a_ser), (1, .int (nI (i))), (2, .int (nI (t)))] := hl
  have in_RX3 := in_c_X3_groupRelativeOf_RX3
  refine lv_aload_n hx hb dX3_groupRelativeOf_0 rfl (lv_at hl 0 rfl) ?_
  refine va_get (D := D) (ci := 4) (v := .ref a_grp) (C := RX3) (T := TX3) (N := 8) hx hb hts in_RX3 hown hE.1 (gv1 hP f0_ser) 0 rfl rfl 5 (by decide) (hts (.fieldLink RX3 25 "BasketryOffice$Series" "groupRelatives" "[D") (by decide +kernel)) (fun _ h9 => h9) rfl dX3_groupRelativeOf_1 ?_
  refine lv_iload_n hx hb dX3_groupRelativeOf_4 rfl (lv_at hl 2 rfl) ?_
  refine lv_iconst (v := nI 4) hx hb dX3_groupRelativeOf_5 (by decide) ?_
  refine g_imul hx hb dX3_groupRelativeOf_6 (pk_mul _ _) ?_
  refine lv_iload_n hx hb dX3_groupRelativeOf_7 rfl (lv_at hl 1 rfl) ?_
  refine g_iadd hx hb dX3_groupRelativeOf_8 (nI_add _ _) ?_
  refine g_dald hx hb hE hP _ f0_grp (by omega) (by decide) dX3_groupRelativeOf_9 ?_
  refine g_dret hx hb hr hlocks () dX3_groupRelativeOf_10 hS hP hD ?_
  exact rfl

theorem in_c_X3_indexOf_RX3 : ∀ w ∈ wsX30, w ∈ wsX3_indexOf := by decide +kernel
set_option maxHeartbeats 4000000 in
set_option maxRecDepth 100000 in
theorem c_X3_indexOf (l : Launch) {D : va_G} {y : Nat → Nat} {ws : va_W} {x_ser_0 : Value} {x_ser_1 : Value} {x_ser_2 : Value} {x_ser_3 : Value} {x_ser_4 : Value} {x_ser_5 : Value} {x_ser_7 : Value} {p_ser p_idx a_ser a_idx : Nat} {idx : Nat → UInt64} {i t : Nat} (f0_ser : ws[p_ser]? = some (a_ser, .inr (4, [x_ser_0, x_ser_1, x_ser_2, x_ser_3, x_ser_4, x_ser_5, .ref a_idx, x_ser_7]))) (f0_idx : ws[p_idx]? = some (a_idx, eD y 120 idx)) (hi : i < 5) (ht : t < 24) : gMd l yX3_indexOf wsX3_indexOf ({ frames := 0, cells := 0, slots := 0, locals := 0 }) D y [.ref a_ser, .int (nI (i)), .int (nI (t))] ws (fun r (_ : Unit) => r = idx (t * 5 + i)) (fun (_ : Unit) => ws) := by
  refine g_met_d (cc := cX3_indexOf) (maxL := 3) (by decide) rfl (Nat.le_of_ble_eq_true rfl) ?_
  intro p e s m below meth c A hx hb hml hr hts hown hnm hlocks hE hP hD hS hA ls hl
  have hown : s.vm.findClass RX3 = some m.cls := hown
  have hl : lv_has ls 3 [(0, .ref a_ser), (1, .int (nI (i))), (2, .int (nI (t)))] := hl
  have in_RX3 := in_c_X3_indexOf_RX3
  refine lv_aload_n hx hb dX3_indexOf_0 rfl (lv_at hl 0 rfl) ?_
  refine va_get (D := D) (ci := 4) (v := .ref a_idx) (C := RX3) (T := TX3) (N := 8) hx hb hts in_RX3 hown hE.1 (gv1 hP f0_ser) 0 rfl rfl 6 (by decide) (hts (.fieldLink RX3 28 "BasketryOffice$Series" "indices" "[D") (by decide +kernel)) (fun _ h9 => h9) rfl dX3_indexOf_1 ?_
  refine lv_iload_n hx hb dX3_indexOf_4 rfl (lv_at hl 2 rfl) ?_
  refine lv_iconst (v := nI 5) hx hb dX3_indexOf_5 (by decide) ?_
  refine g_imul hx hb dX3_indexOf_6 (pk_mul _ _) ?_
  refine lv_iload_n hx hb dX3_indexOf_7 rfl (lv_at hl 1 rfl) ?_
  refine g_iadd hx hb dX3_indexOf_8 (nI_add _ _) ?_
  refine g_dald hx hb hE hP _ f0_idx (by omega) (by decide) dX3_indexOf_9 ?_
  refine g_dret hx hb hr hlocks () dX3_indexOf_10 hS hP hD ?_
  exact rfl

theorem in_c_X4_shareOf_RX4 : ∀ w ∈ wsX40, w ∈ wsX4_shareOf := by decide +kernel
set_option maxHeartbeats 4000000 in
set_option maxRecDepth 100000 in
theorem c_X4_shareOf (l : Launch) {D : va_G} {y : Nat → Nat} {ws : va_W} {x_spd_0 : Value} {x_spd_1 : Value} {p_spd p_shr a_spd a_shr : Nat} {shr : Nat → UInt64} {kd g t : Nat} (f0_spd : ws[p_spd]? = some (a_spd, .inr (5, [x_spd_0, x_spd_1, .ref a_shr]))) (f0_shr : ws[p_shr]? = some (a_shr, eD y 480 shr)) (hk : kd < 5) (hg : g < 4) (ht : t < 24) : gMd l yX4_shareOf wsX4_shareOf ({ frames := 0, cells := 0, slots := 0, locals := 0 }) D y [.ref a_spd, .int (nI (kd)), .int (nI (g)), .int (nI (t))] ws (fun r (_ : Unit) => r = shr ((t * 5 + kd) * 4 + g)) (fun (_ : Unit) => ws) := by
  refine g_met_d (cc := cX4_shareOf) (maxL := 4) (by decide) rfl (Nat.le_of_ble_eq_true rfl) ?_
  intro p e s m below meth c A hx hb hml hr hts hown hnm hlocks hE hP hD hS hA ls hl
  have hown : s.vm.findClass RX4 = some m.cls := hown
  have hl : lv_has ls 4 [(0, .ref a_spd), (1, .int (nI (kd))), (2, .int (nI (g))), (3, .int (nI (t)))] := hl
  have in_RX4 := in_c_X4_shareOf_RX4
  refine lv_aload_n hx hb dX4_shareOf_0 rfl (lv_at hl 0 rfl) ?_
  refine va_get (D := D) (ci := 5) (v := .ref a_shr) (C := RX4) (T := TX4) (N := 3) hx hb hts in_RX4 hown hE.1 (gv1 hP f0_spd) 0 rfl rfl 2 (by decide) (hts (.fieldLink RX4 18 "BasketryOffice$Spendings" "shares" "[D") (by decide +kernel)) (fun _ h9 => h9) rfl dX4_shareOf_1 ?_
  refine lv_iload_n hx hb dX4_shareOf_4 rfl (lv_at hl 3 rfl) ?_
  refine lv_iconst (v := nI 5) hx hb dX4_shareOf_5 (by decide) ?_
  refine g_imul hx hb dX4_shareOf_6 (pk_mul _ _) ?_
  refine lv_iload_n hx hb dX4_shareOf_7 rfl (lv_at hl 1 rfl) ?_
  refine g_iadd hx hb dX4_shareOf_8 (nI_add _ _) ?_
  refine lv_iconst (v := nI 4) hx hb dX4_shareOf_9 (by decide) ?_
  refine g_imul hx hb dX4_shareOf_10 (pk_mul _ _) ?_
  refine lv_iload_n hx hb dX4_shareOf_11 rfl (lv_at hl 2 rfl) ?_
  refine g_iadd hx hb dX4_shareOf_12 (nI_add _ _) ?_
  refine g_dald hx hb hE hP _ f0_shr (by omega) (by decide) dX4_shareOf_13 ?_
  refine g_dret hx hb hr hlocks () dX4_shareOf_14 hS hP hD ?_
  exact rfl

theorem in_c_X3_rateOf_RX3 : ∀ w ∈ wsX30, w ∈ wsX3_rateOf := by decide +kernel
set_option maxHeartbeats 4000000 in
set_option maxRecDepth 100000 in
theorem c_X3_rateOf (l : Launch) {D : va_G} {y : Nat → Nat} {ws : va_W} {x_ser_1 : Value} {x_ser_2 : Value} {x_ser_3 : Value} {x_ser_4 : Value} {x_ser_5 : Value} {x_ser_6 : Value} {x_led_0 : Value} {x_led_3 : Value} {x_led_5 : Value} {x_led_6 : Value} {x_led_7 : Value} {x_led_8 : Value} {x_led_9 : Value} {p_ser p_led p_cents p_grams p_cc a_ser a_led a_cents a_grams a_cc : Nat} {cents : Nat → Nat} {grams : Nat → Nat} {cc : Nat → Nat} {k : Nat} {wf : Bool} (f0_ser : ws[p_ser]? = some (a_ser, .inr (4, [.ref a_led, x_ser_1, x_ser_2, x_ser_3, x_ser_4, x_ser_5, x_ser_6, .int (gb (wf))]))) (f0_led : ws[p_led]? = some (a_led, .inr (3, [x_led_0, .ref a_cents, .ref a_grams, x_led_3, .ref a_cc, x_led_5, x_led_6, x_led_7, x_led_8, x_led_9]))) (f0_cents : ws[p_cents]? = some (a_cents, eN y 1152 cents)) (f0_grams : ws[p_grams]? = some (a_grams, eN y 1152 grams)) (f0_cc : ws[p_cc]? = some (a_cc, eN y 1152 cc)) (b_cents : ∀ k, cents k ≤ 100000) (b_grams : ∀ k, grams k ≤ 10000) (b_cc : ∀ k, cc k ≤ 100000) (hk : k < 1152) : gMd l yX3_rateOf wsX3_rateOf ({ frames := 1, cells := 0, slots := 0, locals := 23 }) D y [.ref a_ser, .int (nI (k))] ws (fun r (_ : Unit) => r = sRate (sCw wf cc cents) grams k) (fun (_ : Unit) => ws) := by
  refine g_met_d (cc := cX3_rateOf) (maxL := 2) (by decide) rfl (Nat.le_of_ble_eq_true rfl) ?_
  intro p e s m below meth c A hx hb hml hr hts hown hnm hlocks hE hP hD hS hA ls hl
  have hown : s.vm.findClass RX3 = some m.cls := hown
  have hl : lv_has ls 2 [(0, .ref a_ser), (1, .int (nI (k)))] := hl
  have in_RX3 := in_c_X3_rateOf_RX3
  refine lv_aload_n hx hb dX3_rateOf_0 rfl (lv_at hl 0 rfl) ?_
  refine va_get (D := D) (ci := 4) (v := .ref a_led) (C := RX3) (T := TX3) (N := 8) hx hb hts in_RX3 hown hE.1 (gv1 hP f0_ser) 0 rfl rfl 0 (by decide) (hts (.fieldLink RX3 31 "BasketryOffice$Series" "ledger" "LBasketryOffice$Ledger;") (by decide +kernel)) (fun _ h9 => h9) rfl dX3_rateOf_1 ?_
  refine lv_iload_n hx hb dX3_rateOf_4 rfl (lv_at hl 1 rfl) ?_
  refine lv_aload_n hx hb dX3_rateOf_5 rfl (lv_at hl 0 rfl) ?_
  refine va_get (D := D) (ci := 4) (v := .int (gb (wf))) (C := RX3) (T := TX3) (N := 8) hx hb hts in_RX3 hown hE.1 (gv1 hP f0_ser) 0 rfl rfl 7 (by decide) (hts (.fieldLink RX3 39 "BasketryOffice$Series" "withFixes" "Z") (by decide +kernel)) (fun _ h9 => h9) rfl dX3_rateOf_6 ?_
  refine gc_V_d (As := [.int (nI (k)), .int (gb (wf))]) (rest := []) (c_X2_rateOf l f0_led f0_cents f0_grams f0_cc b_cents b_grams b_cc (by omega)) ⟨hx, hb, hml, hown, hts⟩ (cwV 2 hts gX3_rateOf_X2_rateOf rfl rfl rfl (by decide +kernel) ⟨Nat.le_of_ble_eq_true rfl, Nat.le_of_ble_eq_true rfl⟩) hE hP hD hS hA _ f0_led rfl rfl rfl rfl hl.1 (Nat.le_of_ble_eq_true rfl) dX3_rateOf_9 ⟨Nat.le_of_ble_eq_true rfl, Nat.le_of_ble_eq_true rfl⟩ (fun r_9 u_9 H locs hP hD hS q_9 => ?_)
  subst q_9
  refine g_dret hx hb hr hlocks () dX3_rateOf_12 hS hP hD ?_
  exact rfl

theorem in_c_X3_baseOf_RX3 : ∀ w ∈ wsX30, w ∈ wsX3_baseOf := by decide +kernel
set_option maxHeartbeats 4000000 in
set_option maxRecDepth 100000 in
theorem c_X3_baseOf (l : Launch) {D : va_G} {y : Nat → Nat} {ws : va_W} {x_ser_1 : Value} {x_ser_2 : Value} {x_ser_4 : Value} {x_ser_5 : Value} {x_ser_6 : Value} {x_ser_7 : Value} {x_led_0 : Value} {x_led_1 : Value} {x_led_2 : Value} {x_led_3 : Value} {x_led_4 : Value} {x_led_5 : Value} {x_led_8 : Value} {x_led_9 : Value} {p_ser p_led p_lc p_lg p_pr a_ser a_led a_lc a_lg a_pr : Nat} {lc : Nat → Nat} {lg : Nat → Nat} {pr : Nat → UInt64} {k : Nat} (f0_ser : ws[p_ser]? = some (a_ser, .inr (4, [.ref a_led, x_ser_1, x_ser_2, .ref a_pr, x_ser_4, x_ser_5, x_ser_6, x_ser_7]))) (f0_led : ws[p_led]? = some (a_led, .inr (3, [x_led_0, x_led_1, x_led_2, x_led_3, x_led_4, x_led_5, .ref a_lc, .ref a_lg, x_led_8, x_led_9]))) (f0_lc : ws[p_lc]? = some (a_lc, eN y 1152 lc)) (f0_lg : ws[p_lg]? = some (a_lg, eN y 1152 lg)) (f0_pr : ws[p_pr]? = some (a_pr, eD y 1152 pr)) (b_lc : ∀ k, lc k ≤ 100000) (b_lg : ∀ k, lg k ≤ 10000) (hk : k < 1152) : gMd l yX3_baseOf wsX3_baseOf ({ frames := 1, cells := 0, slots := 0, locals := 21 }) D y [.ref a_ser, .int (nI (k))] ws (fun r (_ : Unit) => r = sBase lc lg pr k) (fun (_ : Unit) => ws) := by
  refine g_met_d (cc := cX3_baseOf) (maxL := 3) (by decide) rfl (Nat.le_of_ble_eq_true rfl) ?_
  intro p e s m below meth c A hx hb hml hr hts hown hnm hlocks hE hP hD hS hA ls hl
  have hown : s.vm.findClass RX3 = some m.cls := hown
  have hl : lv_has ls 3 [(0, .ref a_ser), (1, .int (nI (k)))] := hl
  have in_RX3 := in_c_X3_baseOf_RX3
  refine lv_iload_n hx hb dX3_baseOf_0 rfl (lv_at hl 1 rfl) ?_
  refine lv_bipush (v := nI 48) hx hb dX3_baseOf_1 (by decide) ?_
  rcases Nat.lt_or_ge k 48 with hs | hs
  · refine g_isub hx hb dX3_baseOf_3 rfl ?_
    refine lv_istore_n (lv' := [(2, .int (nI k - nI 48)), (0, .ref a_ser), (1, .int (nI (k)))]) hx hb dX3_baseOf_4 rfl hl (by decide) rfl (fun ls hl => ?_)
    refine lv_iload_n hx hb dX3_baseOf_5 rfl (lv_at hl 0 rfl) ?_
    refine lv_if_ge (tgt := 11) hx hb dX3_baseOf_6 (by decide) (fun c_6 => absurd c_6 (Int32.not_le.mpr (pk_sneg (by decide) hs))) (fun c_6 => ?_)
    refine g_dconst0 hx hb dX3_baseOf_9 ?_
    refine g_dret hx hb hr hlocks () dX3_baseOf_10 hS hP hD ?_
    simp only [sBase, if_pos hs]
  · refine g_isub hx hb dX3_baseOf_3 (pk_sub hs) ?_
    refine lv_istore_n (lv' := [(2, .int (nI (k - 48))), (0, .ref a_ser), (1, .int (nI (k)))]) hx hb dX3_baseOf_4 rfl hl (by decide) rfl (fun ls hl => ?_)
    refine lv_iload_n hx hb dX3_baseOf_5 rfl (lv_at hl 0 rfl) ?_
    refine g_if_ge (tgt := 11) hx hb (by omega) dX3_baseOf_6 (by decide) ?_
    refine lv_aload_n hx hb dX3_baseOf_11 rfl (lv_at hl 1 rfl) ?_
    refine va_get (D := D) (ci := 4) (v := .ref a_led) (C := RX3) (T := TX3) (N := 8) hx hb hts in_RX3 hown hE.1 (gv1 hP f0_ser) 0 rfl rfl 0 (by decide) (hts (.fieldLink RX3 31 "BasketryOffice$Series" "ledger" "LBasketryOffice$Ledger;") (by decide +kernel)) (fun _ h9 => h9) rfl dX3_baseOf_12 ?_
    refine lv_iload_n hx hb dX3_baseOf_15 rfl (lv_at hl 0 rfl) ?_
    refine gc_V_i (As := [.int (nI (k - 48))]) (rest := []) (c_X2_hasLink l f0_led f0_lc b_lc (by omega)) ⟨hx, hb, hml, hown, hts⟩ (cwV 1 hts gX3_baseOf_X2_hasLink rfl rfl rfl (by decide +kernel) ⟨Nat.le_of_ble_eq_true rfl, Nat.le_of_ble_eq_true rfl⟩) hE hP hD hS hA _ f0_led rfl rfl rfl rfl hl.1 (Nat.le_of_ble_eq_true rfl) dX3_baseOf_16 ⟨Nat.le_of_ble_eq_true rfl, Nat.le_of_ble_eq_true rfl⟩ (fun r_16 u_16 H locs hP hD hS q_16 => ?_)
    subst q_16
    refine g_bif_eq (tgt := 33) hx hb dX3_baseOf_19 (by decide) (fun c_19 => ?_) (fun c_19 => ?_)
    · refine lv_aload_n hx hb dX3_baseOf_33 rfl (lv_at hl 1 rfl) ?_
      refine va_get (D := D) (ci := 4) (v := .ref a_pr) (C := RX3) (T := TX3) (N := 8) hx hb hts in_RX3 hown hE.1 (gv1 hP f0_ser) 0 rfl rfl 3 (by decide) (hts (.fieldLink RX3 18 "BasketryOffice$Series" "prices" "[D") (by decide +kernel)) (fun _ h9 => h9) rfl dX3_baseOf_34 ?_
      refine lv_iload_n hx hb dX3_baseOf_37 rfl (lv_at hl 0 rfl) ?_
      refine g_dald hx hb hE hP _ f0_pr (by omega) (by decide) dX3_baseOf_38 ?_
      refine g_dret hx hb hr hlocks () dX3_baseOf_39 hS hP hD ?_
      have h48 : ¬ k < 48 := by omega
      have hl0 : lc (k - 48) = 0 := by simpa using c_19
      simp only [sBase, if_neg h48, if_pos hl0]
    · refine lv_aload_n hx hb dX3_baseOf_22 rfl (lv_at hl 1 rfl) ?_
      refine va_get (D := D) (ci := 4) (v := .ref a_led) (C := RX3) (T := TX3) (N := 8) hx hb hts in_RX3 hown hE.1 (gv1 hP f0_ser) 0 rfl rfl 0 (by decide) (hts (.fieldLink RX3 31 "BasketryOffice$Series" "ledger" "LBasketryOffice$Ledger;") (by decide +kernel)) (fun _ h9 => h9) rfl dX3_baseOf_23 ?_
      refine lv_iload_n hx hb dX3_baseOf_26 rfl (lv_at hl 0 rfl) ?_
      refine gc_V_d (As := [.int (nI (k - 48))]) (rest := []) (c_X2_linkRateOf l f0_led f0_lc f0_lg b_lc b_lg (by omega)) ⟨hx, hb, hml, hown, hts⟩ (cwV 1 hts gX3_baseOf_X2_linkRateOf rfl rfl rfl (by decide +kernel) ⟨Nat.le_of_ble_eq_true rfl, Nat.le_of_ble_eq_true rfl⟩) hE hP hD hS hA _ f0_led rfl rfl rfl rfl hl.1 (Nat.le_of_ble_eq_true rfl) dX3_baseOf_27 ⟨Nat.le_of_ble_eq_true rfl, Nat.le_of_ble_eq_true rfl⟩ (fun r_27 u_27 H locs hP hD hS q_27 => ?_)
      subst q_27
      refine lv_goto (tgt := 39) hx hb dX3_baseOf_30 (by decide) ?_
      refine g_dret hx hb hr hlocks () dX3_baseOf_39 hS hP hD ?_
      have h48 : ¬ k < 48 := by omega
      have hl0 : ¬ lc (k - 48) = 0 := by have := of_decide_eq_true c_19; omega
      simp only [sBase, if_neg h48, if_neg hl0]

theorem in_c_X3_isWithinBound_RX2 : ∀ w ∈ wsX20, w ∈ wsX3_isWithinBound := by decide +kernel
theorem in_c_X3_isWithinBound_RX3 : ∀ w ∈ wsX30, w ∈ wsX3_isWithinBound := by decide +kernel
set_option maxHeartbeats 4000000 in
set_option maxRecDepth 100000 in
theorem c_X3_isWithinBound (l : Launch) {D : va_G} {y : Nat → Nat} {ws : va_W} {x_ser_1 : Value} {x_ser_2 : Value} {x_ser_3 : Value} {x_ser_4 : Value} {x_ser_5 : Value} {x_ser_6 : Value} {x_ser_7 : Value} {x_led_0 : Value} {x_led_1 : Value} {x_led_2 : Value} {x_led_4 : Value} {x_led_5 : Value} {x_led_6 : Value} {x_led_7 : Value} {x_led_8 : Value} {x_led_9 : Value} {p_ser p_led p_cf a_ser a_led a_cf : Nat} {cf : Nat → Bool} {k : Nat} {ra ba : UInt64} (f0_ser : ws[p_ser]? = some (a_ser, .inr (4, [.ref a_led, x_ser_1, x_ser_2, x_ser_3, x_ser_4, x_ser_5, x_ser_6, x_ser_7]))) (f0_led : ws[p_led]? = some (a_led, .inr (3, [x_led_0, x_led_1, x_led_2, .ref a_cf, x_led_4, x_led_5, x_led_6, x_led_7, x_led_8, x_led_9]))) (f0_cf : ws[p_cf]? = some (a_cf, eZ y 1152 cf)) (hk : k < 1152) (hn : nnIn (cf k) ra ba) : gMi l yX3_isWithinBound wsX3_isWithinBound ({ frames := 0, cells := 0, slots := 0, locals := 0 }) D y [.ref a_ser, .int (nI (k)), .double ra, .double ba] ws (fun r (_ : Unit) => r = gb (sIn (cf k) ra ba)) (fun (_ : Unit) => ws) := by
  refine g_met_z (cc := cX3_isWithinBound) (maxL := 10) (by decide) rfl (Nat.le_of_ble_eq_true rfl) ?_
  intro p e s m below meth c A hx hb hml hr hts hown hnm hlocks hE hP hD hS hA ls hl
  have hown : s.vm.findClass RX3 = some m.cls := hown
  have hl : lv_has ls 10 [(0, .ref a_ser), (1, .int (nI (k))), (2, .double ra), (4, .double ba)] := hl
  have in_RX2 := in_c_X3_isWithinBound_RX2
  have in_RX3 := in_c_X3_isWithinBound_RX3
  refine lv_dload_n hx hb dX3_isWithinBound_0 rfl (lv_at hl 2 rfl) ?_
  refine g_dconst0 hx hb dX3_isWithinBound_1 ?_
  refine g_dcmpg_le (tgt := 13) hx hb dX3_isWithinBound_2 dX3_isWithinBound_3 (by decide) (fun c_2 => ?_) (fun c_2 => ?_)
  · refine lv_iconst (v := nI 0) hx hb dX3_isWithinBound_13 (by decide) ?_
    refine g_zret (r := (gb (false))) hx hb hr hlocks () dX3_isWithinBound_14 (gb_narrow _) hS hP hD ?_
    rw [sIn_1 c_2]
  · refine lv_dload hx hb dX3_isWithinBound_6 (lv_at hl 3 rfl) ?_
    refine g_dconst0 hx hb dX3_isWithinBound_8 ?_
    refine g_dcmpg_gt (tgt := 15) hx hb dX3_isWithinBound_9 dX3_isWithinBound_10 (by decide) (fun c_9 => ?_) (fun c_9 => ?_)
    · refine lv_aload_n hx hb dX3_isWithinBound_15 rfl (lv_at hl 0 rfl) ?_
      refine va_get (D := D) (ci := 4) (v := .ref a_led) (C := RX3) (T := TX3) (N := 8) hx hb hts in_RX3 hown hE.1 (gv1 hP f0_ser) 0 rfl rfl 0 (by decide) (hts (.fieldLink RX3 31 "BasketryOffice$Series" "ledger" "LBasketryOffice$Ledger;") (by decide +kernel)) (fun _ h9 => h9) rfl dX3_isWithinBound_16 ?_
      refine va_getN (D := D) (ci := 3) (v := .ref a_cf) (C := RX2) (T := TX2) (N := 10) hx hb hts in_RX2 hown hE.1 (gv1 hP f0_led) 0 rfl rfl 3 (by decide) (va_Nw.use rfl (hE.2 (.fieldLinkNest RX3 128 "BasketryOffice$Ledger" "confirmed" "[Z" "BasketryOffice") (by decide +kernel))) (fun _ h9 => h9) rfl dX3_isWithinBound_19 ?_
      refine lv_iload_n hx hb dX3_isWithinBound_22 rfl (lv_at hl 1 rfl) ?_
      refine g_zald hx hb hE hP _ f0_cf (by omega) (by decide) dX3_isWithinBound_23 ?_
      refine g_bif_eq (tgt := 33) hx hb dX3_isWithinBound_24 (by decide) (fun c_24 => ?_) (fun c_24 => ?_)
      · refine lv_ldc2d (v := 4613937818241073152) hx hb hown (hts (.constantDouble RX3 134 (4613937818241073152)) (by decide +kernel)) dX3_isWithinBound_33 ?_
        have hs := sB_f c_24
        refine lv_dstore (lv' := [(6, .double 4613937818241073152), (0, .ref a_ser), (1, .int (nI (k))), (2, .double ra), (4, .double ba)]) hx hb dX3_isWithinBound_36 hl (by decide) rfl (fun ls hl => ?_)
        refine lv_dload_n hx hb dX3_isWithinBound_38 rfl (lv_at hl 3 rfl) ?_
        refine lv_dload hx hb dX3_isWithinBound_39 (lv_at hl 4 rfl) ?_
        refine lv_ddiv hx hb dX3_isWithinBound_41 (hn c_2 c_9).1 ?_
        refine lv_dstore (lv' := [(8, .double (FP.ddiv ra ba)), (6, .double 4613937818241073152), (0, .ref a_ser), (1, .int (nI (k))), (2, .double ra), (4, .double ba)]) hx hb dX3_isWithinBound_42 hl (by decide) rfl (fun ls hl => ?_)
        refine lv_dload hx hb dX3_isWithinBound_44 (lv_at hl 0 rfl) ?_
        refine lv_dload hx hb dX3_isWithinBound_46 (lv_at hl 1 rfl) ?_
        refine g_dcmpg_gt (tgt := 66) hx hb dX3_isWithinBound_48 dX3_isWithinBound_49 (by decide) (fun c_48 => ?_) (fun c_48 => ?_)
        · refine lv_iconst (v := nI 0) hx hb dX3_isWithinBound_66 (by decide) ?_
          refine g_zret (r := (gb (false))) hx hb hr hlocks () dX3_isWithinBound_67 (gb_narrow _) hS hP hD ?_
          rw [sIn_3 hs c_48]
        · refine lv_dload hx hb dX3_isWithinBound_52 (lv_at hl 0 rfl) ?_
          refine lv_dload hx hb dX3_isWithinBound_54 (lv_at hl 1 rfl) ?_
          refine lv_dmul hx hb dX3_isWithinBound_56 (hs ▸ (hn c_2 c_9).2) ?_
          refine lv_dconst1 hx hb dX3_isWithinBound_57 ?_
          refine g_dcmpl_lt (tgt := 66) hx hb dX3_isWithinBound_58 dX3_isWithinBound_59 (by decide) (fun c_58 => ?_) (fun c_58 => ?_)
          · refine lv_iconst (v := nI 0) hx hb dX3_isWithinBound_66 (by decide) ?_
            refine g_zret (r := (gb (false))) hx hb hr hlocks () dX3_isWithinBound_67 (gb_narrow _) hS hP hD ?_
            rw [sIn_4 hs c_58]
          · refine lv_iconst (v := nI 1) hx hb dX3_isWithinBound_62 (by decide) ?_
            refine lv_goto (tgt := 67) hx hb dX3_isWithinBound_63 (by decide) ?_
            refine g_zret (r := (gb (true))) hx hb hr hlocks () dX3_isWithinBound_67 (gb_narrow _) hS hP hD ?_
            rw [sIn_t hs c_2 c_9 c_48 c_58]
      · refine lv_ldc2d (v := 4629137466983448576) hx hb hown (hts (.constantDouble RX3 132 (4629137466983448576)) (by decide +kernel)) dX3_isWithinBound_27 ?_
        refine lv_goto (tgt := 36) hx hb dX3_isWithinBound_30 (by decide) ?_
        have hs := sB_t c_24
        refine lv_dstore (lv' := [(6, .double 4629137466983448576), (0, .ref a_ser), (1, .int (nI (k))), (2, .double ra), (4, .double ba)]) hx hb dX3_isWithinBound_36 hl (by decide) rfl (fun ls hl => ?_)
        refine lv_dload_n hx hb dX3_isWithinBound_38 rfl (lv_at hl 3 rfl) ?_
        refine lv_dload hx hb dX3_isWithinBound_39 (lv_at hl 4 rfl) ?_
        refine lv_ddiv hx hb dX3_isWithinBound_41 (hn c_2 c_9).1 ?_
        refine lv_dstore (lv' := [(8, .double (FP.ddiv ra ba)), (6, .double 4629137466983448576), (0, .ref a_ser), (1, .int (nI (k))), (2, .double ra), (4, .double ba)]) hx hb dX3_isWithinBound_42 hl (by decide) rfl (fun ls hl => ?_)
        refine lv_dload hx hb dX3_isWithinBound_44 (lv_at hl 0 rfl) ?_
        refine lv_dload hx hb dX3_isWithinBound_46 (lv_at hl 1 rfl) ?_
        refine g_dcmpg_gt (tgt := 66) hx hb dX3_isWithinBound_48 dX3_isWithinBound_49 (by decide) (fun c_48 => ?_) (fun c_48 => ?_)
        · refine lv_iconst (v := nI 0) hx hb dX3_isWithinBound_66 (by decide) ?_
          refine g_zret (r := (gb (false))) hx hb hr hlocks () dX3_isWithinBound_67 (gb_narrow _) hS hP hD ?_
          rw [sIn_3 hs c_48]
        · refine lv_dload hx hb dX3_isWithinBound_52 (lv_at hl 0 rfl) ?_
          refine lv_dload hx hb dX3_isWithinBound_54 (lv_at hl 1 rfl) ?_
          refine lv_dmul hx hb dX3_isWithinBound_56 (hs ▸ (hn c_2 c_9).2) ?_
          refine lv_dconst1 hx hb dX3_isWithinBound_57 ?_
          refine g_dcmpl_lt (tgt := 66) hx hb dX3_isWithinBound_58 dX3_isWithinBound_59 (by decide) (fun c_58 => ?_) (fun c_58 => ?_)
          · refine lv_iconst (v := nI 0) hx hb dX3_isWithinBound_66 (by decide) ?_
            refine g_zret (r := (gb (false))) hx hb hr hlocks () dX3_isWithinBound_67 (gb_narrow _) hS hP hD ?_
            rw [sIn_4 hs c_58]
          · refine lv_iconst (v := nI 1) hx hb dX3_isWithinBound_62 (by decide) ?_
            refine lv_goto (tgt := 67) hx hb dX3_isWithinBound_63 (by decide) ?_
            refine g_zret (r := (gb (true))) hx hb hr hlocks () dX3_isWithinBound_67 (gb_narrow _) hS hP hD ?_
            rw [sIn_t hs c_2 c_9 c_48 c_58]
    · refine lv_iconst (v := nI 0) hx hb dX3_isWithinBound_13 (by decide) ?_
      refine g_zret (r := (gb (false))) hx hb hr hlocks () dX3_isWithinBound_14 (gb_narrow _) hS hP hD ?_
      rw [sIn_2 c_9]

set_option maxHeartbeats 4000000 in
set_option maxRecDepth 100000 in
theorem c_X3_matches (l : Launch) {D : va_G} {y : Nat → Nat} {ws : va_W} {x_ser_1 : Value} {x_ser_2 : Value} {x_ser_4 : Value} {x_ser_5 : Value} {x_ser_6 : Value} {x_led_0 : Value} {x_led_5 : Value} {x_led_8 : Value} {x_led_9 : Value} {p_ser p_led p_cents p_grams p_cc p_lc p_lg p_cf p_pr a_ser a_led a_cents a_grams a_cc a_lc a_lg a_cf a_pr : Nat} {cents : Nat → Nat} {grams : Nat → Nat} {cc : Nat → Nat} {lc : Nat → Nat} {lg : Nat → Nat} {cf : Nat → Bool} {pr : Nat → UInt64} {k : Nat} {wf : Bool} (f0_ser : ws[p_ser]? = some (a_ser, .inr (4, [.ref a_led, x_ser_1, x_ser_2, .ref a_pr, x_ser_4, x_ser_5, x_ser_6, .int (gb (wf))]))) (f0_led : ws[p_led]? = some (a_led, .inr (3, [x_led_0, .ref a_cents, .ref a_grams, .ref a_cf, .ref a_cc, x_led_5, .ref a_lc, .ref a_lg, x_led_8, x_led_9]))) (f0_cents : ws[p_cents]? = some (a_cents, eN y 1152 cents)) (f0_grams : ws[p_grams]? = some (a_grams, eN y 1152 grams)) (f0_cc : ws[p_cc]? = some (a_cc, eN y 1152 cc)) (f0_lc : ws[p_lc]? = some (a_lc, eN y 1152 lc)) (f0_lg : ws[p_lg]? = some (a_lg, eN y 1152 lg)) (f0_cf : ws[p_cf]? = some (a_cf, eZ y 1152 cf)) (f0_pr : ws[p_pr]? = some (a_pr, eD y 1152 pr)) (b_cents : ∀ k, cents k ≤ 100000) (b_grams : ∀ k, grams k ≤ 10000) (b_cc : ∀ k, cc k ≤ 100000) (b_lc : ∀ k, lc k ≤ 100000) (b_lg : ∀ k, lg k ≤ 10000) (hk : k < 1152) (hn : nnIn (cf k) (sRate (sCw wf cc cents) grams k) (sBase lc lg pr k)) : gMi l yX3_matches wsX3_matches ({ frames := 2, cells := 0, slots := 0, locals := 44 }) D y [.ref a_ser, .int (nI (k))] ws (fun r (_ : Unit) => r = gb (rK cf (sCw wf cc cents) grams lc lg pr (k))) (fun (_ : Unit) => ws) := by
  refine g_met_z (cc := cX3_matches) (maxL := 2) (by decide) rfl (Nat.le_of_ble_eq_true rfl) ?_
  intro p e s m below meth c A hx hb hml hr hts hown hnm hlocks hE hP hD hS hA ls hl
  have hown : s.vm.findClass RX3 = some m.cls := hown
  have hl : lv_has ls 2 [(0, .ref a_ser), (1, .int (nI (k)))] := hl
  refine lv_aload_n hx hb dX3_matches_0 rfl (lv_at hl 0 rfl) ?_
  refine lv_iload_n hx hb dX3_matches_1 rfl (lv_at hl 1 rfl) ?_
  refine lv_aload_n hx hb dX3_matches_2 rfl (lv_at hl 0 rfl) ?_
  refine lv_iload_n hx hb dX3_matches_3 rfl (lv_at hl 1 rfl) ?_
  refine gc_V_d (As := [.int (nI (k))]) (rest := [.int (nI (k)), .ref a_ser]) (c_X3_rateOf l f0_ser f0_led f0_cents f0_grams f0_cc b_cents b_grams b_cc (by omega)) ⟨hx, hb, hml, hown, hts⟩ (cwV 1 hts gX3_matches_X3_rateOf rfl rfl rfl (by decide +kernel) ⟨Nat.le_of_ble_eq_true rfl, Nat.le_of_ble_eq_true rfl⟩) hE hP hD hS hA _ f0_ser rfl rfl rfl rfl hl.1 (Nat.le_of_ble_eq_true rfl) dX3_matches_4 ⟨Nat.le_of_ble_eq_true rfl, Nat.le_of_ble_eq_true rfl⟩ (fun r_4 u_4 H locs hP hD hS q_4 => ?_)
  subst q_4
  refine lv_aload_n hx hb dX3_matches_7 rfl (lv_at hl 0 rfl) ?_
  refine lv_iload_n hx hb dX3_matches_8 rfl (lv_at hl 1 rfl) ?_
  refine gc_V_d (As := [.int (nI (k))]) (rest := [.double (sRate (sCw wf cc cents) grams (k)), .int (nI (k)), .ref a_ser]) (c_X3_baseOf l f0_ser f0_led f0_lc f0_lg f0_pr b_lc b_lg (by omega)) ⟨hx, hb, hml, hown, hts⟩ (cwV 1 hts gX3_matches_X3_baseOf rfl rfl rfl (by decide +kernel) ⟨Nat.le_of_ble_eq_true rfl, Nat.le_of_ble_eq_true rfl⟩) hE hP hD hS hA _ f0_ser rfl rfl rfl rfl hl.1 (Nat.le_of_ble_eq_true rfl) dX3_matches_9 ⟨Nat.le_of_ble_eq_true rfl, Nat.le_of_ble_eq_true rfl⟩ (fun r_9 u_9 H locs hP hD hS q_9 => ?_)
  subst q_9
  refine gc_V_i (As := [.int (nI (k)), .double (sRate (sCw wf cc cents) grams (k)), .double (sBase lc lg pr (k))]) (rest := []) (c_X3_isWithinBound l f0_ser f0_led f0_cf hk hn) ⟨hx, hb, hml, hown, hts⟩ (cwV 3 hts gX3_matches_X3_isWithinBound rfl rfl rfl (by decide +kernel) ⟨Nat.le_of_ble_eq_true rfl, Nat.le_of_ble_eq_true rfl⟩) hE hP hD hS hA _ f0_ser rfl rfl rfl rfl hl.1 (Nat.le_of_ble_eq_true rfl) dX3_matches_12 ⟨Nat.le_of_ble_eq_true rfl, Nat.le_of_ble_eq_true rfl⟩ (fun r_12 u_12 H locs hP hD hS q_12 => ?_)
  subst q_12
  refine g_zret (r := (gb (sIn (cf (k)) (sRate (sCw wf cc cents) grams (k)) (sBase lc lg pr (k))))) hx hb hr hlocks () dX3_matches_15 (gb_narrow _) hS hP hD ?_
  exact rfl

set_option maxHeartbeats 4000000 in
set_option maxRecDepth 100000 in
theorem c_X3_reckonedPrice (l : Launch) {D : va_G} {y : Nat → Nat} {ws : va_W} {x_ser_1 : Value} {x_ser_2 : Value} {x_ser_4 : Value} {x_ser_5 : Value} {x_ser_6 : Value} {x_led_0 : Value} {x_led_5 : Value} {x_led_8 : Value} {x_led_9 : Value} {p_ser p_led p_cents p_grams p_cc p_lc p_lg p_cf p_pr a_ser a_led a_cents a_grams a_cc a_lc a_lg a_cf a_pr : Nat} {cents : Nat → Nat} {grams : Nat → Nat} {cc : Nat → Nat} {lc : Nat → Nat} {lg : Nat → Nat} {cf : Nat → Bool} {pr : Nat → UInt64} {k : Nat} {wf : Bool} {its : UInt64} (f0_ser : ws[p_ser]? = some (a_ser, .inr (4, [.ref a_led, x_ser_1, x_ser_2, .ref a_pr, x_ser_4, x_ser_5, x_ser_6, .int (gb (wf))]))) (f0_led : ws[p_led]? = some (a_led, .inr (3, [x_led_0, .ref a_cents, .ref a_grams, .ref a_cf, .ref a_cc, x_led_5, .ref a_lc, .ref a_lg, x_led_8, x_led_9]))) (f0_cents : ws[p_cents]? = some (a_cents, eN y 1152 cents)) (f0_grams : ws[p_grams]? = some (a_grams, eN y 1152 grams)) (f0_cc : ws[p_cc]? = some (a_cc, eN y 1152 cc)) (f0_lc : ws[p_lc]? = some (a_lc, eN y 1152 lc)) (f0_lg : ws[p_lg]? = some (a_lg, eN y 1152 lg)) (f0_cf : ws[p_cf]? = some (a_cf, eZ y 1152 cf)) (f0_pr : ws[p_pr]? = some (a_pr, eD y 1152 pr)) (b_cents : ∀ k, cents k ≤ 100000) (b_grams : ∀ k, grams k ≤ 10000) (b_cc : ∀ k, cc k ≤ 100000) (b_lc : ∀ k, lc k ≤ 100000) (b_lg : ∀ k, lg k ≤ 10000) (hk : k < 1152) (hn : nnIn (cf k) (sRate (sCw wf cc cents) grams k) (sBase lc lg pr k)) (hn2 : vf_n64 (FP.dmul (sBase lc lg pr k) its)) : gMd l yX3_reckonedPrice wsX3_reckonedPrice ({ frames := 2, cells := 0, slots := 0, locals := 44 }) D y [.ref a_ser, .int (nI (k)), .double its] ws (fun r (_ : Unit) => r = rPrice (rK cf (sCw wf cc cents) grams lc lg pr) (sRate (sCw wf cc cents) grams) (sBase lc lg pr) its k) (fun (_ : Unit) => ws) := by
  refine g_met_d (cc := cX3_reckonedPrice) (maxL := 8) (by decide) rfl (Nat.le_of_ble_eq_true rfl) ?_
  intro p e s m below meth c A hx hb hml hr hts hown hnm hlocks hE hP hD hS hA ls hl
  have hown : s.vm.findClass RX3 = some m.cls := hown
  have hl : lv_has ls 8 [(0, .ref a_ser), (1, .int (nI (k))), (2, .double its)] := hl
  refine lv_aload_n hx hb dX3_reckonedPrice_0 rfl (lv_at hl 0 rfl) ?_
  refine lv_iload_n hx hb dX3_reckonedPrice_1 rfl (lv_at hl 1 rfl) ?_
  refine gc_V_d (As := [.int (nI (k))]) (rest := []) (c_X3_rateOf l f0_ser f0_led f0_cents f0_grams f0_cc b_cents b_grams b_cc (by omega)) ⟨hx, hb, hml, hown, hts⟩ (cwV 1 hts gX3_reckonedPrice_X3_rateOf rfl rfl rfl (by decide +kernel) ⟨Nat.le_of_ble_eq_true rfl, Nat.le_of_ble_eq_true rfl⟩) hE hP hD hS hA _ f0_ser rfl rfl rfl rfl hl.1 (Nat.le_of_ble_eq_true rfl) dX3_reckonedPrice_2 ⟨Nat.le_of_ble_eq_true rfl, Nat.le_of_ble_eq_true rfl⟩ (fun r_2 u_2 H locs hP hD hS q_2 => ?_)
  subst q_2
  refine lv_dstore (lv' := [(4, .double (sRate (sCw wf cc cents) grams (k))), (0, .ref a_ser), (1, .int (nI (k))), (2, .double its)]) hx hb dX3_reckonedPrice_5 hl (by decide) rfl (fun ls hl => ?_)
  refine lv_aload_n hx hb dX3_reckonedPrice_7 rfl (lv_at hl 1 rfl) ?_
  refine lv_iload_n hx hb dX3_reckonedPrice_8 rfl (lv_at hl 2 rfl) ?_
  refine gc_V_d (As := [.int (nI (k))]) (rest := []) (c_X3_baseOf l f0_ser f0_led f0_lc f0_lg f0_pr b_lc b_lg (by omega)) ⟨hx, hb, hml, hown, hts⟩ (cwV 1 hts gX3_reckonedPrice_X3_baseOf rfl rfl rfl (by decide +kernel) ⟨Nat.le_of_ble_eq_true rfl, Nat.le_of_ble_eq_true rfl⟩) hE hP hD hS hA _ f0_ser rfl rfl rfl rfl hl.1 (Nat.le_of_ble_eq_true rfl) dX3_reckonedPrice_9 ⟨Nat.le_of_ble_eq_true rfl, Nat.le_of_ble_eq_true rfl⟩ (fun r_9 u_9 H locs hP hD hS q_9 => ?_)
  subst q_9
  refine lv_dstore (lv' := [(6, .double (sBase lc lg pr (k))), (4, .double (sRate (sCw wf cc cents) grams (k))), (0, .ref a_ser), (1, .int (nI (k))), (2, .double its)]) hx hb dX3_reckonedPrice_12 hl (by decide) rfl (fun ls hl => ?_)
  refine lv_dload hx hb dX3_reckonedPrice_14 (lv_at hl 0 rfl) ?_
  refine g_dconst0 hx hb dX3_reckonedPrice_16 ?_
  refine g_dcmpg_le (tgt := 33) hx hb dX3_reckonedPrice_17 dX3_reckonedPrice_18 (by decide) (fun c_17 => ?_) (fun c_17 => ?_)
  · refine lv_dload hx hb dX3_reckonedPrice_33 (lv_at hl 1 rfl) ?_
    refine g_dret hx hb hr hlocks () dX3_reckonedPrice_35 hS hP hD ?_
    rw [rPrice, if_pos (Or.inl c_17)]
  · refine lv_aload_n hx hb dX3_reckonedPrice_21 rfl (lv_at hl 2 rfl) ?_
    refine lv_iload_n hx hb dX3_reckonedPrice_22 rfl (lv_at hl 3 rfl) ?_
    refine lv_dload hx hb dX3_reckonedPrice_23 (lv_at hl 1 rfl) ?_
    refine lv_dload hx hb dX3_reckonedPrice_25 (lv_at hl 0 rfl) ?_
    refine gc_V_i (As := [.int (nI (k)), .double (sRate (sCw wf cc cents) grams (k)), .double (sBase lc lg pr (k))]) (rest := []) (c_X3_isWithinBound l f0_ser f0_led f0_cf hk hn) ⟨hx, hb, hml, hown, hts⟩ (cwV 3 hts gX3_reckonedPrice_X3_isWithinBound rfl rfl rfl (by decide +kernel) ⟨Nat.le_of_ble_eq_true rfl, Nat.le_of_ble_eq_true rfl⟩) hE hP hD hS hA _ f0_ser rfl rfl rfl rfl hl.1 (Nat.le_of_ble_eq_true rfl) dX3_reckonedPrice_27 ⟨Nat.le_of_ble_eq_true rfl, Nat.le_of_ble_eq_true rfl⟩ (fun r_27 u_27 H locs hP hD hS q_27 => ?_)
    subst q_27
    refine g_bif_eq (tgt := 36) hx hb dX3_reckonedPrice_30 (by decide) (fun c_30 => ?_) (fun c_30 => ?_)
    · refine lv_dload_n hx hb dX3_reckonedPrice_36 rfl (lv_at hl 4 rfl) ?_
      refine g_dconst0 hx hb dX3_reckonedPrice_37 ?_
      refine g_dcmpl_le (tgt := 49) hx hb dX3_reckonedPrice_38 dX3_reckonedPrice_39 (by decide) (fun c_38 => ?_) (fun c_38 => ?_)
      · refine lv_dload hx hb dX3_reckonedPrice_49 (lv_at hl 0 rfl) ?_
        refine g_dret hx hb hr hlocks () dX3_reckonedPrice_51 hS hP hD ?_
        have hno : ¬ (Dle (sBase lc lg pr k) 0 ∨ rK cf (sCw wf cc cents) grams lc lg pr k = true) := fun z => z.elim c_17 (fun w => Bool.noConfusion ((show rK cf (sCw wf cc cents) grams lc lg pr k = false from c_30).symm.trans w))
        rw [rPrice, if_neg hno, if_neg c_38]
      · refine lv_dload hx hb dX3_reckonedPrice_42 (lv_at hl 0 rfl) ?_
        refine lv_dload_n hx hb dX3_reckonedPrice_44 rfl (lv_at hl 4 rfl) ?_
        refine lv_dmul hx hb dX3_reckonedPrice_45 hn2 ?_
        refine lv_goto (tgt := 51) hx hb dX3_reckonedPrice_46 (by decide) ?_
        refine g_dret hx hb hr hlocks () dX3_reckonedPrice_51 hS hP hD ?_
        have hno : ¬ (Dle (sBase lc lg pr k) 0 ∨ rK cf (sCw wf cc cents) grams lc lg pr k = true) := fun z => z.elim c_17 (fun w => Bool.noConfusion ((show rK cf (sCw wf cc cents) grams lc lg pr k = false from c_30).symm.trans w))
        rw [rPrice, if_neg hno, if_pos c_38]
    · refine lv_dload hx hb dX3_reckonedPrice_33 (lv_at hl 1 rfl) ?_
      refine g_dret hx hb hr hlocks () dX3_reckonedPrice_35 hS hP hD ?_
      have hK : rK cf (sCw wf cc cents) grams lc lg pr k = true := c_30
      rw [rPrice, if_pos (Or.inr hK)]
