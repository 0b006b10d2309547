theorem in_c_X5_clear_RX5 : ∀ w ∈ wsX50, w ∈ wsX5_clear := by decide +kernel
set_option maxHeartbeats 4000000 in
set_option maxRecDepth 100000 in
/-- Sums.clear -/
theorem c_X5_clear (l : Launch) {D : va_G} {y : Nat → Nat} {ws : va_W} {p_sums a_sums : Nat} {n0 : Nat} {d1 d2 d3 d4 : UInt64} (f0_sums : ws[p_sums]? = some (a_sums, .inr (6, [.int (nI (n0)), .double d1, .double d2, .double d3, .double d4]))) : gMv l yX5_clear wsX5_clear ({ frames := 0, cells := 0, slots := 0, locals := 0 }) D y [.ref a_sums] ws (fun (_ : Unit) => True) (fun (_ : Unit) => (ws.set p_sums (a_sums, .inr (6, [.int (nI (0)), .double 0, .double 0, .double 0, .double 0])))) := by
  refine g_met_v (cc := cX5_clear) (maxL := 1) (by decide) rfl (Nat.le_of_ble_eq_true rfl) ?_
  intro p e s m below meth c A hx hb hml hr hts hown hnm hlocks hE hP hD hS hA ls hl
  have hown : s.vm.findClass RX5 = some m.cls := hown
  have hl : lv_has ls 1 [(0, .ref a_sums)] := hl
  have in_RX5 := in_c_X5_clear_RX5
  refine lv_aload_n hx hb dX5_clear_0 rfl (lv_at hl 0 rfl) ?_
  refine lv_iconst (v := nI 0) hx hb dX5_clear_1 (by decide) ?_
  refine gv_set f0_sums rfl (by rfl) (fun k9 h9 kk9 => va_put (D := D) (ci := 6) (v := .int (nI (0))) (ty := .int) (C := RX5) (T := TX5) (N := 5) hx hb hts in_RX5 tyX5 tyX5_ok nmX5 hown hE.1 hP hD hS k9 h9 rfl 0 (by decide) (hts (.fieldLink RX5 9 "BasketryOffice$Sums" "outlets" "I") (by decide +kernel)) (fun _ h9 => h9) rfl (by decide +kernel) rfl rfl (Nat.le_of_ble_eq_true rfl) dX5_clear_2 kk9) (fun H locs hP hD hS => ?_)
  have f_sums := g_eq (x := (a_sums, .inr (6, [.int (nI (0)), .double d1, .double d2, .double d3, .double d4]))) (f0_sums)
  refine lv_aload_n hx hb dX5_clear_5 rfl (lv_at hl 0 rfl) ?_
  refine g_dconst0 hx hb dX5_clear_6 ?_
  refine gv_set f_sums rfl (by rfl) (fun k9 h9 kk9 => va_put (D := D) (ci := 6) (v := .double 0) (ty := .double) (C := RX5) (T := TX5) (N := 5) hx hb hts in_RX5 tyX5 tyX5_ok nmX5 hown hE.1 hP hD hS k9 h9 rfl 1 (by decide) (hts (.fieldLink RX5 15 "BasketryOffice$Sums" "rates" "D") (by decide +kernel)) (fun _ h9 => h9) rfl (by decide +kernel) rfl rfl (Nat.le_of_ble_eq_true rfl) dX5_clear_7 kk9) (fun H locs hP hD hS => ?_)
  have hP := g_trP g_ss hP
  have hD := g_trD g_ss hD
  have f_sums := g_eq (x := (a_sums, .inr (6, [.int (nI (0)), .double 0, .double d2, .double d3, .double d4]))) (f0_sums)
  refine lv_aload_n hx hb dX5_clear_10 rfl (lv_at hl 0 rfl) ?_
  refine g_dconst0 hx hb dX5_clear_11 ?_
  refine gv_set f_sums rfl (by rfl) (fun k9 h9 kk9 => va_put (D := D) (ci := 6) (v := .double 0) (ty := .double) (C := RX5) (T := TX5) (N := 5) hx hb hts in_RX5 tyX5 tyX5_ok nmX5 hown hE.1 hP hD hS k9 h9 rfl 2 (by decide) (hts (.fieldLink RX5 19 "BasketryOffice$Sums" "bases" "D") (by decide +kernel)) (fun _ h9 => h9) rfl (by decide +kernel) rfl rfl (Nat.le_of_ble_eq_true rfl) dX5_clear_12 kk9) (fun H locs hP hD hS => ?_)
  have hP := g_trP g_ss hP
  have hD := g_trD g_ss hD
  have f_sums := g_eq (x := (a_sums, .inr (6, [.int (nI (0)), .double 0, .double 0, .double d3, .double d4]))) (f0_sums)
  refine lv_aload_n hx hb dX5_clear_15 rfl (lv_at hl 0 rfl) ?_
  refine g_dconst0 hx hb dX5_clear_16 ?_
  refine gv_set f_sums rfl (by rfl) (fun k9 h9 kk9 => va_put (D := D) (ci := 6) (v := .double 0) (ty := .double) (C := RX5) (T := TX5) (N := 5) hx hb hts in_RX5 tyX5 tyX5_ok nmX5 hown hE.1 hP hD hS k9 h9 rfl 3 (by decide) (hts (.fieldLink RX5 22 "BasketryOffice$Sums" "quotients" "D") (by decide +kernel)) (fun _ h9 => h9) rfl (by decide +kernel) rfl rfl (Nat.le_of_ble_eq_true rfl) dX5_clear_17 kk9) (fun H locs hP hD hS => ?_)
  have hP := g_trP g_ss hP
  have hD := g_trD g_ss hD
  have f_sums := g_eq (x := (a_sums, .inr (6, [.int (nI (0)), .double 0, .double 0, .double 0, .double d4]))) (f0_sums)
  refine lv_aload_n hx hb dX5_clear_20 rfl (lv_at hl 0 rfl) ?_
  refine g_dconst0 hx hb dX5_clear_21 ?_
  refine gv_set f_sums rfl (by rfl) (fun k9 h9 kk9 => va_put (D := D) (ci := 6) (v := .double 0) (ty := .double) (C := RX5) (T := TX5) (N := 5) hx hb hts in_RX5 tyX5 tyX5_ok nmX5 hown hE.1 hP hD hS k9 h9 rfl 4 (by decide) (hts (.fieldLink RX5 25 "BasketryOffice$Sums" "inverses" "D") (by decide +kernel)) (fun _ h9 => h9) rfl (by decide +kernel) rfl rfl (Nat.le_of_ble_eq_true rfl) dX5_clear_22 kk9) (fun H locs hP hD hS => ?_)
  have hP := g_trP g_ss hP
  have hD := g_trD g_ss hD
  have f_sums := g_eq (x := (a_sums, .inr (6, [.int (nI (0)), .double 0, .double 0, .double 0, .double 0]))) (f0_sums)
  refine g_vret hx hb hr hlocks () dX5_clear_25 hS hP hD ?_
  exact trivial

theorem in_c_X5_add_RX5 : ∀ w ∈ wsX50, w ∈ wsX5_add := by decide +kernel
set_option maxHeartbeats 4000000 in
set_option maxRecDepth 100000 in
/-- Sums.add -/
theorem c_X5_add (l : Launch) {D : va_G} {y : Nat → Nat} {ws : va_W} {p_sums a_sums : Nat} {n0 : Nat} {d1 d2 d3 d4 : UInt64} {ra ba : UInt64} (f0_sums : ws[p_sums]? = some (a_sums, .inr (6, [.int (nI (n0)), .double d1, .double d2, .double d3, .double d4]))) (hn : nnAdd d1 d2 d3 d4 ra ba) : gMv l yX5_add wsX5_add ({ frames := 0, cells := 0, slots := 0, locals := 0 }) D y [.ref a_sums, .double ra, .double ba] ws (fun (_ : Unit) => True) (fun (_ : Unit) => (ws.set p_sums (a_sums, .inr (6, [.int (nI (n0 + 1)), .double (FP.dadd d1 ra), .double (FP.dadd d2 ba), .double (FP.dadd d3 (FP.ddiv ra ba)), .double (FP.dadd d4 (FP.ddiv FP.dconst1 (FP.ddiv ra ba)))])))) := by
  refine g_met_v (cc := cX5_add) (maxL := 5) (by decide) rfl (Nat.le_of_ble_eq_true rfl) ?_
  intro p e s m below meth c A hx hb hml hr hts hown hnm hlocks hE hP hD hS hA ls hl
  have hown : s.vm.findClass RX5 = some m.cls := hown
  have hl : lv_has ls 5 [(0, .ref a_sums), (1, .double ra), (3, .double ba)] := hl
  have in_RX5 := in_c_X5_add_RX5
  obtain ⟨h1, h2, h3, h4, h5, h6⟩ := hn
  refine lv_aload_n hx hb dX5_add_0 rfl (lv_at hl 0 rfl) ?_
  refine lv_dup hx hb dX5_add_1 rfl ?_
  refine va_get (D := D) (ci := 6) (v := .int (nI (n0))) (C := RX5) (T := TX5) (N := 5) hx hb hts in_RX5 hown hE.1 (gv1 hP f0_sums) 0 rfl rfl 0 (by decide) (hts (.fieldLink RX5 9 "BasketryOffice$Sums" "outlets" "I") (by decide +kernel)) (fun _ h9 => h9) rfl dX5_add_2 ?_
  refine lv_iconst (v := nI 1) hx hb dX5_add_5 (by decide) ?_
  refine g_iadd hx hb dX5_add_6 (nI_add _ _) ?_
  refine gv_set f0_sums rfl (by rfl) (fun k9 h9 kk9 => va_put (D := D) (ci := 6) (v := .int (nI (n0 + 1))) (ty := .int) (C := RX5) (T := TX5) (N := 5) hx hb hts in_RX5 tyX5 tyX5_ok nmX5 hown hE.1 hP hD hS k9 h9 rfl 0 (by decide) (hts (.fieldLink RX5 9 "BasketryOffice$Sums" "outlets" "I") (by decide +kernel)) (fun _ h9 => h9) rfl (by decide +kernel) rfl rfl (Nat.le_of_ble_eq_true rfl) dX5_add_7 kk9) (fun H locs hP hD hS => ?_)
  have f_sums := g_eq (x := (a_sums, .inr (6, [.int (nI (n0 + 1)), .double d1, .double d2, .double d3, .double d4]))) (f0_sums)
  refine lv_aload_n hx hb dX5_add_10 rfl (lv_at hl 0 rfl) ?_
  refine lv_dup hx hb dX5_add_11 rfl ?_
  refine va_get (D := D) (ci := 6) (v := .double d1) (C := RX5) (T := TX5) (N := 5) hx hb hts in_RX5 hown hE.1 (gv1 hP f_sums) 0 rfl rfl 1 (by decide) (hts (.fieldLink RX5 15 "BasketryOffice$Sums" "rates" "D") (by decide +kernel)) (fun _ h9 => h9) rfl dX5_add_12 ?_
  refine lv_dload_n hx hb dX5_add_15 rfl (lv_at hl 1 rfl) ?_
  refine lv_dadd hx hb dX5_add_16 (by assumption) ?_
  refine gv_set f_sums rfl (by rfl) (fun k9 h9 kk9 => va_put (D := D) (ci := 6) (v := .double (FP.dadd d1 ra)) (ty := .double) (C := RX5) (T := TX5) (N := 5) hx hb hts in_RX5 tyX5 tyX5_ok nmX5 hown hE.1 hP hD hS k9 h9 rfl 1 (by decide) (hts (.fieldLink RX5 15 "BasketryOffice$Sums" "rates" "D") (by decide +kernel)) (fun _ h9 => h9) rfl (by decide +kernel) rfl rfl (Nat.le_of_ble_eq_true rfl) dX5_add_17 kk9) (fun H locs hP hD hS => ?_)
  have hP := g_trP g_ss hP
  have hD := g_trD g_ss hD
  have f_sums := g_eq (x := (a_sums, .inr (6, [.int (nI (n0 + 1)), .double (FP.dadd d1 ra), .double d2, .double d3, .double d4]))) (f0_sums)
  refine lv_aload_n hx hb dX5_add_20 rfl (lv_at hl 0 rfl) ?_
  refine lv_dup hx hb dX5_add_21 rfl ?_
  refine va_get (D := D) (ci := 6) (v := .double d2) (C := RX5) (T := TX5) (N := 5) hx hb hts in_RX5 hown hE.1 (gv1 hP f_sums) 0 rfl rfl 2 (by decide) (hts (.fieldLink RX5 19 "BasketryOffice$Sums" "bases" "D") (by decide +kernel)) (fun _ h9 => h9) rfl dX5_add_22 ?_
  refine lv_dload_n hx hb dX5_add_25 rfl (lv_at hl 2 rfl) ?_
  refine lv_dadd hx hb dX5_add_26 (by assumption) ?_
  refine gv_set f_sums rfl (by rfl) (fun k9 h9 kk9 => va_put (D := D) (ci := 6) (v := .double (FP.dadd d2 ba)) (ty := .double) (C := RX5) (T := TX5) (N := 5) hx hb hts in_RX5 tyX5 tyX5_ok nmX5 hown hE.1 hP hD hS k9 h9 rfl 2 (by decide) (hts (.fieldLink RX5 19 "BasketryOffice$Sums" "bases" "D") (by decide +kernel)) (fun _ h9 => h9) rfl (by decide +kernel) rfl rfl (Nat.le_of_ble_eq_true rfl) dX5_add_27 kk9) (fun H locs hP hD hS => ?_)
  have hP := g_trP g_ss hP
  have hD := g_trD g_ss hD
  have f_sums := g_eq (x := (a_sums, .inr (6, [.int (nI (n0 + 1)), .double (FP.dadd d1 ra), .double (FP.dadd d2 ba), .double d3, .double d4]))) (f0_sums)
  refine lv_aload_n hx hb dX5_add_30 rfl (lv_at hl 0 rfl) ?_
  refine lv_dup hx hb dX5_add_31 rfl ?_
  refine va_get (D := D) (ci := 6) (v := .double d3) (C := RX5) (T := TX5) (N := 5) hx hb hts in_RX5 hown hE.1 (gv1 hP f_sums) 0 rfl rfl 3 (by decide) (hts (.fieldLink RX5 22 "BasketryOffice$Sums" "quotients" "D") (by decide +kernel)) (fun _ h9 => h9) rfl dX5_add_32 ?_
  refine lv_dload_n hx hb dX5_add_35 rfl (lv_at hl 1 rfl) ?_
  refine lv_dload_n hx hb dX5_add_36 rfl (lv_at hl 2 rfl) ?_
  refine lv_ddiv hx hb dX5_add_37 (by assumption) ?_
  refine lv_dadd hx hb dX5_add_38 (by assumption) ?_
  refine gv_set f_sums rfl (by rfl) (fun k9 h9 kk9 => va_put (D := D) (ci := 6) (v := .double (FP.dadd d3 (FP.ddiv ra ba))) (ty := .double) (C := RX5) (T := TX5) (N := 5) hx hb hts in_RX5 tyX5 tyX5_ok nmX5 hown hE.1 hP hD hS k9 h9 rfl 3 (by decide) (hts (.fieldLink RX5 22 "BasketryOffice$Sums" "quotients" "D") (by decide +kernel)) (fun _ h9 => h9) rfl (by decide +kernel) rfl rfl (Nat.le_of_ble_eq_true rfl) dX5_add_39 kk9) (fun H locs hP hD hS => ?_)
  have hP := g_trP g_ss hP
  have hD := g_trD g_ss hD
  have f_sums := g_eq (x := (a_sums, .inr (6, [.int (nI (n0 + 1)), .double (FP.dadd d1 ra), .double (FP.dadd d2 ba), .double (FP.dadd d3 (FP.ddiv ra ba)), .double d4]))) (f0_sums)
  refine lv_aload_n hx hb dX5_add_42 rfl (lv_at hl 0 rfl) ?_
  refine lv_dup hx hb dX5_add_43 rfl ?_
  refine va_get (D := D) (ci := 6) (v := .double d4) (C := RX5) (T := TX5) (N := 5) hx hb hts in_RX5 hown hE.1 (gv1 hP f_sums) 0 rfl rfl 4 (by decide) (hts (.fieldLink RX5 25 "BasketryOffice$Sums" "inverses" "D") (by decide +kernel)) (fun _ h9 => h9) rfl dX5_add_44 ?_
  refine lv_dconst1 hx hb dX5_add_47 ?_
  refine lv_dload_n hx hb dX5_add_48 rfl (lv_at hl 1 rfl) ?_
  refine lv_dload_n hx hb dX5_add_49 rfl (lv_at hl 2 rfl) ?_
  refine lv_ddiv hx hb dX5_add_50 (by assumption) ?_
  refine lv_ddiv hx hb dX5_add_51 (by assumption) ?_
  refine lv_dadd hx hb dX5_add_52 (by assumption) ?_
  refine gv_set f_sums rfl (by rfl) (fun k9 h9 kk9 => va_put (D := D) (ci := 6) (v := .double (FP.dadd d4 (FP.ddiv (FP.dconst1) (FP.ddiv ra ba)))) (ty := .double) (C := RX5) (T := TX5) (N := 5) hx hb hts in_RX5 tyX5 tyX5_ok nmX5 hown hE.1 hP hD hS k9 h9 rfl 4 (by decide) (hts (.fieldLink RX5 25 "BasketryOffice$Sums" "inverses" "D") (by decide +kernel)) (fun _ h9 => h9) rfl (by decide +kernel) rfl rfl (Nat.le_of_ble_eq_true rfl) dX5_add_53 kk9) (fun H locs hP hD hS => ?_)
  have hP := g_trP g_ss hP
  have hD := g_trD g_ss hD
  have f_sums := g_eq (x := (a_sums, .inr (6, [.int (nI (n0 + 1)), .double (FP.dadd d1 ra), .double (FP.dadd d2 ba), .double (FP.dadd d3 (FP.ddiv ra ba)), .double (FP.dadd d4 (FP.ddiv (FP.dconst1) (FP.ddiv ra ba)))]))) (f0_sums)
  refine g_vret hx hb hr hlocks () dX5_add_56 hS hP hD ?_
  exact trivial

theorem in_c_X5_relativeBy_RX5 : ∀ w ∈ wsX50, w ∈ wsX5_relativeBy := by decide +kernel
set_option maxHeartbeats 4000000 in
set_option maxRecDepth 100000 in
/-- Sums.relativeBy -/
theorem c_X5_relativeBy (l : Launch) {D : va_G} {y : Nat → Nat} {ws : va_W} {p_sums a_sums : Nat} {n0 : Nat} {d1 d2 d3 d4 : UInt64} {mean : Nat} (f0_sums : ws[p_sums]? = some (a_sums, .inr (6, [.int (nI (n0)), .double d1, .double d2, .double d3, .double d4]))) (hm : mean < 2 ^ 31) (hn0 : n0 < 2 ^ 31) (hn : nnRel mean n0 d1 d2 d3 d4) : gMd l yX5_relativeBy wsX5_relativeBy ({ frames := 0, cells := 0, slots := 0, locals := 0 }) D y [.ref a_sums, .int (nI (mean))] ws (fun r (_ : Unit) => r = sRel mean n0 d1 d2 d3 d4) (fun (_ : Unit) => ws) := by
  refine g_met_d (cc := cX5_relativeBy) (maxL := 2) (by decide) rfl (Nat.le_of_ble_eq_true rfl) ?_
  intro p e s m below meth c A hx hb hml hr hts hown hnm hlocks hE hP hD hS hA ls hl
  have hown : s.vm.findClass RX5 = some m.cls := hown
  have hl : lv_has ls 2 [(0, .ref a_sums), (1, .int (nI (mean)))] := hl
  have in_RX5 := in_c_X5_relativeBy_RX5
  refine lv_aload_n hx hb dX5_relativeBy_0 rfl (lv_at hl 0 rfl) ?_
  refine va_get (D := D) (ci := 6) (v := .int (nI (n0))) (C := RX5) (T := TX5) (N := 5) hx hb hts in_RX5 hown hE.1 (gv1 hP f0_sums) 0 rfl rfl 0 (by decide) (hts (.fieldLink RX5 9 "BasketryOffice$Sums" "outlets" "I") (by decide +kernel)) (fun _ h9 => h9) rfl dX5_relativeBy_1 ?_
  refine lv_iconst (v := nI 1) hx hb dX5_relativeBy_4 (by decide) ?_
  refine g_icmp_ge (tgt := 10) hx hb (by omega) (by omega) dX5_relativeBy_5 (by decide) (fun c_5 => ?_) (fun c_5 => ?_)
  · refine lv_iload_n hx hb dX5_relativeBy_10 rfl (lv_at hl 1 rfl) ?_
    refine g_if_ne (tgt := 25) hx hb (by omega) dX5_relativeBy_11 (by decide) (fun c_11 => ?_) (fun c_11 => ?_)
    · refine lv_iload_n hx hb dX5_relativeBy_25 rfl (lv_at hl 1 rfl) ?_
      refine lv_iconst (v := nI 1) hx hb dX5_relativeBy_26 (by decide) ?_
      refine g_icmp_ne (tgt := 42) hx hb (by omega) (by omega) dX5_relativeBy_27 (by decide) (fun c_27 => ?_) (fun c_27 => ?_)
      · refine lv_aload_n hx hb dX5_relativeBy_42 rfl (lv_at hl 0 rfl) ?_
        refine va_get (D := D) (ci := 6) (v := .int (nI (n0))) (C := RX5) (T := TX5) (N := 5) hx hb hts in_RX5 hown hE.1 (gv1 hP f0_sums) 0 rfl rfl 0 (by decide) (hts (.fieldLink RX5 9 "BasketryOffice$Sums" "outlets" "I") (by decide +kernel)) (fun _ h9 => h9) rfl dX5_relativeBy_43 ?_
        refine lv_i2d hx hb dX5_relativeBy_46 ?_
        refine lv_aload_n hx hb dX5_relativeBy_47 rfl (lv_at hl 0 rfl) ?_
        refine va_get (D := D) (ci := 6) (v := .double d4) (C := RX5) (T := TX5) (N := 5) hx hb hts in_RX5 hown hE.1 (gv1 hP f0_sums) 0 rfl rfl 4 (by decide) (hts (.fieldLink RX5 25 "BasketryOffice$Sums" "inverses" "D") (by decide +kernel)) (fun _ h9 => h9) rfl dX5_relativeBy_48 ?_
        refine lv_ddiv hx hb dX5_relativeBy_51 ((hn (by omega)).2.2 (by omega) c_27) ?_
        refine g_dret hx hb hr hlocks () dX5_relativeBy_52 hS hP hD ?_
        have h : n0 ≠ 0 := by omega
        simp [sRel, h, *] <;> omega
      · refine lv_aload_n hx hb dX5_relativeBy_30 rfl (lv_at hl 0 rfl) ?_
        refine va_get (D := D) (ci := 6) (v := .double d1) (C := RX5) (T := TX5) (N := 5) hx hb hts in_RX5 hown hE.1 (gv1 hP f0_sums) 0 rfl rfl 1 (by decide) (hts (.fieldLink RX5 15 "BasketryOffice$Sums" "rates" "D") (by decide +kernel)) (fun _ h9 => h9) rfl dX5_relativeBy_31 ?_
        refine lv_aload_n hx hb dX5_relativeBy_34 rfl (lv_at hl 0 rfl) ?_
        refine va_get (D := D) (ci := 6) (v := .double d2) (C := RX5) (T := TX5) (N := 5) hx hb hts in_RX5 hown hE.1 (gv1 hP f0_sums) 0 rfl rfl 2 (by decide) (hts (.fieldLink RX5 19 "BasketryOffice$Sums" "bases" "D") (by decide +kernel)) (fun _ h9 => h9) rfl dX5_relativeBy_35 ?_
        refine lv_ddiv hx hb dX5_relativeBy_38 ((hn (by omega)).2.1 c_27) ?_
        refine lv_goto (tgt := 52) hx hb dX5_relativeBy_39 (by decide) ?_
        refine g_dret hx hb hr hlocks () dX5_relativeBy_52 hS hP hD ?_
        have h : n0 ≠ 0 := by omega
        simp [sRel, h, *] <;> omega
    · refine lv_aload_n hx hb dX5_relativeBy_14 rfl (lv_at hl 0 rfl) ?_
      refine va_get (D := D) (ci := 6) (v := .double d3) (C := RX5) (T := TX5) (N := 5) hx hb hts in_RX5 hown hE.1 (gv1 hP f0_sums) 0 rfl rfl 3 (by decide) (hts (.fieldLink RX5 22 "BasketryOffice$Sums" "quotients" "D") (by decide +kernel)) (fun _ h9 => h9) rfl dX5_relativeBy_15 ?_
      refine lv_aload_n hx hb dX5_relativeBy_18 rfl (lv_at hl 0 rfl) ?_
      refine va_get (D := D) (ci := 6) (v := .int (nI (n0))) (C := RX5) (T := TX5) (N := 5) hx hb hts in_RX5 hown hE.1 (gv1 hP f0_sums) 0 rfl rfl 0 (by decide) (hts (.fieldLink RX5 9 "BasketryOffice$Sums" "outlets" "I") (by decide +kernel)) (fun _ h9 => h9) rfl dX5_relativeBy_19 ?_
      refine lv_i2d hx hb dX5_relativeBy_22 ?_
      refine lv_ddiv hx hb dX5_relativeBy_23 ((hn (by omega)).1 c_11) ?_
      refine g_dret hx hb hr hlocks () dX5_relativeBy_24 hS hP hD ?_
      have h : n0 ≠ 0 := by omega
      simp [sRel, h, *] <;> omega
  · refine g_dconst0 hx hb dX5_relativeBy_8 ?_
    refine g_dret hx hb hr hlocks () dX5_relativeBy_9 hS hP hD ?_
    have h : n0 = 0 := by omega
    simp [sRel, h]
