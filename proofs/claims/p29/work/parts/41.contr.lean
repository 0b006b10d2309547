theorem in_c_X0_isTriggeredBy_RX0 : ∀ w ∈ wsX00, w ∈ wsX0_isTriggeredBy := by decide +kernel
set_option maxHeartbeats 4000000 in
set_option maxRecDepth 100000 in
theorem c_X0_isTriggeredBy (l : Launch) {D : va_G} {y : Nat → Nat} {ws : va_W} {p_con a_con : Nat} {fw lag trig fm cw cl cm cp : Nat} {fl : Bool} {nn : Nat} (f0_con : ws[p_con]? = some (a_con, .inr (1, [.int (nI (fw)), .int (nI (lag)), .int (nI (trig)), .int (gb (fl)), .int (nI (fm)), .long (lN (cw)), .long (lN (cl)), .int (nI (cm)), .long (lN (cp))]))) (hcl : cl ≤ 2147483647) (htr : trig ≤ 500) (hnn : nn ≤ 2147483647) : gMi l yX0_isTriggeredBy wsX0_isTriggeredBy ({ frames := 0, cells := 0, slots := 0, locals := 0 }) D y [.ref a_con, .long (lN (nn))] ws (fun r (_ : Unit) => r = gb (tie cl trig fl nn)) (fun (_ : Unit) => ws) := by
  refine g_met_z (cc := cX0_isTriggeredBy) (maxL := 3) (by decide) rfl (Nat.le_of_ble_eq_true rfl) ?_
  intro p e s m below meth c A hx hb hml hr hts hown hnm hlocks hE hP hD hS hA ls hl
  have hown : s.vm.findClass RX0 = some m.cls := hown
  have hl : lv_has ls 3 [(0, .ref a_con), (1, .long (lN (nn)))] := hl
  have in_RX0 := in_c_X0_isTriggeredBy_RX0
  refine lv_aload_n hx hb dX0_isTriggeredBy_0 rfl (lv_at hl 0 rfl) ?_
  refine va_get (D := D) (ci := 1) (v := .long (lN (cl))) (C := RX0) (T := TX0) (N := 9) hx hb hts in_RX0 hown hE.1 (gv1 hP f0_con) 0 rfl rfl 6 (by decide) (hts (.fieldLink RX0 32 "BasketryOffice$Contract" "lastNumber" "J") (by decide +kernel)) (fun _ h9 => h9) rfl dX0_isTriggeredBy_1 ?_
  refine lv_lconst (v := lN 1) hx hb dX0_isTriggeredBy_4 (by decide) ?_
  refine g_lcmp_ge (tgt := 11) hx hb (by omega) (by decide) dX0_isTriggeredBy_5 dX0_isTriggeredBy_6 (by decide) (fun c_5 => ?_) (fun c_5 => ?_)
  · refine lv_lload_n hx hb dX0_isTriggeredBy_11 rfl (lv_at hl 1 rfl) ?_
    refine lv_ldc2 (v := 1000) hx hb hown (hts (.constantLong RX0 53 (1000)) (by decide +kernel)) dX0_isTriggeredBy_12 ?_
    rw [show (1000 : Int64) = lN 1000 from by decide]
    refine g_lmul hx hb dX0_isTriggeredBy_15 (lN_mul _ _) ?_
    refine lv_aload_n hx hb dX0_isTriggeredBy_16 rfl (lv_at hl 0 rfl) ?_
    refine va_get (D := D) (ci := 1) (v := .long (lN (cl))) (C := RX0) (T := TX0) (N := 9) hx hb hts in_RX0 hown hE.1 (gv1 hP f0_con) 0 rfl rfl 6 (by decide) (hts (.fieldLink RX0 32 "BasketryOffice$Contract" "lastNumber" "J") (by decide +kernel)) (fun _ h9 => h9) rfl dX0_isTriggeredBy_17 ?_
    refine lv_sipush (v := nI 1000) hx hb dX0_isTriggeredBy_20 (by decide) ?_
    refine lv_aload_n hx hb dX0_isTriggeredBy_23 rfl (lv_at hl 0 rfl) ?_
    refine va_get (D := D) (ci := 1) (v := .int (nI (trig))) (C := RX0) (T := TX0) (N := 9) hx hb hts in_RX0 hown hE.1 (gv1 hP f0_con) 0 rfl rfl 2 (by decide) (hts (.fieldLink RX0 18 "BasketryOffice$Contract" "trigger" "I") (by decide +kernel)) (fun _ h9 => h9) rfl dX0_isTriggeredBy_24 ?_
    refine g_iadd hx hb dX0_isTriggeredBy_27 (nI_add _ _) ?_
    refine lv_i2l (v := lN (1000 + trig)) hx hb dX0_isTriggeredBy_28 (nI_l (by omega)) ?_
    refine g_lmul hx hb dX0_isTriggeredBy_29 (lN_mul _ _) ?_
    refine g_lcmp_ge (tgt := 64) hx hb (by omega) (by have := tie_bd (a := cl) (b := 1000 + trig) hcl (by omega); omega) dX0_isTriggeredBy_30 dX0_isTriggeredBy_31 (by decide) (fun c_30 => ?_) (fun c_30 => ?_)
    · refine lv_iconst (v := nI 1) hx hb dX0_isTriggeredBy_64 (by decide) ?_
      refine lv_goto (tgt := 69) hx hb dX0_isTriggeredBy_65 (by decide) ?_
      refine g_zret (r := (gb (true))) hx hb hr hlocks () dX0_isTriggeredBy_69 (gb_narrow _) hS hP hD ?_
      have h : tie cl trig fl nn = true := decide_eq_true ⟨by omega, Or.inl (by omega)⟩
      rw [h]
    · refine lv_aload_n hx hb dX0_isTriggeredBy_34 rfl (lv_at hl 0 rfl) ?_
      refine va_get (D := D) (ci := 1) (v := .int (gb (fl))) (C := RX0) (T := TX0) (N := 9) hx hb hts in_RX0 hown hE.1 (gv1 hP f0_con) 0 rfl rfl 3 (by decide) (hts (.fieldLink RX0 21 "BasketryOffice$Contract" "hasFloor" "Z") (by decide +kernel)) (fun _ h9 => h9) rfl dX0_isTriggeredBy_35 ?_
      refine g_bif_ne (tgt := 68) hx hb dX0_isTriggeredBy_38 (by decide) (fun c_38 => ?_) (fun c_38 => ?_)
      · refine lv_iconst (v := nI 0) hx hb dX0_isTriggeredBy_68 (by decide) ?_
        refine g_zret (r := (gb (false))) hx hb hr hlocks () dX0_isTriggeredBy_69 (gb_narrow _) hS hP hD ?_
        have h : tie cl trig fl nn = false := decide_eq_false (fun z => z.2.elim (fun w => by omega) (fun w => by have h9 := w.1; rw [c_38] at h9; cases h9))
        rw [h]
      · refine lv_lload_n hx hb dX0_isTriggeredBy_41 rfl (lv_at hl 1 rfl) ?_
        refine lv_ldc2 (v := 1000) hx hb hown (hts (.constantLong RX0 53 (1000)) (by decide +kernel)) dX0_isTriggeredBy_42 ?_
        rw [show (1000 : Int64) = lN 1000 from by decide]
        refine g_lmul hx hb dX0_isTriggeredBy_45 (lN_mul _ _) ?_
        refine lv_aload_n hx hb dX0_isTriggeredBy_46 rfl (lv_at hl 0 rfl) ?_
        refine va_get (D := D) (ci := 1) (v := .long (lN (cl))) (C := RX0) (T := TX0) (N := 9) hx hb hts in_RX0 hown hE.1 (gv1 hP f0_con) 0 rfl rfl 6 (by decide) (hts (.fieldLink RX0 32 "BasketryOffice$Contract" "lastNumber" "J") (by decide +kernel)) (fun _ h9 => h9) rfl dX0_isTriggeredBy_47 ?_
        refine lv_sipush (v := nI 1000) hx hb dX0_isTriggeredBy_50 (by decide) ?_
        refine lv_aload_n hx hb dX0_isTriggeredBy_53 rfl (lv_at hl 0 rfl) ?_
        refine va_get (D := D) (ci := 1) (v := .int (nI (trig))) (C := RX0) (T := TX0) (N := 9) hx hb hts in_RX0 hown hE.1 (gv1 hP f0_con) 0 rfl rfl 2 (by decide) (hts (.fieldLink RX0 18 "BasketryOffice$Contract" "trigger" "I") (by decide +kernel)) (fun _ h9 => h9) rfl dX0_isTriggeredBy_54 ?_
        refine g_isub hx hb dX0_isTriggeredBy_57 (pk_sub (by omega)) ?_
        refine lv_i2l (v := lN ((1000) - (trig))) hx hb dX0_isTriggeredBy_58 (nI_l (by omega)) ?_
        refine g_lmul hx hb dX0_isTriggeredBy_59 (lN_mul _ _) ?_
        refine g_lcmp_gt (tgt := 68) hx hb (by omega) (by have := tie_bd (a := cl) (b := 1000 - trig) hcl (by omega); omega) dX0_isTriggeredBy_60 dX0_isTriggeredBy_61 (by decide) (fun c_60 => ?_) (fun c_60 => ?_)
        · refine lv_iconst (v := nI 0) hx hb dX0_isTriggeredBy_68 (by decide) ?_
          refine g_zret (r := (gb (false))) hx hb hr hlocks () dX0_isTriggeredBy_69 (gb_narrow _) hS hP hD ?_
          have h : tie cl trig fl nn = false := decide_eq_false (fun z => z.2.elim (fun w => by omega) (fun w => by have := w.2; omega))
          rw [h]
        · refine lv_iconst (v := nI 1) hx hb dX0_isTriggeredBy_64 (by decide) ?_
          refine lv_goto (tgt := 69) hx hb dX0_isTriggeredBy_65 (by decide) ?_
          refine g_zret (r := (gb (true))) hx hb hr hlocks () dX0_isTriggeredBy_69 (gb_narrow _) hS hP hD ?_
          have h : tie cl trig fl nn = true := decide_eq_true ⟨by omega, Or.inr ⟨c_38, by omega⟩⟩
          rw [h]
  · refine lv_iconst (v := nI 0) hx hb dX0_isTriggeredBy_9 (by decide) ?_
    refine g_zret (r := (gb (false))) hx hb hr hlocks () dX0_isTriggeredBy_10 (gb_narrow _) hS hP hD ?_
    have h : tie cl trig fl nn = false := decide_eq_false (fun z => by have := z.1; omega)
    rw [h]

theorem in_c_X0_pay_RX0 : ∀ w ∈ wsX00, w ∈ wsX0_pay := by decide +kernel
set_option maxHeartbeats 4000000 in
set_option maxRecDepth 100000 in
theorem c_X0_pay (l : Launch) {D : va_G} {y : Nat → Nat} {ws : va_W} {p_con p_num a_con a_num : Nat} {num : Nat → Nat} {fw lag trig fm cw cl cm cp : Nat} {fl : Bool} {t : Nat} (f0_con : ws[p_con]? = some (a_con, .inr (1, [.int (nI (fw)), .int (nI (lag)), .int (nI (trig)), .int (gb (fl)), .int (nI (fm)), .long (lN (cw)), .long (lN (cl)), .int (nI (cm)), .long (lN (cp))]))) (f0_num : ws[p_num]? = some (a_num, eN y 24 num)) (b_num : ∀ k, num k ≤ 2147483647) (ht : t < 24) (hlag : lag ≤ 3) (hcm : cm < 24) (hcw : cw ≤ 1000000000) (hcl : cl ≤ 2147483647) (htr : trig ≤ 500) : gMv l yX0_pay wsX0_pay ({ frames := 1, cells := 0, slots := 0, locals := 23 }) D y [.ref a_con, .int (nI (t)), .ref a_num] ws (fun (_ : Unit) => True) (fun (_ : Unit) => (ws.set p_con (a_con, .inr (1, [.int (nI (fw)), .int (nI (lag)), .int (nI (trig)), .int (gb (fl)), .int (nI (fm)), .long (lN ((payS lag trig fl num t (cw, cl, cm, cp)).1)), .long (lN ((payS lag trig fl num t (cw, cl, cm, cp)).2.1)), .int (nI ((payS lag trig fl num t (cw, cl, cm, cp)).2.2.1)), .long (lN ((payS lag trig fl num t (cw, cl, cm, cp)).2.2.2))])))) := by
  refine g_met_v (cc := cX0_pay) (maxL := 4) (by decide) rfl (Nat.le_of_ble_eq_true rfl) ?_
  intro p e s m below meth c A hx hb hml hr hts hown hnm hlocks hE hP hD hS hA ls hl
  have hown : s.vm.findClass RX0 = some m.cls := hown
  have hl : lv_has ls 4 [(0, .ref a_con), (1, .int (nI (t))), (2, .ref a_num)] := hl
  have in_RX0 := in_c_X0_pay_RX0
  refine lv_iload_n hx hb dX0_pay_0 rfl (lv_at hl 1 rfl) ?_
  refine lv_aload_n hx hb dX0_pay_1 rfl (lv_at hl 0 rfl) ?_
  refine va_get (D := D) (ci := 1) (v := .int (nI (lag))) (C := RX0) (T := TX0) (N := 9) hx hb hts in_RX0 hown hE.1 (gv1 hP f0_con) 0 rfl rfl 1 (by decide) (hts (.fieldLink RX0 15 "BasketryOffice$Contract" "lag" "I") (by decide +kernel)) (fun _ h9 => h9) rfl dX0_pay_2 ?_
  rcases Nat.lt_or_ge t lag with hs | hs
  · refine g_isub hx hb dX0_pay_5 rfl ?_
    refine lv_istore_n (lv' := [(3, .int (nI t - nI lag)), (0, .ref a_con), (1, .int (nI (t))), (2, .ref a_num)]) hx hb dX0_pay_6 rfl hl (by decide) rfl (fun ls hl => ?_)
    refine lv_iload_n hx hb dX0_pay_7 rfl (lv_at hl 0 rfl) ?_
    refine lv_aload_n hx hb dX0_pay_8 rfl (lv_at hl 1 rfl) ?_
    refine va_get (D := D) (ci := 1) (v := .int (nI (cm))) (C := RX0) (T := TX0) (N := 9) hx hb hts in_RX0 hown hE.1 (gv1 hP f0_con) 0 rfl rfl 7 (by decide) (hts (.fieldLink RX0 35 "BasketryOffice$Contract" "lastMonth" "I") (by decide +kernel)) (fun _ h9 => h9) rfl dX0_pay_9 ?_
    refine lv_icmp_le (tgt := 63) hx hb dX0_pay_12 (by decide) (fun c_12 => ?_) (fun c_12 => absurd c_12 (fun z => z (g_negle hs (by omega) (by omega))))
    refine lv_aload_n hx hb dX0_pay_63 rfl (lv_at hl 1 rfl) ?_
    refine lv_dup hx hb dX0_pay_64 rfl ?_
    refine va_get (D := D) (ci := 1) (v := .long (lN (cp))) (C := RX0) (T := TX0) (N := 9) hx hb hts in_RX0 hown hE.1 (gv1 hP f0_con) 0 rfl rfl 8 (by decide) (hts (.fieldLink RX0 38 "BasketryOffice$Contract" "paid" "J") (by decide +kernel)) (fun _ h9 => h9) rfl dX0_pay_65 ?_
    refine lv_aload_n hx hb dX0_pay_68 rfl (lv_at hl 1 rfl) ?_
    refine va_get (D := D) (ci := 1) (v := .long (lN (cw))) (C := RX0) (T := TX0) (N := 9) hx hb hts in_RX0 hown hE.1 (gv1 hP f0_con) 0 rfl rfl 5 (by decide) (hts (.fieldLink RX0 28 "BasketryOffice$Contract" "wage" "J") (by decide +kernel)) (fun _ h9 => h9) rfl dX0_pay_69 ?_
    refine g_ladd hx hb dX0_pay_72 (lN_add _ _) ?_
    refine gv_set f0_con rfl (by rfl) (fun k9 h9 kk9 => va_put (D := D) (ci := 1) (v := .long (lN ((cp) + (cw)))) (ty := .long) (C := RX0) (T := TX0) (N := 9) hx hb hts in_RX0 tyX0 tyX0_ok nmX0 hown hE.1 hP hD hS k9 h9 rfl 8 (by decide) (hts (.fieldLink RX0 38 "BasketryOffice$Contract" "paid" "J") (by decide +kernel)) (fun _ h9 => h9) rfl (by decide +kernel) rfl rfl (Nat.le_of_ble_eq_true rfl) dX0_pay_73 kk9) (fun H locs hP hD hS => ?_)
    have f_con := g_eq (x := (a_con, .inr (1, [.int (nI (fw)), .int (nI (lag)), .int (nI (trig)), .int (gb (fl)), .int (nI (fm)), .long (lN (cw)), .long (lN (cl)), .int (nI (cm)), .long (lN ((cp) + (cw)))]))) (f0_con)
    have f_num := g_ne (x := (a_con, .inr (1, [.int (nI (fw)), .int (nI (lag)), .int (nI (trig)), .int (gb (fl)), .int (nI (fm)), .long (lN (cw)), .long (lN (cl)), .int (nI (cm)), .long (lN ((cp) + (cw)))]))) (g_kne f0_con f0_num (Nat.ne_of_beq_eq_false rfl)) (f0_num)
    have hP : gvP D vwCl (ws.set p_con (a_con, .inr (1, [.int (nI (fw)), .int (nI (lag)), .int (nI (trig)), .int (gb (fl)), .int (nI (fm)), .long (lN ((payS lag trig fl num t (cw, cl, cm, cp)).1)), .long (lN ((payS lag trig fl num t (cw, cl, cm, cp)).2.1)), .int (nI ((payS lag trig fl num t (cw, cl, cm, cp)).2.2.1)), .long (lN ((payS lag trig fl num t (cw, cl, cm, cp)).2.2.2))]))) _ := g_trP (by rw [payS_f (Or.inl hs)]; rfl) hP
    have hD : gvD A (ws.set p_con (a_con, .inr (1, [.int (nI (fw)), .int (nI (lag)), .int (nI (trig)), .int (gb (fl)), .int (nI (fm)), .long (lN ((payS lag trig fl num t (cw, cl, cm, cp)).1)), .long (lN ((payS lag trig fl num t (cw, cl, cm, cp)).2.1)), .int (nI ((payS lag trig fl num t (cw, cl, cm, cp)).2.2.1)), .long (lN ((payS lag trig fl num t (cw, cl, cm, cp)).2.2.2))]))) := g_trD (by rw [payS_f (Or.inl hs)]; rfl) hD
    refine g_vret hx hb hr hlocks () dX0_pay_76 hS hP hD ?_
    exact trivial
  · refine g_isub hx hb dX0_pay_5 (pk_sub hs) ?_
    refine lv_istore_n (lv' := [(3, .int (nI (t - lag))), (0, .ref a_con), (1, .int (nI (t))), (2, .ref a_num)]) hx hb dX0_pay_6 rfl hl (by decide) rfl (fun ls hl => ?_)
    refine lv_iload_n hx hb dX0_pay_7 rfl (lv_at hl 0 rfl) ?_
    refine lv_aload_n hx hb dX0_pay_8 rfl (lv_at hl 1 rfl) ?_
    refine va_get (D := D) (ci := 1) (v := .int (nI (cm))) (C := RX0) (T := TX0) (N := 9) hx hb hts in_RX0 hown hE.1 (gv1 hP f0_con) 0 rfl rfl 7 (by decide) (hts (.fieldLink RX0 35 "BasketryOffice$Contract" "lastMonth" "I") (by decide +kernel)) (fun _ h9 => h9) rfl dX0_pay_9 ?_
    refine g_icmp_le (tgt := 63) hx hb (by omega) (by omega) dX0_pay_12 (by decide) (fun c_12 => ?_) (fun c_12 => ?_)
    · refine lv_aload_n hx hb dX0_pay_63 rfl (lv_at hl 1 rfl) ?_
      refine lv_dup hx hb dX0_pay_64 rfl ?_
      refine va_get (D := D) (ci := 1) (v := .long (lN (cp))) (C := RX0) (T := TX0) (N := 9) hx hb hts in_RX0 hown hE.1 (gv1 hP f0_con) 0 rfl rfl 8 (by decide) (hts (.fieldLink RX0 38 "BasketryOffice$Contract" "paid" "J") (by decide +kernel)) (fun _ h9 => h9) rfl dX0_pay_65 ?_
      refine lv_aload_n hx hb dX0_pay_68 rfl (lv_at hl 1 rfl) ?_
      refine va_get (D := D) (ci := 1) (v := .long (lN (cw))) (C := RX0) (T := TX0) (N := 9) hx hb hts in_RX0 hown hE.1 (gv1 hP f0_con) 0 rfl rfl 5 (by decide) (hts (.fieldLink RX0 28 "BasketryOffice$Contract" "wage" "J") (by decide +kernel)) (fun _ h9 => h9) rfl dX0_pay_69 ?_
      refine g_ladd hx hb dX0_pay_72 (lN_add _ _) ?_
      refine gv_set f0_con rfl (by rfl) (fun k9 h9 kk9 => va_put (D := D) (ci := 1) (v := .long (lN ((cp) + (cw)))) (ty := .long) (C := RX0) (T := TX0) (N := 9) hx hb hts in_RX0 tyX0 tyX0_ok nmX0 hown hE.1 hP hD hS k9 h9 rfl 8 (by decide) (hts (.fieldLink RX0 38 "BasketryOffice$Contract" "paid" "J") (by decide +kernel)) (fun _ h9 => h9) rfl (by decide +kernel) rfl rfl (Nat.le_of_ble_eq_true rfl) dX0_pay_73 kk9) (fun H locs hP hD hS => ?_)
      have f_con := g_eq (x := (a_con, .inr (1, [.int (nI (fw)), .int (nI (lag)), .int (nI (trig)), .int (gb (fl)), .int (nI (fm)), .long (lN (cw)), .long (lN (cl)), .int (nI (cm)), .long (lN ((cp) + (cw)))]))) (f0_con)
      have f_num := g_ne (x := (a_con, .inr (1, [.int (nI (fw)), .int (nI (lag)), .int (nI (trig)), .int (gb (fl)), .int (nI (fm)), .long (lN (cw)), .long (lN (cl)), .int (nI (cm)), .long (lN ((cp) + (cw)))]))) (g_kne f0_con f0_num (Nat.ne_of_beq_eq_false rfl)) (f0_num)
      have hP : gvP D vwCl (ws.set p_con (a_con, .inr (1, [.int (nI (fw)), .int (nI (lag)), .int (nI (trig)), .int (gb (fl)), .int (nI (fm)), .long (lN ((payS lag trig fl num t (cw, cl, cm, cp)).1)), .long (lN ((payS lag trig fl num t (cw, cl, cm, cp)).2.1)), .int (nI ((payS lag trig fl num t (cw, cl, cm, cp)).2.2.1)), .long (lN ((payS lag trig fl num t (cw, cl, cm, cp)).2.2.2))]))) _ := g_trP (by rw [payS_f (Or.inr (Or.inl c_12))]; rfl) hP
      have hD : gvD A (ws.set p_con (a_con, .inr (1, [.int (nI (fw)), .int (nI (lag)), .int (nI (trig)), .int (gb (fl)), .int (nI (fm)), .long (lN ((payS lag trig fl num t (cw, cl, cm, cp)).1)), .long (lN ((payS lag trig fl num t (cw, cl, cm, cp)).2.1)), .int (nI ((payS lag trig fl num t (cw, cl, cm, cp)).2.2.1)), .long (lN ((payS lag trig fl num t (cw, cl, cm, cp)).2.2.2))]))) := g_trD (by rw [payS_f (Or.inr (Or.inl c_12))]; rfl) hD
      refine g_vret hx hb hr hlocks () dX0_pay_76 hS hP hD ?_
      exact trivial
    · refine lv_aload_n hx hb dX0_pay_15 rfl (lv_at hl 1 rfl) ?_
      refine lv_aload_n hx hb dX0_pay_16 rfl (lv_at hl 3 rfl) ?_
      refine lv_iload_n hx hb dX0_pay_17 rfl (lv_at hl 0 rfl) ?_
      refine g_nald hx hb hE hP _ f0_num (by omega) (by decide) dX0_pay_18 ?_
      have bd_18_1 := b_num (t - lag)
      refine lv_i2l (v := lN (num (t - lag))) hx hb dX0_pay_19 (nI_l (by omega)) ?_
      refine gc_V_i (As := [.long (lN (num (t - lag)))]) (rest := []) (c_X0_isTriggeredBy l f0_con (by omega) (by omega) (by omega)) ⟨hx, hb, hml, hown, hts⟩ (cwV 1 hts gX0_pay_X0_isTriggeredBy rfl rfl rfl (by decide +kernel) ⟨Nat.le_of_ble_eq_true rfl, Nat.le_of_ble_eq_true rfl⟩) hE hP hD hS hA _ f0_con rfl rfl rfl rfl hl.1 (Nat.le_of_ble_eq_true rfl) dX0_pay_20 ⟨Nat.le_of_ble_eq_true rfl, Nat.le_of_ble_eq_true rfl⟩ (fun r_20 u_20 H locs hP hD hS q_20 => ?_)
      subst q_20
      refine g_bif_eq (tgt := 63) hx hb dX0_pay_23 (by decide) (fun c_23 => ?_) (fun c_23 => ?_)
      · refine lv_aload_n hx hb dX0_pay_63 rfl (lv_at hl 1 rfl) ?_
        refine lv_dup hx hb dX0_pay_64 rfl ?_
        refine va_get (D := D) (ci := 1) (v := .long (lN (cp))) (C := RX0) (T := TX0) (N := 9) hx hb hts in_RX0 hown hE.1 (gv1 hP f0_con) 0 rfl rfl 8 (by decide) (hts (.fieldLink RX0 38 "BasketryOffice$Contract" "paid" "J") (by decide +kernel)) (fun _ h9 => h9) rfl dX0_pay_65 ?_
        refine lv_aload_n hx hb dX0_pay_68 rfl (lv_at hl 1 rfl) ?_
        refine va_get (D := D) (ci := 1) (v := .long (lN (cw))) (C := RX0) (T := TX0) (N := 9) hx hb hts in_RX0 hown hE.1 (gv1 hP f0_con) 0 rfl rfl 5 (by decide) (hts (.fieldLink RX0 28 "BasketryOffice$Contract" "wage" "J") (by decide +kernel)) (fun _ h9 => h9) rfl dX0_pay_69 ?_
        refine g_ladd hx hb dX0_pay_72 (lN_add _ _) ?_
        refine gv_set f0_con rfl (by rfl) (fun k9 h9 kk9 => va_put (D := D) (ci := 1) (v := .long (lN ((cp) + (cw)))) (ty := .long) (C := RX0) (T := TX0) (N := 9) hx hb hts in_RX0 tyX0 tyX0_ok nmX0 hown hE.1 hP hD hS k9 h9 rfl 8 (by decide) (hts (.fieldLink RX0 38 "BasketryOffice$Contract" "paid" "J") (by decide +kernel)) (fun _ h9 => h9) rfl (by decide +kernel) rfl rfl (Nat.le_of_ble_eq_true rfl) dX0_pay_73 kk9) (fun H locs hP hD hS => ?_)
        have f_con := g_eq (x := (a_con, .inr (1, [.int (nI (fw)), .int (nI (lag)), .int (nI (trig)), .int (gb (fl)), .int (nI (fm)), .long (lN (cw)), .long (lN (cl)), .int (nI (cm)), .long (lN ((cp) + (cw)))]))) (f0_con)
        have f_num := g_ne (x := (a_con, .inr (1, [.int (nI (fw)), .int (nI (lag)), .int (nI (trig)), .int (gb (fl)), .int (nI (fm)), .long (lN (cw)), .long (lN (cl)), .int (nI (cm)), .long (lN ((cp) + (cw)))]))) (g_kne f0_con f0_num (Nat.ne_of_beq_eq_false rfl)) (f0_num)
        have hP : gvP D vwCl (ws.set p_con (a_con, .inr (1, [.int (nI (fw)), .int (nI (lag)), .int (nI (trig)), .int (gb (fl)), .int (nI (fm)), .long (lN ((payS lag trig fl num t (cw, cl, cm, cp)).1)), .long (lN ((payS lag trig fl num t (cw, cl, cm, cp)).2.1)), .int (nI ((payS lag trig fl num t (cw, cl, cm, cp)).2.2.1)), .long (lN ((payS lag trig fl num t (cw, cl, cm, cp)).2.2.2))]))) _ := g_trP (by rw [payS_f (Or.inr (Or.inr c_23))]; rfl) hP
        have hD : gvD A (ws.set p_con (a_con, .inr (1, [.int (nI (fw)), .int (nI (lag)), .int (nI (trig)), .int (gb (fl)), .int (nI (fm)), .long (lN ((payS lag trig fl num t (cw, cl, cm, cp)).1)), .long (lN ((payS lag trig fl num t (cw, cl, cm, cp)).2.1)), .int (nI ((payS lag trig fl num t (cw, cl, cm, cp)).2.2.1)), .long (lN ((payS lag trig fl num t (cw, cl, cm, cp)).2.2.2))]))) := g_trD (by rw [payS_f (Or.inr (Or.inr c_23))]; rfl) hD
        refine g_vret hx hb hr hlocks () dX0_pay_76 hS hP hD ?_
        exact trivial
      · have h1cl : 1 ≤ cl := (of_decide_eq_true c_23).1
        refine lv_aload_n hx hb dX0_pay_26 rfl (lv_at hl 1 rfl) ?_
        refine lv_aload_n hx hb dX0_pay_27 rfl (lv_at hl 1 rfl) ?_
        refine va_get (D := D) (ci := 1) (v := .long (lN (cw))) (C := RX0) (T := TX0) (N := 9) hx hb hts in_RX0 hown hE.1 (gv1 hP f0_con) 0 rfl rfl 5 (by decide) (hts (.fieldLink RX0 28 "BasketryOffice$Contract" "wage" "J") (by decide +kernel)) (fun _ h9 => h9) rfl dX0_pay_28 ?_
        refine lv_aload_n hx hb dX0_pay_31 rfl (lv_at hl 3 rfl) ?_
        refine lv_iload_n hx hb dX0_pay_32 rfl (lv_at hl 0 rfl) ?_
        refine g_nald hx hb hE hP _ f0_num (by omega) (by decide) dX0_pay_33 ?_
        have bd_33_2 := b_num (t - lag)
        refine lv_i2l (v := lN (num (t - lag))) hx hb dX0_pay_34 (nI_l (by omega)) ?_
        refine g_lmul hx hb dX0_pay_35 (lN_mul _ _) ?_
        refine lv_aload_n hx hb dX0_pay_36 rfl (lv_at hl 1 rfl) ?_
        refine va_get (D := D) (ci := 1) (v := .long (lN (cl))) (C := RX0) (T := TX0) (N := 9) hx hb hts in_RX0 hown hE.1 (gv1 hP f0_con) 0 rfl rfl 6 (by decide) (hts (.fieldLink RX0 32 "BasketryOffice$Contract" "lastNumber" "J") (by decide +kernel)) (fun _ h9 => h9) rfl dX0_pay_37 ?_
        refine g_ldiv hx hb dX0_pay_40 (fp_lN_ne (by omega) (by omega)) (pk_lDiv (pay_bd hcw (b_num (t - lag))) (by omega) (by omega)) ?_
        refine lv_ldc2 (v := 1000000000) hx hb hown (hts (.constantLong RX0 45 (1000000000)) (by decide +kernel)) dX0_pay_41 ?_
        rw [show (1000000000 : Int64) = lN 1000000000 from by decide]
        refine g_mmin hx hb (hml.trans hl.1.symm) hown (hts (.methodLink RX0 47 Lib.MathLoose.min_long.x) (by decide +kernel)) (hts (.static Lib.MathLoose.min_long.x) (by decide +kernel)) (hts (.initialized "java/lang/Math") (by decide +kernel)) (hts (.code Lib.MathLoose.min_long.x Lib.MathLoose.min_long.code 4 (some .long)) (by decide +kernel)) (Nat.le_of_ble_eq_true rfl) (Nat.le_of_ble_eq_true rfl) (Nat.le_of_ble_eq_true rfl) (Nat.le_of_ble_eq_true rfl) (Nat.lt_of_le_of_lt (Nat.div_le_self _ _) (pay_bd hcw (b_num (t - lag)))) (by decide) dX0_pay_44 ?_
        refine gv_set f0_con rfl (by rfl) (fun k9 h9 kk9 => va_put (D := D) (ci := 1) (v := .long (lN (if 1000000000 < cw * num (t - lag) / cl then 1000000000 else cw * num (t - lag) / cl))) (ty := .long) (C := RX0) (T := TX0) (N := 9) hx hb hts in_RX0 tyX0 tyX0_ok nmX0 hown hE.1 hP hD hS k9 h9 rfl 5 (by decide) (hts (.fieldLink RX0 28 "BasketryOffice$Contract" "wage" "J") (by decide +kernel)) (fun _ h9 => h9) rfl (by decide +kernel) rfl rfl (Nat.le_of_ble_eq_true rfl) dX0_pay_47 kk9) (fun H locs hP hD hS => ?_)
        have f_con := g_eq (x := (a_con, .inr (1, [.int (nI (fw)), .int (nI (lag)), .int (nI (trig)), .int (gb (fl)), .int (nI (fm)), .long (lN (if 1000000000 < cw * num (t - lag) / cl then 1000000000 else cw * num (t - lag) / cl)), .long (lN (cl)), .int (nI (cm)), .long (lN (cp))]))) (f0_con)
        have f_num := g_ne (x := (a_con, .inr (1, [.int (nI (fw)), .int (nI (lag)), .int (nI (trig)), .int (gb (fl)), .int (nI (fm)), .long (lN (if 1000000000 < cw * num (t - lag) / cl then 1000000000 else cw * num (t - lag) / cl)), .long (lN (cl)), .int (nI (cm)), .long (lN (cp))]))) (g_kne f0_con f0_num (Nat.ne_of_beq_eq_false rfl)) (f0_num)
        refine lv_aload_n hx hb dX0_pay_50 rfl (lv_at hl 1 rfl) ?_
        refine lv_aload_n hx hb dX0_pay_51 rfl (lv_at hl 3 rfl) ?_
        refine lv_iload_n hx hb dX0_pay_52 rfl (lv_at hl 0 rfl) ?_
        refine g_nald hx hb hE hP _ f_num (by omega) (by decide) dX0_pay_53 ?_
        have bd_53_3 := b_num (t - lag)
        refine lv_i2l (v := lN (num (t - lag))) hx hb dX0_pay_54 (nI_l (by omega)) ?_
        refine gv_set f_con rfl (by rfl) (fun k9 h9 kk9 => va_put (D := D) (ci := 1) (v := .long (lN (num (t - lag)))) (ty := .long) (C := RX0) (T := TX0) (N := 9) hx hb hts in_RX0 tyX0 tyX0_ok nmX0 hown hE.1 hP hD hS k9 h9 rfl 6 (by decide) (hts (.fieldLink RX0 32 "BasketryOffice$Contract" "lastNumber" "J") (by decide +kernel)) (fun _ h9 => h9) rfl (by decide +kernel) rfl rfl (Nat.le_of_ble_eq_true rfl) dX0_pay_55 kk9) (fun H locs hP hD hS => ?_)
        have hP := g_trP g_ss hP
        have hD := g_trD g_ss hD
        have f_con := g_eq (x := (a_con, .inr (1, [.int (nI (fw)), .int (nI (lag)), .int (nI (trig)), .int (gb (fl)), .int (nI (fm)), .long (lN (if 1000000000 < cw * num (t - lag) / cl then 1000000000 else cw * num (t - lag) / cl)), .long (lN (num (t - lag))), .int (nI (cm)), .long (lN (cp))]))) (f0_con)
        have f_num := g_ne (x := (a_con, .inr (1, [.int (nI (fw)), .int (nI (lag)), .int (nI (trig)), .int (gb (fl)), .int (nI (fm)), .long (lN (if 1000000000 < cw * num (t - lag) / cl then 1000000000 else cw * num (t - lag) / cl)), .long (lN (num (t - lag))), .int (nI (cm)), .long (lN (cp))]))) (g_kne f0_con f0_num (Nat.ne_of_beq_eq_false rfl)) (f0_num)
        refine lv_aload_n hx hb dX0_pay_58 rfl (lv_at hl 1 rfl) ?_
        refine lv_iload_n hx hb dX0_pay_59 rfl (lv_at hl 0 rfl) ?_
        refine gv_set f_con rfl (by rfl) (fun k9 h9 kk9 => va_put (D := D) (ci := 1) (v := .int (nI (t - lag))) (ty := .int) (C := RX0) (T := TX0) (N := 9) hx hb hts in_RX0 tyX0 tyX0_ok nmX0 hown hE.1 hP hD hS k9 h9 rfl 7 (by decide) (hts (.fieldLink RX0 35 "BasketryOffice$Contract" "lastMonth" "I") (by decide +kernel)) (fun _ h9 => h9) rfl (by decide +kernel) rfl rfl (Nat.le_of_ble_eq_true rfl) dX0_pay_60 kk9) (fun H locs hP hD hS => ?_)
        have hP := g_trP g_ss hP
        have hD := g_trD g_ss hD
        have f_con := g_eq (x := (a_con, .inr (1, [.int (nI (fw)), .int (nI (lag)), .int (nI (trig)), .int (gb (fl)), .int (nI (fm)), .long (lN (if 1000000000 < cw * num (t - lag) / cl then 1000000000 else cw * num (t - lag) / cl)), .long (lN (num (t - lag))), .int (nI (t - lag)), .long (lN (cp))]))) (f0_con)
        have f_num := g_ne (x := (a_con, .inr (1, [.int (nI (fw)), .int (nI (lag)), .int (nI (trig)), .int (gb (fl)), .int (nI (fm)), .long (lN (if 1000000000 < cw * num (t - lag) / cl then 1000000000 else cw * num (t - lag) / cl)), .long (lN (num (t - lag))), .int (nI (t - lag)), .long (lN (cp))]))) (g_kne f0_con f0_num (Nat.ne_of_beq_eq_false rfl)) (f0_num)
        refine lv_aload_n hx hb dX0_pay_63 rfl (lv_at hl 1 rfl) ?_
        refine lv_dup hx hb dX0_pay_64 rfl ?_
        refine va_get (D := D) (ci := 1) (v := .long (lN (cp))) (C := RX0) (T := TX0) (N := 9) hx hb hts in_RX0 hown hE.1 (gv1 hP f_con) 0 rfl rfl 8 (by decide) (hts (.fieldLink RX0 38 "BasketryOffice$Contract" "paid" "J") (by decide +kernel)) (fun _ h9 => h9) rfl dX0_pay_65 ?_
        refine lv_aload_n hx hb dX0_pay_68 rfl (lv_at hl 1 rfl) ?_
        refine va_get (D := D) (ci := 1) (v := .long (lN (if 1000000000 < cw * num (t - lag) / cl then 1000000000 else cw * num (t - lag) / cl))) (C := RX0) (T := TX0) (N := 9) hx hb hts in_RX0 hown hE.1 (gv1 hP f_con) 0 rfl rfl 5 (by decide) (hts (.fieldLink RX0 28 "BasketryOffice$Contract" "wage" "J") (by decide +kernel)) (fun _ h9 => h9) rfl dX0_pay_69 ?_
        refine g_ladd hx hb dX0_pay_72 (lN_add _ _) ?_
        refine gv_set f_con rfl (by rfl) (fun k9 h9 kk9 => va_put (D := D) (ci := 1) (v := .long (lN ((cp) + (if 1000000000 < cw * num (t - lag) / cl then 1000000000 else cw * num (t - lag) / cl)))) (ty := .long) (C := RX0) (T := TX0) (N := 9) hx hb hts in_RX0 tyX0 tyX0_ok nmX0 hown hE.1 hP hD hS k9 h9 rfl 8 (by decide) (hts (.fieldLink RX0 38 "BasketryOffice$Contract" "paid" "J") (by decide +kernel)) (fun _ h9 => h9) rfl (by decide +kernel) rfl rfl (Nat.le_of_ble_eq_true rfl) dX0_pay_73 kk9) (fun H locs hP hD hS => ?_)
        have hP := g_trP g_ss hP
        have hD := g_trD g_ss hD
        have f_con := g_eq (x := (a_con, .inr (1, [.int (nI (fw)), .int (nI (lag)), .int (nI (trig)), .int (gb (fl)), .int (nI (fm)), .long (lN (if 1000000000 < cw * num (t - lag) / cl then 1000000000 else cw * num (t - lag) / cl)), .long (lN (num (t - lag))), .int (nI (t - lag)), .long (lN ((cp) + (if 1000000000 < cw * num (t - lag) / cl then 1000000000 else cw * num (t - lag) / cl)))]))) (f0_con)
        have f_num := g_ne (x := (a_con, .inr (1, [.int (nI (fw)), .int (nI (lag)), .int (nI (trig)), .int (gb (fl)), .int (nI (fm)), .long (lN (if 1000000000 < cw * num (t - lag) / cl then 1000000000 else cw * num (t - lag) / cl)), .long (lN (num (t - lag))), .int (nI (t - lag)), .long (lN ((cp) + (if 1000000000 < cw * num (t - lag) / cl then 1000000000 else cw * num (t - lag) / cl)))]))) (g_kne f0_con f0_num (Nat.ne_of_beq_eq_false rfl)) (f0_num)
        have hP : gvP D vwCl (ws.set p_con (a_con, .inr (1, [.int (nI (fw)), .int (nI (lag)), .int (nI (trig)), .int (gb (fl)), .int (nI (fm)), .long (lN ((payS lag trig fl num t (cw, cl, cm, cp)).1)), .long (lN ((payS lag trig fl num t (cw, cl, cm, cp)).2.1)), .int (nI ((payS lag trig fl num t (cw, cl, cm, cp)).2.2.1)), .long (lN ((payS lag trig fl num t (cw, cl, cm, cp)).2.2.2))]))) _ := g_trP (by rw [payS_t hs c_12 c_23]; rfl) hP
        have hD : gvD A (ws.set p_con (a_con, .inr (1, [.int (nI (fw)), .int (nI (lag)), .int (nI (trig)), .int (gb (fl)), .int (nI (fm)), .long (lN ((payS lag trig fl num t (cw, cl, cm, cp)).1)), .long (lN ((payS lag trig fl num t (cw, cl, cm, cp)).2.1)), .int (nI ((payS lag trig fl num t (cw, cl, cm, cp)).2.2.1)), .long (lN ((payS lag trig fl num t (cw, cl, cm, cp)).2.2.2))]))) := g_trD (by rw [payS_t hs c_12 c_23]; rfl) hD
        refine g_vret hx hb hr hlocks () dX0_pay_76 hS hP hD ?_
        exact trivial

theorem in_c_X1_isInSeason_RX1 : ∀ w ∈ wsX10, w ∈ wsX1_isInSeason := by decide +kernel
set_option maxHeartbeats 4000000 in
set_option maxRecDepth 100000 in
theorem c_X1_isInSeason (l : Launch) {D : va_G} {y : Nat → Nat} {ws : va_W} {x_it_0 : Value} {x_it_1 : Value} {p_it a_it : Nat} {sn t : Nat} (f0_it : ws[p_it]? = some (a_it, .inr (2, [x_it_0, x_it_1, .int (nI (sn))]))) (ht : t < 24) (hsn : sn < 4096) : gMi l yX1_isInSeason wsX1_isInSeason ({ frames := 0, cells := 0, slots := 0, locals := 0 }) D y [.ref a_it, .int (nI (t))] ws (fun r (_ : Unit) => r = gb (sn.testBit (t % 12))) (fun (_ : Unit) => ws) := by
  refine g_met_z (cc := cX1_isInSeason) (maxL := 2) (by decide) rfl (Nat.le_of_ble_eq_true rfl) ?_
  intro p e s m below meth c A hx hb hml hr hts hown hnm hlocks hE hP hD hS hA ls hl
  have hown : s.vm.findClass RX1 = some m.cls := hown
  have hl : lv_has ls 2 [(0, .ref a_it), (1, .int (nI (t)))] := hl
  have in_RX1 := in_c_X1_isInSeason_RX1
  refine lv_aload_n hx hb dX1_isInSeason_0 rfl (lv_at hl 0 rfl) ?_
  refine va_get (D := D) (ci := 2) (v := .int (nI (sn))) (C := RX1) (T := TX1) (N := 3) hx hb hts in_RX1 hown hE.1 (gv1 hP f0_it) 0 rfl rfl 2 (by decide) (hts (.fieldLink RX1 18 "BasketryOffice$Item" "season" "I") (by decide +kernel)) (fun _ h9 => h9) rfl dX1_isInSeason_1 ?_
  refine lv_iload_n hx hb dX1_isInSeason_4 rfl (lv_at hl 1 rfl) ?_
  refine lv_bipush (v := nI 12) hx hb dX1_isInSeason_5 (by decide) ?_
  refine g_irem hx hb dX1_isInSeason_7 (by decide) (pk_rem (by omega) (by decide) (by decide)) ?_
  refine g_ishr hx hb dX1_isInSeason_8 (pk_shrN (by omega) _ (t % 12) (g_sh12 _ (by omega))) ?_
  refine lv_iconst (v := nI 1) hx hb dX1_isInSeason_9 (by decide) ?_
  refine g_iand hx hb dX1_isInSeason_10 (pk_andN (by have := Nat.div_le_self sn (2 ^ (t % 12)); omega) 1 rfl) ?_
  refine lv_iconst (v := nI 1) hx hb dX1_isInSeason_11 (by decide) ?_
  refine g_icmp_ne (tgt := 19) hx hb (by omega) (by omega) dX1_isInSeason_12 (by decide) (fun c_12 => ?_) (fun c_12 => ?_)
  · refine lv_iconst (v := nI 0) hx hb dX1_isInSeason_19 (by decide) ?_
    refine g_zret (r := (gb (false))) hx hb hr hlocks () dX1_isInSeason_20 (gb_narrow _) hS hP hD ?_
    have h : sn.testBit (t % 12) = false := by rw [Nat.testBit_eq_decide_div_mod_eq]; exact decide_eq_false (by omega)
    rw [h]
  · refine lv_iconst (v := nI 1) hx hb dX1_isInSeason_15 (by decide) ?_
    refine lv_goto (tgt := 20) hx hb dX1_isInSeason_16 (by decide) ?_
    refine g_zret (r := (gb (true))) hx hb hr hlocks () dX1_isInSeason_20 (gb_narrow _) hS hP hD ?_
    have h : sn.testBit (t % 12) = true := by rw [Nat.testBit_eq_decide_div_mod_eq]; exact decide_eq_true (by omega)
    rw [h]

set_option maxHeartbeats 4000000 in
set_option maxRecDepth 100000 in
theorem c_X6_numberOf (l : Launch) {D : va_G} {y : Nat → Nat} {ws : va_W}  {xi : UInt64} (h1 : vf_n64 (FP.dmul xi 4621819117588971520)) (h2 : vf_n64 (FP.dadd (FP.dmul xi 4621819117588971520) 4602678819172646912)) : gMi l yX6_numberOf wsX6_numberOf ({ frames := 0, cells := 0, slots := 0, locals := 0 }) D y [.double xi] ws (fun r (_ : Unit) => r = sNum xi) (fun (_ : Unit) => ws) := by
  refine g_met_i (cc := cX6_numberOf) (maxL := 4) (by decide) rfl (Nat.le_of_ble_eq_true rfl) ?_
  intro p e s m below meth c A hx hb hml hr hts hown hnm hlocks hE hP hD hS hA ls hl
  have hown : s.vm.findClass RX6 = some m.cls := hown
  have hl : lv_has ls 4 [(0, .double xi)] := hl
  refine lv_dload_n hx hb dX6_numberOf_0 rfl (lv_at hl 0 rfl) ?_
  refine lv_ldc2d (v := 4621819117588971520) hx hb hown (hts (.constantDouble RX6 271 (4621819117588971520)) (by decide +kernel)) dX6_numberOf_1 ?_
  refine lv_dmul hx hb dX6_numberOf_4 (by assumption) ?_
  refine lv_ldc2d (v := 4602678819172646912) hx hb hown (hts (.constantDouble RX6 273 (4602678819172646912)) (by decide +kernel)) dX6_numberOf_5 ?_
  refine lv_dadd hx hb dX6_numberOf_8 (by assumption) ?_
  refine lv_dstore_n (lv' := [(2, .double (FP.dadd (FP.dmul xi 4621819117588971520) 4602678819172646912)), (0, .double xi)]) hx hb dX6_numberOf_9 rfl hl (by decide) rfl (fun ls hl => ?_)
  refine lv_dload_n hx hb dX6_numberOf_10 rfl (lv_at hl 0 rfl) ?_
  refine lv_ldc2d (v := 4746794007244308480) hx hb hown (hts (.constantDouble RX6 275 (4746794007244308480)) (by decide +kernel)) dX6_numberOf_11 ?_
  refine g_dcmpl_lt (tgt := 22) hx hb dX6_numberOf_14 dX6_numberOf_15 (by decide) (fun c_14 => ?_) (fun c_14 => ?_)
  · refine lv_dload_n hx hb dX6_numberOf_22 rfl (lv_at hl 0 rfl) ?_
    refine lv_dconst1 hx hb dX6_numberOf_23 ?_
    refine g_dcmpg_ge (tgt := 32) hx hb dX6_numberOf_24 dX6_numberOf_25 (by decide) (fun c_24 => ?_) (fun c_24 => ?_)
    · refine lv_dload_n hx hb dX6_numberOf_32 rfl (lv_at hl 0 rfl) ?_
      refine lv_d2i hx hb dX6_numberOf_33 ?_
      refine g_iret hx hb hr hlocks () dX6_numberOf_34 hS hP hD ?_
      rw [sNum, if_neg c_14, if_neg c_24]
    · refine lv_iconst (v := nI 1) hx hb dX6_numberOf_28 (by decide) ?_
      refine lv_goto (tgt := 34) hx hb dX6_numberOf_29 (by decide) ?_
      refine g_iret hx hb hr hlocks () dX6_numberOf_34 hS hP hD ?_
      rw [sNum, if_neg c_14, if_pos c_24]
  · refine lv_ldcw (v := 2147483647) hx hb hown (hts (.constant RX6 277 (2147483647)) (by decide +kernel)) dX6_numberOf_18 ?_
    rw [show (2147483647 : Int32) = nI 2147483647 from by decide]
    refine g_iret hx hb hr hlocks () dX6_numberOf_21 hS hP hD ?_
    rw [sNum, if_pos c_14]

theorem in_c_X2_putFix_RX2 : ∀ w ∈ wsX20, w ∈ wsX2_putFix := by decide +kernel
set_option maxHeartbeats 4000000 in
set_option maxRecDepth 100000 in
theorem c_X2_putFix (l : Launch) {D : va_G} {y : Nat → Nat} {ws : va_W} {x_led_0 : Value} {x_led_1 : Value} {x_led_2 : Value} {x_led_3 : Value} {x_led_6 : Value} {x_led_7 : Value} {x_led_8 : Value} {p_led p_cc p_fx a_led a_cc a_fx : Nat} {cc : Nat → Nat} {fx : Nat → Bool} {k ce fq : Nat} (f0_led : ws[p_led]? = some (a_led, .inr (3, [x_led_0, x_led_1, x_led_2, x_led_3, .ref a_cc, .ref a_fx, x_led_6, x_led_7, x_led_8, .int (nI (fq))]))) (f0_cc : ws[p_cc]? = some (a_cc, eN y 1152 cc)) (f0_fx : ws[p_fx]? = some (a_fx, eZ y 1152 fx)) (b_cc : ∀ k, cc k ≤ 100000) (hk : k < 1152) (hdis : p_cc ≠ p_fx) : gMi l yX2_putFix wsX2_putFix ({ frames := 0, cells := 0, slots := 0, locals := 0 }) D y [.ref a_led, .int (nI (k)), .int (nI (ce))] ws (fun r (_ : Unit) => r = nI (cc k)) (fun (_ : Unit) => (((ws.set p_led (a_led, .inr (3, [x_led_0, x_led_1, x_led_2, x_led_3, .ref a_cc, .ref a_fx, x_led_6, x_led_7, x_led_8, .int (nI ((if fx k = true then fq else fq + 1)))]))).set p_fx (a_fx, eZ y 1152 (vf_upd fx k true))).set p_cc (a_cc, eN y 1152 (vf_upd cc k ce)))) := by
  refine g_met_i (cc := cX2_putFix) (maxL := 4) (by decide) rfl (Nat.le_of_ble_eq_true rfl) ?_
  intro p e s m below meth c A hx hb hml hr hts hown hnm hlocks hE hP hD hS hA ls hl
  have hown : s.vm.findClass RX2 = some m.cls := hown
  have hl : lv_has ls 4 [(0, .ref a_led), (1, .int (nI (k))), (2, .int (nI (ce)))] := hl
  have in_RX2 := in_c_X2_putFix_RX2
  refine lv_aload_n hx hb dX2_putFix_0 rfl (lv_at hl 0 rfl) ?_
  refine va_get (D := D) (ci := 3) (v := .ref a_cc) (C := RX2) (T := TX2) (N := 10) hx hb hts in_RX2 hown hE.1 (gv1 hP f0_led) 0 rfl rfl 4 (by decide) (hts (.fieldLink RX2 29 "BasketryOffice$Ledger" "correctedCents" "[I") (by decide +kernel)) (fun _ h9 => h9) rfl dX2_putFix_1 ?_
  refine lv_iload_n hx hb dX2_putFix_4 rfl (lv_at hl 1 rfl) ?_
  refine g_nald hx hb hE hP _ f0_cc (by omega) (by decide) dX2_putFix_5 ?_
  have bd_5_1 := b_cc (k)
  refine lv_istore_n (lv' := [(3, .int (nI (cc k))), (0, .ref a_led), (1, .int (nI (k))), (2, .int (nI (ce)))]) hx hb dX2_putFix_6 rfl hl (by decide) rfl (fun ls hl => ?_)
  refine lv_aload_n hx hb dX2_putFix_7 rfl (lv_at hl 1 rfl) ?_
  refine va_get (D := D) (ci := 3) (v := .ref a_fx) (C := RX2) (T := TX2) (N := 10) hx hb hts in_RX2 hown hE.1 (gv1 hP f0_led) 0 rfl rfl 5 (by decide) (hts (.fieldLink RX2 32 "BasketryOffice$Ledger" "fixed" "[Z") (by decide +kernel)) (fun _ h9 => h9) rfl dX2_putFix_8 ?_
  refine lv_iload_n hx hb dX2_putFix_11 rfl (lv_at hl 2 rfl) ?_
  refine g_zald hx hb hE hP _ f0_fx (by omega) (by decide) dX2_putFix_12 ?_
  refine g_bif_ne (tgt := 26) hx hb dX2_putFix_13 (by decide) (fun c_13 => ?_) (fun c_13 => ?_)
  · refine lv_aload_n hx hb dX2_putFix_26 rfl (lv_at hl 1 rfl) ?_
    refine va_get (D := D) (ci := 3) (v := .ref a_fx) (C := RX2) (T := TX2) (N := 10) hx hb hts in_RX2 hown hE.1 (gv1 hP f0_led) 0 rfl rfl 5 (by decide) (hts (.fieldLink RX2 32 "BasketryOffice$Ledger" "fixed" "[Z") (by decide +kernel)) (fun _ h9 => h9) rfl dX2_putFix_27 ?_
    refine lv_iload_n hx hb dX2_putFix_30 rfl (lv_at hl 2 rfl) ?_
    refine lv_iconst (v := nI 1) hx hb dX2_putFix_31 (by decide) ?_
    refine g_zast (x := true) hx hb hE hP hD hS _ f0_fx (by omega) (by decide) dX2_putFix_32 (fun H locs hP hD hS => ?_)
    have f_led := g_ne (x := (a_fx, eZ y 1152 (vf_upd fx (k) (true)))) (g_kne f0_fx f0_led (Nat.ne_of_beq_eq_false rfl)) (f0_led)
    have f_cc := g_ne (x := (a_fx, eZ y 1152 (vf_upd fx (k) (true)))) (Ne.symm hdis) (f0_cc)
    have f_fx := g_eq (x := (a_fx, eZ y 1152 (vf_upd fx (k) (true)))) (f0_fx)
    refine lv_aload_n hx hb dX2_putFix_33 rfl (lv_at hl 1 rfl) ?_
    refine va_get (D := D) (ci := 3) (v := .ref a_cc) (C := RX2) (T := TX2) (N := 10) hx hb hts in_RX2 hown hE.1 (gv1 hP f_led) 0 rfl rfl 4 (by decide) (hts (.fieldLink RX2 29 "BasketryOffice$Ledger" "correctedCents" "[I") (by decide +kernel)) (fun _ h9 => h9) rfl dX2_putFix_34 ?_
    refine lv_iload_n hx hb dX2_putFix_37 rfl (lv_at hl 2 rfl) ?_
    refine lv_iload_n hx hb dX2_putFix_38 rfl (lv_at hl 3 rfl) ?_
    refine g_nast hx hb hE hP hD hS _ f_cc (by omega) (by decide) dX2_putFix_39 (fun H locs hP hD hS => ?_)
    have f_led := g_ne (x := (a_cc, eN y 1152 (vf_upd cc (k) (ce)))) (g_kne f0_cc f0_led (Nat.ne_of_beq_eq_false rfl)) (g_ne (x := (a_fx, eZ y 1152 (vf_upd fx (k) (true)))) (g_kne f0_fx f0_led (Nat.ne_of_beq_eq_false rfl)) (f0_led))
    have f_cc := g_eq (x := (a_cc, eN y 1152 (vf_upd cc (k) (ce)))) (g_ne (x := (a_fx, eZ y 1152 (vf_upd fx (k) (true)))) (Ne.symm hdis) (f0_cc))
    have f_fx := g_ne (x := (a_cc, eN y 1152 (vf_upd cc (k) (ce)))) hdis (g_eq (x := (a_fx, eZ y 1152 (vf_upd fx (k) (true)))) (f0_fx))
    refine lv_iload_n hx hb dX2_putFix_40 rfl (lv_at hl 0 rfl) ?_
    have hP : gvP D vwCl (((ws.set p_led (a_led, .inr (3, [x_led_0, x_led_1, x_led_2, x_led_3, .ref a_cc, .ref a_fx, x_led_6, x_led_7, x_led_8, .int (nI ((if fx k = true then fq else fq + 1)))]))).set p_fx (a_fx, eZ y 1152 (vf_upd fx k true))).set p_cc (a_cc, eN y 1152 (vf_upd cc k ce))) _ := g_trP (by rw [if_pos c_13, ← g_same f0_led]) hP
    have hD : gvD A (((ws.set p_led (a_led, .inr (3, [x_led_0, x_led_1, x_led_2, x_led_3, .ref a_cc, .ref a_fx, x_led_6, x_led_7, x_led_8, .int (nI ((if fx k = true then fq else fq + 1)))]))).set p_fx (a_fx, eZ y 1152 (vf_upd fx k true))).set p_cc (a_cc, eN y 1152 (vf_upd cc k ce))) := g_trD (by rw [if_pos c_13, ← g_same f0_led]) hD
    refine g_iret hx hb hr hlocks () dX2_putFix_41 hS hP hD ?_
    exact rfl
  · refine lv_aload_n hx hb dX2_putFix_16 rfl (lv_at hl 1 rfl) ?_
    refine lv_dup hx hb dX2_putFix_17 rfl ?_
    refine va_get (D := D) (ci := 3) (v := .int (nI (fq))) (C := RX2) (T := TX2) (N := 10) hx hb hts in_RX2 hown hE.1 (gv1 hP f0_led) 0 rfl rfl 9 (by decide) (hts (.fieldLink RX2 45 "BasketryOffice$Ledger" "fixedQuotes" "I") (by decide +kernel)) (fun _ h9 => h9) rfl dX2_putFix_18 ?_
    refine lv_iconst (v := nI 1) hx hb dX2_putFix_21 (by decide) ?_
    refine g_iadd hx hb dX2_putFix_22 (nI_add _ _) ?_
    refine gv_set f0_led rfl (by rfl) (fun k9 h9 kk9 => va_put (D := D) (ci := 3) (v := .int (nI (fq + 1))) (ty := .int) (C := RX2) (T := TX2) (N := 10) hx hb hts in_RX2 tyX2 tyX2_ok nmX2 hown hE.1 hP hD hS k9 h9 rfl 9 (by decide) (hts (.fieldLink RX2 45 "BasketryOffice$Ledger" "fixedQuotes" "I") (by decide +kernel)) (fun _ h9 => h9) rfl (by decide +kernel) rfl rfl (Nat.le_of_ble_eq_true rfl) dX2_putFix_23 kk9) (fun H locs hP hD hS => ?_)
    have f_led := g_eq (x := (a_led, .inr (3, [x_led_0, x_led_1, x_led_2, x_led_3, .ref a_cc, .ref a_fx, x_led_6, x_led_7, x_led_8, .int (nI (fq + 1))]))) (f0_led)
    have f_cc := g_ne (x := (a_led, .inr (3, [x_led_0, x_led_1, x_led_2, x_led_3, .ref a_cc, .ref a_fx, x_led_6, x_led_7, x_led_8, .int (nI (fq + 1))]))) (g_kne f0_led f0_cc (Nat.ne_of_beq_eq_false rfl)) (f0_cc)
    have f_fx := g_ne (x := (a_led, .inr (3, [x_led_0, x_led_1, x_led_2, x_led_3, .ref a_cc, .ref a_fx, x_led_6, x_led_7, x_led_8, .int (nI (fq + 1))]))) (g_kne f0_led f0_fx (Nat.ne_of_beq_eq_false rfl)) (f0_fx)
    refine lv_aload_n hx hb dX2_putFix_26 rfl (lv_at hl 1 rfl) ?_
    refine va_get (D := D) (ci := 3) (v := .ref a_fx) (C := RX2) (T := TX2) (N := 10) hx hb hts in_RX2 hown hE.1 (gv1 hP f_led) 0 rfl rfl 5 (by decide) (hts (.fieldLink RX2 32 "BasketryOffice$Ledger" "fixed" "[Z") (by decide +kernel)) (fun _ h9 => h9) rfl dX2_putFix_27 ?_
    refine lv_iload_n hx hb dX2_putFix_30 rfl (lv_at hl 2 rfl) ?_
    refine lv_iconst (v := nI 1) hx hb dX2_putFix_31 (by decide) ?_
    refine g_zast (x := true) hx hb hE hP hD hS _ f_fx (by omega) (by decide) dX2_putFix_32 (fun H locs hP hD hS => ?_)
    have f_led := g_ne (x := (a_fx, eZ y 1152 (vf_upd fx (k) (true)))) (g_kne f0_fx f0_led (Nat.ne_of_beq_eq_false rfl)) (g_eq (x := (a_led, .inr (3, [x_led_0, x_led_1, x_led_2, x_led_3, .ref a_cc, .ref a_fx, x_led_6, x_led_7, x_led_8, .int (nI (fq + 1))]))) (f0_led))
    have f_cc := g_ne (x := (a_fx, eZ y 1152 (vf_upd fx (k) (true)))) (Ne.symm hdis) (g_ne (x := (a_led, .inr (3, [x_led_0, x_led_1, x_led_2, x_led_3, .ref a_cc, .ref a_fx, x_led_6, x_led_7, x_led_8, .int (nI (fq + 1))]))) (g_kne f0_led f0_cc (Nat.ne_of_beq_eq_false rfl)) (f0_cc))
    have f_fx := g_eq (x := (a_fx, eZ y 1152 (vf_upd fx (k) (true)))) (g_ne (x := (a_led, .inr (3, [x_led_0, x_led_1, x_led_2, x_led_3, .ref a_cc, .ref a_fx, x_led_6, x_led_7, x_led_8, .int (nI (fq + 1))]))) (g_kne f0_led f0_fx (Nat.ne_of_beq_eq_false rfl)) (f0_fx))
    refine lv_aload_n hx hb dX2_putFix_33 rfl (lv_at hl 1 rfl) ?_
    refine va_get (D := D) (ci := 3) (v := .ref a_cc) (C := RX2) (T := TX2) (N := 10) hx hb hts in_RX2 hown hE.1 (gv1 hP f_led) 0 rfl rfl 4 (by decide) (hts (.fieldLink RX2 29 "BasketryOffice$Ledger" "correctedCents" "[I") (by decide +kernel)) (fun _ h9 => h9) rfl dX2_putFix_34 ?_
    refine lv_iload_n hx hb dX2_putFix_37 rfl (lv_at hl 2 rfl) ?_
    refine lv_iload_n hx hb dX2_putFix_38 rfl (lv_at hl 3 rfl) ?_
    refine g_nast hx hb hE hP hD hS _ f_cc (by omega) (by decide) dX2_putFix_39 (fun H locs hP hD hS => ?_)
    have f_led := g_ne (x := (a_cc, eN y 1152 (vf_upd cc (k) (ce)))) (g_kne f0_cc f0_led (Nat.ne_of_beq_eq_false rfl)) (g_ne (x := (a_fx, eZ y 1152 (vf_upd fx (k) (true)))) (g_kne f0_fx f0_led (Nat.ne_of_beq_eq_false rfl)) (g_eq (x := (a_led, .inr (3, [x_led_0, x_led_1, x_led_2, x_led_3, .ref a_cc, .ref a_fx, x_led_6, x_led_7, x_led_8, .int (nI (fq + 1))]))) (f0_led)))
    have f_cc := g_eq (x := (a_cc, eN y 1152 (vf_upd cc (k) (ce)))) (g_ne (x := (a_fx, eZ y 1152 (vf_upd fx (k) (true)))) (Ne.symm hdis) (g_ne (x := (a_led, .inr (3, [x_led_0, x_led_1, x_led_2, x_led_3, .ref a_cc, .ref a_fx, x_led_6, x_led_7, x_led_8, .int (nI (fq + 1))]))) (g_kne f0_led f0_cc (Nat.ne_of_beq_eq_false rfl)) (f0_cc)))
    have f_fx := g_ne (x := (a_cc, eN y 1152 (vf_upd cc (k) (ce)))) hdis (g_eq (x := (a_fx, eZ y 1152 (vf_upd fx (k) (true)))) (g_ne (x := (a_led, .inr (3, [x_led_0, x_led_1, x_led_2, x_led_3, .ref a_cc, .ref a_fx, x_led_6, x_led_7, x_led_8, .int (nI (fq + 1))]))) (g_kne f0_led f0_fx (Nat.ne_of_beq_eq_false rfl)) (f0_fx)))
    refine lv_iload_n hx hb dX2_putFix_40 rfl (lv_at hl 0 rfl) ?_
    have hP : gvP D vwCl (((ws.set p_led (a_led, .inr (3, [x_led_0, x_led_1, x_led_2, x_led_3, .ref a_cc, .ref a_fx, x_led_6, x_led_7, x_led_8, .int (nI ((if fx k = true then fq else fq + 1)))]))).set p_fx (a_fx, eZ y 1152 (vf_upd fx k true))).set p_cc (a_cc, eN y 1152 (vf_upd cc k ce))) _ := g_trP (by rw [if_neg (by rw [c_13]; decide)]; rfl) hP
    have hD : gvD A (((ws.set p_led (a_led, .inr (3, [x_led_0, x_led_1, x_led_2, x_led_3, .ref a_cc, .ref a_fx, x_led_6, x_led_7, x_led_8, .int (nI ((if fx k = true then fq else fq + 1)))]))).set p_fx (a_fx, eZ y 1152 (vf_upd fx k true))).set p_cc (a_cc, eN y 1152 (vf_upd cc k ce))) := g_trD (by rw [if_neg (by rw [c_13]; decide)]; rfl) hD
    refine g_iret hx hb hr hlocks () dX2_putFix_41 hS hP hD ?_
    exact rfl
