theorem in_x0_X7_direct_RX7 : ∀ w ∈ wsX70, w ∈ wsX7_direct := by decide +kernel
set_option maxHeartbeats 4000000 in
set_option maxRecDepth 100000 in
theorem x0_X7_direct (l : Launch) {D : va_G} {y : Nat → Nat} {ws : va_W} {x_mod_2 : Value} {x_mod_3 : Value} {x_mod_4 : Value} {x_mod_6 : Value} {x_mod_7 : Value} {x_mod_8 : Value} {x_mod_9 : Value} {x_mod_10 : Value} {x_mod_11 : Value} {x_mod_12 : Value} {x_mod_13 : Value} {x_mod_14 : Value} {x_mod_15 : Value} {x_mod_16 : Value} {x_mod_17 : Value} {x_mod_18 : Value} {x_mod_19 : Value} {x_mod_20 : Value} {x_mod_21 : Value} {x_mod_22 : Value} {x_mod_23 : Value} {x_mod_24 : Value} {x_mod_25 : Value} {x_mod_26 : Value} {x_mod_27 : Value} {x_mod_28 : Value} {x_mod_29 : Value} {x_mod_30 : Value} {x_mod_31 : Value} {x_mod_32 : Value} {p_mod a_mod : Nat} {t : Int32} {nw n th : Nat} (f0_mod : ws[p_mod]? = some (a_mod, .inr (8, [.int (nI (th)), .int (nI (n)), x_mod_2, x_mod_3, x_mod_4, .int (nI (nw)), x_mod_6, x_mod_7, x_mod_8, x_mod_9, x_mod_10, x_mod_11, x_mod_12, x_mod_13, x_mod_14, x_mod_15, x_mod_16, x_mod_17, x_mod_18, x_mod_19, x_mod_20, x_mod_21, x_mod_22, x_mod_23, x_mod_24, x_mod_25, x_mod_26, x_mod_27, x_mod_28, x_mod_29, x_mod_30, x_mod_31, x_mod_32]))) (hw : nw ≤ 24) (hn : n ≤ 12)  (hbad : t < 0 ∨ nI nw ≤ t) : gMd l yX7_direct wsX7_direct ({ frames := 2, cells := 0, slots := 0, locals := 43 }) D y [.ref a_mod, .int (t)] ws (fun r (_ : Unit) => r = 0) (fun (_ : Unit) => (ws.set p_mod (a_mod, .inr (8, [.int (nI (1)), .int (nI (n)), x_mod_2, x_mod_3, x_mod_4, .int (nI (nw)), x_mod_6, x_mod_7, x_mod_8, x_mod_9, x_mod_10, x_mod_11, x_mod_12, x_mod_13, x_mod_14, x_mod_15, x_mod_16, x_mod_17, x_mod_18, x_mod_19, x_mod_20, x_mod_21, x_mod_22, x_mod_23, x_mod_24, x_mod_25, x_mod_26, x_mod_27, x_mod_28, x_mod_29, x_mod_30, x_mod_31, x_mod_32])))) := by
  refine g_met_d (cc := cX7_direct) (maxL := 8) (by decide) rfl (Nat.le_of_ble_eq_true rfl) ?_
  intro p e s m below meth c A hx hb hml hr hts hown hnm hlocks hE hP hD hS hA ls hl
  have hown : s.vm.findClass RX7 = some m.cls := hown
  have hl : lv_has ls 8 [(0, .ref a_mod), (1, .int (t))] := hl
  have in_RX7 := in_x0_X7_direct_RX7
  refine lv_aload_n hx hb dX7_direct_0 rfl (lv_at hl 0 rfl) ?_
  refine lv_aload_n hx hb dX7_direct_1 rfl (lv_at hl 0 rfl) ?_
  refine lv_iload_n hx hb dX7_direct_2 rfl (lv_at hl 1 rfl) ?_
  refine gc_V_i (As := [.int (t)]) (rest := [.ref a_mod]) (c_X7_isPublished l f0_mod (by omega)) ⟨hx, hb, hml, hown, hts⟩ (cwV 1 hts gX7_direct_X7_isPublished rfl rfl rfl (by decide +kernel) ⟨Nat.le_of_ble_eq_true rfl, Nat.le_of_ble_eq_true rfl⟩) hE hP hD hS hA _ f0_mod rfl rfl rfl rfl hl.1 (Nat.le_of_ble_eq_true rfl) dX7_direct_3 ⟨Nat.le_of_ble_eq_true rfl, Nat.le_of_ble_eq_true rfl⟩ (fun r_3 u_3 H locs hP hD hS q_3 => ?_)
  subst q_3
  refine g_bif_eq (tgt := 13) hx hb dX7_direct_6 (by decide) (fun c_6 => ?_) (fun c_6 => absurd c_6 (by rw [decide_eq_false (fun z => z hbad)]; decide))
  refine lv_iconst (v := nI 1) hx hb dX7_direct_13 (by decide) ?_
  refine va_put (D := D) (ci := 8) (v := .int (nI (1))) (ty := .int) (C := RX7) (T := TX7) (N := 33) hx hb hts in_RX7 tyX7 tyX7_ok nmX7 hown hE.1 hP hD hS _ f0_mod rfl 0 (by decide) (hts (.fieldLink RX7 94 "BasketryOfficeModel" "thrown" "I") (by decide +kernel)) (fun _ h9 => h9) rfl (by decide +kernel) rfl rfl (Nat.le_of_ble_eq_true rfl) dX7_direct_14 (fun H locs hP hD hS => ?_)
  refine lv_aload_n hx hb dX7_direct_17 rfl (lv_at hl 0 rfl) ?_
  have f_mod := g_eq (x := (a_mod, .inr (8, [.int (nI (1)), .int (nI (n)), x_mod_2, x_mod_3, x_mod_4, .int (nI (nw)), x_mod_6, x_mod_7, x_mod_8, x_mod_9, x_mod_10, x_mod_11, x_mod_12, x_mod_13, x_mod_14, x_mod_15, x_mod_16, x_mod_17, x_mod_18, x_mod_19, x_mod_20, x_mod_21, x_mod_22, x_mod_23, x_mod_24, x_mod_25, x_mod_26, x_mod_27, x_mod_28, x_mod_29, x_mod_30, x_mod_31, x_mod_32]))) (f0_mod)
  refine va_get (D := D) (ci := 8) (v := .int (nI (1))) (C := RX7) (T := TX7) (N := 33) hx hb hts in_RX7 hown hE.1 hP _ f_mod rfl 0 (by decide) (hts (.fieldLink RX7 94 "BasketryOfficeModel" "thrown" "I") (by decide +kernel)) (fun _ h9 => h9) rfl dX7_direct_18 ?_
  refine g_if_le (tgt := 26) hx hb (by omega) dX7_direct_21 (by decide) (fun c_21 => absurd c_21 (by omega)) (fun c_21 => ?_)
  refine g_dconst0 hx hb dX7_direct_24 ?_
  refine g_dret hx hb hr hlocks () dX7_direct_25 hS hP hD ?_
  exact rfl

theorem in_c_X7_direct_RX7 : ∀ w ∈ wsX70, w ∈ wsX7_direct := by decide +kernel
set_option maxHeartbeats 4000000 in
set_option maxRecDepth 100000 in
theorem c_X7_direct (l : Launch) {D : va_G} {y : Nat → Nat} {ws : va_W} {x_mod_2 : Value} {x_mod_3 : Value} {x_mod_4 : Value} {x_mod_6 : Value} {x_mod_7 : Value} {x_mod_8 : Value} {x_mod_9 : Value} {x_mod_10 : Value} {x_mod_11 : Value} {x_mod_12 : Value} {x_mod_13 : Value} {x_mod_14 : Value} {x_mod_15 : Value} {x_mod_17 : Value} {x_mod_18 : Value} {x_mod_19 : Value} {x_mod_21 : Value} {x_mod_22 : Value} {x_mod_23 : Value} {x_mod_24 : Value} {x_mod_25 : Value} {x_mod_26 : Value} {x_mod_27 : Value} {x_mod_28 : Value} {x_mod_29 : Value} {x_mod_30 : Value} {x_mod_31 : Value} {x_mod_32 : Value} {p_mod p_mog p_msp a_mod a_mog a_msp : Nat} {mog : Nat → UInt64} {msp : Nat → Nat} {t : Nat} {nw n th : Nat} {shr : Nat → UInt64} (f0_mod : ws[p_mod]? = some (a_mod, .inr (8, [.int (nI (th)), .int (nI (n)), x_mod_2, x_mod_3, x_mod_4, .int (nI (nw)), x_mod_6, x_mod_7, x_mod_8, x_mod_9, x_mod_10, x_mod_11, x_mod_12, x_mod_13, x_mod_14, x_mod_15, .ref a_msp, x_mod_17, x_mod_18, x_mod_19, .ref a_mog, x_mod_21, x_mod_22, x_mod_23, x_mod_24, x_mod_25, x_mod_26, x_mod_27, x_mod_28, x_mod_29, x_mod_30, x_mod_31, x_mod_32]))) (f0_mog : ws[p_mog]? = some (a_mog, eD y 192 mog)) (f0_msp : ws[p_msp]? = some (a_msp, eN y 288 msp)) (b_msp : ∀ k, msp k ≤ 1000000000) (hw : nw ≤ 24) (hn : n ≤ 12) (ht : t < nw) (hsh : ∀ g, g < 4 → nnShM (fun k => msp (12 * t + k)) g) (hshr : ∀ g, g < 4 → mShr (fun k => msp (12 * t + k)) 0 g = shr ((t * 5 + 0) * 4 + g)) (hnn : nnDirect shr mog t) : gMd l yX7_direct wsX7_direct ({ frames := 2, cells := 0, slots := 0, locals := 43 }) D y [.ref a_mod, .int (nI (t))] ws (fun r (_ : Unit) => r = sDirect shr mog t) (fun (_ : Unit) => (ws.set p_mod (a_mod, .inr (8, [.int (nI (0)), .int (nI (n)), x_mod_2, x_mod_3, x_mod_4, .int (nI (nw)), x_mod_6, x_mod_7, x_mod_8, x_mod_9, x_mod_10, x_mod_11, x_mod_12, x_mod_13, x_mod_14, x_mod_15, .ref a_msp, x_mod_17, x_mod_18, x_mod_19, .ref a_mog, x_mod_21, x_mod_22, x_mod_23, x_mod_24, x_mod_25, x_mod_26, x_mod_27, x_mod_28, x_mod_29, x_mod_30, x_mod_31, x_mod_32])))) := by
  refine g_met_d (cc := cX7_direct) (maxL := 8) (by decide) rfl (Nat.le_of_ble_eq_true rfl) ?_
  intro p e s m below meth c A hx hb hml hr hts hown hnm hlocks hE hP hD hS hA ls hl
  have hown : s.vm.findClass RX7 = some m.cls := hown
  have hl : lv_has ls 8 [(0, .ref a_mod), (1, .int (nI (t)))] := hl
  have in_RX7 := in_c_X7_direct_RX7
  refine lv_aload_n hx hb dX7_direct_0 rfl (lv_at hl 0 rfl) ?_
  refine lv_aload_n hx hb dX7_direct_1 rfl (lv_at hl 0 rfl) ?_
  refine lv_iload_n hx hb dX7_direct_2 rfl (lv_at hl 1 rfl) ?_
  refine gc_V_i (As := [.int (nI (t))]) (rest := [.ref a_mod]) (c_X7_isPublished l f0_mod (by omega)) ⟨hx, hb, hml, hown, hts⟩ (cwV 1 hts gX7_direct_X7_isPublished rfl rfl rfl (by decide +kernel) ⟨Nat.le_of_ble_eq_true rfl, Nat.le_of_ble_eq_true rfl⟩) hE hP hD hS hA _ f0_mod rfl rfl rfl rfl hl.1 (Nat.le_of_ble_eq_true rfl) dX7_direct_3 ⟨Nat.le_of_ble_eq_true rfl, Nat.le_of_ble_eq_true rfl⟩ (fun r_3 u_3 H locs hP hD hS q_3 => ?_)
  subst q_3
  refine g_bif_eq (tgt := 13) hx hb dX7_direct_6 (by decide) (fun c_6 => absurd c_6 (by rw [decide_eq_true (rq_lt ht (by omega))]; decide)) (fun c_6 => ?_)
  refine lv_iconst (v := nI 0) hx hb dX7_direct_9 (by decide) ?_
  refine lv_goto (tgt := 14) hx hb dX7_direct_10 (by decide) ?_
  refine va_put (D := D) (ci := 8) (v := .int (nI (0))) (ty := .int) (C := RX7) (T := TX7) (N := 33) hx hb hts in_RX7 tyX7 tyX7_ok nmX7 hown hE.1 hP hD hS _ f0_mod rfl 0 (by decide) (hts (.fieldLink RX7 94 "BasketryOfficeModel" "thrown" "I") (by decide +kernel)) (fun _ h9 => h9) rfl (by decide +kernel) rfl rfl (Nat.le_of_ble_eq_true rfl) dX7_direct_14 (fun H locs hP hD hS => ?_)
  refine lv_aload_n hx hb dX7_direct_17 rfl (lv_at hl 0 rfl) ?_
  have f_mod := g_eq (x := (a_mod, .inr (8, [.int (nI (0)), .int (nI (n)), x_mod_2, x_mod_3, x_mod_4, .int (nI (nw)), x_mod_6, x_mod_7, x_mod_8, x_mod_9, x_mod_10, x_mod_11, x_mod_12, x_mod_13, x_mod_14, x_mod_15, .ref a_msp, x_mod_17, x_mod_18, x_mod_19, .ref a_mog, x_mod_21, x_mod_22, x_mod_23, x_mod_24, x_mod_25, x_mod_26, x_mod_27, x_mod_28, x_mod_29, x_mod_30, x_mod_31, x_mod_32]))) (f0_mod)
  refine va_get (D := D) (ci := 8) (v := .int (nI (0))) (C := RX7) (T := TX7) (N := 33) hx hb hts in_RX7 hown hE.1 hP _ f_mod rfl 0 (by decide) (hts (.fieldLink RX7 94 "BasketryOfficeModel" "thrown" "I") (by decide +kernel)) (fun _ h9 => h9) rfl dX7_direct_18 ?_
  refine g_if_le (tgt := 26) hx hb (by omega) dX7_direct_21 (by decide) (fun c_21 => ?_) (fun c_21 => absurd c_21 (by omega))
  refine g_dconst0 hx hb dX7_direct_26 ?_
  refine lv_dstore_n (lv' := [(2, .double 0), (0, .ref a_mod), (1, .int (nI (t)))]) hx hb dX7_direct_27 rfl hl (by decide) rfl (fun ls hl => ?_)
  refine lv_iconst (v := nI 0) hx hb dX7_direct_28 (by decide) ?_
  refine lv_istore (lv' := [(4, .int (nI (0))), (2, .double 0), (0, .ref a_mod), (1, .int (nI (t)))]) hx hb dX7_direct_29 hl (by decide) rfl (fun ls hl => ?_)
  have hP : va_P D vwCl (ws.set p_mod (a_mod, .inr (8, [.int (nI (0)), .int (nI (n)), x_mod_2, x_mod_3, x_mod_4, .int (nI (nw)), x_mod_6, x_mod_7, x_mod_8, x_mod_9, x_mod_10, x_mod_11, x_mod_12, x_mod_13, x_mod_14, x_mod_15, .ref a_msp, x_mod_17, x_mod_18, x_mod_19, .ref a_mog, x_mod_21, x_mod_22, x_mod_23, x_mod_24, x_mod_25, x_mod_26, x_mod_27, x_mod_28, x_mod_29, x_mod_30, x_mod_31, x_mod_32]))) _ := g_trP (rfl) hP
  have hD : va_D A (ws.set p_mod (a_mod, .inr (8, [.int (nI (0)), .int (nI (n)), x_mod_2, x_mod_3, x_mod_4, .int (nI (nw)), x_mod_6, x_mod_7, x_mod_8, x_mod_9, x_mod_10, x_mod_11, x_mod_12, x_mod_13, x_mod_14, x_mod_15, .ref a_msp, x_mod_17, x_mod_18, x_mod_19, .ref a_mog, x_mod_21, x_mod_22, x_mod_23, x_mod_24, x_mod_25, x_mod_26, x_mod_27, x_mod_28, x_mod_29, x_mod_30, x_mod_31, x_mod_32]))) := g_trD (rfl) hD
  refine g_for (fun g => (ws.set p_mod (a_mod, .inr (8, [.int (nI (0)), .int (nI (n)), x_mod_2, x_mod_3, x_mod_4, .int (nI (nw)), x_mod_6, x_mod_7, x_mod_8, x_mod_9, x_mod_10, x_mod_11, x_mod_12, x_mod_13, x_mod_14, x_mod_15, .ref a_msp, x_mod_17, x_mod_18, x_mod_19, .ref a_mog, x_mod_21, x_mod_22, x_mod_23, x_mod_24, x_mod_25, x_mod_26, x_mod_27, x_mod_28, x_mod_29, x_mod_30, x_mod_31, x_mod_32])))) (fun g => [(0, .ref a_mod), (1, .int (nI (t))), (2, .double (drF shr mog t (g))), (4, .int (nI (g)))]) (4) (0) (by omega) ?_ ?_ hP hD hS (lv_sub hl [2, 3, 1, 0] rfl)
  · intro H locs ls hP hD hS hl
    have hP : va_P D vwCl (ws.set p_mod (a_mod, .inr (8, [.int (nI (0)), .int (nI (n)), x_mod_2, x_mod_3, x_mod_4, .int (nI (nw)), x_mod_6, x_mod_7, x_mod_8, x_mod_9, x_mod_10, x_mod_11, x_mod_12, x_mod_13, x_mod_14, x_mod_15, .ref a_msp, x_mod_17, x_mod_18, x_mod_19, .ref a_mog, x_mod_21, x_mod_22, x_mod_23, x_mod_24, x_mod_25, x_mod_26, x_mod_27, x_mod_28, x_mod_29, x_mod_30, x_mod_31, x_mod_32]))) H := hP
    have hD : va_D A (ws.set p_mod (a_mod, .inr (8, [.int (nI (0)), .int (nI (n)), x_mod_2, x_mod_3, x_mod_4, .int (nI (nw)), x_mod_6, x_mod_7, x_mod_8, x_mod_9, x_mod_10, x_mod_11, x_mod_12, x_mod_13, x_mod_14, x_mod_15, .ref a_msp, x_mod_17, x_mod_18, x_mod_19, .ref a_mog, x_mod_21, x_mod_22, x_mod_23, x_mod_24, x_mod_25, x_mod_26, x_mod_27, x_mod_28, x_mod_29, x_mod_30, x_mod_31, x_mod_32]))) := hD
    have hl : lv_has ls 8 [(0, .ref a_mod), (1, .int (nI (t))), (2, .double (drF shr mog t (4))), (4, .int (nI (4)))] := hl
    refine lv_iload hx hb dX7_direct_31 (lv_at hl 3 rfl) ?_
    refine lv_iconst (v := nI 4) hx hb dX7_direct_33 (by decide) ?_
    refine g_icmp_ge (tgt := 92) hx hb (by omega) (by omega) dX7_direct_34 (by decide) (fun c_34 => ?_) (fun c_34 => absurd c_34 (by omega))
    refine lv_ldc2d (v := 4636737291354636288) hx hb hown (hts (.constantDouble RX7 157 (4636737291354636288)) (by decide +kernel)) dX7_direct_92 ?_
    refine lv_dload_n hx hb dX7_direct_95 rfl (lv_at hl 2 rfl) ?_
    refine lv_dmul hx hb dX7_direct_96 hnn.2.2 ?_
    refine g_dret hx hb hr hlocks () dX7_direct_97 hS hP hD ?_
    exact rfl
  · intro g hj_g ih_g H locs ls hP hD hS hl
    have hP : va_P D vwCl (ws.set p_mod (a_mod, .inr (8, [.int (nI (0)), .int (nI (n)), x_mod_2, x_mod_3, x_mod_4, .int (nI (nw)), x_mod_6, x_mod_7, x_mod_8, x_mod_9, x_mod_10, x_mod_11, x_mod_12, x_mod_13, x_mod_14, x_mod_15, .ref a_msp, x_mod_17, x_mod_18, x_mod_19, .ref a_mog, x_mod_21, x_mod_22, x_mod_23, x_mod_24, x_mod_25, x_mod_26, x_mod_27, x_mod_28, x_mod_29, x_mod_30, x_mod_31, x_mod_32]))) H := hP
    have hD : va_D A (ws.set p_mod (a_mod, .inr (8, [.int (nI (0)), .int (nI (n)), x_mod_2, x_mod_3, x_mod_4, .int (nI (nw)), x_mod_6, x_mod_7, x_mod_8, x_mod_9, x_mod_10, x_mod_11, x_mod_12, x_mod_13, x_mod_14, x_mod_15, .ref a_msp, x_mod_17, x_mod_18, x_mod_19, .ref a_mog, x_mod_21, x_mod_22, x_mod_23, x_mod_24, x_mod_25, x_mod_26, x_mod_27, x_mod_28, x_mod_29, x_mod_30, x_mod_31, x_mod_32]))) := hD
    have hl : lv_has ls 8 [(0, .ref a_mod), (1, .int (nI (t))), (2, .double (drF shr mog t (g))), (4, .int (nI (g)))] := hl
    refine lv_iload hx hb dX7_direct_31 (lv_at hl 3 rfl) ?_
    refine lv_iconst (v := nI 4) hx hb dX7_direct_33 (by decide) ?_
    refine g_icmp_ge (tgt := 92) hx hb (by omega) (by omega) dX7_direct_34 (by decide) (fun c_34 => absurd c_34 (by omega)) (fun c_34 => ?_)
    refine lv_dconst1 hx hb dX7_direct_37 ?_
    refine lv_dstore (lv' := [(5, .double FP.dconst1), (0, .ref a_mod), (1, .int (nI (t))), (2, .double (drF shr mog t (g))), (4, .int (nI (g)))]) hx hb dX7_direct_38 hl (by decide) rfl (fun ls hl => ?_)
    refine lv_iconst (v := nI 1) hx hb dX7_direct_40 (by decide) ?_
    refine lv_istore (lv' := [(7, .int (nI (1))), (5, .double FP.dconst1), (0, .ref a_mod), (1, .int (nI (t))), (2, .double (drF shr mog t (g))), (4, .int (nI (g)))]) hx hb dX7_direct_41 hl (by decide) rfl (fun ls hl => ?_)
    have hP : va_P D vwCl (ws.set p_mod (a_mod, .inr (8, [.int (nI (0)), .int (nI (n)), x_mod_2, x_mod_3, x_mod_4, .int (nI (nw)), x_mod_6, x_mod_7, x_mod_8, x_mod_9, x_mod_10, x_mod_11, x_mod_12, x_mod_13, x_mod_14, x_mod_15, .ref a_msp, x_mod_17, x_mod_18, x_mod_19, .ref a_mog, x_mod_21, x_mod_22, x_mod_23, x_mod_24, x_mod_25, x_mod_26, x_mod_27, x_mod_28, x_mod_29, x_mod_30, x_mod_31, x_mod_32]))) _ := g_trP (rfl) hP
    have hD : va_D A (ws.set p_mod (a_mod, .inr (8, [.int (nI (0)), .int (nI (n)), x_mod_2, x_mod_3, x_mod_4, .int (nI (nw)), x_mod_6, x_mod_7, x_mod_8, x_mod_9, x_mod_10, x_mod_11, x_mod_12, x_mod_13, x_mod_14, x_mod_15, .ref a_msp, x_mod_17, x_mod_18, x_mod_19, .ref a_mog, x_mod_21, x_mod_22, x_mod_23, x_mod_24, x_mod_25, x_mod_26, x_mod_27, x_mod_28, x_mod_29, x_mod_30, x_mod_31, x_mod_32]))) := g_trD (rfl) hD
    refine g_for (fun j => (ws.set p_mod (a_mod, .inr (8, [.int (nI (0)), .int (nI (n)), x_mod_2, x_mod_3, x_mod_4, .int (nI (nw)), x_mod_6, x_mod_7, x_mod_8, x_mod_9, x_mod_10, x_mod_11, x_mod_12, x_mod_13, x_mod_14, x_mod_15, .ref a_msp, x_mod_17, x_mod_18, x_mod_19, .ref a_mog, x_mod_21, x_mod_22, x_mod_23, x_mod_24, x_mod_25, x_mod_26, x_mod_27, x_mod_28, x_mod_29, x_mod_30, x_mod_31, x_mod_32])))) (fun j => [(0, .ref a_mod), (1, .int (nI (t))), (2, .double (drF shr mog t (g))), (4, .int (nI (g))), (5, .double (prodF mog g (j))), (7, .int (nI (1 + j)))]) (t) (0) (by omega) ?_ ?_ hP hD hS (lv_sub hl [2, 3, 4, 5, 1, 0] rfl)
    · intro H locs ls hP hD hS hl
      have hP : va_P D vwCl (ws.set p_mod (a_mod, .inr (8, [.int (nI (0)), .int (nI (n)), x_mod_2, x_mod_3, x_mod_4, .int (nI (nw)), x_mod_6, x_mod_7, x_mod_8, x_mod_9, x_mod_10, x_mod_11, x_mod_12, x_mod_13, x_mod_14, x_mod_15, .ref a_msp, x_mod_17, x_mod_18, x_mod_19, .ref a_mog, x_mod_21, x_mod_22, x_mod_23, x_mod_24, x_mod_25, x_mod_26, x_mod_27, x_mod_28, x_mod_29, x_mod_30, x_mod_31, x_mod_32]))) H := hP
      have hD : va_D A (ws.set p_mod (a_mod, .inr (8, [.int (nI (0)), .int (nI (n)), x_mod_2, x_mod_3, x_mod_4, .int (nI (nw)), x_mod_6, x_mod_7, x_mod_8, x_mod_9, x_mod_10, x_mod_11, x_mod_12, x_mod_13, x_mod_14, x_mod_15, .ref a_msp, x_mod_17, x_mod_18, x_mod_19, .ref a_mog, x_mod_21, x_mod_22, x_mod_23, x_mod_24, x_mod_25, x_mod_26, x_mod_27, x_mod_28, x_mod_29, x_mod_30, x_mod_31, x_mod_32]))) := hD
      have hl : lv_has ls 8 [(0, .ref a_mod), (1, .int (nI (t))), (2, .double (drF shr mog t (g))), (4, .int (nI (g))), (5, .double (prodF mog g (t))), (7, .int (nI (1 + t)))] := hl
      refine lv_iload hx hb dX7_direct_43 (lv_at hl 5 rfl) ?_
      refine lv_iload_n hx hb dX7_direct_45 rfl (lv_at hl 1 rfl) ?_
      refine g_icmp_gt (tgt := 72) hx hb (by omega) (by omega) dX7_direct_46 (by decide) (fun c_46 => ?_) (fun c_46 => absurd c_46 (by omega))
      refine lv_dload_n hx hb dX7_direct_72 rfl (lv_at hl 2 rfl) ?_
      refine lv_aload_n hx hb dX7_direct_73 rfl (lv_at hl 0 rfl) ?_
      refine lv_iconst (v := nI 0) hx hb dX7_direct_74 (by decide) ?_
      refine lv_iload hx hb dX7_direct_75 (lv_at hl 3 rfl) ?_
      refine lv_iload_n hx hb dX7_direct_77 rfl (lv_at hl 1 rfl) ?_
      have f_mod := g_eq (x := (a_mod, .inr (8, [.int (nI (0)), .int (nI (n)), x_mod_2, x_mod_3, x_mod_4, .int (nI (nw)), x_mod_6, x_mod_7, x_mod_8, x_mod_9, x_mod_10, x_mod_11, x_mod_12, x_mod_13, x_mod_14, x_mod_15, .ref a_msp, x_mod_17, x_mod_18, x_mod_19, .ref a_mog, x_mod_21, x_mod_22, x_mod_23, x_mod_24, x_mod_25, x_mod_26, x_mod_27, x_mod_28, x_mod_29, x_mod_30, x_mod_31, x_mod_32]))) (f0_mod)
      have f_msp := g_ne (x := (a_mod, .inr (8, [.int (nI (0)), .int (nI (n)), x_mod_2, x_mod_3, x_mod_4, .int (nI (nw)), x_mod_6, x_mod_7, x_mod_8, x_mod_9, x_mod_10, x_mod_11, x_mod_12, x_mod_13, x_mod_14, x_mod_15, .ref a_msp, x_mod_17, x_mod_18, x_mod_19, .ref a_mog, x_mod_21, x_mod_22, x_mod_23, x_mod_24, x_mod_25, x_mod_26, x_mod_27, x_mod_28, x_mod_29, x_mod_30, x_mod_31, x_mod_32]))) (g_kne f0_mod f0_msp (Nat.ne_of_beq_eq_false rfl)) (f0_msp)
      refine gc_V_d (As := [.int (nI (0)), .int (nI (g)), .int (nI (t))]) (rest := [.double (drF shr mog t (g))]) (c_X7_shareOf l f_mod f_msp b_msp (by decide) hj_g (by omega) (hsh g hj_g)) ⟨hx, hb, hml, hown, hts⟩ (cwV 3 hts gX7_direct_X7_shareOf rfl rfl rfl (by decide +kernel) ⟨Nat.le_of_ble_eq_true rfl, Nat.le_of_ble_eq_true rfl⟩) hE hP hD hS hA _ f_mod rfl rfl rfl rfl hl.1 (Nat.le_of_ble_eq_true rfl) dX7_direct_78 ⟨Nat.le_of_ble_eq_true rfl, Nat.le_of_ble_eq_true rfl⟩ (fun r_78 u_78 H locs hP hD hS q_78 => ?_)
      have q9 := q_78.trans (hshr g hj_g)
      subst q9
      refine lv_dload hx hb dX7_direct_81 (lv_at hl 4 rfl) ?_
      refine lv_dmul hx hb dX7_direct_83 (hnn.2.1 g hj_g).1 ?_
      refine lv_dadd hx hb dX7_direct_84 (hnn.2.1 g hj_g).2 ?_
      refine lv_dstore_n (lv' := [(2, .double (FP.dadd (drF shr mog t (g)) (FP.dmul (shr ((t * 5 + 0) * 4 + g)) (prodF mog g (t))))), (0, .ref a_mod), (1, .int (nI (t))), (4, .int (nI (g))), (5, .double (prodF mog g (t))), (7, .int (nI (1 + t)))]) hx hb dX7_direct_85 rfl hl (by decide) rfl (fun ls hl => ?_)
      refine lv_iinc (v := nI (g + 1)) (lv' := [(4, .int (nI (g + 1))), (2, .double (FP.dadd (drF shr mog t (g)) (FP.dmul (shr ((t * 5 + 0) * 4 + g)) (prodF mog g (t))))), (0, .ref a_mod), (1, .int (nI (t))), (5, .double (prodF mog g (t))), (7, .int (nI (1 + t)))]) hx hb dX7_direct_86 hl (k := 3) rfl (nI_add _ 1) (by decide) rfl (fun ls hl => ?_)
      refine lv_goto (tgt := 31) hx hb dX7_direct_89 (by decide) ?_
      have hP : va_P D vwCl (ws.set p_mod (a_mod, .inr (8, [.int (nI (0)), .int (nI (n)), x_mod_2, x_mod_3, x_mod_4, .int (nI (nw)), x_mod_6, x_mod_7, x_mod_8, x_mod_9, x_mod_10, x_mod_11, x_mod_12, x_mod_13, x_mod_14, x_mod_15, .ref a_msp, x_mod_17, x_mod_18, x_mod_19, .ref a_mog, x_mod_21, x_mod_22, x_mod_23, x_mod_24, x_mod_25, x_mod_26, x_mod_27, x_mod_28, x_mod_29, x_mod_30, x_mod_31, x_mod_32]))) _ := g_trP (rfl) hP
      have hD : va_D A (ws.set p_mod (a_mod, .inr (8, [.int (nI (0)), .int (nI (n)), x_mod_2, x_mod_3, x_mod_4, .int (nI (nw)), x_mod_6, x_mod_7, x_mod_8, x_mod_9, x_mod_10, x_mod_11, x_mod_12, x_mod_13, x_mod_14, x_mod_15, .ref a_msp, x_mod_17, x_mod_18, x_mod_19, .ref a_mog, x_mod_21, x_mod_22, x_mod_23, x_mod_24, x_mod_25, x_mod_26, x_mod_27, x_mod_28, x_mod_29, x_mod_30, x_mod_31, x_mod_32]))) := g_trD (rfl) hD
      exact ih_g H locs ls hP hD hS (lv_sub hl [2, 3, 1, 0] rfl)
    · intro j hj_j ih_j H locs ls hP hD hS hl
      have hP : va_P D vwCl (ws.set p_mod (a_mod, .inr (8, [.int (nI (0)), .int (nI (n)), x_mod_2, x_mod_3, x_mod_4, .int (nI (nw)), x_mod_6, x_mod_7, x_mod_8, x_mod_9, x_mod_10, x_mod_11, x_mod_12, x_mod_13, x_mod_14, x_mod_15, .ref a_msp, x_mod_17, x_mod_18, x_mod_19, .ref a_mog, x_mod_21, x_mod_22, x_mod_23, x_mod_24, x_mod_25, x_mod_26, x_mod_27, x_mod_28, x_mod_29, x_mod_30, x_mod_31, x_mod_32]))) H := hP
      have hD : va_D A (ws.set p_mod (a_mod, .inr (8, [.int (nI (0)), .int (nI (n)), x_mod_2, x_mod_3, x_mod_4, .int (nI (nw)), x_mod_6, x_mod_7, x_mod_8, x_mod_9, x_mod_10, x_mod_11, x_mod_12, x_mod_13, x_mod_14, x_mod_15, .ref a_msp, x_mod_17, x_mod_18, x_mod_19, .ref a_mog, x_mod_21, x_mod_22, x_mod_23, x_mod_24, x_mod_25, x_mod_26, x_mod_27, x_mod_28, x_mod_29, x_mod_30, x_mod_31, x_mod_32]))) := hD
      have hl : lv_has ls 8 [(0, .ref a_mod), (1, .int (nI (t))), (2, .double (drF shr mog t (g))), (4, .int (nI (g))), (5, .double (prodF mog g (j))), (7, .int (nI (1 + j)))] := hl
      refine lv_iload hx hb dX7_direct_43 (lv_at hl 5 rfl) ?_
      refine lv_iload_n hx hb dX7_direct_45 rfl (lv_at hl 1 rfl) ?_
      refine g_icmp_gt (tgt := 72) hx hb (by omega) (by omega) dX7_direct_46 (by decide) (fun c_46 => absurd c_46 (by omega)) (fun c_46 => ?_)
      refine lv_dload hx hb dX7_direct_49 (lv_at hl 4 rfl) ?_
      refine lv_aload_n hx hb dX7_direct_51 rfl (lv_at hl 0 rfl) ?_
      have f_mod := g_eq (x := (a_mod, .inr (8, [.int (nI (0)), .int (nI (n)), x_mod_2, x_mod_3, x_mod_4, .int (nI (nw)), x_mod_6, x_mod_7, x_mod_8, x_mod_9, x_mod_10, x_mod_11, x_mod_12, x_mod_13, x_mod_14, x_mod_15, .ref a_msp, x_mod_17, x_mod_18, x_mod_19, .ref a_mog, x_mod_21, x_mod_22, x_mod_23, x_mod_24, x_mod_25, x_mod_26, x_mod_27, x_mod_28, x_mod_29, x_mod_30, x_mod_31, x_mod_32]))) (f0_mod)
      refine va_get (D := D) (ci := 8) (v := .ref a_mog) (C := RX7) (T := TX7) (N := 33) hx hb hts in_RX7 hown hE.1 hP _ f_mod rfl 20 (by decide) (hts (.fieldLink RX7 57 "BasketryOfficeModel" "ofGroup" "[D") (by decide +kernel)) (fun _ h9 => h9) rfl dX7_direct_52 ?_
      refine lv_iconst (v := nI 4) hx hb dX7_direct_55 (by decide) ?_
      refine lv_iload hx hb dX7_direct_56 (lv_at hl 5 rfl) ?_
      refine g_imul hx hb dX7_direct_58 (pk_mul _ _) ?_
      refine lv_iload hx hb dX7_direct_59 (lv_at hl 3 rfl) ?_
      refine g_iadd hx hb dX7_direct_61 (nI_add _ _) ?_
      have f_mog := g_ne (x := (a_mod, .inr (8, [.int (nI (0)), .int (nI (n)), x_mod_2, x_mod_3, x_mod_4, .int (nI (nw)), x_mod_6, x_mod_7, x_mod_8, x_mod_9, x_mod_10, x_mod_11, x_mod_12, x_mod_13, x_mod_14, x_mod_15, .ref a_msp, x_mod_17, x_mod_18, x_mod_19, .ref a_mog, x_mod_21, x_mod_22, x_mod_23, x_mod_24, x_mod_25, x_mod_26, x_mod_27, x_mod_28, x_mod_29, x_mod_30, x_mod_31, x_mod_32]))) (g_kne f0_mod f0_mog (Nat.ne_of_beq_eq_false rfl)) (f0_mog)
      refine g_dald hx hb hE hP _ f_mog (by omega) (by decide) dX7_direct_62 ?_
      refine g_dv (v' := mog ((1 + j) * 4 + g)) (congrArg mog (by omega)) ?_
      refine lv_dmul hx hb dX7_direct_63 (hnn.1 g hj_g j hj_j) ?_
      refine lv_dstore (lv' := [(5, .double (FP.dmul (prodF mog g (j)) (mog ((1 + j) * 4 + g)))), (0, .ref a_mod), (1, .int (nI (t))), (2, .double (drF shr mog t (g))), (4, .int (nI (g))), (7, .int (nI (1 + j)))]) hx hb dX7_direct_64 hl (by decide) rfl (fun ls hl => ?_)
      refine lv_iinc (v := nI (1 + j + 1)) (lv' := [(7, .int (nI (1 + j + 1))), (5, .double (FP.dmul (prodF mog g (j)) (mog ((1 + j) * 4 + g)))), (0, .ref a_mod), (1, .int (nI (t))), (2, .double (drF shr mog t (g))), (4, .int (nI (g)))]) hx hb dX7_direct_66 hl (k := 5) rfl (nI_add _ 1) (by decide) rfl (fun ls hl => ?_)
      refine lv_goto (tgt := 43) hx hb dX7_direct_69 (by decide) ?_
      have hP : va_P D vwCl (ws.set p_mod (a_mod, .inr (8, [.int (nI (0)), .int (nI (n)), x_mod_2, x_mod_3, x_mod_4, .int (nI (nw)), x_mod_6, x_mod_7, x_mod_8, x_mod_9, x_mod_10, x_mod_11, x_mod_12, x_mod_13, x_mod_14, x_mod_15, .ref a_msp, x_mod_17, x_mod_18, x_mod_19, .ref a_mog, x_mod_21, x_mod_22, x_mod_23, x_mod_24, x_mod_25, x_mod_26, x_mod_27, x_mod_28, x_mod_29, x_mod_30, x_mod_31, x_mod_32]))) _ := g_trP (rfl) hP
      have hD : va_D A (ws.set p_mod (a_mod, .inr (8, [.int (nI (0)), .int (nI (n)), x_mod_2, x_mod_3, x_mod_4, .int (nI (nw)), x_mod_6, x_mod_7, x_mod_8, x_mod_9, x_mod_10, x_mod_11, x_mod_12, x_mod_13, x_mod_14, x_mod_15, .ref a_msp, x_mod_17, x_mod_18, x_mod_19, .ref a_mog, x_mod_21, x_mod_22, x_mod_23, x_mod_24, x_mod_25, x_mod_26, x_mod_27, x_mod_28, x_mod_29, x_mod_30, x_mod_31, x_mod_32]))) := g_trD (rfl) hD
      exact ih_j H locs ls hP hD hS (lv_sub hl [2, 3, 4, 5, 1, 0] rfl)
