theorem in_x0_X7_quote_RX7 : ∀ w ∈ wsX70, w ∈ wsX7_quote := by decide +kernel
set_option maxHeartbeats 4000000 in
set_option maxRecDepth 100000 in
theorem x0_X7_quote (l : Launch) {D : va_G} {y : Nat → Nat} {ws : va_W} {x_mod_2 : Value} {x_mod_3 : Value} {x_mod_7 : Value} {x_mod_9 : Value} {x_mod_10 : Value} {x_mod_11 : Value} {x_mod_12 : Value} {x_mod_13 : Value} {x_mod_14 : Value} {x_mod_15 : Value} {x_mod_16 : Value} {x_mod_17 : Value} {x_mod_18 : Value} {x_mod_19 : Value} {x_mod_20 : Value} {x_mod_21 : Value} {x_mod_22 : Value} {x_mod_23 : Value} {x_mod_24 : Value} {x_mod_25 : Value} {x_mod_26 : Value} {x_mod_27 : Value} {x_mod_28 : Value} {x_mod_29 : Value} {x_mod_30 : Value} {x_mod_31 : Value} {x_mod_32 : Value} {p_mod p_mse p_mce a_mod a_mse a_mce : Nat} {mse : Nat → Nat} {mce : Nat → Nat} {i o ce gr : Int32} {nw n th qn : Nat} (f0_mod : ws[p_mod]? = some (a_mod, .inr (8, [.int (nI (th)), .int (nI (n)), x_mod_2, x_mod_3, .ref a_mse, .int (nI (nw)), .int (nI (qn)), x_mod_7, .ref a_mce, x_mod_9, x_mod_10, x_mod_11, x_mod_12, x_mod_13, x_mod_14, x_mod_15, x_mod_16, x_mod_17, x_mod_18, x_mod_19, x_mod_20, x_mod_21, x_mod_22, x_mod_23, x_mod_24, x_mod_25, x_mod_26, x_mod_27, x_mod_28, x_mod_29, x_mod_30, x_mod_31, x_mod_32]))) (f0_mse : ws[p_mse]? = some (a_mse, eN y 12 mse)) (f0_mce : ws[p_mce]? = some (a_mce, eN y 1152 mce)) (b_mse : ∀ k, mse k ≤ 4095) (b_mce : ∀ k, mce k ≤ 100000) (hw : nw ≤ 24) (hn : n ≤ 12)  (hbad : i < 0 ∨ nI n ≤ i) : gMi l yX7_quote wsX7_quote ({ frames := 2, cells := 0, slots := 0, locals := 43 }) D y [.ref a_mod, .int (i), .int (o), .int (ce), .int (gr)] ws (fun r (_ : Unit) => r = nI 0) (fun (_ : Unit) => (ws.set p_mod (a_mod, .inr (8, [.int (nI (1)), .int (nI (n)), x_mod_2, x_mod_3, .ref a_mse, .int (nI (nw)), .int (nI (qn)), x_mod_7, .ref a_mce, x_mod_9, x_mod_10, x_mod_11, x_mod_12, x_mod_13, x_mod_14, x_mod_15, x_mod_16, x_mod_17, x_mod_18, x_mod_19, x_mod_20, x_mod_21, x_mod_22, x_mod_23, x_mod_24, x_mod_25, x_mod_26, x_mod_27, x_mod_28, x_mod_29, x_mod_30, x_mod_31, x_mod_32])))) := by
  refine g_met_i (cc := cX7_quote) (maxL := 5) (by decide) rfl (Nat.le_of_ble_eq_true rfl) ?_
  intro p e s m below meth c A hx hb hml hr hts hown hnm hlocks hE hP hD hS hA ls hl
  have hown : s.vm.findClass RX7 = some m.cls := hown
  have hl : lv_has ls 5 [(0, .ref a_mod), (1, .int (i)), (2, .int (o)), (3, .int (ce)), (4, .int (gr))] := hl
  have in_RX7 := in_x0_X7_quote_RX7
  refine lv_aload_n hx hb dX7_quote_0 rfl (lv_at hl 0 rfl) ?_
  refine lv_aload_n hx hb dX7_quote_1 rfl (lv_at hl 0 rfl) ?_
  refine lv_iload_n hx hb dX7_quote_2 rfl (lv_at hl 1 rfl) ?_
  refine gc_V_i (As := [.int (i)]) (rest := [.ref a_mod]) (c_X7_isItem l f0_mod (by omega)) ⟨hx, hb, hml, hown, hts⟩ (cwV 1 hts gX7_quote_X7_isItem rfl rfl rfl (by decide +kernel) ⟨Nat.le_of_ble_eq_true rfl, Nat.le_of_ble_eq_true rfl⟩) hE hP hD hS hA _ f0_mod rfl rfl rfl rfl hl.1 (Nat.le_of_ble_eq_true rfl) dX7_quote_3 ⟨Nat.le_of_ble_eq_true rfl, Nat.le_of_ble_eq_true rfl⟩ (fun r_3 u_3 H locs hP hD hS q_3 => ?_)
  subst q_3
  refine g_bif_eq (tgt := 16) hx hb dX7_quote_6 (by decide) (fun c_6 => ?_) (fun c_6 => absurd c_6 (by rw [decide_eq_false (fun z => z hbad)]; decide))
  refine lv_iconst (v := nI 1) hx hb dX7_quote_16 (by decide) ?_
  refine lv_goto (tgt := 47) hx hb dX7_quote_17 (by decide) ?_
  refine va_put (D := D) (ci := 8) (v := .int (nI (1))) (ty := .int) (C := RX7) (T := TX7) (N := 33) hx hb hts in_RX7 tyX7 tyX7_ok nmX7 hown hE.1 hP hD hS _ f0_mod rfl 0 (by decide) (hts (.fieldLink RX7 94 "BasketryOfficeModel" "thrown" "I") (by decide +kernel)) (fun _ h9 => h9) rfl (by decide +kernel) rfl rfl (Nat.le_of_ble_eq_true rfl) dX7_quote_47 (fun H locs hP hD hS => ?_)
  have f_mod := g_eq (x := (a_mod, .inr (8, [.int (nI (1)), .int (nI (n)), x_mod_2, x_mod_3, .ref a_mse, .int (nI (nw)), .int (nI (qn)), x_mod_7, .ref a_mce, x_mod_9, x_mod_10, x_mod_11, x_mod_12, x_mod_13, x_mod_14, x_mod_15, x_mod_16, x_mod_17, x_mod_18, x_mod_19, x_mod_20, x_mod_21, x_mod_22, x_mod_23, x_mod_24, x_mod_25, x_mod_26, x_mod_27, x_mod_28, x_mod_29, x_mod_30, x_mod_31, x_mod_32]))) (f0_mod)
  have f_mse := g_ne (x := (a_mod, .inr (8, [.int (nI (1)), .int (nI (n)), x_mod_2, x_mod_3, .ref a_mse, .int (nI (nw)), .int (nI (qn)), x_mod_7, .ref a_mce, x_mod_9, x_mod_10, x_mod_11, x_mod_12, x_mod_13, x_mod_14, x_mod_15, x_mod_16, x_mod_17, x_mod_18, x_mod_19, x_mod_20, x_mod_21, x_mod_22, x_mod_23, x_mod_24, x_mod_25, x_mod_26, x_mod_27, x_mod_28, x_mod_29, x_mod_30, x_mod_31, x_mod_32]))) (g_kne f0_mod f0_mse (Nat.ne_of_beq_eq_false rfl)) (f0_mse)
  have f_mce := g_ne (x := (a_mod, .inr (8, [.int (nI (1)), .int (nI (n)), x_mod_2, x_mod_3, .ref a_mse, .int (nI (nw)), .int (nI (qn)), x_mod_7, .ref a_mce, x_mod_9, x_mod_10, x_mod_11, x_mod_12, x_mod_13, x_mod_14, x_mod_15, x_mod_16, x_mod_17, x_mod_18, x_mod_19, x_mod_20, x_mod_21, x_mod_22, x_mod_23, x_mod_24, x_mod_25, x_mod_26, x_mod_27, x_mod_28, x_mod_29, x_mod_30, x_mod_31, x_mod_32]))) (g_kne f0_mod f0_mce (Nat.ne_of_beq_eq_false rfl)) (f0_mce)
  refine lv_aload_n hx hb dX7_quote_50 rfl (lv_at hl 0 rfl) ?_
  refine lv_aload_n hx hb dX7_quote_51 rfl (lv_at hl 0 rfl) ?_
  refine va_get (D := D) (ci := 8) (v := .int (nI (1))) (C := RX7) (T := TX7) (N := 33) hx hb hts in_RX7 hown hE.1 hP _ f_mod rfl 0 (by decide) (hts (.fieldLink RX7 94 "BasketryOfficeModel" "thrown" "I") (by decide +kernel)) (fun _ h9 => h9) rfl dX7_quote_52 ?_
  refine g_if_ne (tgt := 107) hx hb (by omega) dX7_quote_55 (by decide) (fun c_55 => ?_) (fun c_55 => absurd c_55 (by omega))
  refine lv_aload_n hx hb dX7_quote_107 rfl (lv_at hl 0 rfl) ?_
  refine va_get (D := D) (ci := 8) (v := .int (nI (1))) (C := RX7) (T := TX7) (N := 33) hx hb hts in_RX7 hown hE.1 hP _ f_mod rfl 0 (by decide) (hts (.fieldLink RX7 94 "BasketryOfficeModel" "thrown" "I") (by decide +kernel)) (fun _ h9 => h9) rfl dX7_quote_108 ?_
  refine va_put (D := D) (ci := 8) (v := .int (nI (1))) (ty := .int) (C := RX7) (T := TX7) (N := 33) hx hb hts in_RX7 tyX7 tyX7_ok nmX7 hown hE.1 hP hD hS _ f_mod rfl 0 (by decide) (hts (.fieldLink RX7 94 "BasketryOfficeModel" "thrown" "I") (by decide +kernel)) (fun _ h9 => h9) rfl (by decide +kernel) rfl rfl (Nat.le_of_ble_eq_true rfl) dX7_quote_111 (fun H locs hP hD hS => ?_)
  have hP := g_trP g_ss hP
  have hD := g_trD g_ss hD
  have f_mod := g_eq (x := (a_mod, .inr (8, [.int (nI (1)), .int (nI (n)), x_mod_2, x_mod_3, .ref a_mse, .int (nI (nw)), .int (nI (qn)), x_mod_7, .ref a_mce, x_mod_9, x_mod_10, x_mod_11, x_mod_12, x_mod_13, x_mod_14, x_mod_15, x_mod_16, x_mod_17, x_mod_18, x_mod_19, x_mod_20, x_mod_21, x_mod_22, x_mod_23, x_mod_24, x_mod_25, x_mod_26, x_mod_27, x_mod_28, x_mod_29, x_mod_30, x_mod_31, x_mod_32]))) (f0_mod)
  have f_mse := g_ne (x := (a_mod, .inr (8, [.int (nI (1)), .int (nI (n)), x_mod_2, x_mod_3, .ref a_mse, .int (nI (nw)), .int (nI (qn)), x_mod_7, .ref a_mce, x_mod_9, x_mod_10, x_mod_11, x_mod_12, x_mod_13, x_mod_14, x_mod_15, x_mod_16, x_mod_17, x_mod_18, x_mod_19, x_mod_20, x_mod_21, x_mod_22, x_mod_23, x_mod_24, x_mod_25, x_mod_26, x_mod_27, x_mod_28, x_mod_29, x_mod_30, x_mod_31, x_mod_32]))) (g_kne f0_mod f0_mse (Nat.ne_of_beq_eq_false rfl)) (f0_mse)
  have f_mce := g_ne (x := (a_mod, .inr (8, [.int (nI (1)), .int (nI (n)), x_mod_2, x_mod_3, .ref a_mse, .int (nI (nw)), .int (nI (qn)), x_mod_7, .ref a_mce, x_mod_9, x_mod_10, x_mod_11, x_mod_12, x_mod_13, x_mod_14, x_mod_15, x_mod_16, x_mod_17, x_mod_18, x_mod_19, x_mod_20, x_mod_21, x_mod_22, x_mod_23, x_mod_24, x_mod_25, x_mod_26, x_mod_27, x_mod_28, x_mod_29, x_mod_30, x_mod_31, x_mod_32]))) (g_kne f0_mod f0_mce (Nat.ne_of_beq_eq_false rfl)) (f0_mce)
  refine lv_aload_n hx hb dX7_quote_114 rfl (lv_at hl 0 rfl) ?_
  refine va_get (D := D) (ci := 8) (v := .int (nI (1))) (C := RX7) (T := TX7) (N := 33) hx hb hts in_RX7 hown hE.1 hP _ f_mod rfl 0 (by decide) (hts (.fieldLink RX7 94 "BasketryOfficeModel" "thrown" "I") (by decide +kernel)) (fun _ h9 => h9) rfl dX7_quote_115 ?_
  refine g_if_le (tgt := 123) hx hb (by omega) dX7_quote_118 (by decide) (fun c_118 => absurd c_118 (by omega)) (fun c_118 => ?_)
  refine lv_iconst (v := nI 0) hx hb dX7_quote_121 (by decide) ?_
  refine g_iret hx hb hr hlocks () dX7_quote_122 hS hP hD ?_
  exact rfl

theorem in_x1_X7_quote_RX7 : ∀ w ∈ wsX70, w ∈ wsX7_quote := by decide +kernel
set_option maxHeartbeats 4000000 in
set_option maxRecDepth 100000 in
theorem x1_X7_quote (l : Launch) {D : va_G} {y : Nat → Nat} {ws : va_W} {x_mod_2 : Value} {x_mod_3 : Value} {x_mod_7 : Value} {x_mod_9 : Value} {x_mod_10 : Value} {x_mod_11 : Value} {x_mod_12 : Value} {x_mod_13 : Value} {x_mod_14 : Value} {x_mod_15 : Value} {x_mod_16 : Value} {x_mod_17 : Value} {x_mod_18 : Value} {x_mod_19 : Value} {x_mod_20 : Value} {x_mod_21 : Value} {x_mod_22 : Value} {x_mod_23 : Value} {x_mod_24 : Value} {x_mod_25 : Value} {x_mod_26 : Value} {x_mod_27 : Value} {x_mod_28 : Value} {x_mod_29 : Value} {x_mod_30 : Value} {x_mod_31 : Value} {x_mod_32 : Value} {p_mod p_mse p_mce a_mod a_mse a_mce : Nat} {mse : Nat → Nat} {mce : Nat → Nat} {i : Nat} {o ce gr : Int32} {nw n th qn : Nat} (f0_mod : ws[p_mod]? = some (a_mod, .inr (8, [.int (nI (th)), .int (nI (n)), x_mod_2, x_mod_3, .ref a_mse, .int (nI (nw)), .int (nI (qn)), x_mod_7, .ref a_mce, x_mod_9, x_mod_10, x_mod_11, x_mod_12, x_mod_13, x_mod_14, x_mod_15, x_mod_16, x_mod_17, x_mod_18, x_mod_19, x_mod_20, x_mod_21, x_mod_22, x_mod_23, x_mod_24, x_mod_25, x_mod_26, x_mod_27, x_mod_28, x_mod_29, x_mod_30, x_mod_31, x_mod_32]))) (f0_mse : ws[p_mse]? = some (a_mse, eN y 12 mse)) (f0_mce : ws[p_mce]? = some (a_mce, eN y 1152 mce)) (b_mse : ∀ k, mse k ≤ 4095) (b_mce : ∀ k, mce k ≤ 100000) (hw : nw ≤ 24) (hn : n ≤ 12) (hi : i < n) (hbad : o < 0 ∨ nI 4 ≤ o) : gMi l yX7_quote wsX7_quote ({ frames := 2, cells := 0, slots := 0, locals := 43 }) D y [.ref a_mod, .int (nI (i)), .int (o), .int (ce), .int (gr)] ws (fun r (_ : Unit) => r = nI 0) (fun (_ : Unit) => (ws.set p_mod (a_mod, .inr (8, [.int (nI (1)), .int (nI (n)), x_mod_2, x_mod_3, .ref a_mse, .int (nI (nw)), .int (nI (qn)), x_mod_7, .ref a_mce, x_mod_9, x_mod_10, x_mod_11, x_mod_12, x_mod_13, x_mod_14, x_mod_15, x_mod_16, x_mod_17, x_mod_18, x_mod_19, x_mod_20, x_mod_21, x_mod_22, x_mod_23, x_mod_24, x_mod_25, x_mod_26, x_mod_27, x_mod_28, x_mod_29, x_mod_30, x_mod_31, x_mod_32])))) := by
  refine g_met_i (cc := cX7_quote) (maxL := 5) (by decide) rfl (Nat.le_of_ble_eq_true rfl) ?_
  intro p e s m below meth c A hx hb hml hr hts hown hnm hlocks hE hP hD hS hA ls hl
  have hown : s.vm.findClass RX7 = some m.cls := hown
  have hl : lv_has ls 5 [(0, .ref a_mod), (1, .int (nI (i))), (2, .int (o)), (3, .int (ce)), (4, .int (gr))] := hl
  have in_RX7 := in_x1_X7_quote_RX7
  refine lv_aload_n hx hb dX7_quote_0 rfl (lv_at hl 0 rfl) ?_
  refine lv_aload_n hx hb dX7_quote_1 rfl (lv_at hl 0 rfl) ?_
  refine lv_iload_n hx hb dX7_quote_2 rfl (lv_at hl 1 rfl) ?_
  refine gc_V_i (As := [.int (nI (i))]) (rest := [.ref a_mod]) (c_X7_isItem l f0_mod (by omega)) ⟨hx, hb, hml, hown, hts⟩ (cwV 1 hts gX7_quote_X7_isItem rfl rfl rfl (by decide +kernel) ⟨Nat.le_of_ble_eq_true rfl, Nat.le_of_ble_eq_true rfl⟩) hE hP hD hS hA _ f0_mod rfl rfl rfl rfl hl.1 (Nat.le_of_ble_eq_true rfl) dX7_quote_3 ⟨Nat.le_of_ble_eq_true rfl, Nat.le_of_ble_eq_true rfl⟩ (fun r_3 u_3 H locs hP hD hS q_3 => ?_)
  subst q_3
  refine g_bif_eq (tgt := 16) hx hb dX7_quote_6 (by decide) (fun c_6 => absurd c_6 (by rw [decide_eq_true (rq_lt hi (by omega))]; decide)) (fun c_6 => ?_)
  refine lv_iload_n hx hb dX7_quote_9 rfl (lv_at hl 2 rfl) ?_
  refine gc_S_i (As := [.int (o)]) (rest := [.ref a_mod]) (c_X7_isOutlet l) ⟨hx, hb, hml, hown, hts⟩ (va_cwS 1 hts gX7_quote_X7_isOutlet rfl rfl rfl (by decide +kernel) ⟨Nat.le_of_ble_eq_true rfl, Nat.le_of_ble_eq_true rfl⟩) hE hP hD hS hA rfl rfl hl.1 (Nat.le_of_ble_eq_true rfl) dX7_quote_10 ⟨Nat.le_of_ble_eq_true rfl, Nat.le_of_ble_eq_true rfl⟩ (fun r_10 u_10 H locs hP hD hS q_10 => ?_)
  subst q_10
  refine g_bif_ne (tgt := 20) hx hb dX7_quote_13 (by decide) (fun c_13 => absurd c_13 (by rw [decide_eq_false (fun z => z hbad)]; decide)) (fun c_13 => ?_)
  refine lv_iconst (v := nI 1) hx hb dX7_quote_16 (by decide) ?_
  refine lv_goto (tgt := 47) hx hb dX7_quote_17 (by decide) ?_
  refine va_put (D := D) (ci := 8) (v := .int (nI (1))) (ty := .int) (C := RX7) (T := TX7) (N := 33) hx hb hts in_RX7 tyX7 tyX7_ok nmX7 hown hE.1 hP hD hS _ f0_mod rfl 0 (by decide) (hts (.fieldLink RX7 94 "BasketryOfficeModel" "thrown" "I") (by decide +kernel)) (fun _ h9 => h9) rfl (by decide +kernel) rfl rfl (Nat.le_of_ble_eq_true rfl) dX7_quote_47 (fun H locs hP hD hS => ?_)
  have f_mod := g_eq (x := (a_mod, .inr (8, [.int (nI (1)), .int (nI (n)), x_mod_2, x_mod_3, .ref a_mse, .int (nI (nw)), .int (nI (qn)), x_mod_7, .ref a_mce, x_mod_9, x_mod_10, x_mod_11, x_mod_12, x_mod_13, x_mod_14, x_mod_15, x_mod_16, x_mod_17, x_mod_18, x_mod_19, x_mod_20, x_mod_21, x_mod_22, x_mod_23, x_mod_24, x_mod_25, x_mod_26, x_mod_27, x_mod_28, x_mod_29, x_mod_30, x_mod_31, x_mod_32]))) (f0_mod)
  have f_mse := g_ne (x := (a_mod, .inr (8, [.int (nI (1)), .int (nI (n)), x_mod_2, x_mod_3, .ref a_mse, .int (nI (nw)), .int (nI (qn)), x_mod_7, .ref a_mce, x_mod_9, x_mod_10, x_mod_11, x_mod_12, x_mod_13, x_mod_14, x_mod_15, x_mod_16, x_mod_17, x_mod_18, x_mod_19, x_mod_20, x_mod_21, x_mod_22, x_mod_23, x_mod_24, x_mod_25, x_mod_26, x_mod_27, x_mod_28, x_mod_29, x_mod_30, x_mod_31, x_mod_32]))) (g_kne f0_mod f0_mse (Nat.ne_of_beq_eq_false rfl)) (f0_mse)
  have f_mce := g_ne (x := (a_mod, .inr (8, [.int (nI (1)), .int (nI (n)), x_mod_2, x_mod_3, .ref a_mse, .int (nI (nw)), .int (nI (qn)), x_mod_7, .ref a_mce, x_mod_9, x_mod_10, x_mod_11, x_mod_12, x_mod_13, x_mod_14, x_mod_15, x_mod_16, x_mod_17, x_mod_18, x_mod_19, x_mod_20, x_mod_21, x_mod_22, x_mod_23, x_mod_24, x_mod_25, x_mod_26, x_mod_27, x_mod_28, x_mod_29, x_mod_30, x_mod_31, x_mod_32]))) (g_kne f0_mod f0_mce (Nat.ne_of_beq_eq_false rfl)) (f0_mce)
  refine lv_aload_n hx hb dX7_quote_50 rfl (lv_at hl 0 rfl) ?_
  refine lv_aload_n hx hb dX7_quote_51 rfl (lv_at hl 0 rfl) ?_
  refine va_get (D := D) (ci := 8) (v := .int (nI (1))) (C := RX7) (T := TX7) (N := 33) hx hb hts in_RX7 hown hE.1 hP _ f_mod rfl 0 (by decide) (hts (.fieldLink RX7 94 "BasketryOfficeModel" "thrown" "I") (by decide +kernel)) (fun _ h9 => h9) rfl dX7_quote_52 ?_
  refine g_if_ne (tgt := 107) hx hb (by omega) dX7_quote_55 (by decide) (fun c_55 => ?_) (fun c_55 => absurd c_55 (by omega))
  refine lv_aload_n hx hb dX7_quote_107 rfl (lv_at hl 0 rfl) ?_
  refine va_get (D := D) (ci := 8) (v := .int (nI (1))) (C := RX7) (T := TX7) (N := 33) hx hb hts in_RX7 hown hE.1 hP _ f_mod rfl 0 (by decide) (hts (.fieldLink RX7 94 "BasketryOfficeModel" "thrown" "I") (by decide +kernel)) (fun _ h9 => h9) rfl dX7_quote_108 ?_
  refine va_put (D := D) (ci := 8) (v := .int (nI (1))) (ty := .int) (C := RX7) (T := TX7) (N := 33) hx hb hts in_RX7 tyX7 tyX7_ok nmX7 hown hE.1 hP hD hS _ f_mod rfl 0 (by decide) (hts (.fieldLink RX7 94 "BasketryOfficeModel" "thrown" "I") (by decide +kernel)) (fun _ h9 => h9) rfl (by decide +kernel) rfl rfl (Nat.le_of_ble_eq_true rfl) dX7_quote_111 (fun H locs hP hD hS => ?_)
  have hP := g_trP g_ss hP
  have hD := g_trD g_ss hD
  have f_mod := g_eq (x := (a_mod, .inr (8, [.int (nI (1)), .int (nI (n)), x_mod_2, x_mod_3, .ref a_mse, .int (nI (nw)), .int (nI (qn)), x_mod_7, .ref a_mce, x_mod_9, x_mod_10, x_mod_11, x_mod_12, x_mod_13, x_mod_14, x_mod_15, x_mod_16, x_mod_17, x_mod_18, x_mod_19, x_mod_20, x_mod_21, x_mod_22, x_mod_23, x_mod_24, x_mod_25, x_mod_26, x_mod_27, x_mod_28, x_mod_29, x_mod_30, x_mod_31, x_mod_32]))) (f0_mod)
  have f_mse := g_ne (x := (a_mod, .inr (8, [.int (nI (1)), .int (nI (n)), x_mod_2, x_mod_3, .ref a_mse, .int (nI (nw)), .int (nI (qn)), x_mod_7, .ref a_mce, x_mod_9, x_mod_10, x_mod_11, x_mod_12, x_mod_13, x_mod_14, x_mod_15, x_mod_16, x_mod_17, x_mod_18, x_mod_19, x_mod_20, x_mod_21, x_mod_22, x_mod_23, x_mod_24, x_mod_25, x_mod_26, x_mod_27, x_mod_28, x_mod_29, x_mod_30, x_mod_31, x_mod_32]))) (g_kne f0_mod f0_mse (Nat.ne_of_beq_eq_false rfl)) (f0_mse)
  have f_mce := g_ne (x := (a_mod, .inr (8, [.int (nI (1)), .int (nI (n)), x_mod_2, x_mod_3, .ref a_mse, .int (nI (nw)), .int (nI (qn)), x_mod_7, .ref a_mce, x_mod_9, x_mod_10, x_mod_11, x_mod_12, x_mod_13, x_mod_14, x_mod_15, x_mod_16, x_mod_17, x_mod_18, x_mod_19, x_mod_20, x_mod_21, x_mod_22, x_mod_23, x_mod_24, x_mod_25, x_mod_26, x_mod_27, x_mod_28, x_mod_29, x_mod_30, x_mod_31, x_mod_32]))) (g_kne f0_mod f0_mce (Nat.ne_of_beq_eq_false rfl)) (f0_mce)
  refine lv_aload_n hx hb dX7_quote_114 rfl (lv_at hl 0 rfl) ?_
  refine va_get (D := D) (ci := 8) (v := .int (nI (1))) (C := RX7) (T := TX7) (N := 33) hx hb hts in_RX7 hown hE.1 hP _ f_mod rfl 0 (by decide) (hts (.fieldLink RX7 94 "BasketryOfficeModel" "thrown" "I") (by decide +kernel)) (fun _ h9 => h9) rfl dX7_quote_115 ?_
  refine g_if_le (tgt := 123) hx hb (by omega) dX7_quote_118 (by decide) (fun c_118 => absurd c_118 (by omega)) (fun c_118 => ?_)
  refine lv_iconst (v := nI 0) hx hb dX7_quote_121 (by decide) ?_
  refine g_iret hx hb hr hlocks () dX7_quote_122 hS hP hD ?_
  exact rfl

theorem in_x2_X7_quote_RX7 : ∀ w ∈ wsX70, w ∈ wsX7_quote := by decide +kernel
set_option maxHeartbeats 4000000 in
set_option maxRecDepth 100000 in
theorem x2_X7_quote (l : Launch) {D : va_G} {y : Nat → Nat} {ws : va_W} {x_mod_2 : Value} {x_mod_3 : Value} {x_mod_7 : Value} {x_mod_9 : Value} {x_mod_10 : Value} {x_mod_11 : Value} {x_mod_12 : Value} {x_mod_13 : Value} {x_mod_14 : Value} {x_mod_15 : Value} {x_mod_16 : Value} {x_mod_17 : Value} {x_mod_18 : Value} {x_mod_19 : Value} {x_mod_20 : Value} {x_mod_21 : Value} {x_mod_22 : Value} {x_mod_23 : Value} {x_mod_24 : Value} {x_mod_25 : Value} {x_mod_26 : Value} {x_mod_27 : Value} {x_mod_28 : Value} {x_mod_29 : Value} {x_mod_30 : Value} {x_mod_31 : Value} {x_mod_32 : Value} {p_mod p_mse p_mce a_mod a_mse a_mce : Nat} {mse : Nat → Nat} {mce : Nat → Nat} {i o : Nat} {ce gr : Int32} {nw n th qn : Nat} (f0_mod : ws[p_mod]? = some (a_mod, .inr (8, [.int (nI (th)), .int (nI (n)), x_mod_2, x_mod_3, .ref a_mse, .int (nI (nw)), .int (nI (qn)), x_mod_7, .ref a_mce, x_mod_9, x_mod_10, x_mod_11, x_mod_12, x_mod_13, x_mod_14, x_mod_15, x_mod_16, x_mod_17, x_mod_18, x_mod_19, x_mod_20, x_mod_21, x_mod_22, x_mod_23, x_mod_24, x_mod_25, x_mod_26, x_mod_27, x_mod_28, x_mod_29, x_mod_30, x_mod_31, x_mod_32]))) (f0_mse : ws[p_mse]? = some (a_mse, eN y 12 mse)) (f0_mce : ws[p_mce]? = some (a_mce, eN y 1152 mce)) (b_mse : ∀ k, mse k ≤ 4095) (b_mce : ∀ k, mce k ≤ 100000) (hw : nw ≤ 24) (hn : n ≤ 12) (hi : i < n) (ho : o < 4) (hbad : ce < nI 1 ∨ nI 100000 < ce) : gMi l yX7_quote wsX7_quote ({ frames := 2, cells := 0, slots := 0, locals := 43 }) D y [.ref a_mod, .int (nI (i)), .int (nI (o)), .int (ce), .int (gr)] ws (fun r (_ : Unit) => r = nI 0) (fun (_ : Unit) => (ws.set p_mod (a_mod, .inr (8, [.int (nI (2)), .int (nI (n)), x_mod_2, x_mod_3, .ref a_mse, .int (nI (nw)), .int (nI (qn)), x_mod_7, .ref a_mce, x_mod_9, x_mod_10, x_mod_11, x_mod_12, x_mod_13, x_mod_14, x_mod_15, x_mod_16, x_mod_17, x_mod_18, x_mod_19, x_mod_20, x_mod_21, x_mod_22, x_mod_23, x_mod_24, x_mod_25, x_mod_26, x_mod_27, x_mod_28, x_mod_29, x_mod_30, x_mod_31, x_mod_32])))) := by
  refine g_met_i (cc := cX7_quote) (maxL := 5) (by decide) rfl (Nat.le_of_ble_eq_true rfl) ?_
  intro p e s m below meth c A hx hb hml hr hts hown hnm hlocks hE hP hD hS hA ls hl
  have hown : s.vm.findClass RX7 = some m.cls := hown
  have hl : lv_has ls 5 [(0, .ref a_mod), (1, .int (nI (i))), (2, .int (nI (o))), (3, .int (ce)), (4, .int (gr))] := hl
  have in_RX7 := in_x2_X7_quote_RX7
  refine lv_aload_n hx hb dX7_quote_0 rfl (lv_at hl 0 rfl) ?_
  refine lv_aload_n hx hb dX7_quote_1 rfl (lv_at hl 0 rfl) ?_
  refine lv_iload_n hx hb dX7_quote_2 rfl (lv_at hl 1 rfl) ?_
  refine gc_V_i (As := [.int (nI (i))]) (rest := [.ref a_mod]) (c_X7_isItem l f0_mod (by omega)) ⟨hx, hb, hml, hown, hts⟩ (cwV 1 hts gX7_quote_X7_isItem rfl rfl rfl (by decide +kernel) ⟨Nat.le_of_ble_eq_true rfl, Nat.le_of_ble_eq_true rfl⟩) hE hP hD hS hA _ f0_mod rfl rfl rfl rfl hl.1 (Nat.le_of_ble_eq_true rfl) dX7_quote_3 ⟨Nat.le_of_ble_eq_true rfl, Nat.le_of_ble_eq_true rfl⟩ (fun r_3 u_3 H locs hP hD hS q_3 => ?_)
  subst q_3
  refine g_bif_eq (tgt := 16) hx hb dX7_quote_6 (by decide) (fun c_6 => absurd c_6 (by rw [decide_eq_true (rq_lt hi (by omega))]; decide)) (fun c_6 => ?_)
  refine lv_iload_n hx hb dX7_quote_9 rfl (lv_at hl 2 rfl) ?_
  refine gc_S_i (As := [.int (nI (o))]) (rest := [.ref a_mod]) (c_X7_isOutlet l) ⟨hx, hb, hml, hown, hts⟩ (va_cwS 1 hts gX7_quote_X7_isOutlet rfl rfl rfl (by decide +kernel) ⟨Nat.le_of_ble_eq_true rfl, Nat.le_of_ble_eq_true rfl⟩) hE hP hD hS hA rfl rfl hl.1 (Nat.le_of_ble_eq_true rfl) dX7_quote_10 ⟨Nat.le_of_ble_eq_true rfl, Nat.le_of_ble_eq_true rfl⟩ (fun r_10 u_10 H locs hP hD hS q_10 => ?_)
  subst q_10
  refine g_bif_ne (tgt := 20) hx hb dX7_quote_13 (by decide) (fun c_13 => ?_) (fun c_13 => absurd c_13 (by rw [decide_eq_true (rq_lt ho (by omega))]; decide))
  refine lv_iload_n hx hb dX7_quote_20 rfl (lv_at hl 3 rfl) ?_
  refine lv_iconst (v := nI 1) hx hb dX7_quote_21 (by decide) ?_
  refine lv_ldc (v := 100000) hx hb hown (hts (.constant RX7 118 (100000)) (by decide +kernel)) dX7_quote_22 ?_
  rw [show (100000 : Int32) = nI 100000 from by decide]
  refine gc_S_i (As := [.int (ce), .int (nI (1)), .int (nI (100000))]) (rest := [.ref a_mod]) (c_X7_in l) ⟨hx, hb, hml, hown, hts⟩ (va_cwS 3 hts gX7_quote_X7_in rfl rfl rfl (by decide +kernel) ⟨Nat.le_of_ble_eq_true rfl, Nat.le_of_ble_eq_true rfl⟩) hE hP hD hS hA rfl rfl hl.1 (Nat.le_of_ble_eq_true rfl) dX7_quote_24 ⟨Nat.le_of_ble_eq_true rfl, Nat.le_of_ble_eq_true rfl⟩ (fun r_24 u_24 H locs hP hD hS q_24 => ?_)
  subst q_24
  refine g_bif_eq (tgt := 42) hx hb dX7_quote_27 (by decide) (fun c_27 => ?_) (fun c_27 => absurd c_27 (by rw [decide_eq_false (fun z => z hbad)]; decide))
  refine lv_iconst (v := nI 2) hx hb dX7_quote_42 (by decide) ?_
  refine lv_goto (tgt := 47) hx hb dX7_quote_43 (by decide) ?_
  refine va_put (D := D) (ci := 8) (v := .int (nI (2))) (ty := .int) (C := RX7) (T := TX7) (N := 33) hx hb hts in_RX7 tyX7 tyX7_ok nmX7 hown hE.1 hP hD hS _ f0_mod rfl 0 (by decide) (hts (.fieldLink RX7 94 "BasketryOfficeModel" "thrown" "I") (by decide +kernel)) (fun _ h9 => h9) rfl (by decide +kernel) rfl rfl (Nat.le_of_ble_eq_true rfl) dX7_quote_47 (fun H locs hP hD hS => ?_)
  have f_mod := g_eq (x := (a_mod, .inr (8, [.int (nI (2)), .int (nI (n)), x_mod_2, x_mod_3, .ref a_mse, .int (nI (nw)), .int (nI (qn)), x_mod_7, .ref a_mce, x_mod_9, x_mod_10, x_mod_11, x_mod_12, x_mod_13, x_mod_14, x_mod_15, x_mod_16, x_mod_17, x_mod_18, x_mod_19, x_mod_20, x_mod_21, x_mod_22, x_mod_23, x_mod_24, x_mod_25, x_mod_26, x_mod_27, x_mod_28, x_mod_29, x_mod_30, x_mod_31, x_mod_32]))) (f0_mod)
  have f_mse := g_ne (x := (a_mod, .inr (8, [.int (nI (2)), .int (nI (n)), x_mod_2, x_mod_3, .ref a_mse, .int (nI (nw)), .int (nI (qn)), x_mod_7, .ref a_mce, x_mod_9, x_mod_10, x_mod_11, x_mod_12, x_mod_13, x_mod_14, x_mod_15, x_mod_16, x_mod_17, x_mod_18, x_mod_19, x_mod_20, x_mod_21, x_mod_22, x_mod_23, x_mod_24, x_mod_25, x_mod_26, x_mod_27, x_mod_28, x_mod_29, x_mod_30, x_mod_31, x_mod_32]))) (g_kne f0_mod f0_mse (Nat.ne_of_beq_eq_false rfl)) (f0_mse)
  have f_mce := g_ne (x := (a_mod, .inr (8, [.int (nI (2)), .int (nI (n)), x_mod_2, x_mod_3, .ref a_mse, .int (nI (nw)), .int (nI (qn)), x_mod_7, .ref a_mce, x_mod_9, x_mod_10, x_mod_11, x_mod_12, x_mod_13, x_mod_14, x_mod_15, x_mod_16, x_mod_17, x_mod_18, x_mod_19, x_mod_20, x_mod_21, x_mod_22, x_mod_23, x_mod_24, x_mod_25, x_mod_26, x_mod_27, x_mod_28, x_mod_29, x_mod_30, x_mod_31, x_mod_32]))) (g_kne f0_mod f0_mce (Nat.ne_of_beq_eq_false rfl)) (f0_mce)
  refine lv_aload_n hx hb dX7_quote_50 rfl (lv_at hl 0 rfl) ?_
  refine lv_aload_n hx hb dX7_quote_51 rfl (lv_at hl 0 rfl) ?_
  refine va_get (D := D) (ci := 8) (v := .int (nI (2))) (C := RX7) (T := TX7) (N := 33) hx hb hts in_RX7 hown hE.1 hP _ f_mod rfl 0 (by decide) (hts (.fieldLink RX7 94 "BasketryOfficeModel" "thrown" "I") (by decide +kernel)) (fun _ h9 => h9) rfl dX7_quote_52 ?_
  refine g_if_ne (tgt := 107) hx hb (by omega) dX7_quote_55 (by decide) (fun c_55 => ?_) (fun c_55 => absurd c_55 (by omega))
  refine lv_aload_n hx hb dX7_quote_107 rfl (lv_at hl 0 rfl) ?_
  refine va_get (D := D) (ci := 8) (v := .int (nI (2))) (C := RX7) (T := TX7) (N := 33) hx hb hts in_RX7 hown hE.1 hP _ f_mod rfl 0 (by decide) (hts (.fieldLink RX7 94 "BasketryOfficeModel" "thrown" "I") (by decide +kernel)) (fun _ h9 => h9) rfl dX7_quote_108 ?_
  refine va_put (D := D) (ci := 8) (v := .int (nI (2))) (ty := .int) (C := RX7) (T := TX7) (N := 33) hx hb hts in_RX7 tyX7 tyX7_ok nmX7 hown hE.1 hP hD hS _ f_mod rfl 0 (by decide) (hts (.fieldLink RX7 94 "BasketryOfficeModel" "thrown" "I") (by decide +kernel)) (fun _ h9 => h9) rfl (by decide +kernel) rfl rfl (Nat.le_of_ble_eq_true rfl) dX7_quote_111 (fun H locs hP hD hS => ?_)
  have hP := g_trP g_ss hP
  have hD := g_trD g_ss hD
  have f_mod := g_eq (x := (a_mod, .inr (8, [.int (nI (2)), .int (nI (n)), x_mod_2, x_mod_3, .ref a_mse, .int (nI (nw)), .int (nI (qn)), x_mod_7, .ref a_mce, x_mod_9, x_mod_10, x_mod_11, x_mod_12, x_mod_13, x_mod_14, x_mod_15, x_mod_16, x_mod_17, x_mod_18, x_mod_19, x_mod_20, x_mod_21, x_mod_22, x_mod_23, x_mod_24, x_mod_25, x_mod_26, x_mod_27, x_mod_28, x_mod_29, x_mod_30, x_mod_31, x_mod_32]))) (f0_mod)
  have f_mse := g_ne (x := (a_mod, .inr (8, [.int (nI (2)), .int (nI (n)), x_mod_2, x_mod_3, .ref a_mse, .int (nI (nw)), .int (nI (qn)), x_mod_7, .ref a_mce, x_mod_9, x_mod_10, x_mod_11, x_mod_12, x_mod_13, x_mod_14, x_mod_15, x_mod_16, x_mod_17, x_mod_18, x_mod_19, x_mod_20, x_mod_21, x_mod_22, x_mod_23, x_mod_24, x_mod_25, x_mod_26, x_mod_27, x_mod_28, x_mod_29, x_mod_30, x_mod_31, x_mod_32]))) (g_kne f0_mod f0_mse (Nat.ne_of_beq_eq_false rfl)) (f0_mse)
  have f_mce := g_ne (x := (a_mod, .inr (8, [.int (nI (2)), .int (nI (n)), x_mod_2, x_mod_3, .ref a_mse, .int (nI (nw)), .int (nI (qn)), x_mod_7, .ref a_mce, x_mod_9, x_mod_10, x_mod_11, x_mod_12, x_mod_13, x_mod_14, x_mod_15, x_mod_16, x_mod_17, x_mod_18, x_mod_19, x_mod_20, x_mod_21, x_mod_22, x_mod_23, x_mod_24, x_mod_25, x_mod_26, x_mod_27, x_mod_28, x_mod_29, x_mod_30, x_mod_31, x_mod_32]))) (g_kne f0_mod f0_mce (Nat.ne_of_beq_eq_false rfl)) (f0_mce)
  refine lv_aload_n hx hb dX7_quote_114 rfl (lv_at hl 0 rfl) ?_
  refine va_get (D := D) (ci := 8) (v := .int (nI (2))) (C := RX7) (T := TX7) (N := 33) hx hb hts in_RX7 hown hE.1 hP _ f_mod rfl 0 (by decide) (hts (.fieldLink RX7 94 "BasketryOfficeModel" "thrown" "I") (by decide +kernel)) (fun _ h9 => h9) rfl dX7_quote_115 ?_
  refine g_if_le (tgt := 123) hx hb (by omega) dX7_quote_118 (by decide) (fun c_118 => absurd c_118 (by omega)) (fun c_118 => ?_)
  refine lv_iconst (v := nI 0) hx hb dX7_quote_121 (by decide) ?_
  refine g_iret hx hb hr hlocks () dX7_quote_122 hS hP hD ?_
  exact rfl

theorem in_x3_X7_quote_RX7 : ∀ w ∈ wsX70, w ∈ wsX7_quote := by decide +kernel
set_option maxHeartbeats 4000000 in
set_option maxRecDepth 100000 in
theorem x3_X7_quote (l : Launch) {D : va_G} {y : Nat → Nat} {ws : va_W} {x_mod_2 : Value} {x_mod_3 : Value} {x_mod_7 : Value} {x_mod_9 : Value} {x_mod_10 : Value} {x_mod_11 : Value} {x_mod_12 : Value} {x_mod_13 : Value} {x_mod_14 : Value} {x_mod_15 : Value} {x_mod_16 : Value} {x_mod_17 : Value} {x_mod_18 : Value} {x_mod_19 : Value} {x_mod_20 : Value} {x_mod_21 : Value} {x_mod_22 : Value} {x_mod_23 : Value} {x_mod_24 : Value} {x_mod_25 : Value} {x_mod_26 : Value} {x_mod_27 : Value} {x_mod_28 : Value} {x_mod_29 : Value} {x_mod_30 : Value} {x_mod_31 : Value} {x_mod_32 : Value} {p_mod p_mse p_mce a_mod a_mse a_mce : Nat} {mse : Nat → Nat} {mce : Nat → Nat} {i o ce : Nat} {gr : Int32} {nw n th qn : Nat} (f0_mod : ws[p_mod]? = some (a_mod, .inr (8, [.int (nI (th)), .int (nI (n)), x_mod_2, x_mod_3, .ref a_mse, .int (nI (nw)), .int (nI (qn)), x_mod_7, .ref a_mce, x_mod_9, x_mod_10, x_mod_11, x_mod_12, x_mod_13, x_mod_14, x_mod_15, x_mod_16, x_mod_17, x_mod_18, x_mod_19, x_mod_20, x_mod_21, x_mod_22, x_mod_23, x_mod_24, x_mod_25, x_mod_26, x_mod_27, x_mod_28, x_mod_29, x_mod_30, x_mod_31, x_mod_32]))) (f0_mse : ws[p_mse]? = some (a_mse, eN y 12 mse)) (f0_mce : ws[p_mce]? = some (a_mce, eN y 1152 mce)) (b_mse : ∀ k, mse k ≤ 4095) (b_mce : ∀ k, mce k ≤ 100000) (hw : nw ≤ 24) (hn : n ≤ 12) (hi : i < n) (ho : o < 4) (hce : 1 ≤ ce) (kce : ce ≤ 100000) (hbad : gr < nI 1 ∨ nI 10000 < gr) : gMi l yX7_quote wsX7_quote ({ frames := 2, cells := 0, slots := 0, locals := 43 }) D y [.ref a_mod, .int (nI (i)), .int (nI (o)), .int (nI (ce)), .int (gr)] ws (fun r (_ : Unit) => r = nI 0) (fun (_ : Unit) => (ws.set p_mod (a_mod, .inr (8, [.int (nI (2)), .int (nI (n)), x_mod_2, x_mod_3, .ref a_mse, .int (nI (nw)), .int (nI (qn)), x_mod_7, .ref a_mce, x_mod_9, x_mod_10, x_mod_11, x_mod_12, x_mod_13, x_mod_14, x_mod_15, x_mod_16, x_mod_17, x_mod_18, x_mod_19, x_mod_20, x_mod_21, x_mod_22, x_mod_23, x_mod_24, x_mod_25, x_mod_26, x_mod_27, x_mod_28, x_mod_29, x_mod_30, x_mod_31, x_mod_32])))) := by
  refine g_met_i (cc := cX7_quote) (maxL := 5) (by decide) rfl (Nat.le_of_ble_eq_true rfl) ?_
  intro p e s m below meth c A hx hb hml hr hts hown hnm hlocks hE hP hD hS hA ls hl
  have hown : s.vm.findClass RX7 = some m.cls := hown
  have hl : lv_has ls 5 [(0, .ref a_mod), (1, .int (nI (i))), (2, .int (nI (o))), (3, .int (nI (ce))), (4, .int (gr))] := hl
  have in_RX7 := in_x3_X7_quote_RX7
  refine lv_aload_n hx hb dX7_quote_0 rfl (lv_at hl 0 rfl) ?_
  refine lv_aload_n hx hb dX7_quote_1 rfl (lv_at hl 0 rfl) ?_
  refine lv_iload_n hx hb dX7_quote_2 rfl (lv_at hl 1 rfl) ?_
  refine gc_V_i (As := [.int (nI (i))]) (rest := [.ref a_mod]) (c_X7_isItem l f0_mod (by omega)) ⟨hx, hb, hml, hown, hts⟩ (cwV 1 hts gX7_quote_X7_isItem rfl rfl rfl (by decide +kernel) ⟨Nat.le_of_ble_eq_true rfl, Nat.le_of_ble_eq_true rfl⟩) hE hP hD hS hA _ f0_mod rfl rfl rfl rfl hl.1 (Nat.le_of_ble_eq_true rfl) dX7_quote_3 ⟨Nat.le_of_ble_eq_true rfl, Nat.le_of_ble_eq_true rfl⟩ (fun r_3 u_3 H locs hP hD hS q_3 => ?_)
  subst q_3
  refine g_bif_eq (tgt := 16) hx hb dX7_quote_6 (by decide) (fun c_6 => absurd c_6 (by rw [decide_eq_true (rq_lt hi (by omega))]; decide)) (fun c_6 => ?_)
  refine lv_iload_n hx hb dX7_quote_9 rfl (lv_at hl 2 rfl) ?_
  refine gc_S_i (As := [.int (nI (o))]) (rest := [.ref a_mod]) (c_X7_isOutlet l) ⟨hx, hb, hml, hown, hts⟩ (va_cwS 1 hts gX7_quote_X7_isOutlet rfl rfl rfl (by decide +kernel) ⟨Nat.le_of_ble_eq_true rfl, Nat.le_of_ble_eq_true rfl⟩) hE hP hD hS hA rfl rfl hl.1 (Nat.le_of_ble_eq_true rfl) dX7_quote_10 ⟨Nat.le_of_ble_eq_true rfl, Nat.le_of_ble_eq_true rfl⟩ (fun r_10 u_10 H locs hP hD hS q_10 => ?_)
  subst q_10
  refine g_bif_ne (tgt := 20) hx hb dX7_quote_13 (by decide) (fun c_13 => ?_) (fun c_13 => absurd c_13 (by rw [decide_eq_true (rq_lt ho (by omega))]; decide))
  refine lv_iload_n hx hb dX7_quote_20 rfl (lv_at hl 3 rfl) ?_
  refine lv_iconst (v := nI 1) hx hb dX7_quote_21 (by decide) ?_
  refine lv_ldc (v := 100000) hx hb hown (hts (.constant RX7 118 (100000)) (by decide +kernel)) dX7_quote_22 ?_
  rw [show (100000 : Int32) = nI 100000 from by decide]
  refine gc_S_i (As := [.int (nI (ce)), .int (nI (1)), .int (nI (100000))]) (rest := [.ref a_mod]) (c_X7_in l) ⟨hx, hb, hml, hown, hts⟩ (va_cwS 3 hts gX7_quote_X7_in rfl rfl rfl (by decide +kernel) ⟨Nat.le_of_ble_eq_true rfl, Nat.le_of_ble_eq_true rfl⟩) hE hP hD hS hA rfl rfl hl.1 (Nat.le_of_ble_eq_true rfl) dX7_quote_24 ⟨Nat.le_of_ble_eq_true rfl, Nat.le_of_ble_eq_true rfl⟩ (fun r_24 u_24 H locs hP hD hS q_24 => ?_)
  subst q_24
  refine g_bif_eq (tgt := 42) hx hb dX7_quote_27 (by decide) (fun c_27 => absurd c_27 (by rw [decide_eq_true (rq_rg hce kce (by decide))]; decide)) (fun c_27 => ?_)
  refine lv_iload hx hb dX7_quote_30 (lv_at hl 4 rfl) ?_
  refine lv_iconst (v := nI 1) hx hb dX7_quote_32 (by decide) ?_
  refine lv_sipush (v := nI 10000) hx hb dX7_quote_33 (by decide) ?_
  refine gc_S_i (As := [.int (gr), .int (nI (1)), .int (nI (10000))]) (rest := [.ref a_mod]) (c_X7_in l) ⟨hx, hb, hml, hown, hts⟩ (va_cwS 3 hts gX7_quote_X7_in rfl rfl rfl (by decide +kernel) ⟨Nat.le_of_ble_eq_true rfl, Nat.le_of_ble_eq_true rfl⟩) hE hP hD hS hA rfl rfl hl.1 (Nat.le_of_ble_eq_true rfl) dX7_quote_36 ⟨Nat.le_of_ble_eq_true rfl, Nat.le_of_ble_eq_true rfl⟩ (fun r_36 u_36 H locs hP hD hS q_36 => ?_)
  subst q_36
  refine g_bif_ne (tgt := 46) hx hb dX7_quote_39 (by decide) (fun c_39 => absurd c_39 (by rw [decide_eq_false (fun z => z hbad)]; decide)) (fun c_39 => ?_)
  refine lv_iconst (v := nI 2) hx hb dX7_quote_42 (by decide) ?_
  refine lv_goto (tgt := 47) hx hb dX7_quote_43 (by decide) ?_
  refine va_put (D := D) (ci := 8) (v := .int (nI (2))) (ty := .int) (C := RX7) (T := TX7) (N := 33) hx hb hts in_RX7 tyX7 tyX7_ok nmX7 hown hE.1 hP hD hS _ f0_mod rfl 0 (by decide) (hts (.fieldLink RX7 94 "BasketryOfficeModel" "thrown" "I") (by decide +kernel)) (fun _ h9 => h9) rfl (by decide +kernel) rfl rfl (Nat.le_of_ble_eq_true rfl) dX7_quote_47 (fun H locs hP hD hS => ?_)
  have f_mod := g_eq (x := (a_mod, .inr (8, [.int (nI (2)), .int (nI (n)), x_mod_2, x_mod_3, .ref a_mse, .int (nI (nw)), .int (nI (qn)), x_mod_7, .ref a_mce, x_mod_9, x_mod_10, x_mod_11, x_mod_12, x_mod_13, x_mod_14, x_mod_15, x_mod_16, x_mod_17, x_mod_18, x_mod_19, x_mod_20, x_mod_21, x_mod_22, x_mod_23, x_mod_24, x_mod_25, x_mod_26, x_mod_27, x_mod_28, x_mod_29, x_mod_30, x_mod_31, x_mod_32]))) (f0_mod)
  have f_mse := g_ne (x := (a_mod, .inr (8, [.int (nI (2)), .int (nI (n)), x_mod_2, x_mod_3, .ref a_mse, .int (nI (nw)), .int (nI (qn)), x_mod_7, .ref a_mce, x_mod_9, x_mod_10, x_mod_11, x_mod_12, x_mod_13, x_mod_14, x_mod_15, x_mod_16, x_mod_17, x_mod_18, x_mod_19, x_mod_20, x_mod_21, x_mod_22, x_mod_23, x_mod_24, x_mod_25, x_mod_26, x_mod_27, x_mod_28, x_mod_29, x_mod_30, x_mod_31, x_mod_32]))) (g_kne f0_mod f0_mse (Nat.ne_of_beq_eq_false rfl)) (f0_mse)
  have f_mce := g_ne (x := (a_mod, .inr (8, [.int (nI (2)), .int (nI (n)), x_mod_2, x_mod_3, .ref a_mse, .int (nI (nw)), .int (nI (qn)), x_mod_7, .ref a_mce, x_mod_9, x_mod_10, x_mod_11, x_mod_12, x_mod_13, x_mod_14, x_mod_15, x_mod_16, x_mod_17, x_mod_18, x_mod_19, x_mod_20, x_mod_21, x_mod_22, x_mod_23, x_mod_24, x_mod_25, x_mod_26, x_mod_27, x_mod_28, x_mod_29, x_mod_30, x_mod_31, x_mod_32]))) (g_kne f0_mod f0_mce (Nat.ne_of_beq_eq_false rfl)) (f0_mce)
  refine lv_aload_n hx hb dX7_quote_50 rfl (lv_at hl 0 rfl) ?_
  refine lv_aload_n hx hb dX7_quote_51 rfl (lv_at hl 0 rfl) ?_
  refine va_get (D := D) (ci := 8) (v := .int (nI (2))) (C := RX7) (T := TX7) (N := 33) hx hb hts in_RX7 hown hE.1 hP _ f_mod rfl 0 (by decide) (hts (.fieldLink RX7 94 "BasketryOfficeModel" "thrown" "I") (by decide +kernel)) (fun _ h9 => h9) rfl dX7_quote_52 ?_
  refine g_if_ne (tgt := 107) hx hb (by omega) dX7_quote_55 (by decide) (fun c_55 => ?_) (fun c_55 => absurd c_55 (by omega))
  refine lv_aload_n hx hb dX7_quote_107 rfl (lv_at hl 0 rfl) ?_
  refine va_get (D := D) (ci := 8) (v := .int (nI (2))) (C := RX7) (T := TX7) (N := 33) hx hb hts in_RX7 hown hE.1 hP _ f_mod rfl 0 (by decide) (hts (.fieldLink RX7 94 "BasketryOfficeModel" "thrown" "I") (by decide +kernel)) (fun _ h9 => h9) rfl dX7_quote_108 ?_
  refine va_put (D := D) (ci := 8) (v := .int (nI (2))) (ty := .int) (C := RX7) (T := TX7) (N := 33) hx hb hts in_RX7 tyX7 tyX7_ok nmX7 hown hE.1 hP hD hS _ f_mod rfl 0 (by decide) (hts (.fieldLink RX7 94 "BasketryOfficeModel" "thrown" "I") (by decide +kernel)) (fun _ h9 => h9) rfl (by decide +kernel) rfl rfl (Nat.le_of_ble_eq_true rfl) dX7_quote_111 (fun H locs hP hD hS => ?_)
  have hP := g_trP g_ss hP
  have hD := g_trD g_ss hD
  have f_mod := g_eq (x := (a_mod, .inr (8, [.int (nI (2)), .int (nI (n)), x_mod_2, x_mod_3, .ref a_mse, .int (nI (nw)), .int (nI (qn)), x_mod_7, .ref a_mce, x_mod_9, x_mod_10, x_mod_11, x_mod_12, x_mod_13, x_mod_14, x_mod_15, x_mod_16, x_mod_17, x_mod_18, x_mod_19, x_mod_20, x_mod_21, x_mod_22, x_mod_23, x_mod_24, x_mod_25, x_mod_26, x_mod_27, x_mod_28, x_mod_29, x_mod_30, x_mod_31, x_mod_32]))) (f0_mod)
  have f_mse := g_ne (x := (a_mod, .inr (8, [.int (nI (2)), .int (nI (n)), x_mod_2, x_mod_3, .ref a_mse, .int (nI (nw)), .int (nI (qn)), x_mod_7, .ref a_mce, x_mod_9, x_mod_10, x_mod_11, x_mod_12, x_mod_13, x_mod_14, x_mod_15, x_mod_16, x_mod_17, x_mod_18, x_mod_19, x_mod_20, x_mod_21, x_mod_22, x_mod_23, x_mod_24, x_mod_25, x_mod_26, x_mod_27, x_mod_28, x_mod_29, x_mod_30, x_mod_31, x_mod_32]))) (g_kne f0_mod f0_mse (Nat.ne_of_beq_eq_false rfl)) (f0_mse)
  have f_mce := g_ne (x := (a_mod, .inr (8, [.int (nI (2)), .int (nI (n)), x_mod_2, x_mod_3, .ref a_mse, .int (nI (nw)), .int (nI (qn)), x_mod_7, .ref a_mce, x_mod_9, x_mod_10, x_mod_11, x_mod_12, x_mod_13, x_mod_14, x_mod_15, x_mod_16, x_mod_17, x_mod_18, x_mod_19, x_mod_20, x_mod_21, x_mod_22, x_mod_23, x_mod_24, x_mod_25, x_mod_26, x_mod_27, x_mod_28, x_mod_29, x_mod_30, x_mod_31, x_mod_32]))) (g_kne f0_mod f0_mce (Nat.ne_of_beq_eq_false rfl)) (f0_mce)
  refine lv_aload_n hx hb dX7_quote_114 rfl (lv_at hl 0 rfl) ?_
  refine va_get (D := D) (ci := 8) (v := .int (nI (2))) (C := RX7) (T := TX7) (N := 33) hx hb hts in_RX7 hown hE.1 hP _ f_mod rfl 0 (by decide) (hts (.fieldLink RX7 94 "BasketryOfficeModel" "thrown" "I") (by decide +kernel)) (fun _ h9 => h9) rfl dX7_quote_115 ?_
  refine g_if_le (tgt := 123) hx hb (by omega) dX7_quote_118 (by decide) (fun c_118 => absurd c_118 (by omega)) (fun c_118 => ?_)
  refine lv_iconst (v := nI 0) hx hb dX7_quote_121 (by decide) ?_
  refine g_iret hx hb hr hlocks () dX7_quote_122 hS hP hD ?_
  exact rfl

theorem in_x4_X7_quote_RX7 : ∀ w ∈ wsX70, w ∈ wsX7_quote := by decide +kernel
set_option maxHeartbeats 4000000 in
set_option maxRecDepth 100000 in
theorem x4_X7_quote (l : Launch) {D : va_G} {y : Nat → Nat} {ws : va_W} {x_mod_2 : Value} {x_mod_3 : Value} {x_mod_7 : Value} {x_mod_9 : Value} {x_mod_10 : Value} {x_mod_11 : Value} {x_mod_12 : Value} {x_mod_13 : Value} {x_mod_14 : Value} {x_mod_15 : Value} {x_mod_16 : Value} {x_mod_17 : Value} {x_mod_18 : Value} {x_mod_19 : Value} {x_mod_20 : Value} {x_mod_21 : Value} {x_mod_22 : Value} {x_mod_23 : Value} {x_mod_24 : Value} {x_mod_25 : Value} {x_mod_26 : Value} {x_mod_27 : Value} {x_mod_28 : Value} {x_mod_29 : Value} {x_mod_30 : Value} {x_mod_31 : Value} {x_mod_32 : Value} {p_mod p_mse p_mce a_mod a_mse a_mce : Nat} {mse : Nat → Nat} {mce : Nat → Nat} {i o ce gr : Nat} {nw n th qn : Nat} (f0_mod : ws[p_mod]? = some (a_mod, .inr (8, [.int (nI (th)), .int (nI (n)), x_mod_2, x_mod_3, .ref a_mse, .int (nI (nw)), .int (nI (qn)), x_mod_7, .ref a_mce, x_mod_9, x_mod_10, x_mod_11, x_mod_12, x_mod_13, x_mod_14, x_mod_15, x_mod_16, x_mod_17, x_mod_18, x_mod_19, x_mod_20, x_mod_21, x_mod_22, x_mod_23, x_mod_24, x_mod_25, x_mod_26, x_mod_27, x_mod_28, x_mod_29, x_mod_30, x_mod_31, x_mod_32]))) (f0_mse : ws[p_mse]? = some (a_mse, eN y 12 mse)) (f0_mce : ws[p_mce]? = some (a_mce, eN y 1152 mce)) (b_mse : ∀ k, mse k ≤ 4095) (b_mce : ∀ k, mce k ≤ 100000) (hw : nw ≤ 24) (hn : n ≤ 12) (hi : i < n) (ho : o < 4) (hce : 1 ≤ ce) (kce : ce ≤ 100000) (hgr : 1 ≤ gr) (kgr : gr ≤ 10000) (hbad : 24 ≤ nw) : gMi l yX7_quote wsX7_quote ({ frames := 2, cells := 0, slots := 0, locals := 43 }) D y [.ref a_mod, .int (nI (i)), .int (nI (o)), .int (nI (ce)), .int (nI (gr))] ws (fun r (_ : Unit) => r = nI 0) (fun (_ : Unit) => (ws.set p_mod (a_mod, .inr (8, [.int (nI (3)), .int (nI (n)), x_mod_2, x_mod_3, .ref a_mse, .int (nI (nw)), .int (nI (qn)), x_mod_7, .ref a_mce, x_mod_9, x_mod_10, x_mod_11, x_mod_12, x_mod_13, x_mod_14, x_mod_15, x_mod_16, x_mod_17, x_mod_18, x_mod_19, x_mod_20, x_mod_21, x_mod_22, x_mod_23, x_mod_24, x_mod_25, x_mod_26, x_mod_27, x_mod_28, x_mod_29, x_mod_30, x_mod_31, x_mod_32])))) := by
  refine g_met_i (cc := cX7_quote) (maxL := 5) (by decide) rfl (Nat.le_of_ble_eq_true rfl) ?_
  intro p e s m below meth c A hx hb hml hr hts hown hnm hlocks hE hP hD hS hA ls hl
  have hown : s.vm.findClass RX7 = some m.cls := hown
  have hl : lv_has ls 5 [(0, .ref a_mod), (1, .int (nI (i))), (2, .int (nI (o))), (3, .int (nI (ce))), (4, .int (nI (gr)))] := hl
  have in_RX7 := in_x4_X7_quote_RX7
  refine lv_aload_n hx hb dX7_quote_0 rfl (lv_at hl 0 rfl) ?_
  refine lv_aload_n hx hb dX7_quote_1 rfl (lv_at hl 0 rfl) ?_
  refine lv_iload_n hx hb dX7_quote_2 rfl (lv_at hl 1 rfl) ?_
  refine gc_V_i (As := [.int (nI (i))]) (rest := [.ref a_mod]) (c_X7_isItem l f0_mod (by omega)) ⟨hx, hb, hml, hown, hts⟩ (cwV 1 hts gX7_quote_X7_isItem rfl rfl rfl (by decide +kernel) ⟨Nat.le_of_ble_eq_true rfl, Nat.le_of_ble_eq_true rfl⟩) hE hP hD hS hA _ f0_mod rfl rfl rfl rfl hl.1 (Nat.le_of_ble_eq_true rfl) dX7_quote_3 ⟨Nat.le_of_ble_eq_true rfl, Nat.le_of_ble_eq_true rfl⟩ (fun r_3 u_3 H locs hP hD hS q_3 => ?_)
  subst q_3
  refine g_bif_eq (tgt := 16) hx hb dX7_quote_6 (by decide) (fun c_6 => absurd c_6 (by rw [decide_eq_true (rq_lt hi (by omega))]; decide)) (fun c_6 => ?_)
  refine lv_iload_n hx hb dX7_quote_9 rfl (lv_at hl 2 rfl) ?_
  refine gc_S_i (As := [.int (nI (o))]) (rest := [.ref a_mod]) (c_X7_isOutlet l) ⟨hx, hb, hml, hown, hts⟩ (va_cwS 1 hts gX7_quote_X7_isOutlet rfl rfl rfl (by decide +kernel) ⟨Nat.le_of_ble_eq_true rfl, Nat.le_of_ble_eq_true rfl⟩) hE hP hD hS hA rfl rfl hl.1 (Nat.le_of_ble_eq_true rfl) dX7_quote_10 ⟨Nat.le_of_ble_eq_true rfl, Nat.le_of_ble_eq_true rfl⟩ (fun r_10 u_10 H locs hP hD hS q_10 => ?_)
  subst q_10
  refine g_bif_ne (tgt := 20) hx hb dX7_quote_13 (by decide) (fun c_13 => ?_) (fun c_13 => absurd c_13 (by rw [decide_eq_true (rq_lt ho (by omega))]; decide))
  refine lv_iload_n hx hb dX7_quote_20 rfl (lv_at hl 3 rfl) ?_
  refine lv_iconst (v := nI 1) hx hb dX7_quote_21 (by decide) ?_
  refine lv_ldc (v := 100000) hx hb hown (hts (.constant RX7 118 (100000)) (by decide +kernel)) dX7_quote_22 ?_
  rw [show (100000 : Int32) = nI 100000 from by decide]
  refine gc_S_i (As := [.int (nI (ce)), .int (nI (1)), .int (nI (100000))]) (rest := [.ref a_mod]) (c_X7_in l) ⟨hx, hb, hml, hown, hts⟩ (va_cwS 3 hts gX7_quote_X7_in rfl rfl rfl (by decide +kernel) ⟨Nat.le_of_ble_eq_true rfl, Nat.le_of_ble_eq_true rfl⟩) hE hP hD hS hA rfl rfl hl.1 (Nat.le_of_ble_eq_true rfl) dX7_quote_24 ⟨Nat.le_of_ble_eq_true rfl, Nat.le_of_ble_eq_true rfl⟩ (fun r_24 u_24 H locs hP hD hS q_24 => ?_)
  subst q_24
  refine g_bif_eq (tgt := 42) hx hb dX7_quote_27 (by decide) (fun c_27 => absurd c_27 (by rw [decide_eq_true (rq_rg hce kce (by decide))]; decide)) (fun c_27 => ?_)
  refine lv_iload hx hb dX7_quote_30 (lv_at hl 4 rfl) ?_
  refine lv_iconst (v := nI 1) hx hb dX7_quote_32 (by decide) ?_
  refine lv_sipush (v := nI 10000) hx hb dX7_quote_33 (by decide) ?_
  refine gc_S_i (As := [.int (nI (gr)), .int (nI (1)), .int (nI (10000))]) (rest := [.ref a_mod]) (c_X7_in l) ⟨hx, hb, hml, hown, hts⟩ (va_cwS 3 hts gX7_quote_X7_in rfl rfl rfl (by decide +kernel) ⟨Nat.le_of_ble_eq_true rfl, Nat.le_of_ble_eq_true rfl⟩) hE hP hD hS hA rfl rfl hl.1 (Nat.le_of_ble_eq_true rfl) dX7_quote_36 ⟨Nat.le_of_ble_eq_true rfl, Nat.le_of_ble_eq_true rfl⟩ (fun r_36 u_36 H locs hP hD hS q_36 => ?_)
  subst q_36
  refine g_bif_ne (tgt := 46) hx hb dX7_quote_39 (by decide) (fun c_39 => ?_) (fun c_39 => absurd c_39 (by rw [decide_eq_true (rq_rg hgr kgr (by decide))]; decide))
  refine lv_iconst (v := nI 0) hx hb dX7_quote_46 (by decide) ?_
  refine va_put (D := D) (ci := 8) (v := .int (nI (0))) (ty := .int) (C := RX7) (T := TX7) (N := 33) hx hb hts in_RX7 tyX7 tyX7_ok nmX7 hown hE.1 hP hD hS _ f0_mod rfl 0 (by decide) (hts (.fieldLink RX7 94 "BasketryOfficeModel" "thrown" "I") (by decide +kernel)) (fun _ h9 => h9) rfl (by decide +kernel) rfl rfl (Nat.le_of_ble_eq_true rfl) dX7_quote_47 (fun H locs hP hD hS => ?_)
  have f_mod := g_eq (x := (a_mod, .inr (8, [.int (nI (0)), .int (nI (n)), x_mod_2, x_mod_3, .ref a_mse, .int (nI (nw)), .int (nI (qn)), x_mod_7, .ref a_mce, x_mod_9, x_mod_10, x_mod_11, x_mod_12, x_mod_13, x_mod_14, x_mod_15, x_mod_16, x_mod_17, x_mod_18, x_mod_19, x_mod_20, x_mod_21, x_mod_22, x_mod_23, x_mod_24, x_mod_25, x_mod_26, x_mod_27, x_mod_28, x_mod_29, x_mod_30, x_mod_31, x_mod_32]))) (f0_mod)
  have f_mse := g_ne (x := (a_mod, .inr (8, [.int (nI (0)), .int (nI (n)), x_mod_2, x_mod_3, .ref a_mse, .int (nI (nw)), .int (nI (qn)), x_mod_7, .ref a_mce, x_mod_9, x_mod_10, x_mod_11, x_mod_12, x_mod_13, x_mod_14, x_mod_15, x_mod_16, x_mod_17, x_mod_18, x_mod_19, x_mod_20, x_mod_21, x_mod_22, x_mod_23, x_mod_24, x_mod_25, x_mod_26, x_mod_27, x_mod_28, x_mod_29, x_mod_30, x_mod_31, x_mod_32]))) (g_kne f0_mod f0_mse (Nat.ne_of_beq_eq_false rfl)) (f0_mse)
  have f_mce := g_ne (x := (a_mod, .inr (8, [.int (nI (0)), .int (nI (n)), x_mod_2, x_mod_3, .ref a_mse, .int (nI (nw)), .int (nI (qn)), x_mod_7, .ref a_mce, x_mod_9, x_mod_10, x_mod_11, x_mod_12, x_mod_13, x_mod_14, x_mod_15, x_mod_16, x_mod_17, x_mod_18, x_mod_19, x_mod_20, x_mod_21, x_mod_22, x_mod_23, x_mod_24, x_mod_25, x_mod_26, x_mod_27, x_mod_28, x_mod_29, x_mod_30, x_mod_31, x_mod_32]))) (g_kne f0_mod f0_mce (Nat.ne_of_beq_eq_false rfl)) (f0_mce)
  refine lv_aload_n hx hb dX7_quote_50 rfl (lv_at hl 0 rfl) ?_
  refine lv_aload_n hx hb dX7_quote_51 rfl (lv_at hl 0 rfl) ?_
  refine va_get (D := D) (ci := 8) (v := .int (nI (0))) (C := RX7) (T := TX7) (N := 33) hx hb hts in_RX7 hown hE.1 hP _ f_mod rfl 0 (by decide) (hts (.fieldLink RX7 94 "BasketryOfficeModel" "thrown" "I") (by decide +kernel)) (fun _ h9 => h9) rfl dX7_quote_52 ?_
  refine g_if_ne (tgt := 107) hx hb (by omega) dX7_quote_55 (by decide) (fun c_55 => absurd c_55 (by omega)) (fun c_55 => ?_)
  refine lv_aload_n hx hb dX7_quote_58 rfl (lv_at hl 0 rfl) ?_
  refine va_get (D := D) (ci := 8) (v := .int (nI (nw))) (C := RX7) (T := TX7) (N := 33) hx hb hts in_RX7 hown hE.1 hP _ f_mod rfl 5 (by decide) (hts (.fieldLink RX7 105 "BasketryOfficeModel" "now" "I") (by decide +kernel)) (fun _ h9 => h9) rfl dX7_quote_59 ?_
  refine lv_bipush (v := nI 24) hx hb dX7_quote_62 (by decide) ?_
  refine g_icmp_eq (tgt := 103) hx hb (by omega) (by omega) dX7_quote_64 (by decide) (fun c_64 => ?_) (fun c_64 => absurd c_64 (by omega))
  refine lv_iconst (v := nI 3) hx hb dX7_quote_103 (by decide) ?_
  refine lv_goto (tgt := 111) hx hb dX7_quote_104 (by decide) ?_
  refine va_put (D := D) (ci := 8) (v := .int (nI (3))) (ty := .int) (C := RX7) (T := TX7) (N := 33) hx hb hts in_RX7 tyX7 tyX7_ok nmX7 hown hE.1 hP hD hS _ f_mod rfl 0 (by decide) (hts (.fieldLink RX7 94 "BasketryOfficeModel" "thrown" "I") (by decide +kernel)) (fun _ h9 => h9) rfl (by decide +kernel) rfl rfl (Nat.le_of_ble_eq_true rfl) dX7_quote_111 (fun H locs hP hD hS => ?_)
  have hP := g_trP g_ss hP
  have hD := g_trD g_ss hD
  have f_mod := g_eq (x := (a_mod, .inr (8, [.int (nI (3)), .int (nI (n)), x_mod_2, x_mod_3, .ref a_mse, .int (nI (nw)), .int (nI (qn)), x_mod_7, .ref a_mce, x_mod_9, x_mod_10, x_mod_11, x_mod_12, x_mod_13, x_mod_14, x_mod_15, x_mod_16, x_mod_17, x_mod_18, x_mod_19, x_mod_20, x_mod_21, x_mod_22, x_mod_23, x_mod_24, x_mod_25, x_mod_26, x_mod_27, x_mod_28, x_mod_29, x_mod_30, x_mod_31, x_mod_32]))) (f0_mod)
  have f_mse := g_ne (x := (a_mod, .inr (8, [.int (nI (3)), .int (nI (n)), x_mod_2, x_mod_3, .ref a_mse, .int (nI (nw)), .int (nI (qn)), x_mod_7, .ref a_mce, x_mod_9, x_mod_10, x_mod_11, x_mod_12, x_mod_13, x_mod_14, x_mod_15, x_mod_16, x_mod_17, x_mod_18, x_mod_19, x_mod_20, x_mod_21, x_mod_22, x_mod_23, x_mod_24, x_mod_25, x_mod_26, x_mod_27, x_mod_28, x_mod_29, x_mod_30, x_mod_31, x_mod_32]))) (g_kne f0_mod f0_mse (Nat.ne_of_beq_eq_false rfl)) (f0_mse)
  have f_mce := g_ne (x := (a_mod, .inr (8, [.int (nI (3)), .int (nI (n)), x_mod_2, x_mod_3, .ref a_mse, .int (nI (nw)), .int (nI (qn)), x_mod_7, .ref a_mce, x_mod_9, x_mod_10, x_mod_11, x_mod_12, x_mod_13, x_mod_14, x_mod_15, x_mod_16, x_mod_17, x_mod_18, x_mod_19, x_mod_20, x_mod_21, x_mod_22, x_mod_23, x_mod_24, x_mod_25, x_mod_26, x_mod_27, x_mod_28, x_mod_29, x_mod_30, x_mod_31, x_mod_32]))) (g_kne f0_mod f0_mce (Nat.ne_of_beq_eq_false rfl)) (f0_mce)
  refine lv_aload_n hx hb dX7_quote_114 rfl (lv_at hl 0 rfl) ?_
  refine va_get (D := D) (ci := 8) (v := .int (nI (3))) (C := RX7) (T := TX7) (N := 33) hx hb hts in_RX7 hown hE.1 hP _ f_mod rfl 0 (by decide) (hts (.fieldLink RX7 94 "BasketryOfficeModel" "thrown" "I") (by decide +kernel)) (fun _ h9 => h9) rfl dX7_quote_115 ?_
  refine g_if_le (tgt := 123) hx hb (by omega) dX7_quote_118 (by decide) (fun c_118 => absurd c_118 (by omega)) (fun c_118 => ?_)
  refine lv_iconst (v := nI 0) hx hb dX7_quote_121 (by decide) ?_
  refine g_iret hx hb hr hlocks () dX7_quote_122 hS hP hD ?_
  exact rfl

theorem in_x5_X7_quote_RX7 : ∀ w ∈ wsX70, w ∈ wsX7_quote := by decide +kernel
set_option maxHeartbeats 4000000 in
set_option maxRecDepth 100000 in
theorem x5_X7_quote (l : Launch) {D : va_G} {y : Nat → Nat} {ws : va_W} {x_mod_2 : Value} {x_mod_3 : Value} {x_mod_7 : Value} {x_mod_9 : Value} {x_mod_10 : Value} {x_mod_11 : Value} {x_mod_12 : Value} {x_mod_13 : Value} {x_mod_14 : Value} {x_mod_15 : Value} {x_mod_16 : Value} {x_mod_17 : Value} {x_mod_18 : Value} {x_mod_19 : Value} {x_mod_20 : Value} {x_mod_21 : Value} {x_mod_22 : Value} {x_mod_23 : Value} {x_mod_24 : Value} {x_mod_25 : Value} {x_mod_26 : Value} {x_mod_27 : Value} {x_mod_28 : Value} {x_mod_29 : Value} {x_mod_30 : Value} {x_mod_31 : Value} {x_mod_32 : Value} {p_mod p_mse p_mce a_mod a_mse a_mce : Nat} {mse : Nat → Nat} {mce : Nat → Nat} {i o ce gr : Nat} {nw n th qn : Nat} (f0_mod : ws[p_mod]? = some (a_mod, .inr (8, [.int (nI (th)), .int (nI (n)), x_mod_2, x_mod_3, .ref a_mse, .int (nI (nw)), .int (nI (qn)), x_mod_7, .ref a_mce, x_mod_9, x_mod_10, x_mod_11, x_mod_12, x_mod_13, x_mod_14, x_mod_15, x_mod_16, x_mod_17, x_mod_18, x_mod_19, x_mod_20, x_mod_21, x_mod_22, x_mod_23, x_mod_24, x_mod_25, x_mod_26, x_mod_27, x_mod_28, x_mod_29, x_mod_30, x_mod_31, x_mod_32]))) (f0_mse : ws[p_mse]? = some (a_mse, eN y 12 mse)) (f0_mce : ws[p_mce]? = some (a_mce, eN y 1152 mce)) (b_mse : ∀ k, mse k ≤ 4095) (b_mce : ∀ k, mce k ≤ 100000) (hw : nw ≤ 24) (hn : n ≤ 12) (hi : i < n) (ho : o < 4) (hce : 1 ≤ ce) (kce : ce ≤ 100000) (hgr : 1 ≤ gr) (kgr : gr ≤ 10000) (hnw : nw < 24) (hbad : (mse i).testBit (nw % 12) = false) : gMi l yX7_quote wsX7_quote ({ frames := 2, cells := 0, slots := 0, locals := 43 }) D y [.ref a_mod, .int (nI (i)), .int (nI (o)), .int (nI (ce)), .int (nI (gr))] ws (fun r (_ : Unit) => r = nI 0) (fun (_ : Unit) => (ws.set p_mod (a_mod, .inr (8, [.int (nI (3)), .int (nI (n)), x_mod_2, x_mod_3, .ref a_mse, .int (nI (nw)), .int (nI (qn)), x_mod_7, .ref a_mce, x_mod_9, x_mod_10, x_mod_11, x_mod_12, x_mod_13, x_mod_14, x_mod_15, x_mod_16, x_mod_17, x_mod_18, x_mod_19, x_mod_20, x_mod_21, x_mod_22, x_mod_23, x_mod_24, x_mod_25, x_mod_26, x_mod_27, x_mod_28, x_mod_29, x_mod_30, x_mod_31, x_mod_32])))) := by
  refine g_met_i (cc := cX7_quote) (maxL := 5) (by decide) rfl (Nat.le_of_ble_eq_true rfl) ?_
  intro p e s m below meth c A hx hb hml hr hts hown hnm hlocks hE hP hD hS hA ls hl
  have hown : s.vm.findClass RX7 = some m.cls := hown
  have hl : lv_has ls 5 [(0, .ref a_mod), (1, .int (nI (i))), (2, .int (nI (o))), (3, .int (nI (ce))), (4, .int (nI (gr)))] := hl
  have in_RX7 := in_x5_X7_quote_RX7
  refine lv_aload_n hx hb dX7_quote_0 rfl (lv_at hl 0 rfl) ?_
  refine lv_aload_n hx hb dX7_quote_1 rfl (lv_at hl 0 rfl) ?_
  refine lv_iload_n hx hb dX7_quote_2 rfl (lv_at hl 1 rfl) ?_
  refine gc_V_i (As := [.int (nI (i))]) (rest := [.ref a_mod]) (c_X7_isItem l f0_mod (by omega)) ⟨hx, hb, hml, hown, hts⟩ (cwV 1 hts gX7_quote_X7_isItem rfl rfl rfl (by decide +kernel) ⟨Nat.le_of_ble_eq_true rfl, Nat.le_of_ble_eq_true rfl⟩) hE hP hD hS hA _ f0_mod rfl rfl rfl rfl hl.1 (Nat.le_of_ble_eq_true rfl) dX7_quote_3 ⟨Nat.le_of_ble_eq_true rfl, Nat.le_of_ble_eq_true rfl⟩ (fun r_3 u_3 H locs hP hD hS q_3 => ?_)
  subst q_3
  refine g_bif_eq (tgt := 16) hx hb dX7_quote_6 (by decide) (fun c_6 => absurd c_6 (by rw [decide_eq_true (rq_lt hi (by omega))]; decide)) (fun c_6 => ?_)
  refine lv_iload_n hx hb dX7_quote_9 rfl (lv_at hl 2 rfl) ?_
  refine gc_S_i (As := [.int (nI (o))]) (rest := [.ref a_mod]) (c_X7_isOutlet l) ⟨hx, hb, hml, hown, hts⟩ (va_cwS 1 hts gX7_quote_X7_isOutlet rfl rfl rfl (by decide +kernel) ⟨Nat.le_of_ble_eq_true rfl, Nat.le_of_ble_eq_true rfl⟩) hE hP hD hS hA rfl rfl hl.1 (Nat.le_of_ble_eq_true rfl) dX7_quote_10 ⟨Nat.le_of_ble_eq_true rfl, Nat.le_of_ble_eq_true rfl⟩ (fun r_10 u_10 H locs hP hD hS q_10 => ?_)
  subst q_10
  refine g_bif_ne (tgt := 20) hx hb dX7_quote_13 (by decide) (fun c_13 => ?_) (fun c_13 => absurd c_13 (by rw [decide_eq_true (rq_lt ho (by omega))]; decide))
  refine lv_iload_n hx hb dX7_quote_20 rfl (lv_at hl 3 rfl) ?_
  refine lv_iconst (v := nI 1) hx hb dX7_quote_21 (by decide) ?_
  refine lv_ldc (v := 100000) hx hb hown (hts (.constant RX7 118 (100000)) (by decide +kernel)) dX7_quote_22 ?_
  rw [show (100000 : Int32) = nI 100000 from by decide]
  refine gc_S_i (As := [.int (nI (ce)), .int (nI (1)), .int (nI (100000))]) (rest := [.ref a_mod]) (c_X7_in l) ⟨hx, hb, hml, hown, hts⟩ (va_cwS 3 hts gX7_quote_X7_in rfl rfl rfl (by decide +kernel) ⟨Nat.le_of_ble_eq_true rfl, Nat.le_of_ble_eq_true rfl⟩) hE hP hD hS hA rfl rfl hl.1 (Nat.le_of_ble_eq_true rfl) dX7_quote_24 ⟨Nat.le_of_ble_eq_true rfl, Nat.le_of_ble_eq_true rfl⟩ (fun r_24 u_24 H locs hP hD hS q_24 => ?_)
  subst q_24
  refine g_bif_eq (tgt := 42) hx hb dX7_quote_27 (by decide) (fun c_27 => absurd c_27 (by rw [decide_eq_true (rq_rg hce kce (by decide))]; decide)) (fun c_27 => ?_)
  refine lv_iload hx hb dX7_quote_30 (lv_at hl 4 rfl) ?_
  refine lv_iconst (v := nI 1) hx hb dX7_quote_32 (by decide) ?_
  refine lv_sipush (v := nI 10000) hx hb dX7_quote_33 (by decide) ?_
  refine gc_S_i (As := [.int (nI (gr)), .int (nI (1)), .int (nI (10000))]) (rest := [.ref a_mod]) (c_X7_in l) ⟨hx, hb, hml, hown, hts⟩ (va_cwS 3 hts gX7_quote_X7_in rfl rfl rfl (by decide +kernel) ⟨Nat.le_of_ble_eq_true rfl, Nat.le_of_ble_eq_true rfl⟩) hE hP hD hS hA rfl rfl hl.1 (Nat.le_of_ble_eq_true rfl) dX7_quote_36 ⟨Nat.le_of_ble_eq_true rfl, Nat.le_of_ble_eq_true rfl⟩ (fun r_36 u_36 H locs hP hD hS q_36 => ?_)
  subst q_36
  refine g_bif_ne (tgt := 46) hx hb dX7_quote_39 (by decide) (fun c_39 => ?_) (fun c_39 => absurd c_39 (by rw [decide_eq_true (rq_rg hgr kgr (by decide))]; decide))
  refine lv_iconst (v := nI 0) hx hb dX7_quote_46 (by decide) ?_
  refine va_put (D := D) (ci := 8) (v := .int (nI (0))) (ty := .int) (C := RX7) (T := TX7) (N := 33) hx hb hts in_RX7 tyX7 tyX7_ok nmX7 hown hE.1 hP hD hS _ f0_mod rfl 0 (by decide) (hts (.fieldLink RX7 94 "BasketryOfficeModel" "thrown" "I") (by decide +kernel)) (fun _ h9 => h9) rfl (by decide +kernel) rfl rfl (Nat.le_of_ble_eq_true rfl) dX7_quote_47 (fun H locs hP hD hS => ?_)
  have f_mod := g_eq (x := (a_mod, .inr (8, [.int (nI (0)), .int (nI (n)), x_mod_2, x_mod_3, .ref a_mse, .int (nI (nw)), .int (nI (qn)), x_mod_7, .ref a_mce, x_mod_9, x_mod_10, x_mod_11, x_mod_12, x_mod_13, x_mod_14, x_mod_15, x_mod_16, x_mod_17, x_mod_18, x_mod_19, x_mod_20, x_mod_21, x_mod_22, x_mod_23, x_mod_24, x_mod_25, x_mod_26, x_mod_27, x_mod_28, x_mod_29, x_mod_30, x_mod_31, x_mod_32]))) (f0_mod)
  have f_mse := g_ne (x := (a_mod, .inr (8, [.int (nI (0)), .int (nI (n)), x_mod_2, x_mod_3, .ref a_mse, .int (nI (nw)), .int (nI (qn)), x_mod_7, .ref a_mce, x_mod_9, x_mod_10, x_mod_11, x_mod_12, x_mod_13, x_mod_14, x_mod_15, x_mod_16, x_mod_17, x_mod_18, x_mod_19, x_mod_20, x_mod_21, x_mod_22, x_mod_23, x_mod_24, x_mod_25, x_mod_26, x_mod_27, x_mod_28, x_mod_29, x_mod_30, x_mod_31, x_mod_32]))) (g_kne f0_mod f0_mse (Nat.ne_of_beq_eq_false rfl)) (f0_mse)
  have f_mce := g_ne (x := (a_mod, .inr (8, [.int (nI (0)), .int (nI (n)), x_mod_2, x_mod_3, .ref a_mse, .int (nI (nw)), .int (nI (qn)), x_mod_7, .ref a_mce, x_mod_9, x_mod_10, x_mod_11, x_mod_12, x_mod_13, x_mod_14, x_mod_15, x_mod_16, x_mod_17, x_mod_18, x_mod_19, x_mod_20, x_mod_21, x_mod_22, x_mod_23, x_mod_24, x_mod_25, x_mod_26, x_mod_27, x_mod_28, x_mod_29, x_mod_30, x_mod_31, x_mod_32]))) (g_kne f0_mod f0_mce (Nat.ne_of_beq_eq_false rfl)) (f0_mce)
  refine lv_aload_n hx hb dX7_quote_50 rfl (lv_at hl 0 rfl) ?_
  refine lv_aload_n hx hb dX7_quote_51 rfl (lv_at hl 0 rfl) ?_
  refine va_get (D := D) (ci := 8) (v := .int (nI (0))) (C := RX7) (T := TX7) (N := 33) hx hb hts in_RX7 hown hE.1 hP _ f_mod rfl 0 (by decide) (hts (.fieldLink RX7 94 "BasketryOfficeModel" "thrown" "I") (by decide +kernel)) (fun _ h9 => h9) rfl dX7_quote_52 ?_
  refine g_if_ne (tgt := 107) hx hb (by omega) dX7_quote_55 (by decide) (fun c_55 => absurd c_55 (by omega)) (fun c_55 => ?_)
  refine lv_aload_n hx hb dX7_quote_58 rfl (lv_at hl 0 rfl) ?_
  refine va_get (D := D) (ci := 8) (v := .int (nI (nw))) (C := RX7) (T := TX7) (N := 33) hx hb hts in_RX7 hown hE.1 hP _ f_mod rfl 5 (by decide) (hts (.fieldLink RX7 105 "BasketryOfficeModel" "now" "I") (by decide +kernel)) (fun _ h9 => h9) rfl dX7_quote_59 ?_
  refine lv_bipush (v := nI 24) hx hb dX7_quote_62 (by decide) ?_
  refine g_icmp_eq (tgt := 103) hx hb (by omega) (by omega) dX7_quote_64 (by decide) (fun c_64 => absurd c_64 (by omega)) (fun c_64 => ?_)
  refine lv_aload_n hx hb dX7_quote_67 rfl (lv_at hl 0 rfl) ?_
  refine va_get (D := D) (ci := 8) (v := .ref a_mse) (C := RX7) (T := TX7) (N := 33) hx hb hts in_RX7 hown hE.1 hP _ f_mod rfl 4 (by decide) (hts (.fieldLink RX7 16 "BasketryOfficeModel" "season" "[I") (by decide +kernel)) (fun _ h9 => h9) rfl dX7_quote_68 ?_
  refine lv_iload_n hx hb dX7_quote_71 rfl (lv_at hl 1 rfl) ?_
  refine g_nald hx hb hE hP _ f_mse (by omega) (by decide) dX7_quote_72 ?_
  have bd_72_1 := b_mse (i)
  refine lv_aload_n hx hb dX7_quote_73 rfl (lv_at hl 0 rfl) ?_
  refine va_get (D := D) (ci := 8) (v := .int (nI (nw))) (C := RX7) (T := TX7) (N := 33) hx hb hts in_RX7 hown hE.1 hP _ f_mod rfl 5 (by decide) (hts (.fieldLink RX7 105 "BasketryOfficeModel" "now" "I") (by decide +kernel)) (fun _ h9 => h9) rfl dX7_quote_74 ?_
  refine lv_bipush (v := nI 12) hx hb dX7_quote_77 (by decide) ?_
  refine g_irem hx hb dX7_quote_79 (by decide) (pk_rem (by omega) (by decide) (by decide)) ?_
  refine g_ishr hx hb dX7_quote_80 (pk_shrN (by omega) _ (nw % 12) (g_sh12 _ (by omega))) ?_
  refine lv_iconst (v := nI 1) hx hb dX7_quote_81 (by decide) ?_
  refine g_iand hx hb dX7_quote_82 (pk_andN (by have := Nat.div_le_self (mse i) (2 ^ (nw % 12)); omega) 1 rfl) ?_
  refine g_if_eq (tgt := 103) hx hb (by omega) dX7_quote_83 (by decide) (fun c_83 => ?_) (fun c_83 => absurd c_83 (fun z => by rw [Nat.testBit_eq_decide_div_mod_eq] at hbad; have h9 := of_decide_eq_false hbad; omega))
  refine lv_iconst (v := nI 3) hx hb dX7_quote_103 (by decide) ?_
  refine lv_goto (tgt := 111) hx hb dX7_quote_104 (by decide) ?_
  refine va_put (D := D) (ci := 8) (v := .int (nI (3))) (ty := .int) (C := RX7) (T := TX7) (N := 33) hx hb hts in_RX7 tyX7 tyX7_ok nmX7 hown hE.1 hP hD hS _ f_mod rfl 0 (by decide) (hts (.fieldLink RX7 94 "BasketryOfficeModel" "thrown" "I") (by decide +kernel)) (fun _ h9 => h9) rfl (by decide +kernel) rfl rfl (Nat.le_of_ble_eq_true rfl) dX7_quote_111 (fun H locs hP hD hS => ?_)
  have hP := g_trP g_ss hP
  have hD := g_trD g_ss hD
  have f_mod := g_eq (x := (a_mod, .inr (8, [.int (nI (3)), .int (nI (n)), x_mod_2, x_mod_3, .ref a_mse, .int (nI (nw)), .int (nI (qn)), x_mod_7, .ref a_mce, x_mod_9, x_mod_10, x_mod_11, x_mod_12, x_mod_13, x_mod_14, x_mod_15, x_mod_16, x_mod_17, x_mod_18, x_mod_19, x_mod_20, x_mod_21, x_mod_22, x_mod_23, x_mod_24, x_mod_25, x_mod_26, x_mod_27, x_mod_28, x_mod_29, x_mod_30, x_mod_31, x_mod_32]))) (f0_mod)
  have f_mse := g_ne (x := (a_mod, .inr (8, [.int (nI (3)), .int (nI (n)), x_mod_2, x_mod_3, .ref a_mse, .int (nI (nw)), .int (nI (qn)), x_mod_7, .ref a_mce, x_mod_9, x_mod_10, x_mod_11, x_mod_12, x_mod_13, x_mod_14, x_mod_15, x_mod_16, x_mod_17, x_mod_18, x_mod_19, x_mod_20, x_mod_21, x_mod_22, x_mod_23, x_mod_24, x_mod_25, x_mod_26, x_mod_27, x_mod_28, x_mod_29, x_mod_30, x_mod_31, x_mod_32]))) (g_kne f0_mod f0_mse (Nat.ne_of_beq_eq_false rfl)) (f0_mse)
  have f_mce := g_ne (x := (a_mod, .inr (8, [.int (nI (3)), .int (nI (n)), x_mod_2, x_mod_3, .ref a_mse, .int (nI (nw)), .int (nI (qn)), x_mod_7, .ref a_mce, x_mod_9, x_mod_10, x_mod_11, x_mod_12, x_mod_13, x_mod_14, x_mod_15, x_mod_16, x_mod_17, x_mod_18, x_mod_19, x_mod_20, x_mod_21, x_mod_22, x_mod_23, x_mod_24, x_mod_25, x_mod_26, x_mod_27, x_mod_28, x_mod_29, x_mod_30, x_mod_31, x_mod_32]))) (g_kne f0_mod f0_mce (Nat.ne_of_beq_eq_false rfl)) (f0_mce)
  refine lv_aload_n hx hb dX7_quote_114 rfl (lv_at hl 0 rfl) ?_
  refine va_get (D := D) (ci := 8) (v := .int (nI (3))) (C := RX7) (T := TX7) (N := 33) hx hb hts in_RX7 hown hE.1 hP _ f_mod rfl 0 (by decide) (hts (.fieldLink RX7 94 "BasketryOfficeModel" "thrown" "I") (by decide +kernel)) (fun _ h9 => h9) rfl dX7_quote_115 ?_
  refine g_if_le (tgt := 123) hx hb (by omega) dX7_quote_118 (by decide) (fun c_118 => absurd c_118 (by omega)) (fun c_118 => ?_)
  refine lv_iconst (v := nI 0) hx hb dX7_quote_121 (by decide) ?_
  refine g_iret hx hb hr hlocks () dX7_quote_122 hS hP hD ?_
  exact rfl

theorem in_x6_X7_quote_RX7 : ∀ w ∈ wsX70, w ∈ wsX7_quote := by decide +kernel
set_option maxHeartbeats 4000000 in
set_option maxRecDepth 100000 in
theorem x6_X7_quote (l : Launch) {D : va_G} {y : Nat → Nat} {ws : va_W} {x_mod_2 : Value} {x_mod_3 : Value} {x_mod_7 : Value} {x_mod_9 : Value} {x_mod_10 : Value} {x_mod_11 : Value} {x_mod_12 : Value} {x_mod_13 : Value} {x_mod_14 : Value} {x_mod_15 : Value} {x_mod_16 : Value} {x_mod_17 : Value} {x_mod_18 : Value} {x_mod_19 : Value} {x_mod_20 : Value} {x_mod_21 : Value} {x_mod_22 : Value} {x_mod_23 : Value} {x_mod_24 : Value} {x_mod_25 : Value} {x_mod_26 : Value} {x_mod_27 : Value} {x_mod_28 : Value} {x_mod_29 : Value} {x_mod_30 : Value} {x_mod_31 : Value} {x_mod_32 : Value} {p_mod p_mse p_mce a_mod a_mse a_mce : Nat} {mse : Nat → Nat} {mce : Nat → Nat} {i o ce gr : Nat} {nw n th qn : Nat} (f0_mod : ws[p_mod]? = some (a_mod, .inr (8, [.int (nI (th)), .int (nI (n)), x_mod_2, x_mod_3, .ref a_mse, .int (nI (nw)), .int (nI (qn)), x_mod_7, .ref a_mce, x_mod_9, x_mod_10, x_mod_11, x_mod_12, x_mod_13, x_mod_14, x_mod_15, x_mod_16, x_mod_17, x_mod_18, x_mod_19, x_mod_20, x_mod_21, x_mod_22, x_mod_23, x_mod_24, x_mod_25, x_mod_26, x_mod_27, x_mod_28, x_mod_29, x_mod_30, x_mod_31, x_mod_32]))) (f0_mse : ws[p_mse]? = some (a_mse, eN y 12 mse)) (f0_mce : ws[p_mce]? = some (a_mce, eN y 1152 mce)) (b_mse : ∀ k, mse k ≤ 4095) (b_mce : ∀ k, mce k ≤ 100000) (hw : nw ≤ 24) (hn : n ≤ 12) (hi : i < n) (ho : o < 4) (hce : 1 ≤ ce) (kce : ce ≤ 100000) (hgr : 1 ≤ gr) (kgr : gr ≤ 10000) (hnw : nw < 24) (hsn : (mse i).testBit (nw % 12) = true) (hbad : 0 < mce (48 * nw + 4 * i + o)) : gMi l yX7_quote wsX7_quote ({ frames := 2, cells := 0, slots := 0, locals := 43 }) D y [.ref a_mod, .int (nI (i)), .int (nI (o)), .int (nI (ce)), .int (nI (gr))] ws (fun r (_ : Unit) => r = nI 0) (fun (_ : Unit) => (ws.set p_mod (a_mod, .inr (8, [.int (nI (3)), .int (nI (n)), x_mod_2, x_mod_3, .ref a_mse, .int (nI (nw)), .int (nI (qn)), x_mod_7, .ref a_mce, x_mod_9, x_mod_10, x_mod_11, x_mod_12, x_mod_13, x_mod_14, x_mod_15, x_mod_16, x_mod_17, x_mod_18, x_mod_19, x_mod_20, x_mod_21, x_mod_22, x_mod_23, x_mod_24, x_mod_25, x_mod_26, x_mod_27, x_mod_28, x_mod_29, x_mod_30, x_mod_31, x_mod_32])))) := by
  refine g_met_i (cc := cX7_quote) (maxL := 5) (by decide) rfl (Nat.le_of_ble_eq_true rfl) ?_
  intro p e s m below meth c A hx hb hml hr hts hown hnm hlocks hE hP hD hS hA ls hl
  have hown : s.vm.findClass RX7 = some m.cls := hown
  have hl : lv_has ls 5 [(0, .ref a_mod), (1, .int (nI (i))), (2, .int (nI (o))), (3, .int (nI (ce))), (4, .int (nI (gr)))] := hl
  have in_RX7 := in_x6_X7_quote_RX7
  refine lv_aload_n hx hb dX7_quote_0 rfl (lv_at hl 0 rfl) ?_
  refine lv_aload_n hx hb dX7_quote_1 rfl (lv_at hl 0 rfl) ?_
  refine lv_iload_n hx hb dX7_quote_2 rfl (lv_at hl 1 rfl) ?_
  refine gc_V_i (As := [.int (nI (i))]) (rest := [.ref a_mod]) (c_X7_isItem l f0_mod (by omega)) ⟨hx, hb, hml, hown, hts⟩ (cwV 1 hts gX7_quote_X7_isItem rfl rfl rfl (by decide +kernel) ⟨Nat.le_of_ble_eq_true rfl, Nat.le_of_ble_eq_true rfl⟩) hE hP hD hS hA _ f0_mod rfl rfl rfl rfl hl.1 (Nat.le_of_ble_eq_true rfl) dX7_quote_3 ⟨Nat.le_of_ble_eq_true rfl, Nat.le_of_ble_eq_true rfl⟩ (fun r_3 u_3 H locs hP hD hS q_3 => ?_)
  subst q_3
  refine g_bif_eq (tgt := 16) hx hb dX7_quote_6 (by decide) (fun c_6 => absurd c_6 (by rw [decide_eq_true (rq_lt hi (by omega))]; decide)) (fun c_6 => ?_)
  refine lv_iload_n hx hb dX7_quote_9 rfl (lv_at hl 2 rfl) ?_
  refine gc_S_i (As := [.int (nI (o))]) (rest := [.ref a_mod]) (c_X7_isOutlet l) ⟨hx, hb, hml, hown, hts⟩ (va_cwS 1 hts gX7_quote_X7_isOutlet rfl rfl rfl (by decide +kernel) ⟨Nat.le_of_ble_eq_true rfl, Nat.le_of_ble_eq_true rfl⟩) hE hP hD hS hA rfl rfl hl.1 (Nat.le_of_ble_eq_true rfl) dX7_quote_10 ⟨Nat.le_of_ble_eq_true rfl, Nat.le_of_ble_eq_true rfl⟩ (fun r_10 u_10 H locs hP hD hS q_10 => ?_)
  subst q_10
  refine g_bif_ne (tgt := 20) hx hb dX7_quote_13 (by decide) (fun c_13 => ?_) (fun c_13 => absurd c_13 (by rw [decide_eq_true (rq_lt ho (by omega))]; decide))
  refine lv_iload_n hx hb dX7_quote_20 rfl (lv_at hl 3 rfl) ?_
  refine lv_iconst (v := nI 1) hx hb dX7_quote_21 (by decide) ?_
  refine lv_ldc (v := 100000) hx hb hown (hts (.constant RX7 118 (100000)) (by decide +kernel)) dX7_quote_22 ?_
  rw [show (100000 : Int32) = nI 100000 from by decide]
  refine gc_S_i (As := [.int (nI (ce)), .int (nI (1)), .int (nI (100000))]) (rest := [.ref a_mod]) (c_X7_in l) ⟨hx, hb, hml, hown, hts⟩ (va_cwS 3 hts gX7_quote_X7_in rfl rfl rfl (by decide +kernel) ⟨Nat.le_of_ble_eq_true rfl, Nat.le_of_ble_eq_true rfl⟩) hE hP hD hS hA rfl rfl hl.1 (Nat.le_of_ble_eq_true rfl) dX7_quote_24 ⟨Nat.le_of_ble_eq_true rfl, Nat.le_of_ble_eq_true rfl⟩ (fun r_24 u_24 H locs hP hD hS q_24 => ?_)
  subst q_24
  refine g_bif_eq (tgt := 42) hx hb dX7_quote_27 (by decide) (fun c_27 => absurd c_27 (by rw [decide_eq_true (rq_rg hce kce (by decide))]; decide)) (fun c_27 => ?_)
  refine lv_iload hx hb dX7_quote_30 (lv_at hl 4 rfl) ?_
  refine lv_iconst (v := nI 1) hx hb dX7_quote_32 (by decide) ?_
  refine lv_sipush (v := nI 10000) hx hb dX7_quote_33 (by decide) ?_
  refine gc_S_i (As := [.int (nI (gr)), .int (nI (1)), .int (nI (10000))]) (rest := [.ref a_mod]) (c_X7_in l) ⟨hx, hb, hml, hown, hts⟩ (va_cwS 3 hts gX7_quote_X7_in rfl rfl rfl (by decide +kernel) ⟨Nat.le_of_ble_eq_true rfl, Nat.le_of_ble_eq_true rfl⟩) hE hP hD hS hA rfl rfl hl.1 (Nat.le_of_ble_eq_true rfl) dX7_quote_36 ⟨Nat.le_of_ble_eq_true rfl, Nat.le_of_ble_eq_true rfl⟩ (fun r_36 u_36 H locs hP hD hS q_36 => ?_)
  subst q_36
  refine g_bif_ne (tgt := 46) hx hb dX7_quote_39 (by decide) (fun c_39 => ?_) (fun c_39 => absurd c_39 (by rw [decide_eq_true (rq_rg hgr kgr (by decide))]; decide))
  refine lv_iconst (v := nI 0) hx hb dX7_quote_46 (by decide) ?_
  refine va_put (D := D) (ci := 8) (v := .int (nI (0))) (ty := .int) (C := RX7) (T := TX7) (N := 33) hx hb hts in_RX7 tyX7 tyX7_ok nmX7 hown hE.1 hP hD hS _ f0_mod rfl 0 (by decide) (hts (.fieldLink RX7 94 "BasketryOfficeModel" "thrown" "I") (by decide +kernel)) (fun _ h9 => h9) rfl (by decide +kernel) rfl rfl (Nat.le_of_ble_eq_true rfl) dX7_quote_47 (fun H locs hP hD hS => ?_)
  have f_mod := g_eq (x := (a_mod, .inr (8, [.int (nI (0)), .int (nI (n)), x_mod_2, x_mod_3, .ref a_mse, .int (nI (nw)), .int (nI (qn)), x_mod_7, .ref a_mce, x_mod_9, x_mod_10, x_mod_11, x_mod_12, x_mod_13, x_mod_14, x_mod_15, x_mod_16, x_mod_17, x_mod_18, x_mod_19, x_mod_20, x_mod_21, x_mod_22, x_mod_23, x_mod_24, x_mod_25, x_mod_26, x_mod_27, x_mod_28, x_mod_29, x_mod_30, x_mod_31, x_mod_32]))) (f0_mod)
  have f_mse := g_ne (x := (a_mod, .inr (8, [.int (nI (0)), .int (nI (n)), x_mod_2, x_mod_3, .ref a_mse, .int (nI (nw)), .int (nI (qn)), x_mod_7, .ref a_mce, x_mod_9, x_mod_10, x_mod_11, x_mod_12, x_mod_13, x_mod_14, x_mod_15, x_mod_16, x_mod_17, x_mod_18, x_mod_19, x_mod_20, x_mod_21, x_mod_22, x_mod_23, x_mod_24, x_mod_25, x_mod_26, x_mod_27, x_mod_28, x_mod_29, x_mod_30, x_mod_31, x_mod_32]))) (g_kne f0_mod f0_mse (Nat.ne_of_beq_eq_false rfl)) (f0_mse)
  have f_mce := g_ne (x := (a_mod, .inr (8, [.int (nI (0)), .int (nI (n)), x_mod_2, x_mod_3, .ref a_mse, .int (nI (nw)), .int (nI (qn)), x_mod_7, .ref a_mce, x_mod_9, x_mod_10, x_mod_11, x_mod_12, x_mod_13, x_mod_14, x_mod_15, x_mod_16, x_mod_17, x_mod_18, x_mod_19, x_mod_20, x_mod_21, x_mod_22, x_mod_23, x_mod_24, x_mod_25, x_mod_26, x_mod_27, x_mod_28, x_mod_29, x_mod_30, x_mod_31, x_mod_32]))) (g_kne f0_mod f0_mce (Nat.ne_of_beq_eq_false rfl)) (f0_mce)
  refine lv_aload_n hx hb dX7_quote_50 rfl (lv_at hl 0 rfl) ?_
  refine lv_aload_n hx hb dX7_quote_51 rfl (lv_at hl 0 rfl) ?_
  refine va_get (D := D) (ci := 8) (v := .int (nI (0))) (C := RX7) (T := TX7) (N := 33) hx hb hts in_RX7 hown hE.1 hP _ f_mod rfl 0 (by decide) (hts (.fieldLink RX7 94 "BasketryOfficeModel" "thrown" "I") (by decide +kernel)) (fun _ h9 => h9) rfl dX7_quote_52 ?_
  refine g_if_ne (tgt := 107) hx hb (by omega) dX7_quote_55 (by decide) (fun c_55 => absurd c_55 (by omega)) (fun c_55 => ?_)
  refine lv_aload_n hx hb dX7_quote_58 rfl (lv_at hl 0 rfl) ?_
  refine va_get (D := D) (ci := 8) (v := .int (nI (nw))) (C := RX7) (T := TX7) (N := 33) hx hb hts in_RX7 hown hE.1 hP _ f_mod rfl 5 (by decide) (hts (.fieldLink RX7 105 "BasketryOfficeModel" "now" "I") (by decide +kernel)) (fun _ h9 => h9) rfl dX7_quote_59 ?_
  refine lv_bipush (v := nI 24) hx hb dX7_quote_62 (by decide) ?_
  refine g_icmp_eq (tgt := 103) hx hb (by omega) (by omega) dX7_quote_64 (by decide) (fun c_64 => absurd c_64 (by omega)) (fun c_64 => ?_)
  refine lv_aload_n hx hb dX7_quote_67 rfl (lv_at hl 0 rfl) ?_
  refine va_get (D := D) (ci := 8) (v := .ref a_mse) (C := RX7) (T := TX7) (N := 33) hx hb hts in_RX7 hown hE.1 hP _ f_mod rfl 4 (by decide) (hts (.fieldLink RX7 16 "BasketryOfficeModel" "season" "[I") (by decide +kernel)) (fun _ h9 => h9) rfl dX7_quote_68 ?_
  refine lv_iload_n hx hb dX7_quote_71 rfl (lv_at hl 1 rfl) ?_
  refine g_nald hx hb hE hP _ f_mse (by omega) (by decide) dX7_quote_72 ?_
  have bd_72_1 := b_mse (i)
  refine lv_aload_n hx hb dX7_quote_73 rfl (lv_at hl 0 rfl) ?_
  refine va_get (D := D) (ci := 8) (v := .int (nI (nw))) (C := RX7) (T := TX7) (N := 33) hx hb hts in_RX7 hown hE.1 hP _ f_mod rfl 5 (by decide) (hts (.fieldLink RX7 105 "BasketryOfficeModel" "now" "I") (by decide +kernel)) (fun _ h9 => h9) rfl dX7_quote_74 ?_
  refine lv_bipush (v := nI 12) hx hb dX7_quote_77 (by decide) ?_
  refine g_irem hx hb dX7_quote_79 (by decide) (pk_rem (by omega) (by decide) (by decide)) ?_
  refine g_ishr hx hb dX7_quote_80 (pk_shrN (by omega) _ (nw % 12) (g_sh12 _ (by omega))) ?_
  refine lv_iconst (v := nI 1) hx hb dX7_quote_81 (by decide) ?_
  refine g_iand hx hb dX7_quote_82 (pk_andN (by have := Nat.div_le_self (mse i) (2 ^ (nw % 12)); omega) 1 rfl) ?_
  refine g_if_eq (tgt := 103) hx hb (by omega) dX7_quote_83 (by decide) (fun c_83 => absurd c_83 (fun z => by rw [Nat.testBit_eq_decide_div_mod_eq] at hsn; have h9 := of_decide_eq_true hsn; omega)) (fun c_83 => ?_)
  refine lv_aload_n hx hb dX7_quote_86 rfl (lv_at hl 0 rfl) ?_
  refine va_get (D := D) (ci := 8) (v := .ref a_mce) (C := RX7) (T := TX7) (N := 33) hx hb hts in_RX7 hown hE.1 hP _ f_mod rfl 8 (by decide) (hts (.fieldLink RX7 19 "BasketryOfficeModel" "cents" "[I") (by decide +kernel)) (fun _ h9 => h9) rfl dX7_quote_87 ?_
  refine lv_aload_n hx hb dX7_quote_90 rfl (lv_at hl 0 rfl) ?_
  refine va_get (D := D) (ci := 8) (v := .int (nI (nw))) (C := RX7) (T := TX7) (N := 33) hx hb hts in_RX7 hown hE.1 hP _ f_mod rfl 5 (by decide) (hts (.fieldLink RX7 105 "BasketryOfficeModel" "now" "I") (by decide +kernel)) (fun _ h9 => h9) rfl dX7_quote_91 ?_
  refine lv_iload_n hx hb dX7_quote_94 rfl (lv_at hl 1 rfl) ?_
  refine lv_iload_n hx hb dX7_quote_95 rfl (lv_at hl 2 rfl) ?_
  refine gc_S_i (As := [.int (nI (nw)), .int (nI (i)), .int (nI (o))]) (rest := [.ref a_mce, .ref a_mod]) (c_X7_cell l) ⟨hx, hb, hml, hown, hts⟩ (va_cwS 3 hts gX7_quote_X7_cell rfl rfl rfl (by decide +kernel) ⟨Nat.le_of_ble_eq_true rfl, Nat.le_of_ble_eq_true rfl⟩) hE hP hD hS hA rfl rfl hl.1 (Nat.le_of_ble_eq_true rfl) dX7_quote_96 ⟨Nat.le_of_ble_eq_true rfl, Nat.le_of_ble_eq_true rfl⟩ (fun r_96 u_96 H locs hP hD hS q_96 => ?_)
  subst q_96
  refine g_nald hx hb hE hP _ f_mce (by omega) (by decide) dX7_quote_99 ?_
  have bd_99_2 := b_mce (48 * (nw) + 4 * (i) + (o))
  refine g_if_le (tgt := 107) hx hb (by omega) dX7_quote_100 (by decide) (fun c_100 => absurd c_100 (by omega)) (fun c_100 => ?_)
  refine lv_iconst (v := nI 3) hx hb dX7_quote_103 (by decide) ?_
  refine lv_goto (tgt := 111) hx hb dX7_quote_104 (by decide) ?_
  refine va_put (D := D) (ci := 8) (v := .int (nI (3))) (ty := .int) (C := RX7) (T := TX7) (N := 33) hx hb hts in_RX7 tyX7 tyX7_ok nmX7 hown hE.1 hP hD hS _ f_mod rfl 0 (by decide) (hts (.fieldLink RX7 94 "BasketryOfficeModel" "thrown" "I") (by decide +kernel)) (fun _ h9 => h9) rfl (by decide +kernel) rfl rfl (Nat.le_of_ble_eq_true rfl) dX7_quote_111 (fun H locs hP hD hS => ?_)
  have hP := g_trP g_ss hP
  have hD := g_trD g_ss hD
  have f_mod := g_eq (x := (a_mod, .inr (8, [.int (nI (3)), .int (nI (n)), x_mod_2, x_mod_3, .ref a_mse, .int (nI (nw)), .int (nI (qn)), x_mod_7, .ref a_mce, x_mod_9, x_mod_10, x_mod_11, x_mod_12, x_mod_13, x_mod_14, x_mod_15, x_mod_16, x_mod_17, x_mod_18, x_mod_19, x_mod_20, x_mod_21, x_mod_22, x_mod_23, x_mod_24, x_mod_25, x_mod_26, x_mod_27, x_mod_28, x_mod_29, x_mod_30, x_mod_31, x_mod_32]))) (f0_mod)
  have f_mse := g_ne (x := (a_mod, .inr (8, [.int (nI (3)), .int (nI (n)), x_mod_2, x_mod_3, .ref a_mse, .int (nI (nw)), .int (nI (qn)), x_mod_7, .ref a_mce, x_mod_9, x_mod_10, x_mod_11, x_mod_12, x_mod_13, x_mod_14, x_mod_15, x_mod_16, x_mod_17, x_mod_18, x_mod_19, x_mod_20, x_mod_21, x_mod_22, x_mod_23, x_mod_24, x_mod_25, x_mod_26, x_mod_27, x_mod_28, x_mod_29, x_mod_30, x_mod_31, x_mod_32]))) (g_kne f0_mod f0_mse (Nat.ne_of_beq_eq_false rfl)) (f0_mse)
  have f_mce := g_ne (x := (a_mod, .inr (8, [.int (nI (3)), .int (nI (n)), x_mod_2, x_mod_3, .ref a_mse, .int (nI (nw)), .int (nI (qn)), x_mod_7, .ref a_mce, x_mod_9, x_mod_10, x_mod_11, x_mod_12, x_mod_13, x_mod_14, x_mod_15, x_mod_16, x_mod_17, x_mod_18, x_mod_19, x_mod_20, x_mod_21, x_mod_22, x_mod_23, x_mod_24, x_mod_25, x_mod_26, x_mod_27, x_mod_28, x_mod_29, x_mod_30, x_mod_31, x_mod_32]))) (g_kne f0_mod f0_mce (Nat.ne_of_beq_eq_false rfl)) (f0_mce)
  refine lv_aload_n hx hb dX7_quote_114 rfl (lv_at hl 0 rfl) ?_
  refine va_get (D := D) (ci := 8) (v := .int (nI (3))) (C := RX7) (T := TX7) (N := 33) hx hb hts in_RX7 hown hE.1 hP _ f_mod rfl 0 (by decide) (hts (.fieldLink RX7 94 "BasketryOfficeModel" "thrown" "I") (by decide +kernel)) (fun _ h9 => h9) rfl dX7_quote_115 ?_
  refine g_if_le (tgt := 123) hx hb (by omega) dX7_quote_118 (by decide) (fun c_118 => absurd c_118 (by omega)) (fun c_118 => ?_)
  refine lv_iconst (v := nI 0) hx hb dX7_quote_121 (by decide) ?_
  refine g_iret hx hb hr hlocks () dX7_quote_122 hS hP hD ?_
  exact rfl

theorem in_c_X7_quote_RX7 : ∀ w ∈ wsX70, w ∈ wsX7_quote := by decide +kernel
set_option maxHeartbeats 4000000 in
set_option maxRecDepth 100000 in
theorem c_X7_quote (l : Launch) {D : va_G} {y : Nat → Nat} {ws : va_W} {x_mod_2 : Value} {x_mod_3 : Value} {x_mod_7 : Value} {x_mod_10 : Value} {x_mod_11 : Value} {x_mod_12 : Value} {x_mod_13 : Value} {x_mod_14 : Value} {x_mod_15 : Value} {x_mod_16 : Value} {x_mod_17 : Value} {x_mod_18 : Value} {x_mod_19 : Value} {x_mod_20 : Value} {x_mod_21 : Value} {x_mod_22 : Value} {x_mod_23 : Value} {x_mod_24 : Value} {x_mod_25 : Value} {x_mod_26 : Value} {x_mod_27 : Value} {x_mod_28 : Value} {x_mod_29 : Value} {x_mod_30 : Value} {x_mod_31 : Value} {x_mod_32 : Value} {p_mod p_mse p_mce p_mgm a_mod a_mse a_mce a_mgm : Nat} {mse : Nat → Nat} {mce : Nat → Nat} {mgm : Nat → Nat} {i o ce gr : Nat} {nw n th qn : Nat} (f0_mod : ws[p_mod]? = some (a_mod, .inr (8, [.int (nI (th)), .int (nI (n)), x_mod_2, x_mod_3, .ref a_mse, .int (nI (nw)), .int (nI (qn)), x_mod_7, .ref a_mce, .ref a_mgm, x_mod_10, x_mod_11, x_mod_12, x_mod_13, x_mod_14, x_mod_15, x_mod_16, x_mod_17, x_mod_18, x_mod_19, x_mod_20, x_mod_21, x_mod_22, x_mod_23, x_mod_24, x_mod_25, x_mod_26, x_mod_27, x_mod_28, x_mod_29, x_mod_30, x_mod_31, x_mod_32]))) (f0_mse : ws[p_mse]? = some (a_mse, eN y 12 mse)) (f0_mce : ws[p_mce]? = some (a_mce, eN y 1152 mce)) (f0_mgm : ws[p_mgm]? = some (a_mgm, eN y 1152 mgm)) (b_mse : ∀ k, mse k ≤ 4095) (b_mce : ∀ k, mce k ≤ 100000) (b_mgm : ∀ k, mgm k ≤ 10000) (hw : nw ≤ 24) (hn : n ≤ 12) (hi : i < n) (ho : o < 4) (hce : 1 ≤ ce) (kce : ce ≤ 100000) (hgr : 1 ≤ gr) (kgr : gr ≤ 10000) (hnw : nw < 24) (hsn : (mse i).testBit (nw % 12) = true) (hnq : mce (48 * nw + 4 * i + o) = 0) (hdis : p_mce ≠ p_mgm ∧ p_mse ≠ p_mce ∧ p_mse ≠ p_mgm) : gMi l yX7_quote wsX7_quote ({ frames := 2, cells := 0, slots := 0, locals := 43 }) D y [.ref a_mod, .int (nI (i)), .int (nI (o)), .int (nI (ce)), .int (nI (gr))] ws (fun r (_ : Unit) => r = nI (qn + 1)) (fun (_ : Unit) => (((ws.set p_mod (a_mod, .inr (8, [.int (nI (0)), .int (nI (n)), x_mod_2, x_mod_3, .ref a_mse, .int (nI (nw)), .int (nI (qn + 1)), x_mod_7, .ref a_mce, .ref a_mgm, x_mod_10, x_mod_11, x_mod_12, x_mod_13, x_mod_14, x_mod_15, x_mod_16, x_mod_17, x_mod_18, x_mod_19, x_mod_20, x_mod_21, x_mod_22, x_mod_23, x_mod_24, x_mod_25, x_mod_26, x_mod_27, x_mod_28, x_mod_29, x_mod_30, x_mod_31, x_mod_32]))).set p_mce (a_mce, eN y 1152 (vf_upd mce (48 * nw + 4 * i + o) (ce)))).set p_mgm (a_mgm, eN y 1152 (vf_upd mgm (48 * nw + 4 * i + o) (gr))))) := by
  refine g_met_i (cc := cX7_quote) (maxL := 5) (by decide) rfl (Nat.le_of_ble_eq_true rfl) ?_
  intro p e s m below meth c A hx hb hml hr hts hown hnm hlocks hE hP hD hS hA ls hl
  have hown : s.vm.findClass RX7 = some m.cls := hown
  have hl : lv_has ls 5 [(0, .ref a_mod), (1, .int (nI (i))), (2, .int (nI (o))), (3, .int (nI (ce))), (4, .int (nI (gr)))] := hl
  have in_RX7 := in_c_X7_quote_RX7
  refine lv_aload_n hx hb dX7_quote_0 rfl (lv_at hl 0 rfl) ?_
  refine lv_aload_n hx hb dX7_quote_1 rfl (lv_at hl 0 rfl) ?_
  refine lv_iload_n hx hb dX7_quote_2 rfl (lv_at hl 1 rfl) ?_
  refine gc_V_i (As := [.int (nI (i))]) (rest := [.ref a_mod]) (c_X7_isItem l f0_mod (by omega)) ⟨hx, hb, hml, hown, hts⟩ (cwV 1 hts gX7_quote_X7_isItem rfl rfl rfl (by decide +kernel) ⟨Nat.le_of_ble_eq_true rfl, Nat.le_of_ble_eq_true rfl⟩) hE hP hD hS hA _ f0_mod rfl rfl rfl rfl hl.1 (Nat.le_of_ble_eq_true rfl) dX7_quote_3 ⟨Nat.le_of_ble_eq_true rfl, Nat.le_of_ble_eq_true rfl⟩ (fun r_3 u_3 H locs hP hD hS q_3 => ?_)
  subst q_3
  refine g_bif_eq (tgt := 16) hx hb dX7_quote_6 (by decide) (fun c_6 => absurd c_6 (by rw [decide_eq_true (rq_lt hi (by omega))]; decide)) (fun c_6 => ?_)
  refine lv_iload_n hx hb dX7_quote_9 rfl (lv_at hl 2 rfl) ?_
  refine gc_S_i (As := [.int (nI (o))]) (rest := [.ref a_mod]) (c_X7_isOutlet l) ⟨hx, hb, hml, hown, hts⟩ (va_cwS 1 hts gX7_quote_X7_isOutlet rfl rfl rfl (by decide +kernel) ⟨Nat.le_of_ble_eq_true rfl, Nat.le_of_ble_eq_true rfl⟩) hE hP hD hS hA rfl rfl hl.1 (Nat.le_of_ble_eq_true rfl) dX7_quote_10 ⟨Nat.le_of_ble_eq_true rfl, Nat.le_of_ble_eq_true rfl⟩ (fun r_10 u_10 H locs hP hD hS q_10 => ?_)
  subst q_10
  refine g_bif_ne (tgt := 20) hx hb dX7_quote_13 (by decide) (fun c_13 => ?_) (fun c_13 => absurd c_13 (by rw [decide_eq_true (rq_lt ho (by omega))]; decide))
  refine lv_iload_n hx hb dX7_quote_20 rfl (lv_at hl 3 rfl) ?_
  refine lv_iconst (v := nI 1) hx hb dX7_quote_21 (by decide) ?_
  refine lv_ldc (v := 100000) hx hb hown (hts (.constant RX7 118 (100000)) (by decide +kernel)) dX7_quote_22 ?_
  rw [show (100000 : Int32) = nI 100000 from by decide]
  refine gc_S_i (As := [.int (nI (ce)), .int (nI (1)), .int (nI (100000))]) (rest := [.ref a_mod]) (c_X7_in l) ⟨hx, hb, hml, hown, hts⟩ (va_cwS 3 hts gX7_quote_X7_in rfl rfl rfl (by decide +kernel) ⟨Nat.le_of_ble_eq_true rfl, Nat.le_of_ble_eq_true rfl⟩) hE hP hD hS hA rfl rfl hl.1 (Nat.le_of_ble_eq_true rfl) dX7_quote_24 ⟨Nat.le_of_ble_eq_true rfl, Nat.le_of_ble_eq_true rfl⟩ (fun r_24 u_24 H locs hP hD hS q_24 => ?_)
  subst q_24
  refine g_bif_eq (tgt := 42) hx hb dX7_quote_27 (by decide) (fun c_27 => absurd c_27 (by rw [decide_eq_true (rq_rg hce kce (by decide))]; decide)) (fun c_27 => ?_)
  refine lv_iload hx hb dX7_quote_30 (lv_at hl 4 rfl) ?_
  refine lv_iconst (v := nI 1) hx hb dX7_quote_32 (by decide) ?_
  refine lv_sipush (v := nI 10000) hx hb dX7_quote_33 (by decide) ?_
  refine gc_S_i (As := [.int (nI (gr)), .int (nI (1)), .int (nI (10000))]) (rest := [.ref a_mod]) (c_X7_in l) ⟨hx, hb, hml, hown, hts⟩ (va_cwS 3 hts gX7_quote_X7_in rfl rfl rfl (by decide +kernel) ⟨Nat.le_of_ble_eq_true rfl, Nat.le_of_ble_eq_true rfl⟩) hE hP hD hS hA rfl rfl hl.1 (Nat.le_of_ble_eq_true rfl) dX7_quote_36 ⟨Nat.le_of_ble_eq_true rfl, Nat.le_of_ble_eq_true rfl⟩ (fun r_36 u_36 H locs hP hD hS q_36 => ?_)
  subst q_36
  refine g_bif_ne (tgt := 46) hx hb dX7_quote_39 (by decide) (fun c_39 => ?_) (fun c_39 => absurd c_39 (by rw [decide_eq_true (rq_rg hgr kgr (by decide))]; decide))
  refine lv_iconst (v := nI 0) hx hb dX7_quote_46 (by decide) ?_
  refine va_put (D := D) (ci := 8) (v := .int (nI (0))) (ty := .int) (C := RX7) (T := TX7) (N := 33) hx hb hts in_RX7 tyX7 tyX7_ok nmX7 hown hE.1 hP hD hS _ f0_mod rfl 0 (by decide) (hts (.fieldLink RX7 94 "BasketryOfficeModel" "thrown" "I") (by decide +kernel)) (fun _ h9 => h9) rfl (by decide +kernel) rfl rfl (Nat.le_of_ble_eq_true rfl) dX7_quote_47 (fun H locs hP hD hS => ?_)
  have f_mod := g_eq (x := (a_mod, .inr (8, [.int (nI (0)), .int (nI (n)), x_mod_2, x_mod_3, .ref a_mse, .int (nI (nw)), .int (nI (qn)), x_mod_7, .ref a_mce, .ref a_mgm, x_mod_10, x_mod_11, x_mod_12, x_mod_13, x_mod_14, x_mod_15, x_mod_16, x_mod_17, x_mod_18, x_mod_19, x_mod_20, x_mod_21, x_mod_22, x_mod_23, x_mod_24, x_mod_25, x_mod_26, x_mod_27, x_mod_28, x_mod_29, x_mod_30, x_mod_31, x_mod_32]))) (f0_mod)
  have f_mse := g_ne (x := (a_mod, .inr (8, [.int (nI (0)), .int (nI (n)), x_mod_2, x_mod_3, .ref a_mse, .int (nI (nw)), .int (nI (qn)), x_mod_7, .ref a_mce, .ref a_mgm, x_mod_10, x_mod_11, x_mod_12, x_mod_13, x_mod_14, x_mod_15, x_mod_16, x_mod_17, x_mod_18, x_mod_19, x_mod_20, x_mod_21, x_mod_22, x_mod_23, x_mod_24, x_mod_25, x_mod_26, x_mod_27, x_mod_28, x_mod_29, x_mod_30, x_mod_31, x_mod_32]))) (g_kne f0_mod f0_mse (Nat.ne_of_beq_eq_false rfl)) (f0_mse)
  have f_mce := g_ne (x := (a_mod, .inr (8, [.int (nI (0)), .int (nI (n)), x_mod_2, x_mod_3, .ref a_mse, .int (nI (nw)), .int (nI (qn)), x_mod_7, .ref a_mce, .ref a_mgm, x_mod_10, x_mod_11, x_mod_12, x_mod_13, x_mod_14, x_mod_15, x_mod_16, x_mod_17, x_mod_18, x_mod_19, x_mod_20, x_mod_21, x_mod_22, x_mod_23, x_mod_24, x_mod_25, x_mod_26, x_mod_27, x_mod_28, x_mod_29, x_mod_30, x_mod_31, x_mod_32]))) (g_kne f0_mod f0_mce (Nat.ne_of_beq_eq_false rfl)) (f0_mce)
  have f_mgm := g_ne (x := (a_mod, .inr (8, [.int (nI (0)), .int (nI (n)), x_mod_2, x_mod_3, .ref a_mse, .int (nI (nw)), .int (nI (qn)), x_mod_7, .ref a_mce, .ref a_mgm, x_mod_10, x_mod_11, x_mod_12, x_mod_13, x_mod_14, x_mod_15, x_mod_16, x_mod_17, x_mod_18, x_mod_19, x_mod_20, x_mod_21, x_mod_22, x_mod_23, x_mod_24, x_mod_25, x_mod_26, x_mod_27, x_mod_28, x_mod_29, x_mod_30, x_mod_31, x_mod_32]))) (g_kne f0_mod f0_mgm (Nat.ne_of_beq_eq_false rfl)) (f0_mgm)
  refine lv_aload_n hx hb dX7_quote_50 rfl (lv_at hl 0 rfl) ?_
  refine lv_aload_n hx hb dX7_quote_51 rfl (lv_at hl 0 rfl) ?_
  refine va_get (D := D) (ci := 8) (v := .int (nI (0))) (C := RX7) (T := TX7) (N := 33) hx hb hts in_RX7 hown hE.1 hP _ f_mod rfl 0 (by decide) (hts (.fieldLink RX7 94 "BasketryOfficeModel" "thrown" "I") (by decide +kernel)) (fun _ h9 => h9) rfl dX7_quote_52 ?_
  refine g_if_ne (tgt := 107) hx hb (by omega) dX7_quote_55 (by decide) (fun c_55 => absurd c_55 (by omega)) (fun c_55 => ?_)
  refine lv_aload_n hx hb dX7_quote_58 rfl (lv_at hl 0 rfl) ?_
  refine va_get (D := D) (ci := 8) (v := .int (nI (nw))) (C := RX7) (T := TX7) (N := 33) hx hb hts in_RX7 hown hE.1 hP _ f_mod rfl 5 (by decide) (hts (.fieldLink RX7 105 "BasketryOfficeModel" "now" "I") (by decide +kernel)) (fun _ h9 => h9) rfl dX7_quote_59 ?_
  refine lv_bipush (v := nI 24) hx hb dX7_quote_62 (by decide) ?_
  refine g_icmp_eq (tgt := 103) hx hb (by omega) (by omega) dX7_quote_64 (by decide) (fun c_64 => absurd c_64 (by omega)) (fun c_64 => ?_)
  refine lv_aload_n hx hb dX7_quote_67 rfl (lv_at hl 0 rfl) ?_
  refine va_get (D := D) (ci := 8) (v := .ref a_mse) (C := RX7) (T := TX7) (N := 33) hx hb hts in_RX7 hown hE.1 hP _ f_mod rfl 4 (by decide) (hts (.fieldLink RX7 16 "BasketryOfficeModel" "season" "[I") (by decide +kernel)) (fun _ h9 => h9) rfl dX7_quote_68 ?_
  refine lv_iload_n hx hb dX7_quote_71 rfl (lv_at hl 1 rfl) ?_
  refine g_nald hx hb hE hP _ f_mse (by omega) (by decide) dX7_quote_72 ?_
  have bd_72_1 := b_mse (i)
  refine lv_aload_n hx hb dX7_quote_73 rfl (lv_at hl 0 rfl) ?_
  refine va_get (D := D) (ci := 8) (v := .int (nI (nw))) (C := RX7) (T := TX7) (N := 33) hx hb hts in_RX7 hown hE.1 hP _ f_mod rfl 5 (by decide) (hts (.fieldLink RX7 105 "BasketryOfficeModel" "now" "I") (by decide +kernel)) (fun _ h9 => h9) rfl dX7_quote_74 ?_
  refine lv_bipush (v := nI 12) hx hb dX7_quote_77 (by decide) ?_
  refine g_irem hx hb dX7_quote_79 (by decide) (pk_rem (by omega) (by decide) (by decide)) ?_
  refine g_ishr hx hb dX7_quote_80 (pk_shrN (by omega) _ (nw % 12) (g_sh12 _ (by omega))) ?_
  refine lv_iconst (v := nI 1) hx hb dX7_quote_81 (by decide) ?_
  refine g_iand hx hb dX7_quote_82 (pk_andN (by have := Nat.div_le_self (mse i) (2 ^ (nw % 12)); omega) 1 rfl) ?_
  refine g_if_eq (tgt := 103) hx hb (by omega) dX7_quote_83 (by decide) (fun c_83 => absurd c_83 (fun z => by rw [Nat.testBit_eq_decide_div_mod_eq] at hsn; have h9 := of_decide_eq_true hsn; omega)) (fun c_83 => ?_)
  refine lv_aload_n hx hb dX7_quote_86 rfl (lv_at hl 0 rfl) ?_
  refine va_get (D := D) (ci := 8) (v := .ref a_mce) (C := RX7) (T := TX7) (N := 33) hx hb hts in_RX7 hown hE.1 hP _ f_mod rfl 8 (by decide) (hts (.fieldLink RX7 19 "BasketryOfficeModel" "cents" "[I") (by decide +kernel)) (fun _ h9 => h9) rfl dX7_quote_87 ?_
  refine lv_aload_n hx hb dX7_quote_90 rfl (lv_at hl 0 rfl) ?_
  refine va_get (D := D) (ci := 8) (v := .int (nI (nw))) (C := RX7) (T := TX7) (N := 33) hx hb hts in_RX7 hown hE.1 hP _ f_mod rfl 5 (by decide) (hts (.fieldLink RX7 105 "BasketryOfficeModel" "now" "I") (by decide +kernel)) (fun _ h9 => h9) rfl dX7_quote_91 ?_
  refine lv_iload_n hx hb dX7_quote_94 rfl (lv_at hl 1 rfl) ?_
  refine lv_iload_n hx hb dX7_quote_95 rfl (lv_at hl 2 rfl) ?_
  refine gc_S_i (As := [.int (nI (nw)), .int (nI (i)), .int (nI (o))]) (rest := [.ref a_mce, .ref a_mod]) (c_X7_cell l) ⟨hx, hb, hml, hown, hts⟩ (va_cwS 3 hts gX7_quote_X7_cell rfl rfl rfl (by decide +kernel) ⟨Nat.le_of_ble_eq_true rfl, Nat.le_of_ble_eq_true rfl⟩) hE hP hD hS hA rfl rfl hl.1 (Nat.le_of_ble_eq_true rfl) dX7_quote_96 ⟨Nat.le_of_ble_eq_true rfl, Nat.le_of_ble_eq_true rfl⟩ (fun r_96 u_96 H locs hP hD hS q_96 => ?_)
  subst q_96
  refine g_nald hx hb hE hP _ f_mce (by omega) (by decide) dX7_quote_99 ?_
  have bd_99_2 := b_mce (48 * (nw) + 4 * (i) + (o))
  refine g_if_le (tgt := 107) hx hb (by omega) dX7_quote_100 (by decide) (fun c_100 => ?_) (fun c_100 => absurd c_100 (by omega))
  refine lv_aload_n hx hb dX7_quote_107 rfl (lv_at hl 0 rfl) ?_
  refine va_get (D := D) (ci := 8) (v := .int (nI (0))) (C := RX7) (T := TX7) (N := 33) hx hb hts in_RX7 hown hE.1 hP _ f_mod rfl 0 (by decide) (hts (.fieldLink RX7 94 "BasketryOfficeModel" "thrown" "I") (by decide +kernel)) (fun _ h9 => h9) rfl dX7_quote_108 ?_
  refine va_put (D := D) (ci := 8) (v := .int (nI (0))) (ty := .int) (C := RX7) (T := TX7) (N := 33) hx hb hts in_RX7 tyX7 tyX7_ok nmX7 hown hE.1 hP hD hS _ f_mod rfl 0 (by decide) (hts (.fieldLink RX7 94 "BasketryOfficeModel" "thrown" "I") (by decide +kernel)) (fun _ h9 => h9) rfl (by decide +kernel) rfl rfl (Nat.le_of_ble_eq_true rfl) dX7_quote_111 (fun H locs hP hD hS => ?_)
  have hP := g_trP g_ss hP
  have hD := g_trD g_ss hD
  have f_mod := g_eq (x := (a_mod, .inr (8, [.int (nI (0)), .int (nI (n)), x_mod_2, x_mod_3, .ref a_mse, .int (nI (nw)), .int (nI (qn)), x_mod_7, .ref a_mce, .ref a_mgm, x_mod_10, x_mod_11, x_mod_12, x_mod_13, x_mod_14, x_mod_15, x_mod_16, x_mod_17, x_mod_18, x_mod_19, x_mod_20, x_mod_21, x_mod_22, x_mod_23, x_mod_24, x_mod_25, x_mod_26, x_mod_27, x_mod_28, x_mod_29, x_mod_30, x_mod_31, x_mod_32]))) (f0_mod)
  have f_mse := g_ne (x := (a_mod, .inr (8, [.int (nI (0)), .int (nI (n)), x_mod_2, x_mod_3, .ref a_mse, .int (nI (nw)), .int (nI (qn)), x_mod_7, .ref a_mce, .ref a_mgm, x_mod_10, x_mod_11, x_mod_12, x_mod_13, x_mod_14, x_mod_15, x_mod_16, x_mod_17, x_mod_18, x_mod_19, x_mod_20, x_mod_21, x_mod_22, x_mod_23, x_mod_24, x_mod_25, x_mod_26, x_mod_27, x_mod_28, x_mod_29, x_mod_30, x_mod_31, x_mod_32]))) (g_kne f0_mod f0_mse (Nat.ne_of_beq_eq_false rfl)) (f0_mse)
  have f_mce := g_ne (x := (a_mod, .inr (8, [.int (nI (0)), .int (nI (n)), x_mod_2, x_mod_3, .ref a_mse, .int (nI (nw)), .int (nI (qn)), x_mod_7, .ref a_mce, .ref a_mgm, x_mod_10, x_mod_11, x_mod_12, x_mod_13, x_mod_14, x_mod_15, x_mod_16, x_mod_17, x_mod_18, x_mod_19, x_mod_20, x_mod_21, x_mod_22, x_mod_23, x_mod_24, x_mod_25, x_mod_26, x_mod_27, x_mod_28, x_mod_29, x_mod_30, x_mod_31, x_mod_32]))) (g_kne f0_mod f0_mce (Nat.ne_of_beq_eq_false rfl)) (f0_mce)
  have f_mgm := g_ne (x := (a_mod, .inr (8, [.int (nI (0)), .int (nI (n)), x_mod_2, x_mod_3, .ref a_mse, .int (nI (nw)), .int (nI (qn)), x_mod_7, .ref a_mce, .ref a_mgm, x_mod_10, x_mod_11, x_mod_12, x_mod_13, x_mod_14, x_mod_15, x_mod_16, x_mod_17, x_mod_18, x_mod_19, x_mod_20, x_mod_21, x_mod_22, x_mod_23, x_mod_24, x_mod_25, x_mod_26, x_mod_27, x_mod_28, x_mod_29, x_mod_30, x_mod_31, x_mod_32]))) (g_kne f0_mod f0_mgm (Nat.ne_of_beq_eq_false rfl)) (f0_mgm)
  refine lv_aload_n hx hb dX7_quote_114 rfl (lv_at hl 0 rfl) ?_
  refine va_get (D := D) (ci := 8) (v := .int (nI (0))) (C := RX7) (T := TX7) (N := 33) hx hb hts in_RX7 hown hE.1 hP _ f_mod rfl 0 (by decide) (hts (.fieldLink RX7 94 "BasketryOfficeModel" "thrown" "I") (by decide +kernel)) (fun _ h9 => h9) rfl dX7_quote_115 ?_
  refine g_if_le (tgt := 123) hx hb (by omega) dX7_quote_118 (by decide) (fun c_118 => ?_) (fun c_118 => absurd c_118 (by omega))
  refine lv_aload_n hx hb dX7_quote_123 rfl (lv_at hl 0 rfl) ?_
  refine va_get (D := D) (ci := 8) (v := .ref a_mce) (C := RX7) (T := TX7) (N := 33) hx hb hts in_RX7 hown hE.1 hP _ f_mod rfl 8 (by decide) (hts (.fieldLink RX7 19 "BasketryOfficeModel" "cents" "[I") (by decide +kernel)) (fun _ h9 => h9) rfl dX7_quote_124 ?_
  refine lv_aload_n hx hb dX7_quote_127 rfl (lv_at hl 0 rfl) ?_
  refine va_get (D := D) (ci := 8) (v := .int (nI (nw))) (C := RX7) (T := TX7) (N := 33) hx hb hts in_RX7 hown hE.1 hP _ f_mod rfl 5 (by decide) (hts (.fieldLink RX7 105 "BasketryOfficeModel" "now" "I") (by decide +kernel)) (fun _ h9 => h9) rfl dX7_quote_128 ?_
  refine lv_iload_n hx hb dX7_quote_131 rfl (lv_at hl 1 rfl) ?_
  refine lv_iload_n hx hb dX7_quote_132 rfl (lv_at hl 2 rfl) ?_
  refine gc_S_i (As := [.int (nI (nw)), .int (nI (i)), .int (nI (o))]) (rest := [.ref a_mce]) (c_X7_cell l) ⟨hx, hb, hml, hown, hts⟩ (va_cwS 3 hts gX7_quote_X7_cell rfl rfl rfl (by decide +kernel) ⟨Nat.le_of_ble_eq_true rfl, Nat.le_of_ble_eq_true rfl⟩) hE hP hD hS hA rfl rfl hl.1 (Nat.le_of_ble_eq_true rfl) dX7_quote_133 ⟨Nat.le_of_ble_eq_true rfl, Nat.le_of_ble_eq_true rfl⟩ (fun r_133 u_133 H locs hP hD hS q_133 => ?_)
  subst q_133
  refine lv_iload_n hx hb dX7_quote_136 rfl (lv_at hl 3 rfl) ?_
  refine g_nast hx hb hE hP hD hS _ f_mce (by omega) (by decide) dX7_quote_137 (fun H locs hP hD hS => ?_)
  have f_mod := g_ne (x := (a_mce, eN y 1152 (vf_upd mce (48 * (nw) + 4 * (i) + (o)) (ce)))) (g_kne f0_mce f0_mod (Nat.ne_of_beq_eq_false rfl)) (g_eq (x := (a_mod, .inr (8, [.int (nI (0)), .int (nI (n)), x_mod_2, x_mod_3, .ref a_mse, .int (nI (nw)), .int (nI (qn)), x_mod_7, .ref a_mce, .ref a_mgm, x_mod_10, x_mod_11, x_mod_12, x_mod_13, x_mod_14, x_mod_15, x_mod_16, x_mod_17, x_mod_18, x_mod_19, x_mod_20, x_mod_21, x_mod_22, x_mod_23, x_mod_24, x_mod_25, x_mod_26, x_mod_27, x_mod_28, x_mod_29, x_mod_30, x_mod_31, x_mod_32]))) (f0_mod))
  have f_mse := g_ne (x := (a_mce, eN y 1152 (vf_upd mce (48 * (nw) + 4 * (i) + (o)) (ce)))) (Ne.symm hdis.2.1) (g_ne (x := (a_mod, .inr (8, [.int (nI (0)), .int (nI (n)), x_mod_2, x_mod_3, .ref a_mse, .int (nI (nw)), .int (nI (qn)), x_mod_7, .ref a_mce, .ref a_mgm, x_mod_10, x_mod_11, x_mod_12, x_mod_13, x_mod_14, x_mod_15, x_mod_16, x_mod_17, x_mod_18, x_mod_19, x_mod_20, x_mod_21, x_mod_22, x_mod_23, x_mod_24, x_mod_25, x_mod_26, x_mod_27, x_mod_28, x_mod_29, x_mod_30, x_mod_31, x_mod_32]))) (g_kne f0_mod f0_mse (Nat.ne_of_beq_eq_false rfl)) (f0_mse))
  have f_mce := g_eq (x := (a_mce, eN y 1152 (vf_upd mce (48 * (nw) + 4 * (i) + (o)) (ce)))) (g_ne (x := (a_mod, .inr (8, [.int (nI (0)), .int (nI (n)), x_mod_2, x_mod_3, .ref a_mse, .int (nI (nw)), .int (nI (qn)), x_mod_7, .ref a_mce, .ref a_mgm, x_mod_10, x_mod_11, x_mod_12, x_mod_13, x_mod_14, x_mod_15, x_mod_16, x_mod_17, x_mod_18, x_mod_19, x_mod_20, x_mod_21, x_mod_22, x_mod_23, x_mod_24, x_mod_25, x_mod_26, x_mod_27, x_mod_28, x_mod_29, x_mod_30, x_mod_31, x_mod_32]))) (g_kne f0_mod f0_mce (Nat.ne_of_beq_eq_false rfl)) (f0_mce))
  have f_mgm := g_ne (x := (a_mce, eN y 1152 (vf_upd mce (48 * (nw) + 4 * (i) + (o)) (ce)))) hdis.1 (g_ne (x := (a_mod, .inr (8, [.int (nI (0)), .int (nI (n)), x_mod_2, x_mod_3, .ref a_mse, .int (nI (nw)), .int (nI (qn)), x_mod_7, .ref a_mce, .ref a_mgm, x_mod_10, x_mod_11, x_mod_12, x_mod_13, x_mod_14, x_mod_15, x_mod_16, x_mod_17, x_mod_18, x_mod_19, x_mod_20, x_mod_21, x_mod_22, x_mod_23, x_mod_24, x_mod_25, x_mod_26, x_mod_27, x_mod_28, x_mod_29, x_mod_30, x_mod_31, x_mod_32]))) (g_kne f0_mod f0_mgm (Nat.ne_of_beq_eq_false rfl)) (f0_mgm))
  refine lv_aload_n hx hb dX7_quote_138 rfl (lv_at hl 0 rfl) ?_
  refine va_get (D := D) (ci := 8) (v := .ref a_mgm) (C := RX7) (T := TX7) (N := 33) hx hb hts in_RX7 hown hE.1 hP _ f_mod rfl 9 (by decide) (hts (.fieldLink RX7 22 "BasketryOfficeModel" "grams" "[I") (by decide +kernel)) (fun _ h9 => h9) rfl dX7_quote_139 ?_
  refine lv_aload_n hx hb dX7_quote_142 rfl (lv_at hl 0 rfl) ?_
  refine va_get (D := D) (ci := 8) (v := .int (nI (nw))) (C := RX7) (T := TX7) (N := 33) hx hb hts in_RX7 hown hE.1 hP _ f_mod rfl 5 (by decide) (hts (.fieldLink RX7 105 "BasketryOfficeModel" "now" "I") (by decide +kernel)) (fun _ h9 => h9) rfl dX7_quote_143 ?_
  refine lv_iload_n hx hb dX7_quote_146 rfl (lv_at hl 1 rfl) ?_
  refine lv_iload_n hx hb dX7_quote_147 rfl (lv_at hl 2 rfl) ?_
  refine gc_S_i (As := [.int (nI (nw)), .int (nI (i)), .int (nI (o))]) (rest := [.ref a_mgm]) (c_X7_cell l) ⟨hx, hb, hml, hown, hts⟩ (va_cwS 3 hts gX7_quote_X7_cell rfl rfl rfl (by decide +kernel) ⟨Nat.le_of_ble_eq_true rfl, Nat.le_of_ble_eq_true rfl⟩) hE hP hD hS hA rfl rfl hl.1 (Nat.le_of_ble_eq_true rfl) dX7_quote_148 ⟨Nat.le_of_ble_eq_true rfl, Nat.le_of_ble_eq_true rfl⟩ (fun r_148 u_148 H locs hP hD hS q_148 => ?_)
  subst q_148
  refine lv_iload hx hb dX7_quote_151 (lv_at hl 4 rfl) ?_
  refine g_nast hx hb hE hP hD hS _ f_mgm (by omega) (by decide) dX7_quote_153 (fun H locs hP hD hS => ?_)
  have f_mod := g_ne (x := (a_mgm, eN y 1152 (vf_upd mgm (48 * (nw) + 4 * (i) + (o)) (gr)))) (g_kne f0_mgm f0_mod (Nat.ne_of_beq_eq_false rfl)) (g_ne (x := (a_mce, eN y 1152 (vf_upd mce (48 * (nw) + 4 * (i) + (o)) (ce)))) (g_kne f0_mce f0_mod (Nat.ne_of_beq_eq_false rfl)) (g_eq (x := (a_mod, .inr (8, [.int (nI (0)), .int (nI (n)), x_mod_2, x_mod_3, .ref a_mse, .int (nI (nw)), .int (nI (qn)), x_mod_7, .ref a_mce, .ref a_mgm, x_mod_10, x_mod_11, x_mod_12, x_mod_13, x_mod_14, x_mod_15, x_mod_16, x_mod_17, x_mod_18, x_mod_19, x_mod_20, x_mod_21, x_mod_22, x_mod_23, x_mod_24, x_mod_25, x_mod_26, x_mod_27, x_mod_28, x_mod_29, x_mod_30, x_mod_31, x_mod_32]))) (f0_mod)))
  have f_mse := g_ne (x := (a_mgm, eN y 1152 (vf_upd mgm (48 * (nw) + 4 * (i) + (o)) (gr)))) (Ne.symm hdis.2.2) (g_ne (x := (a_mce, eN y 1152 (vf_upd mce (48 * (nw) + 4 * (i) + (o)) (ce)))) (Ne.symm hdis.2.1) (g_ne (x := (a_mod, .inr (8, [.int (nI (0)), .int (nI (n)), x_mod_2, x_mod_3, .ref a_mse, .int (nI (nw)), .int (nI (qn)), x_mod_7, .ref a_mce, .ref a_mgm, x_mod_10, x_mod_11, x_mod_12, x_mod_13, x_mod_14, x_mod_15, x_mod_16, x_mod_17, x_mod_18, x_mod_19, x_mod_20, x_mod_21, x_mod_22, x_mod_23, x_mod_24, x_mod_25, x_mod_26, x_mod_27, x_mod_28, x_mod_29, x_mod_30, x_mod_31, x_mod_32]))) (g_kne f0_mod f0_mse (Nat.ne_of_beq_eq_false rfl)) (f0_mse)))
  have f_mce := g_ne (x := (a_mgm, eN y 1152 (vf_upd mgm (48 * (nw) + 4 * (i) + (o)) (gr)))) (Ne.symm hdis.1) (g_eq (x := (a_mce, eN y 1152 (vf_upd mce (48 * (nw) + 4 * (i) + (o)) (ce)))) (g_ne (x := (a_mod, .inr (8, [.int (nI (0)), .int (nI (n)), x_mod_2, x_mod_3, .ref a_mse, .int (nI (nw)), .int (nI (qn)), x_mod_7, .ref a_mce, .ref a_mgm, x_mod_10, x_mod_11, x_mod_12, x_mod_13, x_mod_14, x_mod_15, x_mod_16, x_mod_17, x_mod_18, x_mod_19, x_mod_20, x_mod_21, x_mod_22, x_mod_23, x_mod_24, x_mod_25, x_mod_26, x_mod_27, x_mod_28, x_mod_29, x_mod_30, x_mod_31, x_mod_32]))) (g_kne f0_mod f0_mce (Nat.ne_of_beq_eq_false rfl)) (f0_mce)))
  have f_mgm := g_eq (x := (a_mgm, eN y 1152 (vf_upd mgm (48 * (nw) + 4 * (i) + (o)) (gr)))) (g_ne (x := (a_mce, eN y 1152 (vf_upd mce (48 * (nw) + 4 * (i) + (o)) (ce)))) hdis.1 (g_ne (x := (a_mod, .inr (8, [.int (nI (0)), .int (nI (n)), x_mod_2, x_mod_3, .ref a_mse, .int (nI (nw)), .int (nI (qn)), x_mod_7, .ref a_mce, .ref a_mgm, x_mod_10, x_mod_11, x_mod_12, x_mod_13, x_mod_14, x_mod_15, x_mod_16, x_mod_17, x_mod_18, x_mod_19, x_mod_20, x_mod_21, x_mod_22, x_mod_23, x_mod_24, x_mod_25, x_mod_26, x_mod_27, x_mod_28, x_mod_29, x_mod_30, x_mod_31, x_mod_32]))) (g_kne f0_mod f0_mgm (Nat.ne_of_beq_eq_false rfl)) (f0_mgm)))
  refine lv_aload_n hx hb dX7_quote_154 rfl (lv_at hl 0 rfl) ?_
  refine lv_dup hx hb dX7_quote_155 rfl ?_
  refine va_get (D := D) (ci := 8) (v := .int (nI (qn))) (C := RX7) (T := TX7) (N := 33) hx hb hts in_RX7 hown hE.1 hP _ f_mod rfl 6 (by decide) (hts (.fieldLink RX7 123 "BasketryOfficeModel" "quotes" "I") (by decide +kernel)) (fun _ h9 => h9) rfl dX7_quote_156 ?_
  refine lv_iconst (v := nI 1) hx hb dX7_quote_159 (by decide) ?_
  refine g_iadd hx hb dX7_quote_160 (nI_add _ _) ?_
  refine va_put (D := D) (ci := 8) (v := .int (nI (qn + 1))) (ty := .int) (C := RX7) (T := TX7) (N := 33) hx hb hts in_RX7 tyX7 tyX7_ok nmX7 hown hE.1 hP hD hS _ f_mod rfl 6 (by decide) (hts (.fieldLink RX7 123 "BasketryOfficeModel" "quotes" "I") (by decide +kernel)) (fun _ h9 => h9) rfl (by decide +kernel) rfl rfl (Nat.le_of_ble_eq_true rfl) dX7_quote_161 (fun H locs hP hD hS => ?_)
  have hP := g_trP (g_sc (g_kne f0_mgm f0_mod (Nat.ne_of_beq_eq_false rfl)) (g_sc (g_kne f0_mce f0_mod (Nat.ne_of_beq_eq_false rfl)) g_ss)) hP
  have hD := g_trD (g_sc (g_kne f0_mgm f0_mod (Nat.ne_of_beq_eq_false rfl)) (g_sc (g_kne f0_mce f0_mod (Nat.ne_of_beq_eq_false rfl)) g_ss)) hD
  have f_mod := g_ne (x := (a_mgm, eN y 1152 (vf_upd mgm (48 * (nw) + 4 * (i) + (o)) (gr)))) (g_kne f0_mgm f0_mod (Nat.ne_of_beq_eq_false rfl)) (g_ne (x := (a_mce, eN y 1152 (vf_upd mce (48 * (nw) + 4 * (i) + (o)) (ce)))) (g_kne f0_mce f0_mod (Nat.ne_of_beq_eq_false rfl)) (g_eq (x := (a_mod, .inr (8, [.int (nI (0)), .int (nI (n)), x_mod_2, x_mod_3, .ref a_mse, .int (nI (nw)), .int (nI (qn + 1)), x_mod_7, .ref a_mce, .ref a_mgm, x_mod_10, x_mod_11, x_mod_12, x_mod_13, x_mod_14, x_mod_15, x_mod_16, x_mod_17, x_mod_18, x_mod_19, x_mod_20, x_mod_21, x_mod_22, x_mod_23, x_mod_24, x_mod_25, x_mod_26, x_mod_27, x_mod_28, x_mod_29, x_mod_30, x_mod_31, x_mod_32]))) (f0_mod)))
  have f_mse := g_ne (x := (a_mgm, eN y 1152 (vf_upd mgm (48 * (nw) + 4 * (i) + (o)) (gr)))) (Ne.symm hdis.2.2) (g_ne (x := (a_mce, eN y 1152 (vf_upd mce (48 * (nw) + 4 * (i) + (o)) (ce)))) (Ne.symm hdis.2.1) (g_ne (x := (a_mod, .inr (8, [.int (nI (0)), .int (nI (n)), x_mod_2, x_mod_3, .ref a_mse, .int (nI (nw)), .int (nI (qn + 1)), x_mod_7, .ref a_mce, .ref a_mgm, x_mod_10, x_mod_11, x_mod_12, x_mod_13, x_mod_14, x_mod_15, x_mod_16, x_mod_17, x_mod_18, x_mod_19, x_mod_20, x_mod_21, x_mod_22, x_mod_23, x_mod_24, x_mod_25, x_mod_26, x_mod_27, x_mod_28, x_mod_29, x_mod_30, x_mod_31, x_mod_32]))) (g_kne f0_mod f0_mse (Nat.ne_of_beq_eq_false rfl)) (f0_mse)))
  have f_mce := g_ne (x := (a_mgm, eN y 1152 (vf_upd mgm (48 * (nw) + 4 * (i) + (o)) (gr)))) (Ne.symm hdis.1) (g_eq (x := (a_mce, eN y 1152 (vf_upd mce (48 * (nw) + 4 * (i) + (o)) (ce)))) (g_ne (x := (a_mod, .inr (8, [.int (nI (0)), .int (nI (n)), x_mod_2, x_mod_3, .ref a_mse, .int (nI (nw)), .int (nI (qn + 1)), x_mod_7, .ref a_mce, .ref a_mgm, x_mod_10, x_mod_11, x_mod_12, x_mod_13, x_mod_14, x_mod_15, x_mod_16, x_mod_17, x_mod_18, x_mod_19, x_mod_20, x_mod_21, x_mod_22, x_mod_23, x_mod_24, x_mod_25, x_mod_26, x_mod_27, x_mod_28, x_mod_29, x_mod_30, x_mod_31, x_mod_32]))) (g_kne f0_mod f0_mce (Nat.ne_of_beq_eq_false rfl)) (f0_mce)))
  have f_mgm := g_eq (x := (a_mgm, eN y 1152 (vf_upd mgm (48 * (nw) + 4 * (i) + (o)) (gr)))) (g_ne (x := (a_mce, eN y 1152 (vf_upd mce (48 * (nw) + 4 * (i) + (o)) (ce)))) hdis.1 (g_ne (x := (a_mod, .inr (8, [.int (nI (0)), .int (nI (n)), x_mod_2, x_mod_3, .ref a_mse, .int (nI (nw)), .int (nI (qn + 1)), x_mod_7, .ref a_mce, .ref a_mgm, x_mod_10, x_mod_11, x_mod_12, x_mod_13, x_mod_14, x_mod_15, x_mod_16, x_mod_17, x_mod_18, x_mod_19, x_mod_20, x_mod_21, x_mod_22, x_mod_23, x_mod_24, x_mod_25, x_mod_26, x_mod_27, x_mod_28, x_mod_29, x_mod_30, x_mod_31, x_mod_32]))) (g_kne f0_mod f0_mgm (Nat.ne_of_beq_eq_false rfl)) (f0_mgm)))
  refine lv_aload_n hx hb dX7_quote_164 rfl (lv_at hl 0 rfl) ?_
  refine va_get (D := D) (ci := 8) (v := .int (nI (qn + 1))) (C := RX7) (T := TX7) (N := 33) hx hb hts in_RX7 hown hE.1 hP _ f_mod rfl 6 (by decide) (hts (.fieldLink RX7 123 "BasketryOfficeModel" "quotes" "I") (by decide +kernel)) (fun _ h9 => h9) rfl dX7_quote_165 ?_
  refine g_iret hx hb hr hlocks () dX7_quote_168 hS hP hD ?_
  exact rfl
