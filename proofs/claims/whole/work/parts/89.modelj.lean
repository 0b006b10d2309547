theorem in_x0_X7_item_RX7 : ∀ w ∈ wsX70, w ∈ wsX7_item := by decide +kernel
set_option maxHeartbeats 4000000 in
set_option maxRecDepth 100000 in
theorem x0_X7_item (l : Launch) {D : va_G} {y : Nat → Nat} {ws : va_W} {x_mod_2 : Value} {x_mod_3 : Value} {x_mod_4 : Value} {x_mod_6 : Value} {x_mod_7 : Value} {x_mod_8 : Value} {x_mod_9 : Value} {x_mod_10 : Value} {x_mod_11 : Value} {x_mod_12 : Value} {x_mod_13 : Value} {x_mod_14 : Value} {x_mod_15 : Value} {x_mod_16 : Value} {x_mod_17 : Value} {x_mod_18 : Value} {x_mod_19 : Value} {x_mod_20 : Value} {x_mod_21 : Value} {x_mod_22 : Value} {x_mod_23 : Value} {x_mod_24 : Value} {x_mod_25 : Value} {x_mod_26 : Value} {x_mod_27 : Value} {x_mod_28 : Value} {x_mod_29 : Value} {x_mod_30 : Value} {x_mod_31 : Value} {x_mod_32 : Value} {p_mod a_mod : Nat} {g mn sn : Int32} {nw n th : Nat} (f0_mod : ws[p_mod]? = some (a_mod, .inr (8, [.int (nI (th)), .int (nI (n)), x_mod_2, x_mod_3, x_mod_4, .int (nI (nw)), x_mod_6, x_mod_7, x_mod_8, x_mod_9, x_mod_10, x_mod_11, x_mod_12, x_mod_13, x_mod_14, x_mod_15, x_mod_16, x_mod_17, x_mod_18, x_mod_19, x_mod_20, x_mod_21, x_mod_22, x_mod_23, x_mod_24, x_mod_25, x_mod_26, x_mod_27, x_mod_28, x_mod_29, x_mod_30, x_mod_31, x_mod_32]))) (hw : nw ≤ 24) (hn : n ≤ 12)  (hbad : g < 0 ∨ nI 4 ≤ g) : gMi l yX7_item wsX7_item ({ frames := 2, cells := 0, slots := 0, locals := 42 }) D y [.ref a_mod, .int (g), .int (mn), .int (sn)] ws (fun r (_ : Unit) => r = nI 0) (fun (_ : Unit) => (ws.set p_mod (a_mod, .inr (8, [.int (nI (1)), .int (nI (n)), x_mod_2, x_mod_3, x_mod_4, .int (nI (nw)), x_mod_6, x_mod_7, x_mod_8, x_mod_9, x_mod_10, x_mod_11, x_mod_12, x_mod_13, x_mod_14, x_mod_15, x_mod_16, x_mod_17, x_mod_18, x_mod_19, x_mod_20, x_mod_21, x_mod_22, x_mod_23, x_mod_24, x_mod_25, x_mod_26, x_mod_27, x_mod_28, x_mod_29, x_mod_30, x_mod_31, x_mod_32])))) := by
  refine g_met_i (cc := cX7_item) (maxL := 4) (by decide) rfl (Nat.le_of_ble_eq_true rfl) ?_
  intro p e s m below meth c A hx hb hml hr hts hown hnm hlocks hE hP hD hS hA ls hl
  have hown : s.vm.findClass RX7 = some m.cls := hown
  have hl : lv_has ls 4 [(0, .ref a_mod), (1, .int (g)), (2, .int (mn)), (3, .int (sn))] := hl
  have in_RX7 := in_x0_X7_item_RX7
  refine lv_aload_n hx hb dX7_item_0 rfl (lv_at hl 0 rfl) ?_
  refine lv_iload_n hx hb dX7_item_1 rfl (lv_at hl 1 rfl) ?_
  refine gc_S_i (As := [.int (g)]) (rest := [.ref a_mod]) (c_X7_isGroup l) ⟨hx, hb, hml, hown, hts⟩ (va_cwS 1 hts gX7_item_X7_isGroup rfl rfl rfl (by decide +kernel) ⟨Nat.le_of_ble_eq_true rfl, Nat.le_of_ble_eq_true rfl⟩) hE hP hD hS hA rfl rfl hl.1 (Nat.le_of_ble_eq_true rfl) dX7_item_2 ⟨Nat.le_of_ble_eq_true rfl, Nat.le_of_ble_eq_true rfl⟩ (fun r_2 u_2 H locs hP hD hS q_2 => ?_)
  subst q_2
  refine g_bif_ne (tgt := 12) hx hb dX7_item_5 (by decide) (fun c_5 => absurd c_5 (by rw [decide_eq_false (fun z => z hbad)]; decide)) (fun c_5 => ?_)
  refine lv_iconst (v := nI 1) hx hb dX7_item_8 (by decide) ?_
  refine lv_goto (tgt := 50) hx hb dX7_item_9 (by decide) ?_
  refine va_put (D := D) (ci := 8) (v := .int (nI (1))) (ty := .int) (C := RX7) (T := TX7) (N := 33) hx hb hts in_RX7 tyX7 tyX7_ok nmX7 hown hE.1 hP hD hS _ f0_mod rfl 0 (by decide) (hts (.fieldLink RX7 94 "BasketryOfficeModel" "thrown" "I") (by decide +kernel)) (fun _ h9 => h9) rfl (by decide +kernel) rfl rfl (Nat.le_of_ble_eq_true rfl) dX7_item_50 (fun H locs hP hD hS => ?_)
  have f_mod := g_eq (x := (a_mod, .inr (8, [.int (nI (1)), .int (nI (n)), x_mod_2, x_mod_3, x_mod_4, .int (nI (nw)), x_mod_6, x_mod_7, x_mod_8, x_mod_9, x_mod_10, x_mod_11, x_mod_12, x_mod_13, x_mod_14, x_mod_15, x_mod_16, x_mod_17, x_mod_18, x_mod_19, x_mod_20, x_mod_21, x_mod_22, x_mod_23, x_mod_24, x_mod_25, x_mod_26, x_mod_27, x_mod_28, x_mod_29, x_mod_30, x_mod_31, x_mod_32]))) (f0_mod)
  refine lv_aload_n hx hb dX7_item_53 rfl (lv_at hl 0 rfl) ?_
  refine va_get (D := D) (ci := 8) (v := .int (nI (1))) (C := RX7) (T := TX7) (N := 33) hx hb hts in_RX7 hown hE.1 hP _ f_mod rfl 0 (by decide) (hts (.fieldLink RX7 94 "BasketryOfficeModel" "thrown" "I") (by decide +kernel)) (fun _ h9 => h9) rfl dX7_item_54 ?_
  refine g_if_le (tgt := 62) hx hb (by omega) dX7_item_57 (by decide) (fun c_57 => absurd c_57 (by omega)) (fun c_57 => ?_)
  refine lv_iconst (v := nI 0) hx hb dX7_item_60 (by decide) ?_
  refine g_iret hx hb hr hlocks () dX7_item_61 hS hP hD ?_
  exact rfl

theorem in_x1_X7_item_RX7 : ∀ w ∈ wsX70, w ∈ wsX7_item := by decide +kernel
set_option maxHeartbeats 4000000 in
set_option maxRecDepth 100000 in
theorem x1_X7_item (l : Launch) {D : va_G} {y : Nat → Nat} {ws : va_W} {x_mod_2 : Value} {x_mod_3 : Value} {x_mod_4 : Value} {x_mod_6 : Value} {x_mod_7 : Value} {x_mod_8 : Value} {x_mod_9 : Value} {x_mod_10 : Value} {x_mod_11 : Value} {x_mod_12 : Value} {x_mod_13 : Value} {x_mod_14 : Value} {x_mod_15 : Value} {x_mod_16 : Value} {x_mod_17 : Value} {x_mod_18 : Value} {x_mod_19 : Value} {x_mod_20 : Value} {x_mod_21 : Value} {x_mod_22 : Value} {x_mod_23 : Value} {x_mod_24 : Value} {x_mod_25 : Value} {x_mod_26 : Value} {x_mod_27 : Value} {x_mod_28 : Value} {x_mod_29 : Value} {x_mod_30 : Value} {x_mod_31 : Value} {x_mod_32 : Value} {p_mod a_mod : Nat} {g : Nat} {mn sn : Int32} {nw n th : Nat} (f0_mod : ws[p_mod]? = some (a_mod, .inr (8, [.int (nI (th)), .int (nI (n)), x_mod_2, x_mod_3, x_mod_4, .int (nI (nw)), x_mod_6, x_mod_7, x_mod_8, x_mod_9, x_mod_10, x_mod_11, x_mod_12, x_mod_13, x_mod_14, x_mod_15, x_mod_16, x_mod_17, x_mod_18, x_mod_19, x_mod_20, x_mod_21, x_mod_22, x_mod_23, x_mod_24, x_mod_25, x_mod_26, x_mod_27, x_mod_28, x_mod_29, x_mod_30, x_mod_31, x_mod_32]))) (hw : nw ≤ 24) (hn : n ≤ 12) (hg : g < 4) (hbad : mn < nI 0 ∨ nI 2 < mn) : gMi l yX7_item wsX7_item ({ frames := 2, cells := 0, slots := 0, locals := 42 }) D y [.ref a_mod, .int (nI (g)), .int (mn), .int (sn)] ws (fun r (_ : Unit) => r = nI 0) (fun (_ : Unit) => (ws.set p_mod (a_mod, .inr (8, [.int (nI (2)), .int (nI (n)), x_mod_2, x_mod_3, x_mod_4, .int (nI (nw)), x_mod_6, x_mod_7, x_mod_8, x_mod_9, x_mod_10, x_mod_11, x_mod_12, x_mod_13, x_mod_14, x_mod_15, x_mod_16, x_mod_17, x_mod_18, x_mod_19, x_mod_20, x_mod_21, x_mod_22, x_mod_23, x_mod_24, x_mod_25, x_mod_26, x_mod_27, x_mod_28, x_mod_29, x_mod_30, x_mod_31, x_mod_32])))) := by
  refine g_met_i (cc := cX7_item) (maxL := 4) (by decide) rfl (Nat.le_of_ble_eq_true rfl) ?_
  intro p e s m below meth c A hx hb hml hr hts hown hnm hlocks hE hP hD hS hA ls hl
  have hown : s.vm.findClass RX7 = some m.cls := hown
  have hl : lv_has ls 4 [(0, .ref a_mod), (1, .int (nI (g))), (2, .int (mn)), (3, .int (sn))] := hl
  have in_RX7 := in_x1_X7_item_RX7
  refine lv_aload_n hx hb dX7_item_0 rfl (lv_at hl 0 rfl) ?_
  refine lv_iload_n hx hb dX7_item_1 rfl (lv_at hl 1 rfl) ?_
  refine gc_S_i (As := [.int (nI (g))]) (rest := [.ref a_mod]) (c_X7_isGroup l) ⟨hx, hb, hml, hown, hts⟩ (va_cwS 1 hts gX7_item_X7_isGroup rfl rfl rfl (by decide +kernel) ⟨Nat.le_of_ble_eq_true rfl, Nat.le_of_ble_eq_true rfl⟩) hE hP hD hS hA rfl rfl hl.1 (Nat.le_of_ble_eq_true rfl) dX7_item_2 ⟨Nat.le_of_ble_eq_true rfl, Nat.le_of_ble_eq_true rfl⟩ (fun r_2 u_2 H locs hP hD hS q_2 => ?_)
  subst q_2
  refine g_bif_ne (tgt := 12) hx hb dX7_item_5 (by decide) (fun c_5 => ?_) (fun c_5 => absurd c_5 (by rw [decide_eq_true (rq_lt hg (by omega))]; decide))
  refine lv_iload_n hx hb dX7_item_12 rfl (lv_at hl 2 rfl) ?_
  refine lv_iconst (v := nI 0) hx hb dX7_item_13 (by decide) ?_
  refine lv_iconst (v := nI 2) hx hb dX7_item_14 (by decide) ?_
  refine gc_S_i (As := [.int (mn), .int (nI (0)), .int (nI (2))]) (rest := [.ref a_mod]) (c_X7_in l) ⟨hx, hb, hml, hown, hts⟩ (va_cwS 3 hts gX7_item_X7_in rfl rfl rfl (by decide +kernel) ⟨Nat.le_of_ble_eq_true rfl, Nat.le_of_ble_eq_true rfl⟩) hE hP hD hS hA rfl rfl hl.1 (Nat.le_of_ble_eq_true rfl) dX7_item_15 ⟨Nat.le_of_ble_eq_true rfl, Nat.le_of_ble_eq_true rfl⟩ (fun r_15 u_15 H locs hP hD hS q_15 => ?_)
  subst q_15
  refine g_bif_eq (tgt := 32) hx hb dX7_item_18 (by decide) (fun c_18 => ?_) (fun c_18 => absurd c_18 (by rw [decide_eq_false (fun z => z hbad)]; decide))
  refine lv_iconst (v := nI 2) hx hb dX7_item_32 (by decide) ?_
  refine lv_goto (tgt := 50) hx hb dX7_item_33 (by decide) ?_
  refine va_put (D := D) (ci := 8) (v := .int (nI (2))) (ty := .int) (C := RX7) (T := TX7) (N := 33) hx hb hts in_RX7 tyX7 tyX7_ok nmX7 hown hE.1 hP hD hS _ f0_mod rfl 0 (by decide) (hts (.fieldLink RX7 94 "BasketryOfficeModel" "thrown" "I") (by decide +kernel)) (fun _ h9 => h9) rfl (by decide +kernel) rfl rfl (Nat.le_of_ble_eq_true rfl) dX7_item_50 (fun H locs hP hD hS => ?_)
  have f_mod := g_eq (x := (a_mod, .inr (8, [.int (nI (2)), .int (nI (n)), x_mod_2, x_mod_3, x_mod_4, .int (nI (nw)), x_mod_6, x_mod_7, x_mod_8, x_mod_9, x_mod_10, x_mod_11, x_mod_12, x_mod_13, x_mod_14, x_mod_15, x_mod_16, x_mod_17, x_mod_18, x_mod_19, x_mod_20, x_mod_21, x_mod_22, x_mod_23, x_mod_24, x_mod_25, x_mod_26, x_mod_27, x_mod_28, x_mod_29, x_mod_30, x_mod_31, x_mod_32]))) (f0_mod)
  refine lv_aload_n hx hb dX7_item_53 rfl (lv_at hl 0 rfl) ?_
  refine va_get (D := D) (ci := 8) (v := .int (nI (2))) (C := RX7) (T := TX7) (N := 33) hx hb hts in_RX7 hown hE.1 hP _ f_mod rfl 0 (by decide) (hts (.fieldLink RX7 94 "BasketryOfficeModel" "thrown" "I") (by decide +kernel)) (fun _ h9 => h9) rfl dX7_item_54 ?_
  refine g_if_le (tgt := 62) hx hb (by omega) dX7_item_57 (by decide) (fun c_57 => absurd c_57 (by omega)) (fun c_57 => ?_)
  refine lv_iconst (v := nI 0) hx hb dX7_item_60 (by decide) ?_
  refine g_iret hx hb hr hlocks () dX7_item_61 hS hP hD ?_
  exact rfl

theorem in_x2_X7_item_RX7 : ∀ w ∈ wsX70, w ∈ wsX7_item := by decide +kernel
set_option maxHeartbeats 4000000 in
set_option maxRecDepth 100000 in
theorem x2_X7_item (l : Launch) {D : va_G} {y : Nat → Nat} {ws : va_W} {x_mod_2 : Value} {x_mod_3 : Value} {x_mod_4 : Value} {x_mod_6 : Value} {x_mod_7 : Value} {x_mod_8 : Value} {x_mod_9 : Value} {x_mod_10 : Value} {x_mod_11 : Value} {x_mod_12 : Value} {x_mod_13 : Value} {x_mod_14 : Value} {x_mod_15 : Value} {x_mod_16 : Value} {x_mod_17 : Value} {x_mod_18 : Value} {x_mod_19 : Value} {x_mod_20 : Value} {x_mod_21 : Value} {x_mod_22 : Value} {x_mod_23 : Value} {x_mod_24 : Value} {x_mod_25 : Value} {x_mod_26 : Value} {x_mod_27 : Value} {x_mod_28 : Value} {x_mod_29 : Value} {x_mod_30 : Value} {x_mod_31 : Value} {x_mod_32 : Value} {p_mod a_mod : Nat} {g mn : Nat} {sn : Int32} {nw n th : Nat} (f0_mod : ws[p_mod]? = some (a_mod, .inr (8, [.int (nI (th)), .int (nI (n)), x_mod_2, x_mod_3, x_mod_4, .int (nI (nw)), x_mod_6, x_mod_7, x_mod_8, x_mod_9, x_mod_10, x_mod_11, x_mod_12, x_mod_13, x_mod_14, x_mod_15, x_mod_16, x_mod_17, x_mod_18, x_mod_19, x_mod_20, x_mod_21, x_mod_22, x_mod_23, x_mod_24, x_mod_25, x_mod_26, x_mod_27, x_mod_28, x_mod_29, x_mod_30, x_mod_31, x_mod_32]))) (hw : nw ≤ 24) (hn : n ≤ 12) (hg : g < 4) (hmn : 0 ≤ mn) (kmn : mn ≤ 2) (hbad : sn < nI 1 ∨ nI 4095 < sn) : gMi l yX7_item wsX7_item ({ frames := 2, cells := 0, slots := 0, locals := 42 }) D y [.ref a_mod, .int (nI (g)), .int (nI (mn)), .int (sn)] ws (fun r (_ : Unit) => r = nI 0) (fun (_ : Unit) => (ws.set p_mod (a_mod, .inr (8, [.int (nI (2)), .int (nI (n)), x_mod_2, x_mod_3, x_mod_4, .int (nI (nw)), x_mod_6, x_mod_7, x_mod_8, x_mod_9, x_mod_10, x_mod_11, x_mod_12, x_mod_13, x_mod_14, x_mod_15, x_mod_16, x_mod_17, x_mod_18, x_mod_19, x_mod_20, x_mod_21, x_mod_22, x_mod_23, x_mod_24, x_mod_25, x_mod_26, x_mod_27, x_mod_28, x_mod_29, x_mod_30, x_mod_31, x_mod_32])))) := by
  refine g_met_i (cc := cX7_item) (maxL := 4) (by decide) rfl (Nat.le_of_ble_eq_true rfl) ?_
  intro p e s m below meth c A hx hb hml hr hts hown hnm hlocks hE hP hD hS hA ls hl
  have hown : s.vm.findClass RX7 = some m.cls := hown
  have hl : lv_has ls 4 [(0, .ref a_mod), (1, .int (nI (g))), (2, .int (nI (mn))), (3, .int (sn))] := hl
  have in_RX7 := in_x2_X7_item_RX7
  refine lv_aload_n hx hb dX7_item_0 rfl (lv_at hl 0 rfl) ?_
  refine lv_iload_n hx hb dX7_item_1 rfl (lv_at hl 1 rfl) ?_
  refine gc_S_i (As := [.int (nI (g))]) (rest := [.ref a_mod]) (c_X7_isGroup l) ⟨hx, hb, hml, hown, hts⟩ (va_cwS 1 hts gX7_item_X7_isGroup rfl rfl rfl (by decide +kernel) ⟨Nat.le_of_ble_eq_true rfl, Nat.le_of_ble_eq_true rfl⟩) hE hP hD hS hA rfl rfl hl.1 (Nat.le_of_ble_eq_true rfl) dX7_item_2 ⟨Nat.le_of_ble_eq_true rfl, Nat.le_of_ble_eq_true rfl⟩ (fun r_2 u_2 H locs hP hD hS q_2 => ?_)
  subst q_2
  refine g_bif_ne (tgt := 12) hx hb dX7_item_5 (by decide) (fun c_5 => ?_) (fun c_5 => absurd c_5 (by rw [decide_eq_true (rq_lt hg (by omega))]; decide))
  refine lv_iload_n hx hb dX7_item_12 rfl (lv_at hl 2 rfl) ?_
  refine lv_iconst (v := nI 0) hx hb dX7_item_13 (by decide) ?_
  refine lv_iconst (v := nI 2) hx hb dX7_item_14 (by decide) ?_
  refine gc_S_i (As := [.int (nI (mn)), .int (nI (0)), .int (nI (2))]) (rest := [.ref a_mod]) (c_X7_in l) ⟨hx, hb, hml, hown, hts⟩ (va_cwS 3 hts gX7_item_X7_in rfl rfl rfl (by decide +kernel) ⟨Nat.le_of_ble_eq_true rfl, Nat.le_of_ble_eq_true rfl⟩) hE hP hD hS hA rfl rfl hl.1 (Nat.le_of_ble_eq_true rfl) dX7_item_15 ⟨Nat.le_of_ble_eq_true rfl, Nat.le_of_ble_eq_true rfl⟩ (fun r_15 u_15 H locs hP hD hS q_15 => ?_)
  subst q_15
  refine g_bif_eq (tgt := 32) hx hb dX7_item_18 (by decide) (fun c_18 => absurd c_18 (by rw [decide_eq_true (rq_rg hmn kmn (by decide))]; decide)) (fun c_18 => ?_)
  refine lv_iload_n hx hb dX7_item_21 rfl (lv_at hl 3 rfl) ?_
  refine lv_iconst (v := nI 1) hx hb dX7_item_22 (by decide) ?_
  refine lv_sipush (v := nI 4095) hx hb dX7_item_23 (by decide) ?_
  refine gc_S_i (As := [.int (sn), .int (nI (1)), .int (nI (4095))]) (rest := [.ref a_mod]) (c_X7_in l) ⟨hx, hb, hml, hown, hts⟩ (va_cwS 3 hts gX7_item_X7_in rfl rfl rfl (by decide +kernel) ⟨Nat.le_of_ble_eq_true rfl, Nat.le_of_ble_eq_true rfl⟩) hE hP hD hS hA rfl rfl hl.1 (Nat.le_of_ble_eq_true rfl) dX7_item_26 ⟨Nat.le_of_ble_eq_true rfl, Nat.le_of_ble_eq_true rfl⟩ (fun r_26 u_26 H locs hP hD hS q_26 => ?_)
  subst q_26
  refine g_bif_ne (tgt := 36) hx hb dX7_item_29 (by decide) (fun c_29 => absurd c_29 (by rw [decide_eq_false (fun z => z hbad)]; decide)) (fun c_29 => ?_)
  refine lv_iconst (v := nI 2) hx hb dX7_item_32 (by decide) ?_
  refine lv_goto (tgt := 50) hx hb dX7_item_33 (by decide) ?_
  refine va_put (D := D) (ci := 8) (v := .int (nI (2))) (ty := .int) (C := RX7) (T := TX7) (N := 33) hx hb hts in_RX7 tyX7 tyX7_ok nmX7 hown hE.1 hP hD hS _ f0_mod rfl 0 (by decide) (hts (.fieldLink RX7 94 "BasketryOfficeModel" "thrown" "I") (by decide +kernel)) (fun _ h9 => h9) rfl (by decide +kernel) rfl rfl (Nat.le_of_ble_eq_true rfl) dX7_item_50 (fun H locs hP hD hS => ?_)
  have f_mod := g_eq (x := (a_mod, .inr (8, [.int (nI (2)), .int (nI (n)), x_mod_2, x_mod_3, x_mod_4, .int (nI (nw)), x_mod_6, x_mod_7, x_mod_8, x_mod_9, x_mod_10, x_mod_11, x_mod_12, x_mod_13, x_mod_14, x_mod_15, x_mod_16, x_mod_17, x_mod_18, x_mod_19, x_mod_20, x_mod_21, x_mod_22, x_mod_23, x_mod_24, x_mod_25, x_mod_26, x_mod_27, x_mod_28, x_mod_29, x_mod_30, x_mod_31, x_mod_32]))) (f0_mod)
  refine lv_aload_n hx hb dX7_item_53 rfl (lv_at hl 0 rfl) ?_
  refine va_get (D := D) (ci := 8) (v := .int (nI (2))) (C := RX7) (T := TX7) (N := 33) hx hb hts in_RX7 hown hE.1 hP _ f_mod rfl 0 (by decide) (hts (.fieldLink RX7 94 "BasketryOfficeModel" "thrown" "I") (by decide +kernel)) (fun _ h9 => h9) rfl dX7_item_54 ?_
  refine g_if_le (tgt := 62) hx hb (by omega) dX7_item_57 (by decide) (fun c_57 => absurd c_57 (by omega)) (fun c_57 => ?_)
  refine lv_iconst (v := nI 0) hx hb dX7_item_60 (by decide) ?_
  refine g_iret hx hb hr hlocks () dX7_item_61 hS hP hD ?_
  exact rfl

theorem in_x3_X7_item_RX7 : ∀ w ∈ wsX70, w ∈ wsX7_item := by decide +kernel
set_option maxHeartbeats 4000000 in
set_option maxRecDepth 100000 in
theorem x3_X7_item (l : Launch) {D : va_G} {y : Nat → Nat} {ws : va_W} {x_mod_2 : Value} {x_mod_3 : Value} {x_mod_4 : Value} {x_mod_6 : Value} {x_mod_7 : Value} {x_mod_8 : Value} {x_mod_9 : Value} {x_mod_10 : Value} {x_mod_11 : Value} {x_mod_12 : Value} {x_mod_13 : Value} {x_mod_14 : Value} {x_mod_15 : Value} {x_mod_16 : Value} {x_mod_17 : Value} {x_mod_18 : Value} {x_mod_19 : Value} {x_mod_20 : Value} {x_mod_21 : Value} {x_mod_22 : Value} {x_mod_23 : Value} {x_mod_24 : Value} {x_mod_25 : Value} {x_mod_26 : Value} {x_mod_27 : Value} {x_mod_28 : Value} {x_mod_29 : Value} {x_mod_30 : Value} {x_mod_31 : Value} {x_mod_32 : Value} {p_mod a_mod : Nat} {g mn sn : Nat} {nw n th : Nat} (f0_mod : ws[p_mod]? = some (a_mod, .inr (8, [.int (nI (th)), .int (nI (n)), x_mod_2, x_mod_3, x_mod_4, .int (nI (nw)), x_mod_6, x_mod_7, x_mod_8, x_mod_9, x_mod_10, x_mod_11, x_mod_12, x_mod_13, x_mod_14, x_mod_15, x_mod_16, x_mod_17, x_mod_18, x_mod_19, x_mod_20, x_mod_21, x_mod_22, x_mod_23, x_mod_24, x_mod_25, x_mod_26, x_mod_27, x_mod_28, x_mod_29, x_mod_30, x_mod_31, x_mod_32]))) (hw : nw ≤ 24) (hn : n ≤ 12) (hg : g < 4) (hmn : 0 ≤ mn) (kmn : mn ≤ 2) (hsn : 1 ≤ sn) (ksn : sn ≤ 4095) (hbad : 12 ≤ n) : gMi l yX7_item wsX7_item ({ frames := 2, cells := 0, slots := 0, locals := 42 }) D y [.ref a_mod, .int (nI (g)), .int (nI (mn)), .int (nI (sn))] ws (fun r (_ : Unit) => r = nI 0) (fun (_ : Unit) => (ws.set p_mod (a_mod, .inr (8, [.int (nI (3)), .int (nI (n)), x_mod_2, x_mod_3, x_mod_4, .int (nI (nw)), x_mod_6, x_mod_7, x_mod_8, x_mod_9, x_mod_10, x_mod_11, x_mod_12, x_mod_13, x_mod_14, x_mod_15, x_mod_16, x_mod_17, x_mod_18, x_mod_19, x_mod_20, x_mod_21, x_mod_22, x_mod_23, x_mod_24, x_mod_25, x_mod_26, x_mod_27, x_mod_28, x_mod_29, x_mod_30, x_mod_31, x_mod_32])))) := by
  refine g_met_i (cc := cX7_item) (maxL := 4) (by decide) rfl (Nat.le_of_ble_eq_true rfl) ?_
  intro p e s m below meth c A hx hb hml hr hts hown hnm hlocks hE hP hD hS hA ls hl
  have hown : s.vm.findClass RX7 = some m.cls := hown
  have hl : lv_has ls 4 [(0, .ref a_mod), (1, .int (nI (g))), (2, .int (nI (mn))), (3, .int (nI (sn)))] := hl
  have in_RX7 := in_x3_X7_item_RX7
  refine lv_aload_n hx hb dX7_item_0 rfl (lv_at hl 0 rfl) ?_
  refine lv_iload_n hx hb dX7_item_1 rfl (lv_at hl 1 rfl) ?_
  refine gc_S_i (As := [.int (nI (g))]) (rest := [.ref a_mod]) (c_X7_isGroup l) ⟨hx, hb, hml, hown, hts⟩ (va_cwS 1 hts gX7_item_X7_isGroup rfl rfl rfl (by decide +kernel) ⟨Nat.le_of_ble_eq_true rfl, Nat.le_of_ble_eq_true rfl⟩) hE hP hD hS hA rfl rfl hl.1 (Nat.le_of_ble_eq_true rfl) dX7_item_2 ⟨Nat.le_of_ble_eq_true rfl, Nat.le_of_ble_eq_true rfl⟩ (fun r_2 u_2 H locs hP hD hS q_2 => ?_)
  subst q_2
  refine g_bif_ne (tgt := 12) hx hb dX7_item_5 (by decide) (fun c_5 => ?_) (fun c_5 => absurd c_5 (by rw [decide_eq_true (rq_lt hg (by omega))]; decide))
  refine lv_iload_n hx hb dX7_item_12 rfl (lv_at hl 2 rfl) ?_
  refine lv_iconst (v := nI 0) hx hb dX7_item_13 (by decide) ?_
  refine lv_iconst (v := nI 2) hx hb dX7_item_14 (by decide) ?_
  refine gc_S_i (As := [.int (nI (mn)), .int (nI (0)), .int (nI (2))]) (rest := [.ref a_mod]) (c_X7_in l) ⟨hx, hb, hml, hown, hts⟩ (va_cwS 3 hts gX7_item_X7_in rfl rfl rfl (by decide +kernel) ⟨Nat.le_of_ble_eq_true rfl, Nat.le_of_ble_eq_true rfl⟩) hE hP hD hS hA rfl rfl hl.1 (Nat.le_of_ble_eq_true rfl) dX7_item_15 ⟨Nat.le_of_ble_eq_true rfl, Nat.le_of_ble_eq_true rfl⟩ (fun r_15 u_15 H locs hP hD hS q_15 => ?_)
  subst q_15
  refine g_bif_eq (tgt := 32) hx hb dX7_item_18 (by decide) (fun c_18 => absurd c_18 (by rw [decide_eq_true (rq_rg hmn kmn (by decide))]; decide)) (fun c_18 => ?_)
  refine lv_iload_n hx hb dX7_item_21 rfl (lv_at hl 3 rfl) ?_
  refine lv_iconst (v := nI 1) hx hb dX7_item_22 (by decide) ?_
  refine lv_sipush (v := nI 4095) hx hb dX7_item_23 (by decide) ?_
  refine gc_S_i (As := [.int (nI (sn)), .int (nI (1)), .int (nI (4095))]) (rest := [.ref a_mod]) (c_X7_in l) ⟨hx, hb, hml, hown, hts⟩ (va_cwS 3 hts gX7_item_X7_in rfl rfl rfl (by decide +kernel) ⟨Nat.le_of_ble_eq_true rfl, Nat.le_of_ble_eq_true rfl⟩) hE hP hD hS hA rfl rfl hl.1 (Nat.le_of_ble_eq_true rfl) dX7_item_26 ⟨Nat.le_of_ble_eq_true rfl, Nat.le_of_ble_eq_true rfl⟩ (fun r_26 u_26 H locs hP hD hS q_26 => ?_)
  subst q_26
  refine g_bif_ne (tgt := 36) hx hb dX7_item_29 (by decide) (fun c_29 => ?_) (fun c_29 => absurd c_29 (by rw [decide_eq_true (rq_rg hsn ksn (by decide))]; decide))
  refine lv_aload_n hx hb dX7_item_36 rfl (lv_at hl 0 rfl) ?_
  refine va_get (D := D) (ci := 8) (v := .int (nI (n))) (C := RX7) (T := TX7) (N := 33) hx hb hts in_RX7 hown hE.1 hP _ f0_mod rfl 1 (by decide) (hts (.fieldLink RX7 98 "BasketryOfficeModel" "items" "I") (by decide +kernel)) (fun _ h9 => h9) rfl dX7_item_37 ?_
  refine lv_bipush (v := nI 12) hx hb dX7_item_40 (by decide) ?_
  refine g_icmp_ne (tgt := 49) hx hb (by omega) (by omega) dX7_item_42 (by decide) (fun c_42 => absurd c_42 (by omega)) (fun c_42 => ?_)
  refine lv_iconst (v := nI 3) hx hb dX7_item_45 (by decide) ?_
  refine lv_goto (tgt := 50) hx hb dX7_item_46 (by decide) ?_
  refine va_put (D := D) (ci := 8) (v := .int (nI (3))) (ty := .int) (C := RX7) (T := TX7) (N := 33) hx hb hts in_RX7 tyX7 tyX7_ok nmX7 hown hE.1 hP hD hS _ f0_mod rfl 0 (by decide) (hts (.fieldLink RX7 94 "BasketryOfficeModel" "thrown" "I") (by decide +kernel)) (fun _ h9 => h9) rfl (by decide +kernel) rfl rfl (Nat.le_of_ble_eq_true rfl) dX7_item_50 (fun H locs hP hD hS => ?_)
  have f_mod := g_eq (x := (a_mod, .inr (8, [.int (nI (3)), .int (nI (n)), x_mod_2, x_mod_3, x_mod_4, .int (nI (nw)), x_mod_6, x_mod_7, x_mod_8, x_mod_9, x_mod_10, x_mod_11, x_mod_12, x_mod_13, x_mod_14, x_mod_15, x_mod_16, x_mod_17, x_mod_18, x_mod_19, x_mod_20, x_mod_21, x_mod_22, x_mod_23, x_mod_24, x_mod_25, x_mod_26, x_mod_27, x_mod_28, x_mod_29, x_mod_30, x_mod_31, x_mod_32]))) (f0_mod)
  refine lv_aload_n hx hb dX7_item_53 rfl (lv_at hl 0 rfl) ?_
  refine va_get (D := D) (ci := 8) (v := .int (nI (3))) (C := RX7) (T := TX7) (N := 33) hx hb hts in_RX7 hown hE.1 hP _ f_mod rfl 0 (by decide) (hts (.fieldLink RX7 94 "BasketryOfficeModel" "thrown" "I") (by decide +kernel)) (fun _ h9 => h9) rfl dX7_item_54 ?_
  refine g_if_le (tgt := 62) hx hb (by omega) dX7_item_57 (by decide) (fun c_57 => absurd c_57 (by omega)) (fun c_57 => ?_)
  refine lv_iconst (v := nI 0) hx hb dX7_item_60 (by decide) ?_
  refine g_iret hx hb hr hlocks () dX7_item_61 hS hP hD ?_
  exact rfl

theorem in_c_X7_item_RX7 : ∀ w ∈ wsX70, w ∈ wsX7_item := by decide +kernel
set_option maxHeartbeats 4000000 in
set_option maxRecDepth 100000 in
theorem c_X7_item (l : Launch) {D : va_G} {y : Nat → Nat} {ws : va_W} {x_mod_6 : Value} {x_mod_7 : Value} {x_mod_8 : Value} {x_mod_9 : Value} {x_mod_10 : Value} {x_mod_11 : Value} {x_mod_12 : Value} {x_mod_13 : Value} {x_mod_14 : Value} {x_mod_15 : Value} {x_mod_16 : Value} {x_mod_17 : Value} {x_mod_18 : Value} {x_mod_19 : Value} {x_mod_20 : Value} {x_mod_21 : Value} {x_mod_22 : Value} {x_mod_23 : Value} {x_mod_24 : Value} {x_mod_25 : Value} {x_mod_26 : Value} {x_mod_27 : Value} {x_mod_28 : Value} {x_mod_29 : Value} {x_mod_30 : Value} {x_mod_31 : Value} {x_mod_32 : Value} {p_mod p_mgr p_mme p_mse a_mod a_mgr a_mme a_mse : Nat} {mgr : Nat → Nat} {mme : Nat → Nat} {mse : Nat → Nat} {g mn sn : Nat} {nw n th : Nat} (f0_mod : ws[p_mod]? = some (a_mod, .inr (8, [.int (nI (th)), .int (nI (n)), .ref a_mgr, .ref a_mme, .ref a_mse, .int (nI (nw)), x_mod_6, x_mod_7, x_mod_8, x_mod_9, x_mod_10, x_mod_11, x_mod_12, x_mod_13, x_mod_14, x_mod_15, x_mod_16, x_mod_17, x_mod_18, x_mod_19, x_mod_20, x_mod_21, x_mod_22, x_mod_23, x_mod_24, x_mod_25, x_mod_26, x_mod_27, x_mod_28, x_mod_29, x_mod_30, x_mod_31, x_mod_32]))) (f0_mgr : ws[p_mgr]? = some (a_mgr, eN y 12 mgr)) (f0_mme : ws[p_mme]? = some (a_mme, eN y 12 mme)) (f0_mse : ws[p_mse]? = some (a_mse, eN y 12 mse)) (b_mgr : ∀ k, mgr k ≤ 3) (b_mme : ∀ k, mme k ≤ 2) (b_mse : ∀ k, mse k ≤ 4095) (hw : nw ≤ 24) (hn : n ≤ 12) (hg : g < 4) (hmn : 0 ≤ mn) (kmn : mn ≤ 2) (hsn : 1 ≤ sn) (ksn : sn ≤ 4095) (hn12 : n < 12) (hdis : p_mgr ≠ p_mme ∧ p_mgr ≠ p_mse ∧ p_mme ≠ p_mse) : gMi l yX7_item wsX7_item ({ frames := 2, cells := 0, slots := 0, locals := 42 }) D y [.ref a_mod, .int (nI (g)), .int (nI (mn)), .int (nI (sn))] ws (fun r (_ : Unit) => r = nI n) (fun (_ : Unit) => ((((ws.set p_mod (a_mod, .inr (8, [.int (nI (0)), .int (nI (n + 1)), .ref a_mgr, .ref a_mme, .ref a_mse, .int (nI (nw)), x_mod_6, x_mod_7, x_mod_8, x_mod_9, x_mod_10, x_mod_11, x_mod_12, x_mod_13, x_mod_14, x_mod_15, x_mod_16, x_mod_17, x_mod_18, x_mod_19, x_mod_20, x_mod_21, x_mod_22, x_mod_23, x_mod_24, x_mod_25, x_mod_26, x_mod_27, x_mod_28, x_mod_29, x_mod_30, x_mod_31, x_mod_32]))).set p_mgr (a_mgr, eN y 12 (vf_upd mgr (n) (g)))).set p_mme (a_mme, eN y 12 (vf_upd mme (n) (mn)))).set p_mse (a_mse, eN y 12 (vf_upd mse (n) (sn))))) := by
  refine g_met_i (cc := cX7_item) (maxL := 4) (by decide) rfl (Nat.le_of_ble_eq_true rfl) ?_
  intro p e s m below meth c A hx hb hml hr hts hown hnm hlocks hE hP hD hS hA ls hl
  have hown : s.vm.findClass RX7 = some m.cls := hown
  have hl : lv_has ls 4 [(0, .ref a_mod), (1, .int (nI (g))), (2, .int (nI (mn))), (3, .int (nI (sn)))] := hl
  have in_RX7 := in_c_X7_item_RX7
  refine lv_aload_n hx hb dX7_item_0 rfl (lv_at hl 0 rfl) ?_
  refine lv_iload_n hx hb dX7_item_1 rfl (lv_at hl 1 rfl) ?_
  refine gc_S_i (As := [.int (nI (g))]) (rest := [.ref a_mod]) (c_X7_isGroup l) ⟨hx, hb, hml, hown, hts⟩ (va_cwS 1 hts gX7_item_X7_isGroup rfl rfl rfl (by decide +kernel) ⟨Nat.le_of_ble_eq_true rfl, Nat.le_of_ble_eq_true rfl⟩) hE hP hD hS hA rfl rfl hl.1 (Nat.le_of_ble_eq_true rfl) dX7_item_2 ⟨Nat.le_of_ble_eq_true rfl, Nat.le_of_ble_eq_true rfl⟩ (fun r_2 u_2 H locs hP hD hS q_2 => ?_)
  subst q_2
  refine g_bif_ne (tgt := 12) hx hb dX7_item_5 (by decide) (fun c_5 => ?_) (fun c_5 => absurd c_5 (by rw [decide_eq_true (rq_lt hg (by omega))]; decide))
  refine lv_iload_n hx hb dX7_item_12 rfl (lv_at hl 2 rfl) ?_
  refine lv_iconst (v := nI 0) hx hb dX7_item_13 (by decide) ?_
  refine lv_iconst (v := nI 2) hx hb dX7_item_14 (by decide) ?_
  refine gc_S_i (As := [.int (nI (mn)), .int (nI (0)), .int (nI (2))]) (rest := [.ref a_mod]) (c_X7_in l) ⟨hx, hb, hml, hown, hts⟩ (va_cwS 3 hts gX7_item_X7_in rfl rfl rfl (by decide +kernel) ⟨Nat.le_of_ble_eq_true rfl, Nat.le_of_ble_eq_true rfl⟩) hE hP hD hS hA rfl rfl hl.1 (Nat.le_of_ble_eq_true rfl) dX7_item_15 ⟨Nat.le_of_ble_eq_true rfl, Nat.le_of_ble_eq_true rfl⟩ (fun r_15 u_15 H locs hP hD hS q_15 => ?_)
  subst q_15
  refine g_bif_eq (tgt := 32) hx hb dX7_item_18 (by decide) (fun c_18 => absurd c_18 (by rw [decide_eq_true (rq_rg hmn kmn (by decide))]; decide)) (fun c_18 => ?_)
  refine lv_iload_n hx hb dX7_item_21 rfl (lv_at hl 3 rfl) ?_
  refine lv_iconst (v := nI 1) hx hb dX7_item_22 (by decide) ?_
  refine lv_sipush (v := nI 4095) hx hb dX7_item_23 (by decide) ?_
  refine gc_S_i (As := [.int (nI (sn)), .int (nI (1)), .int (nI (4095))]) (rest := [.ref a_mod]) (c_X7_in l) ⟨hx, hb, hml, hown, hts⟩ (va_cwS 3 hts gX7_item_X7_in rfl rfl rfl (by decide +kernel) ⟨Nat.le_of_ble_eq_true rfl, Nat.le_of_ble_eq_true rfl⟩) hE hP hD hS hA rfl rfl hl.1 (Nat.le_of_ble_eq_true rfl) dX7_item_26 ⟨Nat.le_of_ble_eq_true rfl, Nat.le_of_ble_eq_true rfl⟩ (fun r_26 u_26 H locs hP hD hS q_26 => ?_)
  subst q_26
  refine g_bif_ne (tgt := 36) hx hb dX7_item_29 (by decide) (fun c_29 => ?_) (fun c_29 => absurd c_29 (by rw [decide_eq_true (rq_rg hsn ksn (by decide))]; decide))
  refine lv_aload_n hx hb dX7_item_36 rfl (lv_at hl 0 rfl) ?_
  refine va_get (D := D) (ci := 8) (v := .int (nI (n))) (C := RX7) (T := TX7) (N := 33) hx hb hts in_RX7 hown hE.1 hP _ f0_mod rfl 1 (by decide) (hts (.fieldLink RX7 98 "BasketryOfficeModel" "items" "I") (by decide +kernel)) (fun _ h9 => h9) rfl dX7_item_37 ?_
  refine lv_bipush (v := nI 12) hx hb dX7_item_40 (by decide) ?_
  refine g_icmp_ne (tgt := 49) hx hb (by omega) (by omega) dX7_item_42 (by decide) (fun c_42 => ?_) (fun c_42 => absurd c_42 (by omega))
  refine lv_iconst (v := nI 0) hx hb dX7_item_49 (by decide) ?_
  refine va_put (D := D) (ci := 8) (v := .int (nI (0))) (ty := .int) (C := RX7) (T := TX7) (N := 33) hx hb hts in_RX7 tyX7 tyX7_ok nmX7 hown hE.1 hP hD hS _ f0_mod rfl 0 (by decide) (hts (.fieldLink RX7 94 "BasketryOfficeModel" "thrown" "I") (by decide +kernel)) (fun _ h9 => h9) rfl (by decide +kernel) rfl rfl (Nat.le_of_ble_eq_true rfl) dX7_item_50 (fun H locs hP hD hS => ?_)
  have f_mod := g_eq (x := (a_mod, .inr (8, [.int (nI (0)), .int (nI (n)), .ref a_mgr, .ref a_mme, .ref a_mse, .int (nI (nw)), x_mod_6, x_mod_7, x_mod_8, x_mod_9, x_mod_10, x_mod_11, x_mod_12, x_mod_13, x_mod_14, x_mod_15, x_mod_16, x_mod_17, x_mod_18, x_mod_19, x_mod_20, x_mod_21, x_mod_22, x_mod_23, x_mod_24, x_mod_25, x_mod_26, x_mod_27, x_mod_28, x_mod_29, x_mod_30, x_mod_31, x_mod_32]))) (f0_mod)
  have f_mgr := g_ne (x := (a_mod, .inr (8, [.int (nI (0)), .int (nI (n)), .ref a_mgr, .ref a_mme, .ref a_mse, .int (nI (nw)), x_mod_6, x_mod_7, x_mod_8, x_mod_9, x_mod_10, x_mod_11, x_mod_12, x_mod_13, x_mod_14, x_mod_15, x_mod_16, x_mod_17, x_mod_18, x_mod_19, x_mod_20, x_mod_21, x_mod_22, x_mod_23, x_mod_24, x_mod_25, x_mod_26, x_mod_27, x_mod_28, x_mod_29, x_mod_30, x_mod_31, x_mod_32]))) (g_kne f0_mod f0_mgr (Nat.ne_of_beq_eq_false rfl)) (f0_mgr)
  have f_mme := g_ne (x := (a_mod, .inr (8, [.int (nI (0)), .int (nI (n)), .ref a_mgr, .ref a_mme, .ref a_mse, .int (nI (nw)), x_mod_6, x_mod_7, x_mod_8, x_mod_9, x_mod_10, x_mod_11, x_mod_12, x_mod_13, x_mod_14, x_mod_15, x_mod_16, x_mod_17, x_mod_18, x_mod_19, x_mod_20, x_mod_21, x_mod_22, x_mod_23, x_mod_24, x_mod_25, x_mod_26, x_mod_27, x_mod_28, x_mod_29, x_mod_30, x_mod_31, x_mod_32]))) (g_kne f0_mod f0_mme (Nat.ne_of_beq_eq_false rfl)) (f0_mme)
  have f_mse := g_ne (x := (a_mod, .inr (8, [.int (nI (0)), .int (nI (n)), .ref a_mgr, .ref a_mme, .ref a_mse, .int (nI (nw)), x_mod_6, x_mod_7, x_mod_8, x_mod_9, x_mod_10, x_mod_11, x_mod_12, x_mod_13, x_mod_14, x_mod_15, x_mod_16, x_mod_17, x_mod_18, x_mod_19, x_mod_20, x_mod_21, x_mod_22, x_mod_23, x_mod_24, x_mod_25, x_mod_26, x_mod_27, x_mod_28, x_mod_29, x_mod_30, x_mod_31, x_mod_32]))) (g_kne f0_mod f0_mse (Nat.ne_of_beq_eq_false rfl)) (f0_mse)
  refine lv_aload_n hx hb dX7_item_53 rfl (lv_at hl 0 rfl) ?_
  refine va_get (D := D) (ci := 8) (v := .int (nI (0))) (C := RX7) (T := TX7) (N := 33) hx hb hts in_RX7 hown hE.1 hP _ f_mod rfl 0 (by decide) (hts (.fieldLink RX7 94 "BasketryOfficeModel" "thrown" "I") (by decide +kernel)) (fun _ h9 => h9) rfl dX7_item_54 ?_
  refine g_if_le (tgt := 62) hx hb (by omega) dX7_item_57 (by decide) (fun c_57 => ?_) (fun c_57 => absurd c_57 (by omega))
  refine lv_aload_n hx hb dX7_item_62 rfl (lv_at hl 0 rfl) ?_
  refine va_get (D := D) (ci := 8) (v := .ref a_mgr) (C := RX7) (T := TX7) (N := 33) hx hb hts in_RX7 hown hE.1 hP _ f_mod rfl 2 (by decide) (hts (.fieldLink RX7 7 "BasketryOfficeModel" "group" "[I") (by decide +kernel)) (fun _ h9 => h9) rfl dX7_item_63 ?_
  refine lv_aload_n hx hb dX7_item_66 rfl (lv_at hl 0 rfl) ?_
  refine va_get (D := D) (ci := 8) (v := .int (nI (n))) (C := RX7) (T := TX7) (N := 33) hx hb hts in_RX7 hown hE.1 hP _ f_mod rfl 1 (by decide) (hts (.fieldLink RX7 98 "BasketryOfficeModel" "items" "I") (by decide +kernel)) (fun _ h9 => h9) rfl dX7_item_67 ?_
  refine lv_iload_n hx hb dX7_item_70 rfl (lv_at hl 1 rfl) ?_
  refine g_nast hx hb hE hP hD hS _ f_mgr (by omega) (by decide) dX7_item_71 (fun H locs hP hD hS => ?_)
  have f_mod := g_ne (x := (a_mgr, eN y 12 (vf_upd mgr (n) (g)))) (g_kne f0_mgr f0_mod (Nat.ne_of_beq_eq_false rfl)) (g_eq (x := (a_mod, .inr (8, [.int (nI (0)), .int (nI (n)), .ref a_mgr, .ref a_mme, .ref a_mse, .int (nI (nw)), x_mod_6, x_mod_7, x_mod_8, x_mod_9, x_mod_10, x_mod_11, x_mod_12, x_mod_13, x_mod_14, x_mod_15, x_mod_16, x_mod_17, x_mod_18, x_mod_19, x_mod_20, x_mod_21, x_mod_22, x_mod_23, x_mod_24, x_mod_25, x_mod_26, x_mod_27, x_mod_28, x_mod_29, x_mod_30, x_mod_31, x_mod_32]))) (f0_mod))
  have f_mgr := g_eq (x := (a_mgr, eN y 12 (vf_upd mgr (n) (g)))) (g_ne (x := (a_mod, .inr (8, [.int (nI (0)), .int (nI (n)), .ref a_mgr, .ref a_mme, .ref a_mse, .int (nI (nw)), x_mod_6, x_mod_7, x_mod_8, x_mod_9, x_mod_10, x_mod_11, x_mod_12, x_mod_13, x_mod_14, x_mod_15, x_mod_16, x_mod_17, x_mod_18, x_mod_19, x_mod_20, x_mod_21, x_mod_22, x_mod_23, x_mod_24, x_mod_25, x_mod_26, x_mod_27, x_mod_28, x_mod_29, x_mod_30, x_mod_31, x_mod_32]))) (g_kne f0_mod f0_mgr (Nat.ne_of_beq_eq_false rfl)) (f0_mgr))
  have f_mme := g_ne (x := (a_mgr, eN y 12 (vf_upd mgr (n) (g)))) hdis.1 (g_ne (x := (a_mod, .inr (8, [.int (nI (0)), .int (nI (n)), .ref a_mgr, .ref a_mme, .ref a_mse, .int (nI (nw)), x_mod_6, x_mod_7, x_mod_8, x_mod_9, x_mod_10, x_mod_11, x_mod_12, x_mod_13, x_mod_14, x_mod_15, x_mod_16, x_mod_17, x_mod_18, x_mod_19, x_mod_20, x_mod_21, x_mod_22, x_mod_23, x_mod_24, x_mod_25, x_mod_26, x_mod_27, x_mod_28, x_mod_29, x_mod_30, x_mod_31, x_mod_32]))) (g_kne f0_mod f0_mme (Nat.ne_of_beq_eq_false rfl)) (f0_mme))
  have f_mse := g_ne (x := (a_mgr, eN y 12 (vf_upd mgr (n) (g)))) hdis.2.1 (g_ne (x := (a_mod, .inr (8, [.int (nI (0)), .int (nI (n)), .ref a_mgr, .ref a_mme, .ref a_mse, .int (nI (nw)), x_mod_6, x_mod_7, x_mod_8, x_mod_9, x_mod_10, x_mod_11, x_mod_12, x_mod_13, x_mod_14, x_mod_15, x_mod_16, x_mod_17, x_mod_18, x_mod_19, x_mod_20, x_mod_21, x_mod_22, x_mod_23, x_mod_24, x_mod_25, x_mod_26, x_mod_27, x_mod_28, x_mod_29, x_mod_30, x_mod_31, x_mod_32]))) (g_kne f0_mod f0_mse (Nat.ne_of_beq_eq_false rfl)) (f0_mse))
  refine lv_aload_n hx hb dX7_item_72 rfl (lv_at hl 0 rfl) ?_
  refine va_get (D := D) (ci := 8) (v := .ref a_mme) (C := RX7) (T := TX7) (N := 33) hx hb hts in_RX7 hown hE.1 hP _ f_mod rfl 3 (by decide) (hts (.fieldLink RX7 13 "BasketryOfficeModel" "mean" "[I") (by decide +kernel)) (fun _ h9 => h9) rfl dX7_item_73 ?_
  refine lv_aload_n hx hb dX7_item_76 rfl (lv_at hl 0 rfl) ?_
  refine va_get (D := D) (ci := 8) (v := .int (nI (n))) (C := RX7) (T := TX7) (N := 33) hx hb hts in_RX7 hown hE.1 hP _ f_mod rfl 1 (by decide) (hts (.fieldLink RX7 98 "BasketryOfficeModel" "items" "I") (by decide +kernel)) (fun _ h9 => h9) rfl dX7_item_77 ?_
  refine lv_iload_n hx hb dX7_item_80 rfl (lv_at hl 2 rfl) ?_
  refine g_nast hx hb hE hP hD hS _ f_mme (by omega) (by decide) dX7_item_81 (fun H locs hP hD hS => ?_)
  have f_mod := g_ne (x := (a_mme, eN y 12 (vf_upd mme (n) (mn)))) (g_kne f0_mme f0_mod (Nat.ne_of_beq_eq_false rfl)) (g_ne (x := (a_mgr, eN y 12 (vf_upd mgr (n) (g)))) (g_kne f0_mgr f0_mod (Nat.ne_of_beq_eq_false rfl)) (g_eq (x := (a_mod, .inr (8, [.int (nI (0)), .int (nI (n)), .ref a_mgr, .ref a_mme, .ref a_mse, .int (nI (nw)), x_mod_6, x_mod_7, x_mod_8, x_mod_9, x_mod_10, x_mod_11, x_mod_12, x_mod_13, x_mod_14, x_mod_15, x_mod_16, x_mod_17, x_mod_18, x_mod_19, x_mod_20, x_mod_21, x_mod_22, x_mod_23, x_mod_24, x_mod_25, x_mod_26, x_mod_27, x_mod_28, x_mod_29, x_mod_30, x_mod_31, x_mod_32]))) (f0_mod)))
  have f_mgr := g_ne (x := (a_mme, eN y 12 (vf_upd mme (n) (mn)))) (Ne.symm hdis.1) (g_eq (x := (a_mgr, eN y 12 (vf_upd mgr (n) (g)))) (g_ne (x := (a_mod, .inr (8, [.int (nI (0)), .int (nI (n)), .ref a_mgr, .ref a_mme, .ref a_mse, .int (nI (nw)), x_mod_6, x_mod_7, x_mod_8, x_mod_9, x_mod_10, x_mod_11, x_mod_12, x_mod_13, x_mod_14, x_mod_15, x_mod_16, x_mod_17, x_mod_18, x_mod_19, x_mod_20, x_mod_21, x_mod_22, x_mod_23, x_mod_24, x_mod_25, x_mod_26, x_mod_27, x_mod_28, x_mod_29, x_mod_30, x_mod_31, x_mod_32]))) (g_kne f0_mod f0_mgr (Nat.ne_of_beq_eq_false rfl)) (f0_mgr)))
  have f_mme := g_eq (x := (a_mme, eN y 12 (vf_upd mme (n) (mn)))) (g_ne (x := (a_mgr, eN y 12 (vf_upd mgr (n) (g)))) hdis.1 (g_ne (x := (a_mod, .inr (8, [.int (nI (0)), .int (nI (n)), .ref a_mgr, .ref a_mme, .ref a_mse, .int (nI (nw)), x_mod_6, x_mod_7, x_mod_8, x_mod_9, x_mod_10, x_mod_11, x_mod_12, x_mod_13, x_mod_14, x_mod_15, x_mod_16, x_mod_17, x_mod_18, x_mod_19, x_mod_20, x_mod_21, x_mod_22, x_mod_23, x_mod_24, x_mod_25, x_mod_26, x_mod_27, x_mod_28, x_mod_29, x_mod_30, x_mod_31, x_mod_32]))) (g_kne f0_mod f0_mme (Nat.ne_of_beq_eq_false rfl)) (f0_mme)))
  have f_mse := g_ne (x := (a_mme, eN y 12 (vf_upd mme (n) (mn)))) hdis.2.2 (g_ne (x := (a_mgr, eN y 12 (vf_upd mgr (n) (g)))) hdis.2.1 (g_ne (x := (a_mod, .inr (8, [.int (nI (0)), .int (nI (n)), .ref a_mgr, .ref a_mme, .ref a_mse, .int (nI (nw)), x_mod_6, x_mod_7, x_mod_8, x_mod_9, x_mod_10, x_mod_11, x_mod_12, x_mod_13, x_mod_14, x_mod_15, x_mod_16, x_mod_17, x_mod_18, x_mod_19, x_mod_20, x_mod_21, x_mod_22, x_mod_23, x_mod_24, x_mod_25, x_mod_26, x_mod_27, x_mod_28, x_mod_29, x_mod_30, x_mod_31, x_mod_32]))) (g_kne f0_mod f0_mse (Nat.ne_of_beq_eq_false rfl)) (f0_mse)))
  refine lv_aload_n hx hb dX7_item_82 rfl (lv_at hl 0 rfl) ?_
  refine va_get (D := D) (ci := 8) (v := .ref a_mse) (C := RX7) (T := TX7) (N := 33) hx hb hts in_RX7 hown hE.1 hP _ f_mod rfl 4 (by decide) (hts (.fieldLink RX7 16 "BasketryOfficeModel" "season" "[I") (by decide +kernel)) (fun _ h9 => h9) rfl dX7_item_83 ?_
  refine lv_aload_n hx hb dX7_item_86 rfl (lv_at hl 0 rfl) ?_
  refine va_get (D := D) (ci := 8) (v := .int (nI (n))) (C := RX7) (T := TX7) (N := 33) hx hb hts in_RX7 hown hE.1 hP _ f_mod rfl 1 (by decide) (hts (.fieldLink RX7 98 "BasketryOfficeModel" "items" "I") (by decide +kernel)) (fun _ h9 => h9) rfl dX7_item_87 ?_
  refine lv_iload_n hx hb dX7_item_90 rfl (lv_at hl 3 rfl) ?_
  refine g_nast hx hb hE hP hD hS _ f_mse (by omega) (by decide) dX7_item_91 (fun H locs hP hD hS => ?_)
  have f_mod := g_ne (x := (a_mse, eN y 12 (vf_upd mse (n) (sn)))) (g_kne f0_mse f0_mod (Nat.ne_of_beq_eq_false rfl)) (g_ne (x := (a_mme, eN y 12 (vf_upd mme (n) (mn)))) (g_kne f0_mme f0_mod (Nat.ne_of_beq_eq_false rfl)) (g_ne (x := (a_mgr, eN y 12 (vf_upd mgr (n) (g)))) (g_kne f0_mgr f0_mod (Nat.ne_of_beq_eq_false rfl)) (g_eq (x := (a_mod, .inr (8, [.int (nI (0)), .int (nI (n)), .ref a_mgr, .ref a_mme, .ref a_mse, .int (nI (nw)), x_mod_6, x_mod_7, x_mod_8, x_mod_9, x_mod_10, x_mod_11, x_mod_12, x_mod_13, x_mod_14, x_mod_15, x_mod_16, x_mod_17, x_mod_18, x_mod_19, x_mod_20, x_mod_21, x_mod_22, x_mod_23, x_mod_24, x_mod_25, x_mod_26, x_mod_27, x_mod_28, x_mod_29, x_mod_30, x_mod_31, x_mod_32]))) (f0_mod))))
  have f_mgr := g_ne (x := (a_mse, eN y 12 (vf_upd mse (n) (sn)))) (Ne.symm hdis.2.1) (g_ne (x := (a_mme, eN y 12 (vf_upd mme (n) (mn)))) (Ne.symm hdis.1) (g_eq (x := (a_mgr, eN y 12 (vf_upd mgr (n) (g)))) (g_ne (x := (a_mod, .inr (8, [.int (nI (0)), .int (nI (n)), .ref a_mgr, .ref a_mme, .ref a_mse, .int (nI (nw)), x_mod_6, x_mod_7, x_mod_8, x_mod_9, x_mod_10, x_mod_11, x_mod_12, x_mod_13, x_mod_14, x_mod_15, x_mod_16, x_mod_17, x_mod_18, x_mod_19, x_mod_20, x_mod_21, x_mod_22, x_mod_23, x_mod_24, x_mod_25, x_mod_26, x_mod_27, x_mod_28, x_mod_29, x_mod_30, x_mod_31, x_mod_32]))) (g_kne f0_mod f0_mgr (Nat.ne_of_beq_eq_false rfl)) (f0_mgr))))
  have f_mme := g_ne (x := (a_mse, eN y 12 (vf_upd mse (n) (sn)))) (Ne.symm hdis.2.2) (g_eq (x := (a_mme, eN y 12 (vf_upd mme (n) (mn)))) (g_ne (x := (a_mgr, eN y 12 (vf_upd mgr (n) (g)))) hdis.1 (g_ne (x := (a_mod, .inr (8, [.int (nI (0)), .int (nI (n)), .ref a_mgr, .ref a_mme, .ref a_mse, .int (nI (nw)), x_mod_6, x_mod_7, x_mod_8, x_mod_9, x_mod_10, x_mod_11, x_mod_12, x_mod_13, x_mod_14, x_mod_15, x_mod_16, x_mod_17, x_mod_18, x_mod_19, x_mod_20, x_mod_21, x_mod_22, x_mod_23, x_mod_24, x_mod_25, x_mod_26, x_mod_27, x_mod_28, x_mod_29, x_mod_30, x_mod_31, x_mod_32]))) (g_kne f0_mod f0_mme (Nat.ne_of_beq_eq_false rfl)) (f0_mme))))
  have f_mse := g_eq (x := (a_mse, eN y 12 (vf_upd mse (n) (sn)))) (g_ne (x := (a_mme, eN y 12 (vf_upd mme (n) (mn)))) hdis.2.2 (g_ne (x := (a_mgr, eN y 12 (vf_upd mgr (n) (g)))) hdis.2.1 (g_ne (x := (a_mod, .inr (8, [.int (nI (0)), .int (nI (n)), .ref a_mgr, .ref a_mme, .ref a_mse, .int (nI (nw)), x_mod_6, x_mod_7, x_mod_8, x_mod_9, x_mod_10, x_mod_11, x_mod_12, x_mod_13, x_mod_14, x_mod_15, x_mod_16, x_mod_17, x_mod_18, x_mod_19, x_mod_20, x_mod_21, x_mod_22, x_mod_23, x_mod_24, x_mod_25, x_mod_26, x_mod_27, x_mod_28, x_mod_29, x_mod_30, x_mod_31, x_mod_32]))) (g_kne f0_mod f0_mse (Nat.ne_of_beq_eq_false rfl)) (f0_mse))))
  refine lv_aload_n hx hb dX7_item_92 rfl (lv_at hl 0 rfl) ?_
  refine lv_dup hx hb dX7_item_93 rfl ?_
  refine va_get (D := D) (ci := 8) (v := .int (nI (n))) (C := RX7) (T := TX7) (N := 33) hx hb hts in_RX7 hown hE.1 hP _ f_mod rfl 1 (by decide) (hts (.fieldLink RX7 98 "BasketryOfficeModel" "items" "I") (by decide +kernel)) (fun _ h9 => h9) rfl dX7_item_94 ?_
  refine lv_iconst (v := nI 1) hx hb dX7_item_97 (by decide) ?_
  refine g_iadd hx hb dX7_item_98 (nI_add _ _) ?_
  refine va_put (D := D) (ci := 8) (v := .int (nI (n + 1))) (ty := .int) (C := RX7) (T := TX7) (N := 33) hx hb hts in_RX7 tyX7 tyX7_ok nmX7 hown hE.1 hP hD hS _ f_mod rfl 1 (by decide) (hts (.fieldLink RX7 98 "BasketryOfficeModel" "items" "I") (by decide +kernel)) (fun _ h9 => h9) rfl (by decide +kernel) rfl rfl (Nat.le_of_ble_eq_true rfl) dX7_item_99 (fun H locs hP hD hS => ?_)
  have hP := g_trP (g_sc (g_kne f0_mse f0_mod (Nat.ne_of_beq_eq_false rfl)) (g_sc (g_kne f0_mme f0_mod (Nat.ne_of_beq_eq_false rfl)) (g_sc (g_kne f0_mgr f0_mod (Nat.ne_of_beq_eq_false rfl)) g_ss))) hP
  have hD := g_trD (g_sc (g_kne f0_mse f0_mod (Nat.ne_of_beq_eq_false rfl)) (g_sc (g_kne f0_mme f0_mod (Nat.ne_of_beq_eq_false rfl)) (g_sc (g_kne f0_mgr f0_mod (Nat.ne_of_beq_eq_false rfl)) g_ss))) hD
  have f_mod := g_ne (x := (a_mse, eN y 12 (vf_upd mse (n) (sn)))) (g_kne f0_mse f0_mod (Nat.ne_of_beq_eq_false rfl)) (g_ne (x := (a_mme, eN y 12 (vf_upd mme (n) (mn)))) (g_kne f0_mme f0_mod (Nat.ne_of_beq_eq_false rfl)) (g_ne (x := (a_mgr, eN y 12 (vf_upd mgr (n) (g)))) (g_kne f0_mgr f0_mod (Nat.ne_of_beq_eq_false rfl)) (g_eq (x := (a_mod, .inr (8, [.int (nI (0)), .int (nI (n + 1)), .ref a_mgr, .ref a_mme, .ref a_mse, .int (nI (nw)), x_mod_6, x_mod_7, x_mod_8, x_mod_9, x_mod_10, x_mod_11, x_mod_12, x_mod_13, x_mod_14, x_mod_15, x_mod_16, x_mod_17, x_mod_18, x_mod_19, x_mod_20, x_mod_21, x_mod_22, x_mod_23, x_mod_24, x_mod_25, x_mod_26, x_mod_27, x_mod_28, x_mod_29, x_mod_30, x_mod_31, x_mod_32]))) (f0_mod))))
  have f_mgr := g_ne (x := (a_mse, eN y 12 (vf_upd mse (n) (sn)))) (Ne.symm hdis.2.1) (g_ne (x := (a_mme, eN y 12 (vf_upd mme (n) (mn)))) (Ne.symm hdis.1) (g_eq (x := (a_mgr, eN y 12 (vf_upd mgr (n) (g)))) (g_ne (x := (a_mod, .inr (8, [.int (nI (0)), .int (nI (n + 1)), .ref a_mgr, .ref a_mme, .ref a_mse, .int (nI (nw)), x_mod_6, x_mod_7, x_mod_8, x_mod_9, x_mod_10, x_mod_11, x_mod_12, x_mod_13, x_mod_14, x_mod_15, x_mod_16, x_mod_17, x_mod_18, x_mod_19, x_mod_20, x_mod_21, x_mod_22, x_mod_23, x_mod_24, x_mod_25, x_mod_26, x_mod_27, x_mod_28, x_mod_29, x_mod_30, x_mod_31, x_mod_32]))) (g_kne f0_mod f0_mgr (Nat.ne_of_beq_eq_false rfl)) (f0_mgr))))
  have f_mme := g_ne (x := (a_mse, eN y 12 (vf_upd mse (n) (sn)))) (Ne.symm hdis.2.2) (g_eq (x := (a_mme, eN y 12 (vf_upd mme (n) (mn)))) (g_ne (x := (a_mgr, eN y 12 (vf_upd mgr (n) (g)))) hdis.1 (g_ne (x := (a_mod, .inr (8, [.int (nI (0)), .int (nI (n + 1)), .ref a_mgr, .ref a_mme, .ref a_mse, .int (nI (nw)), x_mod_6, x_mod_7, x_mod_8, x_mod_9, x_mod_10, x_mod_11, x_mod_12, x_mod_13, x_mod_14, x_mod_15, x_mod_16, x_mod_17, x_mod_18, x_mod_19, x_mod_20, x_mod_21, x_mod_22, x_mod_23, x_mod_24, x_mod_25, x_mod_26, x_mod_27, x_mod_28, x_mod_29, x_mod_30, x_mod_31, x_mod_32]))) (g_kne f0_mod f0_mme (Nat.ne_of_beq_eq_false rfl)) (f0_mme))))
  have f_mse := g_eq (x := (a_mse, eN y 12 (vf_upd mse (n) (sn)))) (g_ne (x := (a_mme, eN y 12 (vf_upd mme (n) (mn)))) hdis.2.2 (g_ne (x := (a_mgr, eN y 12 (vf_upd mgr (n) (g)))) hdis.2.1 (g_ne (x := (a_mod, .inr (8, [.int (nI (0)), .int (nI (n + 1)), .ref a_mgr, .ref a_mme, .ref a_mse, .int (nI (nw)), x_mod_6, x_mod_7, x_mod_8, x_mod_9, x_mod_10, x_mod_11, x_mod_12, x_mod_13, x_mod_14, x_mod_15, x_mod_16, x_mod_17, x_mod_18, x_mod_19, x_mod_20, x_mod_21, x_mod_22, x_mod_23, x_mod_24, x_mod_25, x_mod_26, x_mod_27, x_mod_28, x_mod_29, x_mod_30, x_mod_31, x_mod_32]))) (g_kne f0_mod f0_mse (Nat.ne_of_beq_eq_false rfl)) (f0_mse))))
  refine lv_aload_n hx hb dX7_item_102 rfl (lv_at hl 0 rfl) ?_
  refine va_get (D := D) (ci := 8) (v := .int (nI (n + 1))) (C := RX7) (T := TX7) (N := 33) hx hb hts in_RX7 hown hE.1 hP _ f_mod rfl 1 (by decide) (hts (.fieldLink RX7 98 "BasketryOfficeModel" "items" "I") (by decide +kernel)) (fun _ h9 => h9) rfl dX7_item_103 ?_
  refine lv_iconst (v := nI 1) hx hb dX7_item_106 (by decide) ?_
  refine g_isub hx hb dX7_item_107 (pk_sub (by omega)) ?_
  refine g_iret hx hb hr hlocks () dX7_item_108 hS hP hD ?_
  exact rfl
