theorem in_x0_X7_confirm_RX7 : ∀ w ∈ wsX70, w ∈ wsX7_confirm := by decide +kernel
set_option maxHeartbeats 4000000 in
set_option maxRecDepth 100000 in
theorem x0_X7_confirm (l : Launch) {D : va_G} {y : Nat → Nat} {ws : va_W} {x_mod_2 : Value} {x_mod_3 : Value} {x_mod_4 : Value} {x_mod_6 : Value} {x_mod_7 : Value} {x_mod_9 : Value} {x_mod_10 : Value} {x_mod_11 : Value} {x_mod_12 : Value} {x_mod_13 : Value} {x_mod_14 : Value} {x_mod_15 : Value} {x_mod_16 : Value} {x_mod_17 : Value} {x_mod_18 : Value} {x_mod_19 : Value} {x_mod_20 : Value} {x_mod_21 : Value} {x_mod_22 : Value} {x_mod_23 : Value} {x_mod_24 : Value} {x_mod_25 : Value} {x_mod_26 : Value} {x_mod_27 : Value} {x_mod_28 : Value} {x_mod_29 : Value} {x_mod_30 : Value} {x_mod_31 : Value} {x_mod_32 : Value} {p_mod p_mce a_mod a_mce : Nat} {mce : Nat → Nat} {i o : Int32} {nw n th : Nat} (f0_mod : ws[p_mod]? = some (a_mod, .inr (8, .int (nI (th)) :: .int (nI (n)) :: x_mod_2 :: x_mod_3 :: x_mod_4 :: .int (nI (nw)) :: x_mod_6 :: x_mod_7 :: .ref a_mce :: x_mod_9 :: x_mod_10 :: x_mod_11 :: x_mod_12 :: x_mod_13 :: x_mod_14 :: x_mod_15 :: x_mod_16 :: x_mod_17 :: x_mod_18 :: x_mod_19 :: x_mod_20 :: x_mod_21 :: x_mod_22 :: x_mod_23 :: x_mod_24 :: x_mod_25 :: x_mod_26 :: x_mod_27 :: x_mod_28 :: x_mod_29 :: x_mod_30 :: x_mod_31 :: x_mod_32 :: []))) (f0_mce : ws[p_mce]? = some (a_mce, eN y 1152 mce)) (b_mce : ∀ k, mce k ≤ 100000) (hw : nw ≤ 24) (hn : n ≤ 12)  (hbad : i < 0 ∨ nI n ≤ i) : gMi l yX7_confirm wsX7_confirm ({ frames := 2, cells := 0, slots := 0, locals := 43 }) D y [.ref a_mod, .int (i), .int (o)] ws (fun r (_ : Unit) => r = gb false) (fun (_ : Unit) => (ws.set p_mod (a_mod, .inr (8, .int (nI (1)) :: .int (nI (n)) :: x_mod_2 :: x_mod_3 :: x_mod_4 :: .int (nI (nw)) :: x_mod_6 :: x_mod_7 :: .ref a_mce :: x_mod_9 :: x_mod_10 :: x_mod_11 :: x_mod_12 :: x_mod_13 :: x_mod_14 :: x_mod_15 :: x_mod_16 :: x_mod_17 :: x_mod_18 :: x_mod_19 :: x_mod_20 :: x_mod_21 :: x_mod_22 :: x_mod_23 :: x_mod_24 :: x_mod_25 :: x_mod_26 :: x_mod_27 :: x_mod_28 :: x_mod_29 :: x_mod_30 :: x_mod_31 :: x_mod_32 :: [])))) := by
  refine g_met_z (cc := cX7_confirm) (maxL := 4) (by decide) rfl (Nat.le_of_ble_eq_true rfl) ?_
  intro p e s m below meth c A hx hb hml hr hts hown hnm hlocks hE hP hD hS hA ls hl
  have hown : s.vm.findClass RX7 = some m.cls := hown
  have hl : lv_has ls 4 [(0, .ref a_mod), (1, .int (i)), (2, .int (o))] := hl
  have in_RX7 := in_x0_X7_confirm_RX7
  refine lv_aload_n hx hb dX7_confirm_0 rfl (lv_at hl 0 rfl) ?_
  refine lv_aload_n hx hb dX7_confirm_1 rfl (lv_at hl 0 rfl) ?_
  refine lv_iload_n hx hb dX7_confirm_2 rfl (lv_at hl 1 rfl) ?_
  refine gc_V_i (As := [.int (i)]) (rest := [.ref a_mod]) (c_X7_isItem l f0_mod (by omega)) ⟨hx, hb, hml, hown, hts⟩ (cwV 1 hts gX7_confirm_X7_isItem rfl rfl rfl (by decide +kernel) ⟨Nat.le_of_ble_eq_true rfl, Nat.le_of_ble_eq_true rfl⟩) hE hP hD hS hA _ f0_mod rfl rfl rfl rfl hl.1 (Nat.le_of_ble_eq_true rfl) dX7_confirm_3 ⟨Nat.le_of_ble_eq_true rfl, Nat.le_of_ble_eq_true rfl⟩ (fun r_3 u_3 H locs hP hD hS q_3 => ?_)
  subst q_3
  refine g_bif_eq (tgt := 16) hx hb dX7_confirm_6 (by decide) (fun c_6 => ?_) (fun c_6 => absurd c_6 (by rw [decide_eq_false (fun z => z hbad)]; decide))
  refine lv_iconst (v := nI 1) hx hb dX7_confirm_16 (by decide) ?_
  refine lv_goto (tgt := 51) hx hb dX7_confirm_17 (by decide) ?_
  refine gv_set f0_mod rfl (by rfl) (fun k9 h9 kk9 => va_put (D := D) (ci := 8) (v := .int (nI (1))) (ty := .int) (C := RX7) (T := TX7) (N := 33) hx hb hts in_RX7 tyX7 tyX7_ok nmX7 hown hE.1 hP hD hS k9 h9 rfl 0 (by decide) (hts (.fieldLink RX7 94 "BasketryOfficeModel" "thrown" "I") (by decide +kernel)) (fun _ h9 => h9) rfl (by decide +kernel) rfl rfl (Nat.le_of_ble_eq_true rfl) dX7_confirm_51 kk9) (fun H locs hP hD hS => ?_)
  have f_mod := g_eq (x := (a_mod, .inr (8, .int (nI (1)) :: .int (nI (n)) :: x_mod_2 :: x_mod_3 :: x_mod_4 :: .int (nI (nw)) :: x_mod_6 :: x_mod_7 :: .ref a_mce :: x_mod_9 :: x_mod_10 :: x_mod_11 :: x_mod_12 :: x_mod_13 :: x_mod_14 :: x_mod_15 :: x_mod_16 :: x_mod_17 :: x_mod_18 :: x_mod_19 :: x_mod_20 :: x_mod_21 :: x_mod_22 :: x_mod_23 :: x_mod_24 :: x_mod_25 :: x_mod_26 :: x_mod_27 :: x_mod_28 :: x_mod_29 :: x_mod_30 :: x_mod_31 :: x_mod_32 :: []))) (f0_mod)
  have f_mce := g_ne (x := (a_mod, .inr (8, .int (nI (1)) :: .int (nI (n)) :: x_mod_2 :: x_mod_3 :: x_mod_4 :: .int (nI (nw)) :: x_mod_6 :: x_mod_7 :: .ref a_mce :: x_mod_9 :: x_mod_10 :: x_mod_11 :: x_mod_12 :: x_mod_13 :: x_mod_14 :: x_mod_15 :: x_mod_16 :: x_mod_17 :: x_mod_18 :: x_mod_19 :: x_mod_20 :: x_mod_21 :: x_mod_22 :: x_mod_23 :: x_mod_24 :: x_mod_25 :: x_mod_26 :: x_mod_27 :: x_mod_28 :: x_mod_29 :: x_mod_30 :: x_mod_31 :: x_mod_32 :: []))) (g_kne f0_mod f0_mce (Nat.ne_of_beq_eq_false rfl)) (f0_mce)
  refine lv_aload_n hx hb dX7_confirm_54 rfl (lv_at hl 0 rfl) ?_
  refine va_get (D := D) (ci := 8) (v := .int (nI (1))) (C := RX7) (T := TX7) (N := 33) hx hb hts in_RX7 hown hE.1 (gv1 hP f_mod) 0 rfl rfl 0 (by decide) (hts (.fieldLink RX7 94 "BasketryOfficeModel" "thrown" "I") (by decide +kernel)) (fun _ h9 => h9) rfl dX7_confirm_55 ?_
  refine g_if_le (tgt := 63) hx hb (by omega) dX7_confirm_58 (by decide) (fun c_58 => absurd c_58 (by omega)) (fun c_58 => ?_)
  refine lv_iconst (v := nI 0) hx hb dX7_confirm_61 (by decide) ?_
  refine g_zret (r := (gb (false))) hx hb hr hlocks () dX7_confirm_62 (gb_narrow _) hS hP hD ?_
  exact rfl

theorem in_x1_X7_confirm_RX7 : ∀ w ∈ wsX70, w ∈ wsX7_confirm := by decide +kernel
set_option maxHeartbeats 4000000 in
set_option maxRecDepth 100000 in
theorem x1_X7_confirm (l : Launch) {D : va_G} {y : Nat → Nat} {ws : va_W} {x_mod_2 : Value} {x_mod_3 : Value} {x_mod_4 : Value} {x_mod_6 : Value} {x_mod_7 : Value} {x_mod_9 : Value} {x_mod_10 : Value} {x_mod_11 : Value} {x_mod_12 : Value} {x_mod_13 : Value} {x_mod_14 : Value} {x_mod_15 : Value} {x_mod_16 : Value} {x_mod_17 : Value} {x_mod_18 : Value} {x_mod_19 : Value} {x_mod_20 : Value} {x_mod_21 : Value} {x_mod_22 : Value} {x_mod_23 : Value} {x_mod_24 : Value} {x_mod_25 : Value} {x_mod_26 : Value} {x_mod_27 : Value} {x_mod_28 : Value} {x_mod_29 : Value} {x_mod_30 : Value} {x_mod_31 : Value} {x_mod_32 : Value} {p_mod p_mce a_mod a_mce : Nat} {mce : Nat → Nat} {i : Nat} {o : Int32} {nw n th : Nat} (f0_mod : ws[p_mod]? = some (a_mod, .inr (8, .int (nI (th)) :: .int (nI (n)) :: x_mod_2 :: x_mod_3 :: x_mod_4 :: .int (nI (nw)) :: x_mod_6 :: x_mod_7 :: .ref a_mce :: x_mod_9 :: x_mod_10 :: x_mod_11 :: x_mod_12 :: x_mod_13 :: x_mod_14 :: x_mod_15 :: x_mod_16 :: x_mod_17 :: x_mod_18 :: x_mod_19 :: x_mod_20 :: x_mod_21 :: x_mod_22 :: x_mod_23 :: x_mod_24 :: x_mod_25 :: x_mod_26 :: x_mod_27 :: x_mod_28 :: x_mod_29 :: x_mod_30 :: x_mod_31 :: x_mod_32 :: []))) (f0_mce : ws[p_mce]? = some (a_mce, eN y 1152 mce)) (b_mce : ∀ k, mce k ≤ 100000) (hw : nw ≤ 24) (hn : n ≤ 12) (hi : i < n) (hbad : o < 0 ∨ nI 4 ≤ o) : gMi l yX7_confirm wsX7_confirm ({ frames := 2, cells := 0, slots := 0, locals := 43 }) D y [.ref a_mod, .int (nI (i)), .int (o)] ws (fun r (_ : Unit) => r = gb false) (fun (_ : Unit) => (ws.set p_mod (a_mod, .inr (8, .int (nI (1)) :: .int (nI (n)) :: x_mod_2 :: x_mod_3 :: x_mod_4 :: .int (nI (nw)) :: x_mod_6 :: x_mod_7 :: .ref a_mce :: x_mod_9 :: x_mod_10 :: x_mod_11 :: x_mod_12 :: x_mod_13 :: x_mod_14 :: x_mod_15 :: x_mod_16 :: x_mod_17 :: x_mod_18 :: x_mod_19 :: x_mod_20 :: x_mod_21 :: x_mod_22 :: x_mod_23 :: x_mod_24 :: x_mod_25 :: x_mod_26 :: x_mod_27 :: x_mod_28 :: x_mod_29 :: x_mod_30 :: x_mod_31 :: x_mod_32 :: [])))) := by
  refine g_met_z (cc := cX7_confirm) (maxL := 4) (by decide) rfl (Nat.le_of_ble_eq_true rfl) ?_
  intro p e s m below meth c A hx hb hml hr hts hown hnm hlocks hE hP hD hS hA ls hl
  have hown : s.vm.findClass RX7 = some m.cls := hown
  have hl : lv_has ls 4 [(0, .ref a_mod), (1, .int (nI (i))), (2, .int (o))] := hl
  have in_RX7 := in_x1_X7_confirm_RX7
  refine lv_aload_n hx hb dX7_confirm_0 rfl (lv_at hl 0 rfl) ?_
  refine lv_aload_n hx hb dX7_confirm_1 rfl (lv_at hl 0 rfl) ?_
  refine lv_iload_n hx hb dX7_confirm_2 rfl (lv_at hl 1 rfl) ?_
  refine gc_V_i (As := [.int (nI (i))]) (rest := [.ref a_mod]) (c_X7_isItem l f0_mod (by omega)) ⟨hx, hb, hml, hown, hts⟩ (cwV 1 hts gX7_confirm_X7_isItem rfl rfl rfl (by decide +kernel) ⟨Nat.le_of_ble_eq_true rfl, Nat.le_of_ble_eq_true rfl⟩) hE hP hD hS hA _ f0_mod rfl rfl rfl rfl hl.1 (Nat.le_of_ble_eq_true rfl) dX7_confirm_3 ⟨Nat.le_of_ble_eq_true rfl, Nat.le_of_ble_eq_true rfl⟩ (fun r_3 u_3 H locs hP hD hS q_3 => ?_)
  subst q_3
  refine g_bif_eq (tgt := 16) hx hb dX7_confirm_6 (by decide) (fun c_6 => absurd c_6 (by rw [decide_eq_true (rq_lt hi (by omega))]; decide)) (fun c_6 => ?_)
  refine lv_iload_n hx hb dX7_confirm_9 rfl (lv_at hl 2 rfl) ?_
  refine gc_S_i (As := [.int (o)]) (rest := [.ref a_mod]) (c_X7_isOutlet l) ⟨hx, hb, hml, hown, hts⟩ (va_cwS 1 hts gX7_confirm_X7_isOutlet rfl rfl rfl (by decide +kernel) ⟨Nat.le_of_ble_eq_true rfl, Nat.le_of_ble_eq_true rfl⟩) hE hP hD hS hA rfl rfl hl.1 (Nat.le_of_ble_eq_true rfl) dX7_confirm_10 ⟨Nat.le_of_ble_eq_true rfl, Nat.le_of_ble_eq_true rfl⟩ (fun r_10 u_10 H locs hP hD hS q_10 => ?_)
  subst q_10
  refine g_bif_ne (tgt := 20) hx hb dX7_confirm_13 (by decide) (fun c_13 => absurd c_13 (by rw [decide_eq_false (fun z => z hbad)]; decide)) (fun c_13 => ?_)
  refine lv_iconst (v := nI 1) hx hb dX7_confirm_16 (by decide) ?_
  refine lv_goto (tgt := 51) hx hb dX7_confirm_17 (by decide) ?_
  refine gv_set f0_mod rfl (by rfl) (fun k9 h9 kk9 => va_put (D := D) (ci := 8) (v := .int (nI (1))) (ty := .int) (C := RX7) (T := TX7) (N := 33) hx hb hts in_RX7 tyX7 tyX7_ok nmX7 hown hE.1 hP hD hS k9 h9 rfl 0 (by decide) (hts (.fieldLink RX7 94 "BasketryOfficeModel" "thrown" "I") (by decide +kernel)) (fun _ h9 => h9) rfl (by decide +kernel) rfl rfl (Nat.le_of_ble_eq_true rfl) dX7_confirm_51 kk9) (fun H locs hP hD hS => ?_)
  have f_mod := g_eq (x := (a_mod, .inr (8, .int (nI (1)) :: .int (nI (n)) :: x_mod_2 :: x_mod_3 :: x_mod_4 :: .int (nI (nw)) :: x_mod_6 :: x_mod_7 :: .ref a_mce :: x_mod_9 :: x_mod_10 :: x_mod_11 :: x_mod_12 :: x_mod_13 :: x_mod_14 :: x_mod_15 :: x_mod_16 :: x_mod_17 :: x_mod_18 :: x_mod_19 :: x_mod_20 :: x_mod_21 :: x_mod_22 :: x_mod_23 :: x_mod_24 :: x_mod_25 :: x_mod_26 :: x_mod_27 :: x_mod_28 :: x_mod_29 :: x_mod_30 :: x_mod_31 :: x_mod_32 :: []))) (f0_mod)
  have f_mce := g_ne (x := (a_mod, .inr (8, .int (nI (1)) :: .int (nI (n)) :: x_mod_2 :: x_mod_3 :: x_mod_4 :: .int (nI (nw)) :: x_mod_6 :: x_mod_7 :: .ref a_mce :: x_mod_9 :: x_mod_10 :: x_mod_11 :: x_mod_12 :: x_mod_13 :: x_mod_14 :: x_mod_15 :: x_mod_16 :: x_mod_17 :: x_mod_18 :: x_mod_19 :: x_mod_20 :: x_mod_21 :: x_mod_22 :: x_mod_23 :: x_mod_24 :: x_mod_25 :: x_mod_26 :: x_mod_27 :: x_mod_28 :: x_mod_29 :: x_mod_30 :: x_mod_31 :: x_mod_32 :: []))) (g_kne f0_mod f0_mce (Nat.ne_of_beq_eq_false rfl)) (f0_mce)
  refine lv_aload_n hx hb dX7_confirm_54 rfl (lv_at hl 0 rfl) ?_
  refine va_get (D := D) (ci := 8) (v := .int (nI (1))) (C := RX7) (T := TX7) (N := 33) hx hb hts in_RX7 hown hE.1 (gv1 hP f_mod) 0 rfl rfl 0 (by decide) (hts (.fieldLink RX7 94 "BasketryOfficeModel" "thrown" "I") (by decide +kernel)) (fun _ h9 => h9) rfl dX7_confirm_55 ?_
  refine g_if_le (tgt := 63) hx hb (by omega) dX7_confirm_58 (by decide) (fun c_58 => absurd c_58 (by omega)) (fun c_58 => ?_)
  refine lv_iconst (v := nI 0) hx hb dX7_confirm_61 (by decide) ?_
  refine g_zret (r := (gb (false))) hx hb hr hlocks () dX7_confirm_62 (gb_narrow _) hS hP hD ?_
  exact rfl

theorem in_x2_X7_confirm_RX7 : ∀ w ∈ wsX70, w ∈ wsX7_confirm := by decide +kernel
set_option maxHeartbeats 4000000 in
set_option maxRecDepth 100000 in
theorem x2_X7_confirm (l : Launch) {D : va_G} {y : Nat → Nat} {ws : va_W} {x_mod_2 : Value} {x_mod_3 : Value} {x_mod_4 : Value} {x_mod_6 : Value} {x_mod_7 : Value} {x_mod_9 : Value} {x_mod_10 : Value} {x_mod_11 : Value} {x_mod_12 : Value} {x_mod_13 : Value} {x_mod_14 : Value} {x_mod_15 : Value} {x_mod_16 : Value} {x_mod_17 : Value} {x_mod_18 : Value} {x_mod_19 : Value} {x_mod_20 : Value} {x_mod_21 : Value} {x_mod_22 : Value} {x_mod_23 : Value} {x_mod_24 : Value} {x_mod_25 : Value} {x_mod_26 : Value} {x_mod_27 : Value} {x_mod_28 : Value} {x_mod_29 : Value} {x_mod_30 : Value} {x_mod_31 : Value} {x_mod_32 : Value} {p_mod p_mce a_mod a_mce : Nat} {mce : Nat → Nat} {i o : Nat} {nw n th : Nat} (f0_mod : ws[p_mod]? = some (a_mod, .inr (8, .int (nI (th)) :: .int (nI (n)) :: x_mod_2 :: x_mod_3 :: x_mod_4 :: .int (nI (nw)) :: x_mod_6 :: x_mod_7 :: .ref a_mce :: x_mod_9 :: x_mod_10 :: x_mod_11 :: x_mod_12 :: x_mod_13 :: x_mod_14 :: x_mod_15 :: x_mod_16 :: x_mod_17 :: x_mod_18 :: x_mod_19 :: x_mod_20 :: x_mod_21 :: x_mod_22 :: x_mod_23 :: x_mod_24 :: x_mod_25 :: x_mod_26 :: x_mod_27 :: x_mod_28 :: x_mod_29 :: x_mod_30 :: x_mod_31 :: x_mod_32 :: []))) (f0_mce : ws[p_mce]? = some (a_mce, eN y 1152 mce)) (b_mce : ∀ k, mce k ≤ 100000) (hw : nw ≤ 24) (hn : n ≤ 12) (hi : i < n) (ho : o < 4) (hbad : 24 ≤ nw) : gMi l yX7_confirm wsX7_confirm ({ frames := 2, cells := 0, slots := 0, locals := 43 }) D y [.ref a_mod, .int (nI (i)), .int (nI (o))] ws (fun r (_ : Unit) => r = gb false) (fun (_ : Unit) => (ws.set p_mod (a_mod, .inr (8, .int (nI (2)) :: .int (nI (n)) :: x_mod_2 :: x_mod_3 :: x_mod_4 :: .int (nI (nw)) :: x_mod_6 :: x_mod_7 :: .ref a_mce :: x_mod_9 :: x_mod_10 :: x_mod_11 :: x_mod_12 :: x_mod_13 :: x_mod_14 :: x_mod_15 :: x_mod_16 :: x_mod_17 :: x_mod_18 :: x_mod_19 :: x_mod_20 :: x_mod_21 :: x_mod_22 :: x_mod_23 :: x_mod_24 :: x_mod_25 :: x_mod_26 :: x_mod_27 :: x_mod_28 :: x_mod_29 :: x_mod_30 :: x_mod_31 :: x_mod_32 :: [])))) := by
  refine g_met_z (cc := cX7_confirm) (maxL := 4) (by decide) rfl (Nat.le_of_ble_eq_true rfl) ?_
  intro p e s m below meth c A hx hb hml hr hts hown hnm hlocks hE hP hD hS hA ls hl
  have hown : s.vm.findClass RX7 = some m.cls := hown
  have hl : lv_has ls 4 [(0, .ref a_mod), (1, .int (nI (i))), (2, .int (nI (o)))] := hl
  have in_RX7 := in_x2_X7_confirm_RX7
  refine lv_aload_n hx hb dX7_confirm_0 rfl (lv_at hl 0 rfl) ?_
  refine lv_aload_n hx hb dX7_confirm_1 rfl (lv_at hl 0 rfl) ?_
  refine lv_iload_n hx hb dX7_confirm_2 rfl (lv_at hl 1 rfl) ?_
  refine gc_V_i (As := [.int (nI (i))]) (rest := [.ref a_mod]) (c_X7_isItem l f0_mod (by omega)) ⟨hx, hb, hml, hown, hts⟩ (cwV 1 hts gX7_confirm_X7_isItem rfl rfl rfl (by decide +kernel) ⟨Nat.le_of_ble_eq_true rfl, Nat.le_of_ble_eq_true rfl⟩) hE hP hD hS hA _ f0_mod rfl rfl rfl rfl hl.1 (Nat.le_of_ble_eq_true rfl) dX7_confirm_3 ⟨Nat.le_of_ble_eq_true rfl, Nat.le_of_ble_eq_true rfl⟩ (fun r_3 u_3 H locs hP hD hS q_3 => ?_)
  subst q_3
  refine g_bif_eq (tgt := 16) hx hb dX7_confirm_6 (by decide) (fun c_6 => absurd c_6 (by rw [decide_eq_true (rq_lt hi (by omega))]; decide)) (fun c_6 => ?_)
  refine lv_iload_n hx hb dX7_confirm_9 rfl (lv_at hl 2 rfl) ?_
  refine gc_S_i (As := [.int (nI (o))]) (rest := [.ref a_mod]) (c_X7_isOutlet l) ⟨hx, hb, hml, hown, hts⟩ (va_cwS 1 hts gX7_confirm_X7_isOutlet rfl rfl rfl (by decide +kernel) ⟨Nat.le_of_ble_eq_true rfl, Nat.le_of_ble_eq_true rfl⟩) hE hP hD hS hA rfl rfl hl.1 (Nat.le_of_ble_eq_true rfl) dX7_confirm_10 ⟨Nat.le_of_ble_eq_true rfl, Nat.le_of_ble_eq_true rfl⟩ (fun r_10 u_10 H locs hP hD hS q_10 => ?_)
  subst q_10
  refine g_bif_ne (tgt := 20) hx hb dX7_confirm_13 (by decide) (fun c_13 => ?_) (fun c_13 => absurd c_13 (by rw [decide_eq_true (rq_lt ho (by omega))]; decide))
  refine lv_aload_n hx hb dX7_confirm_20 rfl (lv_at hl 0 rfl) ?_
  refine va_get (D := D) (ci := 8) (v := .int (nI (nw))) (C := RX7) (T := TX7) (N := 33) hx hb hts in_RX7 hown hE.1 (gv1 hP f0_mod) 0 rfl rfl 5 (by decide) (hts (.fieldLink RX7 105 "BasketryOfficeModel" "now" "I") (by decide +kernel)) (fun _ h9 => h9) rfl dX7_confirm_21 ?_
  refine lv_bipush (v := nI 24) hx hb dX7_confirm_24 (by decide) ?_
  refine g_icmp_eq (tgt := 46) hx hb (by omega) (by omega) dX7_confirm_26 (by decide) (fun c_26 => ?_) (fun c_26 => absurd c_26 (by omega))
  refine lv_iconst (v := nI 2) hx hb dX7_confirm_46 (by decide) ?_
  refine lv_goto (tgt := 51) hx hb dX7_confirm_47 (by decide) ?_
  refine gv_set f0_mod rfl (by rfl) (fun k9 h9 kk9 => va_put (D := D) (ci := 8) (v := .int (nI (2))) (ty := .int) (C := RX7) (T := TX7) (N := 33) hx hb hts in_RX7 tyX7 tyX7_ok nmX7 hown hE.1 hP hD hS k9 h9 rfl 0 (by decide) (hts (.fieldLink RX7 94 "BasketryOfficeModel" "thrown" "I") (by decide +kernel)) (fun _ h9 => h9) rfl (by decide +kernel) rfl rfl (Nat.le_of_ble_eq_true rfl) dX7_confirm_51 kk9) (fun H locs hP hD hS => ?_)
  have f_mod := g_eq (x := (a_mod, .inr (8, .int (nI (2)) :: .int (nI (n)) :: x_mod_2 :: x_mod_3 :: x_mod_4 :: .int (nI (nw)) :: x_mod_6 :: x_mod_7 :: .ref a_mce :: x_mod_9 :: x_mod_10 :: x_mod_11 :: x_mod_12 :: x_mod_13 :: x_mod_14 :: x_mod_15 :: x_mod_16 :: x_mod_17 :: x_mod_18 :: x_mod_19 :: x_mod_20 :: x_mod_21 :: x_mod_22 :: x_mod_23 :: x_mod_24 :: x_mod_25 :: x_mod_26 :: x_mod_27 :: x_mod_28 :: x_mod_29 :: x_mod_30 :: x_mod_31 :: x_mod_32 :: []))) (f0_mod)
  have f_mce := g_ne (x := (a_mod, .inr (8, .int (nI (2)) :: .int (nI (n)) :: x_mod_2 :: x_mod_3 :: x_mod_4 :: .int (nI (nw)) :: x_mod_6 :: x_mod_7 :: .ref a_mce :: x_mod_9 :: x_mod_10 :: x_mod_11 :: x_mod_12 :: x_mod_13 :: x_mod_14 :: x_mod_15 :: x_mod_16 :: x_mod_17 :: x_mod_18 :: x_mod_19 :: x_mod_20 :: x_mod_21 :: x_mod_22 :: x_mod_23 :: x_mod_24 :: x_mod_25 :: x_mod_26 :: x_mod_27 :: x_mod_28 :: x_mod_29 :: x_mod_30 :: x_mod_31 :: x_mod_32 :: []))) (g_kne f0_mod f0_mce (Nat.ne_of_beq_eq_false rfl)) (f0_mce)
  refine lv_aload_n hx hb dX7_confirm_54 rfl (lv_at hl 0 rfl) ?_
  refine va_get (D := D) (ci := 8) (v := .int (nI (2))) (C := RX7) (T := TX7) (N := 33) hx hb hts in_RX7 hown hE.1 (gv1 hP f_mod) 0 rfl rfl 0 (by decide) (hts (.fieldLink RX7 94 "BasketryOfficeModel" "thrown" "I") (by decide +kernel)) (fun _ h9 => h9) rfl dX7_confirm_55 ?_
  refine g_if_le (tgt := 63) hx hb (by omega) dX7_confirm_58 (by decide) (fun c_58 => absurd c_58 (by omega)) (fun c_58 => ?_)
  refine lv_iconst (v := nI 0) hx hb dX7_confirm_61 (by decide) ?_
  refine g_zret (r := (gb (false))) hx hb hr hlocks () dX7_confirm_62 (gb_narrow _) hS hP hD ?_
  exact rfl

theorem in_x3_X7_confirm_RX7 : ∀ w ∈ wsX70, w ∈ wsX7_confirm := by decide +kernel
set_option maxHeartbeats 4000000 in
set_option maxRecDepth 100000 in
theorem x3_X7_confirm (l : Launch) {D : va_G} {y : Nat → Nat} {ws : va_W} {x_mod_2 : Value} {x_mod_3 : Value} {x_mod_4 : Value} {x_mod_6 : Value} {x_mod_7 : Value} {x_mod_9 : Value} {x_mod_10 : Value} {x_mod_11 : Value} {x_mod_12 : Value} {x_mod_13 : Value} {x_mod_14 : Value} {x_mod_15 : Value} {x_mod_16 : Value} {x_mod_17 : Value} {x_mod_18 : Value} {x_mod_19 : Value} {x_mod_20 : Value} {x_mod_21 : Value} {x_mod_22 : Value} {x_mod_23 : Value} {x_mod_24 : Value} {x_mod_25 : Value} {x_mod_26 : Value} {x_mod_27 : Value} {x_mod_28 : Value} {x_mod_29 : Value} {x_mod_30 : Value} {x_mod_31 : Value} {x_mod_32 : Value} {p_mod p_mce a_mod a_mce : Nat} {mce : Nat → Nat} {i o : Nat} {nw n th : Nat} (f0_mod : ws[p_mod]? = some (a_mod, .inr (8, .int (nI (th)) :: .int (nI (n)) :: x_mod_2 :: x_mod_3 :: x_mod_4 :: .int (nI (nw)) :: x_mod_6 :: x_mod_7 :: .ref a_mce :: x_mod_9 :: x_mod_10 :: x_mod_11 :: x_mod_12 :: x_mod_13 :: x_mod_14 :: x_mod_15 :: x_mod_16 :: x_mod_17 :: x_mod_18 :: x_mod_19 :: x_mod_20 :: x_mod_21 :: x_mod_22 :: x_mod_23 :: x_mod_24 :: x_mod_25 :: x_mod_26 :: x_mod_27 :: x_mod_28 :: x_mod_29 :: x_mod_30 :: x_mod_31 :: x_mod_32 :: []))) (f0_mce : ws[p_mce]? = some (a_mce, eN y 1152 mce)) (b_mce : ∀ k, mce k ≤ 100000) (hw : nw ≤ 24) (hn : n ≤ 12) (hi : i < n) (ho : o < 4) (hnw : nw < 24) (hbad : mce (48 * nw + 4 * i + o) = 0) : gMi l yX7_confirm wsX7_confirm ({ frames := 2, cells := 0, slots := 0, locals := 43 }) D y [.ref a_mod, .int (nI (i)), .int (nI (o))] ws (fun r (_ : Unit) => r = gb false) (fun (_ : Unit) => (ws.set p_mod (a_mod, .inr (8, .int (nI (2)) :: .int (nI (n)) :: x_mod_2 :: x_mod_3 :: x_mod_4 :: .int (nI (nw)) :: x_mod_6 :: x_mod_7 :: .ref a_mce :: x_mod_9 :: x_mod_10 :: x_mod_11 :: x_mod_12 :: x_mod_13 :: x_mod_14 :: x_mod_15 :: x_mod_16 :: x_mod_17 :: x_mod_18 :: x_mod_19 :: x_mod_20 :: x_mod_21 :: x_mod_22 :: x_mod_23 :: x_mod_24 :: x_mod_25 :: x_mod_26 :: x_mod_27 :: x_mod_28 :: x_mod_29 :: x_mod_30 :: x_mod_31 :: x_mod_32 :: [])))) := by
  refine g_met_z (cc := cX7_confirm) (maxL := 4) (by decide) rfl (Nat.le_of_ble_eq_true rfl) ?_
  intro p e s m below meth c A hx hb hml hr hts hown hnm hlocks hE hP hD hS hA ls hl
  have hown : s.vm.findClass RX7 = some m.cls := hown
  have hl : lv_has ls 4 [(0, .ref a_mod), (1, .int (nI (i))), (2, .int (nI (o)))] := hl
  have in_RX7 := in_x3_X7_confirm_RX7
  refine lv_aload_n hx hb dX7_confirm_0 rfl (lv_at hl 0 rfl) ?_
  refine lv_aload_n hx hb dX7_confirm_1 rfl (lv_at hl 0 rfl) ?_
  refine lv_iload_n hx hb dX7_confirm_2 rfl (lv_at hl 1 rfl) ?_
  refine gc_V_i (As := [.int (nI (i))]) (rest := [.ref a_mod]) (c_X7_isItem l f0_mod (by omega)) ⟨hx, hb, hml, hown, hts⟩ (cwV 1 hts gX7_confirm_X7_isItem rfl rfl rfl (by decide +kernel) ⟨Nat.le_of_ble_eq_true rfl, Nat.le_of_ble_eq_true rfl⟩) hE hP hD hS hA _ f0_mod rfl rfl rfl rfl hl.1 (Nat.le_of_ble_eq_true rfl) dX7_confirm_3 ⟨Nat.le_of_ble_eq_true rfl, Nat.le_of_ble_eq_true rfl⟩ (fun r_3 u_3 H locs hP hD hS q_3 => ?_)
  subst q_3
  refine g_bif_eq (tgt := 16) hx hb dX7_confirm_6 (by decide) (fun c_6 => absurd c_6 (by rw [decide_eq_true (rq_lt hi (by omega))]; decide)) (fun c_6 => ?_)
  refine lv_iload_n hx hb dX7_confirm_9 rfl (lv_at hl 2 rfl) ?_
  refine gc_S_i (As := [.int (nI (o))]) (rest := [.ref a_mod]) (c_X7_isOutlet l) ⟨hx, hb, hml, hown, hts⟩ (va_cwS 1 hts gX7_confirm_X7_isOutlet rfl rfl rfl (by decide +kernel) ⟨Nat.le_of_ble_eq_true rfl, Nat.le_of_ble_eq_true rfl⟩) hE hP hD hS hA rfl rfl hl.1 (Nat.le_of_ble_eq_true rfl) dX7_confirm_10 ⟨Nat.le_of_ble_eq_true rfl, Nat.le_of_ble_eq_true rfl⟩ (fun r_10 u_10 H locs hP hD hS q_10 => ?_)
  subst q_10
  refine g_bif_ne (tgt := 20) hx hb dX7_confirm_13 (by decide) (fun c_13 => ?_) (fun c_13 => absurd c_13 (by rw [decide_eq_true (rq_lt ho (by omega))]; decide))
  refine lv_aload_n hx hb dX7_confirm_20 rfl (lv_at hl 0 rfl) ?_
  refine va_get (D := D) (ci := 8) (v := .int (nI (nw))) (C := RX7) (T := TX7) (N := 33) hx hb hts in_RX7 hown hE.1 (gv1 hP f0_mod) 0 rfl rfl 5 (by decide) (hts (.fieldLink RX7 105 "BasketryOfficeModel" "now" "I") (by decide +kernel)) (fun _ h9 => h9) rfl dX7_confirm_21 ?_
  refine lv_bipush (v := nI 24) hx hb dX7_confirm_24 (by decide) ?_
  refine g_icmp_eq (tgt := 46) hx hb (by omega) (by omega) dX7_confirm_26 (by decide) (fun c_26 => absurd c_26 (by omega)) (fun c_26 => ?_)
  refine lv_aload_n hx hb dX7_confirm_29 rfl (lv_at hl 0 rfl) ?_
  refine va_get (D := D) (ci := 8) (v := .ref a_mce) (C := RX7) (T := TX7) (N := 33) hx hb hts in_RX7 hown hE.1 (gv1 hP f0_mod) 0 rfl rfl 8 (by decide) (hts (.fieldLink RX7 19 "BasketryOfficeModel" "cents" "[I") (by decide +kernel)) (fun _ h9 => h9) rfl dX7_confirm_30 ?_
  refine lv_aload_n hx hb dX7_confirm_33 rfl (lv_at hl 0 rfl) ?_
  refine va_get (D := D) (ci := 8) (v := .int (nI (nw))) (C := RX7) (T := TX7) (N := 33) hx hb hts in_RX7 hown hE.1 (gv1 hP f0_mod) 0 rfl rfl 5 (by decide) (hts (.fieldLink RX7 105 "BasketryOfficeModel" "now" "I") (by decide +kernel)) (fun _ h9 => h9) rfl dX7_confirm_34 ?_
  refine lv_iload_n hx hb dX7_confirm_37 rfl (lv_at hl 1 rfl) ?_
  refine lv_iload_n hx hb dX7_confirm_38 rfl (lv_at hl 2 rfl) ?_
  refine gc_S_i (As := [.int (nI (nw)), .int (nI (i)), .int (nI (o))]) (rest := [.ref a_mce, .ref a_mod]) (c_X7_cell l) ⟨hx, hb, hml, hown, hts⟩ (va_cwS 3 hts gX7_confirm_X7_cell rfl rfl rfl (by decide +kernel) ⟨Nat.le_of_ble_eq_true rfl, Nat.le_of_ble_eq_true rfl⟩) hE hP hD hS hA rfl rfl hl.1 (Nat.le_of_ble_eq_true rfl) dX7_confirm_39 ⟨Nat.le_of_ble_eq_true rfl, Nat.le_of_ble_eq_true rfl⟩ (fun r_39 u_39 H locs hP hD hS q_39 => ?_)
  subst q_39
  refine g_nald hx hb hE hP _ f0_mce (by omega) (by decide) dX7_confirm_42 ?_
  have bd_42_1 := b_mce (48 * (nw) + 4 * (i) + (o))
  refine g_if_ne (tgt := 50) hx hb (by omega) dX7_confirm_43 (by decide) (fun c_43 => absurd c_43 (by omega)) (fun c_43 => ?_)
  refine lv_iconst (v := nI 2) hx hb dX7_confirm_46 (by decide) ?_
  refine lv_goto (tgt := 51) hx hb dX7_confirm_47 (by decide) ?_
  refine gv_set f0_mod rfl (by rfl) (fun k9 h9 kk9 => va_put (D := D) (ci := 8) (v := .int (nI (2))) (ty := .int) (C := RX7) (T := TX7) (N := 33) hx hb hts in_RX7 tyX7 tyX7_ok nmX7 hown hE.1 hP hD hS k9 h9 rfl 0 (by decide) (hts (.fieldLink RX7 94 "BasketryOfficeModel" "thrown" "I") (by decide +kernel)) (fun _ h9 => h9) rfl (by decide +kernel) rfl rfl (Nat.le_of_ble_eq_true rfl) dX7_confirm_51 kk9) (fun H locs hP hD hS => ?_)
  have f_mod := g_eq (x := (a_mod, .inr (8, .int (nI (2)) :: .int (nI (n)) :: x_mod_2 :: x_mod_3 :: x_mod_4 :: .int (nI (nw)) :: x_mod_6 :: x_mod_7 :: .ref a_mce :: x_mod_9 :: x_mod_10 :: x_mod_11 :: x_mod_12 :: x_mod_13 :: x_mod_14 :: x_mod_15 :: x_mod_16 :: x_mod_17 :: x_mod_18 :: x_mod_19 :: x_mod_20 :: x_mod_21 :: x_mod_22 :: x_mod_23 :: x_mod_24 :: x_mod_25 :: x_mod_26 :: x_mod_27 :: x_mod_28 :: x_mod_29 :: x_mod_30 :: x_mod_31 :: x_mod_32 :: []))) (f0_mod)
  have f_mce := g_ne (x := (a_mod, .inr (8, .int (nI (2)) :: .int (nI (n)) :: x_mod_2 :: x_mod_3 :: x_mod_4 :: .int (nI (nw)) :: x_mod_6 :: x_mod_7 :: .ref a_mce :: x_mod_9 :: x_mod_10 :: x_mod_11 :: x_mod_12 :: x_mod_13 :: x_mod_14 :: x_mod_15 :: x_mod_16 :: x_mod_17 :: x_mod_18 :: x_mod_19 :: x_mod_20 :: x_mod_21 :: x_mod_22 :: x_mod_23 :: x_mod_24 :: x_mod_25 :: x_mod_26 :: x_mod_27 :: x_mod_28 :: x_mod_29 :: x_mod_30 :: x_mod_31 :: x_mod_32 :: []))) (g_kne f0_mod f0_mce (Nat.ne_of_beq_eq_false rfl)) (f0_mce)
  refine lv_aload_n hx hb dX7_confirm_54 rfl (lv_at hl 0 rfl) ?_
  refine va_get (D := D) (ci := 8) (v := .int (nI (2))) (C := RX7) (T := TX7) (N := 33) hx hb hts in_RX7 hown hE.1 (gv1 hP f_mod) 0 rfl rfl 0 (by decide) (hts (.fieldLink RX7 94 "BasketryOfficeModel" "thrown" "I") (by decide +kernel)) (fun _ h9 => h9) rfl dX7_confirm_55 ?_
  refine g_if_le (tgt := 63) hx hb (by omega) dX7_confirm_58 (by decide) (fun c_58 => absurd c_58 (by omega)) (fun c_58 => ?_)
  refine lv_iconst (v := nI 0) hx hb dX7_confirm_61 (by decide) ?_
  refine g_zret (r := (gb (false))) hx hb hr hlocks () dX7_confirm_62 (gb_narrow _) hS hP hD ?_
  exact rfl

theorem in_c_X7_confirm_RX7 : ∀ w ∈ wsX70, w ∈ wsX7_confirm := by decide +kernel
set_option maxHeartbeats 4000000 in
set_option maxRecDepth 100000 in
theorem c_X7_confirm (l : Launch) {D : va_G} {y : Nat → Nat} {ws : va_W} {x_mod_2 : Value} {x_mod_3 : Value} {x_mod_4 : Value} {x_mod_6 : Value} {x_mod_7 : Value} {x_mod_9 : Value} {x_mod_10 : Value} {x_mod_12 : Value} {x_mod_13 : Value} {x_mod_14 : Value} {x_mod_15 : Value} {x_mod_16 : Value} {x_mod_17 : Value} {x_mod_18 : Value} {x_mod_19 : Value} {x_mod_20 : Value} {x_mod_21 : Value} {x_mod_22 : Value} {x_mod_23 : Value} {x_mod_24 : Value} {x_mod_25 : Value} {x_mod_26 : Value} {x_mod_27 : Value} {x_mod_28 : Value} {x_mod_29 : Value} {x_mod_30 : Value} {x_mod_31 : Value} {x_mod_32 : Value} {p_mod p_mcf p_mce a_mod a_mcf a_mce : Nat} {mcf : Nat → Bool} {mce : Nat → Nat} {i o : Nat} {nw n th : Nat} (f0_mod : ws[p_mod]? = some (a_mod, .inr (8, .int (nI (th)) :: .int (nI (n)) :: x_mod_2 :: x_mod_3 :: x_mod_4 :: .int (nI (nw)) :: x_mod_6 :: x_mod_7 :: .ref a_mce :: x_mod_9 :: x_mod_10 :: .ref a_mcf :: x_mod_12 :: x_mod_13 :: x_mod_14 :: x_mod_15 :: x_mod_16 :: x_mod_17 :: x_mod_18 :: x_mod_19 :: x_mod_20 :: x_mod_21 :: x_mod_22 :: x_mod_23 :: x_mod_24 :: x_mod_25 :: x_mod_26 :: x_mod_27 :: x_mod_28 :: x_mod_29 :: x_mod_30 :: x_mod_31 :: x_mod_32 :: []))) (f0_mcf : ws[p_mcf]? = some (a_mcf, eZ y 1152 mcf)) (f0_mce : ws[p_mce]? = some (a_mce, eN y 1152 mce)) (b_mce : ∀ k, mce k ≤ 100000) (hw : nw ≤ 24) (hn : n ≤ 12) (hi : i < n) (ho : o < 4) (hnw : nw < 24) (hq : 0 < mce (48 * nw + 4 * i + o)) (hdis : p_mcf ≠ p_mce) : gMi l yX7_confirm wsX7_confirm ({ frames := 2, cells := 0, slots := 0, locals := 43 }) D y [.ref a_mod, .int (nI (i)), .int (nI (o))] ws (fun r (_ : Unit) => r = gb (mcf (48 * nw + 4 * i + o))) (fun (_ : Unit) => ((ws.set p_mod (a_mod, .inr (8, .int (nI (0)) :: .int (nI (n)) :: x_mod_2 :: x_mod_3 :: x_mod_4 :: .int (nI (nw)) :: x_mod_6 :: x_mod_7 :: .ref a_mce :: x_mod_9 :: x_mod_10 :: .ref a_mcf :: x_mod_12 :: x_mod_13 :: x_mod_14 :: x_mod_15 :: x_mod_16 :: x_mod_17 :: x_mod_18 :: x_mod_19 :: x_mod_20 :: x_mod_21 :: x_mod_22 :: x_mod_23 :: x_mod_24 :: x_mod_25 :: x_mod_26 :: x_mod_27 :: x_mod_28 :: x_mod_29 :: x_mod_30 :: x_mod_31 :: x_mod_32 :: []))).set p_mcf (a_mcf, eZ y 1152 (vf_upd mcf (48 * nw + 4 * i + o) true)))) := by
  refine g_met_z (cc := cX7_confirm) (maxL := 4) (by decide) rfl (Nat.le_of_ble_eq_true rfl) ?_
  intro p e s m below meth c A hx hb hml hr hts hown hnm hlocks hE hP hD hS hA ls hl
  have hown : s.vm.findClass RX7 = some m.cls := hown
  have hl : lv_has ls 4 [(0, .ref a_mod), (1, .int (nI (i))), (2, .int (nI (o)))] := hl
  have in_RX7 := in_c_X7_confirm_RX7
  refine lv_aload_n hx hb dX7_confirm_0 rfl (lv_at hl 0 rfl) ?_
  refine lv_aload_n hx hb dX7_confirm_1 rfl (lv_at hl 0 rfl) ?_
  refine lv_iload_n hx hb dX7_confirm_2 rfl (lv_at hl 1 rfl) ?_
  refine gc_V_i (As := [.int (nI (i))]) (rest := [.ref a_mod]) (c_X7_isItem l f0_mod (by omega)) ⟨hx, hb, hml, hown, hts⟩ (cwV 1 hts gX7_confirm_X7_isItem rfl rfl rfl (by decide +kernel) ⟨Nat.le_of_ble_eq_true rfl, Nat.le_of_ble_eq_true rfl⟩) hE hP hD hS hA _ f0_mod rfl rfl rfl rfl hl.1 (Nat.le_of_ble_eq_true rfl) dX7_confirm_3 ⟨Nat.le_of_ble_eq_true rfl, Nat.le_of_ble_eq_true rfl⟩ (fun r_3 u_3 H locs hP hD hS q_3 => ?_)
  subst q_3
  refine g_bif_eq (tgt := 16) hx hb dX7_confirm_6 (by decide) (fun c_6 => absurd c_6 (by rw [decide_eq_true (rq_lt hi (by omega))]; decide)) (fun c_6 => ?_)
  refine lv_iload_n hx hb dX7_confirm_9 rfl (lv_at hl 2 rfl) ?_
  refine gc_S_i (As := [.int (nI (o))]) (rest := [.ref a_mod]) (c_X7_isOutlet l) ⟨hx, hb, hml, hown, hts⟩ (va_cwS 1 hts gX7_confirm_X7_isOutlet rfl rfl rfl (by decide +kernel) ⟨Nat.le_of_ble_eq_true rfl, Nat.le_of_ble_eq_true rfl⟩) hE hP hD hS hA rfl rfl hl.1 (Nat.le_of_ble_eq_true rfl) dX7_confirm_10 ⟨Nat.le_of_ble_eq_true rfl, Nat.le_of_ble_eq_true rfl⟩ (fun r_10 u_10 H locs hP hD hS q_10 => ?_)
  subst q_10
  refine g_bif_ne (tgt := 20) hx hb dX7_confirm_13 (by decide) (fun c_13 => ?_) (fun c_13 => absurd c_13 (by rw [decide_eq_true (rq_lt ho (by omega))]; decide))
  refine lv_aload_n hx hb dX7_confirm_20 rfl (lv_at hl 0 rfl) ?_
  refine va_get (D := D) (ci := 8) (v := .int (nI (nw))) (C := RX7) (T := TX7) (N := 33) hx hb hts in_RX7 hown hE.1 (gv1 hP f0_mod) 0 rfl rfl 5 (by decide) (hts (.fieldLink RX7 105 "BasketryOfficeModel" "now" "I") (by decide +kernel)) (fun _ h9 => h9) rfl dX7_confirm_21 ?_
  refine lv_bipush (v := nI 24) hx hb dX7_confirm_24 (by decide) ?_
  refine g_icmp_eq (tgt := 46) hx hb (by omega) (by omega) dX7_confirm_26 (by decide) (fun c_26 => absurd c_26 (by omega)) (fun c_26 => ?_)
  refine lv_aload_n hx hb dX7_confirm_29 rfl (lv_at hl 0 rfl) ?_
  refine va_get (D := D) (ci := 8) (v := .ref a_mce) (C := RX7) (T := TX7) (N := 33) hx hb hts in_RX7 hown hE.1 (gv1 hP f0_mod) 0 rfl rfl 8 (by decide) (hts (.fieldLink RX7 19 "BasketryOfficeModel" "cents" "[I") (by decide +kernel)) (fun _ h9 => h9) rfl dX7_confirm_30 ?_
  refine lv_aload_n hx hb dX7_confirm_33 rfl (lv_at hl 0 rfl) ?_
  refine va_get (D := D) (ci := 8) (v := .int (nI (nw))) (C := RX7) (T := TX7) (N := 33) hx hb hts in_RX7 hown hE.1 (gv1 hP f0_mod) 0 rfl rfl 5 (by decide) (hts (.fieldLink RX7 105 "BasketryOfficeModel" "now" "I") (by decide +kernel)) (fun _ h9 => h9) rfl dX7_confirm_34 ?_
  refine lv_iload_n hx hb dX7_confirm_37 rfl (lv_at hl 1 rfl) ?_
  refine lv_iload_n hx hb dX7_confirm_38 rfl (lv_at hl 2 rfl) ?_
  refine gc_S_i (As := [.int (nI (nw)), .int (nI (i)), .int (nI (o))]) (rest := [.ref a_mce, .ref a_mod]) (c_X7_cell l) ⟨hx, hb, hml, hown, hts⟩ (va_cwS 3 hts gX7_confirm_X7_cell rfl rfl rfl (by decide +kernel) ⟨Nat.le_of_ble_eq_true rfl, Nat.le_of_ble_eq_true rfl⟩) hE hP hD hS hA rfl rfl hl.1 (Nat.le_of_ble_eq_true rfl) dX7_confirm_39 ⟨Nat.le_of_ble_eq_true rfl, Nat.le_of_ble_eq_true rfl⟩ (fun r_39 u_39 H locs hP hD hS q_39 => ?_)
  subst q_39
  refine g_nald hx hb hE hP _ f0_mce (by omega) (by decide) dX7_confirm_42 ?_
  have bd_42_1 := b_mce (48 * (nw) + 4 * (i) + (o))
  refine g_if_ne (tgt := 50) hx hb (by omega) dX7_confirm_43 (by decide) (fun c_43 => ?_) (fun c_43 => absurd c_43 (by omega))
  refine lv_iconst (v := nI 0) hx hb dX7_confirm_50 (by decide) ?_
  refine gv_set f0_mod rfl (by rfl) (fun k9 h9 kk9 => va_put (D := D) (ci := 8) (v := .int (nI (0))) (ty := .int) (C := RX7) (T := TX7) (N := 33) hx hb hts in_RX7 tyX7 tyX7_ok nmX7 hown hE.1 hP hD hS k9 h9 rfl 0 (by decide) (hts (.fieldLink RX7 94 "BasketryOfficeModel" "thrown" "I") (by decide +kernel)) (fun _ h9 => h9) rfl (by decide +kernel) rfl rfl (Nat.le_of_ble_eq_true rfl) dX7_confirm_51 kk9) (fun H locs hP hD hS => ?_)
  have f_mod := g_eq (x := (a_mod, .inr (8, .int (nI (0)) :: .int (nI (n)) :: x_mod_2 :: x_mod_3 :: x_mod_4 :: .int (nI (nw)) :: x_mod_6 :: x_mod_7 :: .ref a_mce :: x_mod_9 :: x_mod_10 :: .ref a_mcf :: x_mod_12 :: x_mod_13 :: x_mod_14 :: x_mod_15 :: x_mod_16 :: x_mod_17 :: x_mod_18 :: x_mod_19 :: x_mod_20 :: x_mod_21 :: x_mod_22 :: x_mod_23 :: x_mod_24 :: x_mod_25 :: x_mod_26 :: x_mod_27 :: x_mod_28 :: x_mod_29 :: x_mod_30 :: x_mod_31 :: x_mod_32 :: []))) (f0_mod)
  have f_mcf := g_ne (x := (a_mod, .inr (8, .int (nI (0)) :: .int (nI (n)) :: x_mod_2 :: x_mod_3 :: x_mod_4 :: .int (nI (nw)) :: x_mod_6 :: x_mod_7 :: .ref a_mce :: x_mod_9 :: x_mod_10 :: .ref a_mcf :: x_mod_12 :: x_mod_13 :: x_mod_14 :: x_mod_15 :: x_mod_16 :: x_mod_17 :: x_mod_18 :: x_mod_19 :: x_mod_20 :: x_mod_21 :: x_mod_22 :: x_mod_23 :: x_mod_24 :: x_mod_25 :: x_mod_26 :: x_mod_27 :: x_mod_28 :: x_mod_29 :: x_mod_30 :: x_mod_31 :: x_mod_32 :: []))) (g_kne f0_mod f0_mcf (Nat.ne_of_beq_eq_false rfl)) (f0_mcf)
  have f_mce := g_ne (x := (a_mod, .inr (8, .int (nI (0)) :: .int (nI (n)) :: x_mod_2 :: x_mod_3 :: x_mod_4 :: .int (nI (nw)) :: x_mod_6 :: x_mod_7 :: .ref a_mce :: x_mod_9 :: x_mod_10 :: .ref a_mcf :: x_mod_12 :: x_mod_13 :: x_mod_14 :: x_mod_15 :: x_mod_16 :: x_mod_17 :: x_mod_18 :: x_mod_19 :: x_mod_20 :: x_mod_21 :: x_mod_22 :: x_mod_23 :: x_mod_24 :: x_mod_25 :: x_mod_26 :: x_mod_27 :: x_mod_28 :: x_mod_29 :: x_mod_30 :: x_mod_31 :: x_mod_32 :: []))) (g_kne f0_mod f0_mce (Nat.ne_of_beq_eq_false rfl)) (f0_mce)
  refine lv_aload_n hx hb dX7_confirm_54 rfl (lv_at hl 0 rfl) ?_
  refine va_get (D := D) (ci := 8) (v := .int (nI (0))) (C := RX7) (T := TX7) (N := 33) hx hb hts in_RX7 hown hE.1 (gv1 hP f_mod) 0 rfl rfl 0 (by decide) (hts (.fieldLink RX7 94 "BasketryOfficeModel" "thrown" "I") (by decide +kernel)) (fun _ h9 => h9) rfl dX7_confirm_55 ?_
  refine g_if_le (tgt := 63) hx hb (by omega) dX7_confirm_58 (by decide) (fun c_58 => ?_) (fun c_58 => absurd c_58 (by omega))
  refine lv_aload_n hx hb dX7_confirm_63 rfl (lv_at hl 0 rfl) ?_
  refine va_get (D := D) (ci := 8) (v := .ref a_mcf) (C := RX7) (T := TX7) (N := 33) hx hb hts in_RX7 hown hE.1 (gv1 hP f_mod) 0 rfl rfl 11 (by decide) (hts (.fieldLink RX7 28 "BasketryOfficeModel" "isConfirmed" "[Z") (by decide +kernel)) (fun _ h9 => h9) rfl dX7_confirm_64 ?_
  refine lv_aload_n hx hb dX7_confirm_67 rfl (lv_at hl 0 rfl) ?_
  refine va_get (D := D) (ci := 8) (v := .int (nI (nw))) (C := RX7) (T := TX7) (N := 33) hx hb hts in_RX7 hown hE.1 (gv1 hP f_mod) 0 rfl rfl 5 (by decide) (hts (.fieldLink RX7 105 "BasketryOfficeModel" "now" "I") (by decide +kernel)) (fun _ h9 => h9) rfl dX7_confirm_68 ?_
  refine lv_iload_n hx hb dX7_confirm_71 rfl (lv_at hl 1 rfl) ?_
  refine lv_iload_n hx hb dX7_confirm_72 rfl (lv_at hl 2 rfl) ?_
  refine gc_S_i (As := [.int (nI (nw)), .int (nI (i)), .int (nI (o))]) (rest := [.ref a_mcf]) (c_X7_cell l) ⟨hx, hb, hml, hown, hts⟩ (va_cwS 3 hts gX7_confirm_X7_cell rfl rfl rfl (by decide +kernel) ⟨Nat.le_of_ble_eq_true rfl, Nat.le_of_ble_eq_true rfl⟩) hE hP hD hS hA rfl rfl hl.1 (Nat.le_of_ble_eq_true rfl) dX7_confirm_73 ⟨Nat.le_of_ble_eq_true rfl, Nat.le_of_ble_eq_true rfl⟩ (fun r_73 u_73 H locs hP hD hS q_73 => ?_)
  subst q_73
  refine g_zald hx hb hE hP _ f_mcf (by omega) (by decide) dX7_confirm_76 ?_
  refine lv_istore_n (lv' := [(3, .int (gb (mcf (48 * (nw) + 4 * (i) + (o))))), (0, .ref a_mod), (1, .int (nI (i))), (2, .int (nI (o)))]) hx hb dX7_confirm_77 rfl hl (by decide) rfl (fun ls hl => ?_)
  refine lv_aload_n hx hb dX7_confirm_78 rfl (lv_at hl 1 rfl) ?_
  refine va_get (D := D) (ci := 8) (v := .ref a_mcf) (C := RX7) (T := TX7) (N := 33) hx hb hts in_RX7 hown hE.1 (gv1 hP f_mod) 0 rfl rfl 11 (by decide) (hts (.fieldLink RX7 28 "BasketryOfficeModel" "isConfirmed" "[Z") (by decide +kernel)) (fun _ h9 => h9) rfl dX7_confirm_79 ?_
  refine lv_aload_n hx hb dX7_confirm_82 rfl (lv_at hl 1 rfl) ?_
  refine va_get (D := D) (ci := 8) (v := .int (nI (nw))) (C := RX7) (T := TX7) (N := 33) hx hb hts in_RX7 hown hE.1 (gv1 hP f_mod) 0 rfl rfl 5 (by decide) (hts (.fieldLink RX7 105 "BasketryOfficeModel" "now" "I") (by decide +kernel)) (fun _ h9 => h9) rfl dX7_confirm_83 ?_
  refine lv_iload_n hx hb dX7_confirm_86 rfl (lv_at hl 2 rfl) ?_
  refine lv_iload_n hx hb dX7_confirm_87 rfl (lv_at hl 3 rfl) ?_
  refine gc_S_i (As := [.int (nI (nw)), .int (nI (i)), .int (nI (o))]) (rest := [.ref a_mcf]) (c_X7_cell l) ⟨hx, hb, hml, hown, hts⟩ (va_cwS 3 hts gX7_confirm_X7_cell rfl rfl rfl (by decide +kernel) ⟨Nat.le_of_ble_eq_true rfl, Nat.le_of_ble_eq_true rfl⟩) hE hP hD hS hA rfl rfl hl.1 (Nat.le_of_ble_eq_true rfl) dX7_confirm_88 ⟨Nat.le_of_ble_eq_true rfl, Nat.le_of_ble_eq_true rfl⟩ (fun r_88 u_88 H locs hP hD hS q_88 => ?_)
  subst q_88
  refine lv_iconst (v := nI 1) hx hb dX7_confirm_91 (by decide) ?_
  refine g_zast (x := true) hx hb hE hP hD hS _ f_mcf (by omega) (by decide) dX7_confirm_92 (fun H locs hP hD hS => ?_)
  have f_mod := g_ne (x := (a_mcf, eZ y 1152 (vf_upd mcf (48 * (nw) + 4 * (i) + (o)) (true)))) (g_kne f0_mcf f0_mod (Nat.ne_of_beq_eq_false rfl)) (g_eq (x := (a_mod, .inr (8, .int (nI (0)) :: .int (nI (n)) :: x_mod_2 :: x_mod_3 :: x_mod_4 :: .int (nI (nw)) :: x_mod_6 :: x_mod_7 :: .ref a_mce :: x_mod_9 :: x_mod_10 :: .ref a_mcf :: x_mod_12 :: x_mod_13 :: x_mod_14 :: x_mod_15 :: x_mod_16 :: x_mod_17 :: x_mod_18 :: x_mod_19 :: x_mod_20 :: x_mod_21 :: x_mod_22 :: x_mod_23 :: x_mod_24 :: x_mod_25 :: x_mod_26 :: x_mod_27 :: x_mod_28 :: x_mod_29 :: x_mod_30 :: x_mod_31 :: x_mod_32 :: []))) (f0_mod))
  have f_mcf := g_eq (x := (a_mcf, eZ y 1152 (vf_upd mcf (48 * (nw) + 4 * (i) + (o)) (true)))) (g_ne (x := (a_mod, .inr (8, .int (nI (0)) :: .int (nI (n)) :: x_mod_2 :: x_mod_3 :: x_mod_4 :: .int (nI (nw)) :: x_mod_6 :: x_mod_7 :: .ref a_mce :: x_mod_9 :: x_mod_10 :: .ref a_mcf :: x_mod_12 :: x_mod_13 :: x_mod_14 :: x_mod_15 :: x_mod_16 :: x_mod_17 :: x_mod_18 :: x_mod_19 :: x_mod_20 :: x_mod_21 :: x_mod_22 :: x_mod_23 :: x_mod_24 :: x_mod_25 :: x_mod_26 :: x_mod_27 :: x_mod_28 :: x_mod_29 :: x_mod_30 :: x_mod_31 :: x_mod_32 :: []))) (g_kne f0_mod f0_mcf (Nat.ne_of_beq_eq_false rfl)) (f0_mcf))
  have f_mce := g_ne (x := (a_mcf, eZ y 1152 (vf_upd mcf (48 * (nw) + 4 * (i) + (o)) (true)))) hdis (g_ne (x := (a_mod, .inr (8, .int (nI (0)) :: .int (nI (n)) :: x_mod_2 :: x_mod_3 :: x_mod_4 :: .int (nI (nw)) :: x_mod_6 :: x_mod_7 :: .ref a_mce :: x_mod_9 :: x_mod_10 :: .ref a_mcf :: x_mod_12 :: x_mod_13 :: x_mod_14 :: x_mod_15 :: x_mod_16 :: x_mod_17 :: x_mod_18 :: x_mod_19 :: x_mod_20 :: x_mod_21 :: x_mod_22 :: x_mod_23 :: x_mod_24 :: x_mod_25 :: x_mod_26 :: x_mod_27 :: x_mod_28 :: x_mod_29 :: x_mod_30 :: x_mod_31 :: x_mod_32 :: []))) (g_kne f0_mod f0_mce (Nat.ne_of_beq_eq_false rfl)) (f0_mce))
  refine lv_iload_n hx hb dX7_confirm_93 rfl (lv_at hl 0 rfl) ?_
  refine g_zret (r := (gb (mcf (48 * (nw) + 4 * (i) + (o))))) hx hb hr hlocks () dX7_confirm_94 (gb_narrow _) hS hP hD ?_
  exact rfl

theorem in_x0_X7_link_RX7 : ∀ w ∈ wsX70, w ∈ wsX7_link := by decide +kernel
set_option maxHeartbeats 4000000 in
set_option maxRecDepth 100000 in
theorem x0_X7_link (l : Launch) {D : va_G} {y : Nat → Nat} {ws : va_W} {x_mod_2 : Value} {x_mod_3 : Value} {x_mod_4 : Value} {x_mod_6 : Value} {x_mod_7 : Value} {x_mod_8 : Value} {x_mod_9 : Value} {x_mod_10 : Value} {x_mod_11 : Value} {x_mod_13 : Value} {x_mod_14 : Value} {x_mod_15 : Value} {x_mod_16 : Value} {x_mod_17 : Value} {x_mod_18 : Value} {x_mod_19 : Value} {x_mod_20 : Value} {x_mod_21 : Value} {x_mod_22 : Value} {x_mod_23 : Value} {x_mod_24 : Value} {x_mod_25 : Value} {x_mod_26 : Value} {x_mod_27 : Value} {x_mod_28 : Value} {x_mod_29 : Value} {x_mod_30 : Value} {x_mod_31 : Value} {x_mod_32 : Value} {p_mod p_mlc a_mod a_mlc : Nat} {mlc : Nat → Nat} {i o ce gr : Int32} {nw n th : Nat} (f0_mod : ws[p_mod]? = some (a_mod, .inr (8, .int (nI (th)) :: .int (nI (n)) :: x_mod_2 :: x_mod_3 :: x_mod_4 :: .int (nI (nw)) :: x_mod_6 :: x_mod_7 :: x_mod_8 :: x_mod_9 :: x_mod_10 :: x_mod_11 :: .ref a_mlc :: x_mod_13 :: x_mod_14 :: x_mod_15 :: x_mod_16 :: x_mod_17 :: x_mod_18 :: x_mod_19 :: x_mod_20 :: x_mod_21 :: x_mod_22 :: x_mod_23 :: x_mod_24 :: x_mod_25 :: x_mod_26 :: x_mod_27 :: x_mod_28 :: x_mod_29 :: x_mod_30 :: x_mod_31 :: x_mod_32 :: []))) (f0_mlc : ws[p_mlc]? = some (a_mlc, eN y 1152 mlc)) (b_mlc : ∀ k, mlc k ≤ 100000) (hw : nw ≤ 24) (hn : n ≤ 12)  (hbad : i < 0 ∨ nI n ≤ i) : gMv l yX7_link wsX7_link ({ frames := 2, cells := 0, slots := 0, locals := 43 }) D y [.ref a_mod, .int (i), .int (o), .int (ce), .int (gr)] ws (fun (_ : Unit) => True) (fun (_ : Unit) => (ws.set p_mod (a_mod, .inr (8, .int (nI (1)) :: .int (nI (n)) :: x_mod_2 :: x_mod_3 :: x_mod_4 :: .int (nI (nw)) :: x_mod_6 :: x_mod_7 :: x_mod_8 :: x_mod_9 :: x_mod_10 :: x_mod_11 :: .ref a_mlc :: x_mod_13 :: x_mod_14 :: x_mod_15 :: x_mod_16 :: x_mod_17 :: x_mod_18 :: x_mod_19 :: x_mod_20 :: x_mod_21 :: x_mod_22 :: x_mod_23 :: x_mod_24 :: x_mod_25 :: x_mod_26 :: x_mod_27 :: x_mod_28 :: x_mod_29 :: x_mod_30 :: x_mod_31 :: x_mod_32 :: [])))) := by
  refine g_met_v (cc := cX7_link) (maxL := 5) (by decide) rfl (Nat.le_of_ble_eq_true rfl) ?_
  intro p e s m below meth c A hx hb hml hr hts hown hnm hlocks hE hP hD hS hA ls hl
  have hown : s.vm.findClass RX7 = some m.cls := hown
  have hl : lv_has ls 5 [(0, .ref a_mod), (1, .int (i)), (2, .int (o)), (3, .int (ce)), (4, .int (gr))] := hl
  have in_RX7 := in_x0_X7_link_RX7
  refine lv_aload_n hx hb dX7_link_0 rfl (lv_at hl 0 rfl) ?_
  refine lv_aload_n hx hb dX7_link_1 rfl (lv_at hl 0 rfl) ?_
  refine lv_iload_n hx hb dX7_link_2 rfl (lv_at hl 1 rfl) ?_
  refine gc_V_i (As := [.int (i)]) (rest := [.ref a_mod]) (c_X7_isItem l f0_mod (by omega)) ⟨hx, hb, hml, hown, hts⟩ (cwV 1 hts gX7_link_X7_isItem rfl rfl rfl (by decide +kernel) ⟨Nat.le_of_ble_eq_true rfl, Nat.le_of_ble_eq_true rfl⟩) hE hP hD hS hA _ f0_mod rfl rfl rfl rfl hl.1 (Nat.le_of_ble_eq_true rfl) dX7_link_3 ⟨Nat.le_of_ble_eq_true rfl, Nat.le_of_ble_eq_true rfl⟩ (fun r_3 u_3 H locs hP hD hS q_3 => ?_)
  subst q_3
  refine g_bif_eq (tgt := 16) hx hb dX7_link_6 (by decide) (fun c_6 => ?_) (fun c_6 => absurd c_6 (by rw [decide_eq_false (fun z => z hbad)]; decide))
  refine lv_iconst (v := nI 1) hx hb dX7_link_16 (by decide) ?_
  refine lv_goto (tgt := 47) hx hb dX7_link_17 (by decide) ?_
  refine gv_set f0_mod rfl (by rfl) (fun k9 h9 kk9 => va_put (D := D) (ci := 8) (v := .int (nI (1))) (ty := .int) (C := RX7) (T := TX7) (N := 33) hx hb hts in_RX7 tyX7 tyX7_ok nmX7 hown hE.1 hP hD hS k9 h9 rfl 0 (by decide) (hts (.fieldLink RX7 94 "BasketryOfficeModel" "thrown" "I") (by decide +kernel)) (fun _ h9 => h9) rfl (by decide +kernel) rfl rfl (Nat.le_of_ble_eq_true rfl) dX7_link_47 kk9) (fun H locs hP hD hS => ?_)
  have f_mod := g_eq (x := (a_mod, .inr (8, .int (nI (1)) :: .int (nI (n)) :: x_mod_2 :: x_mod_3 :: x_mod_4 :: .int (nI (nw)) :: x_mod_6 :: x_mod_7 :: x_mod_8 :: x_mod_9 :: x_mod_10 :: x_mod_11 :: .ref a_mlc :: x_mod_13 :: x_mod_14 :: x_mod_15 :: x_mod_16 :: x_mod_17 :: x_mod_18 :: x_mod_19 :: x_mod_20 :: x_mod_21 :: x_mod_22 :: x_mod_23 :: x_mod_24 :: x_mod_25 :: x_mod_26 :: x_mod_27 :: x_mod_28 :: x_mod_29 :: x_mod_30 :: x_mod_31 :: x_mod_32 :: []))) (f0_mod)
  have f_mlc := g_ne (x := (a_mod, .inr (8, .int (nI (1)) :: .int (nI (n)) :: x_mod_2 :: x_mod_3 :: x_mod_4 :: .int (nI (nw)) :: x_mod_6 :: x_mod_7 :: x_mod_8 :: x_mod_9 :: x_mod_10 :: x_mod_11 :: .ref a_mlc :: x_mod_13 :: x_mod_14 :: x_mod_15 :: x_mod_16 :: x_mod_17 :: x_mod_18 :: x_mod_19 :: x_mod_20 :: x_mod_21 :: x_mod_22 :: x_mod_23 :: x_mod_24 :: x_mod_25 :: x_mod_26 :: x_mod_27 :: x_mod_28 :: x_mod_29 :: x_mod_30 :: x_mod_31 :: x_mod_32 :: []))) (g_kne f0_mod f0_mlc (Nat.ne_of_beq_eq_false rfl)) (f0_mlc)
  refine lv_aload_n hx hb dX7_link_50 rfl (lv_at hl 0 rfl) ?_
  refine lv_aload_n hx hb dX7_link_51 rfl (lv_at hl 0 rfl) ?_
  refine va_get (D := D) (ci := 8) (v := .int (nI (1))) (C := RX7) (T := TX7) (N := 33) hx hb hts in_RX7 hown hE.1 (gv1 hP f_mod) 0 rfl rfl 0 (by decide) (hts (.fieldLink RX7 94 "BasketryOfficeModel" "thrown" "I") (by decide +kernel)) (fun _ h9 => h9) rfl dX7_link_52 ?_
  refine g_if_ne (tgt := 88) hx hb (by omega) dX7_link_55 (by decide) (fun c_55 => ?_) (fun c_55 => absurd c_55 (by omega))
  refine lv_aload_n hx hb dX7_link_88 rfl (lv_at hl 0 rfl) ?_
  refine va_get (D := D) (ci := 8) (v := .int (nI (1))) (C := RX7) (T := TX7) (N := 33) hx hb hts in_RX7 hown hE.1 (gv1 hP f_mod) 0 rfl rfl 0 (by decide) (hts (.fieldLink RX7 94 "BasketryOfficeModel" "thrown" "I") (by decide +kernel)) (fun _ h9 => h9) rfl dX7_link_89 ?_
  refine gv_set f_mod rfl (by rfl) (fun k9 h9 kk9 => va_put (D := D) (ci := 8) (v := .int (nI (1))) (ty := .int) (C := RX7) (T := TX7) (N := 33) hx hb hts in_RX7 tyX7 tyX7_ok nmX7 hown hE.1 hP hD hS k9 h9 rfl 0 (by decide) (hts (.fieldLink RX7 94 "BasketryOfficeModel" "thrown" "I") (by decide +kernel)) (fun _ h9 => h9) rfl (by decide +kernel) rfl rfl (Nat.le_of_ble_eq_true rfl) dX7_link_92 kk9) (fun H locs hP hD hS => ?_)
  have hP := g_trP g_ss hP
  have hD := g_trD g_ss hD
  have f_mod := g_eq (x := (a_mod, .inr (8, .int (nI (1)) :: .int (nI (n)) :: x_mod_2 :: x_mod_3 :: x_mod_4 :: .int (nI (nw)) :: x_mod_6 :: x_mod_7 :: x_mod_8 :: x_mod_9 :: x_mod_10 :: x_mod_11 :: .ref a_mlc :: x_mod_13 :: x_mod_14 :: x_mod_15 :: x_mod_16 :: x_mod_17 :: x_mod_18 :: x_mod_19 :: x_mod_20 :: x_mod_21 :: x_mod_22 :: x_mod_23 :: x_mod_24 :: x_mod_25 :: x_mod_26 :: x_mod_27 :: x_mod_28 :: x_mod_29 :: x_mod_30 :: x_mod_31 :: x_mod_32 :: []))) (f0_mod)
  have f_mlc := g_ne (x := (a_mod, .inr (8, .int (nI (1)) :: .int (nI (n)) :: x_mod_2 :: x_mod_3 :: x_mod_4 :: .int (nI (nw)) :: x_mod_6 :: x_mod_7 :: x_mod_8 :: x_mod_9 :: x_mod_10 :: x_mod_11 :: .ref a_mlc :: x_mod_13 :: x_mod_14 :: x_mod_15 :: x_mod_16 :: x_mod_17 :: x_mod_18 :: x_mod_19 :: x_mod_20 :: x_mod_21 :: x_mod_22 :: x_mod_23 :: x_mod_24 :: x_mod_25 :: x_mod_26 :: x_mod_27 :: x_mod_28 :: x_mod_29 :: x_mod_30 :: x_mod_31 :: x_mod_32 :: []))) (g_kne f0_mod f0_mlc (Nat.ne_of_beq_eq_false rfl)) (f0_mlc)
  refine lv_aload_n hx hb dX7_link_95 rfl (lv_at hl 0 rfl) ?_
  refine va_get (D := D) (ci := 8) (v := .int (nI (1))) (C := RX7) (T := TX7) (N := 33) hx hb hts in_RX7 hown hE.1 (gv1 hP f_mod) 0 rfl rfl 0 (by decide) (hts (.fieldLink RX7 94 "BasketryOfficeModel" "thrown" "I") (by decide +kernel)) (fun _ h9 => h9) rfl dX7_link_96 ?_
  refine g_if_ne (tgt := 133) hx hb (by omega) dX7_link_99 (by decide) (fun c_99 => ?_) (fun c_99 => absurd c_99 (by omega))
  refine g_vret hx hb hr hlocks () dX7_link_133 hS hP hD ?_
  exact trivial

theorem in_x1_X7_link_RX7 : ∀ w ∈ wsX70, w ∈ wsX7_link := by decide +kernel
set_option maxHeartbeats 4000000 in
set_option maxRecDepth 100000 in
theorem x1_X7_link (l : Launch) {D : va_G} {y : Nat → Nat} {ws : va_W} {x_mod_2 : Value} {x_mod_3 : Value} {x_mod_4 : Value} {x_mod_6 : Value} {x_mod_7 : Value} {x_mod_8 : Value} {x_mod_9 : Value} {x_mod_10 : Value} {x_mod_11 : Value} {x_mod_13 : Value} {x_mod_14 : Value} {x_mod_15 : Value} {x_mod_16 : Value} {x_mod_17 : Value} {x_mod_18 : Value} {x_mod_19 : Value} {x_mod_20 : Value} {x_mod_21 : Value} {x_mod_22 : Value} {x_mod_23 : Value} {x_mod_24 : Value} {x_mod_25 : Value} {x_mod_26 : Value} {x_mod_27 : Value} {x_mod_28 : Value} {x_mod_29 : Value} {x_mod_30 : Value} {x_mod_31 : Value} {x_mod_32 : Value} {p_mod p_mlc a_mod a_mlc : Nat} {mlc : Nat → Nat} {i : Nat} {o ce gr : Int32} {nw n th : Nat} (f0_mod : ws[p_mod]? = some (a_mod, .inr (8, .int (nI (th)) :: .int (nI (n)) :: x_mod_2 :: x_mod_3 :: x_mod_4 :: .int (nI (nw)) :: x_mod_6 :: x_mod_7 :: x_mod_8 :: x_mod_9 :: x_mod_10 :: x_mod_11 :: .ref a_mlc :: x_mod_13 :: x_mod_14 :: x_mod_15 :: x_mod_16 :: x_mod_17 :: x_mod_18 :: x_mod_19 :: x_mod_20 :: x_mod_21 :: x_mod_22 :: x_mod_23 :: x_mod_24 :: x_mod_25 :: x_mod_26 :: x_mod_27 :: x_mod_28 :: x_mod_29 :: x_mod_30 :: x_mod_31 :: x_mod_32 :: []))) (f0_mlc : ws[p_mlc]? = some (a_mlc, eN y 1152 mlc)) (b_mlc : ∀ k, mlc k ≤ 100000) (hw : nw ≤ 24) (hn : n ≤ 12) (hi : i < n) (hbad : o < 0 ∨ nI 4 ≤ o) : gMv l yX7_link wsX7_link ({ frames := 2, cells := 0, slots := 0, locals := 43 }) D y [.ref a_mod, .int (nI (i)), .int (o), .int (ce), .int (gr)] ws (fun (_ : Unit) => True) (fun (_ : Unit) => (ws.set p_mod (a_mod, .inr (8, .int (nI (1)) :: .int (nI (n)) :: x_mod_2 :: x_mod_3 :: x_mod_4 :: .int (nI (nw)) :: x_mod_6 :: x_mod_7 :: x_mod_8 :: x_mod_9 :: x_mod_10 :: x_mod_11 :: .ref a_mlc :: x_mod_13 :: x_mod_14 :: x_mod_15 :: x_mod_16 :: x_mod_17 :: x_mod_18 :: x_mod_19 :: x_mod_20 :: x_mod_21 :: x_mod_22 :: x_mod_23 :: x_mod_24 :: x_mod_25 :: x_mod_26 :: x_mod_27 :: x_mod_28 :: x_mod_29 :: x_mod_30 :: x_mod_31 :: x_mod_32 :: [])))) := by
  refine g_met_v (cc := cX7_link) (maxL := 5) (by decide) rfl (Nat.le_of_ble_eq_true rfl) ?_
  intro p e s m below meth c A hx hb hml hr hts hown hnm hlocks hE hP hD hS hA ls hl
  have hown : s.vm.findClass RX7 = some m.cls := hown
  have hl : lv_has ls 5 [(0, .ref a_mod), (1, .int (nI (i))), (2, .int (o)), (3, .int (ce)), (4, .int (gr))] := hl
  have in_RX7 := in_x1_X7_link_RX7
  refine lv_aload_n hx hb dX7_link_0 rfl (lv_at hl 0 rfl) ?_
  refine lv_aload_n hx hb dX7_link_1 rfl (lv_at hl 0 rfl) ?_
  refine lv_iload_n hx hb dX7_link_2 rfl (lv_at hl 1 rfl) ?_
  refine gc_V_i (As := [.int (nI (i))]) (rest := [.ref a_mod]) (c_X7_isItem l f0_mod (by omega)) ⟨hx, hb, hml, hown, hts⟩ (cwV 1 hts gX7_link_X7_isItem rfl rfl rfl (by decide +kernel) ⟨Nat.le_of_ble_eq_true rfl, Nat.le_of_ble_eq_true rfl⟩) hE hP hD hS hA _ f0_mod rfl rfl rfl rfl hl.1 (Nat.le_of_ble_eq_true rfl) dX7_link_3 ⟨Nat.le_of_ble_eq_true rfl, Nat.le_of_ble_eq_true rfl⟩ (fun r_3 u_3 H locs hP hD hS q_3 => ?_)
  subst q_3
  refine g_bif_eq (tgt := 16) hx hb dX7_link_6 (by decide) (fun c_6 => absurd c_6 (by rw [decide_eq_true (rq_lt hi (by omega))]; decide)) (fun c_6 => ?_)
  refine lv_iload_n hx hb dX7_link_9 rfl (lv_at hl 2 rfl) ?_
  refine gc_S_i (As := [.int (o)]) (rest := [.ref a_mod]) (c_X7_isOutlet l) ⟨hx, hb, hml, hown, hts⟩ (va_cwS 1 hts gX7_link_X7_isOutlet rfl rfl rfl (by decide +kernel) ⟨Nat.le_of_ble_eq_true rfl, Nat.le_of_ble_eq_true rfl⟩) hE hP hD hS hA rfl rfl hl.1 (Nat.le_of_ble_eq_true rfl) dX7_link_10 ⟨Nat.le_of_ble_eq_true rfl, Nat.le_of_ble_eq_true rfl⟩ (fun r_10 u_10 H locs hP hD hS q_10 => ?_)
  subst q_10
  refine g_bif_ne (tgt := 20) hx hb dX7_link_13 (by decide) (fun c_13 => absurd c_13 (by rw [decide_eq_false (fun z => z hbad)]; decide)) (fun c_13 => ?_)
  refine lv_iconst (v := nI 1) hx hb dX7_link_16 (by decide) ?_
  refine lv_goto (tgt := 47) hx hb dX7_link_17 (by decide) ?_
  refine gv_set f0_mod rfl (by rfl) (fun k9 h9 kk9 => va_put (D := D) (ci := 8) (v := .int (nI (1))) (ty := .int) (C := RX7) (T := TX7) (N := 33) hx hb hts in_RX7 tyX7 tyX7_ok nmX7 hown hE.1 hP hD hS k9 h9 rfl 0 (by decide) (hts (.fieldLink RX7 94 "BasketryOfficeModel" "thrown" "I") (by decide +kernel)) (fun _ h9 => h9) rfl (by decide +kernel) rfl rfl (Nat.le_of_ble_eq_true rfl) dX7_link_47 kk9) (fun H locs hP hD hS => ?_)
  have f_mod := g_eq (x := (a_mod, .inr (8, .int (nI (1)) :: .int (nI (n)) :: x_mod_2 :: x_mod_3 :: x_mod_4 :: .int (nI (nw)) :: x_mod_6 :: x_mod_7 :: x_mod_8 :: x_mod_9 :: x_mod_10 :: x_mod_11 :: .ref a_mlc :: x_mod_13 :: x_mod_14 :: x_mod_15 :: x_mod_16 :: x_mod_17 :: x_mod_18 :: x_mod_19 :: x_mod_20 :: x_mod_21 :: x_mod_22 :: x_mod_23 :: x_mod_24 :: x_mod_25 :: x_mod_26 :: x_mod_27 :: x_mod_28 :: x_mod_29 :: x_mod_30 :: x_mod_31 :: x_mod_32 :: []))) (f0_mod)
  have f_mlc := g_ne (x := (a_mod, .inr (8, .int (nI (1)) :: .int (nI (n)) :: x_mod_2 :: x_mod_3 :: x_mod_4 :: .int (nI (nw)) :: x_mod_6 :: x_mod_7 :: x_mod_8 :: x_mod_9 :: x_mod_10 :: x_mod_11 :: .ref a_mlc :: x_mod_13 :: x_mod_14 :: x_mod_15 :: x_mod_16 :: x_mod_17 :: x_mod_18 :: x_mod_19 :: x_mod_20 :: x_mod_21 :: x_mod_22 :: x_mod_23 :: x_mod_24 :: x_mod_25 :: x_mod_26 :: x_mod_27 :: x_mod_28 :: x_mod_29 :: x_mod_30 :: x_mod_31 :: x_mod_32 :: []))) (g_kne f0_mod f0_mlc (Nat.ne_of_beq_eq_false rfl)) (f0_mlc)
  refine lv_aload_n hx hb dX7_link_50 rfl (lv_at hl 0 rfl) ?_
  refine lv_aload_n hx hb dX7_link_51 rfl (lv_at hl 0 rfl) ?_
  refine va_get (D := D) (ci := 8) (v := .int (nI (1))) (C := RX7) (T := TX7) (N := 33) hx hb hts in_RX7 hown hE.1 (gv1 hP f_mod) 0 rfl rfl 0 (by decide) (hts (.fieldLink RX7 94 "BasketryOfficeModel" "thrown" "I") (by decide +kernel)) (fun _ h9 => h9) rfl dX7_link_52 ?_
  refine g_if_ne (tgt := 88) hx hb (by omega) dX7_link_55 (by decide) (fun c_55 => ?_) (fun c_55 => absurd c_55 (by omega))
  refine lv_aload_n hx hb dX7_link_88 rfl (lv_at hl 0 rfl) ?_
  refine va_get (D := D) (ci := 8) (v := .int (nI (1))) (C := RX7) (T := TX7) (N := 33) hx hb hts in_RX7 hown hE.1 (gv1 hP f_mod) 0 rfl rfl 0 (by decide) (hts (.fieldLink RX7 94 "BasketryOfficeModel" "thrown" "I") (by decide +kernel)) (fun _ h9 => h9) rfl dX7_link_89 ?_
  refine gv_set f_mod rfl (by rfl) (fun k9 h9 kk9 => va_put (D := D) (ci := 8) (v := .int (nI (1))) (ty := .int) (C := RX7) (T := TX7) (N := 33) hx hb hts in_RX7 tyX7 tyX7_ok nmX7 hown hE.1 hP hD hS k9 h9 rfl 0 (by decide) (hts (.fieldLink RX7 94 "BasketryOfficeModel" "thrown" "I") (by decide +kernel)) (fun _ h9 => h9) rfl (by decide +kernel) rfl rfl (Nat.le_of_ble_eq_true rfl) dX7_link_92 kk9) (fun H locs hP hD hS => ?_)
  have hP := g_trP g_ss hP
  have hD := g_trD g_ss hD
  have f_mod := g_eq (x := (a_mod, .inr (8, .int (nI (1)) :: .int (nI (n)) :: x_mod_2 :: x_mod_3 :: x_mod_4 :: .int (nI (nw)) :: x_mod_6 :: x_mod_7 :: x_mod_8 :: x_mod_9 :: x_mod_10 :: x_mod_11 :: .ref a_mlc :: x_mod_13 :: x_mod_14 :: x_mod_15 :: x_mod_16 :: x_mod_17 :: x_mod_18 :: x_mod_19 :: x_mod_20 :: x_mod_21 :: x_mod_22 :: x_mod_23 :: x_mod_24 :: x_mod_25 :: x_mod_26 :: x_mod_27 :: x_mod_28 :: x_mod_29 :: x_mod_30 :: x_mod_31 :: x_mod_32 :: []))) (f0_mod)
  have f_mlc := g_ne (x := (a_mod, .inr (8, .int (nI (1)) :: .int (nI (n)) :: x_mod_2 :: x_mod_3 :: x_mod_4 :: .int (nI (nw)) :: x_mod_6 :: x_mod_7 :: x_mod_8 :: x_mod_9 :: x_mod_10 :: x_mod_11 :: .ref a_mlc :: x_mod_13 :: x_mod_14 :: x_mod_15 :: x_mod_16 :: x_mod_17 :: x_mod_18 :: x_mod_19 :: x_mod_20 :: x_mod_21 :: x_mod_22 :: x_mod_23 :: x_mod_24 :: x_mod_25 :: x_mod_26 :: x_mod_27 :: x_mod_28 :: x_mod_29 :: x_mod_30 :: x_mod_31 :: x_mod_32 :: []))) (g_kne f0_mod f0_mlc (Nat.ne_of_beq_eq_false rfl)) (f0_mlc)
  refine lv_aload_n hx hb dX7_link_95 rfl (lv_at hl 0 rfl) ?_
  refine va_get (D := D) (ci := 8) (v := .int (nI (1))) (C := RX7) (T := TX7) (N := 33) hx hb hts in_RX7 hown hE.1 (gv1 hP f_mod) 0 rfl rfl 0 (by decide) (hts (.fieldLink RX7 94 "BasketryOfficeModel" "thrown" "I") (by decide +kernel)) (fun _ h9 => h9) rfl dX7_link_96 ?_
  refine g_if_ne (tgt := 133) hx hb (by omega) dX7_link_99 (by decide) (fun c_99 => ?_) (fun c_99 => absurd c_99 (by omega))
  refine g_vret hx hb hr hlocks () dX7_link_133 hS hP hD ?_
  exact trivial

theorem in_x2_X7_link_RX7 : ∀ w ∈ wsX70, w ∈ wsX7_link := by decide +kernel
set_option maxHeartbeats 4000000 in
set_option maxRecDepth 100000 in
theorem x2_X7_link (l : Launch) {D : va_G} {y : Nat → Nat} {ws : va_W} {x_mod_2 : Value} {x_mod_3 : Value} {x_mod_4 : Value} {x_mod_6 : Value} {x_mod_7 : Value} {x_mod_8 : Value} {x_mod_9 : Value} {x_mod_10 : Value} {x_mod_11 : Value} {x_mod_13 : Value} {x_mod_14 : Value} {x_mod_15 : Value} {x_mod_16 : Value} {x_mod_17 : Value} {x_mod_18 : Value} {x_mod_19 : Value} {x_mod_20 : Value} {x_mod_21 : Value} {x_mod_22 : Value} {x_mod_23 : Value} {x_mod_24 : Value} {x_mod_25 : Value} {x_mod_26 : Value} {x_mod_27 : Value} {x_mod_28 : Value} {x_mod_29 : Value} {x_mod_30 : Value} {x_mod_31 : Value} {x_mod_32 : Value} {p_mod p_mlc a_mod a_mlc : Nat} {mlc : Nat → Nat} {i o : Nat} {ce gr : Int32} {nw n th : Nat} (f0_mod : ws[p_mod]? = some (a_mod, .inr (8, .int (nI (th)) :: .int (nI (n)) :: x_mod_2 :: x_mod_3 :: x_mod_4 :: .int (nI (nw)) :: x_mod_6 :: x_mod_7 :: x_mod_8 :: x_mod_9 :: x_mod_10 :: x_mod_11 :: .ref a_mlc :: x_mod_13 :: x_mod_14 :: x_mod_15 :: x_mod_16 :: x_mod_17 :: x_mod_18 :: x_mod_19 :: x_mod_20 :: x_mod_21 :: x_mod_22 :: x_mod_23 :: x_mod_24 :: x_mod_25 :: x_mod_26 :: x_mod_27 :: x_mod_28 :: x_mod_29 :: x_mod_30 :: x_mod_31 :: x_mod_32 :: []))) (f0_mlc : ws[p_mlc]? = some (a_mlc, eN y 1152 mlc)) (b_mlc : ∀ k, mlc k ≤ 100000) (hw : nw ≤ 24) (hn : n ≤ 12) (hi : i < n) (ho : o < 4) (hbad : ce < nI 1 ∨ nI 100000 < ce) : gMv l yX7_link wsX7_link ({ frames := 2, cells := 0, slots := 0, locals := 43 }) D y [.ref a_mod, .int (nI (i)), .int (nI (o)), .int (ce), .int (gr)] ws (fun (_ : Unit) => True) (fun (_ : Unit) => (ws.set p_mod (a_mod, .inr (8, .int (nI (2)) :: .int (nI (n)) :: x_mod_2 :: x_mod_3 :: x_mod_4 :: .int (nI (nw)) :: x_mod_6 :: x_mod_7 :: x_mod_8 :: x_mod_9 :: x_mod_10 :: x_mod_11 :: .ref a_mlc :: x_mod_13 :: x_mod_14 :: x_mod_15 :: x_mod_16 :: x_mod_17 :: x_mod_18 :: x_mod_19 :: x_mod_20 :: x_mod_21 :: x_mod_22 :: x_mod_23 :: x_mod_24 :: x_mod_25 :: x_mod_26 :: x_mod_27 :: x_mod_28 :: x_mod_29 :: x_mod_30 :: x_mod_31 :: x_mod_32 :: [])))) := by
  refine g_met_v (cc := cX7_link) (maxL := 5) (by decide) rfl (Nat.le_of_ble_eq_true rfl) ?_
  intro p e s m below meth c A hx hb hml hr hts hown hnm hlocks hE hP hD hS hA ls hl
  have hown : s.vm.findClass RX7 = some m.cls := hown
  have hl : lv_has ls 5 [(0, .ref a_mod), (1, .int (nI (i))), (2, .int (nI (o))), (3, .int (ce)), (4, .int (gr))] := hl
  have in_RX7 := in_x2_X7_link_RX7
  refine lv_aload_n hx hb dX7_link_0 rfl (lv_at hl 0 rfl) ?_
  refine lv_aload_n hx hb dX7_link_1 rfl (lv_at hl 0 rfl) ?_
  refine lv_iload_n hx hb dX7_link_2 rfl (lv_at hl 1 rfl) ?_
  refine gc_V_i (As := [.int (nI (i))]) (rest := [.ref a_mod]) (c_X7_isItem l f0_mod (by omega)) ⟨hx, hb, hml, hown, hts⟩ (cwV 1 hts gX7_link_X7_isItem rfl rfl rfl (by decide +kernel) ⟨Nat.le_of_ble_eq_true rfl, Nat.le_of_ble_eq_true rfl⟩) hE hP hD hS hA _ f0_mod rfl rfl rfl rfl hl.1 (Nat.le_of_ble_eq_true rfl) dX7_link_3 ⟨Nat.le_of_ble_eq_true rfl, Nat.le_of_ble_eq_true rfl⟩ (fun r_3 u_3 H locs hP hD hS q_3 => ?_)
  subst q_3
  refine g_bif_eq (tgt := 16) hx hb dX7_link_6 (by decide) (fun c_6 => absurd c_6 (by rw [decide_eq_true (rq_lt hi (by omega))]; decide)) (fun c_6 => ?_)
  refine lv_iload_n hx hb dX7_link_9 rfl (lv_at hl 2 rfl) ?_
  refine gc_S_i (As := [.int (nI (o))]) (rest := [.ref a_mod]) (c_X7_isOutlet l) ⟨hx, hb, hml, hown, hts⟩ (va_cwS 1 hts gX7_link_X7_isOutlet rfl rfl rfl (by decide +kernel) ⟨Nat.le_of_ble_eq_true rfl, Nat.le_of_ble_eq_true rfl⟩) hE hP hD hS hA rfl rfl hl.1 (Nat.le_of_ble_eq_true rfl) dX7_link_10 ⟨Nat.le_of_ble_eq_true rfl, Nat.le_of_ble_eq_true rfl⟩ (fun r_10 u_10 H locs hP hD hS q_10 => ?_)
  subst q_10
  refine g_bif_ne (tgt := 20) hx hb dX7_link_13 (by decide) (fun c_13 => ?_) (fun c_13 => absurd c_13 (by rw [decide_eq_true (rq_lt ho (by omega))]; decide))
  refine lv_iload_n hx hb dX7_link_20 rfl (lv_at hl 3 rfl) ?_
  refine lv_iconst (v := nI 1) hx hb dX7_link_21 (by decide) ?_
  refine lv_ldc (v := 100000) hx hb hown (hts (.constant RX7 118 (100000)) (by decide +kernel)) dX7_link_22 ?_
  rw [show (100000 : Int32) = nI 100000 from by decide]
  refine gc_S_i (As := [.int (ce), .int (nI (1)), .int (nI (100000))]) (rest := [.ref a_mod]) (c_X7_in l) ⟨hx, hb, hml, hown, hts⟩ (va_cwS 3 hts gX7_link_X7_in rfl rfl rfl (by decide +kernel) ⟨Nat.le_of_ble_eq_true rfl, Nat.le_of_ble_eq_true rfl⟩) hE hP hD hS hA rfl rfl hl.1 (Nat.le_of_ble_eq_true rfl) dX7_link_24 ⟨Nat.le_of_ble_eq_true rfl, Nat.le_of_ble_eq_true rfl⟩ (fun r_24 u_24 H locs hP hD hS q_24 => ?_)
  subst q_24
  refine g_bif_eq (tgt := 42) hx hb dX7_link_27 (by decide) (fun c_27 => ?_) (fun c_27 => absurd c_27 (by rw [decide_eq_false (fun z => z hbad)]; decide))
  refine lv_iconst (v := nI 2) hx hb dX7_link_42 (by decide) ?_
  refine lv_goto (tgt := 47) hx hb dX7_link_43 (by decide) ?_
  refine gv_set f0_mod rfl (by rfl) (fun k9 h9 kk9 => va_put (D := D) (ci := 8) (v := .int (nI (2))) (ty := .int) (C := RX7) (T := TX7) (N := 33) hx hb hts in_RX7 tyX7 tyX7_ok nmX7 hown hE.1 hP hD hS k9 h9 rfl 0 (by decide) (hts (.fieldLink RX7 94 "BasketryOfficeModel" "thrown" "I") (by decide +kernel)) (fun _ h9 => h9) rfl (by decide +kernel) rfl rfl (Nat.le_of_ble_eq_true rfl) dX7_link_47 kk9) (fun H locs hP hD hS => ?_)
  have f_mod := g_eq (x := (a_mod, .inr (8, .int (nI (2)) :: .int (nI (n)) :: x_mod_2 :: x_mod_3 :: x_mod_4 :: .int (nI (nw)) :: x_mod_6 :: x_mod_7 :: x_mod_8 :: x_mod_9 :: x_mod_10 :: x_mod_11 :: .ref a_mlc :: x_mod_13 :: x_mod_14 :: x_mod_15 :: x_mod_16 :: x_mod_17 :: x_mod_18 :: x_mod_19 :: x_mod_20 :: x_mod_21 :: x_mod_22 :: x_mod_23 :: x_mod_24 :: x_mod_25 :: x_mod_26 :: x_mod_27 :: x_mod_28 :: x_mod_29 :: x_mod_30 :: x_mod_31 :: x_mod_32 :: []))) (f0_mod)
  have f_mlc := g_ne (x := (a_mod, .inr (8, .int (nI (2)) :: .int (nI (n)) :: x_mod_2 :: x_mod_3 :: x_mod_4 :: .int (nI (nw)) :: x_mod_6 :: x_mod_7 :: x_mod_8 :: x_mod_9 :: x_mod_10 :: x_mod_11 :: .ref a_mlc :: x_mod_13 :: x_mod_14 :: x_mod_15 :: x_mod_16 :: x_mod_17 :: x_mod_18 :: x_mod_19 :: x_mod_20 :: x_mod_21 :: x_mod_22 :: x_mod_23 :: x_mod_24 :: x_mod_25 :: x_mod_26 :: x_mod_27 :: x_mod_28 :: x_mod_29 :: x_mod_30 :: x_mod_31 :: x_mod_32 :: []))) (g_kne f0_mod f0_mlc (Nat.ne_of_beq_eq_false rfl)) (f0_mlc)
  refine lv_aload_n hx hb dX7_link_50 rfl (lv_at hl 0 rfl) ?_
  refine lv_aload_n hx hb dX7_link_51 rfl (lv_at hl 0 rfl) ?_
  refine va_get (D := D) (ci := 8) (v := .int (nI (2))) (C := RX7) (T := TX7) (N := 33) hx hb hts in_RX7 hown hE.1 (gv1 hP f_mod) 0 rfl rfl 0 (by decide) (hts (.fieldLink RX7 94 "BasketryOfficeModel" "thrown" "I") (by decide +kernel)) (fun _ h9 => h9) rfl dX7_link_52 ?_
  refine g_if_ne (tgt := 88) hx hb (by omega) dX7_link_55 (by decide) (fun c_55 => ?_) (fun c_55 => absurd c_55 (by omega))
  refine lv_aload_n hx hb dX7_link_88 rfl (lv_at hl 0 rfl) ?_
  refine va_get (D := D) (ci := 8) (v := .int (nI (2))) (C := RX7) (T := TX7) (N := 33) hx hb hts in_RX7 hown hE.1 (gv1 hP f_mod) 0 rfl rfl 0 (by decide) (hts (.fieldLink RX7 94 "BasketryOfficeModel" "thrown" "I") (by decide +kernel)) (fun _ h9 => h9) rfl dX7_link_89 ?_
  refine gv_set f_mod rfl (by rfl) (fun k9 h9 kk9 => va_put (D := D) (ci := 8) (v := .int (nI (2))) (ty := .int) (C := RX7) (T := TX7) (N := 33) hx hb hts in_RX7 tyX7 tyX7_ok nmX7 hown hE.1 hP hD hS k9 h9 rfl 0 (by decide) (hts (.fieldLink RX7 94 "BasketryOfficeModel" "thrown" "I") (by decide +kernel)) (fun _ h9 => h9) rfl (by decide +kernel) rfl rfl (Nat.le_of_ble_eq_true rfl) dX7_link_92 kk9) (fun H locs hP hD hS => ?_)
  have hP := g_trP g_ss hP
  have hD := g_trD g_ss hD
  have f_mod := g_eq (x := (a_mod, .inr (8, .int (nI (2)) :: .int (nI (n)) :: x_mod_2 :: x_mod_3 :: x_mod_4 :: .int (nI (nw)) :: x_mod_6 :: x_mod_7 :: x_mod_8 :: x_mod_9 :: x_mod_10 :: x_mod_11 :: .ref a_mlc :: x_mod_13 :: x_mod_14 :: x_mod_15 :: x_mod_16 :: x_mod_17 :: x_mod_18 :: x_mod_19 :: x_mod_20 :: x_mod_21 :: x_mod_22 :: x_mod_23 :: x_mod_24 :: x_mod_25 :: x_mod_26 :: x_mod_27 :: x_mod_28 :: x_mod_29 :: x_mod_30 :: x_mod_31 :: x_mod_32 :: []))) (f0_mod)
  have f_mlc := g_ne (x := (a_mod, .inr (8, .int (nI (2)) :: .int (nI (n)) :: x_mod_2 :: x_mod_3 :: x_mod_4 :: .int (nI (nw)) :: x_mod_6 :: x_mod_7 :: x_mod_8 :: x_mod_9 :: x_mod_10 :: x_mod_11 :: .ref a_mlc :: x_mod_13 :: x_mod_14 :: x_mod_15 :: x_mod_16 :: x_mod_17 :: x_mod_18 :: x_mod_19 :: x_mod_20 :: x_mod_21 :: x_mod_22 :: x_mod_23 :: x_mod_24 :: x_mod_25 :: x_mod_26 :: x_mod_27 :: x_mod_28 :: x_mod_29 :: x_mod_30 :: x_mod_31 :: x_mod_32 :: []))) (g_kne f0_mod f0_mlc (Nat.ne_of_beq_eq_false rfl)) (f0_mlc)
  refine lv_aload_n hx hb dX7_link_95 rfl (lv_at hl 0 rfl) ?_
  refine va_get (D := D) (ci := 8) (v := .int (nI (2))) (C := RX7) (T := TX7) (N := 33) hx hb hts in_RX7 hown hE.1 (gv1 hP f_mod) 0 rfl rfl 0 (by decide) (hts (.fieldLink RX7 94 "BasketryOfficeModel" "thrown" "I") (by decide +kernel)) (fun _ h9 => h9) rfl dX7_link_96 ?_
  refine g_if_ne (tgt := 133) hx hb (by omega) dX7_link_99 (by decide) (fun c_99 => ?_) (fun c_99 => absurd c_99 (by omega))
  refine g_vret hx hb hr hlocks () dX7_link_133 hS hP hD ?_
  exact trivial

theorem in_x3_X7_link_RX7 : ∀ w ∈ wsX70, w ∈ wsX7_link := by decide +kernel
set_option maxHeartbeats 4000000 in
set_option maxRecDepth 100000 in
theorem x3_X7_link (l : Launch) {D : va_G} {y : Nat → Nat} {ws : va_W} {x_mod_2 : Value} {x_mod_3 : Value} {x_mod_4 : Value} {x_mod_6 : Value} {x_mod_7 : Value} {x_mod_8 : Value} {x_mod_9 : Value} {x_mod_10 : Value} {x_mod_11 : Value} {x_mod_13 : Value} {x_mod_14 : Value} {x_mod_15 : Value} {x_mod_16 : Value} {x_mod_17 : Value} {x_mod_18 : Value} {x_mod_19 : Value} {x_mod_20 : Value} {x_mod_21 : Value} {x_mod_22 : Value} {x_mod_23 : Value} {x_mod_24 : Value} {x_mod_25 : Value} {x_mod_26 : Value} {x_mod_27 : Value} {x_mod_28 : Value} {x_mod_29 : Value} {x_mod_30 : Value} {x_mod_31 : Value} {x_mod_32 : Value} {p_mod p_mlc a_mod a_mlc : Nat} {mlc : Nat → Nat} {i o ce : Nat} {gr : Int32} {nw n th : Nat} (f0_mod : ws[p_mod]? = some (a_mod, .inr (8, .int (nI (th)) :: .int (nI (n)) :: x_mod_2 :: x_mod_3 :: x_mod_4 :: .int (nI (nw)) :: x_mod_6 :: x_mod_7 :: x_mod_8 :: x_mod_9 :: x_mod_10 :: x_mod_11 :: .ref a_mlc :: x_mod_13 :: x_mod_14 :: x_mod_15 :: x_mod_16 :: x_mod_17 :: x_mod_18 :: x_mod_19 :: x_mod_20 :: x_mod_21 :: x_mod_22 :: x_mod_23 :: x_mod_24 :: x_mod_25 :: x_mod_26 :: x_mod_27 :: x_mod_28 :: x_mod_29 :: x_mod_30 :: x_mod_31 :: x_mod_32 :: []))) (f0_mlc : ws[p_mlc]? = some (a_mlc, eN y 1152 mlc)) (b_mlc : ∀ k, mlc k ≤ 100000) (hw : nw ≤ 24) (hn : n ≤ 12) (hi : i < n) (ho : o < 4) (hce : 1 ≤ ce) (kce : ce ≤ 100000) (hbad : gr < nI 1 ∨ nI 10000 < gr) : gMv l yX7_link wsX7_link ({ frames := 2, cells := 0, slots := 0, locals := 43 }) D y [.ref a_mod, .int (nI (i)), .int (nI (o)), .int (nI (ce)), .int (gr)] ws (fun (_ : Unit) => True) (fun (_ : Unit) => (ws.set p_mod (a_mod, .inr (8, .int (nI (2)) :: .int (nI (n)) :: x_mod_2 :: x_mod_3 :: x_mod_4 :: .int (nI (nw)) :: x_mod_6 :: x_mod_7 :: x_mod_8 :: x_mod_9 :: x_mod_10 :: x_mod_11 :: .ref a_mlc :: x_mod_13 :: x_mod_14 :: x_mod_15 :: x_mod_16 :: x_mod_17 :: x_mod_18 :: x_mod_19 :: x_mod_20 :: x_mod_21 :: x_mod_22 :: x_mod_23 :: x_mod_24 :: x_mod_25 :: x_mod_26 :: x_mod_27 :: x_mod_28 :: x_mod_29 :: x_mod_30 :: x_mod_31 :: x_mod_32 :: [])))) := by
  refine g_met_v (cc := cX7_link) (maxL := 5) (by decide) rfl (Nat.le_of_ble_eq_true rfl) ?_
  intro p e s m below meth c A hx hb hml hr hts hown hnm hlocks hE hP hD hS hA ls hl
  have hown : s.vm.findClass RX7 = some m.cls := hown
  have hl : lv_has ls 5 [(0, .ref a_mod), (1, .int (nI (i))), (2, .int (nI (o))), (3, .int (nI (ce))), (4, .int (gr))] := hl
  have in_RX7 := in_x3_X7_link_RX7
  refine lv_aload_n hx hb dX7_link_0 rfl (lv_at hl 0 rfl) ?_
  refine lv_aload_n hx hb dX7_link_1 rfl (lv_at hl 0 rfl) ?_
  refine lv_iload_n hx hb dX7_link_2 rfl (lv_at hl 1 rfl) ?_
  refine gc_V_i (As := [.int (nI (i))]) (rest := [.ref a_mod]) (c_X7_isItem l f0_mod (by omega)) ⟨hx, hb, hml, hown, hts⟩ (cwV 1 hts gX7_link_X7_isItem rfl rfl rfl (by decide +kernel) ⟨Nat.le_of_ble_eq_true rfl, Nat.le_of_ble_eq_true rfl⟩) hE hP hD hS hA _ f0_mod rfl rfl rfl rfl hl.1 (Nat.le_of_ble_eq_true rfl) dX7_link_3 ⟨Nat.le_of_ble_eq_true rfl, Nat.le_of_ble_eq_true rfl⟩ (fun r_3 u_3 H locs hP hD hS q_3 => ?_)
  subst q_3
  refine g_bif_eq (tgt := 16) hx hb dX7_link_6 (by decide) (fun c_6 => absurd c_6 (by rw [decide_eq_true (rq_lt hi (by omega))]; decide)) (fun c_6 => ?_)
  refine lv_iload_n hx hb dX7_link_9 rfl (lv_at hl 2 rfl) ?_
  refine gc_S_i (As := [.int (nI (o))]) (rest := [.ref a_mod]) (c_X7_isOutlet l) ⟨hx, hb, hml, hown, hts⟩ (va_cwS 1 hts gX7_link_X7_isOutlet rfl rfl rfl (by decide +kernel) ⟨Nat.le_of_ble_eq_true rfl, Nat.le_of_ble_eq_true rfl⟩) hE hP hD hS hA rfl rfl hl.1 (Nat.le_of_ble_eq_true rfl) dX7_link_10 ⟨Nat.le_of_ble_eq_true rfl, Nat.le_of_ble_eq_true rfl⟩ (fun r_10 u_10 H locs hP hD hS q_10 => ?_)
  subst q_10
  refine g_bif_ne (tgt := 20) hx hb dX7_link_13 (by decide) (fun c_13 => ?_) (fun c_13 => absurd c_13 (by rw [decide_eq_true (rq_lt ho (by omega))]; decide))
  refine lv_iload_n hx hb dX7_link_20 rfl (lv_at hl 3 rfl) ?_
  refine lv_iconst (v := nI 1) hx hb dX7_link_21 (by decide) ?_
  refine lv_ldc (v := 100000) hx hb hown (hts (.constant RX7 118 (100000)) (by decide +kernel)) dX7_link_22 ?_
  rw [show (100000 : Int32) = nI 100000 from by decide]
  refine gc_S_i (As := [.int (nI (ce)), .int (nI (1)), .int (nI (100000))]) (rest := [.ref a_mod]) (c_X7_in l) ⟨hx, hb, hml, hown, hts⟩ (va_cwS 3 hts gX7_link_X7_in rfl rfl rfl (by decide +kernel) ⟨Nat.le_of_ble_eq_true rfl, Nat.le_of_ble_eq_true rfl⟩) hE hP hD hS hA rfl rfl hl.1 (Nat.le_of_ble_eq_true rfl) dX7_link_24 ⟨Nat.le_of_ble_eq_true rfl, Nat.le_of_ble_eq_true rfl⟩ (fun r_24 u_24 H locs hP hD hS q_24 => ?_)
  subst q_24
  refine g_bif_eq (tgt := 42) hx hb dX7_link_27 (by decide) (fun c_27 => absurd c_27 (by rw [decide_eq_true (rq_rg hce kce (by decide))]; decide)) (fun c_27 => ?_)
  refine lv_iload hx hb dX7_link_30 (lv_at hl 4 rfl) ?_
  refine lv_iconst (v := nI 1) hx hb dX7_link_32 (by decide) ?_
  refine lv_sipush (v := nI 10000) hx hb dX7_link_33 (by decide) ?_
  refine gc_S_i (As := [.int (gr), .int (nI (1)), .int (nI (10000))]) (rest := [.ref a_mod]) (c_X7_in l) ⟨hx, hb, hml, hown, hts⟩ (va_cwS 3 hts gX7_link_X7_in rfl rfl rfl (by decide +kernel) ⟨Nat.le_of_ble_eq_true rfl, Nat.le_of_ble_eq_true rfl⟩) hE hP hD hS hA rfl rfl hl.1 (Nat.le_of_ble_eq_true rfl) dX7_link_36 ⟨Nat.le_of_ble_eq_true rfl, Nat.le_of_ble_eq_true rfl⟩ (fun r_36 u_36 H locs hP hD hS q_36 => ?_)
  subst q_36
  refine g_bif_ne (tgt := 46) hx hb dX7_link_39 (by decide) (fun c_39 => absurd c_39 (by rw [decide_eq_false (fun z => z hbad)]; decide)) (fun c_39 => ?_)
  refine lv_iconst (v := nI 2) hx hb dX7_link_42 (by decide) ?_
  refine lv_goto (tgt := 47) hx hb dX7_link_43 (by decide) ?_
  refine gv_set f0_mod rfl (by rfl) (fun k9 h9 kk9 => va_put (D := D) (ci := 8) (v := .int (nI (2))) (ty := .int) (C := RX7) (T := TX7) (N := 33) hx hb hts in_RX7 tyX7 tyX7_ok nmX7 hown hE.1 hP hD hS k9 h9 rfl 0 (by decide) (hts (.fieldLink RX7 94 "BasketryOfficeModel" "thrown" "I") (by decide +kernel)) (fun _ h9 => h9) rfl (by decide +kernel) rfl rfl (Nat.le_of_ble_eq_true rfl) dX7_link_47 kk9) (fun H locs hP hD hS => ?_)
  have f_mod := g_eq (x := (a_mod, .inr (8, .int (nI (2)) :: .int (nI (n)) :: x_mod_2 :: x_mod_3 :: x_mod_4 :: .int (nI (nw)) :: x_mod_6 :: x_mod_7 :: x_mod_8 :: x_mod_9 :: x_mod_10 :: x_mod_11 :: .ref a_mlc :: x_mod_13 :: x_mod_14 :: x_mod_15 :: x_mod_16 :: x_mod_17 :: x_mod_18 :: x_mod_19 :: x_mod_20 :: x_mod_21 :: x_mod_22 :: x_mod_23 :: x_mod_24 :: x_mod_25 :: x_mod_26 :: x_mod_27 :: x_mod_28 :: x_mod_29 :: x_mod_30 :: x_mod_31 :: x_mod_32 :: []))) (f0_mod)
  have f_mlc := g_ne (x := (a_mod, .inr (8, .int (nI (2)) :: .int (nI (n)) :: x_mod_2 :: x_mod_3 :: x_mod_4 :: .int (nI (nw)) :: x_mod_6 :: x_mod_7 :: x_mod_8 :: x_mod_9 :: x_mod_10 :: x_mod_11 :: .ref a_mlc :: x_mod_13 :: x_mod_14 :: x_mod_15 :: x_mod_16 :: x_mod_17 :: x_mod_18 :: x_mod_19 :: x_mod_20 :: x_mod_21 :: x_mod_22 :: x_mod_23 :: x_mod_24 :: x_mod_25 :: x_mod_26 :: x_mod_27 :: x_mod_28 :: x_mod_29 :: x_mod_30 :: x_mod_31 :: x_mod_32 :: []))) (g_kne f0_mod f0_mlc (Nat.ne_of_beq_eq_false rfl)) (f0_mlc)
  refine lv_aload_n hx hb dX7_link_50 rfl (lv_at hl 0 rfl) ?_
  refine lv_aload_n hx hb dX7_link_51 rfl (lv_at hl 0 rfl) ?_
  refine va_get (D := D) (ci := 8) (v := .int (nI (2))) (C := RX7) (T := TX7) (N := 33) hx hb hts in_RX7 hown hE.1 (gv1 hP f_mod) 0 rfl rfl 0 (by decide) (hts (.fieldLink RX7 94 "BasketryOfficeModel" "thrown" "I") (by decide +kernel)) (fun _ h9 => h9) rfl dX7_link_52 ?_
  refine g_if_ne (tgt := 88) hx hb (by omega) dX7_link_55 (by decide) (fun c_55 => ?_) (fun c_55 => absurd c_55 (by omega))
  refine lv_aload_n hx hb dX7_link_88 rfl (lv_at hl 0 rfl) ?_
  refine va_get (D := D) (ci := 8) (v := .int (nI (2))) (C := RX7) (T := TX7) (N := 33) hx hb hts in_RX7 hown hE.1 (gv1 hP f_mod) 0 rfl rfl 0 (by decide) (hts (.fieldLink RX7 94 "BasketryOfficeModel" "thrown" "I") (by decide +kernel)) (fun _ h9 => h9) rfl dX7_link_89 ?_
  refine gv_set f_mod rfl (by rfl) (fun k9 h9 kk9 => va_put (D := D) (ci := 8) (v := .int (nI (2))) (ty := .int) (C := RX7) (T := TX7) (N := 33) hx hb hts in_RX7 tyX7 tyX7_ok nmX7 hown hE.1 hP hD hS k9 h9 rfl 0 (by decide) (hts (.fieldLink RX7 94 "BasketryOfficeModel" "thrown" "I") (by decide +kernel)) (fun _ h9 => h9) rfl (by decide +kernel) rfl rfl (Nat.le_of_ble_eq_true rfl) dX7_link_92 kk9) (fun H locs hP hD hS => ?_)
  have hP := g_trP g_ss hP
  have hD := g_trD g_ss hD
  have f_mod := g_eq (x := (a_mod, .inr (8, .int (nI (2)) :: .int (nI (n)) :: x_mod_2 :: x_mod_3 :: x_mod_4 :: .int (nI (nw)) :: x_mod_6 :: x_mod_7 :: x_mod_8 :: x_mod_9 :: x_mod_10 :: x_mod_11 :: .ref a_mlc :: x_mod_13 :: x_mod_14 :: x_mod_15 :: x_mod_16 :: x_mod_17 :: x_mod_18 :: x_mod_19 :: x_mod_20 :: x_mod_21 :: x_mod_22 :: x_mod_23 :: x_mod_24 :: x_mod_25 :: x_mod_26 :: x_mod_27 :: x_mod_28 :: x_mod_29 :: x_mod_30 :: x_mod_31 :: x_mod_32 :: []))) (f0_mod)
  have f_mlc := g_ne (x := (a_mod, .inr (8, .int (nI (2)) :: .int (nI (n)) :: x_mod_2 :: x_mod_3 :: x_mod_4 :: .int (nI (nw)) :: x_mod_6 :: x_mod_7 :: x_mod_8 :: x_mod_9 :: x_mod_10 :: x_mod_11 :: .ref a_mlc :: x_mod_13 :: x_mod_14 :: x_mod_15 :: x_mod_16 :: x_mod_17 :: x_mod_18 :: x_mod_19 :: x_mod_20 :: x_mod_21 :: x_mod_22 :: x_mod_23 :: x_mod_24 :: x_mod_25 :: x_mod_26 :: x_mod_27 :: x_mod_28 :: x_mod_29 :: x_mod_30 :: x_mod_31 :: x_mod_32 :: []))) (g_kne f0_mod f0_mlc (Nat.ne_of_beq_eq_false rfl)) (f0_mlc)
  refine lv_aload_n hx hb dX7_link_95 rfl (lv_at hl 0 rfl) ?_
  refine va_get (D := D) (ci := 8) (v := .int (nI (2))) (C := RX7) (T := TX7) (N := 33) hx hb hts in_RX7 hown hE.1 (gv1 hP f_mod) 0 rfl rfl 0 (by decide) (hts (.fieldLink RX7 94 "BasketryOfficeModel" "thrown" "I") (by decide +kernel)) (fun _ h9 => h9) rfl dX7_link_96 ?_
  refine g_if_ne (tgt := 133) hx hb (by omega) dX7_link_99 (by decide) (fun c_99 => ?_) (fun c_99 => absurd c_99 (by omega))
  refine g_vret hx hb hr hlocks () dX7_link_133 hS hP hD ?_
  exact trivial

theorem in_x4_X7_link_RX7 : ∀ w ∈ wsX70, w ∈ wsX7_link := by decide +kernel
set_option maxHeartbeats 4000000 in
set_option maxRecDepth 100000 in
theorem x4_X7_link (l : Launch) {D : va_G} {y : Nat → Nat} {ws : va_W} {x_mod_2 : Value} {x_mod_3 : Value} {x_mod_4 : Value} {x_mod_6 : Value} {x_mod_7 : Value} {x_mod_8 : Value} {x_mod_9 : Value} {x_mod_10 : Value} {x_mod_11 : Value} {x_mod_13 : Value} {x_mod_14 : Value} {x_mod_15 : Value} {x_mod_16 : Value} {x_mod_17 : Value} {x_mod_18 : Value} {x_mod_19 : Value} {x_mod_20 : Value} {x_mod_21 : Value} {x_mod_22 : Value} {x_mod_23 : Value} {x_mod_24 : Value} {x_mod_25 : Value} {x_mod_26 : Value} {x_mod_27 : Value} {x_mod_28 : Value} {x_mod_29 : Value} {x_mod_30 : Value} {x_mod_31 : Value} {x_mod_32 : Value} {p_mod p_mlc a_mod a_mlc : Nat} {mlc : Nat → Nat} {i o ce gr : Nat} {nw n th : Nat} (f0_mod : ws[p_mod]? = some (a_mod, .inr (8, .int (nI (th)) :: .int (nI (n)) :: x_mod_2 :: x_mod_3 :: x_mod_4 :: .int (nI (nw)) :: x_mod_6 :: x_mod_7 :: x_mod_8 :: x_mod_9 :: x_mod_10 :: x_mod_11 :: .ref a_mlc :: x_mod_13 :: x_mod_14 :: x_mod_15 :: x_mod_16 :: x_mod_17 :: x_mod_18 :: x_mod_19 :: x_mod_20 :: x_mod_21 :: x_mod_22 :: x_mod_23 :: x_mod_24 :: x_mod_25 :: x_mod_26 :: x_mod_27 :: x_mod_28 :: x_mod_29 :: x_mod_30 :: x_mod_31 :: x_mod_32 :: []))) (f0_mlc : ws[p_mlc]? = some (a_mlc, eN y 1152 mlc)) (b_mlc : ∀ k, mlc k ≤ 100000) (hw : nw ≤ 24) (hn : n ≤ 12) (hi : i < n) (ho : o < 4) (hce : 1 ≤ ce) (kce : ce ≤ 100000) (hgr : 1 ≤ gr) (kgr : gr ≤ 10000) (hbad : 24 ≤ nw) : gMv l yX7_link wsX7_link ({ frames := 2, cells := 0, slots := 0, locals := 43 }) D y [.ref a_mod, .int (nI (i)), .int (nI (o)), .int (nI (ce)), .int (nI (gr))] ws (fun (_ : Unit) => True) (fun (_ : Unit) => (ws.set p_mod (a_mod, .inr (8, .int (nI (3)) :: .int (nI (n)) :: x_mod_2 :: x_mod_3 :: x_mod_4 :: .int (nI (nw)) :: x_mod_6 :: x_mod_7 :: x_mod_8 :: x_mod_9 :: x_mod_10 :: x_mod_11 :: .ref a_mlc :: x_mod_13 :: x_mod_14 :: x_mod_15 :: x_mod_16 :: x_mod_17 :: x_mod_18 :: x_mod_19 :: x_mod_20 :: x_mod_21 :: x_mod_22 :: x_mod_23 :: x_mod_24 :: x_mod_25 :: x_mod_26 :: x_mod_27 :: x_mod_28 :: x_mod_29 :: x_mod_30 :: x_mod_31 :: x_mod_32 :: [])))) := by
  refine g_met_v (cc := cX7_link) (maxL := 5) (by decide) rfl (Nat.le_of_ble_eq_true rfl) ?_
  intro p e s m below meth c A hx hb hml hr hts hown hnm hlocks hE hP hD hS hA ls hl
  have hown : s.vm.findClass RX7 = some m.cls := hown
  have hl : lv_has ls 5 [(0, .ref a_mod), (1, .int (nI (i))), (2, .int (nI (o))), (3, .int (nI (ce))), (4, .int (nI (gr)))] := hl
  have in_RX7 := in_x4_X7_link_RX7
  refine lv_aload_n hx hb dX7_link_0 rfl (lv_at hl 0 rfl) ?_
  refine lv_aload_n hx hb dX7_link_1 rfl (lv_at hl 0 rfl) ?_
  refine lv_iload_n hx hb dX7_link_2 rfl (lv_at hl 1 rfl) ?_
  refine gc_V_i (As := [.int (nI (i))]) (rest := [.ref a_mod]) (c_X7_isItem l f0_mod (by omega)) ⟨hx, hb, hml, hown, hts⟩ (cwV 1 hts gX7_link_X7_isItem rfl rfl rfl (by decide +kernel) ⟨Nat.le_of_ble_eq_true rfl, Nat.le_of_ble_eq_true rfl⟩) hE hP hD hS hA _ f0_mod rfl rfl rfl rfl hl.1 (Nat.le_of_ble_eq_true rfl) dX7_link_3 ⟨Nat.le_of_ble_eq_true rfl, Nat.le_of_ble_eq_true rfl⟩ (fun r_3 u_3 H locs hP hD hS q_3 => ?_)
  subst q_3
  refine g_bif_eq (tgt := 16) hx hb dX7_link_6 (by decide) (fun c_6 => absurd c_6 (by rw [decide_eq_true (rq_lt hi (by omega))]; decide)) (fun c_6 => ?_)
  refine lv_iload_n hx hb dX7_link_9 rfl (lv_at hl 2 rfl) ?_
  refine gc_S_i (As := [.int (nI (o))]) (rest := [.ref a_mod]) (c_X7_isOutlet l) ⟨hx, hb, hml, hown, hts⟩ (va_cwS 1 hts gX7_link_X7_isOutlet rfl rfl rfl (by decide +kernel) ⟨Nat.le_of_ble_eq_true rfl, Nat.le_of_ble_eq_true rfl⟩) hE hP hD hS hA rfl rfl hl.1 (Nat.le_of_ble_eq_true rfl) dX7_link_10 ⟨Nat.le_of_ble_eq_true rfl, Nat.le_of_ble_eq_true rfl⟩ (fun r_10 u_10 H locs hP hD hS q_10 => ?_)
  subst q_10
  refine g_bif_ne (tgt := 20) hx hb dX7_link_13 (by decide) (fun c_13 => ?_) (fun c_13 => absurd c_13 (by rw [decide_eq_true (rq_lt ho (by omega))]; decide))
  refine lv_iload_n hx hb dX7_link_20 rfl (lv_at hl 3 rfl) ?_
  refine lv_iconst (v := nI 1) hx hb dX7_link_21 (by decide) ?_
  refine lv_ldc (v := 100000) hx hb hown (hts (.constant RX7 118 (100000)) (by decide +kernel)) dX7_link_22 ?_
  rw [show (100000 : Int32) = nI 100000 from by decide]
  refine gc_S_i (As := [.int (nI (ce)), .int (nI (1)), .int (nI (100000))]) (rest := [.ref a_mod]) (c_X7_in l) ⟨hx, hb, hml, hown, hts⟩ (va_cwS 3 hts gX7_link_X7_in rfl rfl rfl (by decide +kernel) ⟨Nat.le_of_ble_eq_true rfl, Nat.le_of_ble_eq_true rfl⟩) hE hP hD hS hA rfl rfl hl.1 (Nat.le_of_ble_eq_true rfl) dX7_link_24 ⟨Nat.le_of_ble_eq_true rfl, Nat.le_of_ble_eq_true rfl⟩ (fun r_24 u_24 H locs hP hD hS q_24 => ?_)
  subst q_24
  refine g_bif_eq (tgt := 42) hx hb dX7_link_27 (by decide) (fun c_27 => absurd c_27 (by rw [decide_eq_true (rq_rg hce kce (by decide))]; decide)) (fun c_27 => ?_)
  refine lv_iload hx hb dX7_link_30 (lv_at hl 4 rfl) ?_
  refine lv_iconst (v := nI 1) hx hb dX7_link_32 (by decide) ?_
  refine lv_sipush (v := nI 10000) hx hb dX7_link_33 (by decide) ?_
  refine gc_S_i (As := [.int (nI (gr)), .int (nI (1)), .int (nI (10000))]) (rest := [.ref a_mod]) (c_X7_in l) ⟨hx, hb, hml, hown, hts⟩ (va_cwS 3 hts gX7_link_X7_in rfl rfl rfl (by decide +kernel) ⟨Nat.le_of_ble_eq_true rfl, Nat.le_of_ble_eq_true rfl⟩) hE hP hD hS hA rfl rfl hl.1 (Nat.le_of_ble_eq_true rfl) dX7_link_36 ⟨Nat.le_of_ble_eq_true rfl, Nat.le_of_ble_eq_true rfl⟩ (fun r_36 u_36 H locs hP hD hS q_36 => ?_)
  subst q_36
  refine g_bif_ne (tgt := 46) hx hb dX7_link_39 (by decide) (fun c_39 => ?_) (fun c_39 => absurd c_39 (by rw [decide_eq_true (rq_rg hgr kgr (by decide))]; decide))
  refine lv_iconst (v := nI 0) hx hb dX7_link_46 (by decide) ?_
  refine gv_set f0_mod rfl (by rfl) (fun k9 h9 kk9 => va_put (D := D) (ci := 8) (v := .int (nI (0))) (ty := .int) (C := RX7) (T := TX7) (N := 33) hx hb hts in_RX7 tyX7 tyX7_ok nmX7 hown hE.1 hP hD hS k9 h9 rfl 0 (by decide) (hts (.fieldLink RX7 94 "BasketryOfficeModel" "thrown" "I") (by decide +kernel)) (fun _ h9 => h9) rfl (by decide +kernel) rfl rfl (Nat.le_of_ble_eq_true rfl) dX7_link_47 kk9) (fun H locs hP hD hS => ?_)
  have f_mod := g_eq (x := (a_mod, .inr (8, .int (nI (0)) :: .int (nI (n)) :: x_mod_2 :: x_mod_3 :: x_mod_4 :: .int (nI (nw)) :: x_mod_6 :: x_mod_7 :: x_mod_8 :: x_mod_9 :: x_mod_10 :: x_mod_11 :: .ref a_mlc :: x_mod_13 :: x_mod_14 :: x_mod_15 :: x_mod_16 :: x_mod_17 :: x_mod_18 :: x_mod_19 :: x_mod_20 :: x_mod_21 :: x_mod_22 :: x_mod_23 :: x_mod_24 :: x_mod_25 :: x_mod_26 :: x_mod_27 :: x_mod_28 :: x_mod_29 :: x_mod_30 :: x_mod_31 :: x_mod_32 :: []))) (f0_mod)
  have f_mlc := g_ne (x := (a_mod, .inr (8, .int (nI (0)) :: .int (nI (n)) :: x_mod_2 :: x_mod_3 :: x_mod_4 :: .int (nI (nw)) :: x_mod_6 :: x_mod_7 :: x_mod_8 :: x_mod_9 :: x_mod_10 :: x_mod_11 :: .ref a_mlc :: x_mod_13 :: x_mod_14 :: x_mod_15 :: x_mod_16 :: x_mod_17 :: x_mod_18 :: x_mod_19 :: x_mod_20 :: x_mod_21 :: x_mod_22 :: x_mod_23 :: x_mod_24 :: x_mod_25 :: x_mod_26 :: x_mod_27 :: x_mod_28 :: x_mod_29 :: x_mod_30 :: x_mod_31 :: x_mod_32 :: []))) (g_kne f0_mod f0_mlc (Nat.ne_of_beq_eq_false rfl)) (f0_mlc)
  refine lv_aload_n hx hb dX7_link_50 rfl (lv_at hl 0 rfl) ?_
  refine lv_aload_n hx hb dX7_link_51 rfl (lv_at hl 0 rfl) ?_
  refine va_get (D := D) (ci := 8) (v := .int (nI (0))) (C := RX7) (T := TX7) (N := 33) hx hb hts in_RX7 hown hE.1 (gv1 hP f_mod) 0 rfl rfl 0 (by decide) (hts (.fieldLink RX7 94 "BasketryOfficeModel" "thrown" "I") (by decide +kernel)) (fun _ h9 => h9) rfl dX7_link_52 ?_
  refine g_if_ne (tgt := 88) hx hb (by omega) dX7_link_55 (by decide) (fun c_55 => absurd c_55 (by omega)) (fun c_55 => ?_)
  refine lv_aload_n hx hb dX7_link_58 rfl (lv_at hl 0 rfl) ?_
  refine va_get (D := D) (ci := 8) (v := .int (nI (nw))) (C := RX7) (T := TX7) (N := 33) hx hb hts in_RX7 hown hE.1 (gv1 hP f_mod) 0 rfl rfl 5 (by decide) (hts (.fieldLink RX7 105 "BasketryOfficeModel" "now" "I") (by decide +kernel)) (fun _ h9 => h9) rfl dX7_link_59 ?_
  refine lv_bipush (v := nI 24) hx hb dX7_link_62 (by decide) ?_
  refine g_icmp_eq (tgt := 84) hx hb (by omega) (by omega) dX7_link_64 (by decide) (fun c_64 => ?_) (fun c_64 => absurd c_64 (by omega))
  refine lv_iconst (v := nI 3) hx hb dX7_link_84 (by decide) ?_
  refine lv_goto (tgt := 92) hx hb dX7_link_85 (by decide) ?_
  refine gv_set f_mod rfl (by rfl) (fun k9 h9 kk9 => va_put (D := D) (ci := 8) (v := .int (nI (3))) (ty := .int) (C := RX7) (T := TX7) (N := 33) hx hb hts in_RX7 tyX7 tyX7_ok nmX7 hown hE.1 hP hD hS k9 h9 rfl 0 (by decide) (hts (.fieldLink RX7 94 "BasketryOfficeModel" "thrown" "I") (by decide +kernel)) (fun _ h9 => h9) rfl (by decide +kernel) rfl rfl (Nat.le_of_ble_eq_true rfl) dX7_link_92 kk9) (fun H locs hP hD hS => ?_)
  have hP := g_trP g_ss hP
  have hD := g_trD g_ss hD
  have f_mod := g_eq (x := (a_mod, .inr (8, .int (nI (3)) :: .int (nI (n)) :: x_mod_2 :: x_mod_3 :: x_mod_4 :: .int (nI (nw)) :: x_mod_6 :: x_mod_7 :: x_mod_8 :: x_mod_9 :: x_mod_10 :: x_mod_11 :: .ref a_mlc :: x_mod_13 :: x_mod_14 :: x_mod_15 :: x_mod_16 :: x_mod_17 :: x_mod_18 :: x_mod_19 :: x_mod_20 :: x_mod_21 :: x_mod_22 :: x_mod_23 :: x_mod_24 :: x_mod_25 :: x_mod_26 :: x_mod_27 :: x_mod_28 :: x_mod_29 :: x_mod_30 :: x_mod_31 :: x_mod_32 :: []))) (f0_mod)
  have f_mlc := g_ne (x := (a_mod, .inr (8, .int (nI (3)) :: .int (nI (n)) :: x_mod_2 :: x_mod_3 :: x_mod_4 :: .int (nI (nw)) :: x_mod_6 :: x_mod_7 :: x_mod_8 :: x_mod_9 :: x_mod_10 :: x_mod_11 :: .ref a_mlc :: x_mod_13 :: x_mod_14 :: x_mod_15 :: x_mod_16 :: x_mod_17 :: x_mod_18 :: x_mod_19 :: x_mod_20 :: x_mod_21 :: x_mod_22 :: x_mod_23 :: x_mod_24 :: x_mod_25 :: x_mod_26 :: x_mod_27 :: x_mod_28 :: x_mod_29 :: x_mod_30 :: x_mod_31 :: x_mod_32 :: []))) (g_kne f0_mod f0_mlc (Nat.ne_of_beq_eq_false rfl)) (f0_mlc)
  refine lv_aload_n hx hb dX7_link_95 rfl (lv_at hl 0 rfl) ?_
  refine va_get (D := D) (ci := 8) (v := .int (nI (3))) (C := RX7) (T := TX7) (N := 33) hx hb hts in_RX7 hown hE.1 (gv1 hP f_mod) 0 rfl rfl 0 (by decide) (hts (.fieldLink RX7 94 "BasketryOfficeModel" "thrown" "I") (by decide +kernel)) (fun _ h9 => h9) rfl dX7_link_96 ?_
  refine g_if_ne (tgt := 133) hx hb (by omega) dX7_link_99 (by decide) (fun c_99 => ?_) (fun c_99 => absurd c_99 (by omega))
  refine g_vret hx hb hr hlocks () dX7_link_133 hS hP hD ?_
  exact trivial

theorem in_x5_X7_link_RX7 : ∀ w ∈ wsX70, w ∈ wsX7_link := by decide +kernel
set_option maxHeartbeats 4000000 in
set_option maxRecDepth 100000 in
theorem x5_X7_link (l : Launch) {D : va_G} {y : Nat → Nat} {ws : va_W} {x_mod_2 : Value} {x_mod_3 : Value} {x_mod_4 : Value} {x_mod_6 : Value} {x_mod_7 : Value} {x_mod_8 : Value} {x_mod_9 : Value} {x_mod_10 : Value} {x_mod_11 : Value} {x_mod_13 : Value} {x_mod_14 : Value} {x_mod_15 : Value} {x_mod_16 : Value} {x_mod_17 : Value} {x_mod_18 : Value} {x_mod_19 : Value} {x_mod_20 : Value} {x_mod_21 : Value} {x_mod_22 : Value} {x_mod_23 : Value} {x_mod_24 : Value} {x_mod_25 : Value} {x_mod_26 : Value} {x_mod_27 : Value} {x_mod_28 : Value} {x_mod_29 : Value} {x_mod_30 : Value} {x_mod_31 : Value} {x_mod_32 : Value} {p_mod p_mlc a_mod a_mlc : Nat} {mlc : Nat → Nat} {i o ce gr : Nat} {nw n th : Nat} (f0_mod : ws[p_mod]? = some (a_mod, .inr (8, .int (nI (th)) :: .int (nI (n)) :: x_mod_2 :: x_mod_3 :: x_mod_4 :: .int (nI (nw)) :: x_mod_6 :: x_mod_7 :: x_mod_8 :: x_mod_9 :: x_mod_10 :: x_mod_11 :: .ref a_mlc :: x_mod_13 :: x_mod_14 :: x_mod_15 :: x_mod_16 :: x_mod_17 :: x_mod_18 :: x_mod_19 :: x_mod_20 :: x_mod_21 :: x_mod_22 :: x_mod_23 :: x_mod_24 :: x_mod_25 :: x_mod_26 :: x_mod_27 :: x_mod_28 :: x_mod_29 :: x_mod_30 :: x_mod_31 :: x_mod_32 :: []))) (f0_mlc : ws[p_mlc]? = some (a_mlc, eN y 1152 mlc)) (b_mlc : ∀ k, mlc k ≤ 100000) (hw : nw ≤ 24) (hn : n ≤ 12) (hi : i < n) (ho : o < 4) (hce : 1 ≤ ce) (kce : ce ≤ 100000) (hgr : 1 ≤ gr) (kgr : gr ≤ 10000) (hnw : nw < 24) (hbad : 0 < mlc (48 * nw + 4 * i + o)) : gMv l yX7_link wsX7_link ({ frames := 2, cells := 0, slots := 0, locals := 43 }) D y [.ref a_mod, .int (nI (i)), .int (nI (o)), .int (nI (ce)), .int (nI (gr))] ws (fun (_ : Unit) => True) (fun (_ : Unit) => (ws.set p_mod (a_mod, .inr (8, .int (nI (3)) :: .int (nI (n)) :: x_mod_2 :: x_mod_3 :: x_mod_4 :: .int (nI (nw)) :: x_mod_6 :: x_mod_7 :: x_mod_8 :: x_mod_9 :: x_mod_10 :: x_mod_11 :: .ref a_mlc :: x_mod_13 :: x_mod_14 :: x_mod_15 :: x_mod_16 :: x_mod_17 :: x_mod_18 :: x_mod_19 :: x_mod_20 :: x_mod_21 :: x_mod_22 :: x_mod_23 :: x_mod_24 :: x_mod_25 :: x_mod_26 :: x_mod_27 :: x_mod_28 :: x_mod_29 :: x_mod_30 :: x_mod_31 :: x_mod_32 :: [])))) := by
  refine g_met_v (cc := cX7_link) (maxL := 5) (by decide) rfl (Nat.le_of_ble_eq_true rfl) ?_
  intro p e s m below meth c A hx hb hml hr hts hown hnm hlocks hE hP hD hS hA ls hl
  have hown : s.vm.findClass RX7 = some m.cls := hown
  have hl : lv_has ls 5 [(0, .ref a_mod), (1, .int (nI (i))), (2, .int (nI (o))), (3, .int (nI (ce))), (4, .int (nI (gr)))] := hl
  have in_RX7 := in_x5_X7_link_RX7
  refine lv_aload_n hx hb dX7_link_0 rfl (lv_at hl 0 rfl) ?_
  refine lv_aload_n hx hb dX7_link_1 rfl (lv_at hl 0 rfl) ?_
  refine lv_iload_n hx hb dX7_link_2 rfl (lv_at hl 1 rfl) ?_
  refine gc_V_i (As := [.int (nI (i))]) (rest := [.ref a_mod]) (c_X7_isItem l f0_mod (by omega)) ⟨hx, hb, hml, hown, hts⟩ (cwV 1 hts gX7_link_X7_isItem rfl rfl rfl (by decide +kernel) ⟨Nat.le_of_ble_eq_true rfl, Nat.le_of_ble_eq_true rfl⟩) hE hP hD hS hA _ f0_mod rfl rfl rfl rfl hl.1 (Nat.le_of_ble_eq_true rfl) dX7_link_3 ⟨Nat.le_of_ble_eq_true rfl, Nat.le_of_ble_eq_true rfl⟩ (fun r_3 u_3 H locs hP hD hS q_3 => ?_)
  subst q_3
  refine g_bif_eq (tgt := 16) hx hb dX7_link_6 (by decide) (fun c_6 => absurd c_6 (by rw [decide_eq_true (rq_lt hi (by omega))]; decide)) (fun c_6 => ?_)
  refine lv_iload_n hx hb dX7_link_9 rfl (lv_at hl 2 rfl) ?_
  refine gc_S_i (As := [.int (nI (o))]) (rest := [.ref a_mod]) (c_X7_isOutlet l) ⟨hx, hb, hml, hown, hts⟩ (va_cwS 1 hts gX7_link_X7_isOutlet rfl rfl rfl (by decide +kernel) ⟨Nat.le_of_ble_eq_true rfl, Nat.le_of_ble_eq_true rfl⟩) hE hP hD hS hA rfl rfl hl.1 (Nat.le_of_ble_eq_true rfl) dX7_link_10 ⟨Nat.le_of_ble_eq_true rfl, Nat.le_of_ble_eq_true rfl⟩ (fun r_10 u_10 H locs hP hD hS q_10 => ?_)
  subst q_10
  refine g_bif_ne (tgt := 20) hx hb dX7_link_13 (by decide) (fun c_13 => ?_) (fun c_13 => absurd c_13 (by rw [decide_eq_true (rq_lt ho (by omega))]; decide))
  refine lv_iload_n hx hb dX7_link_20 rfl (lv_at hl 3 rfl) ?_
  refine lv_iconst (v := nI 1) hx hb dX7_link_21 (by decide) ?_
  refine lv_ldc (v := 100000) hx hb hown (hts (.constant RX7 118 (100000)) (by decide +kernel)) dX7_link_22 ?_
  rw [show (100000 : Int32) = nI 100000 from by decide]
  refine gc_S_i (As := [.int (nI (ce)), .int (nI (1)), .int (nI (100000))]) (rest := [.ref a_mod]) (c_X7_in l) ⟨hx, hb, hml, hown, hts⟩ (va_cwS 3 hts gX7_link_X7_in rfl rfl rfl (by decide +kernel) ⟨Nat.le_of_ble_eq_true rfl, Nat.le_of_ble_eq_true rfl⟩) hE hP hD hS hA rfl rfl hl.1 (Nat.le_of_ble_eq_true rfl) dX7_link_24 ⟨Nat.le_of_ble_eq_true rfl, Nat.le_of_ble_eq_true rfl⟩ (fun r_24 u_24 H locs hP hD hS q_24 => ?_)
  subst q_24
  refine g_bif_eq (tgt := 42) hx hb dX7_link_27 (by decide) (fun c_27 => absurd c_27 (by rw [decide_eq_true (rq_rg hce kce (by decide))]; decide)) (fun c_27 => ?_)
  refine lv_iload hx hb dX7_link_30 (lv_at hl 4 rfl) ?_
  refine lv_iconst (v := nI 1) hx hb dX7_link_32 (by decide) ?_
  refine lv_sipush (v := nI 10000) hx hb dX7_link_33 (by decide) ?_
  refine gc_S_i (As := [.int (nI (gr)), .int (nI (1)), .int (nI (10000))]) (rest := [.ref a_mod]) (c_X7_in l) ⟨hx, hb, hml, hown, hts⟩ (va_cwS 3 hts gX7_link_X7_in rfl rfl rfl (by decide +kernel) ⟨Nat.le_of_ble_eq_true rfl, Nat.le_of_ble_eq_true rfl⟩) hE hP hD hS hA rfl rfl hl.1 (Nat.le_of_ble_eq_true rfl) dX7_link_36 ⟨Nat.le_of_ble_eq_true rfl, Nat.le_of_ble_eq_true rfl⟩ (fun r_36 u_36 H locs hP hD hS q_36 => ?_)
  subst q_36
  refine g_bif_ne (tgt := 46) hx hb dX7_link_39 (by decide) (fun c_39 => ?_) (fun c_39 => absurd c_39 (by rw [decide_eq_true (rq_rg hgr kgr (by decide))]; decide))
  refine lv_iconst (v := nI 0) hx hb dX7_link_46 (by decide) ?_
  refine gv_set f0_mod rfl (by rfl) (fun k9 h9 kk9 => va_put (D := D) (ci := 8) (v := .int (nI (0))) (ty := .int) (C := RX7) (T := TX7) (N := 33) hx hb hts in_RX7 tyX7 tyX7_ok nmX7 hown hE.1 hP hD hS k9 h9 rfl 0 (by decide) (hts (.fieldLink RX7 94 "BasketryOfficeModel" "thrown" "I") (by decide +kernel)) (fun _ h9 => h9) rfl (by decide +kernel) rfl rfl (Nat.le_of_ble_eq_true rfl) dX7_link_47 kk9) (fun H locs hP hD hS => ?_)
  have f_mod := g_eq (x := (a_mod, .inr (8, .int (nI (0)) :: .int (nI (n)) :: x_mod_2 :: x_mod_3 :: x_mod_4 :: .int (nI (nw)) :: x_mod_6 :: x_mod_7 :: x_mod_8 :: x_mod_9 :: x_mod_10 :: x_mod_11 :: .ref a_mlc :: x_mod_13 :: x_mod_14 :: x_mod_15 :: x_mod_16 :: x_mod_17 :: x_mod_18 :: x_mod_19 :: x_mod_20 :: x_mod_21 :: x_mod_22 :: x_mod_23 :: x_mod_24 :: x_mod_25 :: x_mod_26 :: x_mod_27 :: x_mod_28 :: x_mod_29 :: x_mod_30 :: x_mod_31 :: x_mod_32 :: []))) (f0_mod)
  have f_mlc := g_ne (x := (a_mod, .inr (8, .int (nI (0)) :: .int (nI (n)) :: x_mod_2 :: x_mod_3 :: x_mod_4 :: .int (nI (nw)) :: x_mod_6 :: x_mod_7 :: x_mod_8 :: x_mod_9 :: x_mod_10 :: x_mod_11 :: .ref a_mlc :: x_mod_13 :: x_mod_14 :: x_mod_15 :: x_mod_16 :: x_mod_17 :: x_mod_18 :: x_mod_19 :: x_mod_20 :: x_mod_21 :: x_mod_22 :: x_mod_23 :: x_mod_24 :: x_mod_25 :: x_mod_26 :: x_mod_27 :: x_mod_28 :: x_mod_29 :: x_mod_30 :: x_mod_31 :: x_mod_32 :: []))) (g_kne f0_mod f0_mlc (Nat.ne_of_beq_eq_false rfl)) (f0_mlc)
  refine lv_aload_n hx hb dX7_link_50 rfl (lv_at hl 0 rfl) ?_
  refine lv_aload_n hx hb dX7_link_51 rfl (lv_at hl 0 rfl) ?_
  refine va_get (D := D) (ci := 8) (v := .int (nI (0))) (C := RX7) (T := TX7) (N := 33) hx hb hts in_RX7 hown hE.1 (gv1 hP f_mod) 0 rfl rfl 0 (by decide) (hts (.fieldLink RX7 94 "BasketryOfficeModel" "thrown" "I") (by decide +kernel)) (fun _ h9 => h9) rfl dX7_link_52 ?_
  refine g_if_ne (tgt := 88) hx hb (by omega) dX7_link_55 (by decide) (fun c_55 => absurd c_55 (by omega)) (fun c_55 => ?_)
  refine lv_aload_n hx hb dX7_link_58 rfl (lv_at hl 0 rfl) ?_
  refine va_get (D := D) (ci := 8) (v := .int (nI (nw))) (C := RX7) (T := TX7) (N := 33) hx hb hts in_RX7 hown hE.1 (gv1 hP f_mod) 0 rfl rfl 5 (by decide) (hts (.fieldLink RX7 105 "BasketryOfficeModel" "now" "I") (by decide +kernel)) (fun _ h9 => h9) rfl dX7_link_59 ?_
  refine lv_bipush (v := nI 24) hx hb dX7_link_62 (by decide) ?_
  refine g_icmp_eq (tgt := 84) hx hb (by omega) (by omega) dX7_link_64 (by decide) (fun c_64 => absurd c_64 (by omega)) (fun c_64 => ?_)
  refine lv_aload_n hx hb dX7_link_67 rfl (lv_at hl 0 rfl) ?_
  refine va_get (D := D) (ci := 8) (v := .ref a_mlc) (C := RX7) (T := TX7) (N := 33) hx hb hts in_RX7 hown hE.1 (gv1 hP f_mod) 0 rfl rfl 12 (by decide) (hts (.fieldLink RX7 32 "BasketryOfficeModel" "linkCents" "[I") (by decide +kernel)) (fun _ h9 => h9) rfl dX7_link_68 ?_
  refine lv_aload_n hx hb dX7_link_71 rfl (lv_at hl 0 rfl) ?_
  refine va_get (D := D) (ci := 8) (v := .int (nI (nw))) (C := RX7) (T := TX7) (N := 33) hx hb hts in_RX7 hown hE.1 (gv1 hP f_mod) 0 rfl rfl 5 (by decide) (hts (.fieldLink RX7 105 "BasketryOfficeModel" "now" "I") (by decide +kernel)) (fun _ h9 => h9) rfl dX7_link_72 ?_
  refine lv_iload_n hx hb dX7_link_75 rfl (lv_at hl 1 rfl) ?_
  refine lv_iload_n hx hb dX7_link_76 rfl (lv_at hl 2 rfl) ?_
  refine gc_S_i (As := [.int (nI (nw)), .int (nI (i)), .int (nI (o))]) (rest := [.ref a_mlc, .ref a_mod]) (c_X7_cell l) ⟨hx, hb, hml, hown, hts⟩ (va_cwS 3 hts gX7_link_X7_cell rfl rfl rfl (by decide +kernel) ⟨Nat.le_of_ble_eq_true rfl, Nat.le_of_ble_eq_true rfl⟩) hE hP hD hS hA rfl rfl hl.1 (Nat.le_of_ble_eq_true rfl) dX7_link_77 ⟨Nat.le_of_ble_eq_true rfl, Nat.le_of_ble_eq_true rfl⟩ (fun r_77 u_77 H locs hP hD hS q_77 => ?_)
  subst q_77
  refine g_nald hx hb hE hP _ f_mlc (by omega) (by decide) dX7_link_80 ?_
  have bd_80_1 := b_mlc (48 * (nw) + 4 * (i) + (o))
  refine g_if_le (tgt := 88) hx hb (by omega) dX7_link_81 (by decide) (fun c_81 => absurd c_81 (by omega)) (fun c_81 => ?_)
  refine lv_iconst (v := nI 3) hx hb dX7_link_84 (by decide) ?_
  refine lv_goto (tgt := 92) hx hb dX7_link_85 (by decide) ?_
  refine gv_set f_mod rfl (by rfl) (fun k9 h9 kk9 => va_put (D := D) (ci := 8) (v := .int (nI (3))) (ty := .int) (C := RX7) (T := TX7) (N := 33) hx hb hts in_RX7 tyX7 tyX7_ok nmX7 hown hE.1 hP hD hS k9 h9 rfl 0 (by decide) (hts (.fieldLink RX7 94 "BasketryOfficeModel" "thrown" "I") (by decide +kernel)) (fun _ h9 => h9) rfl (by decide +kernel) rfl rfl (Nat.le_of_ble_eq_true rfl) dX7_link_92 kk9) (fun H locs hP hD hS => ?_)
  have hP := g_trP g_ss hP
  have hD := g_trD g_ss hD
  have f_mod := g_eq (x := (a_mod, .inr (8, .int (nI (3)) :: .int (nI (n)) :: x_mod_2 :: x_mod_3 :: x_mod_4 :: .int (nI (nw)) :: x_mod_6 :: x_mod_7 :: x_mod_8 :: x_mod_9 :: x_mod_10 :: x_mod_11 :: .ref a_mlc :: x_mod_13 :: x_mod_14 :: x_mod_15 :: x_mod_16 :: x_mod_17 :: x_mod_18 :: x_mod_19 :: x_mod_20 :: x_mod_21 :: x_mod_22 :: x_mod_23 :: x_mod_24 :: x_mod_25 :: x_mod_26 :: x_mod_27 :: x_mod_28 :: x_mod_29 :: x_mod_30 :: x_mod_31 :: x_mod_32 :: []))) (f0_mod)
  have f_mlc := g_ne (x := (a_mod, .inr (8, .int (nI (3)) :: .int (nI (n)) :: x_mod_2 :: x_mod_3 :: x_mod_4 :: .int (nI (nw)) :: x_mod_6 :: x_mod_7 :: x_mod_8 :: x_mod_9 :: x_mod_10 :: x_mod_11 :: .ref a_mlc :: x_mod_13 :: x_mod_14 :: x_mod_15 :: x_mod_16 :: x_mod_17 :: x_mod_18 :: x_mod_19 :: x_mod_20 :: x_mod_21 :: x_mod_22 :: x_mod_23 :: x_mod_24 :: x_mod_25 :: x_mod_26 :: x_mod_27 :: x_mod_28 :: x_mod_29 :: x_mod_30 :: x_mod_31 :: x_mod_32 :: []))) (g_kne f0_mod f0_mlc (Nat.ne_of_beq_eq_false rfl)) (f0_mlc)
  refine lv_aload_n hx hb dX7_link_95 rfl (lv_at hl 0 rfl) ?_
  refine va_get (D := D) (ci := 8) (v := .int (nI (3))) (C := RX7) (T := TX7) (N := 33) hx hb hts in_RX7 hown hE.1 (gv1 hP f_mod) 0 rfl rfl 0 (by decide) (hts (.fieldLink RX7 94 "BasketryOfficeModel" "thrown" "I") (by decide +kernel)) (fun _ h9 => h9) rfl dX7_link_96 ?_
  refine g_if_ne (tgt := 133) hx hb (by omega) dX7_link_99 (by decide) (fun c_99 => ?_) (fun c_99 => absurd c_99 (by omega))
  refine g_vret hx hb hr hlocks () dX7_link_133 hS hP hD ?_
  exact trivial

theorem in_c_X7_link_RX7 : ∀ w ∈ wsX70, w ∈ wsX7_link := by decide +kernel
set_option maxHeartbeats 4000000 in
set_option maxRecDepth 100000 in
theorem c_X7_link (l : Launch) {D : va_G} {y : Nat → Nat} {ws : va_W} {x_mod_2 : Value} {x_mod_3 : Value} {x_mod_4 : Value} {x_mod_6 : Value} {x_mod_7 : Value} {x_mod_8 : Value} {x_mod_9 : Value} {x_mod_10 : Value} {x_mod_11 : Value} {x_mod_14 : Value} {x_mod_15 : Value} {x_mod_16 : Value} {x_mod_17 : Value} {x_mod_18 : Value} {x_mod_19 : Value} {x_mod_20 : Value} {x_mod_21 : Value} {x_mod_22 : Value} {x_mod_23 : Value} {x_mod_24 : Value} {x_mod_25 : Value} {x_mod_26 : Value} {x_mod_27 : Value} {x_mod_28 : Value} {x_mod_29 : Value} {x_mod_30 : Value} {x_mod_31 : Value} {x_mod_32 : Value} {p_mod p_mlc p_mlg a_mod a_mlc a_mlg : Nat} {mlc : Nat → Nat} {mlg : Nat → Nat} {i o ce gr : Nat} {nw n th : Nat} (f0_mod : ws[p_mod]? = some (a_mod, .inr (8, .int (nI (th)) :: .int (nI (n)) :: x_mod_2 :: x_mod_3 :: x_mod_4 :: .int (nI (nw)) :: x_mod_6 :: x_mod_7 :: x_mod_8 :: x_mod_9 :: x_mod_10 :: x_mod_11 :: .ref a_mlc :: .ref a_mlg :: x_mod_14 :: x_mod_15 :: x_mod_16 :: x_mod_17 :: x_mod_18 :: x_mod_19 :: x_mod_20 :: x_mod_21 :: x_mod_22 :: x_mod_23 :: x_mod_24 :: x_mod_25 :: x_mod_26 :: x_mod_27 :: x_mod_28 :: x_mod_29 :: x_mod_30 :: x_mod_31 :: x_mod_32 :: []))) (f0_mlc : ws[p_mlc]? = some (a_mlc, eN y 1152 mlc)) (f0_mlg : ws[p_mlg]? = some (a_mlg, eN y 1152 mlg)) (b_mlc : ∀ k, mlc k ≤ 100000) (b_mlg : ∀ k, mlg k ≤ 10000) (hw : nw ≤ 24) (hn : n ≤ 12) (hi : i < n) (ho : o < 4) (hce : 1 ≤ ce) (kce : ce ≤ 100000) (hgr : 1 ≤ gr) (kgr : gr ≤ 10000) (hnw : nw < 24) (hlk : mlc (48 * nw + 4 * i + o) = 0) (hdis : p_mlc ≠ p_mlg) : gMv l yX7_link wsX7_link ({ frames := 2, cells := 0, slots := 0, locals := 43 }) D y [.ref a_mod, .int (nI (i)), .int (nI (o)), .int (nI (ce)), .int (nI (gr))] ws (fun (_ : Unit) => True) (fun (_ : Unit) => (((ws.set p_mod (a_mod, .inr (8, .int (nI (0)) :: .int (nI (n)) :: x_mod_2 :: x_mod_3 :: x_mod_4 :: .int (nI (nw)) :: x_mod_6 :: x_mod_7 :: x_mod_8 :: x_mod_9 :: x_mod_10 :: x_mod_11 :: .ref a_mlc :: .ref a_mlg :: x_mod_14 :: x_mod_15 :: x_mod_16 :: x_mod_17 :: x_mod_18 :: x_mod_19 :: x_mod_20 :: x_mod_21 :: x_mod_22 :: x_mod_23 :: x_mod_24 :: x_mod_25 :: x_mod_26 :: x_mod_27 :: x_mod_28 :: x_mod_29 :: x_mod_30 :: x_mod_31 :: x_mod_32 :: []))).set p_mlc (a_mlc, eN y 1152 (vf_upd mlc (48 * nw + 4 * i + o) (ce)))).set p_mlg (a_mlg, eN y 1152 (vf_upd mlg (48 * nw + 4 * i + o) (gr))))) := by
  refine g_met_v (cc := cX7_link) (maxL := 5) (by decide) rfl (Nat.le_of_ble_eq_true rfl) ?_
  intro p e s m below meth c A hx hb hml hr hts hown hnm hlocks hE hP hD hS hA ls hl
  have hown : s.vm.findClass RX7 = some m.cls := hown
  have hl : lv_has ls 5 [(0, .ref a_mod), (1, .int (nI (i))), (2, .int (nI (o))), (3, .int (nI (ce))), (4, .int (nI (gr)))] := hl
  have in_RX7 := in_c_X7_link_RX7
  refine lv_aload_n hx hb dX7_link_0 rfl (lv_at hl 0 rfl) ?_
  refine lv_aload_n hx hb dX7_link_1 rfl (lv_at hl 0 rfl) ?_
  refine lv_iload_n hx hb dX7_link_2 rfl (lv_at hl 1 rfl) ?_
  refine gc_V_i (As := [.int (nI (i))]) (rest := [.ref a_mod]) (c_X7_isItem l f0_mod (by omega)) ⟨hx, hb, hml, hown, hts⟩ (cwV 1 hts gX7_link_X7_isItem rfl rfl rfl (by decide +kernel) ⟨Nat.le_of_ble_eq_true rfl, Nat.le_of_ble_eq_true rfl⟩) hE hP hD hS hA _ f0_mod rfl rfl rfl rfl hl.1 (Nat.le_of_ble_eq_true rfl) dX7_link_3 ⟨Nat.le_of_ble_eq_true rfl, Nat.le_of_ble_eq_true rfl⟩ (fun r_3 u_3 H locs hP hD hS q_3 => ?_)
  subst q_3
  refine g_bif_eq (tgt := 16) hx hb dX7_link_6 (by decide) (fun c_6 => absurd c_6 (by rw [decide_eq_true (rq_lt hi (by omega))]; decide)) (fun c_6 => ?_)
  refine lv_iload_n hx hb dX7_link_9 rfl (lv_at hl 2 rfl) ?_
  refine gc_S_i (As := [.int (nI (o))]) (rest := [.ref a_mod]) (c_X7_isOutlet l) ⟨hx, hb, hml, hown, hts⟩ (va_cwS 1 hts gX7_link_X7_isOutlet rfl rfl rfl (by decide +kernel) ⟨Nat.le_of_ble_eq_true rfl, Nat.le_of_ble_eq_true rfl⟩) hE hP hD hS hA rfl rfl hl.1 (Nat.le_of_ble_eq_true rfl) dX7_link_10 ⟨Nat.le_of_ble_eq_true rfl, Nat.le_of_ble_eq_true rfl⟩ (fun r_10 u_10 H locs hP hD hS q_10 => ?_)
  subst q_10
  refine g_bif_ne (tgt := 20) hx hb dX7_link_13 (by decide) (fun c_13 => ?_) (fun c_13 => absurd c_13 (by rw [decide_eq_true (rq_lt ho (by omega))]; decide))
  refine lv_iload_n hx hb dX7_link_20 rfl (lv_at hl 3 rfl) ?_
  refine lv_iconst (v := nI 1) hx hb dX7_link_21 (by decide) ?_
  refine lv_ldc (v := 100000) hx hb hown (hts (.constant RX7 118 (100000)) (by decide +kernel)) dX7_link_22 ?_
  rw [show (100000 : Int32) = nI 100000 from by decide]
  refine gc_S_i (As := [.int (nI (ce)), .int (nI (1)), .int (nI (100000))]) (rest := [.ref a_mod]) (c_X7_in l) ⟨hx, hb, hml, hown, hts⟩ (va_cwS 3 hts gX7_link_X7_in rfl rfl rfl (by decide +kernel) ⟨Nat.le_of_ble_eq_true rfl, Nat.le_of_ble_eq_true rfl⟩) hE hP hD hS hA rfl rfl hl.1 (Nat.le_of_ble_eq_true rfl) dX7_link_24 ⟨Nat.le_of_ble_eq_true rfl, Nat.le_of_ble_eq_true rfl⟩ (fun r_24 u_24 H locs hP hD hS q_24 => ?_)
  subst q_24
  refine g_bif_eq (tgt := 42) hx hb dX7_link_27 (by decide) (fun c_27 => absurd c_27 (by rw [decide_eq_true (rq_rg hce kce (by decide))]; decide)) (fun c_27 => ?_)
  refine lv_iload hx hb dX7_link_30 (lv_at hl 4 rfl) ?_
  refine lv_iconst (v := nI 1) hx hb dX7_link_32 (by decide) ?_
  refine lv_sipush (v := nI 10000) hx hb dX7_link_33 (by decide) ?_
  refine gc_S_i (As := [.int (nI (gr)), .int (nI (1)), .int (nI (10000))]) (rest := [.ref a_mod]) (c_X7_in l) ⟨hx, hb, hml, hown, hts⟩ (va_cwS 3 hts gX7_link_X7_in rfl rfl rfl (by decide +kernel) ⟨Nat.le_of_ble_eq_true rfl, Nat.le_of_ble_eq_true rfl⟩) hE hP hD hS hA rfl rfl hl.1 (Nat.le_of_ble_eq_true rfl) dX7_link_36 ⟨Nat.le_of_ble_eq_true rfl, Nat.le_of_ble_eq_true rfl⟩ (fun r_36 u_36 H locs hP hD hS q_36 => ?_)
  subst q_36
  refine g_bif_ne (tgt := 46) hx hb dX7_link_39 (by decide) (fun c_39 => ?_) (fun c_39 => absurd c_39 (by rw [decide_eq_true (rq_rg hgr kgr (by decide))]; decide))
  refine lv_iconst (v := nI 0) hx hb dX7_link_46 (by decide) ?_
  refine gv_set f0_mod rfl (by rfl) (fun k9 h9 kk9 => va_put (D := D) (ci := 8) (v := .int (nI (0))) (ty := .int) (C := RX7) (T := TX7) (N := 33) hx hb hts in_RX7 tyX7 tyX7_ok nmX7 hown hE.1 hP hD hS k9 h9 rfl 0 (by decide) (hts (.fieldLink RX7 94 "BasketryOfficeModel" "thrown" "I") (by decide +kernel)) (fun _ h9 => h9) rfl (by decide +kernel) rfl rfl (Nat.le_of_ble_eq_true rfl) dX7_link_47 kk9) (fun H locs hP hD hS => ?_)
  have f_mod := g_eq (x := (a_mod, .inr (8, .int (nI (0)) :: .int (nI (n)) :: x_mod_2 :: x_mod_3 :: x_mod_4 :: .int (nI (nw)) :: x_mod_6 :: x_mod_7 :: x_mod_8 :: x_mod_9 :: x_mod_10 :: x_mod_11 :: .ref a_mlc :: .ref a_mlg :: x_mod_14 :: x_mod_15 :: x_mod_16 :: x_mod_17 :: x_mod_18 :: x_mod_19 :: x_mod_20 :: x_mod_21 :: x_mod_22 :: x_mod_23 :: x_mod_24 :: x_mod_25 :: x_mod_26 :: x_mod_27 :: x_mod_28 :: x_mod_29 :: x_mod_30 :: x_mod_31 :: x_mod_32 :: []))) (f0_mod)
  have f_mlc := g_ne (x := (a_mod, .inr (8, .int (nI (0)) :: .int (nI (n)) :: x_mod_2 :: x_mod_3 :: x_mod_4 :: .int (nI (nw)) :: x_mod_6 :: x_mod_7 :: x_mod_8 :: x_mod_9 :: x_mod_10 :: x_mod_11 :: .ref a_mlc :: .ref a_mlg :: x_mod_14 :: x_mod_15 :: x_mod_16 :: x_mod_17 :: x_mod_18 :: x_mod_19 :: x_mod_20 :: x_mod_21 :: x_mod_22 :: x_mod_23 :: x_mod_24 :: x_mod_25 :: x_mod_26 :: x_mod_27 :: x_mod_28 :: x_mod_29 :: x_mod_30 :: x_mod_31 :: x_mod_32 :: []))) (g_kne f0_mod f0_mlc (Nat.ne_of_beq_eq_false rfl)) (f0_mlc)
  have f_mlg := g_ne (x := (a_mod, .inr (8, .int (nI (0)) :: .int (nI (n)) :: x_mod_2 :: x_mod_3 :: x_mod_4 :: .int (nI (nw)) :: x_mod_6 :: x_mod_7 :: x_mod_8 :: x_mod_9 :: x_mod_10 :: x_mod_11 :: .ref a_mlc :: .ref a_mlg :: x_mod_14 :: x_mod_15 :: x_mod_16 :: x_mod_17 :: x_mod_18 :: x_mod_19 :: x_mod_20 :: x_mod_21 :: x_mod_22 :: x_mod_23 :: x_mod_24 :: x_mod_25 :: x_mod_26 :: x_mod_27 :: x_mod_28 :: x_mod_29 :: x_mod_30 :: x_mod_31 :: x_mod_32 :: []))) (g_kne f0_mod f0_mlg (Nat.ne_of_beq_eq_false rfl)) (f0_mlg)
  refine lv_aload_n hx hb dX7_link_50 rfl (lv_at hl 0 rfl) ?_
  refine lv_aload_n hx hb dX7_link_51 rfl (lv_at hl 0 rfl) ?_
  refine va_get (D := D) (ci := 8) (v := .int (nI (0))) (C := RX7) (T := TX7) (N := 33) hx hb hts in_RX7 hown hE.1 (gv1 hP f_mod) 0 rfl rfl 0 (by decide) (hts (.fieldLink RX7 94 "BasketryOfficeModel" "thrown" "I") (by decide +kernel)) (fun _ h9 => h9) rfl dX7_link_52 ?_
  refine g_if_ne (tgt := 88) hx hb (by omega) dX7_link_55 (by decide) (fun c_55 => absurd c_55 (by omega)) (fun c_55 => ?_)
  refine lv_aload_n hx hb dX7_link_58 rfl (lv_at hl 0 rfl) ?_
  refine va_get (D := D) (ci := 8) (v := .int (nI (nw))) (C := RX7) (T := TX7) (N := 33) hx hb hts in_RX7 hown hE.1 (gv1 hP f_mod) 0 rfl rfl 5 (by decide) (hts (.fieldLink RX7 105 "BasketryOfficeModel" "now" "I") (by decide +kernel)) (fun _ h9 => h9) rfl dX7_link_59 ?_
  refine lv_bipush (v := nI 24) hx hb dX7_link_62 (by decide) ?_
  refine g_icmp_eq (tgt := 84) hx hb (by omega) (by omega) dX7_link_64 (by decide) (fun c_64 => absurd c_64 (by omega)) (fun c_64 => ?_)
  refine lv_aload_n hx hb dX7_link_67 rfl (lv_at hl 0 rfl) ?_
  refine va_get (D := D) (ci := 8) (v := .ref a_mlc) (C := RX7) (T := TX7) (N := 33) hx hb hts in_RX7 hown hE.1 (gv1 hP f_mod) 0 rfl rfl 12 (by decide) (hts (.fieldLink RX7 32 "BasketryOfficeModel" "linkCents" "[I") (by decide +kernel)) (fun _ h9 => h9) rfl dX7_link_68 ?_
  refine lv_aload_n hx hb dX7_link_71 rfl (lv_at hl 0 rfl) ?_
  refine va_get (D := D) (ci := 8) (v := .int (nI (nw))) (C := RX7) (T := TX7) (N := 33) hx hb hts in_RX7 hown hE.1 (gv1 hP f_mod) 0 rfl rfl 5 (by decide) (hts (.fieldLink RX7 105 "BasketryOfficeModel" "now" "I") (by decide +kernel)) (fun _ h9 => h9) rfl dX7_link_72 ?_
  refine lv_iload_n hx hb dX7_link_75 rfl (lv_at hl 1 rfl) ?_
  refine lv_iload_n hx hb dX7_link_76 rfl (lv_at hl 2 rfl) ?_
  refine gc_S_i (As := [.int (nI (nw)), .int (nI (i)), .int (nI (o))]) (rest := [.ref a_mlc, .ref a_mod]) (c_X7_cell l) ⟨hx, hb, hml, hown, hts⟩ (va_cwS 3 hts gX7_link_X7_cell rfl rfl rfl (by decide +kernel) ⟨Nat.le_of_ble_eq_true rfl, Nat.le_of_ble_eq_true rfl⟩) hE hP hD hS hA rfl rfl hl.1 (Nat.le_of_ble_eq_true rfl) dX7_link_77 ⟨Nat.le_of_ble_eq_true rfl, Nat.le_of_ble_eq_true rfl⟩ (fun r_77 u_77 H locs hP hD hS q_77 => ?_)
  subst q_77
  refine g_nald hx hb hE hP _ f_mlc (by omega) (by decide) dX7_link_80 ?_
  have bd_80_1 := b_mlc (48 * (nw) + 4 * (i) + (o))
  refine g_if_le (tgt := 88) hx hb (by omega) dX7_link_81 (by decide) (fun c_81 => ?_) (fun c_81 => absurd c_81 (by omega))
  refine lv_aload_n hx hb dX7_link_88 rfl (lv_at hl 0 rfl) ?_
  refine va_get (D := D) (ci := 8) (v := .int (nI (0))) (C := RX7) (T := TX7) (N := 33) hx hb hts in_RX7 hown hE.1 (gv1 hP f_mod) 0 rfl rfl 0 (by decide) (hts (.fieldLink RX7 94 "BasketryOfficeModel" "thrown" "I") (by decide +kernel)) (fun _ h9 => h9) rfl dX7_link_89 ?_
  refine gv_set f_mod rfl (by rfl) (fun k9 h9 kk9 => va_put (D := D) (ci := 8) (v := .int (nI (0))) (ty := .int) (C := RX7) (T := TX7) (N := 33) hx hb hts in_RX7 tyX7 tyX7_ok nmX7 hown hE.1 hP hD hS k9 h9 rfl 0 (by decide) (hts (.fieldLink RX7 94 "BasketryOfficeModel" "thrown" "I") (by decide +kernel)) (fun _ h9 => h9) rfl (by decide +kernel) rfl rfl (Nat.le_of_ble_eq_true rfl) dX7_link_92 kk9) (fun H locs hP hD hS => ?_)
  have hP := g_trP g_ss hP
  have hD := g_trD g_ss hD
  have f_mod := g_eq (x := (a_mod, .inr (8, .int (nI (0)) :: .int (nI (n)) :: x_mod_2 :: x_mod_3 :: x_mod_4 :: .int (nI (nw)) :: x_mod_6 :: x_mod_7 :: x_mod_8 :: x_mod_9 :: x_mod_10 :: x_mod_11 :: .ref a_mlc :: .ref a_mlg :: x_mod_14 :: x_mod_15 :: x_mod_16 :: x_mod_17 :: x_mod_18 :: x_mod_19 :: x_mod_20 :: x_mod_21 :: x_mod_22 :: x_mod_23 :: x_mod_24 :: x_mod_25 :: x_mod_26 :: x_mod_27 :: x_mod_28 :: x_mod_29 :: x_mod_30 :: x_mod_31 :: x_mod_32 :: []))) (f0_mod)
  have f_mlc := g_ne (x := (a_mod, .inr (8, .int (nI (0)) :: .int (nI (n)) :: x_mod_2 :: x_mod_3 :: x_mod_4 :: .int (nI (nw)) :: x_mod_6 :: x_mod_7 :: x_mod_8 :: x_mod_9 :: x_mod_10 :: x_mod_11 :: .ref a_mlc :: .ref a_mlg :: x_mod_14 :: x_mod_15 :: x_mod_16 :: x_mod_17 :: x_mod_18 :: x_mod_19 :: x_mod_20 :: x_mod_21 :: x_mod_22 :: x_mod_23 :: x_mod_24 :: x_mod_25 :: x_mod_26 :: x_mod_27 :: x_mod_28 :: x_mod_29 :: x_mod_30 :: x_mod_31 :: x_mod_32 :: []))) (g_kne f0_mod f0_mlc (Nat.ne_of_beq_eq_false rfl)) (f0_mlc)
  have f_mlg := g_ne (x := (a_mod, .inr (8, .int (nI (0)) :: .int (nI (n)) :: x_mod_2 :: x_mod_3 :: x_mod_4 :: .int (nI (nw)) :: x_mod_6 :: x_mod_7 :: x_mod_8 :: x_mod_9 :: x_mod_10 :: x_mod_11 :: .ref a_mlc :: .ref a_mlg :: x_mod_14 :: x_mod_15 :: x_mod_16 :: x_mod_17 :: x_mod_18 :: x_mod_19 :: x_mod_20 :: x_mod_21 :: x_mod_22 :: x_mod_23 :: x_mod_24 :: x_mod_25 :: x_mod_26 :: x_mod_27 :: x_mod_28 :: x_mod_29 :: x_mod_30 :: x_mod_31 :: x_mod_32 :: []))) (g_kne f0_mod f0_mlg (Nat.ne_of_beq_eq_false rfl)) (f0_mlg)
  refine lv_aload_n hx hb dX7_link_95 rfl (lv_at hl 0 rfl) ?_
  refine va_get (D := D) (ci := 8) (v := .int (nI (0))) (C := RX7) (T := TX7) (N := 33) hx hb hts in_RX7 hown hE.1 (gv1 hP f_mod) 0 rfl rfl 0 (by decide) (hts (.fieldLink RX7 94 "BasketryOfficeModel" "thrown" "I") (by decide +kernel)) (fun _ h9 => h9) rfl dX7_link_96 ?_
  refine g_if_ne (tgt := 133) hx hb (by omega) dX7_link_99 (by decide) (fun c_99 => absurd c_99 (by omega)) (fun c_99 => ?_)
  refine lv_aload_n hx hb dX7_link_102 rfl (lv_at hl 0 rfl) ?_
  refine va_get (D := D) (ci := 8) (v := .ref a_mlc) (C := RX7) (T := TX7) (N := 33) hx hb hts in_RX7 hown hE.1 (gv1 hP f_mod) 0 rfl rfl 12 (by decide) (hts (.fieldLink RX7 32 "BasketryOfficeModel" "linkCents" "[I") (by decide +kernel)) (fun _ h9 => h9) rfl dX7_link_103 ?_
  refine lv_aload_n hx hb dX7_link_106 rfl (lv_at hl 0 rfl) ?_
  refine va_get (D := D) (ci := 8) (v := .int (nI (nw))) (C := RX7) (T := TX7) (N := 33) hx hb hts in_RX7 hown hE.1 (gv1 hP f_mod) 0 rfl rfl 5 (by decide) (hts (.fieldLink RX7 105 "BasketryOfficeModel" "now" "I") (by decide +kernel)) (fun _ h9 => h9) rfl dX7_link_107 ?_
  refine lv_iload_n hx hb dX7_link_110 rfl (lv_at hl 1 rfl) ?_
  refine lv_iload_n hx hb dX7_link_111 rfl (lv_at hl 2 rfl) ?_
  refine gc_S_i (As := [.int (nI (nw)), .int (nI (i)), .int (nI (o))]) (rest := [.ref a_mlc]) (c_X7_cell l) ⟨hx, hb, hml, hown, hts⟩ (va_cwS 3 hts gX7_link_X7_cell rfl rfl rfl (by decide +kernel) ⟨Nat.le_of_ble_eq_true rfl, Nat.le_of_ble_eq_true rfl⟩) hE hP hD hS hA rfl rfl hl.1 (Nat.le_of_ble_eq_true rfl) dX7_link_112 ⟨Nat.le_of_ble_eq_true rfl, Nat.le_of_ble_eq_true rfl⟩ (fun r_112 u_112 H locs hP hD hS q_112 => ?_)
  subst q_112
  refine lv_iload_n hx hb dX7_link_115 rfl (lv_at hl 3 rfl) ?_
  refine g_nast hx hb hE hP hD hS _ f_mlc (by omega) (by decide) dX7_link_116 (fun H locs hP hD hS => ?_)
  have f_mod := g_ne (x := (a_mlc, eN y 1152 (vf_upd mlc (48 * (nw) + 4 * (i) + (o)) (ce)))) (g_kne f0_mlc f0_mod (Nat.ne_of_beq_eq_false rfl)) (g_eq (x := (a_mod, .inr (8, .int (nI (0)) :: .int (nI (n)) :: x_mod_2 :: x_mod_3 :: x_mod_4 :: .int (nI (nw)) :: x_mod_6 :: x_mod_7 :: x_mod_8 :: x_mod_9 :: x_mod_10 :: x_mod_11 :: .ref a_mlc :: .ref a_mlg :: x_mod_14 :: x_mod_15 :: x_mod_16 :: x_mod_17 :: x_mod_18 :: x_mod_19 :: x_mod_20 :: x_mod_21 :: x_mod_22 :: x_mod_23 :: x_mod_24 :: x_mod_25 :: x_mod_26 :: x_mod_27 :: x_mod_28 :: x_mod_29 :: x_mod_30 :: x_mod_31 :: x_mod_32 :: []))) (f0_mod))
  have f_mlc := g_eq (x := (a_mlc, eN y 1152 (vf_upd mlc (48 * (nw) + 4 * (i) + (o)) (ce)))) (g_ne (x := (a_mod, .inr (8, .int (nI (0)) :: .int (nI (n)) :: x_mod_2 :: x_mod_3 :: x_mod_4 :: .int (nI (nw)) :: x_mod_6 :: x_mod_7 :: x_mod_8 :: x_mod_9 :: x_mod_10 :: x_mod_11 :: .ref a_mlc :: .ref a_mlg :: x_mod_14 :: x_mod_15 :: x_mod_16 :: x_mod_17 :: x_mod_18 :: x_mod_19 :: x_mod_20 :: x_mod_21 :: x_mod_22 :: x_mod_23 :: x_mod_24 :: x_mod_25 :: x_mod_26 :: x_mod_27 :: x_mod_28 :: x_mod_29 :: x_mod_30 :: x_mod_31 :: x_mod_32 :: []))) (g_kne f0_mod f0_mlc (Nat.ne_of_beq_eq_false rfl)) (f0_mlc))
  have f_mlg := g_ne (x := (a_mlc, eN y 1152 (vf_upd mlc (48 * (nw) + 4 * (i) + (o)) (ce)))) hdis (g_ne (x := (a_mod, .inr (8, .int (nI (0)) :: .int (nI (n)) :: x_mod_2 :: x_mod_3 :: x_mod_4 :: .int (nI (nw)) :: x_mod_6 :: x_mod_7 :: x_mod_8 :: x_mod_9 :: x_mod_10 :: x_mod_11 :: .ref a_mlc :: .ref a_mlg :: x_mod_14 :: x_mod_15 :: x_mod_16 :: x_mod_17 :: x_mod_18 :: x_mod_19 :: x_mod_20 :: x_mod_21 :: x_mod_22 :: x_mod_23 :: x_mod_24 :: x_mod_25 :: x_mod_26 :: x_mod_27 :: x_mod_28 :: x_mod_29 :: x_mod_30 :: x_mod_31 :: x_mod_32 :: []))) (g_kne f0_mod f0_mlg (Nat.ne_of_beq_eq_false rfl)) (f0_mlg))
  refine lv_aload_n hx hb dX7_link_117 rfl (lv_at hl 0 rfl) ?_
  refine va_get (D := D) (ci := 8) (v := .ref a_mlg) (C := RX7) (T := TX7) (N := 33) hx hb hts in_RX7 hown hE.1 (gv1 hP f_mod) 0 rfl rfl 13 (by decide) (hts (.fieldLink RX7 35 "BasketryOfficeModel" "linkGrams" "[I") (by decide +kernel)) (fun _ h9 => h9) rfl dX7_link_118 ?_
  refine lv_aload_n hx hb dX7_link_121 rfl (lv_at hl 0 rfl) ?_
  refine va_get (D := D) (ci := 8) (v := .int (nI (nw))) (C := RX7) (T := TX7) (N := 33) hx hb hts in_RX7 hown hE.1 (gv1 hP f_mod) 0 rfl rfl 5 (by decide) (hts (.fieldLink RX7 105 "BasketryOfficeModel" "now" "I") (by decide +kernel)) (fun _ h9 => h9) rfl dX7_link_122 ?_
  refine lv_iload_n hx hb dX7_link_125 rfl (lv_at hl 1 rfl) ?_
  refine lv_iload_n hx hb dX7_link_126 rfl (lv_at hl 2 rfl) ?_
  refine gc_S_i (As := [.int (nI (nw)), .int (nI (i)), .int (nI (o))]) (rest := [.ref a_mlg]) (c_X7_cell l) ⟨hx, hb, hml, hown, hts⟩ (va_cwS 3 hts gX7_link_X7_cell rfl rfl rfl (by decide +kernel) ⟨Nat.le_of_ble_eq_true rfl, Nat.le_of_ble_eq_true rfl⟩) hE hP hD hS hA rfl rfl hl.1 (Nat.le_of_ble_eq_true rfl) dX7_link_127 ⟨Nat.le_of_ble_eq_true rfl, Nat.le_of_ble_eq_true rfl⟩ (fun r_127 u_127 H locs hP hD hS q_127 => ?_)
  subst q_127
  refine lv_iload hx hb dX7_link_130 (lv_at hl 4 rfl) ?_
  refine g_nast hx hb hE hP hD hS _ f_mlg (by omega) (by decide) dX7_link_132 (fun H locs hP hD hS => ?_)
  have f_mod := g_ne (x := (a_mlg, eN y 1152 (vf_upd mlg (48 * (nw) + 4 * (i) + (o)) (gr)))) (g_kne f0_mlg f0_mod (Nat.ne_of_beq_eq_false rfl)) (g_ne (x := (a_mlc, eN y 1152 (vf_upd mlc (48 * (nw) + 4 * (i) + (o)) (ce)))) (g_kne f0_mlc f0_mod (Nat.ne_of_beq_eq_false rfl)) (g_eq (x := (a_mod, .inr (8, .int (nI (0)) :: .int (nI (n)) :: x_mod_2 :: x_mod_3 :: x_mod_4 :: .int (nI (nw)) :: x_mod_6 :: x_mod_7 :: x_mod_8 :: x_mod_9 :: x_mod_10 :: x_mod_11 :: .ref a_mlc :: .ref a_mlg :: x_mod_14 :: x_mod_15 :: x_mod_16 :: x_mod_17 :: x_mod_18 :: x_mod_19 :: x_mod_20 :: x_mod_21 :: x_mod_22 :: x_mod_23 :: x_mod_24 :: x_mod_25 :: x_mod_26 :: x_mod_27 :: x_mod_28 :: x_mod_29 :: x_mod_30 :: x_mod_31 :: x_mod_32 :: []))) (f0_mod)))
  have f_mlc := g_ne (x := (a_mlg, eN y 1152 (vf_upd mlg (48 * (nw) + 4 * (i) + (o)) (gr)))) (Ne.symm hdis) (g_eq (x := (a_mlc, eN y 1152 (vf_upd mlc (48 * (nw) + 4 * (i) + (o)) (ce)))) (g_ne (x := (a_mod, .inr (8, .int (nI (0)) :: .int (nI (n)) :: x_mod_2 :: x_mod_3 :: x_mod_4 :: .int (nI (nw)) :: x_mod_6 :: x_mod_7 :: x_mod_8 :: x_mod_9 :: x_mod_10 :: x_mod_11 :: .ref a_mlc :: .ref a_mlg :: x_mod_14 :: x_mod_15 :: x_mod_16 :: x_mod_17 :: x_mod_18 :: x_mod_19 :: x_mod_20 :: x_mod_21 :: x_mod_22 :: x_mod_23 :: x_mod_24 :: x_mod_25 :: x_mod_26 :: x_mod_27 :: x_mod_28 :: x_mod_29 :: x_mod_30 :: x_mod_31 :: x_mod_32 :: []))) (g_kne f0_mod f0_mlc (Nat.ne_of_beq_eq_false rfl)) (f0_mlc)))
  have f_mlg := g_eq (x := (a_mlg, eN y 1152 (vf_upd mlg (48 * (nw) + 4 * (i) + (o)) (gr)))) (g_ne (x := (a_mlc, eN y 1152 (vf_upd mlc (48 * (nw) + 4 * (i) + (o)) (ce)))) hdis (g_ne (x := (a_mod, .inr (8, .int (nI (0)) :: .int (nI (n)) :: x_mod_2 :: x_mod_3 :: x_mod_4 :: .int (nI (nw)) :: x_mod_6 :: x_mod_7 :: x_mod_8 :: x_mod_9 :: x_mod_10 :: x_mod_11 :: .ref a_mlc :: .ref a_mlg :: x_mod_14 :: x_mod_15 :: x_mod_16 :: x_mod_17 :: x_mod_18 :: x_mod_19 :: x_mod_20 :: x_mod_21 :: x_mod_22 :: x_mod_23 :: x_mod_24 :: x_mod_25 :: x_mod_26 :: x_mod_27 :: x_mod_28 :: x_mod_29 :: x_mod_30 :: x_mod_31 :: x_mod_32 :: []))) (g_kne f0_mod f0_mlg (Nat.ne_of_beq_eq_false rfl)) (f0_mlg)))
  refine g_vret hx hb hr hlocks () dX7_link_133 hS hP hD ?_
  exact trivial
