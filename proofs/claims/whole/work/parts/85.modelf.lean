theorem in_x0_X7_price_RX7 : ∀ w ∈ wsX70, w ∈ wsX7_price := by decide +kernel
set_option maxHeartbeats 4000000 in
set_option maxRecDepth 100000 in
theorem x0_X7_price (l : Launch) {D : va_G} {y : Nat → Nat} {ws : va_W} {x_mod_2 : Value} {x_mod_3 : Value} {x_mod_4 : Value} {x_mod_6 : Value} {x_mod_7 : Value} {x_mod_8 : Value} {x_mod_9 : Value} {x_mod_10 : Value} {x_mod_11 : Value} {x_mod_12 : Value} {x_mod_13 : Value} {x_mod_14 : Value} {x_mod_15 : Value} {x_mod_16 : Value} {x_mod_17 : Value} {x_mod_18 : Value} {x_mod_19 : Value} {x_mod_20 : Value} {x_mod_21 : Value} {x_mod_22 : Value} {x_mod_23 : Value} {x_mod_24 : Value} {x_mod_25 : Value} {x_mod_26 : Value} {x_mod_27 : Value} {x_mod_28 : Value} {x_mod_29 : Value} {x_mod_30 : Value} {x_mod_31 : Value} {x_mod_32 : Value} {p_mod a_mod : Nat} {i o t : Int32} {nw n th : Nat} (f0_mod : ws[p_mod]? = some (a_mod, .inr (8, .int (nI (th)) :: .int (nI (n)) :: x_mod_2 :: x_mod_3 :: x_mod_4 :: .int (nI (nw)) :: x_mod_6 :: x_mod_7 :: x_mod_8 :: x_mod_9 :: x_mod_10 :: x_mod_11 :: x_mod_12 :: x_mod_13 :: x_mod_14 :: x_mod_15 :: x_mod_16 :: x_mod_17 :: x_mod_18 :: x_mod_19 :: x_mod_20 :: x_mod_21 :: x_mod_22 :: x_mod_23 :: x_mod_24 :: x_mod_25 :: x_mod_26 :: x_mod_27 :: x_mod_28 :: x_mod_29 :: x_mod_30 :: x_mod_31 :: x_mod_32 :: []))) (hw : nw ≤ 24) (hn : n ≤ 12)  (hbad : i < 0 ∨ nI n ≤ i) : gMd l yX7_price wsX7_price ({ frames := 2, cells := 0, slots := 0, locals := 43 }) D y [.ref a_mod, .int (i), .int (o), .int (t)] ws (fun r (_ : Unit) => r = 0) (fun (_ : Unit) => (ws.set p_mod (a_mod, .inr (8, .int (nI (1)) :: .int (nI (n)) :: x_mod_2 :: x_mod_3 :: x_mod_4 :: .int (nI (nw)) :: x_mod_6 :: x_mod_7 :: x_mod_8 :: x_mod_9 :: x_mod_10 :: x_mod_11 :: x_mod_12 :: x_mod_13 :: x_mod_14 :: x_mod_15 :: x_mod_16 :: x_mod_17 :: x_mod_18 :: x_mod_19 :: x_mod_20 :: x_mod_21 :: x_mod_22 :: x_mod_23 :: x_mod_24 :: x_mod_25 :: x_mod_26 :: x_mod_27 :: x_mod_28 :: x_mod_29 :: x_mod_30 :: x_mod_31 :: x_mod_32 :: [])))) := by
  refine g_met_d (cc := cX7_price) (maxL := 4) (by decide) rfl (Nat.le_of_ble_eq_true rfl) ?_
  intro p e s m below meth c A hx hb hml hr hts hown hnm hlocks hE hP hD hS hA ls hl
  have hown : s.vm.findClass RX7 = some m.cls := hown
  have hl : lv_has ls 4 [(0, .ref a_mod), (1, .int (i)), (2, .int (o)), (3, .int (t))] := hl
  have in_RX7 := in_x0_X7_price_RX7
  refine lv_aload_n hx hb dX7_price_0 rfl (lv_at hl 0 rfl) ?_
  refine lv_aload_n hx hb dX7_price_1 rfl (lv_at hl 0 rfl) ?_
  refine lv_iload_n hx hb dX7_price_2 rfl (lv_at hl 1 rfl) ?_
  refine gc_V_i (As := [.int (i)]) (rest := [.ref a_mod]) (c_X7_isItem l f0_mod (by omega)) ⟨hx, hb, hml, hown, hts⟩ (cwV 1 hts gX7_price_X7_isItem rfl rfl rfl (by decide +kernel) ⟨Nat.le_of_ble_eq_true rfl, Nat.le_of_ble_eq_true rfl⟩) hE hP hD hS hA _ f0_mod rfl rfl rfl rfl hl.1 (Nat.le_of_ble_eq_true rfl) dX7_price_3 ⟨Nat.le_of_ble_eq_true rfl, Nat.le_of_ble_eq_true rfl⟩ (fun r_3 u_3 H locs hP hD hS q_3 => ?_)
  subst q_3
  refine g_bif_eq (tgt := 28) hx hb dX7_price_6 (by decide) (fun c_6 => ?_) (fun c_6 => absurd c_6 (by rw [decide_eq_false (fun z => z hbad)]; decide))
  refine lv_iconst (v := nI 1) hx hb dX7_price_28 (by decide) ?_
  refine gv_set f0_mod rfl (by rfl) (fun k9 h9 kk9 => va_put (D := D) (ci := 8) (v := .int (nI (1))) (ty := .int) (C := RX7) (T := TX7) (N := 33) hx hb hts in_RX7 tyX7 tyX7_ok nmX7 hown hE.1 hP hD hS k9 h9 rfl 0 (by decide) (hts (.fieldLink RX7 94 "BasketryOfficeModel" "thrown" "I") (by decide +kernel)) (fun _ h9 => h9) rfl (by decide +kernel) rfl rfl (Nat.le_of_ble_eq_true rfl) dX7_price_29 kk9) (fun H locs hP hD hS => ?_)
  have f_mod := g_eq (x := (a_mod, .inr (8, .int (nI (1)) :: .int (nI (n)) :: x_mod_2 :: x_mod_3 :: x_mod_4 :: .int (nI (nw)) :: x_mod_6 :: x_mod_7 :: x_mod_8 :: x_mod_9 :: x_mod_10 :: x_mod_11 :: x_mod_12 :: x_mod_13 :: x_mod_14 :: x_mod_15 :: x_mod_16 :: x_mod_17 :: x_mod_18 :: x_mod_19 :: x_mod_20 :: x_mod_21 :: x_mod_22 :: x_mod_23 :: x_mod_24 :: x_mod_25 :: x_mod_26 :: x_mod_27 :: x_mod_28 :: x_mod_29 :: x_mod_30 :: x_mod_31 :: x_mod_32 :: []))) (f0_mod)
  refine lv_aload_n hx hb dX7_price_32 rfl (lv_at hl 0 rfl) ?_
  refine va_get (D := D) (ci := 8) (v := .int (nI (1))) (C := RX7) (T := TX7) (N := 33) hx hb hts in_RX7 hown hE.1 (gv1 hP f_mod) 0 rfl rfl 0 (by decide) (hts (.fieldLink RX7 94 "BasketryOfficeModel" "thrown" "I") (by decide +kernel)) (fun _ h9 => h9) rfl dX7_price_33 ?_
  refine g_if_le (tgt := 43) hx hb (by omega) dX7_price_36 (by decide) (fun c_36 => absurd c_36 (by omega)) (fun c_36 => ?_)
  refine g_dconst0 hx hb dX7_price_39 ?_
  refine lv_goto (tgt := 54) hx hb dX7_price_40 (by decide) ?_
  refine g_dret hx hb hr hlocks () dX7_price_54 hS hP hD ?_
  exact rfl

theorem in_x1_X7_price_RX7 : ∀ w ∈ wsX70, w ∈ wsX7_price := by decide +kernel
set_option maxHeartbeats 4000000 in
set_option maxRecDepth 100000 in
theorem x1_X7_price (l : Launch) {D : va_G} {y : Nat → Nat} {ws : va_W} {x_mod_2 : Value} {x_mod_3 : Value} {x_mod_4 : Value} {x_mod_6 : Value} {x_mod_7 : Value} {x_mod_8 : Value} {x_mod_9 : Value} {x_mod_10 : Value} {x_mod_11 : Value} {x_mod_12 : Value} {x_mod_13 : Value} {x_mod_14 : Value} {x_mod_15 : Value} {x_mod_16 : Value} {x_mod_17 : Value} {x_mod_18 : Value} {x_mod_19 : Value} {x_mod_20 : Value} {x_mod_21 : Value} {x_mod_22 : Value} {x_mod_23 : Value} {x_mod_24 : Value} {x_mod_25 : Value} {x_mod_26 : Value} {x_mod_27 : Value} {x_mod_28 : Value} {x_mod_29 : Value} {x_mod_30 : Value} {x_mod_31 : Value} {x_mod_32 : Value} {p_mod a_mod : Nat} {i : Nat} {o t : Int32} {nw n th : Nat} (f0_mod : ws[p_mod]? = some (a_mod, .inr (8, .int (nI (th)) :: .int (nI (n)) :: x_mod_2 :: x_mod_3 :: x_mod_4 :: .int (nI (nw)) :: x_mod_6 :: x_mod_7 :: x_mod_8 :: x_mod_9 :: x_mod_10 :: x_mod_11 :: x_mod_12 :: x_mod_13 :: x_mod_14 :: x_mod_15 :: x_mod_16 :: x_mod_17 :: x_mod_18 :: x_mod_19 :: x_mod_20 :: x_mod_21 :: x_mod_22 :: x_mod_23 :: x_mod_24 :: x_mod_25 :: x_mod_26 :: x_mod_27 :: x_mod_28 :: x_mod_29 :: x_mod_30 :: x_mod_31 :: x_mod_32 :: []))) (hw : nw ≤ 24) (hn : n ≤ 12) (hi : i < n) (hbad : o < 0 ∨ nI 4 ≤ o) : gMd l yX7_price wsX7_price ({ frames := 2, cells := 0, slots := 0, locals := 43 }) D y [.ref a_mod, .int (nI (i)), .int (o), .int (t)] ws (fun r (_ : Unit) => r = 0) (fun (_ : Unit) => (ws.set p_mod (a_mod, .inr (8, .int (nI (1)) :: .int (nI (n)) :: x_mod_2 :: x_mod_3 :: x_mod_4 :: .int (nI (nw)) :: x_mod_6 :: x_mod_7 :: x_mod_8 :: x_mod_9 :: x_mod_10 :: x_mod_11 :: x_mod_12 :: x_mod_13 :: x_mod_14 :: x_mod_15 :: x_mod_16 :: x_mod_17 :: x_mod_18 :: x_mod_19 :: x_mod_20 :: x_mod_21 :: x_mod_22 :: x_mod_23 :: x_mod_24 :: x_mod_25 :: x_mod_26 :: x_mod_27 :: x_mod_28 :: x_mod_29 :: x_mod_30 :: x_mod_31 :: x_mod_32 :: [])))) := by
  refine g_met_d (cc := cX7_price) (maxL := 4) (by decide) rfl (Nat.le_of_ble_eq_true rfl) ?_
  intro p e s m below meth c A hx hb hml hr hts hown hnm hlocks hE hP hD hS hA ls hl
  have hown : s.vm.findClass RX7 = some m.cls := hown
  have hl : lv_has ls 4 [(0, .ref a_mod), (1, .int (nI (i))), (2, .int (o)), (3, .int (t))] := hl
  have in_RX7 := in_x1_X7_price_RX7
  refine lv_aload_n hx hb dX7_price_0 rfl (lv_at hl 0 rfl) ?_
  refine lv_aload_n hx hb dX7_price_1 rfl (lv_at hl 0 rfl) ?_
  refine lv_iload_n hx hb dX7_price_2 rfl (lv_at hl 1 rfl) ?_
  refine gc_V_i (As := [.int (nI (i))]) (rest := [.ref a_mod]) (c_X7_isItem l f0_mod (by omega)) ⟨hx, hb, hml, hown, hts⟩ (cwV 1 hts gX7_price_X7_isItem rfl rfl rfl (by decide +kernel) ⟨Nat.le_of_ble_eq_true rfl, Nat.le_of_ble_eq_true rfl⟩) hE hP hD hS hA _ f0_mod rfl rfl rfl rfl hl.1 (Nat.le_of_ble_eq_true rfl) dX7_price_3 ⟨Nat.le_of_ble_eq_true rfl, Nat.le_of_ble_eq_true rfl⟩ (fun r_3 u_3 H locs hP hD hS q_3 => ?_)
  subst q_3
  refine g_bif_eq (tgt := 28) hx hb dX7_price_6 (by decide) (fun c_6 => absurd c_6 (by rw [decide_eq_true (rq_lt hi (by omega))]; decide)) (fun c_6 => ?_)
  refine lv_iload_n hx hb dX7_price_9 rfl (lv_at hl 2 rfl) ?_
  refine gc_S_i (As := [.int (o)]) (rest := [.ref a_mod]) (c_X7_isOutlet l) ⟨hx, hb, hml, hown, hts⟩ (va_cwS 1 hts gX7_price_X7_isOutlet rfl rfl rfl (by decide +kernel) ⟨Nat.le_of_ble_eq_true rfl, Nat.le_of_ble_eq_true rfl⟩) hE hP hD hS hA rfl rfl hl.1 (Nat.le_of_ble_eq_true rfl) dX7_price_10 ⟨Nat.le_of_ble_eq_true rfl, Nat.le_of_ble_eq_true rfl⟩ (fun r_10 u_10 H locs hP hD hS q_10 => ?_)
  subst q_10
  refine g_bif_eq (tgt := 28) hx hb dX7_price_13 (by decide) (fun c_13 => ?_) (fun c_13 => absurd c_13 (by rw [decide_eq_false (fun z => z hbad)]; decide))
  refine lv_iconst (v := nI 1) hx hb dX7_price_28 (by decide) ?_
  refine gv_set f0_mod rfl (by rfl) (fun k9 h9 kk9 => va_put (D := D) (ci := 8) (v := .int (nI (1))) (ty := .int) (C := RX7) (T := TX7) (N := 33) hx hb hts in_RX7 tyX7 tyX7_ok nmX7 hown hE.1 hP hD hS k9 h9 rfl 0 (by decide) (hts (.fieldLink RX7 94 "BasketryOfficeModel" "thrown" "I") (by decide +kernel)) (fun _ h9 => h9) rfl (by decide +kernel) rfl rfl (Nat.le_of_ble_eq_true rfl) dX7_price_29 kk9) (fun H locs hP hD hS => ?_)
  have f_mod := g_eq (x := (a_mod, .inr (8, .int (nI (1)) :: .int (nI (n)) :: x_mod_2 :: x_mod_3 :: x_mod_4 :: .int (nI (nw)) :: x_mod_6 :: x_mod_7 :: x_mod_8 :: x_mod_9 :: x_mod_10 :: x_mod_11 :: x_mod_12 :: x_mod_13 :: x_mod_14 :: x_mod_15 :: x_mod_16 :: x_mod_17 :: x_mod_18 :: x_mod_19 :: x_mod_20 :: x_mod_21 :: x_mod_22 :: x_mod_23 :: x_mod_24 :: x_mod_25 :: x_mod_26 :: x_mod_27 :: x_mod_28 :: x_mod_29 :: x_mod_30 :: x_mod_31 :: x_mod_32 :: []))) (f0_mod)
  refine lv_aload_n hx hb dX7_price_32 rfl (lv_at hl 0 rfl) ?_
  refine va_get (D := D) (ci := 8) (v := .int (nI (1))) (C := RX7) (T := TX7) (N := 33) hx hb hts in_RX7 hown hE.1 (gv1 hP f_mod) 0 rfl rfl 0 (by decide) (hts (.fieldLink RX7 94 "BasketryOfficeModel" "thrown" "I") (by decide +kernel)) (fun _ h9 => h9) rfl dX7_price_33 ?_
  refine g_if_le (tgt := 43) hx hb (by omega) dX7_price_36 (by decide) (fun c_36 => absurd c_36 (by omega)) (fun c_36 => ?_)
  refine g_dconst0 hx hb dX7_price_39 ?_
  refine lv_goto (tgt := 54) hx hb dX7_price_40 (by decide) ?_
  refine g_dret hx hb hr hlocks () dX7_price_54 hS hP hD ?_
  exact rfl

theorem in_x2_X7_price_RX7 : ∀ w ∈ wsX70, w ∈ wsX7_price := by decide +kernel
set_option maxHeartbeats 4000000 in
set_option maxRecDepth 100000 in
theorem x2_X7_price (l : Launch) {D : va_G} {y : Nat → Nat} {ws : va_W} {x_mod_2 : Value} {x_mod_3 : Value} {x_mod_4 : Value} {x_mod_6 : Value} {x_mod_7 : Value} {x_mod_8 : Value} {x_mod_9 : Value} {x_mod_10 : Value} {x_mod_11 : Value} {x_mod_12 : Value} {x_mod_13 : Value} {x_mod_14 : Value} {x_mod_15 : Value} {x_mod_16 : Value} {x_mod_17 : Value} {x_mod_18 : Value} {x_mod_19 : Value} {x_mod_20 : Value} {x_mod_21 : Value} {x_mod_22 : Value} {x_mod_23 : Value} {x_mod_24 : Value} {x_mod_25 : Value} {x_mod_26 : Value} {x_mod_27 : Value} {x_mod_28 : Value} {x_mod_29 : Value} {x_mod_30 : Value} {x_mod_31 : Value} {x_mod_32 : Value} {p_mod a_mod : Nat} {i o : Nat} {t : Int32} {nw n th : Nat} (f0_mod : ws[p_mod]? = some (a_mod, .inr (8, .int (nI (th)) :: .int (nI (n)) :: x_mod_2 :: x_mod_3 :: x_mod_4 :: .int (nI (nw)) :: x_mod_6 :: x_mod_7 :: x_mod_8 :: x_mod_9 :: x_mod_10 :: x_mod_11 :: x_mod_12 :: x_mod_13 :: x_mod_14 :: x_mod_15 :: x_mod_16 :: x_mod_17 :: x_mod_18 :: x_mod_19 :: x_mod_20 :: x_mod_21 :: x_mod_22 :: x_mod_23 :: x_mod_24 :: x_mod_25 :: x_mod_26 :: x_mod_27 :: x_mod_28 :: x_mod_29 :: x_mod_30 :: x_mod_31 :: x_mod_32 :: []))) (hw : nw ≤ 24) (hn : n ≤ 12) (hi : i < n) (ho : o < 4) (hbad : t < 0 ∨ nI nw ≤ t) : gMd l yX7_price wsX7_price ({ frames := 2, cells := 0, slots := 0, locals := 43 }) D y [.ref a_mod, .int (nI (i)), .int (nI (o)), .int (t)] ws (fun r (_ : Unit) => r = 0) (fun (_ : Unit) => (ws.set p_mod (a_mod, .inr (8, .int (nI (1)) :: .int (nI (n)) :: x_mod_2 :: x_mod_3 :: x_mod_4 :: .int (nI (nw)) :: x_mod_6 :: x_mod_7 :: x_mod_8 :: x_mod_9 :: x_mod_10 :: x_mod_11 :: x_mod_12 :: x_mod_13 :: x_mod_14 :: x_mod_15 :: x_mod_16 :: x_mod_17 :: x_mod_18 :: x_mod_19 :: x_mod_20 :: x_mod_21 :: x_mod_22 :: x_mod_23 :: x_mod_24 :: x_mod_25 :: x_mod_26 :: x_mod_27 :: x_mod_28 :: x_mod_29 :: x_mod_30 :: x_mod_31 :: x_mod_32 :: [])))) := by
  refine g_met_d (cc := cX7_price) (maxL := 4) (by decide) rfl (Nat.le_of_ble_eq_true rfl) ?_
  intro p e s m below meth c A hx hb hml hr hts hown hnm hlocks hE hP hD hS hA ls hl
  have hown : s.vm.findClass RX7 = some m.cls := hown
  have hl : lv_has ls 4 [(0, .ref a_mod), (1, .int (nI (i))), (2, .int (nI (o))), (3, .int (t))] := hl
  have in_RX7 := in_x2_X7_price_RX7
  refine lv_aload_n hx hb dX7_price_0 rfl (lv_at hl 0 rfl) ?_
  refine lv_aload_n hx hb dX7_price_1 rfl (lv_at hl 0 rfl) ?_
  refine lv_iload_n hx hb dX7_price_2 rfl (lv_at hl 1 rfl) ?_
  refine gc_V_i (As := [.int (nI (i))]) (rest := [.ref a_mod]) (c_X7_isItem l f0_mod (by omega)) ⟨hx, hb, hml, hown, hts⟩ (cwV 1 hts gX7_price_X7_isItem rfl rfl rfl (by decide +kernel) ⟨Nat.le_of_ble_eq_true rfl, Nat.le_of_ble_eq_true rfl⟩) hE hP hD hS hA _ f0_mod rfl rfl rfl rfl hl.1 (Nat.le_of_ble_eq_true rfl) dX7_price_3 ⟨Nat.le_of_ble_eq_true rfl, Nat.le_of_ble_eq_true rfl⟩ (fun r_3 u_3 H locs hP hD hS q_3 => ?_)
  subst q_3
  refine g_bif_eq (tgt := 28) hx hb dX7_price_6 (by decide) (fun c_6 => absurd c_6 (by rw [decide_eq_true (rq_lt hi (by omega))]; decide)) (fun c_6 => ?_)
  refine lv_iload_n hx hb dX7_price_9 rfl (lv_at hl 2 rfl) ?_
  refine gc_S_i (As := [.int (nI (o))]) (rest := [.ref a_mod]) (c_X7_isOutlet l) ⟨hx, hb, hml, hown, hts⟩ (va_cwS 1 hts gX7_price_X7_isOutlet rfl rfl rfl (by decide +kernel) ⟨Nat.le_of_ble_eq_true rfl, Nat.le_of_ble_eq_true rfl⟩) hE hP hD hS hA rfl rfl hl.1 (Nat.le_of_ble_eq_true rfl) dX7_price_10 ⟨Nat.le_of_ble_eq_true rfl, Nat.le_of_ble_eq_true rfl⟩ (fun r_10 u_10 H locs hP hD hS q_10 => ?_)
  subst q_10
  refine g_bif_eq (tgt := 28) hx hb dX7_price_13 (by decide) (fun c_13 => absurd c_13 (by rw [decide_eq_true (rq_lt ho (by omega))]; decide)) (fun c_13 => ?_)
  refine lv_aload_n hx hb dX7_price_16 rfl (lv_at hl 0 rfl) ?_
  refine lv_iload_n hx hb dX7_price_17 rfl (lv_at hl 3 rfl) ?_
  refine gc_V_i (As := [.int (t)]) (rest := [.ref a_mod]) (c_X7_isPublished l f0_mod (by omega)) ⟨hx, hb, hml, hown, hts⟩ (cwV 1 hts gX7_price_X7_isPublished rfl rfl rfl (by decide +kernel) ⟨Nat.le_of_ble_eq_true rfl, Nat.le_of_ble_eq_true rfl⟩) hE hP hD hS hA _ f0_mod rfl rfl rfl rfl hl.1 (Nat.le_of_ble_eq_true rfl) dX7_price_18 ⟨Nat.le_of_ble_eq_true rfl, Nat.le_of_ble_eq_true rfl⟩ (fun r_18 u_18 H locs hP hD hS q_18 => ?_)
  subst q_18
  refine g_bif_eq (tgt := 28) hx hb dX7_price_21 (by decide) (fun c_21 => ?_) (fun c_21 => absurd c_21 (by rw [decide_eq_false (fun z => z hbad)]; decide))
  refine lv_iconst (v := nI 1) hx hb dX7_price_28 (by decide) ?_
  refine gv_set f0_mod rfl (by rfl) (fun k9 h9 kk9 => va_put (D := D) (ci := 8) (v := .int (nI (1))) (ty := .int) (C := RX7) (T := TX7) (N := 33) hx hb hts in_RX7 tyX7 tyX7_ok nmX7 hown hE.1 hP hD hS k9 h9 rfl 0 (by decide) (hts (.fieldLink RX7 94 "BasketryOfficeModel" "thrown" "I") (by decide +kernel)) (fun _ h9 => h9) rfl (by decide +kernel) rfl rfl (Nat.le_of_ble_eq_true rfl) dX7_price_29 kk9) (fun H locs hP hD hS => ?_)
  have f_mod := g_eq (x := (a_mod, .inr (8, .int (nI (1)) :: .int (nI (n)) :: x_mod_2 :: x_mod_3 :: x_mod_4 :: .int (nI (nw)) :: x_mod_6 :: x_mod_7 :: x_mod_8 :: x_mod_9 :: x_mod_10 :: x_mod_11 :: x_mod_12 :: x_mod_13 :: x_mod_14 :: x_mod_15 :: x_mod_16 :: x_mod_17 :: x_mod_18 :: x_mod_19 :: x_mod_20 :: x_mod_21 :: x_mod_22 :: x_mod_23 :: x_mod_24 :: x_mod_25 :: x_mod_26 :: x_mod_27 :: x_mod_28 :: x_mod_29 :: x_mod_30 :: x_mod_31 :: x_mod_32 :: []))) (f0_mod)
  refine lv_aload_n hx hb dX7_price_32 rfl (lv_at hl 0 rfl) ?_
  refine va_get (D := D) (ci := 8) (v := .int (nI (1))) (C := RX7) (T := TX7) (N := 33) hx hb hts in_RX7 hown hE.1 (gv1 hP f_mod) 0 rfl rfl 0 (by decide) (hts (.fieldLink RX7 94 "BasketryOfficeModel" "thrown" "I") (by decide +kernel)) (fun _ h9 => h9) rfl dX7_price_33 ?_
  refine g_if_le (tgt := 43) hx hb (by omega) dX7_price_36 (by decide) (fun c_36 => absurd c_36 (by omega)) (fun c_36 => ?_)
  refine g_dconst0 hx hb dX7_price_39 ?_
  refine lv_goto (tgt := 54) hx hb dX7_price_40 (by decide) ?_
  refine g_dret hx hb hr hlocks () dX7_price_54 hS hP hD ?_
  exact rfl

theorem in_c_X7_price_RX7 : ∀ w ∈ wsX70, w ∈ wsX7_price := by decide +kernel
set_option maxHeartbeats 4000000 in
set_option maxRecDepth 100000 in
theorem c_X7_price (l : Launch) {D : va_G} {y : Nat → Nat} {ws : va_W} {x_mod_2 : Value} {x_mod_3 : Value} {x_mod_4 : Value} {x_mod_6 : Value} {x_mod_7 : Value} {x_mod_8 : Value} {x_mod_9 : Value} {x_mod_10 : Value} {x_mod_11 : Value} {x_mod_12 : Value} {x_mod_13 : Value} {x_mod_14 : Value} {x_mod_15 : Value} {x_mod_16 : Value} {x_mod_18 : Value} {x_mod_19 : Value} {x_mod_20 : Value} {x_mod_21 : Value} {x_mod_22 : Value} {x_mod_23 : Value} {x_mod_24 : Value} {x_mod_25 : Value} {x_mod_26 : Value} {x_mod_27 : Value} {x_mod_28 : Value} {x_mod_29 : Value} {x_mod_30 : Value} {x_mod_31 : Value} {x_mod_32 : Value} {p_mod p_mpr a_mod a_mpr : Nat} {mpr : Nat → UInt64} {i o t : Nat} {nw n th : Nat} (f0_mod : ws[p_mod]? = some (a_mod, .inr (8, .int (nI (th)) :: .int (nI (n)) :: x_mod_2 :: x_mod_3 :: x_mod_4 :: .int (nI (nw)) :: x_mod_6 :: x_mod_7 :: x_mod_8 :: x_mod_9 :: x_mod_10 :: x_mod_11 :: x_mod_12 :: x_mod_13 :: x_mod_14 :: x_mod_15 :: x_mod_16 :: .ref a_mpr :: x_mod_18 :: x_mod_19 :: x_mod_20 :: x_mod_21 :: x_mod_22 :: x_mod_23 :: x_mod_24 :: x_mod_25 :: x_mod_26 :: x_mod_27 :: x_mod_28 :: x_mod_29 :: x_mod_30 :: x_mod_31 :: x_mod_32 :: []))) (f0_mpr : ws[p_mpr]? = some (a_mpr, eD y 2304 mpr)) (hw : nw ≤ 24) (hn : n ≤ 12) (hi : i < n) (ho : o < 4) (ht : t < nw) : gMd l yX7_price wsX7_price ({ frames := 2, cells := 0, slots := 0, locals := 43 }) D y [.ref a_mod, .int (nI (i)), .int (nI (o)), .int (nI (t))] ws (fun r (_ : Unit) => r = mpr (48 * t + 4 * i + o)) (fun (_ : Unit) => (ws.set p_mod (a_mod, .inr (8, .int (nI (0)) :: .int (nI (n)) :: x_mod_2 :: x_mod_3 :: x_mod_4 :: .int (nI (nw)) :: x_mod_6 :: x_mod_7 :: x_mod_8 :: x_mod_9 :: x_mod_10 :: x_mod_11 :: x_mod_12 :: x_mod_13 :: x_mod_14 :: x_mod_15 :: x_mod_16 :: .ref a_mpr :: x_mod_18 :: x_mod_19 :: x_mod_20 :: x_mod_21 :: x_mod_22 :: x_mod_23 :: x_mod_24 :: x_mod_25 :: x_mod_26 :: x_mod_27 :: x_mod_28 :: x_mod_29 :: x_mod_30 :: x_mod_31 :: x_mod_32 :: [])))) := by
  refine g_met_d (cc := cX7_price) (maxL := 4) (by decide) rfl (Nat.le_of_ble_eq_true rfl) ?_
  intro p e s m below meth c A hx hb hml hr hts hown hnm hlocks hE hP hD hS hA ls hl
  have hown : s.vm.findClass RX7 = some m.cls := hown
  have hl : lv_has ls 4 [(0, .ref a_mod), (1, .int (nI (i))), (2, .int (nI (o))), (3, .int (nI (t)))] := hl
  have in_RX7 := in_c_X7_price_RX7
  refine lv_aload_n hx hb dX7_price_0 rfl (lv_at hl 0 rfl) ?_
  refine lv_aload_n hx hb dX7_price_1 rfl (lv_at hl 0 rfl) ?_
  refine lv_iload_n hx hb dX7_price_2 rfl (lv_at hl 1 rfl) ?_
  refine gc_V_i (As := [.int (nI (i))]) (rest := [.ref a_mod]) (c_X7_isItem l f0_mod (by omega)) ⟨hx, hb, hml, hown, hts⟩ (cwV 1 hts gX7_price_X7_isItem rfl rfl rfl (by decide +kernel) ⟨Nat.le_of_ble_eq_true rfl, Nat.le_of_ble_eq_true rfl⟩) hE hP hD hS hA _ f0_mod rfl rfl rfl rfl hl.1 (Nat.le_of_ble_eq_true rfl) dX7_price_3 ⟨Nat.le_of_ble_eq_true rfl, Nat.le_of_ble_eq_true rfl⟩ (fun r_3 u_3 H locs hP hD hS q_3 => ?_)
  subst q_3
  refine g_bif_eq (tgt := 28) hx hb dX7_price_6 (by decide) (fun c_6 => absurd c_6 (by rw [decide_eq_true (rq_lt hi (by omega))]; decide)) (fun c_6 => ?_)
  refine lv_iload_n hx hb dX7_price_9 rfl (lv_at hl 2 rfl) ?_
  refine gc_S_i (As := [.int (nI (o))]) (rest := [.ref a_mod]) (c_X7_isOutlet l) ⟨hx, hb, hml, hown, hts⟩ (va_cwS 1 hts gX7_price_X7_isOutlet rfl rfl rfl (by decide +kernel) ⟨Nat.le_of_ble_eq_true rfl, Nat.le_of_ble_eq_true rfl⟩) hE hP hD hS hA rfl rfl hl.1 (Nat.le_of_ble_eq_true rfl) dX7_price_10 ⟨Nat.le_of_ble_eq_true rfl, Nat.le_of_ble_eq_true rfl⟩ (fun r_10 u_10 H locs hP hD hS q_10 => ?_)
  subst q_10
  refine g_bif_eq (tgt := 28) hx hb dX7_price_13 (by decide) (fun c_13 => absurd c_13 (by rw [decide_eq_true (rq_lt ho (by omega))]; decide)) (fun c_13 => ?_)
  refine lv_aload_n hx hb dX7_price_16 rfl (lv_at hl 0 rfl) ?_
  refine lv_iload_n hx hb dX7_price_17 rfl (lv_at hl 3 rfl) ?_
  refine gc_V_i (As := [.int (nI (t))]) (rest := [.ref a_mod]) (c_X7_isPublished l f0_mod (by omega)) ⟨hx, hb, hml, hown, hts⟩ (cwV 1 hts gX7_price_X7_isPublished rfl rfl rfl (by decide +kernel) ⟨Nat.le_of_ble_eq_true rfl, Nat.le_of_ble_eq_true rfl⟩) hE hP hD hS hA _ f0_mod rfl rfl rfl rfl hl.1 (Nat.le_of_ble_eq_true rfl) dX7_price_18 ⟨Nat.le_of_ble_eq_true rfl, Nat.le_of_ble_eq_true rfl⟩ (fun r_18 u_18 H locs hP hD hS q_18 => ?_)
  subst q_18
  refine g_bif_eq (tgt := 28) hx hb dX7_price_21 (by decide) (fun c_21 => absurd c_21 (by rw [decide_eq_true (rq_lt ht (by omega))]; decide)) (fun c_21 => ?_)
  refine lv_iconst (v := nI 0) hx hb dX7_price_24 (by decide) ?_
  refine lv_goto (tgt := 29) hx hb dX7_price_25 (by decide) ?_
  refine gv_set f0_mod rfl (by rfl) (fun k9 h9 kk9 => va_put (D := D) (ci := 8) (v := .int (nI (0))) (ty := .int) (C := RX7) (T := TX7) (N := 33) hx hb hts in_RX7 tyX7 tyX7_ok nmX7 hown hE.1 hP hD hS k9 h9 rfl 0 (by decide) (hts (.fieldLink RX7 94 "BasketryOfficeModel" "thrown" "I") (by decide +kernel)) (fun _ h9 => h9) rfl (by decide +kernel) rfl rfl (Nat.le_of_ble_eq_true rfl) dX7_price_29 kk9) (fun H locs hP hD hS => ?_)
  have f_mod := g_eq (x := (a_mod, .inr (8, .int (nI (0)) :: .int (nI (n)) :: x_mod_2 :: x_mod_3 :: x_mod_4 :: .int (nI (nw)) :: x_mod_6 :: x_mod_7 :: x_mod_8 :: x_mod_9 :: x_mod_10 :: x_mod_11 :: x_mod_12 :: x_mod_13 :: x_mod_14 :: x_mod_15 :: x_mod_16 :: .ref a_mpr :: x_mod_18 :: x_mod_19 :: x_mod_20 :: x_mod_21 :: x_mod_22 :: x_mod_23 :: x_mod_24 :: x_mod_25 :: x_mod_26 :: x_mod_27 :: x_mod_28 :: x_mod_29 :: x_mod_30 :: x_mod_31 :: x_mod_32 :: []))) (f0_mod)
  have f_mpr := g_ne (x := (a_mod, .inr (8, .int (nI (0)) :: .int (nI (n)) :: x_mod_2 :: x_mod_3 :: x_mod_4 :: .int (nI (nw)) :: x_mod_6 :: x_mod_7 :: x_mod_8 :: x_mod_9 :: x_mod_10 :: x_mod_11 :: x_mod_12 :: x_mod_13 :: x_mod_14 :: x_mod_15 :: x_mod_16 :: .ref a_mpr :: x_mod_18 :: x_mod_19 :: x_mod_20 :: x_mod_21 :: x_mod_22 :: x_mod_23 :: x_mod_24 :: x_mod_25 :: x_mod_26 :: x_mod_27 :: x_mod_28 :: x_mod_29 :: x_mod_30 :: x_mod_31 :: x_mod_32 :: []))) (g_kne f0_mod f0_mpr (Nat.ne_of_beq_eq_false rfl)) (f0_mpr)
  refine lv_aload_n hx hb dX7_price_32 rfl (lv_at hl 0 rfl) ?_
  refine va_get (D := D) (ci := 8) (v := .int (nI (0))) (C := RX7) (T := TX7) (N := 33) hx hb hts in_RX7 hown hE.1 (gv1 hP f_mod) 0 rfl rfl 0 (by decide) (hts (.fieldLink RX7 94 "BasketryOfficeModel" "thrown" "I") (by decide +kernel)) (fun _ h9 => h9) rfl dX7_price_33 ?_
  refine g_if_le (tgt := 43) hx hb (by omega) dX7_price_36 (by decide) (fun c_36 => ?_) (fun c_36 => absurd c_36 (by omega))
  refine lv_aload_n hx hb dX7_price_43 rfl (lv_at hl 0 rfl) ?_
  refine va_get (D := D) (ci := 8) (v := .ref a_mpr) (C := RX7) (T := TX7) (N := 33) hx hb hts in_RX7 hown hE.1 (gv1 hP f_mod) 0 rfl rfl 17 (by decide) (hts (.fieldLink RX7 47 "BasketryOfficeModel" "price" "[D") (by decide +kernel)) (fun _ h9 => h9) rfl dX7_price_44 ?_
  refine lv_iload_n hx hb dX7_price_47 rfl (lv_at hl 3 rfl) ?_
  refine lv_iload_n hx hb dX7_price_48 rfl (lv_at hl 1 rfl) ?_
  refine lv_iload_n hx hb dX7_price_49 rfl (lv_at hl 2 rfl) ?_
  refine gc_S_i (As := [.int (nI (t)), .int (nI (i)), .int (nI (o))]) (rest := [.ref a_mpr]) (c_X7_cell l) ⟨hx, hb, hml, hown, hts⟩ (va_cwS 3 hts gX7_price_X7_cell rfl rfl rfl (by decide +kernel) ⟨Nat.le_of_ble_eq_true rfl, Nat.le_of_ble_eq_true rfl⟩) hE hP hD hS hA rfl rfl hl.1 (Nat.le_of_ble_eq_true rfl) dX7_price_50 ⟨Nat.le_of_ble_eq_true rfl, Nat.le_of_ble_eq_true rfl⟩ (fun r_50 u_50 H locs hP hD hS q_50 => ?_)
  subst q_50
  refine g_dald hx hb hE hP _ f_mpr (by omega) (by decide) dX7_price_53 ?_
  refine g_dret hx hb hr hlocks () dX7_price_54 hS hP hD ?_
  exact rfl

theorem in_x0_X7_relative_RX7 : ∀ w ∈ wsX70, w ∈ wsX7_relative := by decide +kernel
set_option maxHeartbeats 4000000 in
set_option maxRecDepth 100000 in
theorem x0_X7_relative (l : Launch) {D : va_G} {y : Nat → Nat} {ws : va_W} {x_mod_2 : Value} {x_mod_3 : Value} {x_mod_4 : Value} {x_mod_6 : Value} {x_mod_7 : Value} {x_mod_8 : Value} {x_mod_9 : Value} {x_mod_10 : Value} {x_mod_11 : Value} {x_mod_12 : Value} {x_mod_13 : Value} {x_mod_14 : Value} {x_mod_15 : Value} {x_mod_16 : Value} {x_mod_17 : Value} {x_mod_18 : Value} {x_mod_19 : Value} {x_mod_20 : Value} {x_mod_21 : Value} {x_mod_22 : Value} {x_mod_23 : Value} {x_mod_24 : Value} {x_mod_25 : Value} {x_mod_26 : Value} {x_mod_27 : Value} {x_mod_28 : Value} {x_mod_29 : Value} {x_mod_30 : Value} {x_mod_31 : Value} {x_mod_32 : Value} {p_mod a_mod : Nat} {i t : Int32} {nw n th : Nat} (f0_mod : ws[p_mod]? = some (a_mod, .inr (8, .int (nI (th)) :: .int (nI (n)) :: x_mod_2 :: x_mod_3 :: x_mod_4 :: .int (nI (nw)) :: x_mod_6 :: x_mod_7 :: x_mod_8 :: x_mod_9 :: x_mod_10 :: x_mod_11 :: x_mod_12 :: x_mod_13 :: x_mod_14 :: x_mod_15 :: x_mod_16 :: x_mod_17 :: x_mod_18 :: x_mod_19 :: x_mod_20 :: x_mod_21 :: x_mod_22 :: x_mod_23 :: x_mod_24 :: x_mod_25 :: x_mod_26 :: x_mod_27 :: x_mod_28 :: x_mod_29 :: x_mod_30 :: x_mod_31 :: x_mod_32 :: []))) (hw : nw ≤ 24) (hn : n ≤ 12)  (hbad : i < 0 ∨ nI n ≤ i) : gMd l yX7_relative wsX7_relative ({ frames := 2, cells := 0, slots := 0, locals := 43 }) D y [.ref a_mod, .int (i), .int (t)] ws (fun r (_ : Unit) => r = 0) (fun (_ : Unit) => (ws.set p_mod (a_mod, .inr (8, .int (nI (1)) :: .int (nI (n)) :: x_mod_2 :: x_mod_3 :: x_mod_4 :: .int (nI (nw)) :: x_mod_6 :: x_mod_7 :: x_mod_8 :: x_mod_9 :: x_mod_10 :: x_mod_11 :: x_mod_12 :: x_mod_13 :: x_mod_14 :: x_mod_15 :: x_mod_16 :: x_mod_17 :: x_mod_18 :: x_mod_19 :: x_mod_20 :: x_mod_21 :: x_mod_22 :: x_mod_23 :: x_mod_24 :: x_mod_25 :: x_mod_26 :: x_mod_27 :: x_mod_28 :: x_mod_29 :: x_mod_30 :: x_mod_31 :: x_mod_32 :: [])))) := by
  refine g_met_d (cc := cX7_relative) (maxL := 3) (by decide) rfl (Nat.le_of_ble_eq_true rfl) ?_
  intro p e s m below meth c A hx hb hml hr hts hown hnm hlocks hE hP hD hS hA ls hl
  have hown : s.vm.findClass RX7 = some m.cls := hown
  have hl : lv_has ls 3 [(0, .ref a_mod), (1, .int (i)), (2, .int (t))] := hl
  have in_RX7 := in_x0_X7_relative_RX7
  refine lv_aload_n hx hb dX7_relative_0 rfl (lv_at hl 0 rfl) ?_
  refine lv_aload_n hx hb dX7_relative_1 rfl (lv_at hl 0 rfl) ?_
  refine lv_iload_n hx hb dX7_relative_2 rfl (lv_at hl 1 rfl) ?_
  refine gc_V_i (As := [.int (i)]) (rest := [.ref a_mod]) (c_X7_isItem l f0_mod (by omega)) ⟨hx, hb, hml, hown, hts⟩ (cwV 1 hts gX7_relative_X7_isItem rfl rfl rfl (by decide +kernel) ⟨Nat.le_of_ble_eq_true rfl, Nat.le_of_ble_eq_true rfl⟩) hE hP hD hS hA _ f0_mod rfl rfl rfl rfl hl.1 (Nat.le_of_ble_eq_true rfl) dX7_relative_3 ⟨Nat.le_of_ble_eq_true rfl, Nat.le_of_ble_eq_true rfl⟩ (fun r_3 u_3 H locs hP hD hS q_3 => ?_)
  subst q_3
  refine g_bif_eq (tgt := 21) hx hb dX7_relative_6 (by decide) (fun c_6 => ?_) (fun c_6 => absurd c_6 (by rw [decide_eq_false (fun z => z hbad)]; decide))
  refine lv_iconst (v := nI 1) hx hb dX7_relative_21 (by decide) ?_
  refine gv_set f0_mod rfl (by rfl) (fun k9 h9 kk9 => va_put (D := D) (ci := 8) (v := .int (nI (1))) (ty := .int) (C := RX7) (T := TX7) (N := 33) hx hb hts in_RX7 tyX7 tyX7_ok nmX7 hown hE.1 hP hD hS k9 h9 rfl 0 (by decide) (hts (.fieldLink RX7 94 "BasketryOfficeModel" "thrown" "I") (by decide +kernel)) (fun _ h9 => h9) rfl (by decide +kernel) rfl rfl (Nat.le_of_ble_eq_true rfl) dX7_relative_22 kk9) (fun H locs hP hD hS => ?_)
  have f_mod := g_eq (x := (a_mod, .inr (8, .int (nI (1)) :: .int (nI (n)) :: x_mod_2 :: x_mod_3 :: x_mod_4 :: .int (nI (nw)) :: x_mod_6 :: x_mod_7 :: x_mod_8 :: x_mod_9 :: x_mod_10 :: x_mod_11 :: x_mod_12 :: x_mod_13 :: x_mod_14 :: x_mod_15 :: x_mod_16 :: x_mod_17 :: x_mod_18 :: x_mod_19 :: x_mod_20 :: x_mod_21 :: x_mod_22 :: x_mod_23 :: x_mod_24 :: x_mod_25 :: x_mod_26 :: x_mod_27 :: x_mod_28 :: x_mod_29 :: x_mod_30 :: x_mod_31 :: x_mod_32 :: []))) (f0_mod)
  refine lv_aload_n hx hb dX7_relative_25 rfl (lv_at hl 0 rfl) ?_
  refine va_get (D := D) (ci := 8) (v := .int (nI (1))) (C := RX7) (T := TX7) (N := 33) hx hb hts in_RX7 hown hE.1 (gv1 hP f_mod) 0 rfl rfl 0 (by decide) (hts (.fieldLink RX7 94 "BasketryOfficeModel" "thrown" "I") (by decide +kernel)) (fun _ h9 => h9) rfl dX7_relative_26 ?_
  refine g_if_le (tgt := 36) hx hb (by omega) dX7_relative_29 (by decide) (fun c_29 => absurd c_29 (by omega)) (fun c_29 => ?_)
  refine g_dconst0 hx hb dX7_relative_32 ?_
  refine lv_goto (tgt := 47) hx hb dX7_relative_33 (by decide) ?_
  refine g_dret hx hb hr hlocks () dX7_relative_47 hS hP hD ?_
  exact rfl

theorem in_x1_X7_relative_RX7 : ∀ w ∈ wsX70, w ∈ wsX7_relative := by decide +kernel
set_option maxHeartbeats 4000000 in
set_option maxRecDepth 100000 in
theorem x1_X7_relative (l : Launch) {D : va_G} {y : Nat → Nat} {ws : va_W} {x_mod_2 : Value} {x_mod_3 : Value} {x_mod_4 : Value} {x_mod_6 : Value} {x_mod_7 : Value} {x_mod_8 : Value} {x_mod_9 : Value} {x_mod_10 : Value} {x_mod_11 : Value} {x_mod_12 : Value} {x_mod_13 : Value} {x_mod_14 : Value} {x_mod_15 : Value} {x_mod_16 : Value} {x_mod_17 : Value} {x_mod_18 : Value} {x_mod_19 : Value} {x_mod_20 : Value} {x_mod_21 : Value} {x_mod_22 : Value} {x_mod_23 : Value} {x_mod_24 : Value} {x_mod_25 : Value} {x_mod_26 : Value} {x_mod_27 : Value} {x_mod_28 : Value} {x_mod_29 : Value} {x_mod_30 : Value} {x_mod_31 : Value} {x_mod_32 : Value} {p_mod a_mod : Nat} {i : Nat} {t : Int32} {nw n th : Nat} (f0_mod : ws[p_mod]? = some (a_mod, .inr (8, .int (nI (th)) :: .int (nI (n)) :: x_mod_2 :: x_mod_3 :: x_mod_4 :: .int (nI (nw)) :: x_mod_6 :: x_mod_7 :: x_mod_8 :: x_mod_9 :: x_mod_10 :: x_mod_11 :: x_mod_12 :: x_mod_13 :: x_mod_14 :: x_mod_15 :: x_mod_16 :: x_mod_17 :: x_mod_18 :: x_mod_19 :: x_mod_20 :: x_mod_21 :: x_mod_22 :: x_mod_23 :: x_mod_24 :: x_mod_25 :: x_mod_26 :: x_mod_27 :: x_mod_28 :: x_mod_29 :: x_mod_30 :: x_mod_31 :: x_mod_32 :: []))) (hw : nw ≤ 24) (hn : n ≤ 12) (hi : i < n) (hbad : t < 0 ∨ nI nw ≤ t) : gMd l yX7_relative wsX7_relative ({ frames := 2, cells := 0, slots := 0, locals := 43 }) D y [.ref a_mod, .int (nI (i)), .int (t)] ws (fun r (_ : Unit) => r = 0) (fun (_ : Unit) => (ws.set p_mod (a_mod, .inr (8, .int (nI (1)) :: .int (nI (n)) :: x_mod_2 :: x_mod_3 :: x_mod_4 :: .int (nI (nw)) :: x_mod_6 :: x_mod_7 :: x_mod_8 :: x_mod_9 :: x_mod_10 :: x_mod_11 :: x_mod_12 :: x_mod_13 :: x_mod_14 :: x_mod_15 :: x_mod_16 :: x_mod_17 :: x_mod_18 :: x_mod_19 :: x_mod_20 :: x_mod_21 :: x_mod_22 :: x_mod_23 :: x_mod_24 :: x_mod_25 :: x_mod_26 :: x_mod_27 :: x_mod_28 :: x_mod_29 :: x_mod_30 :: x_mod_31 :: x_mod_32 :: [])))) := by
  refine g_met_d (cc := cX7_relative) (maxL := 3) (by decide) rfl (Nat.le_of_ble_eq_true rfl) ?_
  intro p e s m below meth c A hx hb hml hr hts hown hnm hlocks hE hP hD hS hA ls hl
  have hown : s.vm.findClass RX7 = some m.cls := hown
  have hl : lv_has ls 3 [(0, .ref a_mod), (1, .int (nI (i))), (2, .int (t))] := hl
  have in_RX7 := in_x1_X7_relative_RX7
  refine lv_aload_n hx hb dX7_relative_0 rfl (lv_at hl 0 rfl) ?_
  refine lv_aload_n hx hb dX7_relative_1 rfl (lv_at hl 0 rfl) ?_
  refine lv_iload_n hx hb dX7_relative_2 rfl (lv_at hl 1 rfl) ?_
  refine gc_V_i (As := [.int (nI (i))]) (rest := [.ref a_mod]) (c_X7_isItem l f0_mod (by omega)) ⟨hx, hb, hml, hown, hts⟩ (cwV 1 hts gX7_relative_X7_isItem rfl rfl rfl (by decide +kernel) ⟨Nat.le_of_ble_eq_true rfl, Nat.le_of_ble_eq_true rfl⟩) hE hP hD hS hA _ f0_mod rfl rfl rfl rfl hl.1 (Nat.le_of_ble_eq_true rfl) dX7_relative_3 ⟨Nat.le_of_ble_eq_true rfl, Nat.le_of_ble_eq_true rfl⟩ (fun r_3 u_3 H locs hP hD hS q_3 => ?_)
  subst q_3
  refine g_bif_eq (tgt := 21) hx hb dX7_relative_6 (by decide) (fun c_6 => absurd c_6 (by rw [decide_eq_true (rq_lt hi (by omega))]; decide)) (fun c_6 => ?_)
  refine lv_aload_n hx hb dX7_relative_9 rfl (lv_at hl 0 rfl) ?_
  refine lv_iload_n hx hb dX7_relative_10 rfl (lv_at hl 2 rfl) ?_
  refine gc_V_i (As := [.int (t)]) (rest := [.ref a_mod]) (c_X7_isPublished l f0_mod (by omega)) ⟨hx, hb, hml, hown, hts⟩ (cwV 1 hts gX7_relative_X7_isPublished rfl rfl rfl (by decide +kernel) ⟨Nat.le_of_ble_eq_true rfl, Nat.le_of_ble_eq_true rfl⟩) hE hP hD hS hA _ f0_mod rfl rfl rfl rfl hl.1 (Nat.le_of_ble_eq_true rfl) dX7_relative_11 ⟨Nat.le_of_ble_eq_true rfl, Nat.le_of_ble_eq_true rfl⟩ (fun r_11 u_11 H locs hP hD hS q_11 => ?_)
  subst q_11
  refine g_bif_eq (tgt := 21) hx hb dX7_relative_14 (by decide) (fun c_14 => ?_) (fun c_14 => absurd c_14 (by rw [decide_eq_false (fun z => z hbad)]; decide))
  refine lv_iconst (v := nI 1) hx hb dX7_relative_21 (by decide) ?_
  refine gv_set f0_mod rfl (by rfl) (fun k9 h9 kk9 => va_put (D := D) (ci := 8) (v := .int (nI (1))) (ty := .int) (C := RX7) (T := TX7) (N := 33) hx hb hts in_RX7 tyX7 tyX7_ok nmX7 hown hE.1 hP hD hS k9 h9 rfl 0 (by decide) (hts (.fieldLink RX7 94 "BasketryOfficeModel" "thrown" "I") (by decide +kernel)) (fun _ h9 => h9) rfl (by decide +kernel) rfl rfl (Nat.le_of_ble_eq_true rfl) dX7_relative_22 kk9) (fun H locs hP hD hS => ?_)
  have f_mod := g_eq (x := (a_mod, .inr (8, .int (nI (1)) :: .int (nI (n)) :: x_mod_2 :: x_mod_3 :: x_mod_4 :: .int (nI (nw)) :: x_mod_6 :: x_mod_7 :: x_mod_8 :: x_mod_9 :: x_mod_10 :: x_mod_11 :: x_mod_12 :: x_mod_13 :: x_mod_14 :: x_mod_15 :: x_mod_16 :: x_mod_17 :: x_mod_18 :: x_mod_19 :: x_mod_20 :: x_mod_21 :: x_mod_22 :: x_mod_23 :: x_mod_24 :: x_mod_25 :: x_mod_26 :: x_mod_27 :: x_mod_28 :: x_mod_29 :: x_mod_30 :: x_mod_31 :: x_mod_32 :: []))) (f0_mod)
  refine lv_aload_n hx hb dX7_relative_25 rfl (lv_at hl 0 rfl) ?_
  refine va_get (D := D) (ci := 8) (v := .int (nI (1))) (C := RX7) (T := TX7) (N := 33) hx hb hts in_RX7 hown hE.1 (gv1 hP f_mod) 0 rfl rfl 0 (by decide) (hts (.fieldLink RX7 94 "BasketryOfficeModel" "thrown" "I") (by decide +kernel)) (fun _ h9 => h9) rfl dX7_relative_26 ?_
  refine g_if_le (tgt := 36) hx hb (by omega) dX7_relative_29 (by decide) (fun c_29 => absurd c_29 (by omega)) (fun c_29 => ?_)
  refine g_dconst0 hx hb dX7_relative_32 ?_
  refine lv_goto (tgt := 47) hx hb dX7_relative_33 (by decide) ?_
  refine g_dret hx hb hr hlocks () dX7_relative_47 hS hP hD ?_
  exact rfl

theorem in_c_X7_relative_RX7 : ∀ w ∈ wsX70, w ∈ wsX7_relative := by decide +kernel
set_option maxHeartbeats 4000000 in
set_option maxRecDepth 100000 in
theorem c_X7_relative (l : Launch) {D : va_G} {y : Nat → Nat} {ws : va_W} {x_mod_2 : Value} {x_mod_3 : Value} {x_mod_4 : Value} {x_mod_6 : Value} {x_mod_7 : Value} {x_mod_8 : Value} {x_mod_9 : Value} {x_mod_10 : Value} {x_mod_11 : Value} {x_mod_12 : Value} {x_mod_13 : Value} {x_mod_14 : Value} {x_mod_15 : Value} {x_mod_16 : Value} {x_mod_17 : Value} {x_mod_18 : Value} {x_mod_20 : Value} {x_mod_21 : Value} {x_mod_22 : Value} {x_mod_23 : Value} {x_mod_24 : Value} {x_mod_25 : Value} {x_mod_26 : Value} {x_mod_27 : Value} {x_mod_28 : Value} {x_mod_29 : Value} {x_mod_30 : Value} {x_mod_31 : Value} {x_mod_32 : Value} {p_mod p_mre a_mod a_mre : Nat} {mre : Nat → UInt64} {i t : Nat} {nw n th : Nat} (f0_mod : ws[p_mod]? = some (a_mod, .inr (8, .int (nI (th)) :: .int (nI (n)) :: x_mod_2 :: x_mod_3 :: x_mod_4 :: .int (nI (nw)) :: x_mod_6 :: x_mod_7 :: x_mod_8 :: x_mod_9 :: x_mod_10 :: x_mod_11 :: x_mod_12 :: x_mod_13 :: x_mod_14 :: x_mod_15 :: x_mod_16 :: x_mod_17 :: x_mod_18 :: .ref a_mre :: x_mod_20 :: x_mod_21 :: x_mod_22 :: x_mod_23 :: x_mod_24 :: x_mod_25 :: x_mod_26 :: x_mod_27 :: x_mod_28 :: x_mod_29 :: x_mod_30 :: x_mod_31 :: x_mod_32 :: []))) (f0_mre : ws[p_mre]? = some (a_mre, eD y 576 mre)) (hw : nw ≤ 24) (hn : n ≤ 12) (hi : i < n) (ht : t < nw) : gMd l yX7_relative wsX7_relative ({ frames := 2, cells := 0, slots := 0, locals := 43 }) D y [.ref a_mod, .int (nI (i)), .int (nI (t))] ws (fun r (_ : Unit) => r = mre (12 * t + i)) (fun (_ : Unit) => (ws.set p_mod (a_mod, .inr (8, .int (nI (0)) :: .int (nI (n)) :: x_mod_2 :: x_mod_3 :: x_mod_4 :: .int (nI (nw)) :: x_mod_6 :: x_mod_7 :: x_mod_8 :: x_mod_9 :: x_mod_10 :: x_mod_11 :: x_mod_12 :: x_mod_13 :: x_mod_14 :: x_mod_15 :: x_mod_16 :: x_mod_17 :: x_mod_18 :: .ref a_mre :: x_mod_20 :: x_mod_21 :: x_mod_22 :: x_mod_23 :: x_mod_24 :: x_mod_25 :: x_mod_26 :: x_mod_27 :: x_mod_28 :: x_mod_29 :: x_mod_30 :: x_mod_31 :: x_mod_32 :: [])))) := by
  refine g_met_d (cc := cX7_relative) (maxL := 3) (by decide) rfl (Nat.le_of_ble_eq_true rfl) ?_
  intro p e s m below meth c A hx hb hml hr hts hown hnm hlocks hE hP hD hS hA ls hl
  have hown : s.vm.findClass RX7 = some m.cls := hown
  have hl : lv_has ls 3 [(0, .ref a_mod), (1, .int (nI (i))), (2, .int (nI (t)))] := hl
  have in_RX7 := in_c_X7_relative_RX7
  refine lv_aload_n hx hb dX7_relative_0 rfl (lv_at hl 0 rfl) ?_
  refine lv_aload_n hx hb dX7_relative_1 rfl (lv_at hl 0 rfl) ?_
  refine lv_iload_n hx hb dX7_relative_2 rfl (lv_at hl 1 rfl) ?_
  refine gc_V_i (As := [.int (nI (i))]) (rest := [.ref a_mod]) (c_X7_isItem l f0_mod (by omega)) ⟨hx, hb, hml, hown, hts⟩ (cwV 1 hts gX7_relative_X7_isItem rfl rfl rfl (by decide +kernel) ⟨Nat.le_of_ble_eq_true rfl, Nat.le_of_ble_eq_true rfl⟩) hE hP hD hS hA _ f0_mod rfl rfl rfl rfl hl.1 (Nat.le_of_ble_eq_true rfl) dX7_relative_3 ⟨Nat.le_of_ble_eq_true rfl, Nat.le_of_ble_eq_true rfl⟩ (fun r_3 u_3 H locs hP hD hS q_3 => ?_)
  subst q_3
  refine g_bif_eq (tgt := 21) hx hb dX7_relative_6 (by decide) (fun c_6 => absurd c_6 (by rw [decide_eq_true (rq_lt hi (by omega))]; decide)) (fun c_6 => ?_)
  refine lv_aload_n hx hb dX7_relative_9 rfl (lv_at hl 0 rfl) ?_
  refine lv_iload_n hx hb dX7_relative_10 rfl (lv_at hl 2 rfl) ?_
  refine gc_V_i (As := [.int (nI (t))]) (rest := [.ref a_mod]) (c_X7_isPublished l f0_mod (by omega)) ⟨hx, hb, hml, hown, hts⟩ (cwV 1 hts gX7_relative_X7_isPublished rfl rfl rfl (by decide +kernel) ⟨Nat.le_of_ble_eq_true rfl, Nat.le_of_ble_eq_true rfl⟩) hE hP hD hS hA _ f0_mod rfl rfl rfl rfl hl.1 (Nat.le_of_ble_eq_true rfl) dX7_relative_11 ⟨Nat.le_of_ble_eq_true rfl, Nat.le_of_ble_eq_true rfl⟩ (fun r_11 u_11 H locs hP hD hS q_11 => ?_)
  subst q_11
  refine g_bif_eq (tgt := 21) hx hb dX7_relative_14 (by decide) (fun c_14 => absurd c_14 (by rw [decide_eq_true (rq_lt ht (by omega))]; decide)) (fun c_14 => ?_)
  refine lv_iconst (v := nI 0) hx hb dX7_relative_17 (by decide) ?_
  refine lv_goto (tgt := 22) hx hb dX7_relative_18 (by decide) ?_
  refine gv_set f0_mod rfl (by rfl) (fun k9 h9 kk9 => va_put (D := D) (ci := 8) (v := .int (nI (0))) (ty := .int) (C := RX7) (T := TX7) (N := 33) hx hb hts in_RX7 tyX7 tyX7_ok nmX7 hown hE.1 hP hD hS k9 h9 rfl 0 (by decide) (hts (.fieldLink RX7 94 "BasketryOfficeModel" "thrown" "I") (by decide +kernel)) (fun _ h9 => h9) rfl (by decide +kernel) rfl rfl (Nat.le_of_ble_eq_true rfl) dX7_relative_22 kk9) (fun H locs hP hD hS => ?_)
  have f_mod := g_eq (x := (a_mod, .inr (8, .int (nI (0)) :: .int (nI (n)) :: x_mod_2 :: x_mod_3 :: x_mod_4 :: .int (nI (nw)) :: x_mod_6 :: x_mod_7 :: x_mod_8 :: x_mod_9 :: x_mod_10 :: x_mod_11 :: x_mod_12 :: x_mod_13 :: x_mod_14 :: x_mod_15 :: x_mod_16 :: x_mod_17 :: x_mod_18 :: .ref a_mre :: x_mod_20 :: x_mod_21 :: x_mod_22 :: x_mod_23 :: x_mod_24 :: x_mod_25 :: x_mod_26 :: x_mod_27 :: x_mod_28 :: x_mod_29 :: x_mod_30 :: x_mod_31 :: x_mod_32 :: []))) (f0_mod)
  have f_mre := g_ne (x := (a_mod, .inr (8, .int (nI (0)) :: .int (nI (n)) :: x_mod_2 :: x_mod_3 :: x_mod_4 :: .int (nI (nw)) :: x_mod_6 :: x_mod_7 :: x_mod_8 :: x_mod_9 :: x_mod_10 :: x_mod_11 :: x_mod_12 :: x_mod_13 :: x_mod_14 :: x_mod_15 :: x_mod_16 :: x_mod_17 :: x_mod_18 :: .ref a_mre :: x_mod_20 :: x_mod_21 :: x_mod_22 :: x_mod_23 :: x_mod_24 :: x_mod_25 :: x_mod_26 :: x_mod_27 :: x_mod_28 :: x_mod_29 :: x_mod_30 :: x_mod_31 :: x_mod_32 :: []))) (g_kne f0_mod f0_mre (Nat.ne_of_beq_eq_false rfl)) (f0_mre)
  refine lv_aload_n hx hb dX7_relative_25 rfl (lv_at hl 0 rfl) ?_
  refine va_get (D := D) (ci := 8) (v := .int (nI (0))) (C := RX7) (T := TX7) (N := 33) hx hb hts in_RX7 hown hE.1 (gv1 hP f_mod) 0 rfl rfl 0 (by decide) (hts (.fieldLink RX7 94 "BasketryOfficeModel" "thrown" "I") (by decide +kernel)) (fun _ h9 => h9) rfl dX7_relative_26 ?_
  refine g_if_le (tgt := 36) hx hb (by omega) dX7_relative_29 (by decide) (fun c_29 => ?_) (fun c_29 => absurd c_29 (by omega))
  refine lv_aload_n hx hb dX7_relative_36 rfl (lv_at hl 0 rfl) ?_
  refine va_get (D := D) (ci := 8) (v := .ref a_mre) (C := RX7) (T := TX7) (N := 33) hx hb hts in_RX7 hown hE.1 (gv1 hP f_mod) 0 rfl rfl 19 (by decide) (hts (.fieldLink RX7 54 "BasketryOfficeModel" "relative" "[D") (by decide +kernel)) (fun _ h9 => h9) rfl dX7_relative_37 ?_
  refine lv_bipush (v := nI 12) hx hb dX7_relative_40 (by decide) ?_
  refine lv_iload_n hx hb dX7_relative_42 rfl (lv_at hl 2 rfl) ?_
  refine g_imul hx hb dX7_relative_43 (pk_mul _ _) ?_
  refine lv_iload_n hx hb dX7_relative_44 rfl (lv_at hl 1 rfl) ?_
  refine g_iadd hx hb dX7_relative_45 (nI_add _ _) ?_
  refine g_dald hx hb hE hP _ f_mre (by omega) (by decide) dX7_relative_46 ?_
  refine g_dret hx hb hr hlocks () dX7_relative_47 hS hP hD ?_
  exact rfl

theorem in_x0_X7_ofGroup_RX7 : ∀ w ∈ wsX70, w ∈ wsX7_ofGroup := by decide +kernel
set_option maxHeartbeats 4000000 in
set_option maxRecDepth 100000 in
theorem x0_X7_ofGroup (l : Launch) {D : va_G} {y : Nat → Nat} {ws : va_W} {x_mod_2 : Value} {x_mod_3 : Value} {x_mod_4 : Value} {x_mod_6 : Value} {x_mod_7 : Value} {x_mod_8 : Value} {x_mod_9 : Value} {x_mod_10 : Value} {x_mod_11 : Value} {x_mod_12 : Value} {x_mod_13 : Value} {x_mod_14 : Value} {x_mod_15 : Value} {x_mod_16 : Value} {x_mod_17 : Value} {x_mod_18 : Value} {x_mod_19 : Value} {x_mod_20 : Value} {x_mod_21 : Value} {x_mod_22 : Value} {x_mod_23 : Value} {x_mod_24 : Value} {x_mod_25 : Value} {x_mod_26 : Value} {x_mod_27 : Value} {x_mod_28 : Value} {x_mod_29 : Value} {x_mod_30 : Value} {x_mod_31 : Value} {x_mod_32 : Value} {p_mod a_mod : Nat} {g t : Int32} {nw n th : Nat} (f0_mod : ws[p_mod]? = some (a_mod, .inr (8, .int (nI (th)) :: .int (nI (n)) :: x_mod_2 :: x_mod_3 :: x_mod_4 :: .int (nI (nw)) :: x_mod_6 :: x_mod_7 :: x_mod_8 :: x_mod_9 :: x_mod_10 :: x_mod_11 :: x_mod_12 :: x_mod_13 :: x_mod_14 :: x_mod_15 :: x_mod_16 :: x_mod_17 :: x_mod_18 :: x_mod_19 :: x_mod_20 :: x_mod_21 :: x_mod_22 :: x_mod_23 :: x_mod_24 :: x_mod_25 :: x_mod_26 :: x_mod_27 :: x_mod_28 :: x_mod_29 :: x_mod_30 :: x_mod_31 :: x_mod_32 :: []))) (hw : nw ≤ 24) (hn : n ≤ 12)  (hbad : g < 0 ∨ nI 4 ≤ g) : gMd l yX7_ofGroup wsX7_ofGroup ({ frames := 2, cells := 0, slots := 0, locals := 42 }) D y [.ref a_mod, .int (g), .int (t)] ws (fun r (_ : Unit) => r = 0) (fun (_ : Unit) => (ws.set p_mod (a_mod, .inr (8, .int (nI (1)) :: .int (nI (n)) :: x_mod_2 :: x_mod_3 :: x_mod_4 :: .int (nI (nw)) :: x_mod_6 :: x_mod_7 :: x_mod_8 :: x_mod_9 :: x_mod_10 :: x_mod_11 :: x_mod_12 :: x_mod_13 :: x_mod_14 :: x_mod_15 :: x_mod_16 :: x_mod_17 :: x_mod_18 :: x_mod_19 :: x_mod_20 :: x_mod_21 :: x_mod_22 :: x_mod_23 :: x_mod_24 :: x_mod_25 :: x_mod_26 :: x_mod_27 :: x_mod_28 :: x_mod_29 :: x_mod_30 :: x_mod_31 :: x_mod_32 :: [])))) := by
  refine g_met_d (cc := cX7_ofGroup) (maxL := 3) (by decide) rfl (Nat.le_of_ble_eq_true rfl) ?_
  intro p e s m below meth c A hx hb hml hr hts hown hnm hlocks hE hP hD hS hA ls hl
  have hown : s.vm.findClass RX7 = some m.cls := hown
  have hl : lv_has ls 3 [(0, .ref a_mod), (1, .int (g)), (2, .int (t))] := hl
  have in_RX7 := in_x0_X7_ofGroup_RX7
  refine lv_aload_n hx hb dX7_ofGroup_0 rfl (lv_at hl 0 rfl) ?_
  refine lv_iload_n hx hb dX7_ofGroup_1 rfl (lv_at hl 1 rfl) ?_
  refine gc_S_i (As := [.int (g)]) (rest := [.ref a_mod]) (c_X7_isGroup l) ⟨hx, hb, hml, hown, hts⟩ (va_cwS 1 hts gX7_ofGroup_X7_isGroup rfl rfl rfl (by decide +kernel) ⟨Nat.le_of_ble_eq_true rfl, Nat.le_of_ble_eq_true rfl⟩) hE hP hD hS hA rfl rfl hl.1 (Nat.le_of_ble_eq_true rfl) dX7_ofGroup_2 ⟨Nat.le_of_ble_eq_true rfl, Nat.le_of_ble_eq_true rfl⟩ (fun r_2 u_2 H locs hP hD hS q_2 => ?_)
  subst q_2
  refine g_bif_eq (tgt := 20) hx hb dX7_ofGroup_5 (by decide) (fun c_5 => ?_) (fun c_5 => absurd c_5 (by rw [decide_eq_false (fun z => z hbad)]; decide))
  refine lv_iconst (v := nI 1) hx hb dX7_ofGroup_20 (by decide) ?_
  refine gv_set f0_mod rfl (by rfl) (fun k9 h9 kk9 => va_put (D := D) (ci := 8) (v := .int (nI (1))) (ty := .int) (C := RX7) (T := TX7) (N := 33) hx hb hts in_RX7 tyX7 tyX7_ok nmX7 hown hE.1 hP hD hS k9 h9 rfl 0 (by decide) (hts (.fieldLink RX7 94 "BasketryOfficeModel" "thrown" "I") (by decide +kernel)) (fun _ h9 => h9) rfl (by decide +kernel) rfl rfl (Nat.le_of_ble_eq_true rfl) dX7_ofGroup_21 kk9) (fun H locs hP hD hS => ?_)
  have f_mod := g_eq (x := (a_mod, .inr (8, .int (nI (1)) :: .int (nI (n)) :: x_mod_2 :: x_mod_3 :: x_mod_4 :: .int (nI (nw)) :: x_mod_6 :: x_mod_7 :: x_mod_8 :: x_mod_9 :: x_mod_10 :: x_mod_11 :: x_mod_12 :: x_mod_13 :: x_mod_14 :: x_mod_15 :: x_mod_16 :: x_mod_17 :: x_mod_18 :: x_mod_19 :: x_mod_20 :: x_mod_21 :: x_mod_22 :: x_mod_23 :: x_mod_24 :: x_mod_25 :: x_mod_26 :: x_mod_27 :: x_mod_28 :: x_mod_29 :: x_mod_30 :: x_mod_31 :: x_mod_32 :: []))) (f0_mod)
  refine lv_aload_n hx hb dX7_ofGroup_24 rfl (lv_at hl 0 rfl) ?_
  refine va_get (D := D) (ci := 8) (v := .int (nI (1))) (C := RX7) (T := TX7) (N := 33) hx hb hts in_RX7 hown hE.1 (gv1 hP f_mod) 0 rfl rfl 0 (by decide) (hts (.fieldLink RX7 94 "BasketryOfficeModel" "thrown" "I") (by decide +kernel)) (fun _ h9 => h9) rfl dX7_ofGroup_25 ?_
  refine g_if_le (tgt := 35) hx hb (by omega) dX7_ofGroup_28 (by decide) (fun c_28 => absurd c_28 (by omega)) (fun c_28 => ?_)
  refine g_dconst0 hx hb dX7_ofGroup_31 ?_
  refine lv_goto (tgt := 45) hx hb dX7_ofGroup_32 (by decide) ?_
  refine g_dret hx hb hr hlocks () dX7_ofGroup_45 hS hP hD ?_
  exact rfl

theorem in_x1_X7_ofGroup_RX7 : ∀ w ∈ wsX70, w ∈ wsX7_ofGroup := by decide +kernel
set_option maxHeartbeats 4000000 in
set_option maxRecDepth 100000 in
theorem x1_X7_ofGroup (l : Launch) {D : va_G} {y : Nat → Nat} {ws : va_W} {x_mod_2 : Value} {x_mod_3 : Value} {x_mod_4 : Value} {x_mod_6 : Value} {x_mod_7 : Value} {x_mod_8 : Value} {x_mod_9 : Value} {x_mod_10 : Value} {x_mod_11 : Value} {x_mod_12 : Value} {x_mod_13 : Value} {x_mod_14 : Value} {x_mod_15 : Value} {x_mod_16 : Value} {x_mod_17 : Value} {x_mod_18 : Value} {x_mod_19 : Value} {x_mod_20 : Value} {x_mod_21 : Value} {x_mod_22 : Value} {x_mod_23 : Value} {x_mod_24 : Value} {x_mod_25 : Value} {x_mod_26 : Value} {x_mod_27 : Value} {x_mod_28 : Value} {x_mod_29 : Value} {x_mod_30 : Value} {x_mod_31 : Value} {x_mod_32 : Value} {p_mod a_mod : Nat} {g : Nat} {t : Int32} {nw n th : Nat} (f0_mod : ws[p_mod]? = some (a_mod, .inr (8, .int (nI (th)) :: .int (nI (n)) :: x_mod_2 :: x_mod_3 :: x_mod_4 :: .int (nI (nw)) :: x_mod_6 :: x_mod_7 :: x_mod_8 :: x_mod_9 :: x_mod_10 :: x_mod_11 :: x_mod_12 :: x_mod_13 :: x_mod_14 :: x_mod_15 :: x_mod_16 :: x_mod_17 :: x_mod_18 :: x_mod_19 :: x_mod_20 :: x_mod_21 :: x_mod_22 :: x_mod_23 :: x_mod_24 :: x_mod_25 :: x_mod_26 :: x_mod_27 :: x_mod_28 :: x_mod_29 :: x_mod_30 :: x_mod_31 :: x_mod_32 :: []))) (hw : nw ≤ 24) (hn : n ≤ 12) (hg : g < 4) (hbad : t < 0 ∨ nI nw ≤ t) : gMd l yX7_ofGroup wsX7_ofGroup ({ frames := 2, cells := 0, slots := 0, locals := 43 }) D y [.ref a_mod, .int (nI (g)), .int (t)] ws (fun r (_ : Unit) => r = 0) (fun (_ : Unit) => (ws.set p_mod (a_mod, .inr (8, .int (nI (1)) :: .int (nI (n)) :: x_mod_2 :: x_mod_3 :: x_mod_4 :: .int (nI (nw)) :: x_mod_6 :: x_mod_7 :: x_mod_8 :: x_mod_9 :: x_mod_10 :: x_mod_11 :: x_mod_12 :: x_mod_13 :: x_mod_14 :: x_mod_15 :: x_mod_16 :: x_mod_17 :: x_mod_18 :: x_mod_19 :: x_mod_20 :: x_mod_21 :: x_mod_22 :: x_mod_23 :: x_mod_24 :: x_mod_25 :: x_mod_26 :: x_mod_27 :: x_mod_28 :: x_mod_29 :: x_mod_30 :: x_mod_31 :: x_mod_32 :: [])))) := by
  refine g_met_d (cc := cX7_ofGroup) (maxL := 3) (by decide) rfl (Nat.le_of_ble_eq_true rfl) ?_
  intro p e s m below meth c A hx hb hml hr hts hown hnm hlocks hE hP hD hS hA ls hl
  have hown : s.vm.findClass RX7 = some m.cls := hown
  have hl : lv_has ls 3 [(0, .ref a_mod), (1, .int (nI (g))), (2, .int (t))] := hl
  have in_RX7 := in_x1_X7_ofGroup_RX7
  refine lv_aload_n hx hb dX7_ofGroup_0 rfl (lv_at hl 0 rfl) ?_
  refine lv_iload_n hx hb dX7_ofGroup_1 rfl (lv_at hl 1 rfl) ?_
  refine gc_S_i (As := [.int (nI (g))]) (rest := [.ref a_mod]) (c_X7_isGroup l) ⟨hx, hb, hml, hown, hts⟩ (va_cwS 1 hts gX7_ofGroup_X7_isGroup rfl rfl rfl (by decide +kernel) ⟨Nat.le_of_ble_eq_true rfl, Nat.le_of_ble_eq_true rfl⟩) hE hP hD hS hA rfl rfl hl.1 (Nat.le_of_ble_eq_true rfl) dX7_ofGroup_2 ⟨Nat.le_of_ble_eq_true rfl, Nat.le_of_ble_eq_true rfl⟩ (fun r_2 u_2 H locs hP hD hS q_2 => ?_)
  subst q_2
  refine g_bif_eq (tgt := 20) hx hb dX7_ofGroup_5 (by decide) (fun c_5 => absurd c_5 (by rw [decide_eq_true (rq_lt hg (by omega))]; decide)) (fun c_5 => ?_)
  refine lv_aload_n hx hb dX7_ofGroup_8 rfl (lv_at hl 0 rfl) ?_
  refine lv_iload_n hx hb dX7_ofGroup_9 rfl (lv_at hl 2 rfl) ?_
  refine gc_V_i (As := [.int (t)]) (rest := [.ref a_mod]) (c_X7_isPublished l f0_mod (by omega)) ⟨hx, hb, hml, hown, hts⟩ (cwV 1 hts gX7_ofGroup_X7_isPublished rfl rfl rfl (by decide +kernel) ⟨Nat.le_of_ble_eq_true rfl, Nat.le_of_ble_eq_true rfl⟩) hE hP hD hS hA _ f0_mod rfl rfl rfl rfl hl.1 (Nat.le_of_ble_eq_true rfl) dX7_ofGroup_10 ⟨Nat.le_of_ble_eq_true rfl, Nat.le_of_ble_eq_true rfl⟩ (fun r_10 u_10 H locs hP hD hS q_10 => ?_)
  subst q_10
  refine g_bif_eq (tgt := 20) hx hb dX7_ofGroup_13 (by decide) (fun c_13 => ?_) (fun c_13 => absurd c_13 (by rw [decide_eq_false (fun z => z hbad)]; decide))
  refine lv_iconst (v := nI 1) hx hb dX7_ofGroup_20 (by decide) ?_
  refine gv_set f0_mod rfl (by rfl) (fun k9 h9 kk9 => va_put (D := D) (ci := 8) (v := .int (nI (1))) (ty := .int) (C := RX7) (T := TX7) (N := 33) hx hb hts in_RX7 tyX7 tyX7_ok nmX7 hown hE.1 hP hD hS k9 h9 rfl 0 (by decide) (hts (.fieldLink RX7 94 "BasketryOfficeModel" "thrown" "I") (by decide +kernel)) (fun _ h9 => h9) rfl (by decide +kernel) rfl rfl (Nat.le_of_ble_eq_true rfl) dX7_ofGroup_21 kk9) (fun H locs hP hD hS => ?_)
  have f_mod := g_eq (x := (a_mod, .inr (8, .int (nI (1)) :: .int (nI (n)) :: x_mod_2 :: x_mod_3 :: x_mod_4 :: .int (nI (nw)) :: x_mod_6 :: x_mod_7 :: x_mod_8 :: x_mod_9 :: x_mod_10 :: x_mod_11 :: x_mod_12 :: x_mod_13 :: x_mod_14 :: x_mod_15 :: x_mod_16 :: x_mod_17 :: x_mod_18 :: x_mod_19 :: x_mod_20 :: x_mod_21 :: x_mod_22 :: x_mod_23 :: x_mod_24 :: x_mod_25 :: x_mod_26 :: x_mod_27 :: x_mod_28 :: x_mod_29 :: x_mod_30 :: x_mod_31 :: x_mod_32 :: []))) (f0_mod)
  refine lv_aload_n hx hb dX7_ofGroup_24 rfl (lv_at hl 0 rfl) ?_
  refine va_get (D := D) (ci := 8) (v := .int (nI (1))) (C := RX7) (T := TX7) (N := 33) hx hb hts in_RX7 hown hE.1 (gv1 hP f_mod) 0 rfl rfl 0 (by decide) (hts (.fieldLink RX7 94 "BasketryOfficeModel" "thrown" "I") (by decide +kernel)) (fun _ h9 => h9) rfl dX7_ofGroup_25 ?_
  refine g_if_le (tgt := 35) hx hb (by omega) dX7_ofGroup_28 (by decide) (fun c_28 => absurd c_28 (by omega)) (fun c_28 => ?_)
  refine g_dconst0 hx hb dX7_ofGroup_31 ?_
  refine lv_goto (tgt := 45) hx hb dX7_ofGroup_32 (by decide) ?_
  refine g_dret hx hb hr hlocks () dX7_ofGroup_45 hS hP hD ?_
  exact rfl

theorem in_c_X7_ofGroup_RX7 : ∀ w ∈ wsX70, w ∈ wsX7_ofGroup := by decide +kernel
set_option maxHeartbeats 4000000 in
set_option maxRecDepth 100000 in
theorem c_X7_ofGroup (l : Launch) {D : va_G} {y : Nat → Nat} {ws : va_W} {x_mod_2 : Value} {x_mod_3 : Value} {x_mod_4 : Value} {x_mod_6 : Value} {x_mod_7 : Value} {x_mod_8 : Value} {x_mod_9 : Value} {x_mod_10 : Value} {x_mod_11 : Value} {x_mod_12 : Value} {x_mod_13 : Value} {x_mod_14 : Value} {x_mod_15 : Value} {x_mod_16 : Value} {x_mod_17 : Value} {x_mod_18 : Value} {x_mod_19 : Value} {x_mod_21 : Value} {x_mod_22 : Value} {x_mod_23 : Value} {x_mod_24 : Value} {x_mod_25 : Value} {x_mod_26 : Value} {x_mod_27 : Value} {x_mod_28 : Value} {x_mod_29 : Value} {x_mod_30 : Value} {x_mod_31 : Value} {x_mod_32 : Value} {p_mod p_mog a_mod a_mog : Nat} {mog : Nat → UInt64} {g t : Nat} {nw n th : Nat} (f0_mod : ws[p_mod]? = some (a_mod, .inr (8, .int (nI (th)) :: .int (nI (n)) :: x_mod_2 :: x_mod_3 :: x_mod_4 :: .int (nI (nw)) :: x_mod_6 :: x_mod_7 :: x_mod_8 :: x_mod_9 :: x_mod_10 :: x_mod_11 :: x_mod_12 :: x_mod_13 :: x_mod_14 :: x_mod_15 :: x_mod_16 :: x_mod_17 :: x_mod_18 :: x_mod_19 :: .ref a_mog :: x_mod_21 :: x_mod_22 :: x_mod_23 :: x_mod_24 :: x_mod_25 :: x_mod_26 :: x_mod_27 :: x_mod_28 :: x_mod_29 :: x_mod_30 :: x_mod_31 :: x_mod_32 :: []))) (f0_mog : ws[p_mog]? = some (a_mog, eD y 192 mog)) (hw : nw ≤ 24) (hn : n ≤ 12) (hg : g < 4) (ht : t < nw) : gMd l yX7_ofGroup wsX7_ofGroup ({ frames := 2, cells := 0, slots := 0, locals := 43 }) D y [.ref a_mod, .int (nI (g)), .int (nI (t))] ws (fun r (_ : Unit) => r = mog (4 * t + g)) (fun (_ : Unit) => (ws.set p_mod (a_mod, .inr (8, .int (nI (0)) :: .int (nI (n)) :: x_mod_2 :: x_mod_3 :: x_mod_4 :: .int (nI (nw)) :: x_mod_6 :: x_mod_7 :: x_mod_8 :: x_mod_9 :: x_mod_10 :: x_mod_11 :: x_mod_12 :: x_mod_13 :: x_mod_14 :: x_mod_15 :: x_mod_16 :: x_mod_17 :: x_mod_18 :: x_mod_19 :: .ref a_mog :: x_mod_21 :: x_mod_22 :: x_mod_23 :: x_mod_24 :: x_mod_25 :: x_mod_26 :: x_mod_27 :: x_mod_28 :: x_mod_29 :: x_mod_30 :: x_mod_31 :: x_mod_32 :: [])))) := by
  refine g_met_d (cc := cX7_ofGroup) (maxL := 3) (by decide) rfl (Nat.le_of_ble_eq_true rfl) ?_
  intro p e s m below meth c A hx hb hml hr hts hown hnm hlocks hE hP hD hS hA ls hl
  have hown : s.vm.findClass RX7 = some m.cls := hown
  have hl : lv_has ls 3 [(0, .ref a_mod), (1, .int (nI (g))), (2, .int (nI (t)))] := hl
  have in_RX7 := in_c_X7_ofGroup_RX7
  refine lv_aload_n hx hb dX7_ofGroup_0 rfl (lv_at hl 0 rfl) ?_
  refine lv_iload_n hx hb dX7_ofGroup_1 rfl (lv_at hl 1 rfl) ?_
  refine gc_S_i (As := [.int (nI (g))]) (rest := [.ref a_mod]) (c_X7_isGroup l) ⟨hx, hb, hml, hown, hts⟩ (va_cwS 1 hts gX7_ofGroup_X7_isGroup rfl rfl rfl (by decide +kernel) ⟨Nat.le_of_ble_eq_true rfl, Nat.le_of_ble_eq_true rfl⟩) hE hP hD hS hA rfl rfl hl.1 (Nat.le_of_ble_eq_true rfl) dX7_ofGroup_2 ⟨Nat.le_of_ble_eq_true rfl, Nat.le_of_ble_eq_true rfl⟩ (fun r_2 u_2 H locs hP hD hS q_2 => ?_)
  subst q_2
  refine g_bif_eq (tgt := 20) hx hb dX7_ofGroup_5 (by decide) (fun c_5 => absurd c_5 (by rw [decide_eq_true (rq_lt hg (by omega))]; decide)) (fun c_5 => ?_)
  refine lv_aload_n hx hb dX7_ofGroup_8 rfl (lv_at hl 0 rfl) ?_
  refine lv_iload_n hx hb dX7_ofGroup_9 rfl (lv_at hl 2 rfl) ?_
  refine gc_V_i (As := [.int (nI (t))]) (rest := [.ref a_mod]) (c_X7_isPublished l f0_mod (by omega)) ⟨hx, hb, hml, hown, hts⟩ (cwV 1 hts gX7_ofGroup_X7_isPublished rfl rfl rfl (by decide +kernel) ⟨Nat.le_of_ble_eq_true rfl, Nat.le_of_ble_eq_true rfl⟩) hE hP hD hS hA _ f0_mod rfl rfl rfl rfl hl.1 (Nat.le_of_ble_eq_true rfl) dX7_ofGroup_10 ⟨Nat.le_of_ble_eq_true rfl, Nat.le_of_ble_eq_true rfl⟩ (fun r_10 u_10 H locs hP hD hS q_10 => ?_)
  subst q_10
  refine g_bif_eq (tgt := 20) hx hb dX7_ofGroup_13 (by decide) (fun c_13 => absurd c_13 (by rw [decide_eq_true (rq_lt ht (by omega))]; decide)) (fun c_13 => ?_)
  refine lv_iconst (v := nI 0) hx hb dX7_ofGroup_16 (by decide) ?_
  refine lv_goto (tgt := 21) hx hb dX7_ofGroup_17 (by decide) ?_
  refine gv_set f0_mod rfl (by rfl) (fun k9 h9 kk9 => va_put (D := D) (ci := 8) (v := .int (nI (0))) (ty := .int) (C := RX7) (T := TX7) (N := 33) hx hb hts in_RX7 tyX7 tyX7_ok nmX7 hown hE.1 hP hD hS k9 h9 rfl 0 (by decide) (hts (.fieldLink RX7 94 "BasketryOfficeModel" "thrown" "I") (by decide +kernel)) (fun _ h9 => h9) rfl (by decide +kernel) rfl rfl (Nat.le_of_ble_eq_true rfl) dX7_ofGroup_21 kk9) (fun H locs hP hD hS => ?_)
  have f_mod := g_eq (x := (a_mod, .inr (8, .int (nI (0)) :: .int (nI (n)) :: x_mod_2 :: x_mod_3 :: x_mod_4 :: .int (nI (nw)) :: x_mod_6 :: x_mod_7 :: x_mod_8 :: x_mod_9 :: x_mod_10 :: x_mod_11 :: x_mod_12 :: x_mod_13 :: x_mod_14 :: x_mod_15 :: x_mod_16 :: x_mod_17 :: x_mod_18 :: x_mod_19 :: .ref a_mog :: x_mod_21 :: x_mod_22 :: x_mod_23 :: x_mod_24 :: x_mod_25 :: x_mod_26 :: x_mod_27 :: x_mod_28 :: x_mod_29 :: x_mod_30 :: x_mod_31 :: x_mod_32 :: []))) (f0_mod)
  have f_mog := g_ne (x := (a_mod, .inr (8, .int (nI (0)) :: .int (nI (n)) :: x_mod_2 :: x_mod_3 :: x_mod_4 :: .int (nI (nw)) :: x_mod_6 :: x_mod_7 :: x_mod_8 :: x_mod_9 :: x_mod_10 :: x_mod_11 :: x_mod_12 :: x_mod_13 :: x_mod_14 :: x_mod_15 :: x_mod_16 :: x_mod_17 :: x_mod_18 :: x_mod_19 :: .ref a_mog :: x_mod_21 :: x_mod_22 :: x_mod_23 :: x_mod_24 :: x_mod_25 :: x_mod_26 :: x_mod_27 :: x_mod_28 :: x_mod_29 :: x_mod_30 :: x_mod_31 :: x_mod_32 :: []))) (g_kne f0_mod f0_mog (Nat.ne_of_beq_eq_false rfl)) (f0_mog)
  refine lv_aload_n hx hb dX7_ofGroup_24 rfl (lv_at hl 0 rfl) ?_
  refine va_get (D := D) (ci := 8) (v := .int (nI (0))) (C := RX7) (T := TX7) (N := 33) hx hb hts in_RX7 hown hE.1 (gv1 hP f_mod) 0 rfl rfl 0 (by decide) (hts (.fieldLink RX7 94 "BasketryOfficeModel" "thrown" "I") (by decide +kernel)) (fun _ h9 => h9) rfl dX7_ofGroup_25 ?_
  refine g_if_le (tgt := 35) hx hb (by omega) dX7_ofGroup_28 (by decide) (fun c_28 => ?_) (fun c_28 => absurd c_28 (by omega))
  refine lv_aload_n hx hb dX7_ofGroup_35 rfl (lv_at hl 0 rfl) ?_
  refine va_get (D := D) (ci := 8) (v := .ref a_mog) (C := RX7) (T := TX7) (N := 33) hx hb hts in_RX7 hown hE.1 (gv1 hP f_mod) 0 rfl rfl 20 (by decide) (hts (.fieldLink RX7 57 "BasketryOfficeModel" "ofGroup" "[D") (by decide +kernel)) (fun _ h9 => h9) rfl dX7_ofGroup_36 ?_
  refine lv_iconst (v := nI 4) hx hb dX7_ofGroup_39 (by decide) ?_
  refine lv_iload_n hx hb dX7_ofGroup_40 rfl (lv_at hl 2 rfl) ?_
  refine g_imul hx hb dX7_ofGroup_41 (pk_mul _ _) ?_
  refine lv_iload_n hx hb dX7_ofGroup_42 rfl (lv_at hl 1 rfl) ?_
  refine g_iadd hx hb dX7_ofGroup_43 (nI_add _ _) ?_
  refine g_dald hx hb hE hP _ f_mog (by omega) (by decide) dX7_ofGroup_44 ?_
  refine g_dret hx hb hr hlocks () dX7_ofGroup_45 hS hP hD ?_
  exact rfl

theorem in_x0_X7_index_RX7 : ∀ w ∈ wsX70, w ∈ wsX7_index := by decide +kernel
set_option maxHeartbeats 4000000 in
set_option maxRecDepth 100000 in
theorem x0_X7_index (l : Launch) {D : va_G} {y : Nat → Nat} {ws : va_W} {x_mod_2 : Value} {x_mod_3 : Value} {x_mod_4 : Value} {x_mod_6 : Value} {x_mod_7 : Value} {x_mod_8 : Value} {x_mod_9 : Value} {x_mod_10 : Value} {x_mod_11 : Value} {x_mod_12 : Value} {x_mod_13 : Value} {x_mod_14 : Value} {x_mod_15 : Value} {x_mod_16 : Value} {x_mod_17 : Value} {x_mod_18 : Value} {x_mod_19 : Value} {x_mod_20 : Value} {x_mod_21 : Value} {x_mod_22 : Value} {x_mod_23 : Value} {x_mod_24 : Value} {x_mod_25 : Value} {x_mod_26 : Value} {x_mod_27 : Value} {x_mod_28 : Value} {x_mod_29 : Value} {x_mod_30 : Value} {x_mod_31 : Value} {x_mod_32 : Value} {p_mod a_mod : Nat} {kd t : Int32} {nw n th : Nat} (f0_mod : ws[p_mod]? = some (a_mod, .inr (8, .int (nI (th)) :: .int (nI (n)) :: x_mod_2 :: x_mod_3 :: x_mod_4 :: .int (nI (nw)) :: x_mod_6 :: x_mod_7 :: x_mod_8 :: x_mod_9 :: x_mod_10 :: x_mod_11 :: x_mod_12 :: x_mod_13 :: x_mod_14 :: x_mod_15 :: x_mod_16 :: x_mod_17 :: x_mod_18 :: x_mod_19 :: x_mod_20 :: x_mod_21 :: x_mod_22 :: x_mod_23 :: x_mod_24 :: x_mod_25 :: x_mod_26 :: x_mod_27 :: x_mod_28 :: x_mod_29 :: x_mod_30 :: x_mod_31 :: x_mod_32 :: []))) (hw : nw ≤ 24) (hn : n ≤ 12)  (hbad : kd < 0 ∨ nI 5 ≤ kd) : gMd l yX7_index wsX7_index ({ frames := 2, cells := 0, slots := 0, locals := 42 }) D y [.ref a_mod, .int (kd), .int (t)] ws (fun r (_ : Unit) => r = 0) (fun (_ : Unit) => (ws.set p_mod (a_mod, .inr (8, .int (nI (1)) :: .int (nI (n)) :: x_mod_2 :: x_mod_3 :: x_mod_4 :: .int (nI (nw)) :: x_mod_6 :: x_mod_7 :: x_mod_8 :: x_mod_9 :: x_mod_10 :: x_mod_11 :: x_mod_12 :: x_mod_13 :: x_mod_14 :: x_mod_15 :: x_mod_16 :: x_mod_17 :: x_mod_18 :: x_mod_19 :: x_mod_20 :: x_mod_21 :: x_mod_22 :: x_mod_23 :: x_mod_24 :: x_mod_25 :: x_mod_26 :: x_mod_27 :: x_mod_28 :: x_mod_29 :: x_mod_30 :: x_mod_31 :: x_mod_32 :: [])))) := by
  refine g_met_d (cc := cX7_index) (maxL := 3) (by decide) rfl (Nat.le_of_ble_eq_true rfl) ?_
  intro p e s m below meth c A hx hb hml hr hts hown hnm hlocks hE hP hD hS hA ls hl
  have hown : s.vm.findClass RX7 = some m.cls := hown
  have hl : lv_has ls 3 [(0, .ref a_mod), (1, .int (kd)), (2, .int (t))] := hl
  have in_RX7 := in_x0_X7_index_RX7
  refine lv_aload_n hx hb dX7_index_0 rfl (lv_at hl 0 rfl) ?_
  refine lv_iload_n hx hb dX7_index_1 rfl (lv_at hl 1 rfl) ?_
  refine gc_S_i (As := [.int (kd)]) (rest := [.ref a_mod]) (c_X7_isKind l) ⟨hx, hb, hml, hown, hts⟩ (va_cwS 1 hts gX7_index_X7_isKind rfl rfl rfl (by decide +kernel) ⟨Nat.le_of_ble_eq_true rfl, Nat.le_of_ble_eq_true rfl⟩) hE hP hD hS hA rfl rfl hl.1 (Nat.le_of_ble_eq_true rfl) dX7_index_2 ⟨Nat.le_of_ble_eq_true rfl, Nat.le_of_ble_eq_true rfl⟩ (fun r_2 u_2 H locs hP hD hS q_2 => ?_)
  subst q_2
  refine g_bif_eq (tgt := 20) hx hb dX7_index_5 (by decide) (fun c_5 => ?_) (fun c_5 => absurd c_5 (by rw [decide_eq_false (fun z => z hbad)]; decide))
  refine lv_iconst (v := nI 1) hx hb dX7_index_20 (by decide) ?_
  refine gv_set f0_mod rfl (by rfl) (fun k9 h9 kk9 => va_put (D := D) (ci := 8) (v := .int (nI (1))) (ty := .int) (C := RX7) (T := TX7) (N := 33) hx hb hts in_RX7 tyX7 tyX7_ok nmX7 hown hE.1 hP hD hS k9 h9 rfl 0 (by decide) (hts (.fieldLink RX7 94 "BasketryOfficeModel" "thrown" "I") (by decide +kernel)) (fun _ h9 => h9) rfl (by decide +kernel) rfl rfl (Nat.le_of_ble_eq_true rfl) dX7_index_21 kk9) (fun H locs hP hD hS => ?_)
  have f_mod := g_eq (x := (a_mod, .inr (8, .int (nI (1)) :: .int (nI (n)) :: x_mod_2 :: x_mod_3 :: x_mod_4 :: .int (nI (nw)) :: x_mod_6 :: x_mod_7 :: x_mod_8 :: x_mod_9 :: x_mod_10 :: x_mod_11 :: x_mod_12 :: x_mod_13 :: x_mod_14 :: x_mod_15 :: x_mod_16 :: x_mod_17 :: x_mod_18 :: x_mod_19 :: x_mod_20 :: x_mod_21 :: x_mod_22 :: x_mod_23 :: x_mod_24 :: x_mod_25 :: x_mod_26 :: x_mod_27 :: x_mod_28 :: x_mod_29 :: x_mod_30 :: x_mod_31 :: x_mod_32 :: []))) (f0_mod)
  refine lv_aload_n hx hb dX7_index_24 rfl (lv_at hl 0 rfl) ?_
  refine va_get (D := D) (ci := 8) (v := .int (nI (1))) (C := RX7) (T := TX7) (N := 33) hx hb hts in_RX7 hown hE.1 (gv1 hP f_mod) 0 rfl rfl 0 (by decide) (hts (.fieldLink RX7 94 "BasketryOfficeModel" "thrown" "I") (by decide +kernel)) (fun _ h9 => h9) rfl dX7_index_25 ?_
  refine g_if_le (tgt := 35) hx hb (by omega) dX7_index_28 (by decide) (fun c_28 => absurd c_28 (by omega)) (fun c_28 => ?_)
  refine g_dconst0 hx hb dX7_index_31 ?_
  refine lv_goto (tgt := 45) hx hb dX7_index_32 (by decide) ?_
  refine g_dret hx hb hr hlocks () dX7_index_45 hS hP hD ?_
  exact rfl

theorem in_x1_X7_index_RX7 : ∀ w ∈ wsX70, w ∈ wsX7_index := by decide +kernel
set_option maxHeartbeats 4000000 in
set_option maxRecDepth 100000 in
theorem x1_X7_index (l : Launch) {D : va_G} {y : Nat → Nat} {ws : va_W} {x_mod_2 : Value} {x_mod_3 : Value} {x_mod_4 : Value} {x_mod_6 : Value} {x_mod_7 : Value} {x_mod_8 : Value} {x_mod_9 : Value} {x_mod_10 : Value} {x_mod_11 : Value} {x_mod_12 : Value} {x_mod_13 : Value} {x_mod_14 : Value} {x_mod_15 : Value} {x_mod_16 : Value} {x_mod_17 : Value} {x_mod_18 : Value} {x_mod_19 : Value} {x_mod_20 : Value} {x_mod_21 : Value} {x_mod_22 : Value} {x_mod_23 : Value} {x_mod_24 : Value} {x_mod_25 : Value} {x_mod_26 : Value} {x_mod_27 : Value} {x_mod_28 : Value} {x_mod_29 : Value} {x_mod_30 : Value} {x_mod_31 : Value} {x_mod_32 : Value} {p_mod a_mod : Nat} {kd : Nat} {t : Int32} {nw n th : Nat} (f0_mod : ws[p_mod]? = some (a_mod, .inr (8, .int (nI (th)) :: .int (nI (n)) :: x_mod_2 :: x_mod_3 :: x_mod_4 :: .int (nI (nw)) :: x_mod_6 :: x_mod_7 :: x_mod_8 :: x_mod_9 :: x_mod_10 :: x_mod_11 :: x_mod_12 :: x_mod_13 :: x_mod_14 :: x_mod_15 :: x_mod_16 :: x_mod_17 :: x_mod_18 :: x_mod_19 :: x_mod_20 :: x_mod_21 :: x_mod_22 :: x_mod_23 :: x_mod_24 :: x_mod_25 :: x_mod_26 :: x_mod_27 :: x_mod_28 :: x_mod_29 :: x_mod_30 :: x_mod_31 :: x_mod_32 :: []))) (hw : nw ≤ 24) (hn : n ≤ 12) (hkd : kd < 5) (hbad : t < 0 ∨ nI nw ≤ t) : gMd l yX7_index wsX7_index ({ frames := 2, cells := 0, slots := 0, locals := 43 }) D y [.ref a_mod, .int (nI (kd)), .int (t)] ws (fun r (_ : Unit) => r = 0) (fun (_ : Unit) => (ws.set p_mod (a_mod, .inr (8, .int (nI (1)) :: .int (nI (n)) :: x_mod_2 :: x_mod_3 :: x_mod_4 :: .int (nI (nw)) :: x_mod_6 :: x_mod_7 :: x_mod_8 :: x_mod_9 :: x_mod_10 :: x_mod_11 :: x_mod_12 :: x_mod_13 :: x_mod_14 :: x_mod_15 :: x_mod_16 :: x_mod_17 :: x_mod_18 :: x_mod_19 :: x_mod_20 :: x_mod_21 :: x_mod_22 :: x_mod_23 :: x_mod_24 :: x_mod_25 :: x_mod_26 :: x_mod_27 :: x_mod_28 :: x_mod_29 :: x_mod_30 :: x_mod_31 :: x_mod_32 :: [])))) := by
  refine g_met_d (cc := cX7_index) (maxL := 3) (by decide) rfl (Nat.le_of_ble_eq_true rfl) ?_
  intro p e s m below meth c A hx hb hml hr hts hown hnm hlocks hE hP hD hS hA ls hl
  have hown : s.vm.findClass RX7 = some m.cls := hown
  have hl : lv_has ls 3 [(0, .ref a_mod), (1, .int (nI (kd))), (2, .int (t))] := hl
  have in_RX7 := in_x1_X7_index_RX7
  refine lv_aload_n hx hb dX7_index_0 rfl (lv_at hl 0 rfl) ?_
  refine lv_iload_n hx hb dX7_index_1 rfl (lv_at hl 1 rfl) ?_
  refine gc_S_i (As := [.int (nI (kd))]) (rest := [.ref a_mod]) (c_X7_isKind l) ⟨hx, hb, hml, hown, hts⟩ (va_cwS 1 hts gX7_index_X7_isKind rfl rfl rfl (by decide +kernel) ⟨Nat.le_of_ble_eq_true rfl, Nat.le_of_ble_eq_true rfl⟩) hE hP hD hS hA rfl rfl hl.1 (Nat.le_of_ble_eq_true rfl) dX7_index_2 ⟨Nat.le_of_ble_eq_true rfl, Nat.le_of_ble_eq_true rfl⟩ (fun r_2 u_2 H locs hP hD hS q_2 => ?_)
  subst q_2
  refine g_bif_eq (tgt := 20) hx hb dX7_index_5 (by decide) (fun c_5 => absurd c_5 (by rw [decide_eq_true (rq_lt hkd (by omega))]; decide)) (fun c_5 => ?_)
  refine lv_aload_n hx hb dX7_index_8 rfl (lv_at hl 0 rfl) ?_
  refine lv_iload_n hx hb dX7_index_9 rfl (lv_at hl 2 rfl) ?_
  refine gc_V_i (As := [.int (t)]) (rest := [.ref a_mod]) (c_X7_isPublished l f0_mod (by omega)) ⟨hx, hb, hml, hown, hts⟩ (cwV 1 hts gX7_index_X7_isPublished rfl rfl rfl (by decide +kernel) ⟨Nat.le_of_ble_eq_true rfl, Nat.le_of_ble_eq_true rfl⟩) hE hP hD hS hA _ f0_mod rfl rfl rfl rfl hl.1 (Nat.le_of_ble_eq_true rfl) dX7_index_10 ⟨Nat.le_of_ble_eq_true rfl, Nat.le_of_ble_eq_true rfl⟩ (fun r_10 u_10 H locs hP hD hS q_10 => ?_)
  subst q_10
  refine g_bif_eq (tgt := 20) hx hb dX7_index_13 (by decide) (fun c_13 => ?_) (fun c_13 => absurd c_13 (by rw [decide_eq_false (fun z => z hbad)]; decide))
  refine lv_iconst (v := nI 1) hx hb dX7_index_20 (by decide) ?_
  refine gv_set f0_mod rfl (by rfl) (fun k9 h9 kk9 => va_put (D := D) (ci := 8) (v := .int (nI (1))) (ty := .int) (C := RX7) (T := TX7) (N := 33) hx hb hts in_RX7 tyX7 tyX7_ok nmX7 hown hE.1 hP hD hS k9 h9 rfl 0 (by decide) (hts (.fieldLink RX7 94 "BasketryOfficeModel" "thrown" "I") (by decide +kernel)) (fun _ h9 => h9) rfl (by decide +kernel) rfl rfl (Nat.le_of_ble_eq_true rfl) dX7_index_21 kk9) (fun H locs hP hD hS => ?_)
  have f_mod := g_eq (x := (a_mod, .inr (8, .int (nI (1)) :: .int (nI (n)) :: x_mod_2 :: x_mod_3 :: x_mod_4 :: .int (nI (nw)) :: x_mod_6 :: x_mod_7 :: x_mod_8 :: x_mod_9 :: x_mod_10 :: x_mod_11 :: x_mod_12 :: x_mod_13 :: x_mod_14 :: x_mod_15 :: x_mod_16 :: x_mod_17 :: x_mod_18 :: x_mod_19 :: x_mod_20 :: x_mod_21 :: x_mod_22 :: x_mod_23 :: x_mod_24 :: x_mod_25 :: x_mod_26 :: x_mod_27 :: x_mod_28 :: x_mod_29 :: x_mod_30 :: x_mod_31 :: x_mod_32 :: []))) (f0_mod)
  refine lv_aload_n hx hb dX7_index_24 rfl (lv_at hl 0 rfl) ?_
  refine va_get (D := D) (ci := 8) (v := .int (nI (1))) (C := RX7) (T := TX7) (N := 33) hx hb hts in_RX7 hown hE.1 (gv1 hP f_mod) 0 rfl rfl 0 (by decide) (hts (.fieldLink RX7 94 "BasketryOfficeModel" "thrown" "I") (by decide +kernel)) (fun _ h9 => h9) rfl dX7_index_25 ?_
  refine g_if_le (tgt := 35) hx hb (by omega) dX7_index_28 (by decide) (fun c_28 => absurd c_28 (by omega)) (fun c_28 => ?_)
  refine g_dconst0 hx hb dX7_index_31 ?_
  refine lv_goto (tgt := 45) hx hb dX7_index_32 (by decide) ?_
  refine g_dret hx hb hr hlocks () dX7_index_45 hS hP hD ?_
  exact rfl

theorem in_c_X7_index_RX7 : ∀ w ∈ wsX70, w ∈ wsX7_index := by decide +kernel
set_option maxHeartbeats 4000000 in
set_option maxRecDepth 100000 in
theorem c_X7_index (l : Launch) {D : va_G} {y : Nat → Nat} {ws : va_W} {x_mod_2 : Value} {x_mod_3 : Value} {x_mod_4 : Value} {x_mod_6 : Value} {x_mod_7 : Value} {x_mod_8 : Value} {x_mod_9 : Value} {x_mod_10 : Value} {x_mod_11 : Value} {x_mod_12 : Value} {x_mod_13 : Value} {x_mod_14 : Value} {x_mod_15 : Value} {x_mod_16 : Value} {x_mod_17 : Value} {x_mod_18 : Value} {x_mod_19 : Value} {x_mod_20 : Value} {x_mod_22 : Value} {x_mod_23 : Value} {x_mod_24 : Value} {x_mod_25 : Value} {x_mod_26 : Value} {x_mod_27 : Value} {x_mod_28 : Value} {x_mod_29 : Value} {x_mod_30 : Value} {x_mod_31 : Value} {x_mod_32 : Value} {p_mod p_mix a_mod a_mix : Nat} {mix : Nat → UInt64} {kd t : Nat} {nw n th : Nat} (f0_mod : ws[p_mod]? = some (a_mod, .inr (8, .int (nI (th)) :: .int (nI (n)) :: x_mod_2 :: x_mod_3 :: x_mod_4 :: .int (nI (nw)) :: x_mod_6 :: x_mod_7 :: x_mod_8 :: x_mod_9 :: x_mod_10 :: x_mod_11 :: x_mod_12 :: x_mod_13 :: x_mod_14 :: x_mod_15 :: x_mod_16 :: x_mod_17 :: x_mod_18 :: x_mod_19 :: x_mod_20 :: .ref a_mix :: x_mod_22 :: x_mod_23 :: x_mod_24 :: x_mod_25 :: x_mod_26 :: x_mod_27 :: x_mod_28 :: x_mod_29 :: x_mod_30 :: x_mod_31 :: x_mod_32 :: []))) (f0_mix : ws[p_mix]? = some (a_mix, eD y 240 mix)) (hw : nw ≤ 24) (hn : n ≤ 12) (hkd : kd < 5) (ht : t < nw) : gMd l yX7_index wsX7_index ({ frames := 2, cells := 0, slots := 0, locals := 43 }) D y [.ref a_mod, .int (nI (kd)), .int (nI (t))] ws (fun r (_ : Unit) => r = mix (5 * t + kd)) (fun (_ : Unit) => (ws.set p_mod (a_mod, .inr (8, .int (nI (0)) :: .int (nI (n)) :: x_mod_2 :: x_mod_3 :: x_mod_4 :: .int (nI (nw)) :: x_mod_6 :: x_mod_7 :: x_mod_8 :: x_mod_9 :: x_mod_10 :: x_mod_11 :: x_mod_12 :: x_mod_13 :: x_mod_14 :: x_mod_15 :: x_mod_16 :: x_mod_17 :: x_mod_18 :: x_mod_19 :: x_mod_20 :: .ref a_mix :: x_mod_22 :: x_mod_23 :: x_mod_24 :: x_mod_25 :: x_mod_26 :: x_mod_27 :: x_mod_28 :: x_mod_29 :: x_mod_30 :: x_mod_31 :: x_mod_32 :: [])))) := by
  refine g_met_d (cc := cX7_index) (maxL := 3) (by decide) rfl (Nat.le_of_ble_eq_true rfl) ?_
  intro p e s m below meth c A hx hb hml hr hts hown hnm hlocks hE hP hD hS hA ls hl
  have hown : s.vm.findClass RX7 = some m.cls := hown
  have hl : lv_has ls 3 [(0, .ref a_mod), (1, .int (nI (kd))), (2, .int (nI (t)))] := hl
  have in_RX7 := in_c_X7_index_RX7
  refine lv_aload_n hx hb dX7_index_0 rfl (lv_at hl 0 rfl) ?_
  refine lv_iload_n hx hb dX7_index_1 rfl (lv_at hl 1 rfl) ?_
  refine gc_S_i (As := [.int (nI (kd))]) (rest := [.ref a_mod]) (c_X7_isKind l) ⟨hx, hb, hml, hown, hts⟩ (va_cwS 1 hts gX7_index_X7_isKind rfl rfl rfl (by decide +kernel) ⟨Nat.le_of_ble_eq_true rfl, Nat.le_of_ble_eq_true rfl⟩) hE hP hD hS hA rfl rfl hl.1 (Nat.le_of_ble_eq_true rfl) dX7_index_2 ⟨Nat.le_of_ble_eq_true rfl, Nat.le_of_ble_eq_true rfl⟩ (fun r_2 u_2 H locs hP hD hS q_2 => ?_)
  subst q_2
  refine g_bif_eq (tgt := 20) hx hb dX7_index_5 (by decide) (fun c_5 => absurd c_5 (by rw [decide_eq_true (rq_lt hkd (by omega))]; decide)) (fun c_5 => ?_)
  refine lv_aload_n hx hb dX7_index_8 rfl (lv_at hl 0 rfl) ?_
  refine lv_iload_n hx hb dX7_index_9 rfl (lv_at hl 2 rfl) ?_
  refine gc_V_i (As := [.int (nI (t))]) (rest := [.ref a_mod]) (c_X7_isPublished l f0_mod (by omega)) ⟨hx, hb, hml, hown, hts⟩ (cwV 1 hts gX7_index_X7_isPublished rfl rfl rfl (by decide +kernel) ⟨Nat.le_of_ble_eq_true rfl, Nat.le_of_ble_eq_true rfl⟩) hE hP hD hS hA _ f0_mod rfl rfl rfl rfl hl.1 (Nat.le_of_ble_eq_true rfl) dX7_index_10 ⟨Nat.le_of_ble_eq_true rfl, Nat.le_of_ble_eq_true rfl⟩ (fun r_10 u_10 H locs hP hD hS q_10 => ?_)
  subst q_10
  refine g_bif_eq (tgt := 20) hx hb dX7_index_13 (by decide) (fun c_13 => absurd c_13 (by rw [decide_eq_true (rq_lt ht (by omega))]; decide)) (fun c_13 => ?_)
  refine lv_iconst (v := nI 0) hx hb dX7_index_16 (by decide) ?_
  refine lv_goto (tgt := 21) hx hb dX7_index_17 (by decide) ?_
  refine gv_set f0_mod rfl (by rfl) (fun k9 h9 kk9 => va_put (D := D) (ci := 8) (v := .int (nI (0))) (ty := .int) (C := RX7) (T := TX7) (N := 33) hx hb hts in_RX7 tyX7 tyX7_ok nmX7 hown hE.1 hP hD hS k9 h9 rfl 0 (by decide) (hts (.fieldLink RX7 94 "BasketryOfficeModel" "thrown" "I") (by decide +kernel)) (fun _ h9 => h9) rfl (by decide +kernel) rfl rfl (Nat.le_of_ble_eq_true rfl) dX7_index_21 kk9) (fun H locs hP hD hS => ?_)
  have f_mod := g_eq (x := (a_mod, .inr (8, .int (nI (0)) :: .int (nI (n)) :: x_mod_2 :: x_mod_3 :: x_mod_4 :: .int (nI (nw)) :: x_mod_6 :: x_mod_7 :: x_mod_8 :: x_mod_9 :: x_mod_10 :: x_mod_11 :: x_mod_12 :: x_mod_13 :: x_mod_14 :: x_mod_15 :: x_mod_16 :: x_mod_17 :: x_mod_18 :: x_mod_19 :: x_mod_20 :: .ref a_mix :: x_mod_22 :: x_mod_23 :: x_mod_24 :: x_mod_25 :: x_mod_26 :: x_mod_27 :: x_mod_28 :: x_mod_29 :: x_mod_30 :: x_mod_31 :: x_mod_32 :: []))) (f0_mod)
  have f_mix := g_ne (x := (a_mod, .inr (8, .int (nI (0)) :: .int (nI (n)) :: x_mod_2 :: x_mod_3 :: x_mod_4 :: .int (nI (nw)) :: x_mod_6 :: x_mod_7 :: x_mod_8 :: x_mod_9 :: x_mod_10 :: x_mod_11 :: x_mod_12 :: x_mod_13 :: x_mod_14 :: x_mod_15 :: x_mod_16 :: x_mod_17 :: x_mod_18 :: x_mod_19 :: x_mod_20 :: .ref a_mix :: x_mod_22 :: x_mod_23 :: x_mod_24 :: x_mod_25 :: x_mod_26 :: x_mod_27 :: x_mod_28 :: x_mod_29 :: x_mod_30 :: x_mod_31 :: x_mod_32 :: []))) (g_kne f0_mod f0_mix (Nat.ne_of_beq_eq_false rfl)) (f0_mix)
  refine lv_aload_n hx hb dX7_index_24 rfl (lv_at hl 0 rfl) ?_
  refine va_get (D := D) (ci := 8) (v := .int (nI (0))) (C := RX7) (T := TX7) (N := 33) hx hb hts in_RX7 hown hE.1 (gv1 hP f_mod) 0 rfl rfl 0 (by decide) (hts (.fieldLink RX7 94 "BasketryOfficeModel" "thrown" "I") (by decide +kernel)) (fun _ h9 => h9) rfl dX7_index_25 ?_
  refine g_if_le (tgt := 35) hx hb (by omega) dX7_index_28 (by decide) (fun c_28 => ?_) (fun c_28 => absurd c_28 (by omega))
  refine lv_aload_n hx hb dX7_index_35 rfl (lv_at hl 0 rfl) ?_
  refine va_get (D := D) (ci := 8) (v := .ref a_mix) (C := RX7) (T := TX7) (N := 33) hx hb hts in_RX7 hown hE.1 (gv1 hP f_mod) 0 rfl rfl 21 (by decide) (hts (.fieldLink RX7 60 "BasketryOfficeModel" "index" "[D") (by decide +kernel)) (fun _ h9 => h9) rfl dX7_index_36 ?_
  refine lv_iconst (v := nI 5) hx hb dX7_index_39 (by decide) ?_
  refine lv_iload_n hx hb dX7_index_40 rfl (lv_at hl 2 rfl) ?_
  refine g_imul hx hb dX7_index_41 (pk_mul _ _) ?_
  refine lv_iload_n hx hb dX7_index_42 rfl (lv_at hl 1 rfl) ?_
  refine g_iadd hx hb dX7_index_43 (nI_add _ _) ?_
  refine g_dald hx hb hE hP _ f_mix (by omega) (by decide) dX7_index_44 ?_
  refine g_dret hx hb hr hlocks () dX7_index_45 hS hP hD ?_
  exact rfl

theorem in_x0_X7_published_RX7 : ∀ w ∈ wsX70, w ∈ wsX7_published := by decide +kernel
set_option maxHeartbeats 4000000 in
set_option maxRecDepth 100000 in
theorem x0_X7_published (l : Launch) {D : va_G} {y : Nat → Nat} {ws : va_W} {x_mod_2 : Value} {x_mod_3 : Value} {x_mod_4 : Value} {x_mod_6 : Value} {x_mod_7 : Value} {x_mod_8 : Value} {x_mod_9 : Value} {x_mod_10 : Value} {x_mod_11 : Value} {x_mod_12 : Value} {x_mod_13 : Value} {x_mod_14 : Value} {x_mod_15 : Value} {x_mod_16 : Value} {x_mod_17 : Value} {x_mod_18 : Value} {x_mod_19 : Value} {x_mod_20 : Value} {x_mod_21 : Value} {x_mod_22 : Value} {x_mod_23 : Value} {x_mod_24 : Value} {x_mod_25 : Value} {x_mod_26 : Value} {x_mod_27 : Value} {x_mod_28 : Value} {x_mod_29 : Value} {x_mod_30 : Value} {x_mod_31 : Value} {x_mod_32 : Value} {p_mod a_mod : Nat} {t : Int32} {nw n th : Nat} (f0_mod : ws[p_mod]? = some (a_mod, .inr (8, .int (nI (th)) :: .int (nI (n)) :: x_mod_2 :: x_mod_3 :: x_mod_4 :: .int (nI (nw)) :: x_mod_6 :: x_mod_7 :: x_mod_8 :: x_mod_9 :: x_mod_10 :: x_mod_11 :: x_mod_12 :: x_mod_13 :: x_mod_14 :: x_mod_15 :: x_mod_16 :: x_mod_17 :: x_mod_18 :: x_mod_19 :: x_mod_20 :: x_mod_21 :: x_mod_22 :: x_mod_23 :: x_mod_24 :: x_mod_25 :: x_mod_26 :: x_mod_27 :: x_mod_28 :: x_mod_29 :: x_mod_30 :: x_mod_31 :: x_mod_32 :: []))) (hw : nw ≤ 24) (hn : n ≤ 12)  (hbad : t < 0 ∨ nI nw ≤ t) : gMi l yX7_published wsX7_published ({ frames := 2, cells := 0, slots := 0, locals := 43 }) D y [.ref a_mod, .int (t)] ws (fun r (_ : Unit) => r = nI 0) (fun (_ : Unit) => (ws.set p_mod (a_mod, .inr (8, .int (nI (1)) :: .int (nI (n)) :: x_mod_2 :: x_mod_3 :: x_mod_4 :: .int (nI (nw)) :: x_mod_6 :: x_mod_7 :: x_mod_8 :: x_mod_9 :: x_mod_10 :: x_mod_11 :: x_mod_12 :: x_mod_13 :: x_mod_14 :: x_mod_15 :: x_mod_16 :: x_mod_17 :: x_mod_18 :: x_mod_19 :: x_mod_20 :: x_mod_21 :: x_mod_22 :: x_mod_23 :: x_mod_24 :: x_mod_25 :: x_mod_26 :: x_mod_27 :: x_mod_28 :: x_mod_29 :: x_mod_30 :: x_mod_31 :: x_mod_32 :: [])))) := by
  refine g_met_i (cc := cX7_published) (maxL := 2) (by decide) rfl (Nat.le_of_ble_eq_true rfl) ?_
  intro p e s m below meth c A hx hb hml hr hts hown hnm hlocks hE hP hD hS hA ls hl
  have hown : s.vm.findClass RX7 = some m.cls := hown
  have hl : lv_has ls 2 [(0, .ref a_mod), (1, .int (t))] := hl
  have in_RX7 := in_x0_X7_published_RX7
  refine lv_aload_n hx hb dX7_published_0 rfl (lv_at hl 0 rfl) ?_
  refine lv_aload_n hx hb dX7_published_1 rfl (lv_at hl 0 rfl) ?_
  refine lv_iload_n hx hb dX7_published_2 rfl (lv_at hl 1 rfl) ?_
  refine gc_V_i (As := [.int (t)]) (rest := [.ref a_mod]) (c_X7_isPublished l f0_mod (by omega)) ⟨hx, hb, hml, hown, hts⟩ (cwV 1 hts gX7_published_X7_isPublished rfl rfl rfl (by decide +kernel) ⟨Nat.le_of_ble_eq_true rfl, Nat.le_of_ble_eq_true rfl⟩) hE hP hD hS hA _ f0_mod rfl rfl rfl rfl hl.1 (Nat.le_of_ble_eq_true rfl) dX7_published_3 ⟨Nat.le_of_ble_eq_true rfl, Nat.le_of_ble_eq_true rfl⟩ (fun r_3 u_3 H locs hP hD hS q_3 => ?_)
  subst q_3
  refine g_bif_eq (tgt := 13) hx hb dX7_published_6 (by decide) (fun c_6 => ?_) (fun c_6 => absurd c_6 (by rw [decide_eq_false (fun z => z hbad)]; decide))
  refine lv_iconst (v := nI 1) hx hb dX7_published_13 (by decide) ?_
  refine gv_set f0_mod rfl (by rfl) (fun k9 h9 kk9 => va_put (D := D) (ci := 8) (v := .int (nI (1))) (ty := .int) (C := RX7) (T := TX7) (N := 33) hx hb hts in_RX7 tyX7 tyX7_ok nmX7 hown hE.1 hP hD hS k9 h9 rfl 0 (by decide) (hts (.fieldLink RX7 94 "BasketryOfficeModel" "thrown" "I") (by decide +kernel)) (fun _ h9 => h9) rfl (by decide +kernel) rfl rfl (Nat.le_of_ble_eq_true rfl) dX7_published_14 kk9) (fun H locs hP hD hS => ?_)
  have f_mod := g_eq (x := (a_mod, .inr (8, .int (nI (1)) :: .int (nI (n)) :: x_mod_2 :: x_mod_3 :: x_mod_4 :: .int (nI (nw)) :: x_mod_6 :: x_mod_7 :: x_mod_8 :: x_mod_9 :: x_mod_10 :: x_mod_11 :: x_mod_12 :: x_mod_13 :: x_mod_14 :: x_mod_15 :: x_mod_16 :: x_mod_17 :: x_mod_18 :: x_mod_19 :: x_mod_20 :: x_mod_21 :: x_mod_22 :: x_mod_23 :: x_mod_24 :: x_mod_25 :: x_mod_26 :: x_mod_27 :: x_mod_28 :: x_mod_29 :: x_mod_30 :: x_mod_31 :: x_mod_32 :: []))) (f0_mod)
  refine lv_aload_n hx hb dX7_published_17 rfl (lv_at hl 0 rfl) ?_
  refine va_get (D := D) (ci := 8) (v := .int (nI (1))) (C := RX7) (T := TX7) (N := 33) hx hb hts in_RX7 hown hE.1 (gv1 hP f_mod) 0 rfl rfl 0 (by decide) (hts (.fieldLink RX7 94 "BasketryOfficeModel" "thrown" "I") (by decide +kernel)) (fun _ h9 => h9) rfl dX7_published_18 ?_
  refine g_if_le (tgt := 28) hx hb (by omega) dX7_published_21 (by decide) (fun c_21 => absurd c_21 (by omega)) (fun c_21 => ?_)
  refine lv_iconst (v := nI 0) hx hb dX7_published_24 (by decide) ?_
  refine lv_goto (tgt := 34) hx hb dX7_published_25 (by decide) ?_
  refine g_iret hx hb hr hlocks () dX7_published_34 hS hP hD ?_
  exact rfl

theorem in_c_X7_published_RX7 : ∀ w ∈ wsX70, w ∈ wsX7_published := by decide +kernel
set_option maxHeartbeats 4000000 in
set_option maxRecDepth 100000 in
theorem c_X7_published (l : Launch) {D : va_G} {y : Nat → Nat} {ws : va_W} {x_mod_2 : Value} {x_mod_3 : Value} {x_mod_4 : Value} {x_mod_6 : Value} {x_mod_7 : Value} {x_mod_8 : Value} {x_mod_9 : Value} {x_mod_10 : Value} {x_mod_11 : Value} {x_mod_12 : Value} {x_mod_13 : Value} {x_mod_14 : Value} {x_mod_15 : Value} {x_mod_16 : Value} {x_mod_17 : Value} {x_mod_18 : Value} {x_mod_19 : Value} {x_mod_20 : Value} {x_mod_21 : Value} {x_mod_23 : Value} {x_mod_24 : Value} {x_mod_25 : Value} {x_mod_26 : Value} {x_mod_27 : Value} {x_mod_28 : Value} {x_mod_29 : Value} {x_mod_30 : Value} {x_mod_31 : Value} {x_mod_32 : Value} {p_mod p_mnu a_mod a_mnu : Nat} {mnu : Nat → Nat} {t : Nat} {nw n th : Nat} (f0_mod : ws[p_mod]? = some (a_mod, .inr (8, .int (nI (th)) :: .int (nI (n)) :: x_mod_2 :: x_mod_3 :: x_mod_4 :: .int (nI (nw)) :: x_mod_6 :: x_mod_7 :: x_mod_8 :: x_mod_9 :: x_mod_10 :: x_mod_11 :: x_mod_12 :: x_mod_13 :: x_mod_14 :: x_mod_15 :: x_mod_16 :: x_mod_17 :: x_mod_18 :: x_mod_19 :: x_mod_20 :: x_mod_21 :: .ref a_mnu :: x_mod_23 :: x_mod_24 :: x_mod_25 :: x_mod_26 :: x_mod_27 :: x_mod_28 :: x_mod_29 :: x_mod_30 :: x_mod_31 :: x_mod_32 :: []))) (f0_mnu : ws[p_mnu]? = some (a_mnu, eN y 48 mnu)) (b_mnu : ∀ k, mnu k ≤ 2147483647) (hw : nw ≤ 24) (hn : n ≤ 12) (ht : t < nw) : gMi l yX7_published wsX7_published ({ frames := 2, cells := 0, slots := 0, locals := 43 }) D y [.ref a_mod, .int (nI (t))] ws (fun r (_ : Unit) => r = nI (mnu t)) (fun (_ : Unit) => (ws.set p_mod (a_mod, .inr (8, .int (nI (0)) :: .int (nI (n)) :: x_mod_2 :: x_mod_3 :: x_mod_4 :: .int (nI (nw)) :: x_mod_6 :: x_mod_7 :: x_mod_8 :: x_mod_9 :: x_mod_10 :: x_mod_11 :: x_mod_12 :: x_mod_13 :: x_mod_14 :: x_mod_15 :: x_mod_16 :: x_mod_17 :: x_mod_18 :: x_mod_19 :: x_mod_20 :: x_mod_21 :: .ref a_mnu :: x_mod_23 :: x_mod_24 :: x_mod_25 :: x_mod_26 :: x_mod_27 :: x_mod_28 :: x_mod_29 :: x_mod_30 :: x_mod_31 :: x_mod_32 :: [])))) := by
  refine g_met_i (cc := cX7_published) (maxL := 2) (by decide) rfl (Nat.le_of_ble_eq_true rfl) ?_
  intro p e s m below meth c A hx hb hml hr hts hown hnm hlocks hE hP hD hS hA ls hl
  have hown : s.vm.findClass RX7 = some m.cls := hown
  have hl : lv_has ls 2 [(0, .ref a_mod), (1, .int (nI (t)))] := hl
  have in_RX7 := in_c_X7_published_RX7
  refine lv_aload_n hx hb dX7_published_0 rfl (lv_at hl 0 rfl) ?_
  refine lv_aload_n hx hb dX7_published_1 rfl (lv_at hl 0 rfl) ?_
  refine lv_iload_n hx hb dX7_published_2 rfl (lv_at hl 1 rfl) ?_
  refine gc_V_i (As := [.int (nI (t))]) (rest := [.ref a_mod]) (c_X7_isPublished l f0_mod (by omega)) ⟨hx, hb, hml, hown, hts⟩ (cwV 1 hts gX7_published_X7_isPublished rfl rfl rfl (by decide +kernel) ⟨Nat.le_of_ble_eq_true rfl, Nat.le_of_ble_eq_true rfl⟩) hE hP hD hS hA _ f0_mod rfl rfl rfl rfl hl.1 (Nat.le_of_ble_eq_true rfl) dX7_published_3 ⟨Nat.le_of_ble_eq_true rfl, Nat.le_of_ble_eq_true rfl⟩ (fun r_3 u_3 H locs hP hD hS q_3 => ?_)
  subst q_3
  refine g_bif_eq (tgt := 13) hx hb dX7_published_6 (by decide) (fun c_6 => absurd c_6 (by rw [decide_eq_true (rq_lt ht (by omega))]; decide)) (fun c_6 => ?_)
  refine lv_iconst (v := nI 0) hx hb dX7_published_9 (by decide) ?_
  refine lv_goto (tgt := 14) hx hb dX7_published_10 (by decide) ?_
  refine gv_set f0_mod rfl (by rfl) (fun k9 h9 kk9 => va_put (D := D) (ci := 8) (v := .int (nI (0))) (ty := .int) (C := RX7) (T := TX7) (N := 33) hx hb hts in_RX7 tyX7 tyX7_ok nmX7 hown hE.1 hP hD hS k9 h9 rfl 0 (by decide) (hts (.fieldLink RX7 94 "BasketryOfficeModel" "thrown" "I") (by decide +kernel)) (fun _ h9 => h9) rfl (by decide +kernel) rfl rfl (Nat.le_of_ble_eq_true rfl) dX7_published_14 kk9) (fun H locs hP hD hS => ?_)
  have f_mod := g_eq (x := (a_mod, .inr (8, .int (nI (0)) :: .int (nI (n)) :: x_mod_2 :: x_mod_3 :: x_mod_4 :: .int (nI (nw)) :: x_mod_6 :: x_mod_7 :: x_mod_8 :: x_mod_9 :: x_mod_10 :: x_mod_11 :: x_mod_12 :: x_mod_13 :: x_mod_14 :: x_mod_15 :: x_mod_16 :: x_mod_17 :: x_mod_18 :: x_mod_19 :: x_mod_20 :: x_mod_21 :: .ref a_mnu :: x_mod_23 :: x_mod_24 :: x_mod_25 :: x_mod_26 :: x_mod_27 :: x_mod_28 :: x_mod_29 :: x_mod_30 :: x_mod_31 :: x_mod_32 :: []))) (f0_mod)
  have f_mnu := g_ne (x := (a_mod, .inr (8, .int (nI (0)) :: .int (nI (n)) :: x_mod_2 :: x_mod_3 :: x_mod_4 :: .int (nI (nw)) :: x_mod_6 :: x_mod_7 :: x_mod_8 :: x_mod_9 :: x_mod_10 :: x_mod_11 :: x_mod_12 :: x_mod_13 :: x_mod_14 :: x_mod_15 :: x_mod_16 :: x_mod_17 :: x_mod_18 :: x_mod_19 :: x_mod_20 :: x_mod_21 :: .ref a_mnu :: x_mod_23 :: x_mod_24 :: x_mod_25 :: x_mod_26 :: x_mod_27 :: x_mod_28 :: x_mod_29 :: x_mod_30 :: x_mod_31 :: x_mod_32 :: []))) (g_kne f0_mod f0_mnu (Nat.ne_of_beq_eq_false rfl)) (f0_mnu)
  refine lv_aload_n hx hb dX7_published_17 rfl (lv_at hl 0 rfl) ?_
  refine va_get (D := D) (ci := 8) (v := .int (nI (0))) (C := RX7) (T := TX7) (N := 33) hx hb hts in_RX7 hown hE.1 (gv1 hP f_mod) 0 rfl rfl 0 (by decide) (hts (.fieldLink RX7 94 "BasketryOfficeModel" "thrown" "I") (by decide +kernel)) (fun _ h9 => h9) rfl dX7_published_18 ?_
  refine g_if_le (tgt := 28) hx hb (by omega) dX7_published_21 (by decide) (fun c_21 => ?_) (fun c_21 => absurd c_21 (by omega))
  refine lv_aload_n hx hb dX7_published_28 rfl (lv_at hl 0 rfl) ?_
  refine va_get (D := D) (ci := 8) (v := .ref a_mnu) (C := RX7) (T := TX7) (N := 33) hx hb hts in_RX7 hown hE.1 (gv1 hP f_mod) 0 rfl rfl 22 (by decide) (hts (.fieldLink RX7 63 "BasketryOfficeModel" "number" "[I") (by decide +kernel)) (fun _ h9 => h9) rfl dX7_published_29 ?_
  refine lv_iload_n hx hb dX7_published_32 rfl (lv_at hl 1 rfl) ?_
  refine g_nald hx hb hE hP _ f_mnu (by omega) (by decide) dX7_published_33 ?_
  have bd_33_1 := b_mnu (t)
  refine g_iret hx hb hr hlocks () dX7_published_34 hS hP hD ?_
  exact rfl
