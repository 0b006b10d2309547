theorem in_x0_X7_isMatched_RX7 : ∀ w ∈ wsX70, w ∈ wsX7_isMatched := by decide +kernel
set_option maxHeartbeats 4000000 in
set_option maxRecDepth 100000 in
theorem x0_X7_isMatched (l : Launch) {D : va_G} {y : Nat → Nat} {ws : va_W} {x_mod_2 : Value} {x_mod_3 : Value} {x_mod_4 : Value} {x_mod_6 : Value} {x_mod_7 : Value} {x_mod_8 : Value} {x_mod_9 : Value} {x_mod_10 : Value} {x_mod_11 : Value} {x_mod_12 : Value} {x_mod_13 : Value} {x_mod_14 : Value} {x_mod_15 : Value} {x_mod_16 : Value} {x_mod_17 : Value} {x_mod_18 : Value} {x_mod_19 : Value} {x_mod_20 : Value} {x_mod_21 : Value} {x_mod_22 : Value} {x_mod_23 : Value} {x_mod_24 : Value} {x_mod_25 : Value} {x_mod_26 : Value} {x_mod_27 : Value} {x_mod_28 : Value} {x_mod_29 : Value} {x_mod_30 : Value} {x_mod_31 : Value} {x_mod_32 : Value} {p_mod a_mod : Nat} {i o t : Int32} {nw n th : Nat} (f0_mod : ws[p_mod]? = some (a_mod, .inr (8, .int (nI (th)) :: .int (nI (n)) :: x_mod_2 :: x_mod_3 :: x_mod_4 :: .int (nI (nw)) :: x_mod_6 :: x_mod_7 :: x_mod_8 :: x_mod_9 :: x_mod_10 :: x_mod_11 :: x_mod_12 :: x_mod_13 :: x_mod_14 :: x_mod_15 :: x_mod_16 :: x_mod_17 :: x_mod_18 :: x_mod_19 :: x_mod_20 :: x_mod_21 :: x_mod_22 :: x_mod_23 :: x_mod_24 :: x_mod_25 :: x_mod_26 :: x_mod_27 :: x_mod_28 :: x_mod_29 :: x_mod_30 :: x_mod_31 :: x_mod_32 :: []))) (hw : nw ≤ 24) (hn : n ≤ 12)  (hbad : i < 0 ∨ nI n ≤ i) : gMi l yX7_isMatched wsX7_isMatched ({ frames := 2, cells := 0, slots := 0, locals := 43 }) D y [.ref a_mod, .int (i), .int (o), .int (t)] ws (fun r (_ : Unit) => r = gb false) (fun (_ : Unit) => (ws.set p_mod (a_mod, .inr (8, .int (nI (1)) :: .int (nI (n)) :: x_mod_2 :: x_mod_3 :: x_mod_4 :: .int (nI (nw)) :: x_mod_6 :: x_mod_7 :: x_mod_8 :: x_mod_9 :: x_mod_10 :: x_mod_11 :: x_mod_12 :: x_mod_13 :: x_mod_14 :: x_mod_15 :: x_mod_16 :: x_mod_17 :: x_mod_18 :: x_mod_19 :: x_mod_20 :: x_mod_21 :: x_mod_22 :: x_mod_23 :: x_mod_24 :: x_mod_25 :: x_mod_26 :: x_mod_27 :: x_mod_28 :: x_mod_29 :: x_mod_30 :: x_mod_31 :: x_mod_32 :: [])))) := by
  refine g_met_z (cc := cX7_isMatched) (maxL := 4) (by decide) rfl (Nat.le_of_ble_eq_true rfl) ?_
  intro p e s m below meth c A hx hb hml hr hts hown hnm hlocks hE hP hD hS hA ls hl
  have hown : s.vm.findClass RX7 = some m.cls := hown
  have hl : lv_has ls 4 [(0, .ref a_mod), (1, .int (i)), (2, .int (o)), (3, .int (t))] := hl
  have in_RX7 := in_x0_X7_isMatched_RX7
  refine lv_aload_n hx hb dX7_isMatched_0 rfl (lv_at hl 0 rfl) ?_
  refine lv_aload_n hx hb dX7_isMatched_1 rfl (lv_at hl 0 rfl) ?_
  refine lv_iload_n hx hb dX7_isMatched_2 rfl (lv_at hl 1 rfl) ?_
  refine gc_V_i (As := [.int (i)]) (rest := [.ref a_mod]) (c_X7_isItem l f0_mod (by omega)) ⟨hx, hb, hml, hown, hts⟩ (cwV 1 hts gX7_isMatched_X7_isItem rfl rfl rfl (by decide +kernel) ⟨Nat.le_of_ble_eq_true rfl, Nat.le_of_ble_eq_true rfl⟩) hE hP hD hS hA _ f0_mod rfl rfl rfl rfl hl.1 (Nat.le_of_ble_eq_true rfl) dX7_isMatched_3 ⟨Nat.le_of_ble_eq_true rfl, Nat.le_of_ble_eq_true rfl⟩ (fun r_3 u_3 H locs hP hD hS q_3 => ?_)
  subst q_3
  refine g_bif_eq (tgt := 28) hx hb dX7_isMatched_6 (by decide) (fun c_6 => ?_) (fun c_6 => absurd c_6 (by rw [decide_eq_false (fun z => z hbad)]; decide))
  refine lv_iconst (v := nI 1) hx hb dX7_isMatched_28 (by decide) ?_
  refine gv_set f0_mod rfl (by rfl) (fun k9 h9 kk9 => va_put (D := D) (ci := 8) (v := .int (nI (1))) (ty := .int) (C := RX7) (T := TX7) (N := 33) hx hb hts in_RX7 tyX7 tyX7_ok nmX7 hown hE.1 hP hD hS k9 h9 rfl 0 (by decide) (hts (.fieldLink RX7 94 "BasketryOfficeModel" "thrown" "I") (by decide +kernel)) (fun _ h9 => h9) rfl (by decide +kernel) rfl rfl (Nat.le_of_ble_eq_true rfl) dX7_isMatched_29 kk9) (fun H locs hP hD hS => ?_)
  have f_mod := g_eq (x := (a_mod, .inr (8, .int (nI (1)) :: .int (nI (n)) :: x_mod_2 :: x_mod_3 :: x_mod_4 :: .int (nI (nw)) :: x_mod_6 :: x_mod_7 :: x_mod_8 :: x_mod_9 :: x_mod_10 :: x_mod_11 :: x_mod_12 :: x_mod_13 :: x_mod_14 :: x_mod_15 :: x_mod_16 :: x_mod_17 :: x_mod_18 :: x_mod_19 :: x_mod_20 :: x_mod_21 :: x_mod_22 :: x_mod_23 :: x_mod_24 :: x_mod_25 :: x_mod_26 :: x_mod_27 :: x_mod_28 :: x_mod_29 :: x_mod_30 :: x_mod_31 :: x_mod_32 :: []))) (f0_mod)
  refine lv_aload_n hx hb dX7_isMatched_32 rfl (lv_at hl 0 rfl) ?_
  refine va_get (D := D) (ci := 8) (v := .int (nI (1))) (C := RX7) (T := TX7) (N := 33) hx hb hts in_RX7 hown hE.1 (gv1 hP f_mod) 0 rfl rfl 0 (by decide) (hts (.fieldLink RX7 94 "BasketryOfficeModel" "thrown" "I") (by decide +kernel)) (fun _ h9 => h9) rfl dX7_isMatched_33 ?_
  refine g_if_ne (tgt := 57) hx hb (by omega) dX7_isMatched_36 (by decide) (fun c_36 => ?_) (fun c_36 => absurd c_36 (by omega))
  refine lv_iconst (v := nI 0) hx hb dX7_isMatched_57 (by decide) ?_
  refine g_zret (r := (gb (false))) hx hb hr hlocks () dX7_isMatched_58 (gb_narrow _) hS hP hD ?_
  exact rfl

theorem in_x1_X7_isMatched_RX7 : ∀ w ∈ wsX70, w ∈ wsX7_isMatched := by decide +kernel
set_option maxHeartbeats 4000000 in
set_option maxRecDepth 100000 in
theorem x1_X7_isMatched (l : Launch) {D : va_G} {y : Nat → Nat} {ws : va_W} {x_mod_2 : Value} {x_mod_3 : Value} {x_mod_4 : Value} {x_mod_6 : Value} {x_mod_7 : Value} {x_mod_8 : Value} {x_mod_9 : Value} {x_mod_10 : Value} {x_mod_11 : Value} {x_mod_12 : Value} {x_mod_13 : Value} {x_mod_14 : Value} {x_mod_15 : Value} {x_mod_16 : Value} {x_mod_17 : Value} {x_mod_18 : Value} {x_mod_19 : Value} {x_mod_20 : Value} {x_mod_21 : Value} {x_mod_22 : Value} {x_mod_23 : Value} {x_mod_24 : Value} {x_mod_25 : Value} {x_mod_26 : Value} {x_mod_27 : Value} {x_mod_28 : Value} {x_mod_29 : Value} {x_mod_30 : Value} {x_mod_31 : Value} {x_mod_32 : Value} {p_mod a_mod : Nat} {i : Nat} {o t : Int32} {nw n th : Nat} (f0_mod : ws[p_mod]? = some (a_mod, .inr (8, .int (nI (th)) :: .int (nI (n)) :: x_mod_2 :: x_mod_3 :: x_mod_4 :: .int (nI (nw)) :: x_mod_6 :: x_mod_7 :: x_mod_8 :: x_mod_9 :: x_mod_10 :: x_mod_11 :: x_mod_12 :: x_mod_13 :: x_mod_14 :: x_mod_15 :: x_mod_16 :: x_mod_17 :: x_mod_18 :: x_mod_19 :: x_mod_20 :: x_mod_21 :: x_mod_22 :: x_mod_23 :: x_mod_24 :: x_mod_25 :: x_mod_26 :: x_mod_27 :: x_mod_28 :: x_mod_29 :: x_mod_30 :: x_mod_31 :: x_mod_32 :: []))) (hw : nw ≤ 24) (hn : n ≤ 12) (hi : i < n) (hbad : o < 0 ∨ nI 4 ≤ o) : gMi l yX7_isMatched wsX7_isMatched ({ frames := 2, cells := 0, slots := 0, locals := 43 }) D y [.ref a_mod, .int (nI (i)), .int (o), .int (t)] ws (fun r (_ : Unit) => r = gb false) (fun (_ : Unit) => (ws.set p_mod (a_mod, .inr (8, .int (nI (1)) :: .int (nI (n)) :: x_mod_2 :: x_mod_3 :: x_mod_4 :: .int (nI (nw)) :: x_mod_6 :: x_mod_7 :: x_mod_8 :: x_mod_9 :: x_mod_10 :: x_mod_11 :: x_mod_12 :: x_mod_13 :: x_mod_14 :: x_mod_15 :: x_mod_16 :: x_mod_17 :: x_mod_18 :: x_mod_19 :: x_mod_20 :: x_mod_21 :: x_mod_22 :: x_mod_23 :: x_mod_24 :: x_mod_25 :: x_mod_26 :: x_mod_27 :: x_mod_28 :: x_mod_29 :: x_mod_30 :: x_mod_31 :: x_mod_32 :: [])))) := by
  refine g_met_z (cc := cX7_isMatched) (maxL := 4) (by decide) rfl (Nat.le_of_ble_eq_true rfl) ?_
  intro p e s m below meth c A hx hb hml hr hts hown hnm hlocks hE hP hD hS hA ls hl
  have hown : s.vm.findClass RX7 = some m.cls := hown
  have hl : lv_has ls 4 [(0, .ref a_mod), (1, .int (nI (i))), (2, .int (o)), (3, .int (t))] := hl
  have in_RX7 := in_x1_X7_isMatched_RX7
  refine lv_aload_n hx hb dX7_isMatched_0 rfl (lv_at hl 0 rfl) ?_
  refine lv_aload_n hx hb dX7_isMatched_1 rfl (lv_at hl 0 rfl) ?_
  refine lv_iload_n hx hb dX7_isMatched_2 rfl (lv_at hl 1 rfl) ?_
  refine gc_V_i (As := [.int (nI (i))]) (rest := [.ref a_mod]) (c_X7_isItem l f0_mod (by omega)) ⟨hx, hb, hml, hown, hts⟩ (cwV 1 hts gX7_isMatched_X7_isItem rfl rfl rfl (by decide +kernel) ⟨Nat.le_of_ble_eq_true rfl, Nat.le_of_ble_eq_true rfl⟩) hE hP hD hS hA _ f0_mod rfl rfl rfl rfl hl.1 (Nat.le_of_ble_eq_true rfl) dX7_isMatched_3 ⟨Nat.le_of_ble_eq_true rfl, Nat.le_of_ble_eq_true rfl⟩ (fun r_3 u_3 H locs hP hD hS q_3 => ?_)
  subst q_3
  refine g_bif_eq (tgt := 28) hx hb dX7_isMatched_6 (by decide) (fun c_6 => absurd c_6 (by rw [decide_eq_true (rq_lt hi (by omega))]; decide)) (fun c_6 => ?_)
  refine lv_iload_n hx hb dX7_isMatched_9 rfl (lv_at hl 2 rfl) ?_
  refine gc_S_i (As := [.int (o)]) (rest := [.ref a_mod]) (c_X7_isOutlet l) ⟨hx, hb, hml, hown, hts⟩ (va_cwS 1 hts gX7_isMatched_X7_isOutlet rfl rfl rfl (by decide +kernel) ⟨Nat.le_of_ble_eq_true rfl, Nat.le_of_ble_eq_true rfl⟩) hE hP hD hS hA rfl rfl hl.1 (Nat.le_of_ble_eq_true rfl) dX7_isMatched_10 ⟨Nat.le_of_ble_eq_true rfl, Nat.le_of_ble_eq_true rfl⟩ (fun r_10 u_10 H locs hP hD hS q_10 => ?_)
  subst q_10
  refine g_bif_eq (tgt := 28) hx hb dX7_isMatched_13 (by decide) (fun c_13 => ?_) (fun c_13 => absurd c_13 (by rw [decide_eq_false (fun z => z hbad)]; decide))
  refine lv_iconst (v := nI 1) hx hb dX7_isMatched_28 (by decide) ?_
  refine gv_set f0_mod rfl (by rfl) (fun k9 h9 kk9 => va_put (D := D) (ci := 8) (v := .int (nI (1))) (ty := .int) (C := RX7) (T := TX7) (N := 33) hx hb hts in_RX7 tyX7 tyX7_ok nmX7 hown hE.1 hP hD hS k9 h9 rfl 0 (by decide) (hts (.fieldLink RX7 94 "BasketryOfficeModel" "thrown" "I") (by decide +kernel)) (fun _ h9 => h9) rfl (by decide +kernel) rfl rfl (Nat.le_of_ble_eq_true rfl) dX7_isMatched_29 kk9) (fun H locs hP hD hS => ?_)
  have f_mod := g_eq (x := (a_mod, .inr (8, .int (nI (1)) :: .int (nI (n)) :: x_mod_2 :: x_mod_3 :: x_mod_4 :: .int (nI (nw)) :: x_mod_6 :: x_mod_7 :: x_mod_8 :: x_mod_9 :: x_mod_10 :: x_mod_11 :: x_mod_12 :: x_mod_13 :: x_mod_14 :: x_mod_15 :: x_mod_16 :: x_mod_17 :: x_mod_18 :: x_mod_19 :: x_mod_20 :: x_mod_21 :: x_mod_22 :: x_mod_23 :: x_mod_24 :: x_mod_25 :: x_mod_26 :: x_mod_27 :: x_mod_28 :: x_mod_29 :: x_mod_30 :: x_mod_31 :: x_mod_32 :: []))) (f0_mod)
  refine lv_aload_n hx hb dX7_isMatched_32 rfl (lv_at hl 0 rfl) ?_
  refine va_get (D := D) (ci := 8) (v := .int (nI (1))) (C := RX7) (T := TX7) (N := 33) hx hb hts in_RX7 hown hE.1 (gv1 hP f_mod) 0 rfl rfl 0 (by decide) (hts (.fieldLink RX7 94 "BasketryOfficeModel" "thrown" "I") (by decide +kernel)) (fun _ h9 => h9) rfl dX7_isMatched_33 ?_
  refine g_if_ne (tgt := 57) hx hb (by omega) dX7_isMatched_36 (by decide) (fun c_36 => ?_) (fun c_36 => absurd c_36 (by omega))
  refine lv_iconst (v := nI 0) hx hb dX7_isMatched_57 (by decide) ?_
  refine g_zret (r := (gb (false))) hx hb hr hlocks () dX7_isMatched_58 (gb_narrow _) hS hP hD ?_
  exact rfl

theorem in_x2_X7_isMatched_RX7 : ∀ w ∈ wsX70, w ∈ wsX7_isMatched := by decide +kernel
set_option maxHeartbeats 4000000 in
set_option maxRecDepth 100000 in
theorem x2_X7_isMatched (l : Launch) {D : va_G} {y : Nat → Nat} {ws : va_W} {x_mod_2 : Value} {x_mod_3 : Value} {x_mod_4 : Value} {x_mod_6 : Value} {x_mod_7 : Value} {x_mod_8 : Value} {x_mod_9 : Value} {x_mod_10 : Value} {x_mod_11 : Value} {x_mod_12 : Value} {x_mod_13 : Value} {x_mod_14 : Value} {x_mod_15 : Value} {x_mod_16 : Value} {x_mod_17 : Value} {x_mod_18 : Value} {x_mod_19 : Value} {x_mod_20 : Value} {x_mod_21 : Value} {x_mod_22 : Value} {x_mod_23 : Value} {x_mod_24 : Value} {x_mod_25 : Value} {x_mod_26 : Value} {x_mod_27 : Value} {x_mod_28 : Value} {x_mod_29 : Value} {x_mod_30 : Value} {x_mod_31 : Value} {x_mod_32 : Value} {p_mod a_mod : Nat} {i o : Nat} {t : Int32} {nw n th : Nat} (f0_mod : ws[p_mod]? = some (a_mod, .inr (8, .int (nI (th)) :: .int (nI (n)) :: x_mod_2 :: x_mod_3 :: x_mod_4 :: .int (nI (nw)) :: x_mod_6 :: x_mod_7 :: x_mod_8 :: x_mod_9 :: x_mod_10 :: x_mod_11 :: x_mod_12 :: x_mod_13 :: x_mod_14 :: x_mod_15 :: x_mod_16 :: x_mod_17 :: x_mod_18 :: x_mod_19 :: x_mod_20 :: x_mod_21 :: x_mod_22 :: x_mod_23 :: x_mod_24 :: x_mod_25 :: x_mod_26 :: x_mod_27 :: x_mod_28 :: x_mod_29 :: x_mod_30 :: x_mod_31 :: x_mod_32 :: []))) (hw : nw ≤ 24) (hn : n ≤ 12) (hi : i < n) (ho : o < 4) (hbad : t < 0 ∨ nI nw ≤ t) : gMi l yX7_isMatched wsX7_isMatched ({ frames := 2, cells := 0, slots := 0, locals := 43 }) D y [.ref a_mod, .int (nI (i)), .int (nI (o)), .int (t)] ws (fun r (_ : Unit) => r = gb false) (fun (_ : Unit) => (ws.set p_mod (a_mod, .inr (8, .int (nI (1)) :: .int (nI (n)) :: x_mod_2 :: x_mod_3 :: x_mod_4 :: .int (nI (nw)) :: x_mod_6 :: x_mod_7 :: x_mod_8 :: x_mod_9 :: x_mod_10 :: x_mod_11 :: x_mod_12 :: x_mod_13 :: x_mod_14 :: x_mod_15 :: x_mod_16 :: x_mod_17 :: x_mod_18 :: x_mod_19 :: x_mod_20 :: x_mod_21 :: x_mod_22 :: x_mod_23 :: x_mod_24 :: x_mod_25 :: x_mod_26 :: x_mod_27 :: x_mod_28 :: x_mod_29 :: x_mod_30 :: x_mod_31 :: x_mod_32 :: [])))) := by
  refine g_met_z (cc := cX7_isMatched) (maxL := 4) (by decide) rfl (Nat.le_of_ble_eq_true rfl) ?_
  intro p e s m below meth c A hx hb hml hr hts hown hnm hlocks hE hP hD hS hA ls hl
  have hown : s.vm.findClass RX7 = some m.cls := hown
  have hl : lv_has ls 4 [(0, .ref a_mod), (1, .int (nI (i))), (2, .int (nI (o))), (3, .int (t))] := hl
  have in_RX7 := in_x2_X7_isMatched_RX7
  refine lv_aload_n hx hb dX7_isMatched_0 rfl (lv_at hl 0 rfl) ?_
  refine lv_aload_n hx hb dX7_isMatched_1 rfl (lv_at hl 0 rfl) ?_
  refine lv_iload_n hx hb dX7_isMatched_2 rfl (lv_at hl 1 rfl) ?_
  refine gc_V_i (As := [.int (nI (i))]) (rest := [.ref a_mod]) (c_X7_isItem l f0_mod (by omega)) ⟨hx, hb, hml, hown, hts⟩ (cwV 1 hts gX7_isMatched_X7_isItem rfl rfl rfl (by decide +kernel) ⟨Nat.le_of_ble_eq_true rfl, Nat.le_of_ble_eq_true rfl⟩) hE hP hD hS hA _ f0_mod rfl rfl rfl rfl hl.1 (Nat.le_of_ble_eq_true rfl) dX7_isMatched_3 ⟨Nat.le_of_ble_eq_true rfl, Nat.le_of_ble_eq_true rfl⟩ (fun r_3 u_3 H locs hP hD hS q_3 => ?_)
  subst q_3
  refine g_bif_eq (tgt := 28) hx hb dX7_isMatched_6 (by decide) (fun c_6 => absurd c_6 (by rw [decide_eq_true (rq_lt hi (by omega))]; decide)) (fun c_6 => ?_)
  refine lv_iload_n hx hb dX7_isMatched_9 rfl (lv_at hl 2 rfl) ?_
  refine gc_S_i (As := [.int (nI (o))]) (rest := [.ref a_mod]) (c_X7_isOutlet l) ⟨hx, hb, hml, hown, hts⟩ (va_cwS 1 hts gX7_isMatched_X7_isOutlet rfl rfl rfl (by decide +kernel) ⟨Nat.le_of_ble_eq_true rfl, Nat.le_of_ble_eq_true rfl⟩) hE hP hD hS hA rfl rfl hl.1 (Nat.le_of_ble_eq_true rfl) dX7_isMatched_10 ⟨Nat.le_of_ble_eq_true rfl, Nat.le_of_ble_eq_true rfl⟩ (fun r_10 u_10 H locs hP hD hS q_10 => ?_)
  subst q_10
  refine g_bif_eq (tgt := 28) hx hb dX7_isMatched_13 (by decide) (fun c_13 => absurd c_13 (by rw [decide_eq_true (rq_lt ho (by omega))]; decide)) (fun c_13 => ?_)
  refine lv_aload_n hx hb dX7_isMatched_16 rfl (lv_at hl 0 rfl) ?_
  refine lv_iload_n hx hb dX7_isMatched_17 rfl (lv_at hl 3 rfl) ?_
  refine gc_V_i (As := [.int (t)]) (rest := [.ref a_mod]) (c_X7_isPublished l f0_mod (by omega)) ⟨hx, hb, hml, hown, hts⟩ (cwV 1 hts gX7_isMatched_X7_isPublished rfl rfl rfl (by decide +kernel) ⟨Nat.le_of_ble_eq_true rfl, Nat.le_of_ble_eq_true rfl⟩) hE hP hD hS hA _ f0_mod rfl rfl rfl rfl hl.1 (Nat.le_of_ble_eq_true rfl) dX7_isMatched_18 ⟨Nat.le_of_ble_eq_true rfl, Nat.le_of_ble_eq_true rfl⟩ (fun r_18 u_18 H locs hP hD hS q_18 => ?_)
  subst q_18
  refine g_bif_eq (tgt := 28) hx hb dX7_isMatched_21 (by decide) (fun c_21 => ?_) (fun c_21 => absurd c_21 (by rw [decide_eq_false (fun z => z hbad)]; decide))
  refine lv_iconst (v := nI 1) hx hb dX7_isMatched_28 (by decide) ?_
  refine gv_set f0_mod rfl (by rfl) (fun k9 h9 kk9 => va_put (D := D) (ci := 8) (v := .int (nI (1))) (ty := .int) (C := RX7) (T := TX7) (N := 33) hx hb hts in_RX7 tyX7 tyX7_ok nmX7 hown hE.1 hP hD hS k9 h9 rfl 0 (by decide) (hts (.fieldLink RX7 94 "BasketryOfficeModel" "thrown" "I") (by decide +kernel)) (fun _ h9 => h9) rfl (by decide +kernel) rfl rfl (Nat.le_of_ble_eq_true rfl) dX7_isMatched_29 kk9) (fun H locs hP hD hS => ?_)
  have f_mod := g_eq (x := (a_mod, .inr (8, .int (nI (1)) :: .int (nI (n)) :: x_mod_2 :: x_mod_3 :: x_mod_4 :: .int (nI (nw)) :: x_mod_6 :: x_mod_7 :: x_mod_8 :: x_mod_9 :: x_mod_10 :: x_mod_11 :: x_mod_12 :: x_mod_13 :: x_mod_14 :: x_mod_15 :: x_mod_16 :: x_mod_17 :: x_mod_18 :: x_mod_19 :: x_mod_20 :: x_mod_21 :: x_mod_22 :: x_mod_23 :: x_mod_24 :: x_mod_25 :: x_mod_26 :: x_mod_27 :: x_mod_28 :: x_mod_29 :: x_mod_30 :: x_mod_31 :: x_mod_32 :: []))) (f0_mod)
  refine lv_aload_n hx hb dX7_isMatched_32 rfl (lv_at hl 0 rfl) ?_
  refine va_get (D := D) (ci := 8) (v := .int (nI (1))) (C := RX7) (T := TX7) (N := 33) hx hb hts in_RX7 hown hE.1 (gv1 hP f_mod) 0 rfl rfl 0 (by decide) (hts (.fieldLink RX7 94 "BasketryOfficeModel" "thrown" "I") (by decide +kernel)) (fun _ h9 => h9) rfl dX7_isMatched_33 ?_
  refine g_if_ne (tgt := 57) hx hb (by omega) dX7_isMatched_36 (by decide) (fun c_36 => ?_) (fun c_36 => absurd c_36 (by omega))
  refine lv_iconst (v := nI 0) hx hb dX7_isMatched_57 (by decide) ?_
  refine g_zret (r := (gb (false))) hx hb hr hlocks () dX7_isMatched_58 (gb_narrow _) hS hP hD ?_
  exact rfl

theorem in_c_X7_isMatched_RX7 : ∀ w ∈ wsX70, w ∈ wsX7_isMatched := by decide +kernel
set_option maxHeartbeats 4000000 in
set_option maxRecDepth 100000 in
theorem c_X7_isMatched (l : Launch) {D : va_G} {y : Nat → Nat} {ws : va_W} {x_mod_2 : Value} {x_mod_3 : Value} {x_mod_4 : Value} {x_mod_6 : Value} {x_mod_7 : Value} {x_mod_8 : Value} {x_mod_9 : Value} {x_mod_10 : Value} {x_mod_11 : Value} {x_mod_12 : Value} {x_mod_13 : Value} {x_mod_14 : Value} {x_mod_15 : Value} {x_mod_16 : Value} {x_mod_17 : Value} {x_mod_19 : Value} {x_mod_20 : Value} {x_mod_21 : Value} {x_mod_22 : Value} {x_mod_23 : Value} {x_mod_24 : Value} {x_mod_25 : Value} {x_mod_26 : Value} {x_mod_27 : Value} {x_mod_28 : Value} {x_mod_29 : Value} {x_mod_30 : Value} {x_mod_31 : Value} {x_mod_32 : Value} {p_mod p_mim a_mod a_mim : Nat} {mim : Nat → Bool} {i o t : Nat} {nw n th : Nat} (f0_mod : ws[p_mod]? = some (a_mod, .inr (8, .int (nI (th)) :: .int (nI (n)) :: x_mod_2 :: x_mod_3 :: x_mod_4 :: .int (nI (nw)) :: x_mod_6 :: x_mod_7 :: x_mod_8 :: x_mod_9 :: x_mod_10 :: x_mod_11 :: x_mod_12 :: x_mod_13 :: x_mod_14 :: x_mod_15 :: x_mod_16 :: x_mod_17 :: .ref a_mim :: x_mod_19 :: x_mod_20 :: x_mod_21 :: x_mod_22 :: x_mod_23 :: x_mod_24 :: x_mod_25 :: x_mod_26 :: x_mod_27 :: x_mod_28 :: x_mod_29 :: x_mod_30 :: x_mod_31 :: x_mod_32 :: []))) (f0_mim : ws[p_mim]? = some (a_mim, eZ y 2304 mim)) (hw : nw ≤ 24) (hn : n ≤ 12) (hi : i < n) (ho : o < 4) (ht : t < nw) : gMi l yX7_isMatched wsX7_isMatched ({ frames := 2, cells := 0, slots := 0, locals := 43 }) D y [.ref a_mod, .int (nI (i)), .int (nI (o)), .int (nI (t))] ws (fun r (_ : Unit) => r = gb (mim (48 * t + 4 * i + o))) (fun (_ : Unit) => (ws.set p_mod (a_mod, .inr (8, .int (nI (0)) :: .int (nI (n)) :: x_mod_2 :: x_mod_3 :: x_mod_4 :: .int (nI (nw)) :: x_mod_6 :: x_mod_7 :: x_mod_8 :: x_mod_9 :: x_mod_10 :: x_mod_11 :: x_mod_12 :: x_mod_13 :: x_mod_14 :: x_mod_15 :: x_mod_16 :: x_mod_17 :: .ref a_mim :: x_mod_19 :: x_mod_20 :: x_mod_21 :: x_mod_22 :: x_mod_23 :: x_mod_24 :: x_mod_25 :: x_mod_26 :: x_mod_27 :: x_mod_28 :: x_mod_29 :: x_mod_30 :: x_mod_31 :: x_mod_32 :: [])))) := by
  refine g_met_z (cc := cX7_isMatched) (maxL := 4) (by decide) rfl (Nat.le_of_ble_eq_true rfl) ?_
  intro p e s m below meth c A hx hb hml hr hts hown hnm hlocks hE hP hD hS hA ls hl
  have hown : s.vm.findClass RX7 = some m.cls := hown
  have hl : lv_has ls 4 [(0, .ref a_mod), (1, .int (nI (i))), (2, .int (nI (o))), (3, .int (nI (t)))] := hl
  have in_RX7 := in_c_X7_isMatched_RX7
  refine lv_aload_n hx hb dX7_isMatched_0 rfl (lv_at hl 0 rfl) ?_
  refine lv_aload_n hx hb dX7_isMatched_1 rfl (lv_at hl 0 rfl) ?_
  refine lv_iload_n hx hb dX7_isMatched_2 rfl (lv_at hl 1 rfl) ?_
  refine gc_V_i (As := [.int (nI (i))]) (rest := [.ref a_mod]) (c_X7_isItem l f0_mod (by omega)) ⟨hx, hb, hml, hown, hts⟩ (cwV 1 hts gX7_isMatched_X7_isItem rfl rfl rfl (by decide +kernel) ⟨Nat.le_of_ble_eq_true rfl, Nat.le_of_ble_eq_true rfl⟩) hE hP hD hS hA _ f0_mod rfl rfl rfl rfl hl.1 (Nat.le_of_ble_eq_true rfl) dX7_isMatched_3 ⟨Nat.le_of_ble_eq_true rfl, Nat.le_of_ble_eq_true rfl⟩ (fun r_3 u_3 H locs hP hD hS q_3 => ?_)
  subst q_3
  refine g_bif_eq (tgt := 28) hx hb dX7_isMatched_6 (by decide) (fun c_6 => absurd c_6 (by rw [decide_eq_true (rq_lt hi (by omega))]; decide)) (fun c_6 => ?_)
  refine lv_iload_n hx hb dX7_isMatched_9 rfl (lv_at hl 2 rfl) ?_
  refine gc_S_i (As := [.int (nI (o))]) (rest := [.ref a_mod]) (c_X7_isOutlet l) ⟨hx, hb, hml, hown, hts⟩ (va_cwS 1 hts gX7_isMatched_X7_isOutlet rfl rfl rfl (by decide +kernel) ⟨Nat.le_of_ble_eq_true rfl, Nat.le_of_ble_eq_true rfl⟩) hE hP hD hS hA rfl rfl hl.1 (Nat.le_of_ble_eq_true rfl) dX7_isMatched_10 ⟨Nat.le_of_ble_eq_true rfl, Nat.le_of_ble_eq_true rfl⟩ (fun r_10 u_10 H locs hP hD hS q_10 => ?_)
  subst q_10
  refine g_bif_eq (tgt := 28) hx hb dX7_isMatched_13 (by decide) (fun c_13 => absurd c_13 (by rw [decide_eq_true (rq_lt ho (by omega))]; decide)) (fun c_13 => ?_)
  refine lv_aload_n hx hb dX7_isMatched_16 rfl (lv_at hl 0 rfl) ?_
  refine lv_iload_n hx hb dX7_isMatched_17 rfl (lv_at hl 3 rfl) ?_
  refine gc_V_i (As := [.int (nI (t))]) (rest := [.ref a_mod]) (c_X7_isPublished l f0_mod (by omega)) ⟨hx, hb, hml, hown, hts⟩ (cwV 1 hts gX7_isMatched_X7_isPublished rfl rfl rfl (by decide +kernel) ⟨Nat.le_of_ble_eq_true rfl, Nat.le_of_ble_eq_true rfl⟩) hE hP hD hS hA _ f0_mod rfl rfl rfl rfl hl.1 (Nat.le_of_ble_eq_true rfl) dX7_isMatched_18 ⟨Nat.le_of_ble_eq_true rfl, Nat.le_of_ble_eq_true rfl⟩ (fun r_18 u_18 H locs hP hD hS q_18 => ?_)
  subst q_18
  refine g_bif_eq (tgt := 28) hx hb dX7_isMatched_21 (by decide) (fun c_21 => absurd c_21 (by rw [decide_eq_true (rq_lt ht (by omega))]; decide)) (fun c_21 => ?_)
  refine lv_iconst (v := nI 0) hx hb dX7_isMatched_24 (by decide) ?_
  refine lv_goto (tgt := 29) hx hb dX7_isMatched_25 (by decide) ?_
  refine gv_set f0_mod rfl (by rfl) (fun k9 h9 kk9 => va_put (D := D) (ci := 8) (v := .int (nI (0))) (ty := .int) (C := RX7) (T := TX7) (N := 33) hx hb hts in_RX7 tyX7 tyX7_ok nmX7 hown hE.1 hP hD hS k9 h9 rfl 0 (by decide) (hts (.fieldLink RX7 94 "BasketryOfficeModel" "thrown" "I") (by decide +kernel)) (fun _ h9 => h9) rfl (by decide +kernel) rfl rfl (Nat.le_of_ble_eq_true rfl) dX7_isMatched_29 kk9) (fun H locs hP hD hS => ?_)
  have f_mod := g_eq (x := (a_mod, .inr (8, .int (nI (0)) :: .int (nI (n)) :: x_mod_2 :: x_mod_3 :: x_mod_4 :: .int (nI (nw)) :: x_mod_6 :: x_mod_7 :: x_mod_8 :: x_mod_9 :: x_mod_10 :: x_mod_11 :: x_mod_12 :: x_mod_13 :: x_mod_14 :: x_mod_15 :: x_mod_16 :: x_mod_17 :: .ref a_mim :: x_mod_19 :: x_mod_20 :: x_mod_21 :: x_mod_22 :: x_mod_23 :: x_mod_24 :: x_mod_25 :: x_mod_26 :: x_mod_27 :: x_mod_28 :: x_mod_29 :: x_mod_30 :: x_mod_31 :: x_mod_32 :: []))) (f0_mod)
  have f_mim := g_ne (x := (a_mod, .inr (8, .int (nI (0)) :: .int (nI (n)) :: x_mod_2 :: x_mod_3 :: x_mod_4 :: .int (nI (nw)) :: x_mod_6 :: x_mod_7 :: x_mod_8 :: x_mod_9 :: x_mod_10 :: x_mod_11 :: x_mod_12 :: x_mod_13 :: x_mod_14 :: x_mod_15 :: x_mod_16 :: x_mod_17 :: .ref a_mim :: x_mod_19 :: x_mod_20 :: x_mod_21 :: x_mod_22 :: x_mod_23 :: x_mod_24 :: x_mod_25 :: x_mod_26 :: x_mod_27 :: x_mod_28 :: x_mod_29 :: x_mod_30 :: x_mod_31 :: x_mod_32 :: []))) (g_kne f0_mod f0_mim (Nat.ne_of_beq_eq_false rfl)) (f0_mim)
  refine lv_aload_n hx hb dX7_isMatched_32 rfl (lv_at hl 0 rfl) ?_
  refine va_get (D := D) (ci := 8) (v := .int (nI (0))) (C := RX7) (T := TX7) (N := 33) hx hb hts in_RX7 hown hE.1 (gv1 hP f_mod) 0 rfl rfl 0 (by decide) (hts (.fieldLink RX7 94 "BasketryOfficeModel" "thrown" "I") (by decide +kernel)) (fun _ h9 => h9) rfl dX7_isMatched_33 ?_
  refine g_if_ne (tgt := 57) hx hb (by omega) dX7_isMatched_36 (by decide) (fun c_36 => absurd c_36 (by omega)) (fun c_36 => ?_)
  refine lv_aload_n hx hb dX7_isMatched_39 rfl (lv_at hl 0 rfl) ?_
  refine va_get (D := D) (ci := 8) (v := .ref a_mim) (C := RX7) (T := TX7) (N := 33) hx hb hts in_RX7 hown hE.1 (gv1 hP f_mod) 0 rfl rfl 18 (by decide) (hts (.fieldLink RX7 51 "BasketryOfficeModel" "isMatched" "[Z") (by decide +kernel)) (fun _ h9 => h9) rfl dX7_isMatched_40 ?_
  refine lv_iload_n hx hb dX7_isMatched_43 rfl (lv_at hl 3 rfl) ?_
  refine lv_iload_n hx hb dX7_isMatched_44 rfl (lv_at hl 1 rfl) ?_
  refine lv_iload_n hx hb dX7_isMatched_45 rfl (lv_at hl 2 rfl) ?_
  refine gc_S_i (As := [.int (nI (t)), .int (nI (i)), .int (nI (o))]) (rest := [.ref a_mim]) (c_X7_cell l) ⟨hx, hb, hml, hown, hts⟩ (va_cwS 3 hts gX7_isMatched_X7_cell rfl rfl rfl (by decide +kernel) ⟨Nat.le_of_ble_eq_true rfl, Nat.le_of_ble_eq_true rfl⟩) hE hP hD hS hA rfl rfl hl.1 (Nat.le_of_ble_eq_true rfl) dX7_isMatched_46 ⟨Nat.le_of_ble_eq_true rfl, Nat.le_of_ble_eq_true rfl⟩ (fun r_46 u_46 H locs hP hD hS q_46 => ?_)
  subst q_46
  refine g_zald hx hb hE hP _ f_mim (by omega) (by decide) dX7_isMatched_49 ?_
  refine g_bif_eq (tgt := 57) hx hb dX7_isMatched_50 (by decide) (fun c_50 => ?_) (fun c_50 => ?_)
  · refine lv_iconst (v := nI 0) hx hb dX7_isMatched_57 (by decide) ?_
    refine g_zret (r := (gb (false))) hx hb hr hlocks () dX7_isMatched_58 (gb_narrow _) hS hP hD ?_
    rw [c_50]
  · refine lv_iconst (v := nI 1) hx hb dX7_isMatched_53 (by decide) ?_
    refine lv_goto (tgt := 58) hx hb dX7_isMatched_54 (by decide) ?_
    refine g_zret (r := (gb (true))) hx hb hr hlocks () dX7_isMatched_58 (gb_narrow _) hS hP hD ?_
    rw [c_50]

theorem in_x0_X7_spend_RX7 : ∀ w ∈ wsX70, w ∈ wsX7_spend := by decide +kernel
set_option maxHeartbeats 4000000 in
set_option maxRecDepth 100000 in
theorem x0_X7_spend (l : Launch) {D : va_G} {y : Nat → Nat} {ws : va_W} {x_mod_2 : Value} {x_mod_3 : Value} {x_mod_4 : Value} {x_mod_6 : Value} {x_mod_7 : Value} {x_mod_8 : Value} {x_mod_9 : Value} {x_mod_10 : Value} {x_mod_11 : Value} {x_mod_12 : Value} {x_mod_13 : Value} {x_mod_14 : Value} {x_mod_15 : Value} {x_mod_16 : Value} {x_mod_17 : Value} {x_mod_18 : Value} {x_mod_19 : Value} {x_mod_20 : Value} {x_mod_21 : Value} {x_mod_22 : Value} {x_mod_23 : Value} {x_mod_24 : Value} {x_mod_25 : Value} {x_mod_26 : Value} {x_mod_27 : Value} {x_mod_28 : Value} {x_mod_29 : Value} {x_mod_30 : Value} {x_mod_31 : Value} {x_mod_32 : Value} {p_mod a_mod : Nat} {hh g ce : Int32} {nw n th : Nat} (f0_mod : ws[p_mod]? = some (a_mod, .inr (8, .int (nI (th)) :: .int (nI (n)) :: x_mod_2 :: x_mod_3 :: x_mod_4 :: .int (nI (nw)) :: x_mod_6 :: x_mod_7 :: x_mod_8 :: x_mod_9 :: x_mod_10 :: x_mod_11 :: x_mod_12 :: x_mod_13 :: x_mod_14 :: x_mod_15 :: x_mod_16 :: x_mod_17 :: x_mod_18 :: x_mod_19 :: x_mod_20 :: x_mod_21 :: x_mod_22 :: x_mod_23 :: x_mod_24 :: x_mod_25 :: x_mod_26 :: x_mod_27 :: x_mod_28 :: x_mod_29 :: x_mod_30 :: x_mod_31 :: x_mod_32 :: []))) (hw : nw ≤ 24) (hn : n ≤ 12)  (hbad : hh < 0 ∨ nI 3 ≤ hh) : gMi l yX7_spend wsX7_spend ({ frames := 1, cells := 0, slots := 0, locals := 22 }) D y [.ref a_mod, .int (hh), .int (g), .int (ce)] ws (fun r (_ : Unit) => r = nI 0) (fun (_ : Unit) => (ws.set p_mod (a_mod, .inr (8, .int (nI (1)) :: .int (nI (n)) :: x_mod_2 :: x_mod_3 :: x_mod_4 :: .int (nI (nw)) :: x_mod_6 :: x_mod_7 :: x_mod_8 :: x_mod_9 :: x_mod_10 :: x_mod_11 :: x_mod_12 :: x_mod_13 :: x_mod_14 :: x_mod_15 :: x_mod_16 :: x_mod_17 :: x_mod_18 :: x_mod_19 :: x_mod_20 :: x_mod_21 :: x_mod_22 :: x_mod_23 :: x_mod_24 :: x_mod_25 :: x_mod_26 :: x_mod_27 :: x_mod_28 :: x_mod_29 :: x_mod_30 :: x_mod_31 :: x_mod_32 :: [])))) := by
  refine g_met_i (cc := cX7_spend) (maxL := 5) (by decide) rfl (Nat.le_of_ble_eq_true rfl) ?_
  intro p e s m below meth c A hx hb hml hr hts hown hnm hlocks hE hP hD hS hA ls hl
  have hown : s.vm.findClass RX7 = some m.cls := hown
  have hl : lv_has ls 5 [(0, .ref a_mod), (1, .int (hh)), (2, .int (g)), (3, .int (ce))] := hl
  have in_RX7 := in_x0_X7_spend_RX7
  refine lv_aload_n hx hb dX7_spend_0 rfl (lv_at hl 0 rfl) ?_
  refine lv_iload_n hx hb dX7_spend_1 rfl (lv_at hl 1 rfl) ?_
  refine lv_iconst (v := nI 0) hx hb dX7_spend_2 (by decide) ?_
  refine lv_iconst (v := nI 2) hx hb dX7_spend_3 (by decide) ?_
  refine gc_S_i (As := [.int (hh), .int (nI (0)), .int (nI (2))]) (rest := [.ref a_mod]) (c_X7_in l) ⟨hx, hb, hml, hown, hts⟩ (va_cwS 3 hts gX7_spend_X7_in rfl rfl rfl (by decide +kernel) ⟨Nat.le_of_ble_eq_true rfl, Nat.le_of_ble_eq_true rfl⟩) hE hP hD hS hA rfl rfl hl.1 (Nat.le_of_ble_eq_true rfl) dX7_spend_4 ⟨Nat.le_of_ble_eq_true rfl, Nat.le_of_ble_eq_true rfl⟩ (fun r_4 u_4 H locs hP hD hS q_4 => ?_)
  subst q_4
  refine g_bif_eq (tgt := 17) hx hb dX7_spend_7 (by decide) (fun c_7 => ?_) (fun c_7 => absurd c_7 (by rw [in_cst (by decide), decide_eq_false (fun z => z hbad)]; decide))
  refine lv_iconst (v := nI 1) hx hb dX7_spend_17 (by decide) ?_
  refine lv_goto (tgt := 36) hx hb dX7_spend_18 (by decide) ?_
  refine gv_set f0_mod rfl (by rfl) (fun k9 h9 kk9 => va_put (D := D) (ci := 8) (v := .int (nI (1))) (ty := .int) (C := RX7) (T := TX7) (N := 33) hx hb hts in_RX7 tyX7 tyX7_ok nmX7 hown hE.1 hP hD hS k9 h9 rfl 0 (by decide) (hts (.fieldLink RX7 94 "BasketryOfficeModel" "thrown" "I") (by decide +kernel)) (fun _ h9 => h9) rfl (by decide +kernel) rfl rfl (Nat.le_of_ble_eq_true rfl) dX7_spend_36 kk9) (fun H locs hP hD hS => ?_)
  have f_mod := g_eq (x := (a_mod, .inr (8, .int (nI (1)) :: .int (nI (n)) :: x_mod_2 :: x_mod_3 :: x_mod_4 :: .int (nI (nw)) :: x_mod_6 :: x_mod_7 :: x_mod_8 :: x_mod_9 :: x_mod_10 :: x_mod_11 :: x_mod_12 :: x_mod_13 :: x_mod_14 :: x_mod_15 :: x_mod_16 :: x_mod_17 :: x_mod_18 :: x_mod_19 :: x_mod_20 :: x_mod_21 :: x_mod_22 :: x_mod_23 :: x_mod_24 :: x_mod_25 :: x_mod_26 :: x_mod_27 :: x_mod_28 :: x_mod_29 :: x_mod_30 :: x_mod_31 :: x_mod_32 :: []))) (f0_mod)
  refine lv_aload_n hx hb dX7_spend_39 rfl (lv_at hl 0 rfl) ?_
  refine va_get (D := D) (ci := 8) (v := .int (nI (1))) (C := RX7) (T := TX7) (N := 33) hx hb hts in_RX7 hown hE.1 (gv1 hP f_mod) 0 rfl rfl 0 (by decide) (hts (.fieldLink RX7 94 "BasketryOfficeModel" "thrown" "I") (by decide +kernel)) (fun _ h9 => h9) rfl dX7_spend_40 ?_
  refine g_if_le (tgt := 48) hx hb (by omega) dX7_spend_43 (by decide) (fun c_43 => absurd c_43 (by omega)) (fun c_43 => ?_)
  refine lv_iconst (v := nI 0) hx hb dX7_spend_46 (by decide) ?_
  refine g_iret hx hb hr hlocks () dX7_spend_47 hS hP hD ?_
  exact rfl

theorem in_x1_X7_spend_RX7 : ∀ w ∈ wsX70, w ∈ wsX7_spend := by decide +kernel
set_option maxHeartbeats 4000000 in
set_option maxRecDepth 100000 in
theorem x1_X7_spend (l : Launch) {D : va_G} {y : Nat → Nat} {ws : va_W} {x_mod_2 : Value} {x_mod_3 : Value} {x_mod_4 : Value} {x_mod_6 : Value} {x_mod_7 : Value} {x_mod_8 : Value} {x_mod_9 : Value} {x_mod_10 : Value} {x_mod_11 : Value} {x_mod_12 : Value} {x_mod_13 : Value} {x_mod_14 : Value} {x_mod_15 : Value} {x_mod_16 : Value} {x_mod_17 : Value} {x_mod_18 : Value} {x_mod_19 : Value} {x_mod_20 : Value} {x_mod_21 : Value} {x_mod_22 : Value} {x_mod_23 : Value} {x_mod_24 : Value} {x_mod_25 : Value} {x_mod_26 : Value} {x_mod_27 : Value} {x_mod_28 : Value} {x_mod_29 : Value} {x_mod_30 : Value} {x_mod_31 : Value} {x_mod_32 : Value} {p_mod a_mod : Nat} {hh : Nat} {g ce : Int32} {nw n th : Nat} (f0_mod : ws[p_mod]? = some (a_mod, .inr (8, .int (nI (th)) :: .int (nI (n)) :: x_mod_2 :: x_mod_3 :: x_mod_4 :: .int (nI (nw)) :: x_mod_6 :: x_mod_7 :: x_mod_8 :: x_mod_9 :: x_mod_10 :: x_mod_11 :: x_mod_12 :: x_mod_13 :: x_mod_14 :: x_mod_15 :: x_mod_16 :: x_mod_17 :: x_mod_18 :: x_mod_19 :: x_mod_20 :: x_mod_21 :: x_mod_22 :: x_mod_23 :: x_mod_24 :: x_mod_25 :: x_mod_26 :: x_mod_27 :: x_mod_28 :: x_mod_29 :: x_mod_30 :: x_mod_31 :: x_mod_32 :: []))) (hw : nw ≤ 24) (hn : n ≤ 12) (hhh : hh < 3) (hbad : g < 0 ∨ nI 4 ≤ g) : gMi l yX7_spend wsX7_spend ({ frames := 2, cells := 0, slots := 0, locals := 42 }) D y [.ref a_mod, .int (nI (hh)), .int (g), .int (ce)] ws (fun r (_ : Unit) => r = nI 0) (fun (_ : Unit) => (ws.set p_mod (a_mod, .inr (8, .int (nI (1)) :: .int (nI (n)) :: x_mod_2 :: x_mod_3 :: x_mod_4 :: .int (nI (nw)) :: x_mod_6 :: x_mod_7 :: x_mod_8 :: x_mod_9 :: x_mod_10 :: x_mod_11 :: x_mod_12 :: x_mod_13 :: x_mod_14 :: x_mod_15 :: x_mod_16 :: x_mod_17 :: x_mod_18 :: x_mod_19 :: x_mod_20 :: x_mod_21 :: x_mod_22 :: x_mod_23 :: x_mod_24 :: x_mod_25 :: x_mod_26 :: x_mod_27 :: x_mod_28 :: x_mod_29 :: x_mod_30 :: x_mod_31 :: x_mod_32 :: [])))) := by
  refine g_met_i (cc := cX7_spend) (maxL := 5) (by decide) rfl (Nat.le_of_ble_eq_true rfl) ?_
  intro p e s m below meth c A hx hb hml hr hts hown hnm hlocks hE hP hD hS hA ls hl
  have hown : s.vm.findClass RX7 = some m.cls := hown
  have hl : lv_has ls 5 [(0, .ref a_mod), (1, .int (nI (hh))), (2, .int (g)), (3, .int (ce))] := hl
  have in_RX7 := in_x1_X7_spend_RX7
  refine lv_aload_n hx hb dX7_spend_0 rfl (lv_at hl 0 rfl) ?_
  refine lv_iload_n hx hb dX7_spend_1 rfl (lv_at hl 1 rfl) ?_
  refine lv_iconst (v := nI 0) hx hb dX7_spend_2 (by decide) ?_
  refine lv_iconst (v := nI 2) hx hb dX7_spend_3 (by decide) ?_
  refine gc_S_i (As := [.int (nI (hh)), .int (nI (0)), .int (nI (2))]) (rest := [.ref a_mod]) (c_X7_in l) ⟨hx, hb, hml, hown, hts⟩ (va_cwS 3 hts gX7_spend_X7_in rfl rfl rfl (by decide +kernel) ⟨Nat.le_of_ble_eq_true rfl, Nat.le_of_ble_eq_true rfl⟩) hE hP hD hS hA rfl rfl hl.1 (Nat.le_of_ble_eq_true rfl) dX7_spend_4 ⟨Nat.le_of_ble_eq_true rfl, Nat.le_of_ble_eq_true rfl⟩ (fun r_4 u_4 H locs hP hD hS q_4 => ?_)
  subst q_4
  refine g_bif_eq (tgt := 17) hx hb dX7_spend_7 (by decide) (fun c_7 => absurd c_7 (by rw [decide_eq_true (rq_rg (Nat.zero_le _) (by omega) (by decide))]; decide)) (fun c_7 => ?_)
  refine lv_iload_n hx hb dX7_spend_10 rfl (lv_at hl 2 rfl) ?_
  refine gc_S_i (As := [.int (g)]) (rest := [.ref a_mod]) (c_X7_isGroup l) ⟨hx, hb, hml, hown, hts⟩ (va_cwS 1 hts gX7_spend_X7_isGroup rfl rfl rfl (by decide +kernel) ⟨Nat.le_of_ble_eq_true rfl, Nat.le_of_ble_eq_true rfl⟩) hE hP hD hS hA rfl rfl hl.1 (Nat.le_of_ble_eq_true rfl) dX7_spend_11 ⟨Nat.le_of_ble_eq_true rfl, Nat.le_of_ble_eq_true rfl⟩ (fun r_11 u_11 H locs hP hD hS q_11 => ?_)
  subst q_11
  refine g_bif_ne (tgt := 21) hx hb dX7_spend_14 (by decide) (fun c_14 => absurd c_14 (by rw [decide_eq_false (fun z => z hbad)]; decide)) (fun c_14 => ?_)
  refine lv_iconst (v := nI 1) hx hb dX7_spend_17 (by decide) ?_
  refine lv_goto (tgt := 36) hx hb dX7_spend_18 (by decide) ?_
  refine gv_set f0_mod rfl (by rfl) (fun k9 h9 kk9 => va_put (D := D) (ci := 8) (v := .int (nI (1))) (ty := .int) (C := RX7) (T := TX7) (N := 33) hx hb hts in_RX7 tyX7 tyX7_ok nmX7 hown hE.1 hP hD hS k9 h9 rfl 0 (by decide) (hts (.fieldLink RX7 94 "BasketryOfficeModel" "thrown" "I") (by decide +kernel)) (fun _ h9 => h9) rfl (by decide +kernel) rfl rfl (Nat.le_of_ble_eq_true rfl) dX7_spend_36 kk9) (fun H locs hP hD hS => ?_)
  have f_mod := g_eq (x := (a_mod, .inr (8, .int (nI (1)) :: .int (nI (n)) :: x_mod_2 :: x_mod_3 :: x_mod_4 :: .int (nI (nw)) :: x_mod_6 :: x_mod_7 :: x_mod_8 :: x_mod_9 :: x_mod_10 :: x_mod_11 :: x_mod_12 :: x_mod_13 :: x_mod_14 :: x_mod_15 :: x_mod_16 :: x_mod_17 :: x_mod_18 :: x_mod_19 :: x_mod_20 :: x_mod_21 :: x_mod_22 :: x_mod_23 :: x_mod_24 :: x_mod_25 :: x_mod_26 :: x_mod_27 :: x_mod_28 :: x_mod_29 :: x_mod_30 :: x_mod_31 :: x_mod_32 :: []))) (f0_mod)
  refine lv_aload_n hx hb dX7_spend_39 rfl (lv_at hl 0 rfl) ?_
  refine va_get (D := D) (ci := 8) (v := .int (nI (1))) (C := RX7) (T := TX7) (N := 33) hx hb hts in_RX7 hown hE.1 (gv1 hP f_mod) 0 rfl rfl 0 (by decide) (hts (.fieldLink RX7 94 "BasketryOfficeModel" "thrown" "I") (by decide +kernel)) (fun _ h9 => h9) rfl dX7_spend_40 ?_
  refine g_if_le (tgt := 48) hx hb (by omega) dX7_spend_43 (by decide) (fun c_43 => absurd c_43 (by omega)) (fun c_43 => ?_)
  refine lv_iconst (v := nI 0) hx hb dX7_spend_46 (by decide) ?_
  refine g_iret hx hb hr hlocks () dX7_spend_47 hS hP hD ?_
  exact rfl

theorem in_x2_X7_spend_RX7 : ∀ w ∈ wsX70, w ∈ wsX7_spend := by decide +kernel
set_option maxHeartbeats 4000000 in
set_option maxRecDepth 100000 in
theorem x2_X7_spend (l : Launch) {D : va_G} {y : Nat → Nat} {ws : va_W} {x_mod_2 : Value} {x_mod_3 : Value} {x_mod_4 : Value} {x_mod_6 : Value} {x_mod_7 : Value} {x_mod_8 : Value} {x_mod_9 : Value} {x_mod_10 : Value} {x_mod_11 : Value} {x_mod_12 : Value} {x_mod_13 : Value} {x_mod_14 : Value} {x_mod_15 : Value} {x_mod_16 : Value} {x_mod_17 : Value} {x_mod_18 : Value} {x_mod_19 : Value} {x_mod_20 : Value} {x_mod_21 : Value} {x_mod_22 : Value} {x_mod_23 : Value} {x_mod_24 : Value} {x_mod_25 : Value} {x_mod_26 : Value} {x_mod_27 : Value} {x_mod_28 : Value} {x_mod_29 : Value} {x_mod_30 : Value} {x_mod_31 : Value} {x_mod_32 : Value} {p_mod a_mod : Nat} {hh g : Nat} {ce : Int32} {nw n th : Nat} (f0_mod : ws[p_mod]? = some (a_mod, .inr (8, .int (nI (th)) :: .int (nI (n)) :: x_mod_2 :: x_mod_3 :: x_mod_4 :: .int (nI (nw)) :: x_mod_6 :: x_mod_7 :: x_mod_8 :: x_mod_9 :: x_mod_10 :: x_mod_11 :: x_mod_12 :: x_mod_13 :: x_mod_14 :: x_mod_15 :: x_mod_16 :: x_mod_17 :: x_mod_18 :: x_mod_19 :: x_mod_20 :: x_mod_21 :: x_mod_22 :: x_mod_23 :: x_mod_24 :: x_mod_25 :: x_mod_26 :: x_mod_27 :: x_mod_28 :: x_mod_29 :: x_mod_30 :: x_mod_31 :: x_mod_32 :: []))) (hw : nw ≤ 24) (hn : n ≤ 12) (hhh : hh < 3) (hg : g < 4) (hbad : ce < nI 0 ∨ nI 1000000000 < ce) : gMi l yX7_spend wsX7_spend ({ frames := 2, cells := 0, slots := 0, locals := 42 }) D y [.ref a_mod, .int (nI (hh)), .int (nI (g)), .int (ce)] ws (fun r (_ : Unit) => r = nI 0) (fun (_ : Unit) => (ws.set p_mod (a_mod, .inr (8, .int (nI (2)) :: .int (nI (n)) :: x_mod_2 :: x_mod_3 :: x_mod_4 :: .int (nI (nw)) :: x_mod_6 :: x_mod_7 :: x_mod_8 :: x_mod_9 :: x_mod_10 :: x_mod_11 :: x_mod_12 :: x_mod_13 :: x_mod_14 :: x_mod_15 :: x_mod_16 :: x_mod_17 :: x_mod_18 :: x_mod_19 :: x_mod_20 :: x_mod_21 :: x_mod_22 :: x_mod_23 :: x_mod_24 :: x_mod_25 :: x_mod_26 :: x_mod_27 :: x_mod_28 :: x_mod_29 :: x_mod_30 :: x_mod_31 :: x_mod_32 :: [])))) := by
  refine g_met_i (cc := cX7_spend) (maxL := 5) (by decide) rfl (Nat.le_of_ble_eq_true rfl) ?_
  intro p e s m below meth c A hx hb hml hr hts hown hnm hlocks hE hP hD hS hA ls hl
  have hown : s.vm.findClass RX7 = some m.cls := hown
  have hl : lv_has ls 5 [(0, .ref a_mod), (1, .int (nI (hh))), (2, .int (nI (g))), (3, .int (ce))] := hl
  have in_RX7 := in_x2_X7_spend_RX7
  refine lv_aload_n hx hb dX7_spend_0 rfl (lv_at hl 0 rfl) ?_
  refine lv_iload_n hx hb dX7_spend_1 rfl (lv_at hl 1 rfl) ?_
  refine lv_iconst (v := nI 0) hx hb dX7_spend_2 (by decide) ?_
  refine lv_iconst (v := nI 2) hx hb dX7_spend_3 (by decide) ?_
  refine gc_S_i (As := [.int (nI (hh)), .int (nI (0)), .int (nI (2))]) (rest := [.ref a_mod]) (c_X7_in l) ⟨hx, hb, hml, hown, hts⟩ (va_cwS 3 hts gX7_spend_X7_in rfl rfl rfl (by decide +kernel) ⟨Nat.le_of_ble_eq_true rfl, Nat.le_of_ble_eq_true rfl⟩) hE hP hD hS hA rfl rfl hl.1 (Nat.le_of_ble_eq_true rfl) dX7_spend_4 ⟨Nat.le_of_ble_eq_true rfl, Nat.le_of_ble_eq_true rfl⟩ (fun r_4 u_4 H locs hP hD hS q_4 => ?_)
  subst q_4
  refine g_bif_eq (tgt := 17) hx hb dX7_spend_7 (by decide) (fun c_7 => absurd c_7 (by rw [decide_eq_true (rq_rg (Nat.zero_le _) (by omega) (by decide))]; decide)) (fun c_7 => ?_)
  refine lv_iload_n hx hb dX7_spend_10 rfl (lv_at hl 2 rfl) ?_
  refine gc_S_i (As := [.int (nI (g))]) (rest := [.ref a_mod]) (c_X7_isGroup l) ⟨hx, hb, hml, hown, hts⟩ (va_cwS 1 hts gX7_spend_X7_isGroup rfl rfl rfl (by decide +kernel) ⟨Nat.le_of_ble_eq_true rfl, Nat.le_of_ble_eq_true rfl⟩) hE hP hD hS hA rfl rfl hl.1 (Nat.le_of_ble_eq_true rfl) dX7_spend_11 ⟨Nat.le_of_ble_eq_true rfl, Nat.le_of_ble_eq_true rfl⟩ (fun r_11 u_11 H locs hP hD hS q_11 => ?_)
  subst q_11
  refine g_bif_ne (tgt := 21) hx hb dX7_spend_14 (by decide) (fun c_14 => ?_) (fun c_14 => absurd c_14 (by rw [decide_eq_true (rq_lt hg (by omega))]; decide))
  refine lv_iload_n hx hb dX7_spend_21 rfl (lv_at hl 3 rfl) ?_
  refine lv_iconst (v := nI 0) hx hb dX7_spend_22 (by decide) ?_
  refine lv_ldc (v := 1000000000) hx hb hown (hts (.constant RX7 126 (1000000000)) (by decide +kernel)) dX7_spend_23 ?_
  rw [show (1000000000 : Int32) = nI 1000000000 from by decide]
  refine gc_S_i (As := [.int (ce), .int (nI (0)), .int (nI (1000000000))]) (rest := [.ref a_mod]) (c_X7_in l) ⟨hx, hb, hml, hown, hts⟩ (va_cwS 3 hts gX7_spend_X7_in rfl rfl rfl (by decide +kernel) ⟨Nat.le_of_ble_eq_true rfl, Nat.le_of_ble_eq_true rfl⟩) hE hP hD hS hA rfl rfl hl.1 (Nat.le_of_ble_eq_true rfl) dX7_spend_25 ⟨Nat.le_of_ble_eq_true rfl, Nat.le_of_ble_eq_true rfl⟩ (fun r_25 u_25 H locs hP hD hS q_25 => ?_)
  subst q_25
  refine g_bif_ne (tgt := 35) hx hb dX7_spend_28 (by decide) (fun c_28 => absurd c_28 (by rw [decide_eq_false (fun z => z hbad)]; decide)) (fun c_28 => ?_)
  refine lv_iconst (v := nI 2) hx hb dX7_spend_31 (by decide) ?_
  refine lv_goto (tgt := 36) hx hb dX7_spend_32 (by decide) ?_
  refine gv_set f0_mod rfl (by rfl) (fun k9 h9 kk9 => va_put (D := D) (ci := 8) (v := .int (nI (2))) (ty := .int) (C := RX7) (T := TX7) (N := 33) hx hb hts in_RX7 tyX7 tyX7_ok nmX7 hown hE.1 hP hD hS k9 h9 rfl 0 (by decide) (hts (.fieldLink RX7 94 "BasketryOfficeModel" "thrown" "I") (by decide +kernel)) (fun _ h9 => h9) rfl (by decide +kernel) rfl rfl (Nat.le_of_ble_eq_true rfl) dX7_spend_36 kk9) (fun H locs hP hD hS => ?_)
  have f_mod := g_eq (x := (a_mod, .inr (8, .int (nI (2)) :: .int (nI (n)) :: x_mod_2 :: x_mod_3 :: x_mod_4 :: .int (nI (nw)) :: x_mod_6 :: x_mod_7 :: x_mod_8 :: x_mod_9 :: x_mod_10 :: x_mod_11 :: x_mod_12 :: x_mod_13 :: x_mod_14 :: x_mod_15 :: x_mod_16 :: x_mod_17 :: x_mod_18 :: x_mod_19 :: x_mod_20 :: x_mod_21 :: x_mod_22 :: x_mod_23 :: x_mod_24 :: x_mod_25 :: x_mod_26 :: x_mod_27 :: x_mod_28 :: x_mod_29 :: x_mod_30 :: x_mod_31 :: x_mod_32 :: []))) (f0_mod)
  refine lv_aload_n hx hb dX7_spend_39 rfl (lv_at hl 0 rfl) ?_
  refine va_get (D := D) (ci := 8) (v := .int (nI (2))) (C := RX7) (T := TX7) (N := 33) hx hb hts in_RX7 hown hE.1 (gv1 hP f_mod) 0 rfl rfl 0 (by decide) (hts (.fieldLink RX7 94 "BasketryOfficeModel" "thrown" "I") (by decide +kernel)) (fun _ h9 => h9) rfl dX7_spend_40 ?_
  refine g_if_le (tgt := 48) hx hb (by omega) dX7_spend_43 (by decide) (fun c_43 => absurd c_43 (by omega)) (fun c_43 => ?_)
  refine lv_iconst (v := nI 0) hx hb dX7_spend_46 (by decide) ?_
  refine g_iret hx hb hr hlocks () dX7_spend_47 hS hP hD ?_
  exact rfl

theorem in_c_X7_spend_RX7 : ∀ w ∈ wsX70, w ∈ wsX7_spend := by decide +kernel
set_option maxHeartbeats 4000000 in
set_option maxRecDepth 100000 in
theorem c_X7_spend (l : Launch) {D : va_G} {y : Nat → Nat} {ws : va_W} {x_mod_2 : Value} {x_mod_3 : Value} {x_mod_4 : Value} {x_mod_6 : Value} {x_mod_7 : Value} {x_mod_8 : Value} {x_mod_9 : Value} {x_mod_10 : Value} {x_mod_11 : Value} {x_mod_12 : Value} {x_mod_13 : Value} {x_mod_15 : Value} {x_mod_16 : Value} {x_mod_17 : Value} {x_mod_18 : Value} {x_mod_19 : Value} {x_mod_20 : Value} {x_mod_21 : Value} {x_mod_22 : Value} {x_mod_23 : Value} {x_mod_24 : Value} {x_mod_25 : Value} {x_mod_26 : Value} {x_mod_27 : Value} {x_mod_28 : Value} {x_mod_29 : Value} {x_mod_30 : Value} {x_mod_31 : Value} {x_mod_32 : Value} {p_mod p_mto a_mod a_mto : Nat} {mto : Nat → Nat} {hh g ce : Nat} {nw n th : Nat} (f0_mod : ws[p_mod]? = some (a_mod, .inr (8, .int (nI (th)) :: .int (nI (n)) :: x_mod_2 :: x_mod_3 :: x_mod_4 :: .int (nI (nw)) :: x_mod_6 :: x_mod_7 :: x_mod_8 :: x_mod_9 :: x_mod_10 :: x_mod_11 :: x_mod_12 :: x_mod_13 :: .ref a_mto :: x_mod_15 :: x_mod_16 :: x_mod_17 :: x_mod_18 :: x_mod_19 :: x_mod_20 :: x_mod_21 :: x_mod_22 :: x_mod_23 :: x_mod_24 :: x_mod_25 :: x_mod_26 :: x_mod_27 :: x_mod_28 :: x_mod_29 :: x_mod_30 :: x_mod_31 :: x_mod_32 :: []))) (f0_mto : ws[p_mto]? = some (a_mto, eN y 12 mto)) (b_mto : ∀ k, mto k ≤ 1000000000) (hw : nw ≤ 24) (hn : n ≤ 12) (hhh : hh < 3) (hg : g < 4) (hce : 0 ≤ ce) (kce : ce ≤ 1000000000) : gMi l yX7_spend wsX7_spend ({ frames := 2, cells := 0, slots := 0, locals := 42 }) D y [.ref a_mod, .int (nI (hh)), .int (nI (g)), .int (nI (ce))] ws (fun r (_ : Unit) => r = nI (mto (4 * hh + g))) (fun (_ : Unit) => ((ws.set p_mod (a_mod, .inr (8, .int (nI (0)) :: .int (nI (n)) :: x_mod_2 :: x_mod_3 :: x_mod_4 :: .int (nI (nw)) :: x_mod_6 :: x_mod_7 :: x_mod_8 :: x_mod_9 :: x_mod_10 :: x_mod_11 :: x_mod_12 :: x_mod_13 :: .ref a_mto :: x_mod_15 :: x_mod_16 :: x_mod_17 :: x_mod_18 :: x_mod_19 :: x_mod_20 :: x_mod_21 :: x_mod_22 :: x_mod_23 :: x_mod_24 :: x_mod_25 :: x_mod_26 :: x_mod_27 :: x_mod_28 :: x_mod_29 :: x_mod_30 :: x_mod_31 :: x_mod_32 :: []))).set p_mto (a_mto, eN y 12 (vf_upd mto (4 * hh + g) (ce))))) := by
  refine g_met_i (cc := cX7_spend) (maxL := 5) (by decide) rfl (Nat.le_of_ble_eq_true rfl) ?_
  intro p e s m below meth c A hx hb hml hr hts hown hnm hlocks hE hP hD hS hA ls hl
  have hown : s.vm.findClass RX7 = some m.cls := hown
  have hl : lv_has ls 5 [(0, .ref a_mod), (1, .int (nI (hh))), (2, .int (nI (g))), (3, .int (nI (ce)))] := hl
  have in_RX7 := in_c_X7_spend_RX7
  refine lv_aload_n hx hb dX7_spend_0 rfl (lv_at hl 0 rfl) ?_
  refine lv_iload_n hx hb dX7_spend_1 rfl (lv_at hl 1 rfl) ?_
  refine lv_iconst (v := nI 0) hx hb dX7_spend_2 (by decide) ?_
  refine lv_iconst (v := nI 2) hx hb dX7_spend_3 (by decide) ?_
  refine gc_S_i (As := [.int (nI (hh)), .int (nI (0)), .int (nI (2))]) (rest := [.ref a_mod]) (c_X7_in l) ⟨hx, hb, hml, hown, hts⟩ (va_cwS 3 hts gX7_spend_X7_in rfl rfl rfl (by decide +kernel) ⟨Nat.le_of_ble_eq_true rfl, Nat.le_of_ble_eq_true rfl⟩) hE hP hD hS hA rfl rfl hl.1 (Nat.le_of_ble_eq_true rfl) dX7_spend_4 ⟨Nat.le_of_ble_eq_true rfl, Nat.le_of_ble_eq_true rfl⟩ (fun r_4 u_4 H locs hP hD hS q_4 => ?_)
  subst q_4
  refine g_bif_eq (tgt := 17) hx hb dX7_spend_7 (by decide) (fun c_7 => absurd c_7 (by rw [decide_eq_true (rq_rg (Nat.zero_le _) (by omega) (by decide))]; decide)) (fun c_7 => ?_)
  refine lv_iload_n hx hb dX7_spend_10 rfl (lv_at hl 2 rfl) ?_
  refine gc_S_i (As := [.int (nI (g))]) (rest := [.ref a_mod]) (c_X7_isGroup l) ⟨hx, hb, hml, hown, hts⟩ (va_cwS 1 hts gX7_spend_X7_isGroup rfl rfl rfl (by decide +kernel) ⟨Nat.le_of_ble_eq_true rfl, Nat.le_of_ble_eq_true rfl⟩) hE hP hD hS hA rfl rfl hl.1 (Nat.le_of_ble_eq_true rfl) dX7_spend_11 ⟨Nat.le_of_ble_eq_true rfl, Nat.le_of_ble_eq_true rfl⟩ (fun r_11 u_11 H locs hP hD hS q_11 => ?_)
  subst q_11
  refine g_bif_ne (tgt := 21) hx hb dX7_spend_14 (by decide) (fun c_14 => ?_) (fun c_14 => absurd c_14 (by rw [decide_eq_true (rq_lt hg (by omega))]; decide))
  refine lv_iload_n hx hb dX7_spend_21 rfl (lv_at hl 3 rfl) ?_
  refine lv_iconst (v := nI 0) hx hb dX7_spend_22 (by decide) ?_
  refine lv_ldc (v := 1000000000) hx hb hown (hts (.constant RX7 126 (1000000000)) (by decide +kernel)) dX7_spend_23 ?_
  rw [show (1000000000 : Int32) = nI 1000000000 from by decide]
  refine gc_S_i (As := [.int (nI (ce)), .int (nI (0)), .int (nI (1000000000))]) (rest := [.ref a_mod]) (c_X7_in l) ⟨hx, hb, hml, hown, hts⟩ (va_cwS 3 hts gX7_spend_X7_in rfl rfl rfl (by decide +kernel) ⟨Nat.le_of_ble_eq_true rfl, Nat.le_of_ble_eq_true rfl⟩) hE hP hD hS hA rfl rfl hl.1 (Nat.le_of_ble_eq_true rfl) dX7_spend_25 ⟨Nat.le_of_ble_eq_true rfl, Nat.le_of_ble_eq_true rfl⟩ (fun r_25 u_25 H locs hP hD hS q_25 => ?_)
  subst q_25
  refine g_bif_ne (tgt := 35) hx hb dX7_spend_28 (by decide) (fun c_28 => ?_) (fun c_28 => absurd c_28 (by rw [decide_eq_true (rq_rg hce kce (by decide))]; decide))
  refine lv_iconst (v := nI 0) hx hb dX7_spend_35 (by decide) ?_
  refine gv_set f0_mod rfl (by rfl) (fun k9 h9 kk9 => va_put (D := D) (ci := 8) (v := .int (nI (0))) (ty := .int) (C := RX7) (T := TX7) (N := 33) hx hb hts in_RX7 tyX7 tyX7_ok nmX7 hown hE.1 hP hD hS k9 h9 rfl 0 (by decide) (hts (.fieldLink RX7 94 "BasketryOfficeModel" "thrown" "I") (by decide +kernel)) (fun _ h9 => h9) rfl (by decide +kernel) rfl rfl (Nat.le_of_ble_eq_true rfl) dX7_spend_36 kk9) (fun H locs hP hD hS => ?_)
  have f_mod := g_eq (x := (a_mod, .inr (8, .int (nI (0)) :: .int (nI (n)) :: x_mod_2 :: x_mod_3 :: x_mod_4 :: .int (nI (nw)) :: x_mod_6 :: x_mod_7 :: x_mod_8 :: x_mod_9 :: x_mod_10 :: x_mod_11 :: x_mod_12 :: x_mod_13 :: .ref a_mto :: x_mod_15 :: x_mod_16 :: x_mod_17 :: x_mod_18 :: x_mod_19 :: x_mod_20 :: x_mod_21 :: x_mod_22 :: x_mod_23 :: x_mod_24 :: x_mod_25 :: x_mod_26 :: x_mod_27 :: x_mod_28 :: x_mod_29 :: x_mod_30 :: x_mod_31 :: x_mod_32 :: []))) (f0_mod)
  have f_mto := g_ne (x := (a_mod, .inr (8, .int (nI (0)) :: .int (nI (n)) :: x_mod_2 :: x_mod_3 :: x_mod_4 :: .int (nI (nw)) :: x_mod_6 :: x_mod_7 :: x_mod_8 :: x_mod_9 :: x_mod_10 :: x_mod_11 :: x_mod_12 :: x_mod_13 :: .ref a_mto :: x_mod_15 :: x_mod_16 :: x_mod_17 :: x_mod_18 :: x_mod_19 :: x_mod_20 :: x_mod_21 :: x_mod_22 :: x_mod_23 :: x_mod_24 :: x_mod_25 :: x_mod_26 :: x_mod_27 :: x_mod_28 :: x_mod_29 :: x_mod_30 :: x_mod_31 :: x_mod_32 :: []))) (g_kne f0_mod f0_mto (Nat.ne_of_beq_eq_false rfl)) (f0_mto)
  refine lv_aload_n hx hb dX7_spend_39 rfl (lv_at hl 0 rfl) ?_
  refine va_get (D := D) (ci := 8) (v := .int (nI (0))) (C := RX7) (T := TX7) (N := 33) hx hb hts in_RX7 hown hE.1 (gv1 hP f_mod) 0 rfl rfl 0 (by decide) (hts (.fieldLink RX7 94 "BasketryOfficeModel" "thrown" "I") (by decide +kernel)) (fun _ h9 => h9) rfl dX7_spend_40 ?_
  refine g_if_le (tgt := 48) hx hb (by omega) dX7_spend_43 (by decide) (fun c_43 => ?_) (fun c_43 => absurd c_43 (by omega))
  refine lv_aload_n hx hb dX7_spend_48 rfl (lv_at hl 0 rfl) ?_
  refine va_get (D := D) (ci := 8) (v := .ref a_mto) (C := RX7) (T := TX7) (N := 33) hx hb hts in_RX7 hown hE.1 (gv1 hP f_mod) 0 rfl rfl 14 (by decide) (hts (.fieldLink RX7 38 "BasketryOfficeModel" "told" "[I") (by decide +kernel)) (fun _ h9 => h9) rfl dX7_spend_49 ?_
  refine lv_iconst (v := nI 4) hx hb dX7_spend_52 (by decide) ?_
  refine lv_iload_n hx hb dX7_spend_53 rfl (lv_at hl 1 rfl) ?_
  refine g_imul hx hb dX7_spend_54 (pk_mul _ _) ?_
  refine lv_iload_n hx hb dX7_spend_55 rfl (lv_at hl 2 rfl) ?_
  refine g_iadd hx hb dX7_spend_56 (nI_add _ _) ?_
  refine g_nald hx hb hE hP _ f_mto (by omega) (by decide) dX7_spend_57 ?_
  have bd_57_1 := b_mto ((4 * hh) + g)
  refine lv_istore (lv' := [(4, .int (nI (mto ((4 * hh) + g)))), (0, .ref a_mod), (1, .int (nI (hh))), (2, .int (nI (g))), (3, .int (nI (ce)))]) hx hb dX7_spend_58 hl (by decide) rfl (fun ls hl => ?_)
  refine lv_aload_n hx hb dX7_spend_60 rfl (lv_at hl 1 rfl) ?_
  refine va_get (D := D) (ci := 8) (v := .ref a_mto) (C := RX7) (T := TX7) (N := 33) hx hb hts in_RX7 hown hE.1 (gv1 hP f_mod) 0 rfl rfl 14 (by decide) (hts (.fieldLink RX7 38 "BasketryOfficeModel" "told" "[I") (by decide +kernel)) (fun _ h9 => h9) rfl dX7_spend_61 ?_
  refine lv_iconst (v := nI 4) hx hb dX7_spend_64 (by decide) ?_
  refine lv_iload_n hx hb dX7_spend_65 rfl (lv_at hl 2 rfl) ?_
  refine g_imul hx hb dX7_spend_66 (pk_mul _ _) ?_
  refine lv_iload_n hx hb dX7_spend_67 rfl (lv_at hl 3 rfl) ?_
  refine g_iadd hx hb dX7_spend_68 (nI_add _ _) ?_
  refine lv_iload_n hx hb dX7_spend_69 rfl (lv_at hl 4 rfl) ?_
  refine g_nast hx hb hE hP hD hS _ f_mto (by omega) (by decide) dX7_spend_70 (fun H locs hP hD hS => ?_)
  have f_mod := g_ne (x := (a_mto, eN y 12 (vf_upd mto ((4 * hh) + g) (ce)))) (g_kne f0_mto f0_mod (Nat.ne_of_beq_eq_false rfl)) (g_eq (x := (a_mod, .inr (8, .int (nI (0)) :: .int (nI (n)) :: x_mod_2 :: x_mod_3 :: x_mod_4 :: .int (nI (nw)) :: x_mod_6 :: x_mod_7 :: x_mod_8 :: x_mod_9 :: x_mod_10 :: x_mod_11 :: x_mod_12 :: x_mod_13 :: .ref a_mto :: x_mod_15 :: x_mod_16 :: x_mod_17 :: x_mod_18 :: x_mod_19 :: x_mod_20 :: x_mod_21 :: x_mod_22 :: x_mod_23 :: x_mod_24 :: x_mod_25 :: x_mod_26 :: x_mod_27 :: x_mod_28 :: x_mod_29 :: x_mod_30 :: x_mod_31 :: x_mod_32 :: []))) (f0_mod))
  have f_mto := g_eq (x := (a_mto, eN y 12 (vf_upd mto ((4 * hh) + g) (ce)))) (g_ne (x := (a_mod, .inr (8, .int (nI (0)) :: .int (nI (n)) :: x_mod_2 :: x_mod_3 :: x_mod_4 :: .int (nI (nw)) :: x_mod_6 :: x_mod_7 :: x_mod_8 :: x_mod_9 :: x_mod_10 :: x_mod_11 :: x_mod_12 :: x_mod_13 :: .ref a_mto :: x_mod_15 :: x_mod_16 :: x_mod_17 :: x_mod_18 :: x_mod_19 :: x_mod_20 :: x_mod_21 :: x_mod_22 :: x_mod_23 :: x_mod_24 :: x_mod_25 :: x_mod_26 :: x_mod_27 :: x_mod_28 :: x_mod_29 :: x_mod_30 :: x_mod_31 :: x_mod_32 :: []))) (g_kne f0_mod f0_mto (Nat.ne_of_beq_eq_false rfl)) (f0_mto))
  refine lv_iload hx hb dX7_spend_71 (lv_at hl 0 rfl) ?_
  refine g_iret hx hb hr hlocks () dX7_spend_73 hS hP hD ?_
  exact rfl
