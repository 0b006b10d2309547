theorem in_x0_X7_fix_RX7 : ∀ w ∈ wsX70, w ∈ wsX7_fix := by decide +kernel
set_option maxHeartbeats 4000000 in
set_option maxRecDepth 100000 in
theorem x0_X7_fix (l : Launch) {D : va_G} {y : Nat → Nat} {ws : va_W} {x_mod_2 : Value} {x_mod_3 : Value} {x_mod_4 : Value} {x_mod_6 : Value} {x_mod_9 : Value} {x_mod_10 : Value} {x_mod_11 : Value} {x_mod_12 : Value} {x_mod_13 : Value} {x_mod_14 : Value} {x_mod_15 : Value} {x_mod_16 : Value} {x_mod_17 : Value} {x_mod_18 : Value} {x_mod_19 : Value} {x_mod_20 : Value} {x_mod_21 : Value} {x_mod_22 : Value} {x_mod_23 : Value} {x_mod_24 : Value} {x_mod_25 : Value} {x_mod_26 : Value} {x_mod_27 : Value} {x_mod_28 : Value} {x_mod_29 : Value} {x_mod_30 : Value} {x_mod_31 : Value} {x_mod_32 : Value} {p_mod p_mce a_mod a_mce : Nat} {mce : Nat → Nat} {t i o ce : Int32} {nw n th fx9 : Nat} (f0_mod : ws[p_mod]? = some (a_mod, .inr (8, .int (nI (th)) :: .int (nI (n)) :: x_mod_2 :: x_mod_3 :: x_mod_4 :: .int (nI (nw)) :: x_mod_6 :: .int (nI (fx9)) :: .ref a_mce :: x_mod_9 :: x_mod_10 :: x_mod_11 :: x_mod_12 :: x_mod_13 :: x_mod_14 :: x_mod_15 :: x_mod_16 :: x_mod_17 :: x_mod_18 :: x_mod_19 :: x_mod_20 :: x_mod_21 :: x_mod_22 :: x_mod_23 :: x_mod_24 :: x_mod_25 :: x_mod_26 :: x_mod_27 :: x_mod_28 :: x_mod_29 :: x_mod_30 :: x_mod_31 :: x_mod_32 :: []))) (f0_mce : ws[p_mce]? = some (a_mce, eN y 1152 mce)) (b_mce : ∀ k, mce k ≤ 100000) (hw : nw ≤ 24) (hn : n ≤ 12)  (hbad : t < 0 ∨ nI nw ≤ t) : gMi l yX7_fix wsX7_fix ({ frames := 2, cells := 0, slots := 0, locals := 43 }) D y [.ref a_mod, .int (t), .int (i), .int (o), .int (ce)] ws (fun r (_ : Unit) => r = nI 0) (fun (_ : Unit) => (ws.set p_mod (a_mod, .inr (8, .int (nI (1)) :: .int (nI (n)) :: x_mod_2 :: x_mod_3 :: x_mod_4 :: .int (nI (nw)) :: x_mod_6 :: .int (nI (fx9)) :: .ref a_mce :: x_mod_9 :: x_mod_10 :: x_mod_11 :: x_mod_12 :: x_mod_13 :: x_mod_14 :: x_mod_15 :: x_mod_16 :: x_mod_17 :: x_mod_18 :: x_mod_19 :: x_mod_20 :: x_mod_21 :: x_mod_22 :: x_mod_23 :: x_mod_24 :: x_mod_25 :: x_mod_26 :: x_mod_27 :: x_mod_28 :: x_mod_29 :: x_mod_30 :: x_mod_31 :: x_mod_32 :: [])))) := by
  refine g_met_i (cc := cX7_fix) (maxL := 7) (by decide) rfl (Nat.le_of_ble_eq_true rfl) ?_
  intro p e s m below meth c A hx hb hml hr hts hown hnm hlocks hE hP hD hS hA ls hl
  have hown : s.vm.findClass RX7 = some m.cls := hown
  have hl : lv_has ls 7 [(0, .ref a_mod), (1, .int (t)), (2, .int (i)), (3, .int (o)), (4, .int (ce))] := hl
  have in_RX7 := in_x0_X7_fix_RX7
  refine lv_aload_n hx hb dX7_fix_0 rfl (lv_at hl 0 rfl) ?_
  refine lv_aload_n hx hb dX7_fix_1 rfl (lv_at hl 0 rfl) ?_
  refine lv_iload_n hx hb dX7_fix_2 rfl (lv_at hl 1 rfl) ?_
  refine gc_V_i (As := [.int (t)]) (rest := [.ref a_mod]) (c_X7_isPublished l f0_mod (by omega)) ⟨hx, hb, hml, hown, hts⟩ (cwV 1 hts gX7_fix_X7_isPublished rfl rfl rfl (by decide +kernel) ⟨Nat.le_of_ble_eq_true rfl, Nat.le_of_ble_eq_true rfl⟩) hE hP hD hS hA _ f0_mod rfl rfl rfl rfl hl.1 (Nat.le_of_ble_eq_true rfl) dX7_fix_3 ⟨Nat.le_of_ble_eq_true rfl, Nat.le_of_ble_eq_true rfl⟩ (fun r_3 u_3 H locs hP hD hS q_3 => ?_)
  subst q_3
  refine g_bif_eq (tgt := 24) hx hb dX7_fix_6 (by decide) (fun c_6 => ?_) (fun c_6 => absurd c_6 (by rw [decide_eq_false (fun z => z hbad)]; decide))
  refine lv_iconst (v := nI 1) hx hb dX7_fix_24 (by decide) ?_
  refine lv_goto (tgt := 62) hx hb dX7_fix_25 (by decide) ?_
  refine gv_set f0_mod rfl (by rfl) (fun k9 h9 kk9 => va_put (D := D) (ci := 8) (v := .int (nI (1))) (ty := .int) (C := RX7) (T := TX7) (N := 33) hx hb hts in_RX7 tyX7 tyX7_ok nmX7 hown hE.1 hP hD hS k9 h9 rfl 0 (by decide) (hts (.fieldLink RX7 94 "BasketryOfficeModel" "thrown" "I") (by decide +kernel)) (fun _ h9 => h9) rfl (by decide +kernel) rfl rfl (Nat.le_of_ble_eq_true rfl) dX7_fix_62 kk9) (fun H locs hP hD hS => ?_)
  have f_mod := g_eq (x := (a_mod, .inr (8, .int (nI (1)) :: .int (nI (n)) :: x_mod_2 :: x_mod_3 :: x_mod_4 :: .int (nI (nw)) :: x_mod_6 :: .int (nI (fx9)) :: .ref a_mce :: x_mod_9 :: x_mod_10 :: x_mod_11 :: x_mod_12 :: x_mod_13 :: x_mod_14 :: x_mod_15 :: x_mod_16 :: x_mod_17 :: x_mod_18 :: x_mod_19 :: x_mod_20 :: x_mod_21 :: x_mod_22 :: x_mod_23 :: x_mod_24 :: x_mod_25 :: x_mod_26 :: x_mod_27 :: x_mod_28 :: x_mod_29 :: x_mod_30 :: x_mod_31 :: x_mod_32 :: []))) (f0_mod)
  have f_mce := g_ne (x := (a_mod, .inr (8, .int (nI (1)) :: .int (nI (n)) :: x_mod_2 :: x_mod_3 :: x_mod_4 :: .int (nI (nw)) :: x_mod_6 :: .int (nI (fx9)) :: .ref a_mce :: x_mod_9 :: x_mod_10 :: x_mod_11 :: x_mod_12 :: x_mod_13 :: x_mod_14 :: x_mod_15 :: x_mod_16 :: x_mod_17 :: x_mod_18 :: x_mod_19 :: x_mod_20 :: x_mod_21 :: x_mod_22 :: x_mod_23 :: x_mod_24 :: x_mod_25 :: x_mod_26 :: x_mod_27 :: x_mod_28 :: x_mod_29 :: x_mod_30 :: x_mod_31 :: x_mod_32 :: []))) (g_kne f0_mod f0_mce (Nat.ne_of_beq_eq_false rfl)) (f0_mce)
  refine lv_aload_n hx hb dX7_fix_65 rfl (lv_at hl 0 rfl) ?_
  refine va_get (D := D) (ci := 8) (v := .int (nI (1))) (C := RX7) (T := TX7) (N := 33) hx hb hts in_RX7 hown hE.1 (gv1 hP f_mod) 0 rfl rfl 0 (by decide) (hts (.fieldLink RX7 94 "BasketryOfficeModel" "thrown" "I") (by decide +kernel)) (fun _ h9 => h9) rfl dX7_fix_66 ?_
  refine g_if_le (tgt := 74) hx hb (by omega) dX7_fix_69 (by decide) (fun c_69 => absurd c_69 (by omega)) (fun c_69 => ?_)
  refine lv_iconst (v := nI 0) hx hb dX7_fix_72 (by decide) ?_
  refine g_iret hx hb hr hlocks () dX7_fix_73 hS hP hD ?_
  exact rfl

theorem in_x1_X7_fix_RX7 : ∀ w ∈ wsX70, w ∈ wsX7_fix := by decide +kernel
set_option maxHeartbeats 4000000 in
set_option maxRecDepth 100000 in
theorem x1_X7_fix (l : Launch) {D : va_G} {y : Nat → Nat} {ws : va_W} {x_mod_2 : Value} {x_mod_3 : Value} {x_mod_4 : Value} {x_mod_6 : Value} {x_mod_9 : Value} {x_mod_10 : Value} {x_mod_11 : Value} {x_mod_12 : Value} {x_mod_13 : Value} {x_mod_14 : Value} {x_mod_15 : Value} {x_mod_16 : Value} {x_mod_17 : Value} {x_mod_18 : Value} {x_mod_19 : Value} {x_mod_20 : Value} {x_mod_21 : Value} {x_mod_22 : Value} {x_mod_23 : Value} {x_mod_24 : Value} {x_mod_25 : Value} {x_mod_26 : Value} {x_mod_27 : Value} {x_mod_28 : Value} {x_mod_29 : Value} {x_mod_30 : Value} {x_mod_31 : Value} {x_mod_32 : Value} {p_mod p_mce a_mod a_mce : Nat} {mce : Nat → Nat} {t : Nat} {i o ce : Int32} {nw n th fx9 : Nat} (f0_mod : ws[p_mod]? = some (a_mod, .inr (8, .int (nI (th)) :: .int (nI (n)) :: x_mod_2 :: x_mod_3 :: x_mod_4 :: .int (nI (nw)) :: x_mod_6 :: .int (nI (fx9)) :: .ref a_mce :: x_mod_9 :: x_mod_10 :: x_mod_11 :: x_mod_12 :: x_mod_13 :: x_mod_14 :: x_mod_15 :: x_mod_16 :: x_mod_17 :: x_mod_18 :: x_mod_19 :: x_mod_20 :: x_mod_21 :: x_mod_22 :: x_mod_23 :: x_mod_24 :: x_mod_25 :: x_mod_26 :: x_mod_27 :: x_mod_28 :: x_mod_29 :: x_mod_30 :: x_mod_31 :: x_mod_32 :: []))) (f0_mce : ws[p_mce]? = some (a_mce, eN y 1152 mce)) (b_mce : ∀ k, mce k ≤ 100000) (hw : nw ≤ 24) (hn : n ≤ 12) (ht : t < nw) (hbad : i < 0 ∨ nI n ≤ i) : gMi l yX7_fix wsX7_fix ({ frames := 2, cells := 0, slots := 0, locals := 43 }) D y [.ref a_mod, .int (nI (t)), .int (i), .int (o), .int (ce)] ws (fun r (_ : Unit) => r = nI 0) (fun (_ : Unit) => (ws.set p_mod (a_mod, .inr (8, .int (nI (1)) :: .int (nI (n)) :: x_mod_2 :: x_mod_3 :: x_mod_4 :: .int (nI (nw)) :: x_mod_6 :: .int (nI (fx9)) :: .ref a_mce :: x_mod_9 :: x_mod_10 :: x_mod_11 :: x_mod_12 :: x_mod_13 :: x_mod_14 :: x_mod_15 :: x_mod_16 :: x_mod_17 :: x_mod_18 :: x_mod_19 :: x_mod_20 :: x_mod_21 :: x_mod_22 :: x_mod_23 :: x_mod_24 :: x_mod_25 :: x_mod_26 :: x_mod_27 :: x_mod_28 :: x_mod_29 :: x_mod_30 :: x_mod_31 :: x_mod_32 :: [])))) := by
  refine g_met_i (cc := cX7_fix) (maxL := 7) (by decide) rfl (Nat.le_of_ble_eq_true rfl) ?_
  intro p e s m below meth c A hx hb hml hr hts hown hnm hlocks hE hP hD hS hA ls hl
  have hown : s.vm.findClass RX7 = some m.cls := hown
  have hl : lv_has ls 7 [(0, .ref a_mod), (1, .int (nI (t))), (2, .int (i)), (3, .int (o)), (4, .int (ce))] := hl
  have in_RX7 := in_x1_X7_fix_RX7
  refine lv_aload_n hx hb dX7_fix_0 rfl (lv_at hl 0 rfl) ?_
  refine lv_aload_n hx hb dX7_fix_1 rfl (lv_at hl 0 rfl) ?_
  refine lv_iload_n hx hb dX7_fix_2 rfl (lv_at hl 1 rfl) ?_
  refine gc_V_i (As := [.int (nI (t))]) (rest := [.ref a_mod]) (c_X7_isPublished l f0_mod (by omega)) ⟨hx, hb, hml, hown, hts⟩ (cwV 1 hts gX7_fix_X7_isPublished rfl rfl rfl (by decide +kernel) ⟨Nat.le_of_ble_eq_true rfl, Nat.le_of_ble_eq_true rfl⟩) hE hP hD hS hA _ f0_mod rfl rfl rfl rfl hl.1 (Nat.le_of_ble_eq_true rfl) dX7_fix_3 ⟨Nat.le_of_ble_eq_true rfl, Nat.le_of_ble_eq_true rfl⟩ (fun r_3 u_3 H locs hP hD hS q_3 => ?_)
  subst q_3
  refine g_bif_eq (tgt := 24) hx hb dX7_fix_6 (by decide) (fun c_6 => absurd c_6 (by rw [decide_eq_true (rq_lt ht (by omega))]; decide)) (fun c_6 => ?_)
  refine lv_aload_n hx hb dX7_fix_9 rfl (lv_at hl 0 rfl) ?_
  refine lv_iload_n hx hb dX7_fix_10 rfl (lv_at hl 2 rfl) ?_
  refine gc_V_i (As := [.int (i)]) (rest := [.ref a_mod]) (c_X7_isItem l f0_mod (by omega)) ⟨hx, hb, hml, hown, hts⟩ (cwV 1 hts gX7_fix_X7_isItem rfl rfl rfl (by decide +kernel) ⟨Nat.le_of_ble_eq_true rfl, Nat.le_of_ble_eq_true rfl⟩) hE hP hD hS hA _ f0_mod rfl rfl rfl rfl hl.1 (Nat.le_of_ble_eq_true rfl) dX7_fix_11 ⟨Nat.le_of_ble_eq_true rfl, Nat.le_of_ble_eq_true rfl⟩ (fun r_11 u_11 H locs hP hD hS q_11 => ?_)
  subst q_11
  refine g_bif_eq (tgt := 24) hx hb dX7_fix_14 (by decide) (fun c_14 => ?_) (fun c_14 => absurd c_14 (by rw [decide_eq_false (fun z => z hbad)]; decide))
  refine lv_iconst (v := nI 1) hx hb dX7_fix_24 (by decide) ?_
  refine lv_goto (tgt := 62) hx hb dX7_fix_25 (by decide) ?_
  refine gv_set f0_mod rfl (by rfl) (fun k9 h9 kk9 => va_put (D := D) (ci := 8) (v := .int (nI (1))) (ty := .int) (C := RX7) (T := TX7) (N := 33) hx hb hts in_RX7 tyX7 tyX7_ok nmX7 hown hE.1 hP hD hS k9 h9 rfl 0 (by decide) (hts (.fieldLink RX7 94 "BasketryOfficeModel" "thrown" "I") (by decide +kernel)) (fun _ h9 => h9) rfl (by decide +kernel) rfl rfl (Nat.le_of_ble_eq_true rfl) dX7_fix_62 kk9) (fun H locs hP hD hS => ?_)
  have f_mod := g_eq (x := (a_mod, .inr (8, .int (nI (1)) :: .int (nI (n)) :: x_mod_2 :: x_mod_3 :: x_mod_4 :: .int (nI (nw)) :: x_mod_6 :: .int (nI (fx9)) :: .ref a_mce :: x_mod_9 :: x_mod_10 :: x_mod_11 :: x_mod_12 :: x_mod_13 :: x_mod_14 :: x_mod_15 :: x_mod_16 :: x_mod_17 :: x_mod_18 :: x_mod_19 :: x_mod_20 :: x_mod_21 :: x_mod_22 :: x_mod_23 :: x_mod_24 :: x_mod_25 :: x_mod_26 :: x_mod_27 :: x_mod_28 :: x_mod_29 :: x_mod_30 :: x_mod_31 :: x_mod_32 :: []))) (f0_mod)
  have f_mce := g_ne (x := (a_mod, .inr (8, .int (nI (1)) :: .int (nI (n)) :: x_mod_2 :: x_mod_3 :: x_mod_4 :: .int (nI (nw)) :: x_mod_6 :: .int (nI (fx9)) :: .ref a_mce :: x_mod_9 :: x_mod_10 :: x_mod_11 :: x_mod_12 :: x_mod_13 :: x_mod_14 :: x_mod_15 :: x_mod_16 :: x_mod_17 :: x_mod_18 :: x_mod_19 :: x_mod_20 :: x_mod_21 :: x_mod_22 :: x_mod_23 :: x_mod_24 :: x_mod_25 :: x_mod_26 :: x_mod_27 :: x_mod_28 :: x_mod_29 :: x_mod_30 :: x_mod_31 :: x_mod_32 :: []))) (g_kne f0_mod f0_mce (Nat.ne_of_beq_eq_false rfl)) (f0_mce)
  refine lv_aload_n hx hb dX7_fix_65 rfl (lv_at hl 0 rfl) ?_
  refine va_get (D := D) (ci := 8) (v := .int (nI (1))) (C := RX7) (T := TX7) (N := 33) hx hb hts in_RX7 hown hE.1 (gv1 hP f_mod) 0 rfl rfl 0 (by decide) (hts (.fieldLink RX7 94 "BasketryOfficeModel" "thrown" "I") (by decide +kernel)) (fun _ h9 => h9) rfl dX7_fix_66 ?_
  refine g_if_le (tgt := 74) hx hb (by omega) dX7_fix_69 (by decide) (fun c_69 => absurd c_69 (by omega)) (fun c_69 => ?_)
  refine lv_iconst (v := nI 0) hx hb dX7_fix_72 (by decide) ?_
  refine g_iret hx hb hr hlocks () dX7_fix_73 hS hP hD ?_
  exact rfl

theorem in_x2_X7_fix_RX7 : ∀ w ∈ wsX70, w ∈ wsX7_fix := by decide +kernel
set_option maxHeartbeats 4000000 in
set_option maxRecDepth 100000 in
theorem x2_X7_fix (l : Launch) {D : va_G} {y : Nat → Nat} {ws : va_W} {x_mod_2 : Value} {x_mod_3 : Value} {x_mod_4 : Value} {x_mod_6 : Value} {x_mod_9 : Value} {x_mod_10 : Value} {x_mod_11 : Value} {x_mod_12 : Value} {x_mod_13 : Value} {x_mod_14 : Value} {x_mod_15 : Value} {x_mod_16 : Value} {x_mod_17 : Value} {x_mod_18 : Value} {x_mod_19 : Value} {x_mod_20 : Value} {x_mod_21 : Value} {x_mod_22 : Value} {x_mod_23 : Value} {x_mod_24 : Value} {x_mod_25 : Value} {x_mod_26 : Value} {x_mod_27 : Value} {x_mod_28 : Value} {x_mod_29 : Value} {x_mod_30 : Value} {x_mod_31 : Value} {x_mod_32 : Value} {p_mod p_mce a_mod a_mce : Nat} {mce : Nat → Nat} {t i : Nat} {o ce : Int32} {nw n th fx9 : Nat} (f0_mod : ws[p_mod]? = some (a_mod, .inr (8, .int (nI (th)) :: .int (nI (n)) :: x_mod_2 :: x_mod_3 :: x_mod_4 :: .int (nI (nw)) :: x_mod_6 :: .int (nI (fx9)) :: .ref a_mce :: x_mod_9 :: x_mod_10 :: x_mod_11 :: x_mod_12 :: x_mod_13 :: x_mod_14 :: x_mod_15 :: x_mod_16 :: x_mod_17 :: x_mod_18 :: x_mod_19 :: x_mod_20 :: x_mod_21 :: x_mod_22 :: x_mod_23 :: x_mod_24 :: x_mod_25 :: x_mod_26 :: x_mod_27 :: x_mod_28 :: x_mod_29 :: x_mod_30 :: x_mod_31 :: x_mod_32 :: []))) (f0_mce : ws[p_mce]? = some (a_mce, eN y 1152 mce)) (b_mce : ∀ k, mce k ≤ 100000) (hw : nw ≤ 24) (hn : n ≤ 12) (ht : t < nw) (hi : i < n) (hbad : o < 0 ∨ nI 4 ≤ o) : gMi l yX7_fix wsX7_fix ({ frames := 2, cells := 0, slots := 0, locals := 43 }) D y [.ref a_mod, .int (nI (t)), .int (nI (i)), .int (o), .int (ce)] ws (fun r (_ : Unit) => r = nI 0) (fun (_ : Unit) => (ws.set p_mod (a_mod, .inr (8, .int (nI (1)) :: .int (nI (n)) :: x_mod_2 :: x_mod_3 :: x_mod_4 :: .int (nI (nw)) :: x_mod_6 :: .int (nI (fx9)) :: .ref a_mce :: x_mod_9 :: x_mod_10 :: x_mod_11 :: x_mod_12 :: x_mod_13 :: x_mod_14 :: x_mod_15 :: x_mod_16 :: x_mod_17 :: x_mod_18 :: x_mod_19 :: x_mod_20 :: x_mod_21 :: x_mod_22 :: x_mod_23 :: x_mod_24 :: x_mod_25 :: x_mod_26 :: x_mod_27 :: x_mod_28 :: x_mod_29 :: x_mod_30 :: x_mod_31 :: x_mod_32 :: [])))) := by
  refine g_met_i (cc := cX7_fix) (maxL := 7) (by decide) rfl (Nat.le_of_ble_eq_true rfl) ?_
  intro p e s m below meth c A hx hb hml hr hts hown hnm hlocks hE hP hD hS hA ls hl
  have hown : s.vm.findClass RX7 = some m.cls := hown
  have hl : lv_has ls 7 [(0, .ref a_mod), (1, .int (nI (t))), (2, .int (nI (i))), (3, .int (o)), (4, .int (ce))] := hl
  have in_RX7 := in_x2_X7_fix_RX7
  refine lv_aload_n hx hb dX7_fix_0 rfl (lv_at hl 0 rfl) ?_
  refine lv_aload_n hx hb dX7_fix_1 rfl (lv_at hl 0 rfl) ?_
  refine lv_iload_n hx hb dX7_fix_2 rfl (lv_at hl 1 rfl) ?_
  refine gc_V_i (As := [.int (nI (t))]) (rest := [.ref a_mod]) (c_X7_isPublished l f0_mod (by omega)) ⟨hx, hb, hml, hown, hts⟩ (cwV 1 hts gX7_fix_X7_isPublished rfl rfl rfl (by decide +kernel) ⟨Nat.le_of_ble_eq_true rfl, Nat.le_of_ble_eq_true rfl⟩) hE hP hD hS hA _ f0_mod rfl rfl rfl rfl hl.1 (Nat.le_of_ble_eq_true rfl) dX7_fix_3 ⟨Nat.le_of_ble_eq_true rfl, Nat.le_of_ble_eq_true rfl⟩ (fun r_3 u_3 H locs hP hD hS q_3 => ?_)
  subst q_3
  refine g_bif_eq (tgt := 24) hx hb dX7_fix_6 (by decide) (fun c_6 => absurd c_6 (by rw [decide_eq_true (rq_lt ht (by omega))]; decide)) (fun c_6 => ?_)
  refine lv_aload_n hx hb dX7_fix_9 rfl (lv_at hl 0 rfl) ?_
  refine lv_iload_n hx hb dX7_fix_10 rfl (lv_at hl 2 rfl) ?_
  refine gc_V_i (As := [.int (nI (i))]) (rest := [.ref a_mod]) (c_X7_isItem l f0_mod (by omega)) ⟨hx, hb, hml, hown, hts⟩ (cwV 1 hts gX7_fix_X7_isItem rfl rfl rfl (by decide +kernel) ⟨Nat.le_of_ble_eq_true rfl, Nat.le_of_ble_eq_true rfl⟩) hE hP hD hS hA _ f0_mod rfl rfl rfl rfl hl.1 (Nat.le_of_ble_eq_true rfl) dX7_fix_11 ⟨Nat.le_of_ble_eq_true rfl, Nat.le_of_ble_eq_true rfl⟩ (fun r_11 u_11 H locs hP hD hS q_11 => ?_)
  subst q_11
  refine g_bif_eq (tgt := 24) hx hb dX7_fix_14 (by decide) (fun c_14 => absurd c_14 (by rw [decide_eq_true (rq_lt hi (by omega))]; decide)) (fun c_14 => ?_)
  refine lv_iload_n hx hb dX7_fix_17 rfl (lv_at hl 3 rfl) ?_
  refine gc_S_i (As := [.int (o)]) (rest := [.ref a_mod]) (c_X7_isOutlet l) ⟨hx, hb, hml, hown, hts⟩ (va_cwS 1 hts gX7_fix_X7_isOutlet rfl rfl rfl (by decide +kernel) ⟨Nat.le_of_ble_eq_true rfl, Nat.le_of_ble_eq_true rfl⟩) hE hP hD hS hA rfl rfl hl.1 (Nat.le_of_ble_eq_true rfl) dX7_fix_18 ⟨Nat.le_of_ble_eq_true rfl, Nat.le_of_ble_eq_true rfl⟩ (fun r_18 u_18 H locs hP hD hS q_18 => ?_)
  subst q_18
  refine g_bif_ne (tgt := 28) hx hb dX7_fix_21 (by decide) (fun c_21 => absurd c_21 (by rw [decide_eq_false (fun z => z hbad)]; decide)) (fun c_21 => ?_)
  refine lv_iconst (v := nI 1) hx hb dX7_fix_24 (by decide) ?_
  refine lv_goto (tgt := 62) hx hb dX7_fix_25 (by decide) ?_
  refine gv_set f0_mod rfl (by rfl) (fun k9 h9 kk9 => va_put (D := D) (ci := 8) (v := .int (nI (1))) (ty := .int) (C := RX7) (T := TX7) (N := 33) hx hb hts in_RX7 tyX7 tyX7_ok nmX7 hown hE.1 hP hD hS k9 h9 rfl 0 (by decide) (hts (.fieldLink RX7 94 "BasketryOfficeModel" "thrown" "I") (by decide +kernel)) (fun _ h9 => h9) rfl (by decide +kernel) rfl rfl (Nat.le_of_ble_eq_true rfl) dX7_fix_62 kk9) (fun H locs hP hD hS => ?_)
  have f_mod := g_eq (x := (a_mod, .inr (8, .int (nI (1)) :: .int (nI (n)) :: x_mod_2 :: x_mod_3 :: x_mod_4 :: .int (nI (nw)) :: x_mod_6 :: .int (nI (fx9)) :: .ref a_mce :: x_mod_9 :: x_mod_10 :: x_mod_11 :: x_mod_12 :: x_mod_13 :: x_mod_14 :: x_mod_15 :: x_mod_16 :: x_mod_17 :: x_mod_18 :: x_mod_19 :: x_mod_20 :: x_mod_21 :: x_mod_22 :: x_mod_23 :: x_mod_24 :: x_mod_25 :: x_mod_26 :: x_mod_27 :: x_mod_28 :: x_mod_29 :: x_mod_30 :: x_mod_31 :: x_mod_32 :: []))) (f0_mod)
  have f_mce := g_ne (x := (a_mod, .inr (8, .int (nI (1)) :: .int (nI (n)) :: x_mod_2 :: x_mod_3 :: x_mod_4 :: .int (nI (nw)) :: x_mod_6 :: .int (nI (fx9)) :: .ref a_mce :: x_mod_9 :: x_mod_10 :: x_mod_11 :: x_mod_12 :: x_mod_13 :: x_mod_14 :: x_mod_15 :: x_mod_16 :: x_mod_17 :: x_mod_18 :: x_mod_19 :: x_mod_20 :: x_mod_21 :: x_mod_22 :: x_mod_23 :: x_mod_24 :: x_mod_25 :: x_mod_26 :: x_mod_27 :: x_mod_28 :: x_mod_29 :: x_mod_30 :: x_mod_31 :: x_mod_32 :: []))) (g_kne f0_mod f0_mce (Nat.ne_of_beq_eq_false rfl)) (f0_mce)
  refine lv_aload_n hx hb dX7_fix_65 rfl (lv_at hl 0 rfl) ?_
  refine va_get (D := D) (ci := 8) (v := .int (nI (1))) (C := RX7) (T := TX7) (N := 33) hx hb hts in_RX7 hown hE.1 (gv1 hP f_mod) 0 rfl rfl 0 (by decide) (hts (.fieldLink RX7 94 "BasketryOfficeModel" "thrown" "I") (by decide +kernel)) (fun _ h9 => h9) rfl dX7_fix_66 ?_
  refine g_if_le (tgt := 74) hx hb (by omega) dX7_fix_69 (by decide) (fun c_69 => absurd c_69 (by omega)) (fun c_69 => ?_)
  refine lv_iconst (v := nI 0) hx hb dX7_fix_72 (by decide) ?_
  refine g_iret hx hb hr hlocks () dX7_fix_73 hS hP hD ?_
  exact rfl

theorem in_x3_X7_fix_RX7 : ∀ w ∈ wsX70, w ∈ wsX7_fix := by decide +kernel
set_option maxHeartbeats 4000000 in
set_option maxRecDepth 100000 in
theorem x3_X7_fix (l : Launch) {D : va_G} {y : Nat → Nat} {ws : va_W} {x_mod_2 : Value} {x_mod_3 : Value} {x_mod_4 : Value} {x_mod_6 : Value} {x_mod_9 : Value} {x_mod_10 : Value} {x_mod_11 : Value} {x_mod_12 : Value} {x_mod_13 : Value} {x_mod_14 : Value} {x_mod_15 : Value} {x_mod_16 : Value} {x_mod_17 : Value} {x_mod_18 : Value} {x_mod_19 : Value} {x_mod_20 : Value} {x_mod_21 : Value} {x_mod_22 : Value} {x_mod_23 : Value} {x_mod_24 : Value} {x_mod_25 : Value} {x_mod_26 : Value} {x_mod_27 : Value} {x_mod_28 : Value} {x_mod_29 : Value} {x_mod_30 : Value} {x_mod_31 : Value} {x_mod_32 : Value} {p_mod p_mce a_mod a_mce : Nat} {mce : Nat → Nat} {t i o : Nat} {ce : Int32} {nw n th fx9 : Nat} (f0_mod : ws[p_mod]? = some (a_mod, .inr (8, .int (nI (th)) :: .int (nI (n)) :: x_mod_2 :: x_mod_3 :: x_mod_4 :: .int (nI (nw)) :: x_mod_6 :: .int (nI (fx9)) :: .ref a_mce :: x_mod_9 :: x_mod_10 :: x_mod_11 :: x_mod_12 :: x_mod_13 :: x_mod_14 :: x_mod_15 :: x_mod_16 :: x_mod_17 :: x_mod_18 :: x_mod_19 :: x_mod_20 :: x_mod_21 :: x_mod_22 :: x_mod_23 :: x_mod_24 :: x_mod_25 :: x_mod_26 :: x_mod_27 :: x_mod_28 :: x_mod_29 :: x_mod_30 :: x_mod_31 :: x_mod_32 :: []))) (f0_mce : ws[p_mce]? = some (a_mce, eN y 1152 mce)) (b_mce : ∀ k, mce k ≤ 100000) (hw : nw ≤ 24) (hn : n ≤ 12) (ht : t < nw) (hi : i < n) (ho : o < 4) (hbad : ce < nI 1 ∨ nI 100000 < ce) : gMi l yX7_fix wsX7_fix ({ frames := 2, cells := 0, slots := 0, locals := 43 }) D y [.ref a_mod, .int (nI (t)), .int (nI (i)), .int (nI (o)), .int (ce)] ws (fun r (_ : Unit) => r = nI 0) (fun (_ : Unit) => (ws.set p_mod (a_mod, .inr (8, .int (nI (2)) :: .int (nI (n)) :: x_mod_2 :: x_mod_3 :: x_mod_4 :: .int (nI (nw)) :: x_mod_6 :: .int (nI (fx9)) :: .ref a_mce :: x_mod_9 :: x_mod_10 :: x_mod_11 :: x_mod_12 :: x_mod_13 :: x_mod_14 :: x_mod_15 :: x_mod_16 :: x_mod_17 :: x_mod_18 :: x_mod_19 :: x_mod_20 :: x_mod_21 :: x_mod_22 :: x_mod_23 :: x_mod_24 :: x_mod_25 :: x_mod_26 :: x_mod_27 :: x_mod_28 :: x_mod_29 :: x_mod_30 :: x_mod_31 :: x_mod_32 :: [])))) := by
  refine g_met_i (cc := cX7_fix) (maxL := 7) (by decide) rfl (Nat.le_of_ble_eq_true rfl) ?_
  intro p e s m below meth c A hx hb hml hr hts hown hnm hlocks hE hP hD hS hA ls hl
  have hown : s.vm.findClass RX7 = some m.cls := hown
  have hl : lv_has ls 7 [(0, .ref a_mod), (1, .int (nI (t))), (2, .int (nI (i))), (3, .int (nI (o))), (4, .int (ce))] := hl
  have in_RX7 := in_x3_X7_fix_RX7
  refine lv_aload_n hx hb dX7_fix_0 rfl (lv_at hl 0 rfl) ?_
  refine lv_aload_n hx hb dX7_fix_1 rfl (lv_at hl 0 rfl) ?_
  refine lv_iload_n hx hb dX7_fix_2 rfl (lv_at hl 1 rfl) ?_
  refine gc_V_i (As := [.int (nI (t))]) (rest := [.ref a_mod]) (c_X7_isPublished l f0_mod (by omega)) ⟨hx, hb, hml, hown, hts⟩ (cwV 1 hts gX7_fix_X7_isPublished rfl rfl rfl (by decide +kernel) ⟨Nat.le_of_ble_eq_true rfl, Nat.le_of_ble_eq_true rfl⟩) hE hP hD hS hA _ f0_mod rfl rfl rfl rfl hl.1 (Nat.le_of_ble_eq_true rfl) dX7_fix_3 ⟨Nat.le_of_ble_eq_true rfl, Nat.le_of_ble_eq_true rfl⟩ (fun r_3 u_3 H locs hP hD hS q_3 => ?_)
  subst q_3
  refine g_bif_eq (tgt := 24) hx hb dX7_fix_6 (by decide) (fun c_6 => absurd c_6 (by rw [decide_eq_true (rq_lt ht (by omega))]; decide)) (fun c_6 => ?_)
  refine lv_aload_n hx hb dX7_fix_9 rfl (lv_at hl 0 rfl) ?_
  refine lv_iload_n hx hb dX7_fix_10 rfl (lv_at hl 2 rfl) ?_
  refine gc_V_i (As := [.int (nI (i))]) (rest := [.ref a_mod]) (c_X7_isItem l f0_mod (by omega)) ⟨hx, hb, hml, hown, hts⟩ (cwV 1 hts gX7_fix_X7_isItem rfl rfl rfl (by decide +kernel) ⟨Nat.le_of_ble_eq_true rfl, Nat.le_of_ble_eq_true rfl⟩) hE hP hD hS hA _ f0_mod rfl rfl rfl rfl hl.1 (Nat.le_of_ble_eq_true rfl) dX7_fix_11 ⟨Nat.le_of_ble_eq_true rfl, Nat.le_of_ble_eq_true rfl⟩ (fun r_11 u_11 H locs hP hD hS q_11 => ?_)
  subst q_11
  refine g_bif_eq (tgt := 24) hx hb dX7_fix_14 (by decide) (fun c_14 => absurd c_14 (by rw [decide_eq_true (rq_lt hi (by omega))]; decide)) (fun c_14 => ?_)
  refine lv_iload_n hx hb dX7_fix_17 rfl (lv_at hl 3 rfl) ?_
  refine gc_S_i (As := [.int (nI (o))]) (rest := [.ref a_mod]) (c_X7_isOutlet l) ⟨hx, hb, hml, hown, hts⟩ (va_cwS 1 hts gX7_fix_X7_isOutlet rfl rfl rfl (by decide +kernel) ⟨Nat.le_of_ble_eq_true rfl, Nat.le_of_ble_eq_true rfl⟩) hE hP hD hS hA rfl rfl hl.1 (Nat.le_of_ble_eq_true rfl) dX7_fix_18 ⟨Nat.le_of_ble_eq_true rfl, Nat.le_of_ble_eq_true rfl⟩ (fun r_18 u_18 H locs hP hD hS q_18 => ?_)
  subst q_18
  refine g_bif_ne (tgt := 28) hx hb dX7_fix_21 (by decide) (fun c_21 => ?_) (fun c_21 => absurd c_21 (by rw [decide_eq_true (rq_lt ho (by omega))]; decide))
  refine lv_iload hx hb dX7_fix_28 (lv_at hl 4 rfl) ?_
  refine lv_iconst (v := nI 1) hx hb dX7_fix_30 (by decide) ?_
  refine lv_ldc (v := 100000) hx hb hown (hts (.constant RX7 118 (100000)) (by decide +kernel)) dX7_fix_31 ?_
  rw [show (100000 : Int32) = nI 100000 from by decide]
  refine gc_S_i (As := [.int (ce), .int (nI (1)), .int (nI (100000))]) (rest := [.ref a_mod]) (c_X7_in l) ⟨hx, hb, hml, hown, hts⟩ (va_cwS 3 hts gX7_fix_X7_in rfl rfl rfl (by decide +kernel) ⟨Nat.le_of_ble_eq_true rfl, Nat.le_of_ble_eq_true rfl⟩) hE hP hD hS hA rfl rfl hl.1 (Nat.le_of_ble_eq_true rfl) dX7_fix_33 ⟨Nat.le_of_ble_eq_true rfl, Nat.le_of_ble_eq_true rfl⟩ (fun r_33 u_33 H locs hP hD hS q_33 => ?_)
  subst q_33
  refine g_bif_ne (tgt := 43) hx hb dX7_fix_36 (by decide) (fun c_36 => absurd c_36 (by rw [decide_eq_false (fun z => z hbad)]; decide)) (fun c_36 => ?_)
  refine lv_iconst (v := nI 2) hx hb dX7_fix_39 (by decide) ?_
  refine lv_goto (tgt := 62) hx hb dX7_fix_40 (by decide) ?_
  refine gv_set f0_mod rfl (by rfl) (fun k9 h9 kk9 => va_put (D := D) (ci := 8) (v := .int (nI (2))) (ty := .int) (C := RX7) (T := TX7) (N := 33) hx hb hts in_RX7 tyX7 tyX7_ok nmX7 hown hE.1 hP hD hS k9 h9 rfl 0 (by decide) (hts (.fieldLink RX7 94 "BasketryOfficeModel" "thrown" "I") (by decide +kernel)) (fun _ h9 => h9) rfl (by decide +kernel) rfl rfl (Nat.le_of_ble_eq_true rfl) dX7_fix_62 kk9) (fun H locs hP hD hS => ?_)
  have f_mod := g_eq (x := (a_mod, .inr (8, .int (nI (2)) :: .int (nI (n)) :: x_mod_2 :: x_mod_3 :: x_mod_4 :: .int (nI (nw)) :: x_mod_6 :: .int (nI (fx9)) :: .ref a_mce :: x_mod_9 :: x_mod_10 :: x_mod_11 :: x_mod_12 :: x_mod_13 :: x_mod_14 :: x_mod_15 :: x_mod_16 :: x_mod_17 :: x_mod_18 :: x_mod_19 :: x_mod_20 :: x_mod_21 :: x_mod_22 :: x_mod_23 :: x_mod_24 :: x_mod_25 :: x_mod_26 :: x_mod_27 :: x_mod_28 :: x_mod_29 :: x_mod_30 :: x_mod_31 :: x_mod_32 :: []))) (f0_mod)
  have f_mce := g_ne (x := (a_mod, .inr (8, .int (nI (2)) :: .int (nI (n)) :: x_mod_2 :: x_mod_3 :: x_mod_4 :: .int (nI (nw)) :: x_mod_6 :: .int (nI (fx9)) :: .ref a_mce :: x_mod_9 :: x_mod_10 :: x_mod_11 :: x_mod_12 :: x_mod_13 :: x_mod_14 :: x_mod_15 :: x_mod_16 :: x_mod_17 :: x_mod_18 :: x_mod_19 :: x_mod_20 :: x_mod_21 :: x_mod_22 :: x_mod_23 :: x_mod_24 :: x_mod_25 :: x_mod_26 :: x_mod_27 :: x_mod_28 :: x_mod_29 :: x_mod_30 :: x_mod_31 :: x_mod_32 :: []))) (g_kne f0_mod f0_mce (Nat.ne_of_beq_eq_false rfl)) (f0_mce)
  refine lv_aload_n hx hb dX7_fix_65 rfl (lv_at hl 0 rfl) ?_
  refine va_get (D := D) (ci := 8) (v := .int (nI (2))) (C := RX7) (T := TX7) (N := 33) hx hb hts in_RX7 hown hE.1 (gv1 hP f_mod) 0 rfl rfl 0 (by decide) (hts (.fieldLink RX7 94 "BasketryOfficeModel" "thrown" "I") (by decide +kernel)) (fun _ h9 => h9) rfl dX7_fix_66 ?_
  refine g_if_le (tgt := 74) hx hb (by omega) dX7_fix_69 (by decide) (fun c_69 => absurd c_69 (by omega)) (fun c_69 => ?_)
  refine lv_iconst (v := nI 0) hx hb dX7_fix_72 (by decide) ?_
  refine g_iret hx hb hr hlocks () dX7_fix_73 hS hP hD ?_
  exact rfl

theorem in_x4_X7_fix_RX7 : ∀ w ∈ wsX70, w ∈ wsX7_fix := by decide +kernel
set_option maxHeartbeats 4000000 in
set_option maxRecDepth 100000 in
theorem x4_X7_fix (l : Launch) {D : va_G} {y : Nat → Nat} {ws : va_W} {x_mod_2 : Value} {x_mod_3 : Value} {x_mod_4 : Value} {x_mod_6 : Value} {x_mod_9 : Value} {x_mod_10 : Value} {x_mod_11 : Value} {x_mod_12 : Value} {x_mod_13 : Value} {x_mod_14 : Value} {x_mod_15 : Value} {x_mod_16 : Value} {x_mod_17 : Value} {x_mod_18 : Value} {x_mod_19 : Value} {x_mod_20 : Value} {x_mod_21 : Value} {x_mod_22 : Value} {x_mod_23 : Value} {x_mod_24 : Value} {x_mod_25 : Value} {x_mod_26 : Value} {x_mod_27 : Value} {x_mod_28 : Value} {x_mod_29 : Value} {x_mod_30 : Value} {x_mod_31 : Value} {x_mod_32 : Value} {p_mod p_mce a_mod a_mce : Nat} {mce : Nat → Nat} {t i o ce : Nat} {nw n th fx9 : Nat} (f0_mod : ws[p_mod]? = some (a_mod, .inr (8, .int (nI (th)) :: .int (nI (n)) :: x_mod_2 :: x_mod_3 :: x_mod_4 :: .int (nI (nw)) :: x_mod_6 :: .int (nI (fx9)) :: .ref a_mce :: x_mod_9 :: x_mod_10 :: x_mod_11 :: x_mod_12 :: x_mod_13 :: x_mod_14 :: x_mod_15 :: x_mod_16 :: x_mod_17 :: x_mod_18 :: x_mod_19 :: x_mod_20 :: x_mod_21 :: x_mod_22 :: x_mod_23 :: x_mod_24 :: x_mod_25 :: x_mod_26 :: x_mod_27 :: x_mod_28 :: x_mod_29 :: x_mod_30 :: x_mod_31 :: x_mod_32 :: []))) (f0_mce : ws[p_mce]? = some (a_mce, eN y 1152 mce)) (b_mce : ∀ k, mce k ≤ 100000) (hw : nw ≤ 24) (hn : n ≤ 12) (ht : t < nw) (hi : i < n) (ho : o < 4) (hce : 1 ≤ ce) (kce : ce ≤ 100000) (hbad : mce (48 * t + 4 * i + o) = 0) : gMi l yX7_fix wsX7_fix ({ frames := 2, cells := 0, slots := 0, locals := 43 }) D y [.ref a_mod, .int (nI (t)), .int (nI (i)), .int (nI (o)), .int (nI (ce))] ws (fun r (_ : Unit) => r = nI 0) (fun (_ : Unit) => (ws.set p_mod (a_mod, .inr (8, .int (nI (3)) :: .int (nI (n)) :: x_mod_2 :: x_mod_3 :: x_mod_4 :: .int (nI (nw)) :: x_mod_6 :: .int (nI (fx9)) :: .ref a_mce :: x_mod_9 :: x_mod_10 :: x_mod_11 :: x_mod_12 :: x_mod_13 :: x_mod_14 :: x_mod_15 :: x_mod_16 :: x_mod_17 :: x_mod_18 :: x_mod_19 :: x_mod_20 :: x_mod_21 :: x_mod_22 :: x_mod_23 :: x_mod_24 :: x_mod_25 :: x_mod_26 :: x_mod_27 :: x_mod_28 :: x_mod_29 :: x_mod_30 :: x_mod_31 :: x_mod_32 :: [])))) := by
  refine g_met_i (cc := cX7_fix) (maxL := 7) (by decide) rfl (Nat.le_of_ble_eq_true rfl) ?_
  intro p e s m below meth c A hx hb hml hr hts hown hnm hlocks hE hP hD hS hA ls hl
  have hown : s.vm.findClass RX7 = some m.cls := hown
  have hl : lv_has ls 7 [(0, .ref a_mod), (1, .int (nI (t))), (2, .int (nI (i))), (3, .int (nI (o))), (4, .int (nI (ce)))] := hl
  have in_RX7 := in_x4_X7_fix_RX7
  refine lv_aload_n hx hb dX7_fix_0 rfl (lv_at hl 0 rfl) ?_
  refine lv_aload_n hx hb dX7_fix_1 rfl (lv_at hl 0 rfl) ?_
  refine lv_iload_n hx hb dX7_fix_2 rfl (lv_at hl 1 rfl) ?_
  refine gc_V_i (As := [.int (nI (t))]) (rest := [.ref a_mod]) (c_X7_isPublished l f0_mod (by omega)) ⟨hx, hb, hml, hown, hts⟩ (cwV 1 hts gX7_fix_X7_isPublished rfl rfl rfl (by decide +kernel) ⟨Nat.le_of_ble_eq_true rfl, Nat.le_of_ble_eq_true rfl⟩) hE hP hD hS hA _ f0_mod rfl rfl rfl rfl hl.1 (Nat.le_of_ble_eq_true rfl) dX7_fix_3 ⟨Nat.le_of_ble_eq_true rfl, Nat.le_of_ble_eq_true rfl⟩ (fun r_3 u_3 H locs hP hD hS q_3 => ?_)
  subst q_3
  refine g_bif_eq (tgt := 24) hx hb dX7_fix_6 (by decide) (fun c_6 => absurd c_6 (by rw [decide_eq_true (rq_lt ht (by omega))]; decide)) (fun c_6 => ?_)
  refine lv_aload_n hx hb dX7_fix_9 rfl (lv_at hl 0 rfl) ?_
  refine lv_iload_n hx hb dX7_fix_10 rfl (lv_at hl 2 rfl) ?_
  refine gc_V_i (As := [.int (nI (i))]) (rest := [.ref a_mod]) (c_X7_isItem l f0_mod (by omega)) ⟨hx, hb, hml, hown, hts⟩ (cwV 1 hts gX7_fix_X7_isItem rfl rfl rfl (by decide +kernel) ⟨Nat.le_of_ble_eq_true rfl, Nat.le_of_ble_eq_true rfl⟩) hE hP hD hS hA _ f0_mod rfl rfl rfl rfl hl.1 (Nat.le_of_ble_eq_true rfl) dX7_fix_11 ⟨Nat.le_of_ble_eq_true rfl, Nat.le_of_ble_eq_true rfl⟩ (fun r_11 u_11 H locs hP hD hS q_11 => ?_)
  subst q_11
  refine g_bif_eq (tgt := 24) hx hb dX7_fix_14 (by decide) (fun c_14 => absurd c_14 (by rw [decide_eq_true (rq_lt hi (by omega))]; decide)) (fun c_14 => ?_)
  refine lv_iload_n hx hb dX7_fix_17 rfl (lv_at hl 3 rfl) ?_
  refine gc_S_i (As := [.int (nI (o))]) (rest := [.ref a_mod]) (c_X7_isOutlet l) ⟨hx, hb, hml, hown, hts⟩ (va_cwS 1 hts gX7_fix_X7_isOutlet rfl rfl rfl (by decide +kernel) ⟨Nat.le_of_ble_eq_true rfl, Nat.le_of_ble_eq_true rfl⟩) hE hP hD hS hA rfl rfl hl.1 (Nat.le_of_ble_eq_true rfl) dX7_fix_18 ⟨Nat.le_of_ble_eq_true rfl, Nat.le_of_ble_eq_true rfl⟩ (fun r_18 u_18 H locs hP hD hS q_18 => ?_)
  subst q_18
  refine g_bif_ne (tgt := 28) hx hb dX7_fix_21 (by decide) (fun c_21 => ?_) (fun c_21 => absurd c_21 (by rw [decide_eq_true (rq_lt ho (by omega))]; decide))
  refine lv_iload hx hb dX7_fix_28 (lv_at hl 4 rfl) ?_
  refine lv_iconst (v := nI 1) hx hb dX7_fix_30 (by decide) ?_
  refine lv_ldc (v := 100000) hx hb hown (hts (.constant RX7 118 (100000)) (by decide +kernel)) dX7_fix_31 ?_
  rw [show (100000 : Int32) = nI 100000 from by decide]
  refine gc_S_i (As := [.int (nI (ce)), .int (nI (1)), .int (nI (100000))]) (rest := [.ref a_mod]) (c_X7_in l) ⟨hx, hb, hml, hown, hts⟩ (va_cwS 3 hts gX7_fix_X7_in rfl rfl rfl (by decide +kernel) ⟨Nat.le_of_ble_eq_true rfl, Nat.le_of_ble_eq_true rfl⟩) hE hP hD hS hA rfl rfl hl.1 (Nat.le_of_ble_eq_true rfl) dX7_fix_33 ⟨Nat.le_of_ble_eq_true rfl, Nat.le_of_ble_eq_true rfl⟩ (fun r_33 u_33 H locs hP hD hS q_33 => ?_)
  subst q_33
  refine g_bif_ne (tgt := 43) hx hb dX7_fix_36 (by decide) (fun c_36 => ?_) (fun c_36 => absurd c_36 (by rw [decide_eq_true (rq_rg hce kce (by decide))]; decide))
  refine lv_aload_n hx hb dX7_fix_43 rfl (lv_at hl 0 rfl) ?_
  refine va_get (D := D) (ci := 8) (v := .ref a_mce) (C := RX7) (T := TX7) (N := 33) hx hb hts in_RX7 hown hE.1 (gv1 hP f0_mod) 0 rfl rfl 8 (by decide) (hts (.fieldLink RX7 19 "BasketryOfficeModel" "cents" "[I") (by decide +kernel)) (fun _ h9 => h9) rfl dX7_fix_44 ?_
  refine lv_iload_n hx hb dX7_fix_47 rfl (lv_at hl 1 rfl) ?_
  refine lv_iload_n hx hb dX7_fix_48 rfl (lv_at hl 2 rfl) ?_
  refine lv_iload_n hx hb dX7_fix_49 rfl (lv_at hl 3 rfl) ?_
  refine gc_S_i (As := [.int (nI (t)), .int (nI (i)), .int (nI (o))]) (rest := [.ref a_mce, .ref a_mod]) (c_X7_cell l) ⟨hx, hb, hml, hown, hts⟩ (va_cwS 3 hts gX7_fix_X7_cell rfl rfl rfl (by decide +kernel) ⟨Nat.le_of_ble_eq_true rfl, Nat.le_of_ble_eq_true rfl⟩) hE hP hD hS hA rfl rfl hl.1 (Nat.le_of_ble_eq_true rfl) dX7_fix_50 ⟨Nat.le_of_ble_eq_true rfl, Nat.le_of_ble_eq_true rfl⟩ (fun r_50 u_50 H locs hP hD hS q_50 => ?_)
  subst q_50
  refine g_nald hx hb hE hP _ f0_mce (by omega) (by decide) dX7_fix_53 ?_
  have bd_53_1 := b_mce (48 * (t) + 4 * (i) + (o))
  refine g_if_ne (tgt := 61) hx hb (by omega) dX7_fix_54 (by decide) (fun c_54 => absurd c_54 (by omega)) (fun c_54 => ?_)
  refine lv_iconst (v := nI 3) hx hb dX7_fix_57 (by decide) ?_
  refine lv_goto (tgt := 62) hx hb dX7_fix_58 (by decide) ?_
  refine gv_set f0_mod rfl (by rfl) (fun k9 h9 kk9 => va_put (D := D) (ci := 8) (v := .int (nI (3))) (ty := .int) (C := RX7) (T := TX7) (N := 33) hx hb hts in_RX7 tyX7 tyX7_ok nmX7 hown hE.1 hP hD hS k9 h9 rfl 0 (by decide) (hts (.fieldLink RX7 94 "BasketryOfficeModel" "thrown" "I") (by decide +kernel)) (fun _ h9 => h9) rfl (by decide +kernel) rfl rfl (Nat.le_of_ble_eq_true rfl) dX7_fix_62 kk9) (fun H locs hP hD hS => ?_)
  have f_mod := g_eq (x := (a_mod, .inr (8, .int (nI (3)) :: .int (nI (n)) :: x_mod_2 :: x_mod_3 :: x_mod_4 :: .int (nI (nw)) :: x_mod_6 :: .int (nI (fx9)) :: .ref a_mce :: x_mod_9 :: x_mod_10 :: x_mod_11 :: x_mod_12 :: x_mod_13 :: x_mod_14 :: x_mod_15 :: x_mod_16 :: x_mod_17 :: x_mod_18 :: x_mod_19 :: x_mod_20 :: x_mod_21 :: x_mod_22 :: x_mod_23 :: x_mod_24 :: x_mod_25 :: x_mod_26 :: x_mod_27 :: x_mod_28 :: x_mod_29 :: x_mod_30 :: x_mod_31 :: x_mod_32 :: []))) (f0_mod)
  have f_mce := g_ne (x := (a_mod, .inr (8, .int (nI (3)) :: .int (nI (n)) :: x_mod_2 :: x_mod_3 :: x_mod_4 :: .int (nI (nw)) :: x_mod_6 :: .int (nI (fx9)) :: .ref a_mce :: x_mod_9 :: x_mod_10 :: x_mod_11 :: x_mod_12 :: x_mod_13 :: x_mod_14 :: x_mod_15 :: x_mod_16 :: x_mod_17 :: x_mod_18 :: x_mod_19 :: x_mod_20 :: x_mod_21 :: x_mod_22 :: x_mod_23 :: x_mod_24 :: x_mod_25 :: x_mod_26 :: x_mod_27 :: x_mod_28 :: x_mod_29 :: x_mod_30 :: x_mod_31 :: x_mod_32 :: []))) (g_kne f0_mod f0_mce (Nat.ne_of_beq_eq_false rfl)) (f0_mce)
  refine lv_aload_n hx hb dX7_fix_65 rfl (lv_at hl 0 rfl) ?_
  refine va_get (D := D) (ci := 8) (v := .int (nI (3))) (C := RX7) (T := TX7) (N := 33) hx hb hts in_RX7 hown hE.1 (gv1 hP f_mod) 0 rfl rfl 0 (by decide) (hts (.fieldLink RX7 94 "BasketryOfficeModel" "thrown" "I") (by decide +kernel)) (fun _ h9 => h9) rfl dX7_fix_66 ?_
  refine g_if_le (tgt := 74) hx hb (by omega) dX7_fix_69 (by decide) (fun c_69 => absurd c_69 (by omega)) (fun c_69 => ?_)
  refine lv_iconst (v := nI 0) hx hb dX7_fix_72 (by decide) ?_
  refine g_iret hx hb hr hlocks () dX7_fix_73 hS hP hD ?_
  exact rfl

theorem in_c_X7_fix_RX7 : ∀ w ∈ wsX70, w ∈ wsX7_fix := by decide +kernel
set_option maxHeartbeats 4000000 in
set_option maxRecDepth 100000 in
theorem c_X7_fix (l : Launch) {D : va_G} {y : Nat → Nat} {ws : va_W} {x_mod_2 : Value} {x_mod_3 : Value} {x_mod_4 : Value} {x_mod_6 : Value} {x_mod_9 : Value} {x_mod_11 : Value} {x_mod_12 : Value} {x_mod_13 : Value} {x_mod_14 : Value} {x_mod_15 : Value} {x_mod_16 : Value} {x_mod_17 : Value} {x_mod_18 : Value} {x_mod_19 : Value} {x_mod_20 : Value} {x_mod_21 : Value} {x_mod_22 : Value} {x_mod_23 : Value} {x_mod_24 : Value} {x_mod_25 : Value} {x_mod_26 : Value} {x_mod_27 : Value} {x_mod_28 : Value} {x_mod_29 : Value} {x_mod_30 : Value} {x_mod_31 : Value} {x_mod_32 : Value} {p_mod p_mce p_mfx a_mod a_mce a_mfx : Nat} {mce : Nat → Nat} {mfx : Nat → Nat} {t i o ce : Nat} {nw n th fx9 : Nat} (f0_mod : ws[p_mod]? = some (a_mod, .inr (8, .int (nI (th)) :: .int (nI (n)) :: x_mod_2 :: x_mod_3 :: x_mod_4 :: .int (nI (nw)) :: x_mod_6 :: .int (nI (fx9)) :: .ref a_mce :: x_mod_9 :: .ref a_mfx :: x_mod_11 :: x_mod_12 :: x_mod_13 :: x_mod_14 :: x_mod_15 :: x_mod_16 :: x_mod_17 :: x_mod_18 :: x_mod_19 :: x_mod_20 :: x_mod_21 :: x_mod_22 :: x_mod_23 :: x_mod_24 :: x_mod_25 :: x_mod_26 :: x_mod_27 :: x_mod_28 :: x_mod_29 :: x_mod_30 :: x_mod_31 :: x_mod_32 :: []))) (f0_mce : ws[p_mce]? = some (a_mce, eN y 1152 mce)) (f0_mfx : ws[p_mfx]? = some (a_mfx, eN y 1152 mfx)) (b_mce : ∀ k, mce k ≤ 100000) (b_mfx : ∀ k, mfx k ≤ 100000) (hw : nw ≤ 24) (hn : n ≤ 12) (ht : t < nw) (hi : i < n) (ho : o < 4) (hce : 1 ≤ ce) (kce : ce ≤ 100000) (hq : 0 < mce (48 * t + 4 * i + o)) (hdis : p_mfx ≠ p_mce) : gMi l yX7_fix wsX7_fix ({ frames := 2, cells := 0, slots := 0, locals := 43 }) D y [.ref a_mod, .int (nI (t)), .int (nI (i)), .int (nI (o)), .int (nI (ce))] ws (fun r (_ : Unit) => r = nI (if 0 < mfx (48 * t + 4 * i + o) then mfx (48 * t + 4 * i + o) else mce (48 * t + 4 * i + o))) (fun (_ : Unit) => ((ws.set p_mod (a_mod, .inr (8, .int (nI (0)) :: .int (nI (n)) :: x_mod_2 :: x_mod_3 :: x_mod_4 :: .int (nI (nw)) :: x_mod_6 :: .int (nI ((if 0 < mfx (48 * t + 4 * i + o) then fx9 else fx9 + 1))) :: .ref a_mce :: x_mod_9 :: .ref a_mfx :: x_mod_11 :: x_mod_12 :: x_mod_13 :: x_mod_14 :: x_mod_15 :: x_mod_16 :: x_mod_17 :: x_mod_18 :: x_mod_19 :: x_mod_20 :: x_mod_21 :: x_mod_22 :: x_mod_23 :: x_mod_24 :: x_mod_25 :: x_mod_26 :: x_mod_27 :: x_mod_28 :: x_mod_29 :: x_mod_30 :: x_mod_31 :: x_mod_32 :: []))).set p_mfx (a_mfx, eN y 1152 (vf_upd mfx (48 * t + 4 * i + o) (ce))))) := by
  refine g_met_i (cc := cX7_fix) (maxL := 7) (by decide) rfl (Nat.le_of_ble_eq_true rfl) ?_
  intro p e s m below meth c A hx hb hml hr hts hown hnm hlocks hE hP hD hS hA ls hl
  have hown : s.vm.findClass RX7 = some m.cls := hown
  have hl : lv_has ls 7 [(0, .ref a_mod), (1, .int (nI (t))), (2, .int (nI (i))), (3, .int (nI (o))), (4, .int (nI (ce)))] := hl
  have in_RX7 := in_c_X7_fix_RX7
  refine lv_aload_n hx hb dX7_fix_0 rfl (lv_at hl 0 rfl) ?_
  refine lv_aload_n hx hb dX7_fix_1 rfl (lv_at hl 0 rfl) ?_
  refine lv_iload_n hx hb dX7_fix_2 rfl (lv_at hl 1 rfl) ?_
  refine gc_V_i (As := [.int (nI (t))]) (rest := [.ref a_mod]) (c_X7_isPublished l f0_mod (by omega)) ⟨hx, hb, hml, hown, hts⟩ (cwV 1 hts gX7_fix_X7_isPublished rfl rfl rfl (by decide +kernel) ⟨Nat.le_of_ble_eq_true rfl, Nat.le_of_ble_eq_true rfl⟩) hE hP hD hS hA _ f0_mod rfl rfl rfl rfl hl.1 (Nat.le_of_ble_eq_true rfl) dX7_fix_3 ⟨Nat.le_of_ble_eq_true rfl, Nat.le_of_ble_eq_true rfl⟩ (fun r_3 u_3 H locs hP hD hS q_3 => ?_)
  subst q_3
  refine g_bif_eq (tgt := 24) hx hb dX7_fix_6 (by decide) (fun c_6 => absurd c_6 (by rw [decide_eq_true (rq_lt ht (by omega))]; decide)) (fun c_6 => ?_)
  refine lv_aload_n hx hb dX7_fix_9 rfl (lv_at hl 0 rfl) ?_
  refine lv_iload_n hx hb dX7_fix_10 rfl (lv_at hl 2 rfl) ?_
  refine gc_V_i (As := [.int (nI (i))]) (rest := [.ref a_mod]) (c_X7_isItem l f0_mod (by omega)) ⟨hx, hb, hml, hown, hts⟩ (cwV 1 hts gX7_fix_X7_isItem rfl rfl rfl (by decide +kernel) ⟨Nat.le_of_ble_eq_true rfl, Nat.le_of_ble_eq_true rfl⟩) hE hP hD hS hA _ f0_mod rfl rfl rfl rfl hl.1 (Nat.le_of_ble_eq_true rfl) dX7_fix_11 ⟨Nat.le_of_ble_eq_true rfl, Nat.le_of_ble_eq_true rfl⟩ (fun r_11 u_11 H locs hP hD hS q_11 => ?_)
  subst q_11
  refine g_bif_eq (tgt := 24) hx hb dX7_fix_14 (by decide) (fun c_14 => absurd c_14 (by rw [decide_eq_true (rq_lt hi (by omega))]; decide)) (fun c_14 => ?_)
  refine lv_iload_n hx hb dX7_fix_17 rfl (lv_at hl 3 rfl) ?_
  refine gc_S_i (As := [.int (nI (o))]) (rest := [.ref a_mod]) (c_X7_isOutlet l) ⟨hx, hb, hml, hown, hts⟩ (va_cwS 1 hts gX7_fix_X7_isOutlet rfl rfl rfl (by decide +kernel) ⟨Nat.le_of_ble_eq_true rfl, Nat.le_of_ble_eq_true rfl⟩) hE hP hD hS hA rfl rfl hl.1 (Nat.le_of_ble_eq_true rfl) dX7_fix_18 ⟨Nat.le_of_ble_eq_true rfl, Nat.le_of_ble_eq_true rfl⟩ (fun r_18 u_18 H locs hP hD hS q_18 => ?_)
  subst q_18
  refine g_bif_ne (tgt := 28) hx hb dX7_fix_21 (by decide) (fun c_21 => ?_) (fun c_21 => absurd c_21 (by rw [decide_eq_true (rq_lt ho (by omega))]; decide))
  refine lv_iload hx hb dX7_fix_28 (lv_at hl 4 rfl) ?_
  refine lv_iconst (v := nI 1) hx hb dX7_fix_30 (by decide) ?_
  refine lv_ldc (v := 100000) hx hb hown (hts (.constant RX7 118 (100000)) (by decide +kernel)) dX7_fix_31 ?_
  rw [show (100000 : Int32) = nI 100000 from by decide]
  refine gc_S_i (As := [.int (nI (ce)), .int (nI (1)), .int (nI (100000))]) (rest := [.ref a_mod]) (c_X7_in l) ⟨hx, hb, hml, hown, hts⟩ (va_cwS 3 hts gX7_fix_X7_in rfl rfl rfl (by decide +kernel) ⟨Nat.le_of_ble_eq_true rfl, Nat.le_of_ble_eq_true rfl⟩) hE hP hD hS hA rfl rfl hl.1 (Nat.le_of_ble_eq_true rfl) dX7_fix_33 ⟨Nat.le_of_ble_eq_true rfl, Nat.le_of_ble_eq_true rfl⟩ (fun r_33 u_33 H locs hP hD hS q_33 => ?_)
  subst q_33
  refine g_bif_ne (tgt := 43) hx hb dX7_fix_36 (by decide) (fun c_36 => ?_) (fun c_36 => absurd c_36 (by rw [decide_eq_true (rq_rg hce kce (by decide))]; decide))
  refine lv_aload_n hx hb dX7_fix_43 rfl (lv_at hl 0 rfl) ?_
  refine va_get (D := D) (ci := 8) (v := .ref a_mce) (C := RX7) (T := TX7) (N := 33) hx hb hts in_RX7 hown hE.1 (gv1 hP f0_mod) 0 rfl rfl 8 (by decide) (hts (.fieldLink RX7 19 "BasketryOfficeModel" "cents" "[I") (by decide +kernel)) (fun _ h9 => h9) rfl dX7_fix_44 ?_
  refine lv_iload_n hx hb dX7_fix_47 rfl (lv_at hl 1 rfl) ?_
  refine lv_iload_n hx hb dX7_fix_48 rfl (lv_at hl 2 rfl) ?_
  refine lv_iload_n hx hb dX7_fix_49 rfl (lv_at hl 3 rfl) ?_
  refine gc_S_i (As := [.int (nI (t)), .int (nI (i)), .int (nI (o))]) (rest := [.ref a_mce, .ref a_mod]) (c_X7_cell l) ⟨hx, hb, hml, hown, hts⟩ (va_cwS 3 hts gX7_fix_X7_cell rfl rfl rfl (by decide +kernel) ⟨Nat.le_of_ble_eq_true rfl, Nat.le_of_ble_eq_true rfl⟩) hE hP hD hS hA rfl rfl hl.1 (Nat.le_of_ble_eq_true rfl) dX7_fix_50 ⟨Nat.le_of_ble_eq_true rfl, Nat.le_of_ble_eq_true rfl⟩ (fun r_50 u_50 H locs hP hD hS q_50 => ?_)
  subst q_50
  refine g_nald hx hb hE hP _ f0_mce (by omega) (by decide) dX7_fix_53 ?_
  have bd_53_1 := b_mce (48 * (t) + 4 * (i) + (o))
  refine g_if_ne (tgt := 61) hx hb (by omega) dX7_fix_54 (by decide) (fun c_54 => ?_) (fun c_54 => absurd c_54 (by omega))
  refine lv_iconst (v := nI 0) hx hb dX7_fix_61 (by decide) ?_
  refine gv_set f0_mod rfl (by rfl) (fun k9 h9 kk9 => va_put (D := D) (ci := 8) (v := .int (nI (0))) (ty := .int) (C := RX7) (T := TX7) (N := 33) hx hb hts in_RX7 tyX7 tyX7_ok nmX7 hown hE.1 hP hD hS k9 h9 rfl 0 (by decide) (hts (.fieldLink RX7 94 "BasketryOfficeModel" "thrown" "I") (by decide +kernel)) (fun _ h9 => h9) rfl (by decide +kernel) rfl rfl (Nat.le_of_ble_eq_true rfl) dX7_fix_62 kk9) (fun H locs hP hD hS => ?_)
  have f_mod := g_eq (x := (a_mod, .inr (8, .int (nI (0)) :: .int (nI (n)) :: x_mod_2 :: x_mod_3 :: x_mod_4 :: .int (nI (nw)) :: x_mod_6 :: .int (nI (fx9)) :: .ref a_mce :: x_mod_9 :: .ref a_mfx :: x_mod_11 :: x_mod_12 :: x_mod_13 :: x_mod_14 :: x_mod_15 :: x_mod_16 :: x_mod_17 :: x_mod_18 :: x_mod_19 :: x_mod_20 :: x_mod_21 :: x_mod_22 :: x_mod_23 :: x_mod_24 :: x_mod_25 :: x_mod_26 :: x_mod_27 :: x_mod_28 :: x_mod_29 :: x_mod_30 :: x_mod_31 :: x_mod_32 :: []))) (f0_mod)
  have f_mce := g_ne (x := (a_mod, .inr (8, .int (nI (0)) :: .int (nI (n)) :: x_mod_2 :: x_mod_3 :: x_mod_4 :: .int (nI (nw)) :: x_mod_6 :: .int (nI (fx9)) :: .ref a_mce :: x_mod_9 :: .ref a_mfx :: x_mod_11 :: x_mod_12 :: x_mod_13 :: x_mod_14 :: x_mod_15 :: x_mod_16 :: x_mod_17 :: x_mod_18 :: x_mod_19 :: x_mod_20 :: x_mod_21 :: x_mod_22 :: x_mod_23 :: x_mod_24 :: x_mod_25 :: x_mod_26 :: x_mod_27 :: x_mod_28 :: x_mod_29 :: x_mod_30 :: x_mod_31 :: x_mod_32 :: []))) (g_kne f0_mod f0_mce (Nat.ne_of_beq_eq_false rfl)) (f0_mce)
  have f_mfx := g_ne (x := (a_mod, .inr (8, .int (nI (0)) :: .int (nI (n)) :: x_mod_2 :: x_mod_3 :: x_mod_4 :: .int (nI (nw)) :: x_mod_6 :: .int (nI (fx9)) :: .ref a_mce :: x_mod_9 :: .ref a_mfx :: x_mod_11 :: x_mod_12 :: x_mod_13 :: x_mod_14 :: x_mod_15 :: x_mod_16 :: x_mod_17 :: x_mod_18 :: x_mod_19 :: x_mod_20 :: x_mod_21 :: x_mod_22 :: x_mod_23 :: x_mod_24 :: x_mod_25 :: x_mod_26 :: x_mod_27 :: x_mod_28 :: x_mod_29 :: x_mod_30 :: x_mod_31 :: x_mod_32 :: []))) (g_kne f0_mod f0_mfx (Nat.ne_of_beq_eq_false rfl)) (f0_mfx)
  refine lv_aload_n hx hb dX7_fix_65 rfl (lv_at hl 0 rfl) ?_
  refine va_get (D := D) (ci := 8) (v := .int (nI (0))) (C := RX7) (T := TX7) (N := 33) hx hb hts in_RX7 hown hE.1 (gv1 hP f_mod) 0 rfl rfl 0 (by decide) (hts (.fieldLink RX7 94 "BasketryOfficeModel" "thrown" "I") (by decide +kernel)) (fun _ h9 => h9) rfl dX7_fix_66 ?_
  refine g_if_le (tgt := 74) hx hb (by omega) dX7_fix_69 (by decide) (fun c_69 => ?_) (fun c_69 => absurd c_69 (by omega))
  refine lv_iload_n hx hb dX7_fix_74 rfl (lv_at hl 1 rfl) ?_
  refine lv_iload_n hx hb dX7_fix_75 rfl (lv_at hl 2 rfl) ?_
  refine lv_iload_n hx hb dX7_fix_76 rfl (lv_at hl 3 rfl) ?_
  refine gc_S_i (As := [.int (nI (t)), .int (nI (i)), .int (nI (o))]) (rest := []) (c_X7_cell l) ⟨hx, hb, hml, hown, hts⟩ (va_cwS 3 hts gX7_fix_X7_cell rfl rfl rfl (by decide +kernel) ⟨Nat.le_of_ble_eq_true rfl, Nat.le_of_ble_eq_true rfl⟩) hE hP hD hS hA rfl rfl hl.1 (Nat.le_of_ble_eq_true rfl) dX7_fix_77 ⟨Nat.le_of_ble_eq_true rfl, Nat.le_of_ble_eq_true rfl⟩ (fun r_77 u_77 H locs hP hD hS q_77 => ?_)
  subst q_77
  refine lv_istore (lv' := [(5, .int (nI (48 * (t) + 4 * (i) + (o)))), (0, .ref a_mod), (1, .int (nI (t))), (2, .int (nI (i))), (3, .int (nI (o))), (4, .int (nI (ce)))]) hx hb dX7_fix_80 hl (by decide) rfl (fun ls hl => ?_)
  refine lv_aload_n hx hb dX7_fix_82 rfl (lv_at hl 1 rfl) ?_
  refine va_get (D := D) (ci := 8) (v := .ref a_mfx) (C := RX7) (T := TX7) (N := 33) hx hb hts in_RX7 hown hE.1 (gv1 hP f_mod) 0 rfl rfl 10 (by decide) (hts (.fieldLink RX7 25 "BasketryOfficeModel" "fixed" "[I") (by decide +kernel)) (fun _ h9 => h9) rfl dX7_fix_83 ?_
  refine lv_iload hx hb dX7_fix_86 (lv_at hl 0 rfl) ?_
  refine g_nald hx hb hE hP _ f_mfx (by omega) (by decide) dX7_fix_88 ?_
  have bd_88_2 := b_mfx (48 * (t) + 4 * (i) + (o))
  refine g_if_le (tgt := 102) hx hb (by omega) dX7_fix_89 (by decide) (fun c_89 => ?_) (fun c_89 => ?_)
  · refine lv_aload_n hx hb dX7_fix_102 rfl (lv_at hl 1 rfl) ?_
    refine va_get (D := D) (ci := 8) (v := .ref a_mce) (C := RX7) (T := TX7) (N := 33) hx hb hts in_RX7 hown hE.1 (gv1 hP f_mod) 0 rfl rfl 8 (by decide) (hts (.fieldLink RX7 19 "BasketryOfficeModel" "cents" "[I") (by decide +kernel)) (fun _ h9 => h9) rfl dX7_fix_103 ?_
    refine lv_iload hx hb dX7_fix_106 (lv_at hl 0 rfl) ?_
    refine g_nald hx hb hE hP _ f_mce (by omega) (by decide) dX7_fix_108 ?_
    have bd_108_3 := b_mce (48 * (t) + 4 * (i) + (o))
    refine lv_istore (lv' := [(6, .int (nI (mce (48 * (t) + 4 * (i) + (o))))), (5, .int (nI (48 * (t) + 4 * (i) + (o)))), (0, .ref a_mod), (1, .int (nI (t))), (2, .int (nI (i))), (3, .int (nI (o))), (4, .int (nI (ce)))]) hx hb dX7_fix_109 hl (by decide) rfl (fun ls hl => ?_)
    refine lv_aload_n hx hb dX7_fix_111 rfl (lv_at hl 2 rfl) ?_
    refine lv_dup hx hb dX7_fix_112 rfl ?_
    refine va_get (D := D) (ci := 8) (v := .int (nI (fx9))) (C := RX7) (T := TX7) (N := 33) hx hb hts in_RX7 hown hE.1 (gv1 hP f_mod) 0 rfl rfl 7 (by decide) (hts (.fieldLink RX7 188 "BasketryOfficeModel" "fixes" "I") (by decide +kernel)) (fun _ h9 => h9) rfl dX7_fix_113 ?_
    refine lv_aload_n hx hb dX7_fix_116 rfl (lv_at hl 2 rfl) ?_
    refine va_get (D := D) (ci := 8) (v := .ref a_mfx) (C := RX7) (T := TX7) (N := 33) hx hb hts in_RX7 hown hE.1 (gv1 hP f_mod) 0 rfl rfl 10 (by decide) (hts (.fieldLink RX7 25 "BasketryOfficeModel" "fixed" "[I") (by decide +kernel)) (fun _ h9 => h9) rfl dX7_fix_117 ?_
    refine lv_iload hx hb dX7_fix_120 (lv_at hl 1 rfl) ?_
    refine g_nald hx hb hE hP _ f_mfx (by omega) (by decide) dX7_fix_122 ?_
    have bd_122_4 := b_mfx (48 * (t) + 4 * (i) + (o))
    refine g_if_le (tgt := 130) hx hb (by omega) dX7_fix_123 (by decide) (fun c_123 => ?_) (fun c_123 => absurd c_123 (by omega))
    refine lv_iconst (v := nI 1) hx hb dX7_fix_130 (by decide) ?_
    refine g_iadd hx hb dX7_fix_131 (nI_add _ _) ?_
    refine gv_set f_mod rfl (by rfl) (fun k9 h9 kk9 => va_put (D := D) (ci := 8) (v := .int (nI (fx9 + 1))) (ty := .int) (C := RX7) (T := TX7) (N := 33) hx hb hts in_RX7 tyX7 tyX7_ok nmX7 hown hE.1 hP hD hS k9 h9 rfl 7 (by decide) (hts (.fieldLink RX7 188 "BasketryOfficeModel" "fixes" "I") (by decide +kernel)) (fun _ h9 => h9) rfl (by decide +kernel) rfl rfl (Nat.le_of_ble_eq_true rfl) dX7_fix_132 kk9) (fun H locs hP hD hS => ?_)
    have hP := g_trP g_ss hP
    have hD := g_trD g_ss hD
    have f_mod := g_eq (x := (a_mod, .inr (8, .int (nI (0)) :: .int (nI (n)) :: x_mod_2 :: x_mod_3 :: x_mod_4 :: .int (nI (nw)) :: x_mod_6 :: .int (nI (fx9 + 1)) :: .ref a_mce :: x_mod_9 :: .ref a_mfx :: x_mod_11 :: x_mod_12 :: x_mod_13 :: x_mod_14 :: x_mod_15 :: x_mod_16 :: x_mod_17 :: x_mod_18 :: x_mod_19 :: x_mod_20 :: x_mod_21 :: x_mod_22 :: x_mod_23 :: x_mod_24 :: x_mod_25 :: x_mod_26 :: x_mod_27 :: x_mod_28 :: x_mod_29 :: x_mod_30 :: x_mod_31 :: x_mod_32 :: []))) (f0_mod)
    have f_mce := g_ne (x := (a_mod, .inr (8, .int (nI (0)) :: .int (nI (n)) :: x_mod_2 :: x_mod_3 :: x_mod_4 :: .int (nI (nw)) :: x_mod_6 :: .int (nI (fx9 + 1)) :: .ref a_mce :: x_mod_9 :: .ref a_mfx :: x_mod_11 :: x_mod_12 :: x_mod_13 :: x_mod_14 :: x_mod_15 :: x_mod_16 :: x_mod_17 :: x_mod_18 :: x_mod_19 :: x_mod_20 :: x_mod_21 :: x_mod_22 :: x_mod_23 :: x_mod_24 :: x_mod_25 :: x_mod_26 :: x_mod_27 :: x_mod_28 :: x_mod_29 :: x_mod_30 :: x_mod_31 :: x_mod_32 :: []))) (g_kne f0_mod f0_mce (Nat.ne_of_beq_eq_false rfl)) (f0_mce)
    have f_mfx := g_ne (x := (a_mod, .inr (8, .int (nI (0)) :: .int (nI (n)) :: x_mod_2 :: x_mod_3 :: x_mod_4 :: .int (nI (nw)) :: x_mod_6 :: .int (nI (fx9 + 1)) :: .ref a_mce :: x_mod_9 :: .ref a_mfx :: x_mod_11 :: x_mod_12 :: x_mod_13 :: x_mod_14 :: x_mod_15 :: x_mod_16 :: x_mod_17 :: x_mod_18 :: x_mod_19 :: x_mod_20 :: x_mod_21 :: x_mod_22 :: x_mod_23 :: x_mod_24 :: x_mod_25 :: x_mod_26 :: x_mod_27 :: x_mod_28 :: x_mod_29 :: x_mod_30 :: x_mod_31 :: x_mod_32 :: []))) (g_kne f0_mod f0_mfx (Nat.ne_of_beq_eq_false rfl)) (f0_mfx)
    refine lv_aload_n hx hb dX7_fix_135 rfl (lv_at hl 2 rfl) ?_
    refine va_get (D := D) (ci := 8) (v := .ref a_mfx) (C := RX7) (T := TX7) (N := 33) hx hb hts in_RX7 hown hE.1 (gv1 hP f_mod) 0 rfl rfl 10 (by decide) (hts (.fieldLink RX7 25 "BasketryOfficeModel" "fixed" "[I") (by decide +kernel)) (fun _ h9 => h9) rfl dX7_fix_136 ?_
    refine lv_iload hx hb dX7_fix_139 (lv_at hl 1 rfl) ?_
    refine lv_iload hx hb dX7_fix_141 (lv_at hl 6 rfl) ?_
    refine g_nast hx hb hE hP hD hS _ f_mfx (by omega) (by decide) dX7_fix_143 (fun H locs hP hD hS => ?_)
    have f_mod := g_ne (x := (a_mfx, eN y 1152 (vf_upd mfx (48 * (t) + 4 * (i) + (o)) (ce)))) (g_kne f0_mfx f0_mod (Nat.ne_of_beq_eq_false rfl)) (g_eq (x := (a_mod, .inr (8, .int (nI (0)) :: .int (nI (n)) :: x_mod_2 :: x_mod_3 :: x_mod_4 :: .int (nI (nw)) :: x_mod_6 :: .int (nI (fx9 + 1)) :: .ref a_mce :: x_mod_9 :: .ref a_mfx :: x_mod_11 :: x_mod_12 :: x_mod_13 :: x_mod_14 :: x_mod_15 :: x_mod_16 :: x_mod_17 :: x_mod_18 :: x_mod_19 :: x_mod_20 :: x_mod_21 :: x_mod_22 :: x_mod_23 :: x_mod_24 :: x_mod_25 :: x_mod_26 :: x_mod_27 :: x_mod_28 :: x_mod_29 :: x_mod_30 :: x_mod_31 :: x_mod_32 :: []))) (f0_mod))
    have f_mce := g_ne (x := (a_mfx, eN y 1152 (vf_upd mfx (48 * (t) + 4 * (i) + (o)) (ce)))) hdis (g_ne (x := (a_mod, .inr (8, .int (nI (0)) :: .int (nI (n)) :: x_mod_2 :: x_mod_3 :: x_mod_4 :: .int (nI (nw)) :: x_mod_6 :: .int (nI (fx9 + 1)) :: .ref a_mce :: x_mod_9 :: .ref a_mfx :: x_mod_11 :: x_mod_12 :: x_mod_13 :: x_mod_14 :: x_mod_15 :: x_mod_16 :: x_mod_17 :: x_mod_18 :: x_mod_19 :: x_mod_20 :: x_mod_21 :: x_mod_22 :: x_mod_23 :: x_mod_24 :: x_mod_25 :: x_mod_26 :: x_mod_27 :: x_mod_28 :: x_mod_29 :: x_mod_30 :: x_mod_31 :: x_mod_32 :: []))) (g_kne f0_mod f0_mce (Nat.ne_of_beq_eq_false rfl)) (f0_mce))
    have f_mfx := g_eq (x := (a_mfx, eN y 1152 (vf_upd mfx (48 * (t) + 4 * (i) + (o)) (ce)))) (g_ne (x := (a_mod, .inr (8, .int (nI (0)) :: .int (nI (n)) :: x_mod_2 :: x_mod_3 :: x_mod_4 :: .int (nI (nw)) :: x_mod_6 :: .int (nI (fx9 + 1)) :: .ref a_mce :: x_mod_9 :: .ref a_mfx :: x_mod_11 :: x_mod_12 :: x_mod_13 :: x_mod_14 :: x_mod_15 :: x_mod_16 :: x_mod_17 :: x_mod_18 :: x_mod_19 :: x_mod_20 :: x_mod_21 :: x_mod_22 :: x_mod_23 :: x_mod_24 :: x_mod_25 :: x_mod_26 :: x_mod_27 :: x_mod_28 :: x_mod_29 :: x_mod_30 :: x_mod_31 :: x_mod_32 :: []))) (g_kne f0_mod f0_mfx (Nat.ne_of_beq_eq_false rfl)) (f0_mfx))
    refine lv_iload hx hb dX7_fix_144 (lv_at hl 0 rfl) ?_
    have hP : gvP D vwCl ((ws.set p_mod (a_mod, .inr (8, .int (nI (0)) :: .int (nI (n)) :: x_mod_2 :: x_mod_3 :: x_mod_4 :: .int (nI (nw)) :: x_mod_6 :: .int (nI ((if 0 < mfx (48 * t + 4 * i + o) then fx9 else fx9 + 1))) :: .ref a_mce :: x_mod_9 :: .ref a_mfx :: x_mod_11 :: x_mod_12 :: x_mod_13 :: x_mod_14 :: x_mod_15 :: x_mod_16 :: x_mod_17 :: x_mod_18 :: x_mod_19 :: x_mod_20 :: x_mod_21 :: x_mod_22 :: x_mod_23 :: x_mod_24 :: x_mod_25 :: x_mod_26 :: x_mod_27 :: x_mod_28 :: x_mod_29 :: x_mod_30 :: x_mod_31 :: x_mod_32 :: []))).set p_mfx (a_mfx, eN y 1152 (vf_upd mfx (48 * t + 4 * i + o) (ce)))) _ := g_trP (by rw [if_neg (show ¬ 0 < mfx (48 * t + 4 * i + o) by omega)]; rfl) hP
    have hD : gvD A ((ws.set p_mod (a_mod, .inr (8, .int (nI (0)) :: .int (nI (n)) :: x_mod_2 :: x_mod_3 :: x_mod_4 :: .int (nI (nw)) :: x_mod_6 :: .int (nI ((if 0 < mfx (48 * t + 4 * i + o) then fx9 else fx9 + 1))) :: .ref a_mce :: x_mod_9 :: .ref a_mfx :: x_mod_11 :: x_mod_12 :: x_mod_13 :: x_mod_14 :: x_mod_15 :: x_mod_16 :: x_mod_17 :: x_mod_18 :: x_mod_19 :: x_mod_20 :: x_mod_21 :: x_mod_22 :: x_mod_23 :: x_mod_24 :: x_mod_25 :: x_mod_26 :: x_mod_27 :: x_mod_28 :: x_mod_29 :: x_mod_30 :: x_mod_31 :: x_mod_32 :: []))).set p_mfx (a_mfx, eN y 1152 (vf_upd mfx (48 * t + 4 * i + o) (ce)))) := g_trD (by rw [if_neg (show ¬ 0 < mfx (48 * t + 4 * i + o) by omega)]; rfl) hD
    refine g_iret hx hb hr hlocks () dX7_fix_146 hS hP hD ?_
    rw [if_neg (show ¬ 0 < mfx (48 * t + 4 * i + o) by omega)]
  · refine lv_aload_n hx hb dX7_fix_92 rfl (lv_at hl 1 rfl) ?_
    refine va_get (D := D) (ci := 8) (v := .ref a_mfx) (C := RX7) (T := TX7) (N := 33) hx hb hts in_RX7 hown hE.1 (gv1 hP f_mod) 0 rfl rfl 10 (by decide) (hts (.fieldLink RX7 25 "BasketryOfficeModel" "fixed" "[I") (by decide +kernel)) (fun _ h9 => h9) rfl dX7_fix_93 ?_
    refine lv_iload hx hb dX7_fix_96 (lv_at hl 0 rfl) ?_
    refine g_nald hx hb hE hP _ f_mfx (by omega) (by decide) dX7_fix_98 ?_
    have bd_98_5 := b_mfx (48 * (t) + 4 * (i) + (o))
    refine lv_goto (tgt := 109) hx hb dX7_fix_99 (by decide) ?_
    refine lv_istore (lv' := [(6, .int (nI (mfx (48 * (t) + 4 * (i) + (o))))), (5, .int (nI (48 * (t) + 4 * (i) + (o)))), (0, .ref a_mod), (1, .int (nI (t))), (2, .int (nI (i))), (3, .int (nI (o))), (4, .int (nI (ce)))]) hx hb dX7_fix_109 hl (by decide) rfl (fun ls hl => ?_)
    refine lv_aload_n hx hb dX7_fix_111 rfl (lv_at hl 2 rfl) ?_
    refine lv_dup hx hb dX7_fix_112 rfl ?_
    refine va_get (D := D) (ci := 8) (v := .int (nI (fx9))) (C := RX7) (T := TX7) (N := 33) hx hb hts in_RX7 hown hE.1 (gv1 hP f_mod) 0 rfl rfl 7 (by decide) (hts (.fieldLink RX7 188 "BasketryOfficeModel" "fixes" "I") (by decide +kernel)) (fun _ h9 => h9) rfl dX7_fix_113 ?_
    refine lv_aload_n hx hb dX7_fix_116 rfl (lv_at hl 2 rfl) ?_
    refine va_get (D := D) (ci := 8) (v := .ref a_mfx) (C := RX7) (T := TX7) (N := 33) hx hb hts in_RX7 hown hE.1 (gv1 hP f_mod) 0 rfl rfl 10 (by decide) (hts (.fieldLink RX7 25 "BasketryOfficeModel" "fixed" "[I") (by decide +kernel)) (fun _ h9 => h9) rfl dX7_fix_117 ?_
    refine lv_iload hx hb dX7_fix_120 (lv_at hl 1 rfl) ?_
    refine g_nald hx hb hE hP _ f_mfx (by omega) (by decide) dX7_fix_122 ?_
    have bd_122_6 := b_mfx (48 * (t) + 4 * (i) + (o))
    refine g_if_le (tgt := 130) hx hb (by omega) dX7_fix_123 (by decide) (fun c_123 => absurd c_123 (by omega)) (fun c_123 => ?_)
    refine lv_iconst (v := nI 0) hx hb dX7_fix_126 (by decide) ?_
    refine lv_goto (tgt := 131) hx hb dX7_fix_127 (by decide) ?_
    refine g_iadd hx hb dX7_fix_131 (nI_add _ _) ?_
    refine gv_set f_mod rfl (by rfl) (fun k9 h9 kk9 => va_put (D := D) (ci := 8) (v := .int (nI (fx9 + 0))) (ty := .int) (C := RX7) (T := TX7) (N := 33) hx hb hts in_RX7 tyX7 tyX7_ok nmX7 hown hE.1 hP hD hS k9 h9 rfl 7 (by decide) (hts (.fieldLink RX7 188 "BasketryOfficeModel" "fixes" "I") (by decide +kernel)) (fun _ h9 => h9) rfl (by decide +kernel) rfl rfl (Nat.le_of_ble_eq_true rfl) dX7_fix_132 kk9) (fun H locs hP hD hS => ?_)
    have hP := g_trP g_ss hP
    have hD := g_trD g_ss hD
    have f_mod := g_eq (x := (a_mod, .inr (8, .int (nI (0)) :: .int (nI (n)) :: x_mod_2 :: x_mod_3 :: x_mod_4 :: .int (nI (nw)) :: x_mod_6 :: .int (nI (fx9 + 0)) :: .ref a_mce :: x_mod_9 :: .ref a_mfx :: x_mod_11 :: x_mod_12 :: x_mod_13 :: x_mod_14 :: x_mod_15 :: x_mod_16 :: x_mod_17 :: x_mod_18 :: x_mod_19 :: x_mod_20 :: x_mod_21 :: x_mod_22 :: x_mod_23 :: x_mod_24 :: x_mod_25 :: x_mod_26 :: x_mod_27 :: x_mod_28 :: x_mod_29 :: x_mod_30 :: x_mod_31 :: x_mod_32 :: []))) (f0_mod)
    have f_mce := g_ne (x := (a_mod, .inr (8, .int (nI (0)) :: .int (nI (n)) :: x_mod_2 :: x_mod_3 :: x_mod_4 :: .int (nI (nw)) :: x_mod_6 :: .int (nI (fx9 + 0)) :: .ref a_mce :: x_mod_9 :: .ref a_mfx :: x_mod_11 :: x_mod_12 :: x_mod_13 :: x_mod_14 :: x_mod_15 :: x_mod_16 :: x_mod_17 :: x_mod_18 :: x_mod_19 :: x_mod_20 :: x_mod_21 :: x_mod_22 :: x_mod_23 :: x_mod_24 :: x_mod_25 :: x_mod_26 :: x_mod_27 :: x_mod_28 :: x_mod_29 :: x_mod_30 :: x_mod_31 :: x_mod_32 :: []))) (g_kne f0_mod f0_mce (Nat.ne_of_beq_eq_false rfl)) (f0_mce)
    have f_mfx := g_ne (x := (a_mod, .inr (8, .int (nI (0)) :: .int (nI (n)) :: x_mod_2 :: x_mod_3 :: x_mod_4 :: .int (nI (nw)) :: x_mod_6 :: .int (nI (fx9 + 0)) :: .ref a_mce :: x_mod_9 :: .ref a_mfx :: x_mod_11 :: x_mod_12 :: x_mod_13 :: x_mod_14 :: x_mod_15 :: x_mod_16 :: x_mod_17 :: x_mod_18 :: x_mod_19 :: x_mod_20 :: x_mod_21 :: x_mod_22 :: x_mod_23 :: x_mod_24 :: x_mod_25 :: x_mod_26 :: x_mod_27 :: x_mod_28 :: x_mod_29 :: x_mod_30 :: x_mod_31 :: x_mod_32 :: []))) (g_kne f0_mod f0_mfx (Nat.ne_of_beq_eq_false rfl)) (f0_mfx)
    refine lv_aload_n hx hb dX7_fix_135 rfl (lv_at hl 2 rfl) ?_
    refine va_get (D := D) (ci := 8) (v := .ref a_mfx) (C := RX7) (T := TX7) (N := 33) hx hb hts in_RX7 hown hE.1 (gv1 hP f_mod) 0 rfl rfl 10 (by decide) (hts (.fieldLink RX7 25 "BasketryOfficeModel" "fixed" "[I") (by decide +kernel)) (fun _ h9 => h9) rfl dX7_fix_136 ?_
    refine lv_iload hx hb dX7_fix_139 (lv_at hl 1 rfl) ?_
    refine lv_iload hx hb dX7_fix_141 (lv_at hl 6 rfl) ?_
    refine g_nast hx hb hE hP hD hS _ f_mfx (by omega) (by decide) dX7_fix_143 (fun H locs hP hD hS => ?_)
    have f_mod := g_ne (x := (a_mfx, eN y 1152 (vf_upd mfx (48 * (t) + 4 * (i) + (o)) (ce)))) (g_kne f0_mfx f0_mod (Nat.ne_of_beq_eq_false rfl)) (g_eq (x := (a_mod, .inr (8, .int (nI (0)) :: .int (nI (n)) :: x_mod_2 :: x_mod_3 :: x_mod_4 :: .int (nI (nw)) :: x_mod_6 :: .int (nI (fx9 + 0)) :: .ref a_mce :: x_mod_9 :: .ref a_mfx :: x_mod_11 :: x_mod_12 :: x_mod_13 :: x_mod_14 :: x_mod_15 :: x_mod_16 :: x_mod_17 :: x_mod_18 :: x_mod_19 :: x_mod_20 :: x_mod_21 :: x_mod_22 :: x_mod_23 :: x_mod_24 :: x_mod_25 :: x_mod_26 :: x_mod_27 :: x_mod_28 :: x_mod_29 :: x_mod_30 :: x_mod_31 :: x_mod_32 :: []))) (f0_mod))
    have f_mce := g_ne (x := (a_mfx, eN y 1152 (vf_upd mfx (48 * (t) + 4 * (i) + (o)) (ce)))) hdis (g_ne (x := (a_mod, .inr (8, .int (nI (0)) :: .int (nI (n)) :: x_mod_2 :: x_mod_3 :: x_mod_4 :: .int (nI (nw)) :: x_mod_6 :: .int (nI (fx9 + 0)) :: .ref a_mce :: x_mod_9 :: .ref a_mfx :: x_mod_11 :: x_mod_12 :: x_mod_13 :: x_mod_14 :: x_mod_15 :: x_mod_16 :: x_mod_17 :: x_mod_18 :: x_mod_19 :: x_mod_20 :: x_mod_21 :: x_mod_22 :: x_mod_23 :: x_mod_24 :: x_mod_25 :: x_mod_26 :: x_mod_27 :: x_mod_28 :: x_mod_29 :: x_mod_30 :: x_mod_31 :: x_mod_32 :: []))) (g_kne f0_mod f0_mce (Nat.ne_of_beq_eq_false rfl)) (f0_mce))
    have f_mfx := g_eq (x := (a_mfx, eN y 1152 (vf_upd mfx (48 * (t) + 4 * (i) + (o)) (ce)))) (g_ne (x := (a_mod, .inr (8, .int (nI (0)) :: .int (nI (n)) :: x_mod_2 :: x_mod_3 :: x_mod_4 :: .int (nI (nw)) :: x_mod_6 :: .int (nI (fx9 + 0)) :: .ref a_mce :: x_mod_9 :: .ref a_mfx :: x_mod_11 :: x_mod_12 :: x_mod_13 :: x_mod_14 :: x_mod_15 :: x_mod_16 :: x_mod_17 :: x_mod_18 :: x_mod_19 :: x_mod_20 :: x_mod_21 :: x_mod_22 :: x_mod_23 :: x_mod_24 :: x_mod_25 :: x_mod_26 :: x_mod_27 :: x_mod_28 :: x_mod_29 :: x_mod_30 :: x_mod_31 :: x_mod_32 :: []))) (g_kne f0_mod f0_mfx (Nat.ne_of_beq_eq_false rfl)) (f0_mfx))
    refine lv_iload hx hb dX7_fix_144 (lv_at hl 0 rfl) ?_
    have hP : gvP D vwCl ((ws.set p_mod (a_mod, .inr (8, .int (nI (0)) :: .int (nI (n)) :: x_mod_2 :: x_mod_3 :: x_mod_4 :: .int (nI (nw)) :: x_mod_6 :: .int (nI ((if 0 < mfx (48 * t + 4 * i + o) then fx9 else fx9 + 1))) :: .ref a_mce :: x_mod_9 :: .ref a_mfx :: x_mod_11 :: x_mod_12 :: x_mod_13 :: x_mod_14 :: x_mod_15 :: x_mod_16 :: x_mod_17 :: x_mod_18 :: x_mod_19 :: x_mod_20 :: x_mod_21 :: x_mod_22 :: x_mod_23 :: x_mod_24 :: x_mod_25 :: x_mod_26 :: x_mod_27 :: x_mod_28 :: x_mod_29 :: x_mod_30 :: x_mod_31 :: x_mod_32 :: []))).set p_mfx (a_mfx, eN y 1152 (vf_upd mfx (48 * t + 4 * i + o) (ce)))) _ := g_trP (by rw [if_pos (show 0 < mfx (48 * t + 4 * i + o) by omega)]; rfl) hP
    have hD : gvD A ((ws.set p_mod (a_mod, .inr (8, .int (nI (0)) :: .int (nI (n)) :: x_mod_2 :: x_mod_3 :: x_mod_4 :: .int (nI (nw)) :: x_mod_6 :: .int (nI ((if 0 < mfx (48 * t + 4 * i + o) then fx9 else fx9 + 1))) :: .ref a_mce :: x_mod_9 :: .ref a_mfx :: x_mod_11 :: x_mod_12 :: x_mod_13 :: x_mod_14 :: x_mod_15 :: x_mod_16 :: x_mod_17 :: x_mod_18 :: x_mod_19 :: x_mod_20 :: x_mod_21 :: x_mod_22 :: x_mod_23 :: x_mod_24 :: x_mod_25 :: x_mod_26 :: x_mod_27 :: x_mod_28 :: x_mod_29 :: x_mod_30 :: x_mod_31 :: x_mod_32 :: []))).set p_mfx (a_mfx, eN y 1152 (vf_upd mfx (48 * t + 4 * i + o) (ce)))) := g_trD (by rw [if_pos (show 0 < mfx (48 * t + 4 * i + o) by omega)]; rfl) hD
    refine g_iret hx hb hr hlocks () dX7_fix_146 hS hP hD ?_
    rw [if_pos (show 0 < mfx (48 * t + 4 * i + o) by omega)]
