theorem in_x0_X7_bounce_RX7 : ∀ w ∈ wsX70, w ∈ wsX7_bounce := by decide +kernel
set_option maxHeartbeats 4000000 in
set_option maxRecDepth 100000 in
theorem x0_X7_bounce (l : Launch) {D : va_G} {y : Nat → Nat} {ws : va_W} {x_mod_2 : Value} {x_mod_3 : Value} {x_mod_4 : Value} {x_mod_6 : Value} {x_mod_7 : Value} {x_mod_8 : Value} {x_mod_9 : Value} {x_mod_10 : Value} {x_mod_11 : Value} {x_mod_12 : Value} {x_mod_13 : Value} {x_mod_14 : Value} {x_mod_15 : Value} {x_mod_16 : Value} {x_mod_17 : Value} {x_mod_18 : Value} {x_mod_19 : Value} {x_mod_20 : Value} {x_mod_21 : Value} {x_mod_22 : Value} {x_mod_23 : Value} {x_mod_24 : Value} {x_mod_25 : Value} {x_mod_26 : Value} {x_mod_27 : Value} {x_mod_28 : Value} {x_mod_29 : Value} {x_mod_30 : Value} {x_mod_31 : Value} {x_mod_32 : Value} {p_mod a_mod : Nat} {i t : Int32} {nw n th : Nat} (f0_mod : ws[p_mod]? = some (a_mod, .inr (8, [.int (nI (th)), .int (nI (n)), x_mod_2, x_mod_3, x_mod_4, .int (nI (nw)), x_mod_6, x_mod_7, x_mod_8, x_mod_9, x_mod_10, x_mod_11, x_mod_12, x_mod_13, x_mod_14, x_mod_15, x_mod_16, x_mod_17, x_mod_18, x_mod_19, x_mod_20, x_mod_21, x_mod_22, x_mod_23, x_mod_24, x_mod_25, x_mod_26, x_mod_27, x_mod_28, x_mod_29, x_mod_30, x_mod_31, x_mod_32]))) (hw : nw ≤ 24) (hn : n ≤ 12)  (hbad : i < 0 ∨ nI n ≤ i) : gMd l yX7_bounce wsX7_bounce ({ frames := 2, cells := 0, slots := 0, locals := 43 }) D y [.ref a_mod, .int (i), .int (t)] ws (fun r (_ : Unit) => r = 0) (fun (_ : Unit) => (ws.set p_mod (a_mod, .inr (8, [.int (nI (1)), .int (nI (n)), x_mod_2, x_mod_3, x_mod_4, .int (nI (nw)), x_mod_6, x_mod_7, x_mod_8, x_mod_9, x_mod_10, x_mod_11, x_mod_12, x_mod_13, x_mod_14, x_mod_15, x_mod_16, x_mod_17, x_mod_18, x_mod_19, x_mod_20, x_mod_21, x_mod_22, x_mod_23, x_mod_24, x_mod_25, x_mod_26, x_mod_27, x_mod_28, x_mod_29, x_mod_30, x_mod_31, x_mod_32])))) := by
  refine g_met_d (cc := cX7_bounce) (maxL := 3) (by decide) rfl (Nat.le_of_ble_eq_true rfl) ?_
  intro p e s m below meth c A hx hb hml hr hts hown hnm hlocks hE hP hD hS hA ls hl
  have hown : s.vm.findClass RX7 = some m.cls := hown
  have hl : lv_has ls 3 [(0, .ref a_mod), (1, .int (i)), (2, .int (t))] := hl
  have in_RX7 := in_x0_X7_bounce_RX7
  refine lv_aload_n hx hb dX7_bounce_0 rfl (lv_at hl 0 rfl) ?_
  refine lv_aload_n hx hb dX7_bounce_1 rfl (lv_at hl 0 rfl) ?_
  refine lv_iload_n hx hb dX7_bounce_2 rfl (lv_at hl 1 rfl) ?_
  refine gc_V_i (As := [.int (i)]) (rest := [.ref a_mod]) (c_X7_isItem l f0_mod (by omega)) ⟨hx, hb, hml, hown, hts⟩ (cwV 1 hts gX7_bounce_X7_isItem rfl rfl rfl (by decide +kernel) ⟨Nat.le_of_ble_eq_true rfl, Nat.le_of_ble_eq_true rfl⟩) hE hP hD hS hA _ f0_mod rfl rfl rfl rfl hl.1 (Nat.le_of_ble_eq_true rfl) dX7_bounce_3 ⟨Nat.le_of_ble_eq_true rfl, Nat.le_of_ble_eq_true rfl⟩ (fun r_3 u_3 H locs hP hD hS q_3 => ?_)
  subst q_3
  refine g_bif_eq (tgt := 21) hx hb dX7_bounce_6 (by decide) (fun c_6 => ?_) (fun c_6 => absurd c_6 (by rw [decide_eq_false (fun z => z hbad)]; decide))
  refine lv_iconst (v := nI 1) hx hb dX7_bounce_21 (by decide) ?_
  refine va_put (D := D) (ci := 8) (v := .int (nI (1))) (ty := .int) (C := RX7) (T := TX7) (N := 33) hx hb hts in_RX7 tyX7 tyX7_ok nmX7 hown hE.1 hP hD hS _ f0_mod rfl 0 (by decide) (hts (.fieldLink RX7 94 "BasketryOfficeModel" "thrown" "I") (by decide +kernel)) (fun _ h9 => h9) rfl (by decide +kernel) rfl rfl (Nat.le_of_ble_eq_true rfl) dX7_bounce_22 (fun H locs hP hD hS => ?_)
  refine lv_aload_n hx hb dX7_bounce_25 rfl (lv_at hl 0 rfl) ?_
  have f_mod := g_eq (x := (a_mod, .inr (8, [.int (nI (1)), .int (nI (n)), x_mod_2, x_mod_3, x_mod_4, .int (nI (nw)), x_mod_6, x_mod_7, x_mod_8, x_mod_9, x_mod_10, x_mod_11, x_mod_12, x_mod_13, x_mod_14, x_mod_15, x_mod_16, x_mod_17, x_mod_18, x_mod_19, x_mod_20, x_mod_21, x_mod_22, x_mod_23, x_mod_24, x_mod_25, x_mod_26, x_mod_27, x_mod_28, x_mod_29, x_mod_30, x_mod_31, x_mod_32]))) (f0_mod)
  refine va_get (D := D) (ci := 8) (v := .int (nI (1))) (C := RX7) (T := TX7) (N := 33) hx hb hts in_RX7 hown hE.1 hP _ f_mod rfl 0 (by decide) (hts (.fieldLink RX7 94 "BasketryOfficeModel" "thrown" "I") (by decide +kernel)) (fun _ h9 => h9) rfl dX7_bounce_26 ?_
  refine g_if_gt (tgt := 48) hx hb (by omega) dX7_bounce_29 (by decide) (fun c_29 => ?_) (fun c_29 => absurd c_29 (by omega))
  refine g_dconst0 hx hb dX7_bounce_48 ?_
  refine lv_goto (tgt := 72) hx hb dX7_bounce_49 (by decide) ?_
  refine g_dret hx hb hr hlocks () dX7_bounce_72 hS hP hD ?_
  exact rfl

theorem in_x1_X7_bounce_RX7 : ∀ w ∈ wsX70, w ∈ wsX7_bounce := by decide +kernel
set_option maxHeartbeats 4000000 in
set_option maxRecDepth 100000 in
theorem x1_X7_bounce (l : Launch) {D : va_G} {y : Nat → Nat} {ws : va_W} {x_mod_2 : Value} {x_mod_3 : Value} {x_mod_4 : Value} {x_mod_6 : Value} {x_mod_7 : Value} {x_mod_8 : Value} {x_mod_9 : Value} {x_mod_10 : Value} {x_mod_11 : Value} {x_mod_12 : Value} {x_mod_13 : Value} {x_mod_14 : Value} {x_mod_15 : Value} {x_mod_16 : Value} {x_mod_17 : Value} {x_mod_18 : Value} {x_mod_19 : Value} {x_mod_20 : Value} {x_mod_21 : Value} {x_mod_22 : Value} {x_mod_23 : Value} {x_mod_24 : Value} {x_mod_25 : Value} {x_mod_26 : Value} {x_mod_27 : Value} {x_mod_28 : Value} {x_mod_29 : Value} {x_mod_30 : Value} {x_mod_31 : Value} {x_mod_32 : Value} {p_mod a_mod : Nat} {i : Nat} {t : Int32} {nw n th : Nat} (f0_mod : ws[p_mod]? = some (a_mod, .inr (8, [.int (nI (th)), .int (nI (n)), x_mod_2, x_mod_3, x_mod_4, .int (nI (nw)), x_mod_6, x_mod_7, x_mod_8, x_mod_9, x_mod_10, x_mod_11, x_mod_12, x_mod_13, x_mod_14, x_mod_15, x_mod_16, x_mod_17, x_mod_18, x_mod_19, x_mod_20, x_mod_21, x_mod_22, x_mod_23, x_mod_24, x_mod_25, x_mod_26, x_mod_27, x_mod_28, x_mod_29, x_mod_30, x_mod_31, x_mod_32]))) (hw : nw ≤ 24) (hn : n ≤ 12) (hi : i < n) (hbad : t < 0 ∨ nI nw ≤ t) : gMd l yX7_bounce wsX7_bounce ({ frames := 2, cells := 0, slots := 0, locals := 43 }) D y [.ref a_mod, .int (nI (i)), .int (t)] ws (fun r (_ : Unit) => r = 0) (fun (_ : Unit) => (ws.set p_mod (a_mod, .inr (8, [.int (nI (1)), .int (nI (n)), x_mod_2, x_mod_3, x_mod_4, .int (nI (nw)), x_mod_6, x_mod_7, x_mod_8, x_mod_9, x_mod_10, x_mod_11, x_mod_12, x_mod_13, x_mod_14, x_mod_15, x_mod_16, x_mod_17, x_mod_18, x_mod_19, x_mod_20, x_mod_21, x_mod_22, x_mod_23, x_mod_24, x_mod_25, x_mod_26, x_mod_27, x_mod_28, x_mod_29, x_mod_30, x_mod_31, x_mod_32])))) := by
  refine g_met_d (cc := cX7_bounce) (maxL := 3) (by decide) rfl (Nat.le_of_ble_eq_true rfl) ?_
  intro p e s m below meth c A hx hb hml hr hts hown hnm hlocks hE hP hD hS hA ls hl
  have hown : s.vm.findClass RX7 = some m.cls := hown
  have hl : lv_has ls 3 [(0, .ref a_mod), (1, .int (nI (i))), (2, .int (t))] := hl
  have in_RX7 := in_x1_X7_bounce_RX7
  refine lv_aload_n hx hb dX7_bounce_0 rfl (lv_at hl 0 rfl) ?_
  refine lv_aload_n hx hb dX7_bounce_1 rfl (lv_at hl 0 rfl) ?_
  refine lv_iload_n hx hb dX7_bounce_2 rfl (lv_at hl 1 rfl) ?_
  refine gc_V_i (As := [.int (nI (i))]) (rest := [.ref a_mod]) (c_X7_isItem l f0_mod (by omega)) ⟨hx, hb, hml, hown, hts⟩ (cwV 1 hts gX7_bounce_X7_isItem rfl rfl rfl (by decide +kernel) ⟨Nat.le_of_ble_eq_true rfl, Nat.le_of_ble_eq_true rfl⟩) hE hP hD hS hA _ f0_mod rfl rfl rfl rfl hl.1 (Nat.le_of_ble_eq_true rfl) dX7_bounce_3 ⟨Nat.le_of_ble_eq_true rfl, Nat.le_of_ble_eq_true rfl⟩ (fun r_3 u_3 H locs hP hD hS q_3 => ?_)
  subst q_3
  refine g_bif_eq (tgt := 21) hx hb dX7_bounce_6 (by decide) (fun c_6 => absurd c_6 (by rw [decide_eq_true (rq_lt hi (by omega))]; decide)) (fun c_6 => ?_)
  refine lv_aload_n hx hb dX7_bounce_9 rfl (lv_at hl 0 rfl) ?_
  refine lv_iload_n hx hb dX7_bounce_10 rfl (lv_at hl 2 rfl) ?_
  refine gc_V_i (As := [.int (t)]) (rest := [.ref a_mod]) (c_X7_isPublished l f0_mod (by omega)) ⟨hx, hb, hml, hown, hts⟩ (cwV 1 hts gX7_bounce_X7_isPublished rfl rfl rfl (by decide +kernel) ⟨Nat.le_of_ble_eq_true rfl, Nat.le_of_ble_eq_true rfl⟩) hE hP hD hS hA _ f0_mod rfl rfl rfl rfl hl.1 (Nat.le_of_ble_eq_true rfl) dX7_bounce_11 ⟨Nat.le_of_ble_eq_true rfl, Nat.le_of_ble_eq_true rfl⟩ (fun r_11 u_11 H locs hP hD hS q_11 => ?_)
  subst q_11
  refine g_bif_eq (tgt := 21) hx hb dX7_bounce_14 (by decide) (fun c_14 => ?_) (fun c_14 => absurd c_14 (by rw [decide_eq_false (fun z => z hbad)]; decide))
  refine lv_iconst (v := nI 1) hx hb dX7_bounce_21 (by decide) ?_
  refine va_put (D := D) (ci := 8) (v := .int (nI (1))) (ty := .int) (C := RX7) (T := TX7) (N := 33) hx hb hts in_RX7 tyX7 tyX7_ok nmX7 hown hE.1 hP hD hS _ f0_mod rfl 0 (by decide) (hts (.fieldLink RX7 94 "BasketryOfficeModel" "thrown" "I") (by decide +kernel)) (fun _ h9 => h9) rfl (by decide +kernel) rfl rfl (Nat.le_of_ble_eq_true rfl) dX7_bounce_22 (fun H locs hP hD hS => ?_)
  refine lv_aload_n hx hb dX7_bounce_25 rfl (lv_at hl 0 rfl) ?_
  have f_mod := g_eq (x := (a_mod, .inr (8, [.int (nI (1)), .int (nI (n)), x_mod_2, x_mod_3, x_mod_4, .int (nI (nw)), x_mod_6, x_mod_7, x_mod_8, x_mod_9, x_mod_10, x_mod_11, x_mod_12, x_mod_13, x_mod_14, x_mod_15, x_mod_16, x_mod_17, x_mod_18, x_mod_19, x_mod_20, x_mod_21, x_mod_22, x_mod_23, x_mod_24, x_mod_25, x_mod_26, x_mod_27, x_mod_28, x_mod_29, x_mod_30, x_mod_31, x_mod_32]))) (f0_mod)
  refine va_get (D := D) (ci := 8) (v := .int (nI (1))) (C := RX7) (T := TX7) (N := 33) hx hb hts in_RX7 hown hE.1 hP _ f_mod rfl 0 (by decide) (hts (.fieldLink RX7 94 "BasketryOfficeModel" "thrown" "I") (by decide +kernel)) (fun _ h9 => h9) rfl dX7_bounce_26 ?_
  refine g_if_gt (tgt := 48) hx hb (by omega) dX7_bounce_29 (by decide) (fun c_29 => ?_) (fun c_29 => absurd c_29 (by omega))
  refine g_dconst0 hx hb dX7_bounce_48 ?_
  refine lv_goto (tgt := 72) hx hb dX7_bounce_49 (by decide) ?_
  refine g_dret hx hb hr hlocks () dX7_bounce_72 hS hP hD ?_
  exact rfl

theorem in_c_X7_bounce_RX7 : ∀ w ∈ wsX70, w ∈ wsX7_bounce := by decide +kernel
set_option maxHeartbeats 4000000 in
set_option maxRecDepth 100000 in
theorem c_X7_bounce (l : Launch) {D : va_G} {y : Nat → Nat} {ws : va_W} {x_mod_2 : Value} {x_mod_4 : Value} {x_mod_6 : Value} {x_mod_7 : Value} {x_mod_11 : Value} {x_mod_14 : Value} {x_mod_15 : Value} {x_mod_16 : Value} {x_mod_20 : Value} {x_mod_21 : Value} {x_mod_22 : Value} {x_mod_23 : Value} {x_mod_24 : Value} {x_mod_25 : Value} {x_mod_26 : Value} {x_mod_27 : Value} {x_mod_28 : Value} {x_mod_29 : Value} {x_mod_30 : Value} {x_mod_31 : Value} {x_mod_32 : Value} {p_mod p_mre p_mce p_mgm p_mfx p_mlc p_mlg p_mpr p_mim p_mme a_mod a_mre a_mce a_mgm a_mfx a_mlc a_mlg a_mpr a_mim a_mme : Nat} {mre : Nat → UInt64} {mce : Nat → Nat} {mgm : Nat → Nat} {mfx : Nat → Nat} {mlc : Nat → Nat} {mlg : Nat → Nat} {mpr : Nat → UInt64} {mim : Nat → Bool} {mme : Nat → Nat} {i t : Nat} {nw n th : Nat} (f0_mod : ws[p_mod]? = some (a_mod, .inr (8, [.int (nI (th)), .int (nI (n)), x_mod_2, .ref a_mme, x_mod_4, .int (nI (nw)), x_mod_6, x_mod_7, .ref a_mce, .ref a_mgm, .ref a_mfx, x_mod_11, .ref a_mlc, .ref a_mlg, x_mod_14, x_mod_15, x_mod_16, .ref a_mpr, .ref a_mim, .ref a_mre, x_mod_20, x_mod_21, x_mod_22, x_mod_23, x_mod_24, x_mod_25, x_mod_26, x_mod_27, x_mod_28, x_mod_29, x_mod_30, x_mod_31, x_mod_32]))) (f0_mre : ws[p_mre]? = some (a_mre, eD y 576 mre)) (f0_mce : ws[p_mce]? = some (a_mce, eN y 1152 mce)) (f0_mgm : ws[p_mgm]? = some (a_mgm, eN y 1152 mgm)) (f0_mfx : ws[p_mfx]? = some (a_mfx, eN y 1152 mfx)) (f0_mlc : ws[p_mlc]? = some (a_mlc, eN y 1152 mlc)) (f0_mlg : ws[p_mlg]? = some (a_mlg, eN y 1152 mlg)) (f0_mpr : ws[p_mpr]? = some (a_mpr, eD y 2304 mpr)) (f0_mim : ws[p_mim]? = some (a_mim, eZ y 2304 mim)) (f0_mme : ws[p_mme]? = some (a_mme, eN y 12 mme)) (b_mce : ∀ k, mce k ≤ 100000) (b_mgm : ∀ k, mgm k ≤ 10000) (b_mfx : ∀ k, mfx k ≤ 100000) (b_mlc : ∀ k, mlc k ≤ 100000) (b_mlg : ∀ k, mlg k ≤ 10000) (b_mme : ∀ k, mme k ≤ 2) (hw : nw ≤ 24) (hn : n ≤ 12) (hi : i < n) (ht : t < nw) (hgm : ∀ k, mgm k = 0 → mce k = 0 ∧ mfx k = 0) (hlg : ∀ k, mlg k = 0 → mlc k = 0) (hm : nnMean (mme i) (fun k => mim (1152 * 0 + k)) (sBase mlc mlg (fun k => mpr (1152 * 0 + k))) (mRate (rCw 0 mfx mce) mgm) (48 * t + 4 * i)) (hnn : vf_n64 (FP.dmul (mre (12 * t + i)) (sMean (mme i) (fun k => mim (1152 * 0 + k)) (sBase mlc mlg (fun k => mpr (1152 * 0 + k))) (mRate (rCw 0 mfx mce) mgm) (48 * t + 4 * i)))) : gMd l yX7_bounce wsX7_bounce ({ frames := 3, cells := 0, slots := 0, locals := 83 }) D y [.ref a_mod, .int (nI (i)), .int (nI (t))] ws (fun r (_ : Unit) => r = if Deq (mre (12 * t + i)) 0 then 0 else FP.dmul (mre (12 * t + i)) (sMean (mme i) (fun k => mim (1152 * 0 + k)) (sBase mlc mlg (fun k => mpr (1152 * 0 + k))) (mRate (rCw 0 mfx mce) mgm) (48 * t + 4 * i))) (fun (_ : Unit) => (ws.set p_mod (a_mod, .inr (8, [.int (nI (0)), .int (nI (n)), x_mod_2, .ref a_mme, x_mod_4, .int (nI (nw)), x_mod_6, x_mod_7, .ref a_mce, .ref a_mgm, .ref a_mfx, x_mod_11, .ref a_mlc, .ref a_mlg, x_mod_14, x_mod_15, x_mod_16, .ref a_mpr, .ref a_mim, .ref a_mre, x_mod_20, x_mod_21, x_mod_22, x_mod_23, x_mod_24, x_mod_25, x_mod_26, x_mod_27, x_mod_28, x_mod_29, x_mod_30, x_mod_31, x_mod_32])))) := by
  refine g_met_d (cc := cX7_bounce) (maxL := 3) (by decide) rfl (Nat.le_of_ble_eq_true rfl) ?_
  intro p e s m below meth c A hx hb hml hr hts hown hnm hlocks hE hP hD hS hA ls hl
  have hown : s.vm.findClass RX7 = some m.cls := hown
  have hl : lv_has ls 3 [(0, .ref a_mod), (1, .int (nI (i))), (2, .int (nI (t)))] := hl
  have in_RX7 := in_c_X7_bounce_RX7
  refine lv_aload_n hx hb dX7_bounce_0 rfl (lv_at hl 0 rfl) ?_
  refine lv_aload_n hx hb dX7_bounce_1 rfl (lv_at hl 0 rfl) ?_
  refine lv_iload_n hx hb dX7_bounce_2 rfl (lv_at hl 1 rfl) ?_
  refine gc_V_i (As := [.int (nI (i))]) (rest := [.ref a_mod]) (c_X7_isItem l f0_mod (by omega)) ⟨hx, hb, hml, hown, hts⟩ (cwV 1 hts gX7_bounce_X7_isItem rfl rfl rfl (by decide +kernel) ⟨Nat.le_of_ble_eq_true rfl, Nat.le_of_ble_eq_true rfl⟩) hE hP hD hS hA _ f0_mod rfl rfl rfl rfl hl.1 (Nat.le_of_ble_eq_true rfl) dX7_bounce_3 ⟨Nat.le_of_ble_eq_true rfl, Nat.le_of_ble_eq_true rfl⟩ (fun r_3 u_3 H locs hP hD hS q_3 => ?_)
  subst q_3
  refine g_bif_eq (tgt := 21) hx hb dX7_bounce_6 (by decide) (fun c_6 => absurd c_6 (by rw [decide_eq_true (rq_lt hi (by omega))]; decide)) (fun c_6 => ?_)
  refine lv_aload_n hx hb dX7_bounce_9 rfl (lv_at hl 0 rfl) ?_
  refine lv_iload_n hx hb dX7_bounce_10 rfl (lv_at hl 2 rfl) ?_
  refine gc_V_i (As := [.int (nI (t))]) (rest := [.ref a_mod]) (c_X7_isPublished l f0_mod (by omega)) ⟨hx, hb, hml, hown, hts⟩ (cwV 1 hts gX7_bounce_X7_isPublished rfl rfl rfl (by decide +kernel) ⟨Nat.le_of_ble_eq_true rfl, Nat.le_of_ble_eq_true rfl⟩) hE hP hD hS hA _ f0_mod rfl rfl rfl rfl hl.1 (Nat.le_of_ble_eq_true rfl) dX7_bounce_11 ⟨Nat.le_of_ble_eq_true rfl, Nat.le_of_ble_eq_true rfl⟩ (fun r_11 u_11 H locs hP hD hS q_11 => ?_)
  subst q_11
  refine g_bif_eq (tgt := 21) hx hb dX7_bounce_14 (by decide) (fun c_14 => absurd c_14 (by rw [decide_eq_true (rq_lt ht (by omega))]; decide)) (fun c_14 => ?_)
  refine lv_iconst (v := nI 0) hx hb dX7_bounce_17 (by decide) ?_
  refine lv_goto (tgt := 22) hx hb dX7_bounce_18 (by decide) ?_
  refine va_put (D := D) (ci := 8) (v := .int (nI (0))) (ty := .int) (C := RX7) (T := TX7) (N := 33) hx hb hts in_RX7 tyX7 tyX7_ok nmX7 hown hE.1 hP hD hS _ f0_mod rfl 0 (by decide) (hts (.fieldLink RX7 94 "BasketryOfficeModel" "thrown" "I") (by decide +kernel)) (fun _ h9 => h9) rfl (by decide +kernel) rfl rfl (Nat.le_of_ble_eq_true rfl) dX7_bounce_22 (fun H locs hP hD hS => ?_)
  refine lv_aload_n hx hb dX7_bounce_25 rfl (lv_at hl 0 rfl) ?_
  have f_mod := g_eq (x := (a_mod, .inr (8, [.int (nI (0)), .int (nI (n)), x_mod_2, .ref a_mme, x_mod_4, .int (nI (nw)), x_mod_6, x_mod_7, .ref a_mce, .ref a_mgm, .ref a_mfx, x_mod_11, .ref a_mlc, .ref a_mlg, x_mod_14, x_mod_15, x_mod_16, .ref a_mpr, .ref a_mim, .ref a_mre, x_mod_20, x_mod_21, x_mod_22, x_mod_23, x_mod_24, x_mod_25, x_mod_26, x_mod_27, x_mod_28, x_mod_29, x_mod_30, x_mod_31, x_mod_32]))) (f0_mod)
  refine va_get (D := D) (ci := 8) (v := .int (nI (0))) (C := RX7) (T := TX7) (N := 33) hx hb hts in_RX7 hown hE.1 hP _ f_mod rfl 0 (by decide) (hts (.fieldLink RX7 94 "BasketryOfficeModel" "thrown" "I") (by decide +kernel)) (fun _ h9 => h9) rfl dX7_bounce_26 ?_
  refine g_if_gt (tgt := 48) hx hb (by omega) dX7_bounce_29 (by decide) (fun c_29 => absurd c_29 (by omega)) (fun c_29 => ?_)
  refine lv_aload_n hx hb dX7_bounce_32 rfl (lv_at hl 0 rfl) ?_
  refine va_get (D := D) (ci := 8) (v := .ref a_mre) (C := RX7) (T := TX7) (N := 33) hx hb hts in_RX7 hown hE.1 hP _ f_mod rfl 19 (by decide) (hts (.fieldLink RX7 54 "BasketryOfficeModel" "relative" "[D") (by decide +kernel)) (fun _ h9 => h9) rfl dX7_bounce_33 ?_
  refine lv_bipush (v := nI 12) hx hb dX7_bounce_36 (by decide) ?_
  refine lv_iload_n hx hb dX7_bounce_38 rfl (lv_at hl 2 rfl) ?_
  refine g_imul hx hb dX7_bounce_39 (pk_mul _ _) ?_
  refine lv_iload_n hx hb dX7_bounce_40 rfl (lv_at hl 1 rfl) ?_
  refine g_iadd hx hb dX7_bounce_41 (nI_add _ _) ?_
  have f_mre := g_ne (x := (a_mod, .inr (8, [.int (nI (0)), .int (nI (n)), x_mod_2, .ref a_mme, x_mod_4, .int (nI (nw)), x_mod_6, x_mod_7, .ref a_mce, .ref a_mgm, .ref a_mfx, x_mod_11, .ref a_mlc, .ref a_mlg, x_mod_14, x_mod_15, x_mod_16, .ref a_mpr, .ref a_mim, .ref a_mre, x_mod_20, x_mod_21, x_mod_22, x_mod_23, x_mod_24, x_mod_25, x_mod_26, x_mod_27, x_mod_28, x_mod_29, x_mod_30, x_mod_31, x_mod_32]))) (g_kne f0_mod f0_mre (Nat.ne_of_beq_eq_false rfl)) (f0_mre)
  refine g_dald hx hb hE hP _ f_mre (by omega) (by decide) dX7_bounce_42 ?_
  refine g_dconst0 hx hb dX7_bounce_43 ?_
  refine g_dcmpl_ne (tgt := 52) hx hb dX7_bounce_44 dX7_bounce_45 (by decide) (fun c_44 => ?_) (fun c_44 => ?_)
  · refine lv_aload_n hx hb dX7_bounce_52 rfl (lv_at hl 0 rfl) ?_
    refine va_get (D := D) (ci := 8) (v := .ref a_mre) (C := RX7) (T := TX7) (N := 33) hx hb hts in_RX7 hown hE.1 hP _ f_mod rfl 19 (by decide) (hts (.fieldLink RX7 54 "BasketryOfficeModel" "relative" "[D") (by decide +kernel)) (fun _ h9 => h9) rfl dX7_bounce_53 ?_
    refine lv_bipush (v := nI 12) hx hb dX7_bounce_56 (by decide) ?_
    refine lv_iload_n hx hb dX7_bounce_58 rfl (lv_at hl 2 rfl) ?_
    refine g_imul hx hb dX7_bounce_59 (pk_mul _ _) ?_
    refine lv_iload_n hx hb dX7_bounce_60 rfl (lv_at hl 1 rfl) ?_
    refine g_iadd hx hb dX7_bounce_61 (nI_add _ _) ?_
    refine g_dald hx hb hE hP _ f_mre (by omega) (by decide) dX7_bounce_62 ?_
    refine lv_aload_n hx hb dX7_bounce_63 rfl (lv_at hl 0 rfl) ?_
    refine lv_iload_n hx hb dX7_bounce_64 rfl (lv_at hl 2 rfl) ?_
    refine lv_iload_n hx hb dX7_bounce_65 rfl (lv_at hl 1 rfl) ?_
    refine lv_iconst (v := nI 0) hx hb dX7_bounce_66 (by decide) ?_
    refine lv_iconst (v := nI 1) hx hb dX7_bounce_67 (by decide) ?_
    have f_mce := g_ne (x := (a_mod, .inr (8, [.int (nI (0)), .int (nI (n)), x_mod_2, .ref a_mme, x_mod_4, .int (nI (nw)), x_mod_6, x_mod_7, .ref a_mce, .ref a_mgm, .ref a_mfx, x_mod_11, .ref a_mlc, .ref a_mlg, x_mod_14, x_mod_15, x_mod_16, .ref a_mpr, .ref a_mim, .ref a_mre, x_mod_20, x_mod_21, x_mod_22, x_mod_23, x_mod_24, x_mod_25, x_mod_26, x_mod_27, x_mod_28, x_mod_29, x_mod_30, x_mod_31, x_mod_32]))) (g_kne f0_mod f0_mce (Nat.ne_of_beq_eq_false rfl)) (f0_mce)
    have f_mgm := g_ne (x := (a_mod, .inr (8, [.int (nI (0)), .int (nI (n)), x_mod_2, .ref a_mme, x_mod_4, .int (nI (nw)), x_mod_6, x_mod_7, .ref a_mce, .ref a_mgm, .ref a_mfx, x_mod_11, .ref a_mlc, .ref a_mlg, x_mod_14, x_mod_15, x_mod_16, .ref a_mpr, .ref a_mim, .ref a_mre, x_mod_20, x_mod_21, x_mod_22, x_mod_23, x_mod_24, x_mod_25, x_mod_26, x_mod_27, x_mod_28, x_mod_29, x_mod_30, x_mod_31, x_mod_32]))) (g_kne f0_mod f0_mgm (Nat.ne_of_beq_eq_false rfl)) (f0_mgm)
    have f_mfx := g_ne (x := (a_mod, .inr (8, [.int (nI (0)), .int (nI (n)), x_mod_2, .ref a_mme, x_mod_4, .int (nI (nw)), x_mod_6, x_mod_7, .ref a_mce, .ref a_mgm, .ref a_mfx, x_mod_11, .ref a_mlc, .ref a_mlg, x_mod_14, x_mod_15, x_mod_16, .ref a_mpr, .ref a_mim, .ref a_mre, x_mod_20, x_mod_21, x_mod_22, x_mod_23, x_mod_24, x_mod_25, x_mod_26, x_mod_27, x_mod_28, x_mod_29, x_mod_30, x_mod_31, x_mod_32]))) (g_kne f0_mod f0_mfx (Nat.ne_of_beq_eq_false rfl)) (f0_mfx)
    have f_mlc := g_ne (x := (a_mod, .inr (8, [.int (nI (0)), .int (nI (n)), x_mod_2, .ref a_mme, x_mod_4, .int (nI (nw)), x_mod_6, x_mod_7, .ref a_mce, .ref a_mgm, .ref a_mfx, x_mod_11, .ref a_mlc, .ref a_mlg, x_mod_14, x_mod_15, x_mod_16, .ref a_mpr, .ref a_mim, .ref a_mre, x_mod_20, x_mod_21, x_mod_22, x_mod_23, x_mod_24, x_mod_25, x_mod_26, x_mod_27, x_mod_28, x_mod_29, x_mod_30, x_mod_31, x_mod_32]))) (g_kne f0_mod f0_mlc (Nat.ne_of_beq_eq_false rfl)) (f0_mlc)
    have f_mlg := g_ne (x := (a_mod, .inr (8, [.int (nI (0)), .int (nI (n)), x_mod_2, .ref a_mme, x_mod_4, .int (nI (nw)), x_mod_6, x_mod_7, .ref a_mce, .ref a_mgm, .ref a_mfx, x_mod_11, .ref a_mlc, .ref a_mlg, x_mod_14, x_mod_15, x_mod_16, .ref a_mpr, .ref a_mim, .ref a_mre, x_mod_20, x_mod_21, x_mod_22, x_mod_23, x_mod_24, x_mod_25, x_mod_26, x_mod_27, x_mod_28, x_mod_29, x_mod_30, x_mod_31, x_mod_32]))) (g_kne f0_mod f0_mlg (Nat.ne_of_beq_eq_false rfl)) (f0_mlg)
    have f_mpr := g_ne (x := (a_mod, .inr (8, [.int (nI (0)), .int (nI (n)), x_mod_2, .ref a_mme, x_mod_4, .int (nI (nw)), x_mod_6, x_mod_7, .ref a_mce, .ref a_mgm, .ref a_mfx, x_mod_11, .ref a_mlc, .ref a_mlg, x_mod_14, x_mod_15, x_mod_16, .ref a_mpr, .ref a_mim, .ref a_mre, x_mod_20, x_mod_21, x_mod_22, x_mod_23, x_mod_24, x_mod_25, x_mod_26, x_mod_27, x_mod_28, x_mod_29, x_mod_30, x_mod_31, x_mod_32]))) (g_kne f0_mod f0_mpr (Nat.ne_of_beq_eq_false rfl)) (f0_mpr)
    have f_mim := g_ne (x := (a_mod, .inr (8, [.int (nI (0)), .int (nI (n)), x_mod_2, .ref a_mme, x_mod_4, .int (nI (nw)), x_mod_6, x_mod_7, .ref a_mce, .ref a_mgm, .ref a_mfx, x_mod_11, .ref a_mlc, .ref a_mlg, x_mod_14, x_mod_15, x_mod_16, .ref a_mpr, .ref a_mim, .ref a_mre, x_mod_20, x_mod_21, x_mod_22, x_mod_23, x_mod_24, x_mod_25, x_mod_26, x_mod_27, x_mod_28, x_mod_29, x_mod_30, x_mod_31, x_mod_32]))) (g_kne f0_mod f0_mim (Nat.ne_of_beq_eq_false rfl)) (f0_mim)
    have f_mme := g_ne (x := (a_mod, .inr (8, [.int (nI (0)), .int (nI (n)), x_mod_2, .ref a_mme, x_mod_4, .int (nI (nw)), x_mod_6, x_mod_7, .ref a_mce, .ref a_mgm, .ref a_mfx, x_mod_11, .ref a_mlc, .ref a_mlg, x_mod_14, x_mod_15, x_mod_16, .ref a_mpr, .ref a_mim, .ref a_mre, x_mod_20, x_mod_21, x_mod_22, x_mod_23, x_mod_24, x_mod_25, x_mod_26, x_mod_27, x_mod_28, x_mod_29, x_mod_30, x_mod_31, x_mod_32]))) (g_kne f0_mod f0_mme (Nat.ne_of_beq_eq_false rfl)) (f0_mme)
    refine gc_V_d (As := [.int (nI (t)), .int (nI (i)), .int (nI (0)), .int (gb (true))]) (rest := [.double (mre ((12 * t) + i))]) (c_X7_meanOf_t l f_mod f_mce f_mgm f_mfx f_mlc f_mlg f_mpr f_mim f_mme b_mce b_mgm b_mfx b_mlc b_mlg b_mme (by omega) (by omega) (by decide) hgm hlg hm) ⟨hx, hb, hml, hown, hts⟩ (cwV 4 hts gX7_bounce_X7_meanOf rfl rfl rfl (by decide +kernel) ⟨Nat.le_of_ble_eq_true rfl, Nat.le_of_ble_eq_true rfl⟩) hE hP hD hS hA _ f_mod rfl rfl rfl rfl hl.1 (Nat.le_of_ble_eq_true rfl) dX7_bounce_68 ⟨Nat.le_of_ble_eq_true rfl, Nat.le_of_ble_eq_true rfl⟩ (fun r_68 u_68 H locs hP hD hS q_68 => ?_)
    subst q_68
    refine lv_dmul hx hb dX7_bounce_71 hnn ?_
    refine g_dret hx hb hr hlocks () dX7_bounce_72 hS hP hD ?_
    rw [if_neg c_44]
  · refine g_dconst0 hx hb dX7_bounce_48 ?_
    refine lv_goto (tgt := 72) hx hb dX7_bounce_49 (by decide) ?_
    refine g_dret hx hb hr hlocks () dX7_bounce_72 hS hP hD ?_
    rw [if_pos c_44]

theorem in_x0_X7_share_RX7 : ∀ w ∈ wsX70, w ∈ wsX7_share := by decide +kernel
set_option maxHeartbeats 4000000 in
set_option maxRecDepth 100000 in
theorem x0_X7_share (l : Launch) {D : va_G} {y : Nat → Nat} {ws : va_W} {x_mod_2 : Value} {x_mod_3 : Value} {x_mod_4 : Value} {x_mod_6 : Value} {x_mod_7 : Value} {x_mod_8 : Value} {x_mod_9 : Value} {x_mod_10 : Value} {x_mod_11 : Value} {x_mod_12 : Value} {x_mod_13 : Value} {x_mod_14 : Value} {x_mod_15 : Value} {x_mod_16 : Value} {x_mod_17 : Value} {x_mod_18 : Value} {x_mod_19 : Value} {x_mod_20 : Value} {x_mod_21 : Value} {x_mod_22 : Value} {x_mod_23 : Value} {x_mod_24 : Value} {x_mod_25 : Value} {x_mod_26 : Value} {x_mod_27 : Value} {x_mod_28 : Value} {x_mod_29 : Value} {x_mod_30 : Value} {x_mod_31 : Value} {x_mod_32 : Value} {p_mod a_mod : Nat} {kd g t : Int32} {nw n th : Nat} (f0_mod : ws[p_mod]? = some (a_mod, .inr (8, [.int (nI (th)), .int (nI (n)), x_mod_2, x_mod_3, x_mod_4, .int (nI (nw)), x_mod_6, x_mod_7, x_mod_8, x_mod_9, x_mod_10, x_mod_11, x_mod_12, x_mod_13, x_mod_14, x_mod_15, x_mod_16, x_mod_17, x_mod_18, x_mod_19, x_mod_20, x_mod_21, x_mod_22, x_mod_23, x_mod_24, x_mod_25, x_mod_26, x_mod_27, x_mod_28, x_mod_29, x_mod_30, x_mod_31, x_mod_32]))) (hw : nw ≤ 24) (hn : n ≤ 12)  (hbad : kd < 0 ∨ nI 5 ≤ kd) : gMd l yX7_share wsX7_share ({ frames := 2, cells := 0, slots := 0, locals := 42 }) D y [.ref a_mod, .int (kd), .int (g), .int (t)] ws (fun r (_ : Unit) => r = 0) (fun (_ : Unit) => (ws.set p_mod (a_mod, .inr (8, [.int (nI (1)), .int (nI (n)), x_mod_2, x_mod_3, x_mod_4, .int (nI (nw)), x_mod_6, x_mod_7, x_mod_8, x_mod_9, x_mod_10, x_mod_11, x_mod_12, x_mod_13, x_mod_14, x_mod_15, x_mod_16, x_mod_17, x_mod_18, x_mod_19, x_mod_20, x_mod_21, x_mod_22, x_mod_23, x_mod_24, x_mod_25, x_mod_26, x_mod_27, x_mod_28, x_mod_29, x_mod_30, x_mod_31, x_mod_32])))) := by
  refine g_met_d (cc := cX7_share) (maxL := 4) (by decide) rfl (Nat.le_of_ble_eq_true rfl) ?_
  intro p e s m below meth c A hx hb hml hr hts hown hnm hlocks hE hP hD hS hA ls hl
  have hown : s.vm.findClass RX7 = some m.cls := hown
  have hl : lv_has ls 4 [(0, .ref a_mod), (1, .int (kd)), (2, .int (g)), (3, .int (t))] := hl
  have in_RX7 := in_x0_X7_share_RX7
  refine lv_aload_n hx hb dX7_share_0 rfl (lv_at hl 0 rfl) ?_
  refine lv_iload_n hx hb dX7_share_1 rfl (lv_at hl 1 rfl) ?_
  refine gc_S_i (As := [.int (kd)]) (rest := [.ref a_mod]) (c_X7_isKind l) ⟨hx, hb, hml, hown, hts⟩ (va_cwS 1 hts gX7_share_X7_isKind rfl rfl rfl (by decide +kernel) ⟨Nat.le_of_ble_eq_true rfl, Nat.le_of_ble_eq_true rfl⟩) hE hP hD hS hA rfl rfl hl.1 (Nat.le_of_ble_eq_true rfl) dX7_share_2 ⟨Nat.le_of_ble_eq_true rfl, Nat.le_of_ble_eq_true rfl⟩ (fun r_2 u_2 H locs hP hD hS q_2 => ?_)
  subst q_2
  refine g_bif_eq (tgt := 27) hx hb dX7_share_5 (by decide) (fun c_5 => ?_) (fun c_5 => absurd c_5 (by rw [decide_eq_false (fun z => z hbad)]; decide))
  refine lv_iconst (v := nI 1) hx hb dX7_share_27 (by decide) ?_
  refine va_put (D := D) (ci := 8) (v := .int (nI (1))) (ty := .int) (C := RX7) (T := TX7) (N := 33) hx hb hts in_RX7 tyX7 tyX7_ok nmX7 hown hE.1 hP hD hS _ f0_mod rfl 0 (by decide) (hts (.fieldLink RX7 94 "BasketryOfficeModel" "thrown" "I") (by decide +kernel)) (fun _ h9 => h9) rfl (by decide +kernel) rfl rfl (Nat.le_of_ble_eq_true rfl) dX7_share_28 (fun H locs hP hD hS => ?_)
  refine lv_aload_n hx hb dX7_share_31 rfl (lv_at hl 0 rfl) ?_
  have f_mod := g_eq (x := (a_mod, .inr (8, [.int (nI (1)), .int (nI (n)), x_mod_2, x_mod_3, x_mod_4, .int (nI (nw)), x_mod_6, x_mod_7, x_mod_8, x_mod_9, x_mod_10, x_mod_11, x_mod_12, x_mod_13, x_mod_14, x_mod_15, x_mod_16, x_mod_17, x_mod_18, x_mod_19, x_mod_20, x_mod_21, x_mod_22, x_mod_23, x_mod_24, x_mod_25, x_mod_26, x_mod_27, x_mod_28, x_mod_29, x_mod_30, x_mod_31, x_mod_32]))) (f0_mod)
  refine va_get (D := D) (ci := 8) (v := .int (nI (1))) (C := RX7) (T := TX7) (N := 33) hx hb hts in_RX7 hown hE.1 hP _ f_mod rfl 0 (by decide) (hts (.fieldLink RX7 94 "BasketryOfficeModel" "thrown" "I") (by decide +kernel)) (fun _ h9 => h9) rfl dX7_share_32 ?_
  refine g_if_le (tgt := 42) hx hb (by omega) dX7_share_35 (by decide) (fun c_35 => absurd c_35 (by omega)) (fun c_35 => ?_)
  refine g_dconst0 hx hb dX7_share_38 ?_
  refine lv_goto (tgt := 49) hx hb dX7_share_39 (by decide) ?_
  refine g_dret hx hb hr hlocks () dX7_share_49 hS hP hD ?_
  exact rfl

theorem in_x1_X7_share_RX7 : ∀ w ∈ wsX70, w ∈ wsX7_share := by decide +kernel
set_option maxHeartbeats 4000000 in
set_option maxRecDepth 100000 in
theorem x1_X7_share (l : Launch) {D : va_G} {y : Nat → Nat} {ws : va_W} {x_mod_2 : Value} {x_mod_3 : Value} {x_mod_4 : Value} {x_mod_6 : Value} {x_mod_7 : Value} {x_mod_8 : Value} {x_mod_9 : Value} {x_mod_10 : Value} {x_mod_11 : Value} {x_mod_12 : Value} {x_mod_13 : Value} {x_mod_14 : Value} {x_mod_15 : Value} {x_mod_16 : Value} {x_mod_17 : Value} {x_mod_18 : Value} {x_mod_19 : Value} {x_mod_20 : Value} {x_mod_21 : Value} {x_mod_22 : Value} {x_mod_23 : Value} {x_mod_24 : Value} {x_mod_25 : Value} {x_mod_26 : Value} {x_mod_27 : Value} {x_mod_28 : Value} {x_mod_29 : Value} {x_mod_30 : Value} {x_mod_31 : Value} {x_mod_32 : Value} {p_mod a_mod : Nat} {kd : Nat} {g t : Int32} {nw n th : Nat} (f0_mod : ws[p_mod]? = some (a_mod, .inr (8, [.int (nI (th)), .int (nI (n)), x_mod_2, x_mod_3, x_mod_4, .int (nI (nw)), x_mod_6, x_mod_7, x_mod_8, x_mod_9, x_mod_10, x_mod_11, x_mod_12, x_mod_13, x_mod_14, x_mod_15, x_mod_16, x_mod_17, x_mod_18, x_mod_19, x_mod_20, x_mod_21, x_mod_22, x_mod_23, x_mod_24, x_mod_25, x_mod_26, x_mod_27, x_mod_28, x_mod_29, x_mod_30, x_mod_31, x_mod_32]))) (hw : nw ≤ 24) (hn : n ≤ 12) (hkd : kd < 5) (hbad : g < 0 ∨ nI 4 ≤ g) : gMd l yX7_share wsX7_share ({ frames := 2, cells := 0, slots := 0, locals := 42 }) D y [.ref a_mod, .int (nI (kd)), .int (g), .int (t)] ws (fun r (_ : Unit) => r = 0) (fun (_ : Unit) => (ws.set p_mod (a_mod, .inr (8, [.int (nI (1)), .int (nI (n)), x_mod_2, x_mod_3, x_mod_4, .int (nI (nw)), x_mod_6, x_mod_7, x_mod_8, x_mod_9, x_mod_10, x_mod_11, x_mod_12, x_mod_13, x_mod_14, x_mod_15, x_mod_16, x_mod_17, x_mod_18, x_mod_19, x_mod_20, x_mod_21, x_mod_22, x_mod_23, x_mod_24, x_mod_25, x_mod_26, x_mod_27, x_mod_28, x_mod_29, x_mod_30, x_mod_31, x_mod_32])))) := by
  refine g_met_d (cc := cX7_share) (maxL := 4) (by decide) rfl (Nat.le_of_ble_eq_true rfl) ?_
  intro p e s m below meth c A hx hb hml hr hts hown hnm hlocks hE hP hD hS hA ls hl
  have hown : s.vm.findClass RX7 = some m.cls := hown
  have hl : lv_has ls 4 [(0, .ref a_mod), (1, .int (nI (kd))), (2, .int (g)), (3, .int (t))] := hl
  have in_RX7 := in_x1_X7_share_RX7
  refine lv_aload_n hx hb dX7_share_0 rfl (lv_at hl 0 rfl) ?_
  refine lv_iload_n hx hb dX7_share_1 rfl (lv_at hl 1 rfl) ?_
  refine gc_S_i (As := [.int (nI (kd))]) (rest := [.ref a_mod]) (c_X7_isKind l) ⟨hx, hb, hml, hown, hts⟩ (va_cwS 1 hts gX7_share_X7_isKind rfl rfl rfl (by decide +kernel) ⟨Nat.le_of_ble_eq_true rfl, Nat.le_of_ble_eq_true rfl⟩) hE hP hD hS hA rfl rfl hl.1 (Nat.le_of_ble_eq_true rfl) dX7_share_2 ⟨Nat.le_of_ble_eq_true rfl, Nat.le_of_ble_eq_true rfl⟩ (fun r_2 u_2 H locs hP hD hS q_2 => ?_)
  subst q_2
  refine g_bif_eq (tgt := 27) hx hb dX7_share_5 (by decide) (fun c_5 => absurd c_5 (by rw [decide_eq_true (rq_lt hkd (by omega))]; decide)) (fun c_5 => ?_)
  refine lv_iload_n hx hb dX7_share_8 rfl (lv_at hl 2 rfl) ?_
  refine gc_S_i (As := [.int (g)]) (rest := [.ref a_mod]) (c_X7_isGroup l) ⟨hx, hb, hml, hown, hts⟩ (va_cwS 1 hts gX7_share_X7_isGroup rfl rfl rfl (by decide +kernel) ⟨Nat.le_of_ble_eq_true rfl, Nat.le_of_ble_eq_true rfl⟩) hE hP hD hS hA rfl rfl hl.1 (Nat.le_of_ble_eq_true rfl) dX7_share_9 ⟨Nat.le_of_ble_eq_true rfl, Nat.le_of_ble_eq_true rfl⟩ (fun r_9 u_9 H locs hP hD hS q_9 => ?_)
  subst q_9
  refine g_bif_eq (tgt := 27) hx hb dX7_share_12 (by decide) (fun c_12 => ?_) (fun c_12 => absurd c_12 (by rw [decide_eq_false (fun z => z hbad)]; decide))
  refine lv_iconst (v := nI 1) hx hb dX7_share_27 (by decide) ?_
  refine va_put (D := D) (ci := 8) (v := .int (nI (1))) (ty := .int) (C := RX7) (T := TX7) (N := 33) hx hb hts in_RX7 tyX7 tyX7_ok nmX7 hown hE.1 hP hD hS _ f0_mod rfl 0 (by decide) (hts (.fieldLink RX7 94 "BasketryOfficeModel" "thrown" "I") (by decide +kernel)) (fun _ h9 => h9) rfl (by decide +kernel) rfl rfl (Nat.le_of_ble_eq_true rfl) dX7_share_28 (fun H locs hP hD hS => ?_)
  refine lv_aload_n hx hb dX7_share_31 rfl (lv_at hl 0 rfl) ?_
  have f_mod := g_eq (x := (a_mod, .inr (8, [.int (nI (1)), .int (nI (n)), x_mod_2, x_mod_3, x_mod_4, .int (nI (nw)), x_mod_6, x_mod_7, x_mod_8, x_mod_9, x_mod_10, x_mod_11, x_mod_12, x_mod_13, x_mod_14, x_mod_15, x_mod_16, x_mod_17, x_mod_18, x_mod_19, x_mod_20, x_mod_21, x_mod_22, x_mod_23, x_mod_24, x_mod_25, x_mod_26, x_mod_27, x_mod_28, x_mod_29, x_mod_30, x_mod_31, x_mod_32]))) (f0_mod)
  refine va_get (D := D) (ci := 8) (v := .int (nI (1))) (C := RX7) (T := TX7) (N := 33) hx hb hts in_RX7 hown hE.1 hP _ f_mod rfl 0 (by decide) (hts (.fieldLink RX7 94 "BasketryOfficeModel" "thrown" "I") (by decide +kernel)) (fun _ h9 => h9) rfl dX7_share_32 ?_
  refine g_if_le (tgt := 42) hx hb (by omega) dX7_share_35 (by decide) (fun c_35 => absurd c_35 (by omega)) (fun c_35 => ?_)
  refine g_dconst0 hx hb dX7_share_38 ?_
  refine lv_goto (tgt := 49) hx hb dX7_share_39 (by decide) ?_
  refine g_dret hx hb hr hlocks () dX7_share_49 hS hP hD ?_
  exact rfl

theorem in_x2_X7_share_RX7 : ∀ w ∈ wsX70, w ∈ wsX7_share := by decide +kernel
set_option maxHeartbeats 4000000 in
set_option maxRecDepth 100000 in
theorem x2_X7_share (l : Launch) {D : va_G} {y : Nat → Nat} {ws : va_W} {x_mod_2 : Value} {x_mod_3 : Value} {x_mod_4 : Value} {x_mod_6 : Value} {x_mod_7 : Value} {x_mod_8 : Value} {x_mod_9 : Value} {x_mod_10 : Value} {x_mod_11 : Value} {x_mod_12 : Value} {x_mod_13 : Value} {x_mod_14 : Value} {x_mod_15 : Value} {x_mod_16 : Value} {x_mod_17 : Value} {x_mod_18 : Value} {x_mod_19 : Value} {x_mod_20 : Value} {x_mod_21 : Value} {x_mod_22 : Value} {x_mod_23 : Value} {x_mod_24 : Value} {x_mod_25 : Value} {x_mod_26 : Value} {x_mod_27 : Value} {x_mod_28 : Value} {x_mod_29 : Value} {x_mod_30 : Value} {x_mod_31 : Value} {x_mod_32 : Value} {p_mod a_mod : Nat} {kd g : Nat} {t : Int32} {nw n th : Nat} (f0_mod : ws[p_mod]? = some (a_mod, .inr (8, [.int (nI (th)), .int (nI (n)), x_mod_2, x_mod_3, x_mod_4, .int (nI (nw)), x_mod_6, x_mod_7, x_mod_8, x_mod_9, x_mod_10, x_mod_11, x_mod_12, x_mod_13, x_mod_14, x_mod_15, x_mod_16, x_mod_17, x_mod_18, x_mod_19, x_mod_20, x_mod_21, x_mod_22, x_mod_23, x_mod_24, x_mod_25, x_mod_26, x_mod_27, x_mod_28, x_mod_29, x_mod_30, x_mod_31, x_mod_32]))) (hw : nw ≤ 24) (hn : n ≤ 12) (hkd : kd < 5) (hg : g < 4) (hbad : t < 0 ∨ nI nw ≤ t) : gMd l yX7_share wsX7_share ({ frames := 2, cells := 0, slots := 0, locals := 43 }) D y [.ref a_mod, .int (nI (kd)), .int (nI (g)), .int (t)] ws (fun r (_ : Unit) => r = 0) (fun (_ : Unit) => (ws.set p_mod (a_mod, .inr (8, [.int (nI (1)), .int (nI (n)), x_mod_2, x_mod_3, x_mod_4, .int (nI (nw)), x_mod_6, x_mod_7, x_mod_8, x_mod_9, x_mod_10, x_mod_11, x_mod_12, x_mod_13, x_mod_14, x_mod_15, x_mod_16, x_mod_17, x_mod_18, x_mod_19, x_mod_20, x_mod_21, x_mod_22, x_mod_23, x_mod_24, x_mod_25, x_mod_26, x_mod_27, x_mod_28, x_mod_29, x_mod_30, x_mod_31, x_mod_32])))) := by
  refine g_met_d (cc := cX7_share) (maxL := 4) (by decide) rfl (Nat.le_of_ble_eq_true rfl) ?_
  intro p e s m below meth c A hx hb hml hr hts hown hnm hlocks hE hP hD hS hA ls hl
  have hown : s.vm.findClass RX7 = some m.cls := hown
  have hl : lv_has ls 4 [(0, .ref a_mod), (1, .int (nI (kd))), (2, .int (nI (g))), (3, .int (t))] := hl
  have in_RX7 := in_x2_X7_share_RX7
  refine lv_aload_n hx hb dX7_share_0 rfl (lv_at hl 0 rfl) ?_
  refine lv_iload_n hx hb dX7_share_1 rfl (lv_at hl 1 rfl) ?_
  refine gc_S_i (As := [.int (nI (kd))]) (rest := [.ref a_mod]) (c_X7_isKind l) ⟨hx, hb, hml, hown, hts⟩ (va_cwS 1 hts gX7_share_X7_isKind rfl rfl rfl (by decide +kernel) ⟨Nat.le_of_ble_eq_true rfl, Nat.le_of_ble_eq_true rfl⟩) hE hP hD hS hA rfl rfl hl.1 (Nat.le_of_ble_eq_true rfl) dX7_share_2 ⟨Nat.le_of_ble_eq_true rfl, Nat.le_of_ble_eq_true rfl⟩ (fun r_2 u_2 H locs hP hD hS q_2 => ?_)
  subst q_2
  refine g_bif_eq (tgt := 27) hx hb dX7_share_5 (by decide) (fun c_5 => absurd c_5 (by rw [decide_eq_true (rq_lt hkd (by omega))]; decide)) (fun c_5 => ?_)
  refine lv_iload_n hx hb dX7_share_8 rfl (lv_at hl 2 rfl) ?_
  refine gc_S_i (As := [.int (nI (g))]) (rest := [.ref a_mod]) (c_X7_isGroup l) ⟨hx, hb, hml, hown, hts⟩ (va_cwS 1 hts gX7_share_X7_isGroup rfl rfl rfl (by decide +kernel) ⟨Nat.le_of_ble_eq_true rfl, Nat.le_of_ble_eq_true rfl⟩) hE hP hD hS hA rfl rfl hl.1 (Nat.le_of_ble_eq_true rfl) dX7_share_9 ⟨Nat.le_of_ble_eq_true rfl, Nat.le_of_ble_eq_true rfl⟩ (fun r_9 u_9 H locs hP hD hS q_9 => ?_)
  subst q_9
  refine g_bif_eq (tgt := 27) hx hb dX7_share_12 (by decide) (fun c_12 => absurd c_12 (by rw [decide_eq_true (rq_lt hg (by omega))]; decide)) (fun c_12 => ?_)
  refine lv_aload_n hx hb dX7_share_15 rfl (lv_at hl 0 rfl) ?_
  refine lv_iload_n hx hb dX7_share_16 rfl (lv_at hl 3 rfl) ?_
  refine gc_V_i (As := [.int (t)]) (rest := [.ref a_mod]) (c_X7_isPublished l f0_mod (by omega)) ⟨hx, hb, hml, hown, hts⟩ (cwV 1 hts gX7_share_X7_isPublished rfl rfl rfl (by decide +kernel) ⟨Nat.le_of_ble_eq_true rfl, Nat.le_of_ble_eq_true rfl⟩) hE hP hD hS hA _ f0_mod rfl rfl rfl rfl hl.1 (Nat.le_of_ble_eq_true rfl) dX7_share_17 ⟨Nat.le_of_ble_eq_true rfl, Nat.le_of_ble_eq_true rfl⟩ (fun r_17 u_17 H locs hP hD hS q_17 => ?_)
  subst q_17
  refine g_bif_eq (tgt := 27) hx hb dX7_share_20 (by decide) (fun c_20 => ?_) (fun c_20 => absurd c_20 (by rw [decide_eq_false (fun z => z hbad)]; decide))
  refine lv_iconst (v := nI 1) hx hb dX7_share_27 (by decide) ?_
  refine va_put (D := D) (ci := 8) (v := .int (nI (1))) (ty := .int) (C := RX7) (T := TX7) (N := 33) hx hb hts in_RX7 tyX7 tyX7_ok nmX7 hown hE.1 hP hD hS _ f0_mod rfl 0 (by decide) (hts (.fieldLink RX7 94 "BasketryOfficeModel" "thrown" "I") (by decide +kernel)) (fun _ h9 => h9) rfl (by decide +kernel) rfl rfl (Nat.le_of_ble_eq_true rfl) dX7_share_28 (fun H locs hP hD hS => ?_)
  refine lv_aload_n hx hb dX7_share_31 rfl (lv_at hl 0 rfl) ?_
  have f_mod := g_eq (x := (a_mod, .inr (8, [.int (nI (1)), .int (nI (n)), x_mod_2, x_mod_3, x_mod_4, .int (nI (nw)), x_mod_6, x_mod_7, x_mod_8, x_mod_9, x_mod_10, x_mod_11, x_mod_12, x_mod_13, x_mod_14, x_mod_15, x_mod_16, x_mod_17, x_mod_18, x_mod_19, x_mod_20, x_mod_21, x_mod_22, x_mod_23, x_mod_24, x_mod_25, x_mod_26, x_mod_27, x_mod_28, x_mod_29, x_mod_30, x_mod_31, x_mod_32]))) (f0_mod)
  refine va_get (D := D) (ci := 8) (v := .int (nI (1))) (C := RX7) (T := TX7) (N := 33) hx hb hts in_RX7 hown hE.1 hP _ f_mod rfl 0 (by decide) (hts (.fieldLink RX7 94 "BasketryOfficeModel" "thrown" "I") (by decide +kernel)) (fun _ h9 => h9) rfl dX7_share_32 ?_
  refine g_if_le (tgt := 42) hx hb (by omega) dX7_share_35 (by decide) (fun c_35 => absurd c_35 (by omega)) (fun c_35 => ?_)
  refine g_dconst0 hx hb dX7_share_38 ?_
  refine lv_goto (tgt := 49) hx hb dX7_share_39 (by decide) ?_
  refine g_dret hx hb hr hlocks () dX7_share_49 hS hP hD ?_
  exact rfl

theorem in_c_X7_share_RX7 : ∀ w ∈ wsX70, w ∈ wsX7_share := by decide +kernel
set_option maxHeartbeats 4000000 in
set_option maxRecDepth 100000 in
theorem c_X7_share (l : Launch) {D : va_G} {y : Nat → Nat} {ws : va_W} {x_mod_2 : Value} {x_mod_3 : Value} {x_mod_4 : Value} {x_mod_6 : Value} {x_mod_7 : Value} {x_mod_8 : Value} {x_mod_9 : Value} {x_mod_10 : Value} {x_mod_11 : Value} {x_mod_12 : Value} {x_mod_13 : Value} {x_mod_14 : Value} {x_mod_15 : Value} {x_mod_17 : Value} {x_mod_18 : Value} {x_mod_19 : Value} {x_mod_20 : Value} {x_mod_21 : Value} {x_mod_22 : Value} {x_mod_23 : Value} {x_mod_24 : Value} {x_mod_25 : Value} {x_mod_26 : Value} {x_mod_27 : Value} {x_mod_28 : Value} {x_mod_29 : Value} {x_mod_30 : Value} {x_mod_31 : Value} {x_mod_32 : Value} {p_mod p_msp a_mod a_msp : Nat} {msp : Nat → Nat} {kd g t : Nat} {nw n th : Nat} (f0_mod : ws[p_mod]? = some (a_mod, .inr (8, [.int (nI (th)), .int (nI (n)), x_mod_2, x_mod_3, x_mod_4, .int (nI (nw)), x_mod_6, x_mod_7, x_mod_8, x_mod_9, x_mod_10, x_mod_11, x_mod_12, x_mod_13, x_mod_14, x_mod_15, .ref a_msp, x_mod_17, x_mod_18, x_mod_19, x_mod_20, x_mod_21, x_mod_22, x_mod_23, x_mod_24, x_mod_25, x_mod_26, x_mod_27, x_mod_28, x_mod_29, x_mod_30, x_mod_31, x_mod_32]))) (f0_msp : ws[p_msp]? = some (a_msp, eN y 288 msp)) (b_msp : ∀ k, msp k ≤ 1000000000) (hw : nw ≤ 24) (hn : n ≤ 12) (hkd : kd < 5) (hg : g < 4) (ht : t < nw) (hnn : nnShM (fun k => msp (12 * t + k)) g) : gMd l yX7_share wsX7_share ({ frames := 2, cells := 0, slots := 0, locals := 43 }) D y [.ref a_mod, .int (nI (kd)), .int (nI (g)), .int (nI (t))] ws (fun r (_ : Unit) => r = mShr (fun k => msp (12 * t + k)) kd g) (fun (_ : Unit) => (ws.set p_mod (a_mod, .inr (8, [.int (nI (0)), .int (nI (n)), x_mod_2, x_mod_3, x_mod_4, .int (nI (nw)), x_mod_6, x_mod_7, x_mod_8, x_mod_9, x_mod_10, x_mod_11, x_mod_12, x_mod_13, x_mod_14, x_mod_15, .ref a_msp, x_mod_17, x_mod_18, x_mod_19, x_mod_20, x_mod_21, x_mod_22, x_mod_23, x_mod_24, x_mod_25, x_mod_26, x_mod_27, x_mod_28, x_mod_29, x_mod_30, x_mod_31, x_mod_32])))) := by
  refine g_met_d (cc := cX7_share) (maxL := 4) (by decide) rfl (Nat.le_of_ble_eq_true rfl) ?_
  intro p e s m below meth c A hx hb hml hr hts hown hnm hlocks hE hP hD hS hA ls hl
  have hown : s.vm.findClass RX7 = some m.cls := hown
  have hl : lv_has ls 4 [(0, .ref a_mod), (1, .int (nI (kd))), (2, .int (nI (g))), (3, .int (nI (t)))] := hl
  have in_RX7 := in_c_X7_share_RX7
  refine lv_aload_n hx hb dX7_share_0 rfl (lv_at hl 0 rfl) ?_
  refine lv_iload_n hx hb dX7_share_1 rfl (lv_at hl 1 rfl) ?_
  refine gc_S_i (As := [.int (nI (kd))]) (rest := [.ref a_mod]) (c_X7_isKind l) ⟨hx, hb, hml, hown, hts⟩ (va_cwS 1 hts gX7_share_X7_isKind rfl rfl rfl (by decide +kernel) ⟨Nat.le_of_ble_eq_true rfl, Nat.le_of_ble_eq_true rfl⟩) hE hP hD hS hA rfl rfl hl.1 (Nat.le_of_ble_eq_true rfl) dX7_share_2 ⟨Nat.le_of_ble_eq_true rfl, Nat.le_of_ble_eq_true rfl⟩ (fun r_2 u_2 H locs hP hD hS q_2 => ?_)
  subst q_2
  refine g_bif_eq (tgt := 27) hx hb dX7_share_5 (by decide) (fun c_5 => absurd c_5 (by rw [decide_eq_true (rq_lt hkd (by omega))]; decide)) (fun c_5 => ?_)
  refine lv_iload_n hx hb dX7_share_8 rfl (lv_at hl 2 rfl) ?_
  refine gc_S_i (As := [.int (nI (g))]) (rest := [.ref a_mod]) (c_X7_isGroup l) ⟨hx, hb, hml, hown, hts⟩ (va_cwS 1 hts gX7_share_X7_isGroup rfl rfl rfl (by decide +kernel) ⟨Nat.le_of_ble_eq_true rfl, Nat.le_of_ble_eq_true rfl⟩) hE hP hD hS hA rfl rfl hl.1 (Nat.le_of_ble_eq_true rfl) dX7_share_9 ⟨Nat.le_of_ble_eq_true rfl, Nat.le_of_ble_eq_true rfl⟩ (fun r_9 u_9 H locs hP hD hS q_9 => ?_)
  subst q_9
  refine g_bif_eq (tgt := 27) hx hb dX7_share_12 (by decide) (fun c_12 => absurd c_12 (by rw [decide_eq_true (rq_lt hg (by omega))]; decide)) (fun c_12 => ?_)
  refine lv_aload_n hx hb dX7_share_15 rfl (lv_at hl 0 rfl) ?_
  refine lv_iload_n hx hb dX7_share_16 rfl (lv_at hl 3 rfl) ?_
  refine gc_V_i (As := [.int (nI (t))]) (rest := [.ref a_mod]) (c_X7_isPublished l f0_mod (by omega)) ⟨hx, hb, hml, hown, hts⟩ (cwV 1 hts gX7_share_X7_isPublished rfl rfl rfl (by decide +kernel) ⟨Nat.le_of_ble_eq_true rfl, Nat.le_of_ble_eq_true rfl⟩) hE hP hD hS hA _ f0_mod rfl rfl rfl rfl hl.1 (Nat.le_of_ble_eq_true rfl) dX7_share_17 ⟨Nat.le_of_ble_eq_true rfl, Nat.le_of_ble_eq_true rfl⟩ (fun r_17 u_17 H locs hP hD hS q_17 => ?_)
  subst q_17
  refine g_bif_eq (tgt := 27) hx hb dX7_share_20 (by decide) (fun c_20 => absurd c_20 (by rw [decide_eq_true (rq_lt ht (by omega))]; decide)) (fun c_20 => ?_)
  refine lv_iconst (v := nI 0) hx hb dX7_share_23 (by decide) ?_
  refine lv_goto (tgt := 28) hx hb dX7_share_24 (by decide) ?_
  refine va_put (D := D) (ci := 8) (v := .int (nI (0))) (ty := .int) (C := RX7) (T := TX7) (N := 33) hx hb hts in_RX7 tyX7 tyX7_ok nmX7 hown hE.1 hP hD hS _ f0_mod rfl 0 (by decide) (hts (.fieldLink RX7 94 "BasketryOfficeModel" "thrown" "I") (by decide +kernel)) (fun _ h9 => h9) rfl (by decide +kernel) rfl rfl (Nat.le_of_ble_eq_true rfl) dX7_share_28 (fun H locs hP hD hS => ?_)
  refine lv_aload_n hx hb dX7_share_31 rfl (lv_at hl 0 rfl) ?_
  have f_mod := g_eq (x := (a_mod, .inr (8, [.int (nI (0)), .int (nI (n)), x_mod_2, x_mod_3, x_mod_4, .int (nI (nw)), x_mod_6, x_mod_7, x_mod_8, x_mod_9, x_mod_10, x_mod_11, x_mod_12, x_mod_13, x_mod_14, x_mod_15, .ref a_msp, x_mod_17, x_mod_18, x_mod_19, x_mod_20, x_mod_21, x_mod_22, x_mod_23, x_mod_24, x_mod_25, x_mod_26, x_mod_27, x_mod_28, x_mod_29, x_mod_30, x_mod_31, x_mod_32]))) (f0_mod)
  refine va_get (D := D) (ci := 8) (v := .int (nI (0))) (C := RX7) (T := TX7) (N := 33) hx hb hts in_RX7 hown hE.1 hP _ f_mod rfl 0 (by decide) (hts (.fieldLink RX7 94 "BasketryOfficeModel" "thrown" "I") (by decide +kernel)) (fun _ h9 => h9) rfl dX7_share_32 ?_
  refine g_if_le (tgt := 42) hx hb (by omega) dX7_share_35 (by decide) (fun c_35 => ?_) (fun c_35 => absurd c_35 (by omega))
  refine lv_aload_n hx hb dX7_share_42 rfl (lv_at hl 0 rfl) ?_
  refine lv_iload_n hx hb dX7_share_43 rfl (lv_at hl 1 rfl) ?_
  refine lv_iload_n hx hb dX7_share_44 rfl (lv_at hl 2 rfl) ?_
  refine lv_iload_n hx hb dX7_share_45 rfl (lv_at hl 3 rfl) ?_
  have f_msp := g_ne (x := (a_mod, .inr (8, [.int (nI (0)), .int (nI (n)), x_mod_2, x_mod_3, x_mod_4, .int (nI (nw)), x_mod_6, x_mod_7, x_mod_8, x_mod_9, x_mod_10, x_mod_11, x_mod_12, x_mod_13, x_mod_14, x_mod_15, .ref a_msp, x_mod_17, x_mod_18, x_mod_19, x_mod_20, x_mod_21, x_mod_22, x_mod_23, x_mod_24, x_mod_25, x_mod_26, x_mod_27, x_mod_28, x_mod_29, x_mod_30, x_mod_31, x_mod_32]))) (g_kne f0_mod f0_msp (Nat.ne_of_beq_eq_false rfl)) (f0_msp)
  refine gc_V_d (As := [.int (nI (kd)), .int (nI (g)), .int (nI (t))]) (rest := []) (c_X7_shareOf l f_mod f_msp b_msp hkd hg (by omega) hnn) ⟨hx, hb, hml, hown, hts⟩ (cwV 3 hts gX7_share_X7_shareOf rfl rfl rfl (by decide +kernel) ⟨Nat.le_of_ble_eq_true rfl, Nat.le_of_ble_eq_true rfl⟩) hE hP hD hS hA _ f_mod rfl rfl rfl rfl hl.1 (Nat.le_of_ble_eq_true rfl) dX7_share_46 ⟨Nat.le_of_ble_eq_true rfl, Nat.le_of_ble_eq_true rfl⟩ (fun r_46 u_46 H locs hP hD hS q_46 => ?_)
  subst q_46
  refine g_dret hx hb hr hlocks () dX7_share_49 hS hP hD ?_
  exact rfl

set_option maxHeartbeats 4000000 in
set_option maxRecDepth 100000 in
theorem x0_X7_indexAnew (l : Launch) {D : va_G} {y : Nat → Nat} {ws : va_W} {x_mod_2 : Value} {x_mod_3 : Value} {x_mod_4 : Value} {x_mod_6 : Value} {x_mod_7 : Value} {x_mod_8 : Value} {x_mod_9 : Value} {x_mod_10 : Value} {x_mod_11 : Value} {x_mod_12 : Value} {x_mod_13 : Value} {x_mod_14 : Value} {x_mod_15 : Value} {x_mod_16 : Value} {x_mod_17 : Value} {x_mod_18 : Value} {x_mod_19 : Value} {x_mod_20 : Value} {x_mod_21 : Value} {x_mod_22 : Value} {x_mod_23 : Value} {x_mod_24 : Value} {x_mod_25 : Value} {x_mod_26 : Value} {x_mod_27 : Value} {x_mod_28 : Value} {x_mod_29 : Value} {x_mod_30 : Value} {x_mod_31 : Value} {x_mod_32 : Value} {p_mod a_mod : Nat} {kd t : Int32} {nw n th : Nat} (f0_mod : ws[p_mod]? = some (a_mod, .inr (8, [.int (nI (th)), .int (nI (n)), x_mod_2, x_mod_3, x_mod_4, .int (nI (nw)), x_mod_6, x_mod_7, x_mod_8, x_mod_9, x_mod_10, x_mod_11, x_mod_12, x_mod_13, x_mod_14, x_mod_15, x_mod_16, x_mod_17, x_mod_18, x_mod_19, x_mod_20, x_mod_21, x_mod_22, x_mod_23, x_mod_24, x_mod_25, x_mod_26, x_mod_27, x_mod_28, x_mod_29, x_mod_30, x_mod_31, x_mod_32]))) (hw : nw ≤ 24) (hn : n ≤ 12) (hbad : kd < 0 ∨ nI 5 ≤ kd) : gMd l yX7_indexAnew wsX7_indexAnew ({ frames := 3, cells := 0, slots := 0, locals := 64 }) D y [.ref a_mod, .int (kd), .int (t)] ws (fun r (_ : Unit) => r = 0) (fun (_ : Unit) => (ws.set p_mod (a_mod, .inr (8, [.int (nI (1)), .int (nI (n)), x_mod_2, x_mod_3, x_mod_4, .int (nI (nw)), x_mod_6, x_mod_7, x_mod_8, x_mod_9, x_mod_10, x_mod_11, x_mod_12, x_mod_13, x_mod_14, x_mod_15, x_mod_16, x_mod_17, x_mod_18, x_mod_19, x_mod_20, x_mod_21, x_mod_22, x_mod_23, x_mod_24, x_mod_25, x_mod_26, x_mod_27, x_mod_28, x_mod_29, x_mod_30, x_mod_31, x_mod_32])))) := by
  refine g_met_d (cc := cX7_indexAnew) (maxL := 3) (by decide) rfl (Nat.le_of_ble_eq_true rfl) ?_
  intro p e s m below meth c A hx hb hml hr hts hown hnm hlocks hE hP hD hS hA ls hl
  have hown : s.vm.findClass RX7 = some m.cls := hown
  have hl : lv_has ls 3 [(0, .ref a_mod), (1, .int (kd)), (2, .int (t))] := hl
  refine lv_aload_n hx hb dX7_indexAnew_0 rfl (lv_at hl 0 rfl) ?_
  refine lv_iload_n hx hb dX7_indexAnew_1 rfl (lv_at hl 1 rfl) ?_
  refine lv_iload_n hx hb dX7_indexAnew_2 rfl (lv_at hl 2 rfl) ?_
  refine gc_V_d (As := [.int (kd), .int (t)]) (rest := []) (x0_X7_index l f0_mod hw hn hbad) ⟨hx, hb, hml, hown, hts⟩ (cwV 2 hts gX7_indexAnew_X7_index rfl rfl rfl (by decide +kernel) ⟨Nat.le_of_ble_eq_true rfl, Nat.le_of_ble_eq_true rfl⟩) hE hP hD hS hA _ f0_mod rfl rfl rfl rfl hl.1 (Nat.le_of_ble_eq_true rfl) dX7_indexAnew_3 ⟨Nat.le_of_ble_eq_true rfl, Nat.le_of_ble_eq_true rfl⟩ (fun r_3 u_3 H locs hP hD hS q_3 => ?_)
  subst q_3
  refine g_dret hx hb hr hlocks () dX7_indexAnew_6 hS hP hD ?_
  exact rfl

set_option maxHeartbeats 4000000 in
set_option maxRecDepth 100000 in
theorem x1_X7_indexAnew (l : Launch) {D : va_G} {y : Nat → Nat} {ws : va_W} {x_mod_2 : Value} {x_mod_3 : Value} {x_mod_4 : Value} {x_mod_6 : Value} {x_mod_7 : Value} {x_mod_8 : Value} {x_mod_9 : Value} {x_mod_10 : Value} {x_mod_11 : Value} {x_mod_12 : Value} {x_mod_13 : Value} {x_mod_14 : Value} {x_mod_15 : Value} {x_mod_16 : Value} {x_mod_17 : Value} {x_mod_18 : Value} {x_mod_19 : Value} {x_mod_20 : Value} {x_mod_21 : Value} {x_mod_22 : Value} {x_mod_23 : Value} {x_mod_24 : Value} {x_mod_25 : Value} {x_mod_26 : Value} {x_mod_27 : Value} {x_mod_28 : Value} {x_mod_29 : Value} {x_mod_30 : Value} {x_mod_31 : Value} {x_mod_32 : Value} {p_mod a_mod : Nat} {kd : Nat} {t : Int32} {nw n th : Nat} (f0_mod : ws[p_mod]? = some (a_mod, .inr (8, [.int (nI (th)), .int (nI (n)), x_mod_2, x_mod_3, x_mod_4, .int (nI (nw)), x_mod_6, x_mod_7, x_mod_8, x_mod_9, x_mod_10, x_mod_11, x_mod_12, x_mod_13, x_mod_14, x_mod_15, x_mod_16, x_mod_17, x_mod_18, x_mod_19, x_mod_20, x_mod_21, x_mod_22, x_mod_23, x_mod_24, x_mod_25, x_mod_26, x_mod_27, x_mod_28, x_mod_29, x_mod_30, x_mod_31, x_mod_32]))) (hw : nw ≤ 24) (hn : n ≤ 12) (hkd : kd < 5) (hbad : t < 0 ∨ nI nw ≤ t) : gMd l yX7_indexAnew wsX7_indexAnew ({ frames := 3, cells := 0, slots := 0, locals := 65 }) D y [.ref a_mod, .int (nI (kd)), .int (t)] ws (fun r (_ : Unit) => r = 0) (fun (_ : Unit) => (ws.set p_mod (a_mod, .inr (8, [.int (nI (1)), .int (nI (n)), x_mod_2, x_mod_3, x_mod_4, .int (nI (nw)), x_mod_6, x_mod_7, x_mod_8, x_mod_9, x_mod_10, x_mod_11, x_mod_12, x_mod_13, x_mod_14, x_mod_15, x_mod_16, x_mod_17, x_mod_18, x_mod_19, x_mod_20, x_mod_21, x_mod_22, x_mod_23, x_mod_24, x_mod_25, x_mod_26, x_mod_27, x_mod_28, x_mod_29, x_mod_30, x_mod_31, x_mod_32])))) := by
  refine g_met_d (cc := cX7_indexAnew) (maxL := 3) (by decide) rfl (Nat.le_of_ble_eq_true rfl) ?_
  intro p e s m below meth c A hx hb hml hr hts hown hnm hlocks hE hP hD hS hA ls hl
  have hown : s.vm.findClass RX7 = some m.cls := hown
  have hl : lv_has ls 3 [(0, .ref a_mod), (1, .int (nI (kd))), (2, .int (t))] := hl
  refine lv_aload_n hx hb dX7_indexAnew_0 rfl (lv_at hl 0 rfl) ?_
  refine lv_iload_n hx hb dX7_indexAnew_1 rfl (lv_at hl 1 rfl) ?_
  refine lv_iload_n hx hb dX7_indexAnew_2 rfl (lv_at hl 2 rfl) ?_
  refine gc_V_d (As := [.int (nI (kd)), .int (t)]) (rest := []) (x1_X7_index l f0_mod hw hn hkd hbad) ⟨hx, hb, hml, hown, hts⟩ (cwV 2 hts gX7_indexAnew_X7_index rfl rfl rfl (by decide +kernel) ⟨Nat.le_of_ble_eq_true rfl, Nat.le_of_ble_eq_true rfl⟩) hE hP hD hS hA _ f0_mod rfl rfl rfl rfl hl.1 (Nat.le_of_ble_eq_true rfl) dX7_indexAnew_3 ⟨Nat.le_of_ble_eq_true rfl, Nat.le_of_ble_eq_true rfl⟩ (fun r_3 u_3 H locs hP hD hS q_3 => ?_)
  subst q_3
  refine g_dret hx hb hr hlocks () dX7_indexAnew_6 hS hP hD ?_
  exact rfl

set_option maxHeartbeats 4000000 in
set_option maxRecDepth 100000 in
theorem c_X7_indexAnew (l : Launch) {D : va_G} {y : Nat → Nat} {ws : va_W} {x_mod_2 : Value} {x_mod_3 : Value} {x_mod_4 : Value} {x_mod_6 : Value} {x_mod_7 : Value} {x_mod_8 : Value} {x_mod_9 : Value} {x_mod_10 : Value} {x_mod_11 : Value} {x_mod_12 : Value} {x_mod_13 : Value} {x_mod_14 : Value} {x_mod_15 : Value} {x_mod_16 : Value} {x_mod_17 : Value} {x_mod_18 : Value} {x_mod_19 : Value} {x_mod_20 : Value} {x_mod_22 : Value} {x_mod_23 : Value} {x_mod_24 : Value} {x_mod_25 : Value} {x_mod_26 : Value} {x_mod_27 : Value} {x_mod_28 : Value} {x_mod_29 : Value} {x_mod_30 : Value} {x_mod_31 : Value} {x_mod_32 : Value} {p_mod p_mix a_mod a_mix : Nat} {mix : Nat → UInt64} {kd t nw n th : Nat} (f0_mod : ws[p_mod]? = some (a_mod, .inr (8, [.int (nI (th)), .int (nI (n)), x_mod_2, x_mod_3, x_mod_4, .int (nI (nw)), x_mod_6, x_mod_7, x_mod_8, x_mod_9, x_mod_10, x_mod_11, x_mod_12, x_mod_13, x_mod_14, x_mod_15, x_mod_16, x_mod_17, x_mod_18, x_mod_19, x_mod_20, .ref a_mix, x_mod_22, x_mod_23, x_mod_24, x_mod_25, x_mod_26, x_mod_27, x_mod_28, x_mod_29, x_mod_30, x_mod_31, x_mod_32]))) (f0_mix : ws[p_mix]? = some (a_mix, eD y 240 mix)) (hw : nw ≤ 24) (hn : n ≤ 12) (hkd : kd < 5) (ht : t < nw) : gMd l yX7_indexAnew wsX7_indexAnew ({ frames := 3, cells := 0, slots := 0, locals := 65 }) D y [.ref a_mod, .int (nI (kd)), .int (nI (t))] ws (fun r (_ : Unit) => r = mix (5 * t + kd)) (fun (_ : Unit) => (ws.set p_mod (a_mod, .inr (8, [.int (nI (0)), .int (nI (n)), x_mod_2, x_mod_3, x_mod_4, .int (nI (nw)), x_mod_6, x_mod_7, x_mod_8, x_mod_9, x_mod_10, x_mod_11, x_mod_12, x_mod_13, x_mod_14, x_mod_15, x_mod_16, x_mod_17, x_mod_18, x_mod_19, x_mod_20, .ref a_mix, x_mod_22, x_mod_23, x_mod_24, x_mod_25, x_mod_26, x_mod_27, x_mod_28, x_mod_29, x_mod_30, x_mod_31, x_mod_32])))) := by
  refine g_met_d (cc := cX7_indexAnew) (maxL := 3) (by decide) rfl (Nat.le_of_ble_eq_true rfl) ?_
  intro p e s m below meth c A hx hb hml hr hts hown hnm hlocks hE hP hD hS hA ls hl
  have hown : s.vm.findClass RX7 = some m.cls := hown
  have hl : lv_has ls 3 [(0, .ref a_mod), (1, .int (nI (kd))), (2, .int (nI (t)))] := hl
  refine lv_aload_n hx hb dX7_indexAnew_0 rfl (lv_at hl 0 rfl) ?_
  refine lv_iload_n hx hb dX7_indexAnew_1 rfl (lv_at hl 1 rfl) ?_
  refine lv_iload_n hx hb dX7_indexAnew_2 rfl (lv_at hl 2 rfl) ?_
  refine gc_V_d (As := [.int (nI (kd)), .int (nI (t))]) (rest := []) (c_X7_index l f0_mod f0_mix hw hn hkd ht) ⟨hx, hb, hml, hown, hts⟩ (cwV 2 hts gX7_indexAnew_X7_index rfl rfl rfl (by decide +kernel) ⟨Nat.le_of_ble_eq_true rfl, Nat.le_of_ble_eq_true rfl⟩) hE hP hD hS hA _ f0_mod rfl rfl rfl rfl hl.1 (Nat.le_of_ble_eq_true rfl) dX7_indexAnew_3 ⟨Nat.le_of_ble_eq_true rfl, Nat.le_of_ble_eq_true rfl⟩ (fun r_3 u_3 H locs hP hD hS q_3 => ?_)
  subst q_3
  refine g_dret hx hb hr hlocks () dX7_indexAnew_6 hS hP hD ?_
  exact rfl

theorem in_x0_X7_corrected_RX7 : ∀ w ∈ wsX70, w ∈ wsX7_corrected := by decide +kernel
set_option maxHeartbeats 4000000 in
set_option maxRecDepth 100000 in
theorem x0_X7_corrected (l : Launch) {D : va_G} {y : Nat → Nat} {ws : va_W} {x_mod_2 : Value} {x_mod_3 : Value} {x_mod_4 : Value} {x_mod_6 : Value} {x_mod_7 : Value} {x_mod_8 : Value} {x_mod_9 : Value} {x_mod_10 : Value} {x_mod_11 : Value} {x_mod_12 : Value} {x_mod_13 : Value} {x_mod_14 : Value} {x_mod_15 : Value} {x_mod_16 : Value} {x_mod_17 : Value} {x_mod_18 : Value} {x_mod_19 : Value} {x_mod_20 : Value} {x_mod_21 : Value} {x_mod_22 : Value} {x_mod_23 : Value} {x_mod_24 : Value} {x_mod_25 : Value} {x_mod_26 : Value} {x_mod_27 : Value} {x_mod_28 : Value} {x_mod_29 : Value} {x_mod_30 : Value} {x_mod_31 : Value} {x_mod_32 : Value} {p_mod a_mod : Nat} {kd t : Int32} {nw n th : Nat} (f0_mod : ws[p_mod]? = some (a_mod, .inr (8, [.int (nI (th)), .int (nI (n)), x_mod_2, x_mod_3, x_mod_4, .int (nI (nw)), x_mod_6, x_mod_7, x_mod_8, x_mod_9, x_mod_10, x_mod_11, x_mod_12, x_mod_13, x_mod_14, x_mod_15, x_mod_16, x_mod_17, x_mod_18, x_mod_19, x_mod_20, x_mod_21, x_mod_22, x_mod_23, x_mod_24, x_mod_25, x_mod_26, x_mod_27, x_mod_28, x_mod_29, x_mod_30, x_mod_31, x_mod_32]))) (hw : nw ≤ 24) (hn : n ≤ 12)  (hbad : kd < 0 ∨ nI 5 ≤ kd) : gMd l yX7_corrected wsX7_corrected ({ frames := 2, cells := 0, slots := 0, locals := 42 }) D y [.ref a_mod, .int (kd), .int (t)] ws (fun r (_ : Unit) => r = 0) (fun (_ : Unit) => (ws.set p_mod (a_mod, .inr (8, [.int (nI (1)), .int (nI (n)), x_mod_2, x_mod_3, x_mod_4, .int (nI (nw)), x_mod_6, x_mod_7, x_mod_8, x_mod_9, x_mod_10, x_mod_11, x_mod_12, x_mod_13, x_mod_14, x_mod_15, x_mod_16, x_mod_17, x_mod_18, x_mod_19, x_mod_20, x_mod_21, x_mod_22, x_mod_23, x_mod_24, x_mod_25, x_mod_26, x_mod_27, x_mod_28, x_mod_29, x_mod_30, x_mod_31, x_mod_32])))) := by
  refine g_met_d (cc := cX7_corrected) (maxL := 3) (by decide) rfl (Nat.le_of_ble_eq_true rfl) ?_
  intro p e s m below meth c A hx hb hml hr hts hown hnm hlocks hE hP hD hS hA ls hl
  have hown : s.vm.findClass RX7 = some m.cls := hown
  have hl : lv_has ls 3 [(0, .ref a_mod), (1, .int (kd)), (2, .int (t))] := hl
  have in_RX7 := in_x0_X7_corrected_RX7
  refine lv_aload_n hx hb dX7_corrected_0 rfl (lv_at hl 0 rfl) ?_
  refine lv_iload_n hx hb dX7_corrected_1 rfl (lv_at hl 1 rfl) ?_
  refine gc_S_i (As := [.int (kd)]) (rest := [.ref a_mod]) (c_X7_isKind l) ⟨hx, hb, hml, hown, hts⟩ (va_cwS 1 hts gX7_corrected_X7_isKind rfl rfl rfl (by decide +kernel) ⟨Nat.le_of_ble_eq_true rfl, Nat.le_of_ble_eq_true rfl⟩) hE hP hD hS hA rfl rfl hl.1 (Nat.le_of_ble_eq_true rfl) dX7_corrected_2 ⟨Nat.le_of_ble_eq_true rfl, Nat.le_of_ble_eq_true rfl⟩ (fun r_2 u_2 H locs hP hD hS q_2 => ?_)
  subst q_2
  refine g_bif_eq (tgt := 20) hx hb dX7_corrected_5 (by decide) (fun c_5 => ?_) (fun c_5 => absurd c_5 (by rw [decide_eq_false (fun z => z hbad)]; decide))
  refine lv_iconst (v := nI 1) hx hb dX7_corrected_20 (by decide) ?_
  refine va_put (D := D) (ci := 8) (v := .int (nI (1))) (ty := .int) (C := RX7) (T := TX7) (N := 33) hx hb hts in_RX7 tyX7 tyX7_ok nmX7 hown hE.1 hP hD hS _ f0_mod rfl 0 (by decide) (hts (.fieldLink RX7 94 "BasketryOfficeModel" "thrown" "I") (by decide +kernel)) (fun _ h9 => h9) rfl (by decide +kernel) rfl rfl (Nat.le_of_ble_eq_true rfl) dX7_corrected_21 (fun H locs hP hD hS => ?_)
  refine lv_aload_n hx hb dX7_corrected_24 rfl (lv_at hl 0 rfl) ?_
  have f_mod := g_eq (x := (a_mod, .inr (8, [.int (nI (1)), .int (nI (n)), x_mod_2, x_mod_3, x_mod_4, .int (nI (nw)), x_mod_6, x_mod_7, x_mod_8, x_mod_9, x_mod_10, x_mod_11, x_mod_12, x_mod_13, x_mod_14, x_mod_15, x_mod_16, x_mod_17, x_mod_18, x_mod_19, x_mod_20, x_mod_21, x_mod_22, x_mod_23, x_mod_24, x_mod_25, x_mod_26, x_mod_27, x_mod_28, x_mod_29, x_mod_30, x_mod_31, x_mod_32]))) (f0_mod)
  refine va_get (D := D) (ci := 8) (v := .int (nI (1))) (C := RX7) (T := TX7) (N := 33) hx hb hts in_RX7 hown hE.1 hP _ f_mod rfl 0 (by decide) (hts (.fieldLink RX7 94 "BasketryOfficeModel" "thrown" "I") (by decide +kernel)) (fun _ h9 => h9) rfl dX7_corrected_25 ?_
  refine g_if_le (tgt := 33) hx hb (by omega) dX7_corrected_28 (by decide) (fun c_28 => absurd c_28 (by omega)) (fun c_28 => ?_)
  refine g_dconst0 hx hb dX7_corrected_31 ?_
  refine g_dret hx hb hr hlocks () dX7_corrected_32 hS hP hD ?_
  exact rfl

theorem in_x1_X7_corrected_RX7 : ∀ w ∈ wsX70, w ∈ wsX7_corrected := by decide +kernel
set_option maxHeartbeats 4000000 in
set_option maxRecDepth 100000 in
theorem x1_X7_corrected (l : Launch) {D : va_G} {y : Nat → Nat} {ws : va_W} {x_mod_2 : Value} {x_mod_3 : Value} {x_mod_4 : Value} {x_mod_6 : Value} {x_mod_7 : Value} {x_mod_8 : Value} {x_mod_9 : Value} {x_mod_10 : Value} {x_mod_11 : Value} {x_mod_12 : Value} {x_mod_13 : Value} {x_mod_14 : Value} {x_mod_15 : Value} {x_mod_16 : Value} {x_mod_17 : Value} {x_mod_18 : Value} {x_mod_19 : Value} {x_mod_20 : Value} {x_mod_21 : Value} {x_mod_22 : Value} {x_mod_23 : Value} {x_mod_24 : Value} {x_mod_25 : Value} {x_mod_26 : Value} {x_mod_27 : Value} {x_mod_28 : Value} {x_mod_29 : Value} {x_mod_30 : Value} {x_mod_31 : Value} {x_mod_32 : Value} {p_mod a_mod : Nat} {kd : Nat} {t : Int32} {nw n th : Nat} (f0_mod : ws[p_mod]? = some (a_mod, .inr (8, [.int (nI (th)), .int (nI (n)), x_mod_2, x_mod_3, x_mod_4, .int (nI (nw)), x_mod_6, x_mod_7, x_mod_8, x_mod_9, x_mod_10, x_mod_11, x_mod_12, x_mod_13, x_mod_14, x_mod_15, x_mod_16, x_mod_17, x_mod_18, x_mod_19, x_mod_20, x_mod_21, x_mod_22, x_mod_23, x_mod_24, x_mod_25, x_mod_26, x_mod_27, x_mod_28, x_mod_29, x_mod_30, x_mod_31, x_mod_32]))) (hw : nw ≤ 24) (hn : n ≤ 12) (hkd : kd < 5) (hbad : t < 0 ∨ nI nw ≤ t) : gMd l yX7_corrected wsX7_corrected ({ frames := 2, cells := 0, slots := 0, locals := 43 }) D y [.ref a_mod, .int (nI (kd)), .int (t)] ws (fun r (_ : Unit) => r = 0) (fun (_ : Unit) => (ws.set p_mod (a_mod, .inr (8, [.int (nI (1)), .int (nI (n)), x_mod_2, x_mod_3, x_mod_4, .int (nI (nw)), x_mod_6, x_mod_7, x_mod_8, x_mod_9, x_mod_10, x_mod_11, x_mod_12, x_mod_13, x_mod_14, x_mod_15, x_mod_16, x_mod_17, x_mod_18, x_mod_19, x_mod_20, x_mod_21, x_mod_22, x_mod_23, x_mod_24, x_mod_25, x_mod_26, x_mod_27, x_mod_28, x_mod_29, x_mod_30, x_mod_31, x_mod_32])))) := by
  refine g_met_d (cc := cX7_corrected) (maxL := 3) (by decide) rfl (Nat.le_of_ble_eq_true rfl) ?_
  intro p e s m below meth c A hx hb hml hr hts hown hnm hlocks hE hP hD hS hA ls hl
  have hown : s.vm.findClass RX7 = some m.cls := hown
  have hl : lv_has ls 3 [(0, .ref a_mod), (1, .int (nI (kd))), (2, .int (t))] := hl
  have in_RX7 := in_x1_X7_corrected_RX7
  refine lv_aload_n hx hb dX7_corrected_0 rfl (lv_at hl 0 rfl) ?_
  refine lv_iload_n hx hb dX7_corrected_1 rfl (lv_at hl 1 rfl) ?_
  refine gc_S_i (As := [.int (nI (kd))]) (rest := [.ref a_mod]) (c_X7_isKind l) ⟨hx, hb, hml, hown, hts⟩ (va_cwS 1 hts gX7_corrected_X7_isKind rfl rfl rfl (by decide +kernel) ⟨Nat.le_of_ble_eq_true rfl, Nat.le_of_ble_eq_true rfl⟩) hE hP hD hS hA rfl rfl hl.1 (Nat.le_of_ble_eq_true rfl) dX7_corrected_2 ⟨Nat.le_of_ble_eq_true rfl, Nat.le_of_ble_eq_true rfl⟩ (fun r_2 u_2 H locs hP hD hS q_2 => ?_)
  subst q_2
  refine g_bif_eq (tgt := 20) hx hb dX7_corrected_5 (by decide) (fun c_5 => absurd c_5 (by rw [decide_eq_true (rq_lt hkd (by omega))]; decide)) (fun c_5 => ?_)
  refine lv_aload_n hx hb dX7_corrected_8 rfl (lv_at hl 0 rfl) ?_
  refine lv_iload_n hx hb dX7_corrected_9 rfl (lv_at hl 2 rfl) ?_
  refine gc_V_i (As := [.int (t)]) (rest := [.ref a_mod]) (c_X7_isPublished l f0_mod (by omega)) ⟨hx, hb, hml, hown, hts⟩ (cwV 1 hts gX7_corrected_X7_isPublished rfl rfl rfl (by decide +kernel) ⟨Nat.le_of_ble_eq_true rfl, Nat.le_of_ble_eq_true rfl⟩) hE hP hD hS hA _ f0_mod rfl rfl rfl rfl hl.1 (Nat.le_of_ble_eq_true rfl) dX7_corrected_10 ⟨Nat.le_of_ble_eq_true rfl, Nat.le_of_ble_eq_true rfl⟩ (fun r_10 u_10 H locs hP hD hS q_10 => ?_)
  subst q_10
  refine g_bif_eq (tgt := 20) hx hb dX7_corrected_13 (by decide) (fun c_13 => ?_) (fun c_13 => absurd c_13 (by rw [decide_eq_false (fun z => z hbad)]; decide))
  refine lv_iconst (v := nI 1) hx hb dX7_corrected_20 (by decide) ?_
  refine va_put (D := D) (ci := 8) (v := .int (nI (1))) (ty := .int) (C := RX7) (T := TX7) (N := 33) hx hb hts in_RX7 tyX7 tyX7_ok nmX7 hown hE.1 hP hD hS _ f0_mod rfl 0 (by decide) (hts (.fieldLink RX7 94 "BasketryOfficeModel" "thrown" "I") (by decide +kernel)) (fun _ h9 => h9) rfl (by decide +kernel) rfl rfl (Nat.le_of_ble_eq_true rfl) dX7_corrected_21 (fun H locs hP hD hS => ?_)
  refine lv_aload_n hx hb dX7_corrected_24 rfl (lv_at hl 0 rfl) ?_
  have f_mod := g_eq (x := (a_mod, .inr (8, [.int (nI (1)), .int (nI (n)), x_mod_2, x_mod_3, x_mod_4, .int (nI (nw)), x_mod_6, x_mod_7, x_mod_8, x_mod_9, x_mod_10, x_mod_11, x_mod_12, x_mod_13, x_mod_14, x_mod_15, x_mod_16, x_mod_17, x_mod_18, x_mod_19, x_mod_20, x_mod_21, x_mod_22, x_mod_23, x_mod_24, x_mod_25, x_mod_26, x_mod_27, x_mod_28, x_mod_29, x_mod_30, x_mod_31, x_mod_32]))) (f0_mod)
  refine va_get (D := D) (ci := 8) (v := .int (nI (1))) (C := RX7) (T := TX7) (N := 33) hx hb hts in_RX7 hown hE.1 hP _ f_mod rfl 0 (by decide) (hts (.fieldLink RX7 94 "BasketryOfficeModel" "thrown" "I") (by decide +kernel)) (fun _ h9 => h9) rfl dX7_corrected_25 ?_
  refine g_if_le (tgt := 33) hx hb (by omega) dX7_corrected_28 (by decide) (fun c_28 => absurd c_28 (by omega)) (fun c_28 => ?_)
  refine g_dconst0 hx hb dX7_corrected_31 ?_
  refine g_dret hx hb hr hlocks () dX7_corrected_32 hS hP hD ?_
  exact rfl

theorem in_c_X7_corrected_RX7 : ∀ w ∈ wsX70, w ∈ wsX7_corrected := by decide +kernel
set_option maxHeartbeats 4000000 in
set_option maxRecDepth 100000 in
theorem c_X7_corrected (l : Launch) {D : va_G} {y : Nat → Nat} {ws : va_W} {x_mod_4 : Value} {x_mod_6 : Value} {x_mod_7 : Value} {x_mod_14 : Value} {x_mod_15 : Value} {x_mod_23 : Value} {x_mod_24 : Value} {x_mod_25 : Value} {x_mod_26 : Value} {x_mod_27 : Value} {x_mod_28 : Value} {x_mod_29 : Value} {x_mod_30 : Value} {x_mod_31 : Value} {x_mod_32 : Value} {p_mod p_mpr p_mim p_mre p_mce p_mgm p_mfx p_mcf p_mlc p_mlg p_mme p_mgr p_mog p_mix p_mnu p_msp a_mod a_mpr a_mim a_mre a_mce a_mgm a_mfx a_mcf a_mlc a_mlg a_mme a_mgr a_mog a_mix a_mnu a_msp : Nat} {mpr : Nat → UInt64} {mim : Nat → Bool} {mre : Nat → UInt64} {mce : Nat → Nat} {mgm : Nat → Nat} {mfx : Nat → Nat} {mcf : Nat → Bool} {mlc : Nat → Nat} {mlg : Nat → Nat} {mme : Nat → Nat} {mgr : Nat → Nat} {mog : Nat → UInt64} {mix : Nat → UInt64} {mnu : Nat → Nat} {msp : Nat → Nat} {kd t : Nat} {nw n th : Nat} {pr0 shr : Nat → UInt64} (f0_mod : ws[p_mod]? = some (a_mod, .inr (8, [.int (nI (th)), .int (nI (n)), .ref a_mgr, .ref a_mme, x_mod_4, .int (nI (nw)), x_mod_6, x_mod_7, .ref a_mce, .ref a_mgm, .ref a_mfx, .ref a_mcf, .ref a_mlc, .ref a_mlg, x_mod_14, x_mod_15, .ref a_msp, .ref a_mpr, .ref a_mim, .ref a_mre, .ref a_mog, .ref a_mix, .ref a_mnu, x_mod_23, x_mod_24, x_mod_25, x_mod_26, x_mod_27, x_mod_28, x_mod_29, x_mod_30, x_mod_31, x_mod_32]))) (f0_mpr : ws[p_mpr]? = some (a_mpr, eD y 2304 mpr)) (f0_mim : ws[p_mim]? = some (a_mim, eZ y 2304 mim)) (f0_mre : ws[p_mre]? = some (a_mre, eD y 576 mre)) (f0_mce : ws[p_mce]? = some (a_mce, eN y 1152 mce)) (f0_mgm : ws[p_mgm]? = some (a_mgm, eN y 1152 mgm)) (f0_mfx : ws[p_mfx]? = some (a_mfx, eN y 1152 mfx)) (f0_mcf : ws[p_mcf]? = some (a_mcf, eZ y 1152 mcf)) (f0_mlc : ws[p_mlc]? = some (a_mlc, eN y 1152 mlc)) (f0_mlg : ws[p_mlg]? = some (a_mlg, eN y 1152 mlg)) (f0_mme : ws[p_mme]? = some (a_mme, eN y 12 mme)) (f0_mgr : ws[p_mgr]? = some (a_mgr, eN y 12 mgr)) (f0_mog : ws[p_mog]? = some (a_mog, eD y 192 mog)) (f0_mix : ws[p_mix]? = some (a_mix, eD y 240 mix)) (f0_mnu : ws[p_mnu]? = some (a_mnu, eN y 48 mnu)) (f0_msp : ws[p_msp]? = some (a_msp, eN y 288 msp)) (b_mce : ∀ k, mce k ≤ 100000) (b_mgm : ∀ k, mgm k ≤ 10000) (b_mfx : ∀ k, mfx k ≤ 100000) (b_mlc : ∀ k, mlc k ≤ 100000) (b_mlg : ∀ k, mlg k ≤ 10000) (b_mme : ∀ k, mme k ≤ 2) (b_mgr : ∀ k, mgr k ≤ 3) (b_mnu : ∀ k, mnu k ≤ 2147483647) (b_msp : ∀ k, msp k ≤ 1000000000) (hw : nw ≤ 24) (hn : n ≤ 12) (hkd : kd < 5) (ht : t < nw) (hgm : ∀ k, mgm k = 0 → mce k = 0 ∧ mfx k = 0) (hlg : ∀ k, mlg k = 0 → mlc k = 0) (hcg : ∀ k, mce k = 0 → mgm k = 0) (hpos : ∀ k, k ≤ t → posM (rCw 1 mfx mce) mgm mlc mlg pr0 n k) (hnn : ∀ k, k ≤ t → nnMre mcf (rCw 1 mfx mce) mgm mlc mlg pr0 mme mgr n shr (mim, mre, mpr, mog, mix, mnu) k) (hsh : ∀ k, k ≤ t → ∀ g, g < 4 → nnShM (fun q => msp (12 * k + q)) g) (hshr : ∀ k, k ≤ t → ∀ kd, kd < 5 → ∀ g, g < 4 → mShr (fun q => msp (12 * k + q)) kd g = shr ((k * 5 + kd) * 4 + g)) (hdisr : p_mpr ≠ p_mre ∧ p_mpr ≠ p_mog ∧ p_mpr ≠ p_mix ∧ p_mre ≠ p_mog ∧ p_mre ≠ p_mix ∧ p_mog ≠ p_mix ∧ p_mim ≠ p_mce ∧ p_mim ≠ p_mgm ∧ p_mim ≠ p_mfx ∧ p_mim ≠ p_mcf ∧ p_mim ≠ p_mlc ∧ p_mim ≠ p_mlg ∧ p_mim ≠ p_mme ∧ p_mim ≠ p_mgr ∧ p_mim ≠ p_mnu ∧ p_mim ≠ p_msp ∧ p_mnu ≠ p_mce ∧ p_mnu ≠ p_mgm ∧ p_mnu ≠ p_mfx ∧ p_mnu ≠ p_mcf ∧ p_mnu ≠ p_mlc ∧ p_mnu ≠ p_mlg ∧ p_mnu ≠ p_mme ∧ p_mnu ≠ p_mgr ∧ p_mnu ≠ p_msp) : gMd l yX7_corrected wsX7_corrected ({ frames := 6, cells := 0, slots := 0, locals := 165 }) D y [.ref a_mod, .int (nI (kd)), .int (nI (t))] ws (fun r (_ : Unit) => r = (mRe mcf (rCw 1 mfx mce) mgm mlc mlg pr0 mme mgr n shr (mim, mre, mpr, mog, mix, mnu) (t + 1)).2.2.2.2.1 (5 * (24 + t) + kd)) (fun (_ : Unit) => (((((((ws.set p_mod (a_mod, .inr (8, [.int (nI (0)), .int (nI (n)), .ref a_mgr, .ref a_mme, x_mod_4, .int (nI (nw)), x_mod_6, x_mod_7, .ref a_mce, .ref a_mgm, .ref a_mfx, .ref a_mcf, .ref a_mlc, .ref a_mlg, x_mod_14, x_mod_15, .ref a_msp, .ref a_mpr, .ref a_mim, .ref a_mre, .ref a_mog, .ref a_mix, .ref a_mnu, x_mod_23, x_mod_24, x_mod_25, x_mod_26, x_mod_27, x_mod_28, x_mod_29, x_mod_30, x_mod_31, x_mod_32]))).set p_mim (a_mim, eZ y 2304 ((mRe mcf (rCw 1 mfx mce) mgm mlc mlg pr0 mme mgr n shr (mim, mre, mpr, mog, mix, mnu) (t + 1)).1))).set p_mre (a_mre, eD y 576 ((mRe mcf (rCw 1 mfx mce) mgm mlc mlg pr0 mme mgr n shr (mim, mre, mpr, mog, mix, mnu) (t + 1)).2.1))).set p_mpr (a_mpr, eD y 2304 ((mRe mcf (rCw 1 mfx mce) mgm mlc mlg pr0 mme mgr n shr (mim, mre, mpr, mog, mix, mnu) (t + 1)).2.2.1))).set p_mog (a_mog, eD y 192 ((mRe mcf (rCw 1 mfx mce) mgm mlc mlg pr0 mme mgr n shr (mim, mre, mpr, mog, mix, mnu) (t + 1)).2.2.2.1))).set p_mix (a_mix, eD y 240 ((mRe mcf (rCw 1 mfx mce) mgm mlc mlg pr0 mme mgr n shr (mim, mre, mpr, mog, mix, mnu) (t + 1)).2.2.2.2.1))).set p_mnu (a_mnu, eN y 48 ((mRe mcf (rCw 1 mfx mce) mgm mlc mlg pr0 mme mgr n shr (mim, mre, mpr, mog, mix, mnu) (t + 1)).2.2.2.2.2)))) := by
  refine g_met_d (cc := cX7_corrected) (maxL := 3) (by decide) rfl (Nat.le_of_ble_eq_true rfl) ?_
  intro p e s m below meth c A hx hb hml hr hts hown hnm hlocks hE hP hD hS hA ls hl
  have hown : s.vm.findClass RX7 = some m.cls := hown
  have hl : lv_has ls 3 [(0, .ref a_mod), (1, .int (nI (kd))), (2, .int (nI (t)))] := hl
  have in_RX7 := in_c_X7_corrected_RX7
  refine lv_aload_n hx hb dX7_corrected_0 rfl (lv_at hl 0 rfl) ?_
  refine lv_iload_n hx hb dX7_corrected_1 rfl (lv_at hl 1 rfl) ?_
  refine gc_S_i (As := [.int (nI (kd))]) (rest := [.ref a_mod]) (c_X7_isKind l) ⟨hx, hb, hml, hown, hts⟩ (va_cwS 1 hts gX7_corrected_X7_isKind rfl rfl rfl (by decide +kernel) ⟨Nat.le_of_ble_eq_true rfl, Nat.le_of_ble_eq_true rfl⟩) hE hP hD hS hA rfl rfl hl.1 (Nat.le_of_ble_eq_true rfl) dX7_corrected_2 ⟨Nat.le_of_ble_eq_true rfl, Nat.le_of_ble_eq_true rfl⟩ (fun r_2 u_2 H locs hP hD hS q_2 => ?_)
  subst q_2
  refine g_bif_eq (tgt := 20) hx hb dX7_corrected_5 (by decide) (fun c_5 => absurd c_5 (by rw [decide_eq_true (rq_lt hkd (by omega))]; decide)) (fun c_5 => ?_)
  refine lv_aload_n hx hb dX7_corrected_8 rfl (lv_at hl 0 rfl) ?_
  refine lv_iload_n hx hb dX7_corrected_9 rfl (lv_at hl 2 rfl) ?_
  refine gc_V_i (As := [.int (nI (t))]) (rest := [.ref a_mod]) (c_X7_isPublished l f0_mod (by omega)) ⟨hx, hb, hml, hown, hts⟩ (cwV 1 hts gX7_corrected_X7_isPublished rfl rfl rfl (by decide +kernel) ⟨Nat.le_of_ble_eq_true rfl, Nat.le_of_ble_eq_true rfl⟩) hE hP hD hS hA _ f0_mod rfl rfl rfl rfl hl.1 (Nat.le_of_ble_eq_true rfl) dX7_corrected_10 ⟨Nat.le_of_ble_eq_true rfl, Nat.le_of_ble_eq_true rfl⟩ (fun r_10 u_10 H locs hP hD hS q_10 => ?_)
  subst q_10
  refine g_bif_eq (tgt := 20) hx hb dX7_corrected_13 (by decide) (fun c_13 => absurd c_13 (by rw [decide_eq_true (rq_lt ht (by omega))]; decide)) (fun c_13 => ?_)
  refine lv_iconst (v := nI 0) hx hb dX7_corrected_16 (by decide) ?_
  refine lv_goto (tgt := 21) hx hb dX7_corrected_17 (by decide) ?_
  refine va_put (D := D) (ci := 8) (v := .int (nI (0))) (ty := .int) (C := RX7) (T := TX7) (N := 33) hx hb hts in_RX7 tyX7 tyX7_ok nmX7 hown hE.1 hP hD hS _ f0_mod rfl 0 (by decide) (hts (.fieldLink RX7 94 "BasketryOfficeModel" "thrown" "I") (by decide +kernel)) (fun _ h9 => h9) rfl (by decide +kernel) rfl rfl (Nat.le_of_ble_eq_true rfl) dX7_corrected_21 (fun H locs hP hD hS => ?_)
  refine lv_aload_n hx hb dX7_corrected_24 rfl (lv_at hl 0 rfl) ?_
  have f_mod := g_eq (x := (a_mod, .inr (8, [.int (nI (0)), .int (nI (n)), .ref a_mgr, .ref a_mme, x_mod_4, .int (nI (nw)), x_mod_6, x_mod_7, .ref a_mce, .ref a_mgm, .ref a_mfx, .ref a_mcf, .ref a_mlc, .ref a_mlg, x_mod_14, x_mod_15, .ref a_msp, .ref a_mpr, .ref a_mim, .ref a_mre, .ref a_mog, .ref a_mix, .ref a_mnu, x_mod_23, x_mod_24, x_mod_25, x_mod_26, x_mod_27, x_mod_28, x_mod_29, x_mod_30, x_mod_31, x_mod_32]))) (f0_mod)
  refine va_get (D := D) (ci := 8) (v := .int (nI (0))) (C := RX7) (T := TX7) (N := 33) hx hb hts in_RX7 hown hE.1 hP _ f_mod rfl 0 (by decide) (hts (.fieldLink RX7 94 "BasketryOfficeModel" "thrown" "I") (by decide +kernel)) (fun _ h9 => h9) rfl dX7_corrected_25 ?_
  refine g_if_le (tgt := 33) hx hb (by omega) dX7_corrected_28 (by decide) (fun c_28 => ?_) (fun c_28 => absurd c_28 (by omega))
  refine lv_aload_n hx hb dX7_corrected_33 rfl (lv_at hl 0 rfl) ?_
  refine lv_iload_n hx hb dX7_corrected_34 rfl (lv_at hl 2 rfl) ?_
  have f_mpr := g_ne (x := (a_mod, .inr (8, [.int (nI (0)), .int (nI (n)), .ref a_mgr, .ref a_mme, x_mod_4, .int (nI (nw)), x_mod_6, x_mod_7, .ref a_mce, .ref a_mgm, .ref a_mfx, .ref a_mcf, .ref a_mlc, .ref a_mlg, x_mod_14, x_mod_15, .ref a_msp, .ref a_mpr, .ref a_mim, .ref a_mre, .ref a_mog, .ref a_mix, .ref a_mnu, x_mod_23, x_mod_24, x_mod_25, x_mod_26, x_mod_27, x_mod_28, x_mod_29, x_mod_30, x_mod_31, x_mod_32]))) (g_kne f0_mod f0_mpr (Nat.ne_of_beq_eq_false rfl)) (f0_mpr)
  have f_mim := g_ne (x := (a_mod, .inr (8, [.int (nI (0)), .int (nI (n)), .ref a_mgr, .ref a_mme, x_mod_4, .int (nI (nw)), x_mod_6, x_mod_7, .ref a_mce, .ref a_mgm, .ref a_mfx, .ref a_mcf, .ref a_mlc, .ref a_mlg, x_mod_14, x_mod_15, .ref a_msp, .ref a_mpr, .ref a_mim, .ref a_mre, .ref a_mog, .ref a_mix, .ref a_mnu, x_mod_23, x_mod_24, x_mod_25, x_mod_26, x_mod_27, x_mod_28, x_mod_29, x_mod_30, x_mod_31, x_mod_32]))) (g_kne f0_mod f0_mim (Nat.ne_of_beq_eq_false rfl)) (f0_mim)
  have f_mre := g_ne (x := (a_mod, .inr (8, [.int (nI (0)), .int (nI (n)), .ref a_mgr, .ref a_mme, x_mod_4, .int (nI (nw)), x_mod_6, x_mod_7, .ref a_mce, .ref a_mgm, .ref a_mfx, .ref a_mcf, .ref a_mlc, .ref a_mlg, x_mod_14, x_mod_15, .ref a_msp, .ref a_mpr, .ref a_mim, .ref a_mre, .ref a_mog, .ref a_mix, .ref a_mnu, x_mod_23, x_mod_24, x_mod_25, x_mod_26, x_mod_27, x_mod_28, x_mod_29, x_mod_30, x_mod_31, x_mod_32]))) (g_kne f0_mod f0_mre (Nat.ne_of_beq_eq_false rfl)) (f0_mre)
  have f_mce := g_ne (x := (a_mod, .inr (8, [.int (nI (0)), .int (nI (n)), .ref a_mgr, .ref a_mme, x_mod_4, .int (nI (nw)), x_mod_6, x_mod_7, .ref a_mce, .ref a_mgm, .ref a_mfx, .ref a_mcf, .ref a_mlc, .ref a_mlg, x_mod_14, x_mod_15, .ref a_msp, .ref a_mpr, .ref a_mim, .ref a_mre, .ref a_mog, .ref a_mix, .ref a_mnu, x_mod_23, x_mod_24, x_mod_25, x_mod_26, x_mod_27, x_mod_28, x_mod_29, x_mod_30, x_mod_31, x_mod_32]))) (g_kne f0_mod f0_mce (Nat.ne_of_beq_eq_false rfl)) (f0_mce)
  have f_mgm := g_ne (x := (a_mod, .inr (8, [.int (nI (0)), .int (nI (n)), .ref a_mgr, .ref a_mme, x_mod_4, .int (nI (nw)), x_mod_6, x_mod_7, .ref a_mce, .ref a_mgm, .ref a_mfx, .ref a_mcf, .ref a_mlc, .ref a_mlg, x_mod_14, x_mod_15, .ref a_msp, .ref a_mpr, .ref a_mim, .ref a_mre, .ref a_mog, .ref a_mix, .ref a_mnu, x_mod_23, x_mod_24, x_mod_25, x_mod_26, x_mod_27, x_mod_28, x_mod_29, x_mod_30, x_mod_31, x_mod_32]))) (g_kne f0_mod f0_mgm (Nat.ne_of_beq_eq_false rfl)) (f0_mgm)
  have f_mfx := g_ne (x := (a_mod, .inr (8, [.int (nI (0)), .int (nI (n)), .ref a_mgr, .ref a_mme, x_mod_4, .int (nI (nw)), x_mod_6, x_mod_7, .ref a_mce, .ref a_mgm, .ref a_mfx, .ref a_mcf, .ref a_mlc, .ref a_mlg, x_mod_14, x_mod_15, .ref a_msp, .ref a_mpr, .ref a_mim, .ref a_mre, .ref a_mog, .ref a_mix, .ref a_mnu, x_mod_23, x_mod_24, x_mod_25, x_mod_26, x_mod_27, x_mod_28, x_mod_29, x_mod_30, x_mod_31, x_mod_32]))) (g_kne f0_mod f0_mfx (Nat.ne_of_beq_eq_false rfl)) (f0_mfx)
  have f_mcf := g_ne (x := (a_mod, .inr (8, [.int (nI (0)), .int (nI (n)), .ref a_mgr, .ref a_mme, x_mod_4, .int (nI (nw)), x_mod_6, x_mod_7, .ref a_mce, .ref a_mgm, .ref a_mfx, .ref a_mcf, .ref a_mlc, .ref a_mlg, x_mod_14, x_mod_15, .ref a_msp, .ref a_mpr, .ref a_mim, .ref a_mre, .ref a_mog, .ref a_mix, .ref a_mnu, x_mod_23, x_mod_24, x_mod_25, x_mod_26, x_mod_27, x_mod_28, x_mod_29, x_mod_30, x_mod_31, x_mod_32]))) (g_kne f0_mod f0_mcf (Nat.ne_of_beq_eq_false rfl)) (f0_mcf)
  have f_mlc := g_ne (x := (a_mod, .inr (8, [.int (nI (0)), .int (nI (n)), .ref a_mgr, .ref a_mme, x_mod_4, .int (nI (nw)), x_mod_6, x_mod_7, .ref a_mce, .ref a_mgm, .ref a_mfx, .ref a_mcf, .ref a_mlc, .ref a_mlg, x_mod_14, x_mod_15, .ref a_msp, .ref a_mpr, .ref a_mim, .ref a_mre, .ref a_mog, .ref a_mix, .ref a_mnu, x_mod_23, x_mod_24, x_mod_25, x_mod_26, x_mod_27, x_mod_28, x_mod_29, x_mod_30, x_mod_31, x_mod_32]))) (g_kne f0_mod f0_mlc (Nat.ne_of_beq_eq_false rfl)) (f0_mlc)
  have f_mlg := g_ne (x := (a_mod, .inr (8, [.int (nI (0)), .int (nI (n)), .ref a_mgr, .ref a_mme, x_mod_4, .int (nI (nw)), x_mod_6, x_mod_7, .ref a_mce, .ref a_mgm, .ref a_mfx, .ref a_mcf, .ref a_mlc, .ref a_mlg, x_mod_14, x_mod_15, .ref a_msp, .ref a_mpr, .ref a_mim, .ref a_mre, .ref a_mog, .ref a_mix, .ref a_mnu, x_mod_23, x_mod_24, x_mod_25, x_mod_26, x_mod_27, x_mod_28, x_mod_29, x_mod_30, x_mod_31, x_mod_32]))) (g_kne f0_mod f0_mlg (Nat.ne_of_beq_eq_false rfl)) (f0_mlg)
  have f_mme := g_ne (x := (a_mod, .inr (8, [.int (nI (0)), .int (nI (n)), .ref a_mgr, .ref a_mme, x_mod_4, .int (nI (nw)), x_mod_6, x_mod_7, .ref a_mce, .ref a_mgm, .ref a_mfx, .ref a_mcf, .ref a_mlc, .ref a_mlg, x_mod_14, x_mod_15, .ref a_msp, .ref a_mpr, .ref a_mim, .ref a_mre, .ref a_mog, .ref a_mix, .ref a_mnu, x_mod_23, x_mod_24, x_mod_25, x_mod_26, x_mod_27, x_mod_28, x_mod_29, x_mod_30, x_mod_31, x_mod_32]))) (g_kne f0_mod f0_mme (Nat.ne_of_beq_eq_false rfl)) (f0_mme)
  have f_mgr := g_ne (x := (a_mod, .inr (8, [.int (nI (0)), .int (nI (n)), .ref a_mgr, .ref a_mme, x_mod_4, .int (nI (nw)), x_mod_6, x_mod_7, .ref a_mce, .ref a_mgm, .ref a_mfx, .ref a_mcf, .ref a_mlc, .ref a_mlg, x_mod_14, x_mod_15, .ref a_msp, .ref a_mpr, .ref a_mim, .ref a_mre, .ref a_mog, .ref a_mix, .ref a_mnu, x_mod_23, x_mod_24, x_mod_25, x_mod_26, x_mod_27, x_mod_28, x_mod_29, x_mod_30, x_mod_31, x_mod_32]))) (g_kne f0_mod f0_mgr (Nat.ne_of_beq_eq_false rfl)) (f0_mgr)
  have f_mog := g_ne (x := (a_mod, .inr (8, [.int (nI (0)), .int (nI (n)), .ref a_mgr, .ref a_mme, x_mod_4, .int (nI (nw)), x_mod_6, x_mod_7, .ref a_mce, .ref a_mgm, .ref a_mfx, .ref a_mcf, .ref a_mlc, .ref a_mlg, x_mod_14, x_mod_15, .ref a_msp, .ref a_mpr, .ref a_mim, .ref a_mre, .ref a_mog, .ref a_mix, .ref a_mnu, x_mod_23, x_mod_24, x_mod_25, x_mod_26, x_mod_27, x_mod_28, x_mod_29, x_mod_30, x_mod_31, x_mod_32]))) (g_kne f0_mod f0_mog (Nat.ne_of_beq_eq_false rfl)) (f0_mog)
  have f_mix := g_ne (x := (a_mod, .inr (8, [.int (nI (0)), .int (nI (n)), .ref a_mgr, .ref a_mme, x_mod_4, .int (nI (nw)), x_mod_6, x_mod_7, .ref a_mce, .ref a_mgm, .ref a_mfx, .ref a_mcf, .ref a_mlc, .ref a_mlg, x_mod_14, x_mod_15, .ref a_msp, .ref a_mpr, .ref a_mim, .ref a_mre, .ref a_mog, .ref a_mix, .ref a_mnu, x_mod_23, x_mod_24, x_mod_25, x_mod_26, x_mod_27, x_mod_28, x_mod_29, x_mod_30, x_mod_31, x_mod_32]))) (g_kne f0_mod f0_mix (Nat.ne_of_beq_eq_false rfl)) (f0_mix)
  have f_mnu := g_ne (x := (a_mod, .inr (8, [.int (nI (0)), .int (nI (n)), .ref a_mgr, .ref a_mme, x_mod_4, .int (nI (nw)), x_mod_6, x_mod_7, .ref a_mce, .ref a_mgm, .ref a_mfx, .ref a_mcf, .ref a_mlc, .ref a_mlg, x_mod_14, x_mod_15, .ref a_msp, .ref a_mpr, .ref a_mim, .ref a_mre, .ref a_mog, .ref a_mix, .ref a_mnu, x_mod_23, x_mod_24, x_mod_25, x_mod_26, x_mod_27, x_mod_28, x_mod_29, x_mod_30, x_mod_31, x_mod_32]))) (g_kne f0_mod f0_mnu (Nat.ne_of_beq_eq_false rfl)) (f0_mnu)
  have f_msp := g_ne (x := (a_mod, .inr (8, [.int (nI (0)), .int (nI (n)), .ref a_mgr, .ref a_mme, x_mod_4, .int (nI (nw)), x_mod_6, x_mod_7, .ref a_mce, .ref a_mgm, .ref a_mfx, .ref a_mcf, .ref a_mlc, .ref a_mlg, x_mod_14, x_mod_15, .ref a_msp, .ref a_mpr, .ref a_mim, .ref a_mre, .ref a_mog, .ref a_mix, .ref a_mnu, x_mod_23, x_mod_24, x_mod_25, x_mod_26, x_mod_27, x_mod_28, x_mod_29, x_mod_30, x_mod_31, x_mod_32]))) (g_kne f0_mod f0_msp (Nat.ne_of_beq_eq_false rfl)) (f0_msp)
  refine gc_V_v (As := [.int (nI (t))]) (rest := []) (c_X7_corrects l f_mod f_mpr f_mim f_mre f_mce f_mgm f_mfx f_mcf f_mlc f_mlg f_mme f_mgr f_mog f_mix f_mnu f_msp b_mce b_mgm b_mfx b_mlc b_mlg b_mme b_mgr b_mnu b_msp (by omega) hn hgm hlg hcg hpos hnn hsh hshr hdisr) ⟨hx, hb, hml, hown, hts⟩ (cwV 1 hts gX7_corrected_X7_corrects rfl rfl rfl (by decide +kernel) ⟨Nat.le_of_ble_eq_true rfl, Nat.le_of_ble_eq_true rfl⟩) hE hP hD hS hA _ f_mod rfl rfl rfl rfl hl.1 (Nat.le_of_ble_eq_true rfl) dX7_corrected_35 ⟨Nat.le_of_ble_eq_true rfl, Nat.le_of_ble_eq_true rfl⟩ (fun u_35 H locs hP hD hS q_35 => ?_)
  refine lv_aload_n hx hb dX7_corrected_38 rfl (lv_at hl 0 rfl) ?_
  have f_mod := g_ne (x := (a_mnu, eN y 48 ((mRe mcf (rCw 1 mfx mce) mgm mlc mlg pr0 mme mgr n shr (mim, mre, mpr, mog, mix, mnu) (t + 1)).2.2.2.2.2))) (g_kne f0_mnu f0_mod (Nat.ne_of_beq_eq_false rfl)) (g_ne (x := (a_mix, eD y 240 ((mRe mcf (rCw 1 mfx mce) mgm mlc mlg pr0 mme mgr n shr (mim, mre, mpr, mog, mix, mnu) (t + 1)).2.2.2.2.1))) (g_kne f0_mix f0_mod (Nat.ne_of_beq_eq_false rfl)) (g_ne (x := (a_mog, eD y 192 ((mRe mcf (rCw 1 mfx mce) mgm mlc mlg pr0 mme mgr n shr (mim, mre, mpr, mog, mix, mnu) (t + 1)).2.2.2.1))) (g_kne f0_mog f0_mod (Nat.ne_of_beq_eq_false rfl)) (g_ne (x := (a_mpr, eD y 2304 ((mRe mcf (rCw 1 mfx mce) mgm mlc mlg pr0 mme mgr n shr (mim, mre, mpr, mog, mix, mnu) (t + 1)).2.2.1))) (g_kne f0_mpr f0_mod (Nat.ne_of_beq_eq_false rfl)) (g_ne (x := (a_mre, eD y 576 ((mRe mcf (rCw 1 mfx mce) mgm mlc mlg pr0 mme mgr n shr (mim, mre, mpr, mog, mix, mnu) (t + 1)).2.1))) (g_kne f0_mre f0_mod (Nat.ne_of_beq_eq_false rfl)) (g_ne (x := (a_mim, eZ y 2304 ((mRe mcf (rCw 1 mfx mce) mgm mlc mlg pr0 mme mgr n shr (mim, mre, mpr, mog, mix, mnu) (t + 1)).1))) (g_kne f0_mim f0_mod (Nat.ne_of_beq_eq_false rfl)) (g_eq (x := (a_mod, .inr (8, [.int (nI (0)), .int (nI (n)), .ref a_mgr, .ref a_mme, x_mod_4, .int (nI (nw)), x_mod_6, x_mod_7, .ref a_mce, .ref a_mgm, .ref a_mfx, .ref a_mcf, .ref a_mlc, .ref a_mlg, x_mod_14, x_mod_15, .ref a_msp, .ref a_mpr, .ref a_mim, .ref a_mre, .ref a_mog, .ref a_mix, .ref a_mnu, x_mod_23, x_mod_24, x_mod_25, x_mod_26, x_mod_27, x_mod_28, x_mod_29, x_mod_30, x_mod_31, x_mod_32]))) (f0_mod)))))))
  refine va_get (D := D) (ci := 8) (v := .ref a_mix) (C := RX7) (T := TX7) (N := 33) hx hb hts in_RX7 hown hE.1 hP _ f_mod rfl 21 (by decide) (hts (.fieldLink RX7 60 "BasketryOfficeModel" "index" "[D") (by decide +kernel)) (fun _ h9 => h9) rfl dX7_corrected_39 ?_
  refine lv_iconst (v := nI 5) hx hb dX7_corrected_42 (by decide) ?_
  refine lv_bipush (v := nI 24) hx hb dX7_corrected_43 (by decide) ?_
  refine lv_iload_n hx hb dX7_corrected_45 rfl (lv_at hl 2 rfl) ?_
  refine g_iadd hx hb dX7_corrected_46 (nI_add _ _) ?_
  refine g_imul hx hb dX7_corrected_47 (pk_mul _ _) ?_
  refine lv_iload_n hx hb dX7_corrected_48 rfl (lv_at hl 1 rfl) ?_
  refine g_iadd hx hb dX7_corrected_49 (nI_add _ _) ?_
  have f_mix := g_ne (x := (a_mnu, eN y 48 ((mRe mcf (rCw 1 mfx mce) mgm mlc mlg pr0 mme mgr n shr (mim, mre, mpr, mog, mix, mnu) (t + 1)).2.2.2.2.2))) (g_kne f0_mnu f0_mix (Nat.ne_of_beq_eq_false rfl)) (g_eq (x := (a_mix, eD y 240 ((mRe mcf (rCw 1 mfx mce) mgm mlc mlg pr0 mme mgr n shr (mim, mre, mpr, mog, mix, mnu) (t + 1)).2.2.2.2.1))) (g_ne (x := (a_mog, eD y 192 ((mRe mcf (rCw 1 mfx mce) mgm mlc mlg pr0 mme mgr n shr (mim, mre, mpr, mog, mix, mnu) (t + 1)).2.2.2.1))) hdisr.2.2.2.2.2.1 (g_ne (x := (a_mpr, eD y 2304 ((mRe mcf (rCw 1 mfx mce) mgm mlc mlg pr0 mme mgr n shr (mim, mre, mpr, mog, mix, mnu) (t + 1)).2.2.1))) hdisr.2.2.1 (g_ne (x := (a_mre, eD y 576 ((mRe mcf (rCw 1 mfx mce) mgm mlc mlg pr0 mme mgr n shr (mim, mre, mpr, mog, mix, mnu) (t + 1)).2.1))) hdisr.2.2.2.2.1 (g_ne (x := (a_mim, eZ y 2304 ((mRe mcf (rCw 1 mfx mce) mgm mlc mlg pr0 mme mgr n shr (mim, mre, mpr, mog, mix, mnu) (t + 1)).1))) (g_kne f0_mim f0_mix (Nat.ne_of_beq_eq_false rfl)) (g_ne (x := (a_mod, .inr (8, [.int (nI (0)), .int (nI (n)), .ref a_mgr, .ref a_mme, x_mod_4, .int (nI (nw)), x_mod_6, x_mod_7, .ref a_mce, .ref a_mgm, .ref a_mfx, .ref a_mcf, .ref a_mlc, .ref a_mlg, x_mod_14, x_mod_15, .ref a_msp, .ref a_mpr, .ref a_mim, .ref a_mre, .ref a_mog, .ref a_mix, .ref a_mnu, x_mod_23, x_mod_24, x_mod_25, x_mod_26, x_mod_27, x_mod_28, x_mod_29, x_mod_30, x_mod_31, x_mod_32]))) (g_kne f0_mod f0_mix (Nat.ne_of_beq_eq_false rfl)) (f0_mix)))))))
  refine g_dald hx hb hE hP _ f_mix (by omega) (by decide) dX7_corrected_50 ?_
  refine g_dret hx hb hr hlocks () dX7_corrected_51 hS hP hD ?_
  exact rfl

theorem in_x0_X7_growth_RX7 : ∀ w ∈ wsX70, w ∈ wsX7_growth := by decide +kernel
set_option maxHeartbeats 4000000 in
set_option maxRecDepth 100000 in
theorem x0_X7_growth (l : Launch) {D : va_G} {y : Nat → Nat} {ws : va_W} {x_mod_2 : Value} {x_mod_3 : Value} {x_mod_4 : Value} {x_mod_6 : Value} {x_mod_7 : Value} {x_mod_8 : Value} {x_mod_9 : Value} {x_mod_10 : Value} {x_mod_11 : Value} {x_mod_12 : Value} {x_mod_13 : Value} {x_mod_14 : Value} {x_mod_15 : Value} {x_mod_16 : Value} {x_mod_17 : Value} {x_mod_18 : Value} {x_mod_19 : Value} {x_mod_20 : Value} {x_mod_21 : Value} {x_mod_22 : Value} {x_mod_23 : Value} {x_mod_24 : Value} {x_mod_25 : Value} {x_mod_26 : Value} {x_mod_27 : Value} {x_mod_28 : Value} {x_mod_29 : Value} {x_mod_30 : Value} {x_mod_31 : Value} {x_mod_32 : Value} {p_mod a_mod : Nat} {t : Int32} {nw n th : Nat} (f0_mod : ws[p_mod]? = some (a_mod, .inr (8, [.int (nI (th)), .int (nI (n)), x_mod_2, x_mod_3, x_mod_4, .int (nI (nw)), x_mod_6, x_mod_7, x_mod_8, x_mod_9, x_mod_10, x_mod_11, x_mod_12, x_mod_13, x_mod_14, x_mod_15, x_mod_16, x_mod_17, x_mod_18, x_mod_19, x_mod_20, x_mod_21, x_mod_22, x_mod_23, x_mod_24, x_mod_25, x_mod_26, x_mod_27, x_mod_28, x_mod_29, x_mod_30, x_mod_31, x_mod_32]))) (hw : nw ≤ 24) (hn : n ≤ 12)  (hbad : t < 0 ∨ nI nw ≤ t) : gMf l yX7_growth wsX7_growth ({ frames := 2, cells := 0, slots := 0, locals := 43 }) D y [.ref a_mod, .int (t)] ws (fun r (_ : Unit) => r = 0) (fun (_ : Unit) => (ws.set p_mod (a_mod, .inr (8, [.int (nI (1)), .int (nI (n)), x_mod_2, x_mod_3, x_mod_4, .int (nI (nw)), x_mod_6, x_mod_7, x_mod_8, x_mod_9, x_mod_10, x_mod_11, x_mod_12, x_mod_13, x_mod_14, x_mod_15, x_mod_16, x_mod_17, x_mod_18, x_mod_19, x_mod_20, x_mod_21, x_mod_22, x_mod_23, x_mod_24, x_mod_25, x_mod_26, x_mod_27, x_mod_28, x_mod_29, x_mod_30, x_mod_31, x_mod_32])))) := by
  refine g_met_f (cc := cX7_growth) (maxL := 2) (by decide) rfl (Nat.le_of_ble_eq_true rfl) ?_
  intro p e s m below meth c A hx hb hml hr hts hown hnm hlocks hE hP hD hS hA ls hl
  have hown : s.vm.findClass RX7 = some m.cls := hown
  have hl : lv_has ls 2 [(0, .ref a_mod), (1, .int (t))] := hl
  have in_RX7 := in_x0_X7_growth_RX7
  refine lv_aload_n hx hb dX7_growth_0 rfl (lv_at hl 0 rfl) ?_
  refine lv_aload_n hx hb dX7_growth_1 rfl (lv_at hl 0 rfl) ?_
  refine lv_iload_n hx hb dX7_growth_2 rfl (lv_at hl 1 rfl) ?_
  refine gc_V_i (As := [.int (t)]) (rest := [.ref a_mod]) (c_X7_isPublished l f0_mod (by omega)) ⟨hx, hb, hml, hown, hts⟩ (cwV 1 hts gX7_growth_X7_isPublished rfl rfl rfl (by decide +kernel) ⟨Nat.le_of_ble_eq_true rfl, Nat.le_of_ble_eq_true rfl⟩) hE hP hD hS hA _ f0_mod rfl rfl rfl rfl hl.1 (Nat.le_of_ble_eq_true rfl) dX7_growth_3 ⟨Nat.le_of_ble_eq_true rfl, Nat.le_of_ble_eq_true rfl⟩ (fun r_3 u_3 H locs hP hD hS q_3 => ?_)
  subst q_3
  refine g_bif_eq (tgt := 19) hx hb dX7_growth_6 (by decide) (fun c_6 => ?_) (fun c_6 => absurd c_6 (by rw [decide_eq_false (fun z => z hbad)]; decide))
  refine lv_iconst (v := nI 1) hx hb dX7_growth_19 (by decide) ?_
  refine va_put (D := D) (ci := 8) (v := .int (nI (1))) (ty := .int) (C := RX7) (T := TX7) (N := 33) hx hb hts in_RX7 tyX7 tyX7_ok nmX7 hown hE.1 hP hD hS _ f0_mod rfl 0 (by decide) (hts (.fieldLink RX7 94 "BasketryOfficeModel" "thrown" "I") (by decide +kernel)) (fun _ h9 => h9) rfl (by decide +kernel) rfl rfl (Nat.le_of_ble_eq_true rfl) dX7_growth_20 (fun H locs hP hD hS => ?_)
  refine lv_aload_n hx hb dX7_growth_23 rfl (lv_at hl 0 rfl) ?_
  have f_mod := g_eq (x := (a_mod, .inr (8, [.int (nI (1)), .int (nI (n)), x_mod_2, x_mod_3, x_mod_4, .int (nI (nw)), x_mod_6, x_mod_7, x_mod_8, x_mod_9, x_mod_10, x_mod_11, x_mod_12, x_mod_13, x_mod_14, x_mod_15, x_mod_16, x_mod_17, x_mod_18, x_mod_19, x_mod_20, x_mod_21, x_mod_22, x_mod_23, x_mod_24, x_mod_25, x_mod_26, x_mod_27, x_mod_28, x_mod_29, x_mod_30, x_mod_31, x_mod_32]))) (f0_mod)
  refine va_get (D := D) (ci := 8) (v := .int (nI (1))) (C := RX7) (T := TX7) (N := 33) hx hb hts in_RX7 hown hE.1 hP _ f_mod rfl 0 (by decide) (hts (.fieldLink RX7 94 "BasketryOfficeModel" "thrown" "I") (by decide +kernel)) (fun _ h9 => h9) rfl dX7_growth_24 ?_
  refine g_if_le (tgt := 34) hx hb (by omega) dX7_growth_27 (by decide) (fun c_27 => absurd c_27 (by omega)) (fun c_27 => ?_)
  refine lv_fconst0 hx hb dX7_growth_30 ?_
  refine lv_goto (tgt := 58) hx hb dX7_growth_31 (by decide) ?_
  refine g_fret hx hb hr hlocks () dX7_growth_58 hS hP hD ?_
  exact rfl

theorem in_x1_X7_growth_RX7 : ∀ w ∈ wsX70, w ∈ wsX7_growth := by decide +kernel
set_option maxHeartbeats 4000000 in
set_option maxRecDepth 100000 in
theorem x1_X7_growth (l : Launch) {D : va_G} {y : Nat → Nat} {ws : va_W} {x_mod_2 : Value} {x_mod_3 : Value} {x_mod_4 : Value} {x_mod_6 : Value} {x_mod_7 : Value} {x_mod_8 : Value} {x_mod_9 : Value} {x_mod_10 : Value} {x_mod_11 : Value} {x_mod_12 : Value} {x_mod_13 : Value} {x_mod_14 : Value} {x_mod_15 : Value} {x_mod_16 : Value} {x_mod_17 : Value} {x_mod_18 : Value} {x_mod_19 : Value} {x_mod_20 : Value} {x_mod_21 : Value} {x_mod_22 : Value} {x_mod_23 : Value} {x_mod_24 : Value} {x_mod_25 : Value} {x_mod_26 : Value} {x_mod_27 : Value} {x_mod_28 : Value} {x_mod_29 : Value} {x_mod_30 : Value} {x_mod_31 : Value} {x_mod_32 : Value} {p_mod a_mod : Nat} {t : Nat} {nw n th : Nat} (f0_mod : ws[p_mod]? = some (a_mod, .inr (8, [.int (nI (th)), .int (nI (n)), x_mod_2, x_mod_3, x_mod_4, .int (nI (nw)), x_mod_6, x_mod_7, x_mod_8, x_mod_9, x_mod_10, x_mod_11, x_mod_12, x_mod_13, x_mod_14, x_mod_15, x_mod_16, x_mod_17, x_mod_18, x_mod_19, x_mod_20, x_mod_21, x_mod_22, x_mod_23, x_mod_24, x_mod_25, x_mod_26, x_mod_27, x_mod_28, x_mod_29, x_mod_30, x_mod_31, x_mod_32]))) (hw : nw ≤ 24) (hn : n ≤ 12) (ht : t < nw) (hbad : t < 12) : gMf l yX7_growth wsX7_growth ({ frames := 2, cells := 0, slots := 0, locals := 43 }) D y [.ref a_mod, .int (nI (t))] ws (fun r (_ : Unit) => r = 0) (fun (_ : Unit) => (ws.set p_mod (a_mod, .inr (8, [.int (nI (1)), .int (nI (n)), x_mod_2, x_mod_3, x_mod_4, .int (nI (nw)), x_mod_6, x_mod_7, x_mod_8, x_mod_9, x_mod_10, x_mod_11, x_mod_12, x_mod_13, x_mod_14, x_mod_15, x_mod_16, x_mod_17, x_mod_18, x_mod_19, x_mod_20, x_mod_21, x_mod_22, x_mod_23, x_mod_24, x_mod_25, x_mod_26, x_mod_27, x_mod_28, x_mod_29, x_mod_30, x_mod_31, x_mod_32])))) := by
  refine g_met_f (cc := cX7_growth) (maxL := 2) (by decide) rfl (Nat.le_of_ble_eq_true rfl) ?_
  intro p e s m below meth c A hx hb hml hr hts hown hnm hlocks hE hP hD hS hA ls hl
  have hown : s.vm.findClass RX7 = some m.cls := hown
  have hl : lv_has ls 2 [(0, .ref a_mod), (1, .int (nI (t)))] := hl
  have in_RX7 := in_x1_X7_growth_RX7
  refine lv_aload_n hx hb dX7_growth_0 rfl (lv_at hl 0 rfl) ?_
  refine lv_aload_n hx hb dX7_growth_1 rfl (lv_at hl 0 rfl) ?_
  refine lv_iload_n hx hb dX7_growth_2 rfl (lv_at hl 1 rfl) ?_
  refine gc_V_i (As := [.int (nI (t))]) (rest := [.ref a_mod]) (c_X7_isPublished l f0_mod (by omega)) ⟨hx, hb, hml, hown, hts⟩ (cwV 1 hts gX7_growth_X7_isPublished rfl rfl rfl (by decide +kernel) ⟨Nat.le_of_ble_eq_true rfl, Nat.le_of_ble_eq_true rfl⟩) hE hP hD hS hA _ f0_mod rfl rfl rfl rfl hl.1 (Nat.le_of_ble_eq_true rfl) dX7_growth_3 ⟨Nat.le_of_ble_eq_true rfl, Nat.le_of_ble_eq_true rfl⟩ (fun r_3 u_3 H locs hP hD hS q_3 => ?_)
  subst q_3
  refine g_bif_eq (tgt := 19) hx hb dX7_growth_6 (by decide) (fun c_6 => absurd c_6 (by rw [decide_eq_true (rq_lt ht (by omega))]; decide)) (fun c_6 => ?_)
  refine lv_iload_n hx hb dX7_growth_9 rfl (lv_at hl 1 rfl) ?_
  refine lv_bipush (v := nI 11) hx hb dX7_growth_10 (by decide) ?_
  refine g_icmp_le (tgt := 19) hx hb (by omega) (by omega) dX7_growth_12 (by decide) (fun c_12 => ?_) (fun c_12 => absurd c_12 (by omega))
  refine lv_iconst (v := nI 1) hx hb dX7_growth_19 (by decide) ?_
  refine va_put (D := D) (ci := 8) (v := .int (nI (1))) (ty := .int) (C := RX7) (T := TX7) (N := 33) hx hb hts in_RX7 tyX7 tyX7_ok nmX7 hown hE.1 hP hD hS _ f0_mod rfl 0 (by decide) (hts (.fieldLink RX7 94 "BasketryOfficeModel" "thrown" "I") (by decide +kernel)) (fun _ h9 => h9) rfl (by decide +kernel) rfl rfl (Nat.le_of_ble_eq_true rfl) dX7_growth_20 (fun H locs hP hD hS => ?_)
  refine lv_aload_n hx hb dX7_growth_23 rfl (lv_at hl 0 rfl) ?_
  have f_mod := g_eq (x := (a_mod, .inr (8, [.int (nI (1)), .int (nI (n)), x_mod_2, x_mod_3, x_mod_4, .int (nI (nw)), x_mod_6, x_mod_7, x_mod_8, x_mod_9, x_mod_10, x_mod_11, x_mod_12, x_mod_13, x_mod_14, x_mod_15, x_mod_16, x_mod_17, x_mod_18, x_mod_19, x_mod_20, x_mod_21, x_mod_22, x_mod_23, x_mod_24, x_mod_25, x_mod_26, x_mod_27, x_mod_28, x_mod_29, x_mod_30, x_mod_31, x_mod_32]))) (f0_mod)
  refine va_get (D := D) (ci := 8) (v := .int (nI (1))) (C := RX7) (T := TX7) (N := 33) hx hb hts in_RX7 hown hE.1 hP _ f_mod rfl 0 (by decide) (hts (.fieldLink RX7 94 "BasketryOfficeModel" "thrown" "I") (by decide +kernel)) (fun _ h9 => h9) rfl dX7_growth_24 ?_
  refine g_if_le (tgt := 34) hx hb (by omega) dX7_growth_27 (by decide) (fun c_27 => absurd c_27 (by omega)) (fun c_27 => ?_)
  refine lv_fconst0 hx hb dX7_growth_30 ?_
  refine lv_goto (tgt := 58) hx hb dX7_growth_31 (by decide) ?_
  refine g_fret hx hb hr hlocks () dX7_growth_58 hS hP hD ?_
  exact rfl

theorem in_c_X7_growth_RX7 : ∀ w ∈ wsX70, w ∈ wsX7_growth := by decide +kernel
set_option maxHeartbeats 4000000 in
set_option maxRecDepth 100000 in
theorem c_X7_growth (l : Launch) {D : va_G} {y : Nat → Nat} {ws : va_W} {x_mod_2 : Value} {x_mod_3 : Value} {x_mod_4 : Value} {x_mod_6 : Value} {x_mod_7 : Value} {x_mod_8 : Value} {x_mod_9 : Value} {x_mod_10 : Value} {x_mod_11 : Value} {x_mod_12 : Value} {x_mod_13 : Value} {x_mod_14 : Value} {x_mod_15 : Value} {x_mod_16 : Value} {x_mod_17 : Value} {x_mod_18 : Value} {x_mod_19 : Value} {x_mod_20 : Value} {x_mod_22 : Value} {x_mod_23 : Value} {x_mod_24 : Value} {x_mod_25 : Value} {x_mod_26 : Value} {x_mod_27 : Value} {x_mod_28 : Value} {x_mod_29 : Value} {x_mod_30 : Value} {x_mod_31 : Value} {x_mod_32 : Value} {p_mod p_mix a_mod a_mix : Nat} {mix : Nat → UInt64} {t : Nat} {nw n th : Nat} (f0_mod : ws[p_mod]? = some (a_mod, .inr (8, [.int (nI (th)), .int (nI (n)), x_mod_2, x_mod_3, x_mod_4, .int (nI (nw)), x_mod_6, x_mod_7, x_mod_8, x_mod_9, x_mod_10, x_mod_11, x_mod_12, x_mod_13, x_mod_14, x_mod_15, x_mod_16, x_mod_17, x_mod_18, x_mod_19, x_mod_20, .ref a_mix, x_mod_22, x_mod_23, x_mod_24, x_mod_25, x_mod_26, x_mod_27, x_mod_28, x_mod_29, x_mod_30, x_mod_31, x_mod_32]))) (f0_mix : ws[p_mix]? = some (a_mix, eD y 240 mix)) (hw : nw ≤ 24) (hn : n ≤ 12) (ht : t < nw) (h12 : 12 ≤ t) (hnn : nnGrow mix t) : gMf l yX7_growth wsX7_growth ({ frames := 2, cells := 0, slots := 0, locals := 43 }) D y [.ref a_mod, .int (nI (t))] ws (fun r (_ : Unit) => r = sGrow mix t) (fun (_ : Unit) => (ws.set p_mod (a_mod, .inr (8, [.int (nI (0)), .int (nI (n)), x_mod_2, x_mod_3, x_mod_4, .int (nI (nw)), x_mod_6, x_mod_7, x_mod_8, x_mod_9, x_mod_10, x_mod_11, x_mod_12, x_mod_13, x_mod_14, x_mod_15, x_mod_16, x_mod_17, x_mod_18, x_mod_19, x_mod_20, .ref a_mix, x_mod_22, x_mod_23, x_mod_24, x_mod_25, x_mod_26, x_mod_27, x_mod_28, x_mod_29, x_mod_30, x_mod_31, x_mod_32])))) := by
  refine g_met_f (cc := cX7_growth) (maxL := 2) (by decide) rfl (Nat.le_of_ble_eq_true rfl) ?_
  intro p e s m below meth c A hx hb hml hr hts hown hnm hlocks hE hP hD hS hA ls hl
  have hown : s.vm.findClass RX7 = some m.cls := hown
  have hl : lv_has ls 2 [(0, .ref a_mod), (1, .int (nI (t)))] := hl
  have in_RX7 := in_c_X7_growth_RX7
  refine lv_aload_n hx hb dX7_growth_0 rfl (lv_at hl 0 rfl) ?_
  refine lv_aload_n hx hb dX7_growth_1 rfl (lv_at hl 0 rfl) ?_
  refine lv_iload_n hx hb dX7_growth_2 rfl (lv_at hl 1 rfl) ?_
  refine gc_V_i (As := [.int (nI (t))]) (rest := [.ref a_mod]) (c_X7_isPublished l f0_mod (by omega)) ⟨hx, hb, hml, hown, hts⟩ (cwV 1 hts gX7_growth_X7_isPublished rfl rfl rfl (by decide +kernel) ⟨Nat.le_of_ble_eq_true rfl, Nat.le_of_ble_eq_true rfl⟩) hE hP hD hS hA _ f0_mod rfl rfl rfl rfl hl.1 (Nat.le_of_ble_eq_true rfl) dX7_growth_3 ⟨Nat.le_of_ble_eq_true rfl, Nat.le_of_ble_eq_true rfl⟩ (fun r_3 u_3 H locs hP hD hS q_3 => ?_)
  subst q_3
  refine g_bif_eq (tgt := 19) hx hb dX7_growth_6 (by decide) (fun c_6 => absurd c_6 (by rw [decide_eq_true (rq_lt ht (by omega))]; decide)) (fun c_6 => ?_)
  refine lv_iload_n hx hb dX7_growth_9 rfl (lv_at hl 1 rfl) ?_
  refine lv_bipush (v := nI 11) hx hb dX7_growth_10 (by decide) ?_
  refine g_icmp_le (tgt := 19) hx hb (by omega) (by omega) dX7_growth_12 (by decide) (fun c_12 => absurd c_12 (by omega)) (fun c_12 => ?_)
  refine lv_iconst (v := nI 0) hx hb dX7_growth_15 (by decide) ?_
  refine lv_goto (tgt := 20) hx hb dX7_growth_16 (by decide) ?_
  refine va_put (D := D) (ci := 8) (v := .int (nI (0))) (ty := .int) (C := RX7) (T := TX7) (N := 33) hx hb hts in_RX7 tyX7 tyX7_ok nmX7 hown hE.1 hP hD hS _ f0_mod rfl 0 (by decide) (hts (.fieldLink RX7 94 "BasketryOfficeModel" "thrown" "I") (by decide +kernel)) (fun _ h9 => h9) rfl (by decide +kernel) rfl rfl (Nat.le_of_ble_eq_true rfl) dX7_growth_20 (fun H locs hP hD hS => ?_)
  refine lv_aload_n hx hb dX7_growth_23 rfl (lv_at hl 0 rfl) ?_
  have f_mod := g_eq (x := (a_mod, .inr (8, [.int (nI (0)), .int (nI (n)), x_mod_2, x_mod_3, x_mod_4, .int (nI (nw)), x_mod_6, x_mod_7, x_mod_8, x_mod_9, x_mod_10, x_mod_11, x_mod_12, x_mod_13, x_mod_14, x_mod_15, x_mod_16, x_mod_17, x_mod_18, x_mod_19, x_mod_20, .ref a_mix, x_mod_22, x_mod_23, x_mod_24, x_mod_25, x_mod_26, x_mod_27, x_mod_28, x_mod_29, x_mod_30, x_mod_31, x_mod_32]))) (f0_mod)
  refine va_get (D := D) (ci := 8) (v := .int (nI (0))) (C := RX7) (T := TX7) (N := 33) hx hb hts in_RX7 hown hE.1 hP _ f_mod rfl 0 (by decide) (hts (.fieldLink RX7 94 "BasketryOfficeModel" "thrown" "I") (by decide +kernel)) (fun _ h9 => h9) rfl dX7_growth_24 ?_
  refine g_if_le (tgt := 34) hx hb (by omega) dX7_growth_27 (by decide) (fun c_27 => ?_) (fun c_27 => absurd c_27 (by omega))
  refine lv_aload_n hx hb dX7_growth_34 rfl (lv_at hl 0 rfl) ?_
  refine va_get (D := D) (ci := 8) (v := .ref a_mix) (C := RX7) (T := TX7) (N := 33) hx hb hts in_RX7 hown hE.1 hP _ f_mod rfl 21 (by decide) (hts (.fieldLink RX7 60 "BasketryOfficeModel" "index" "[D") (by decide +kernel)) (fun _ h9 => h9) rfl dX7_growth_35 ?_
  refine lv_iconst (v := nI 5) hx hb dX7_growth_38 (by decide) ?_
  refine lv_iload_n hx hb dX7_growth_39 rfl (lv_at hl 1 rfl) ?_
  refine g_imul hx hb dX7_growth_40 (pk_mul _ _) ?_
  have f_mix := g_ne (x := (a_mod, .inr (8, [.int (nI (0)), .int (nI (n)), x_mod_2, x_mod_3, x_mod_4, .int (nI (nw)), x_mod_6, x_mod_7, x_mod_8, x_mod_9, x_mod_10, x_mod_11, x_mod_12, x_mod_13, x_mod_14, x_mod_15, x_mod_16, x_mod_17, x_mod_18, x_mod_19, x_mod_20, .ref a_mix, x_mod_22, x_mod_23, x_mod_24, x_mod_25, x_mod_26, x_mod_27, x_mod_28, x_mod_29, x_mod_30, x_mod_31, x_mod_32]))) (g_kne f0_mod f0_mix (Nat.ne_of_beq_eq_false rfl)) (f0_mix)
  refine g_dald hx hb hE hP _ f_mix (by omega) (by decide) dX7_growth_41 ?_
  refine g_dv (v' := mix (t * 5 + 0)) (congrArg mix (by omega)) ?_
  refine lv_d2f hx hb dX7_growth_42 hnn.1 ?_
  refine lv_aload_n hx hb dX7_growth_43 rfl (lv_at hl 0 rfl) ?_
  refine va_get (D := D) (ci := 8) (v := .ref a_mix) (C := RX7) (T := TX7) (N := 33) hx hb hts in_RX7 hown hE.1 hP _ f_mod rfl 21 (by decide) (hts (.fieldLink RX7 60 "BasketryOfficeModel" "index" "[D") (by decide +kernel)) (fun _ h9 => h9) rfl dX7_growth_44 ?_
  refine lv_iconst (v := nI 5) hx hb dX7_growth_47 (by decide) ?_
  refine lv_iload_n hx hb dX7_growth_48 rfl (lv_at hl 1 rfl) ?_
  refine lv_bipush (v := nI 12) hx hb dX7_growth_49 (by decide) ?_
  refine g_isub hx hb dX7_growth_51 (pk_sub (by omega)) ?_
  refine g_imul hx hb dX7_growth_52 (pk_mul _ _) ?_
  refine g_dald hx hb hE hP _ f_mix (by omega) (by decide) dX7_growth_53 ?_
  refine g_dv (v' := mix ((t - 12) * 5 + 0)) (congrArg mix (by omega)) ?_
  refine lv_d2f hx hb dX7_growth_54 hnn.2.1 ?_
  refine lv_fdiv hx hb dX7_growth_55 hnn.2.2.1 ?_
  refine lv_fconst1 hx hb dX7_growth_56 ?_
  refine lv_fsub hx hb dX7_growth_57 hnn.2.2.2 ?_
  refine g_fret hx hb hr hlocks () dX7_growth_58 hS hP hD ?_
  exact rfl
