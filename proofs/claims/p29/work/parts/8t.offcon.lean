set_option maxHeartbeats 4000000 in
set_option maxRecDepth 100000 in
theorem x0_X6_contract (l : Launch) {D : va_G} {y : Nat → Nat} {ws : va_W} {x_off_0 : Value} {x_off_1 : Value} {x_off_2 : Value} {x_off_3 : Value} {x_off_4 : Value} {x_off_5 : Value} {x_ctl_0 : Value} {p_off p_ctl a_off a_ctl a_cta : Nat} {wg lg9 tr9 : Int32} {b_f : Bool} {nw nc : Nat} (f0_off : ws[p_off]? = some (a_off, .inr (7, [x_off_0, x_off_1, x_off_2, x_off_3, x_off_4, x_off_5, .ref a_ctl, .int (nI (nw))]))) (f0_ctl : ws[p_ctl]? = some (a_ctl, .inr (0, [x_ctl_0, .ref a_cta, .int (nI (nc))]))) (hfl : l.stackTraces = false) (hw : nw ≤ 24) (hc : nc ≤ 10)  (hbad : wg < nI 1 ∨ nI 1000000000 < wg) : gMxi l yX6_contract wsX6_contract ({ frames := 7, cells := 1, slots := 6, locals := 122 }) D y [.ref a_off, .int (wg), .int (lg9), .int (tr9), .int (gb (b_f))] ws "java/lang/IllegalArgumentException" := by
  refine g_metx_i (cc := cX6_contract) (maxL := 6) (by decide) rfl (Nat.le_of_ble_eq_true rfl) ?_
  intro p e s m below meth c A hx hb hml hr hts hown hnm hlocks hE hP hD hS hA hex hX ls hl
  have hown : s.vm.findClass RX6 = some m.cls := hown
  have hl : lv_has ls 6 [(0, .ref a_off), (1, .int (wg)), (2, .int (lg9)), (3, .int (tr9)), (4, .int (gb (b_f)))] := hl
  refine lv_iload_n hx hb dX6_contract_0 rfl (lv_at hl 1 rfl) ?_
  refine lv_iconst (v := nI 1) hx hb dX6_contract_1 (by decide) ?_
  refine lv_ldc (v := 1000000000) hx hb hown (hts (.constant RX6 138 (1000000000)) (by decide +kernel)) dX6_contract_2 ?_
  rw [show (1000000000 : Int32) = nI 1000000000 from by decide]
  exact gcx_S_v (As := [.int (wg), .int (nI (1)), .int (nI (1000000000))]) (rest := []) (x_X6_requireRange l hfl hbad) ⟨hx, hb, hml, hown, hts⟩ (va_cwS 3 hts gX6_contract_X6_requireRange rfl rfl rfl (by decide +kernel) ⟨Nat.le_of_ble_eq_true rfl, Nat.le_of_ble_eq_true rfl⟩) hE hX hex hlocks hP hD hS hA rfl rfl hl.1 (Nat.le_of_ble_eq_true rfl) dX6_contract_4 ⟨Nat.le_of_ble_eq_true rfl, Nat.le_of_ble_eq_true rfl⟩ (Nat.le_of_ble_eq_true rfl) (Nat.le_of_ble_eq_true rfl)

set_option maxHeartbeats 4000000 in
set_option maxRecDepth 100000 in
theorem x1_X6_contract (l : Launch) {D : va_G} {y : Nat → Nat} {ws : va_W} {x_off_0 : Value} {x_off_1 : Value} {x_off_2 : Value} {x_off_3 : Value} {x_off_4 : Value} {x_off_5 : Value} {x_ctl_0 : Value} {p_off p_ctl a_off a_ctl a_cta : Nat} {wg : Nat} {lg9 tr9 : Int32} {b_f : Bool} {nw nc : Nat} (f0_off : ws[p_off]? = some (a_off, .inr (7, [x_off_0, x_off_1, x_off_2, x_off_3, x_off_4, x_off_5, .ref a_ctl, .int (nI (nw))]))) (f0_ctl : ws[p_ctl]? = some (a_ctl, .inr (0, [x_ctl_0, .ref a_cta, .int (nI (nc))]))) (hfl : l.stackTraces = false) (hw : nw ≤ 24) (hc : nc ≤ 10) (hwg : 1 ≤ wg) (kwg : wg ≤ 1000000000) (hbad : lg9 < nI 0 ∨ nI 3 < lg9) : gMxi l yX6_contract wsX6_contract ({ frames := 7, cells := 1, slots := 6, locals := 122 }) D y [.ref a_off, .int (nI (wg)), .int (lg9), .int (tr9), .int (gb (b_f))] ws "java/lang/IllegalArgumentException" := by
  refine g_metx_i (cc := cX6_contract) (maxL := 6) (by decide) rfl (Nat.le_of_ble_eq_true rfl) ?_
  intro p e s m below meth c A hx hb hml hr hts hown hnm hlocks hE hP hD hS hA hex hX ls hl
  have hown : s.vm.findClass RX6 = some m.cls := hown
  have hl : lv_has ls 6 [(0, .ref a_off), (1, .int (nI (wg))), (2, .int (lg9)), (3, .int (tr9)), (4, .int (gb (b_f)))] := hl
  refine lv_iload_n hx hb dX6_contract_0 rfl (lv_at hl 1 rfl) ?_
  refine lv_iconst (v := nI 1) hx hb dX6_contract_1 (by decide) ?_
  refine lv_ldc (v := 1000000000) hx hb hown (hts (.constant RX6 138 (1000000000)) (by decide +kernel)) dX6_contract_2 ?_
  rw [show (1000000000 : Int32) = nI 1000000000 from by decide]
  refine gc_S_v (As := [.int (nI (wg)), .int (nI (1)), .int (nI (1000000000))]) (rest := []) (c_X6_requireRange l (rq_rg hwg kwg (by decide))) ⟨hx, hb, hml, hown, hts⟩ (va_cwS 3 hts gX6_contract_X6_requireRange rfl rfl rfl (by decide +kernel) ⟨Nat.le_of_ble_eq_true rfl, Nat.le_of_ble_eq_true rfl⟩) hE hP hD hS hA rfl rfl hl.1 (Nat.le_of_ble_eq_true rfl) dX6_contract_4 ⟨Nat.le_of_ble_eq_true rfl, Nat.le_of_ble_eq_true rfl⟩ (fun u_4 H locs hP hD hS q_4 => ?_)
  refine lv_iload_n hx hb dX6_contract_7 rfl (lv_at hl 2 rfl) ?_
  refine lv_iconst (v := nI 0) hx hb dX6_contract_8 (by decide) ?_
  refine lv_iconst (v := nI 3) hx hb dX6_contract_9 (by decide) ?_
  exact gcx_S_v (As := [.int (lg9), .int (nI (0)), .int (nI (3))]) (rest := []) (x_X6_requireRange l hfl hbad) ⟨hx, hb, hml, hown, hts⟩ (va_cwS 3 hts gX6_contract_X6_requireRange rfl rfl rfl (by decide +kernel) ⟨Nat.le_of_ble_eq_true rfl, Nat.le_of_ble_eq_true rfl⟩) hE hX hex hlocks hP hD hS hA rfl rfl hl.1 (Nat.le_of_ble_eq_true rfl) dX6_contract_10 ⟨Nat.le_of_ble_eq_true rfl, Nat.le_of_ble_eq_true rfl⟩ (Nat.le_of_ble_eq_true rfl) (Nat.le_of_ble_eq_true rfl)

set_option maxHeartbeats 4000000 in
set_option maxRecDepth 100000 in
theorem x2_X6_contract (l : Launch) {D : va_G} {y : Nat → Nat} {ws : va_W} {x_off_0 : Value} {x_off_1 : Value} {x_off_2 : Value} {x_off_3 : Value} {x_off_4 : Value} {x_off_5 : Value} {x_ctl_0 : Value} {p_off p_ctl a_off a_ctl a_cta : Nat} {wg lg9 : Nat} {tr9 : Int32} {b_f : Bool} {nw nc : Nat} (f0_off : ws[p_off]? = some (a_off, .inr (7, [x_off_0, x_off_1, x_off_2, x_off_3, x_off_4, x_off_5, .ref a_ctl, .int (nI (nw))]))) (f0_ctl : ws[p_ctl]? = some (a_ctl, .inr (0, [x_ctl_0, .ref a_cta, .int (nI (nc))]))) (hfl : l.stackTraces = false) (hw : nw ≤ 24) (hc : nc ≤ 10) (hwg : 1 ≤ wg) (kwg : wg ≤ 1000000000) (hlg9 : 0 ≤ lg9) (klg9 : lg9 ≤ 3) (hbad : tr9 < nI 0 ∨ nI 500 < tr9) : gMxi l yX6_contract wsX6_contract ({ frames := 7, cells := 1, slots := 6, locals := 122 }) D y [.ref a_off, .int (nI (wg)), .int (nI (lg9)), .int (tr9), .int (gb (b_f))] ws "java/lang/IllegalArgumentException" := by
  refine g_metx_i (cc := cX6_contract) (maxL := 6) (by decide) rfl (Nat.le_of_ble_eq_true rfl) ?_
  intro p e s m below meth c A hx hb hml hr hts hown hnm hlocks hE hP hD hS hA hex hX ls hl
  have hown : s.vm.findClass RX6 = some m.cls := hown
  have hl : lv_has ls 6 [(0, .ref a_off), (1, .int (nI (wg))), (2, .int (nI (lg9))), (3, .int (tr9)), (4, .int (gb (b_f)))] := hl
  refine lv_iload_n hx hb dX6_contract_0 rfl (lv_at hl 1 rfl) ?_
  refine lv_iconst (v := nI 1) hx hb dX6_contract_1 (by decide) ?_
  refine lv_ldc (v := 1000000000) hx hb hown (hts (.constant RX6 138 (1000000000)) (by decide +kernel)) dX6_contract_2 ?_
  rw [show (1000000000 : Int32) = nI 1000000000 from by decide]
  refine gc_S_v (As := [.int (nI (wg)), .int (nI (1)), .int (nI (1000000000))]) (rest := []) (c_X6_requireRange l (rq_rg hwg kwg (by decide))) ⟨hx, hb, hml, hown, hts⟩ (va_cwS 3 hts gX6_contract_X6_requireRange rfl rfl rfl (by decide +kernel) ⟨Nat.le_of_ble_eq_true rfl, Nat.le_of_ble_eq_true rfl⟩) hE hP hD hS hA rfl rfl hl.1 (Nat.le_of_ble_eq_true rfl) dX6_contract_4 ⟨Nat.le_of_ble_eq_true rfl, Nat.le_of_ble_eq_true rfl⟩ (fun u_4 H locs hP hD hS q_4 => ?_)
  refine lv_iload_n hx hb dX6_contract_7 rfl (lv_at hl 2 rfl) ?_
  refine lv_iconst (v := nI 0) hx hb dX6_contract_8 (by decide) ?_
  refine lv_iconst (v := nI 3) hx hb dX6_contract_9 (by decide) ?_
  refine gc_S_v (As := [.int (nI (lg9)), .int (nI (0)), .int (nI (3))]) (rest := []) (c_X6_requireRange l (rq_rg hlg9 klg9 (by decide))) ⟨hx, hb, hml, hown, hts⟩ (va_cwS 3 hts gX6_contract_X6_requireRange rfl rfl rfl (by decide +kernel) ⟨Nat.le_of_ble_eq_true rfl, Nat.le_of_ble_eq_true rfl⟩) hE hP hD hS hA rfl rfl hl.1 (Nat.le_of_ble_eq_true rfl) dX6_contract_10 ⟨Nat.le_of_ble_eq_true rfl, Nat.le_of_ble_eq_true rfl⟩ (fun u_10 H locs hP hD hS q_10 => ?_)
  refine lv_iload_n hx hb dX6_contract_13 rfl (lv_at hl 3 rfl) ?_
  refine lv_iconst (v := nI 0) hx hb dX6_contract_14 (by decide) ?_
  refine lv_sipush (v := nI 500) hx hb dX6_contract_15 (by decide) ?_
  exact gcx_S_v (As := [.int (tr9), .int (nI (0)), .int (nI (500))]) (rest := []) (x_X6_requireRange l hfl hbad) ⟨hx, hb, hml, hown, hts⟩ (va_cwS 3 hts gX6_contract_X6_requireRange rfl rfl rfl (by decide +kernel) ⟨Nat.le_of_ble_eq_true rfl, Nat.le_of_ble_eq_true rfl⟩) hE hX hex hlocks hP hD hS hA rfl rfl hl.1 (Nat.le_of_ble_eq_true rfl) dX6_contract_18 ⟨Nat.le_of_ble_eq_true rfl, Nat.le_of_ble_eq_true rfl⟩ (Nat.le_of_ble_eq_true rfl) (Nat.le_of_ble_eq_true rfl)

theorem in_x3_X6_contract_RX6 : ∀ w ∈ wsX60, w ∈ wsX6_contract := by decide +kernel
theorem inx_x3_X6_contract_72 : ∀ w ∈ (vx_atS RX6 72 "java/lang/IllegalStateException" ["java/lang/RuntimeException", "java/lang/Exception"]).filter goodWord, w ∈ wsX6_contract := by decide +kernel
set_option maxHeartbeats 4000000 in
set_option maxRecDepth 100000 in
theorem x3_X6_contract (l : Launch) {D : va_G} {y : Nat → Nat} {ws : va_W} {x_off_0 : Value} {x_off_1 : Value} {x_off_2 : Value} {x_off_3 : Value} {x_off_4 : Value} {x_off_5 : Value} {x_ctl_0 : Value} {p_off p_ctl a_off a_ctl a_cta : Nat} {wg lg9 tr9 : Nat} {b_f : Bool} {nw nc : Nat} (f0_off : ws[p_off]? = some (a_off, .inr (7, [x_off_0, x_off_1, x_off_2, x_off_3, x_off_4, x_off_5, .ref a_ctl, .int (nI (nw))]))) (f0_ctl : ws[p_ctl]? = some (a_ctl, .inr (0, [x_ctl_0, .ref a_cta, .int (nI (nc))]))) (hfl : l.stackTraces = false) (hw : nw ≤ 24) (hc : nc ≤ 10) (hwg : 1 ≤ wg) (kwg : wg ≤ 1000000000) (hlg9 : 0 ≤ lg9) (klg9 : lg9 ≤ 3) (htr9 : 0 ≤ tr9) (ktr9 : tr9 ≤ 500) (hbad : nw = 0) : gMxi l yX6_contract wsX6_contract ({ frames := 6, cells := 1, slots := 6, locals := 100 }) D y [.ref a_off, .int (nI (wg)), .int (nI (lg9)), .int (nI (tr9)), .int (gb (b_f))] ws "java/lang/IllegalStateException" := by
  refine g_metx_i (cc := cX6_contract) (maxL := 6) (by decide) rfl (Nat.le_of_ble_eq_true rfl) ?_
  intro p e s m below meth c A hx hb hml hr hts hown hnm hlocks hE hP hD hS hA hex hX ls hl
  have hown : s.vm.findClass RX6 = some m.cls := hown
  have hl : lv_has ls 6 [(0, .ref a_off), (1, .int (nI (wg))), (2, .int (nI (lg9))), (3, .int (nI (tr9))), (4, .int (gb (b_f)))] := hl
  have in_RX6 := in_x3_X6_contract_RX6
  refine lv_iload_n hx hb dX6_contract_0 rfl (lv_at hl 1 rfl) ?_
  refine lv_iconst (v := nI 1) hx hb dX6_contract_1 (by decide) ?_
  refine lv_ldc (v := 1000000000) hx hb hown (hts (.constant RX6 138 (1000000000)) (by decide +kernel)) dX6_contract_2 ?_
  rw [show (1000000000 : Int32) = nI 1000000000 from by decide]
  refine gc_S_v (As := [.int (nI (wg)), .int (nI (1)), .int (nI (1000000000))]) (rest := []) (c_X6_requireRange l (rq_rg hwg kwg (by decide))) ⟨hx, hb, hml, hown, hts⟩ (va_cwS 3 hts gX6_contract_X6_requireRange rfl rfl rfl (by decide +kernel) ⟨Nat.le_of_ble_eq_true rfl, Nat.le_of_ble_eq_true rfl⟩) hE hP hD hS hA rfl rfl hl.1 (Nat.le_of_ble_eq_true rfl) dX6_contract_4 ⟨Nat.le_of_ble_eq_true rfl, Nat.le_of_ble_eq_true rfl⟩ (fun u_4 H locs hP hD hS q_4 => ?_)
  refine lv_iload_n hx hb dX6_contract_7 rfl (lv_at hl 2 rfl) ?_
  refine lv_iconst (v := nI 0) hx hb dX6_contract_8 (by decide) ?_
  refine lv_iconst (v := nI 3) hx hb dX6_contract_9 (by decide) ?_
  refine gc_S_v (As := [.int (nI (lg9)), .int (nI (0)), .int (nI (3))]) (rest := []) (c_X6_requireRange l (rq_rg hlg9 klg9 (by decide))) ⟨hx, hb, hml, hown, hts⟩ (va_cwS 3 hts gX6_contract_X6_requireRange rfl rfl rfl (by decide +kernel) ⟨Nat.le_of_ble_eq_true rfl, Nat.le_of_ble_eq_true rfl⟩) hE hP hD hS hA rfl rfl hl.1 (Nat.le_of_ble_eq_true rfl) dX6_contract_10 ⟨Nat.le_of_ble_eq_true rfl, Nat.le_of_ble_eq_true rfl⟩ (fun u_10 H locs hP hD hS q_10 => ?_)
  refine lv_iload_n hx hb dX6_contract_13 rfl (lv_at hl 3 rfl) ?_
  refine lv_iconst (v := nI 0) hx hb dX6_contract_14 (by decide) ?_
  refine lv_sipush (v := nI 500) hx hb dX6_contract_15 (by decide) ?_
  refine gc_S_v (As := [.int (nI (tr9)), .int (nI (0)), .int (nI (500))]) (rest := []) (c_X6_requireRange l (rq_rg htr9 ktr9 (by decide))) ⟨hx, hb, hml, hown, hts⟩ (va_cwS 3 hts gX6_contract_X6_requireRange rfl rfl rfl (by decide +kernel) ⟨Nat.le_of_ble_eq_true rfl, Nat.le_of_ble_eq_true rfl⟩) hE hP hD hS hA rfl rfl hl.1 (Nat.le_of_ble_eq_true rfl) dX6_contract_18 ⟨Nat.le_of_ble_eq_true rfl, Nat.le_of_ble_eq_true rfl⟩ (fun u_18 H locs hP hD hS q_18 => ?_)
  refine lv_aload_n hx hb dX6_contract_21 rfl (lv_at hl 0 rfl) ?_
  refine va_get (D := D) (ci := 7) (v := .int (nI (nw))) (C := RX6) (T := TX6) (N := 8) hx hb hts in_RX6 hown hE.1 (gv1 hP f0_off) 0 rfl rfl 7 (by decide) (hts (.fieldLink RX6 49 "BasketryOffice" "now" "I") (by decide +kernel)) (fun _ h9 => h9) rfl dX6_contract_22 ?_
  refine g_if_ne (tgt := 38) hx hb (by omega) dX6_contract_25 (by decide) (fun c_25 => absurd c_25 (by omega)) (fun c_25 => ?_)
  exact g_throwS hx hb hfl (cls := "java/lang/IllegalStateException") (text := "nothing is published") (names := ["java/lang/RuntimeException", "java/lang/Exception"]) (ik := 68) (is := 173) (ic := 72) hown (by decide +kernel) htex_72 (hts (.classLink RX6 68 "java/lang/IllegalStateException") (by decide +kernel)) (hts (.initialized "java/lang/IllegalStateException") (by decide +kernel)) (by decide +kernel) (fun w hw => hts w (inx_x3_X6_contract_72 w hw)) hat2_72 (vx_c (va_Nw.use rfl (hE.2 _ hnest_72)) (vx_c (va_Nw.use rfl (hE.2 _ hnest_r)) (vx_c (va_Nw.use rfl (hE.2 _ hnest_e)) (vx_c (va_Nw.use rfl (hE.2 _ hnest_t)) vx_n)))) hgood_72 hX hS hP hD (hl.1.trans hml.symm) hex hlocks dX6_contract_28 dX6_contract_31 dX6_contract_32 dX6_contract_34 dX6_contract_37 (Nat.le_of_ble_eq_true rfl) (Nat.le_of_ble_eq_true rfl) (Nat.le_of_ble_eq_true rfl) (Nat.le_of_ble_eq_true rfl) (Nat.le_of_ble_eq_true rfl) (Nat.le_of_ble_eq_true rfl)

theorem in_x4_X6_contract_RX6 : ∀ w ∈ wsX60, w ∈ wsX6_contract := by decide +kernel
theorem inx_x4_X6_contract_72 : ∀ w ∈ (vx_atS RX6 72 "java/lang/IllegalStateException" ["java/lang/RuntimeException", "java/lang/Exception"]).filter goodWord, w ∈ wsX6_contract := by decide +kernel
set_option maxHeartbeats 4000000 in
set_option maxRecDepth 100000 in
theorem x4_X6_contract (l : Launch) {D : va_G} {y : Nat → Nat} {ws : va_W} {x_off_0 : Value} {x_off_1 : Value} {x_off_2 : Value} {x_off_3 : Value} {x_off_4 : Value} {x_off_5 : Value} {x_ctl_0 : Value} {p_off p_ctl a_off a_ctl a_cta : Nat} {wg lg9 tr9 : Nat} {b_f : Bool} {nw nc : Nat} (f0_off : ws[p_off]? = some (a_off, .inr (7, [x_off_0, x_off_1, x_off_2, x_off_3, x_off_4, x_off_5, .ref a_ctl, .int (nI (nw))]))) (f0_ctl : ws[p_ctl]? = some (a_ctl, .inr (0, [x_ctl_0, .ref a_cta, .int (nI (nc))]))) (hfl : l.stackTraces = false) (hw : nw ≤ 24) (hc : nc ≤ 10) (hwg : 1 ≤ wg) (kwg : wg ≤ 1000000000) (hlg9 : 0 ≤ lg9) (klg9 : lg9 ≤ 3) (htr9 : 0 ≤ tr9) (ktr9 : tr9 ≤ 500) (hnw1 : 0 < nw) (hbad : 10 ≤ nc) : gMxi l yX6_contract wsX6_contract ({ frames := 6, cells := 1, slots := 6, locals := 100 }) D y [.ref a_off, .int (nI (wg)), .int (nI (lg9)), .int (nI (tr9)), .int (gb (b_f))] ws "java/lang/IllegalStateException" := by
  refine g_metx_i (cc := cX6_contract) (maxL := 6) (by decide) rfl (Nat.le_of_ble_eq_true rfl) ?_
  intro p e s m below meth c A hx hb hml hr hts hown hnm hlocks hE hP hD hS hA hex hX ls hl
  have hown : s.vm.findClass RX6 = some m.cls := hown
  have hl : lv_has ls 6 [(0, .ref a_off), (1, .int (nI (wg))), (2, .int (nI (lg9))), (3, .int (nI (tr9))), (4, .int (gb (b_f)))] := hl
  have in_RX6 := in_x4_X6_contract_RX6
  refine lv_iload_n hx hb dX6_contract_0 rfl (lv_at hl 1 rfl) ?_
  refine lv_iconst (v := nI 1) hx hb dX6_contract_1 (by decide) ?_
  refine lv_ldc (v := 1000000000) hx hb hown (hts (.constant RX6 138 (1000000000)) (by decide +kernel)) dX6_contract_2 ?_
  rw [show (1000000000 : Int32) = nI 1000000000 from by decide]
  refine gc_S_v (As := [.int (nI (wg)), .int (nI (1)), .int (nI (1000000000))]) (rest := []) (c_X6_requireRange l (rq_rg hwg kwg (by decide))) ⟨hx, hb, hml, hown, hts⟩ (va_cwS 3 hts gX6_contract_X6_requireRange rfl rfl rfl (by decide +kernel) ⟨Nat.le_of_ble_eq_true rfl, Nat.le_of_ble_eq_true rfl⟩) hE hP hD hS hA rfl rfl hl.1 (Nat.le_of_ble_eq_true rfl) dX6_contract_4 ⟨Nat.le_of_ble_eq_true rfl, Nat.le_of_ble_eq_true rfl⟩ (fun u_4 H locs hP hD hS q_4 => ?_)
  refine lv_iload_n hx hb dX6_contract_7 rfl (lv_at hl 2 rfl) ?_
  refine lv_iconst (v := nI 0) hx hb dX6_contract_8 (by decide) ?_
  refine lv_iconst (v := nI 3) hx hb dX6_contract_9 (by decide) ?_
  refine gc_S_v (As := [.int (nI (lg9)), .int (nI (0)), .int (nI (3))]) (rest := []) (c_X6_requireRange l (rq_rg hlg9 klg9 (by decide))) ⟨hx, hb, hml, hown, hts⟩ (va_cwS 3 hts gX6_contract_X6_requireRange rfl rfl rfl (by decide +kernel) ⟨Nat.le_of_ble_eq_true rfl, Nat.le_of_ble_eq_true rfl⟩) hE hP hD hS hA rfl rfl hl.1 (Nat.le_of_ble_eq_true rfl) dX6_contract_10 ⟨Nat.le_of_ble_eq_true rfl, Nat.le_of_ble_eq_true rfl⟩ (fun u_10 H locs hP hD hS q_10 => ?_)
  refine lv_iload_n hx hb dX6_contract_13 rfl (lv_at hl 3 rfl) ?_
  refine lv_iconst (v := nI 0) hx hb dX6_contract_14 (by decide) ?_
  refine lv_sipush (v := nI 500) hx hb dX6_contract_15 (by decide) ?_
  refine gc_S_v (As := [.int (nI (tr9)), .int (nI (0)), .int (nI (500))]) (rest := []) (c_X6_requireRange l (rq_rg htr9 ktr9 (by decide))) ⟨hx, hb, hml, hown, hts⟩ (va_cwS 3 hts gX6_contract_X6_requireRange rfl rfl rfl (by decide +kernel) ⟨Nat.le_of_ble_eq_true rfl, Nat.le_of_ble_eq_true rfl⟩) hE hP hD hS hA rfl rfl hl.1 (Nat.le_of_ble_eq_true rfl) dX6_contract_18 ⟨Nat.le_of_ble_eq_true rfl, Nat.le_of_ble_eq_true rfl⟩ (fun u_18 H locs hP hD hS q_18 => ?_)
  refine lv_aload_n hx hb dX6_contract_21 rfl (lv_at hl 0 rfl) ?_
  refine va_get (D := D) (ci := 7) (v := .int (nI (nw))) (C := RX6) (T := TX6) (N := 8) hx hb hts in_RX6 hown hE.1 (gv1 hP f0_off) 0 rfl rfl 7 (by decide) (hts (.fieldLink RX6 49 "BasketryOffice" "now" "I") (by decide +kernel)) (fun _ h9 => h9) rfl dX6_contract_22 ?_
  refine g_if_ne (tgt := 38) hx hb (by omega) dX6_contract_25 (by decide) (fun c_25 => ?_) (fun c_25 => absurd c_25 (by omega))
  refine lv_aload_n hx hb dX6_contract_38 rfl (lv_at hl 0 rfl) ?_
  refine va_get (D := D) (ci := 7) (v := .ref a_ctl) (C := RX6) (T := TX6) (N := 8) hx hb hts in_RX6 hown hE.1 (gv1 hP f0_off) 0 rfl rfl 6 (by decide) (hts (.fieldLink RX6 45 "BasketryOffice" "contracts" "Ljava/util/ArrayList;") (by decide +kernel)) (fun _ h9 => h9) rfl dX6_contract_39 ?_
  refine gc_V_i (As := []) (rest := []) (c_Jx4a65c_size_8abf5 l f0_ctl) ⟨hx, hb, hml, hown, hts⟩ (cwV 0 hts gX6_contract_Jx4a65c_size_8abf5 rfl rfl rfl (by decide +kernel) ⟨Nat.le_of_ble_eq_true rfl, Nat.le_of_ble_eq_true rfl⟩) hE hP hD hS hA _ f0_ctl rfl rfl rfl rfl hl.1 (Nat.le_of_ble_eq_true rfl) dX6_contract_42 ⟨Nat.le_of_ble_eq_true rfl, Nat.le_of_ble_eq_true rfl⟩ (fun r_42 u_42 H locs hP hD hS q_42 => ?_)
  subst q_42
  refine lv_bipush (v := nI 10) hx hb dX6_contract_45 (by decide) ?_
  refine g_icmp_lt (tgt := 60) hx hb (by omega) (by omega) dX6_contract_47 (by decide) (fun c_47 => absurd c_47 (by omega)) (fun c_47 => ?_)
  exact g_throwS hx hb hfl (cls := "java/lang/IllegalStateException") (text := "there are 10 contracts") (names := ["java/lang/RuntimeException", "java/lang/Exception"]) (ik := 68) (is := 175) (ic := 72) hown (by decide +kernel) htex_72 (hts (.classLink RX6 68 "java/lang/IllegalStateException") (by decide +kernel)) (hts (.initialized "java/lang/IllegalStateException") (by decide +kernel)) (by decide +kernel) (fun w hw => hts w (inx_x4_X6_contract_72 w hw)) hat2_72 (vx_c (va_Nw.use rfl (hE.2 _ hnest_72)) (vx_c (va_Nw.use rfl (hE.2 _ hnest_r)) (vx_c (va_Nw.use rfl (hE.2 _ hnest_e)) (vx_c (va_Nw.use rfl (hE.2 _ hnest_t)) vx_n)))) hgood_72 hX hS hP hD (hl.1.trans hml.symm) hex hlocks dX6_contract_50 dX6_contract_53 dX6_contract_54 dX6_contract_56 dX6_contract_59 (Nat.le_of_ble_eq_true rfl) (Nat.le_of_ble_eq_true rfl) (Nat.le_of_ble_eq_true rfl) (Nat.le_of_ble_eq_true rfl) (Nat.le_of_ble_eq_true rfl) (Nat.le_of_ble_eq_true rfl)

theorem in_c_X6_contract_RX0 : ∀ w ∈ wsX00, w ∈ wsX6_contract := by decide +kernel
theorem in_c_X6_contract_RX6 : ∀ w ∈ wsX60, w ∈ wsX6_contract := by decide +kernel
set_option maxHeartbeats 4000000 in
set_option maxRecDepth 100000 in
theorem c_X6_contract (l : Launch) {D : va_G} {y : Nat → Nat} {ws : va_W} {x_off_0 : Value} {x_off_1 : Value} {x_off_2 : Value} {x_off_3 : Value} {x_off_5 : Value} {mi : Nat} {p_off p_num p_ctl p_cta a_off a_num a_ctl a_cta a_emp : Nat} {num : Nat → Nat} {qc : Nat → Option Nat} {wg lg9 tr9 nw : Nat} {b_f : Bool} {mc9 : Int32} {nc capc : Nat} (f0_off : ws[p_off]? = some (a_off, .inr (7, [x_off_0, x_off_1, x_off_2, x_off_3, .ref a_num, x_off_5, .ref a_ctl, .int (nI (nw))]))) (f0_num : ws[p_num]? = some (a_num, eN y 24 num)) (f0_ctl : ws[p_ctl]? = some (a_ctl, .inr (0, [.int (mc9), .ref a_cta, .int (nI (nc))]))) (f0_cta : ws[p_cta]? = some (a_cta, eQ y capc qc)) (b_num : ∀ k, num k ≤ 2147483647) (hwg : 1 ≤ wg) (kwg : wg ≤ 1000000000) (hlg9 : 0 ≤ lg9) (klg9 : lg9 ≤ 3) (htr9 : 0 ≤ tr9) (ktr9 : tr9 ≤ 500) (hw : nw ≤ 24) (hnw1 : 0 < nw) (hnc : nc < 10) (hncc : nc < capc) (hcap : capc < 2 ^ 31) : gYi l yX6_contract wsX6_contract ({ frames := 2, cells := 1, slots := 9, locals := 47 }) D y a_emp mi [.ref a_off, .int (nI (wg)), .int (nI (lg9)), .int (nI (tr9)), .int (gb (b_f))] ws (fun r (u : va_W) => gKeep ws u [p_ctl, p_cta] ∧ u.length = ws.length + 1 ∧ r = nI nc ∧ ∃ a_con : Nat, u[p_ctl]? = some (a_ctl, .inr (0, [.int (mc9 + nI 1), .ref a_cta, .int (nI (nc + 1))])) ∧ u[p_cta]? = some (a_cta, eQ y capc (va_up qc (nc) (some a_con))) ∧ u[ws.length + 0]? = some (a_con, .inr (1, [.int (nI (wg)), .int (nI (lg9)), .int (nI (tr9)), .int (gb (b_f)), .int (nI (nw - 1)), .long (lN (wg)), .long (lN (num (nw - 1))), .int (nI (nw - 1)), .long (lN (0))]))) (fun (u : va_W) => u) := by
  refine g_mety_i (cc := cX6_contract) (maxL := 6) (by decide) rfl (Nat.le_of_ble_eq_true rfl) ?_
  intro p e s m below meth c A hx hb hml hr hts hown hnm hlocks hE hP hD hS hA hY ls hl
  have hown : s.vm.findClass RX6 = some m.cls := hown
  have hl : lv_has ls 6 [(0, .ref a_off), (1, .int (nI (wg))), (2, .int (nI (lg9))), (3, .int (nI (tr9))), (4, .int (gb (b_f)))] := hl
  have in_RX0 := in_c_X6_contract_RX0
  have in_RX6 := in_c_X6_contract_RX6
  refine lv_iload_n hx hb dX6_contract_0 rfl (lv_at hl 1 rfl) ?_
  refine lv_iconst (v := nI 1) hx hb dX6_contract_1 (by decide) ?_
  refine lv_ldc (v := 1000000000) hx hb hown (hts (.constant RX6 138 (1000000000)) (by decide +kernel)) dX6_contract_2 ?_
  rw [show (1000000000 : Int32) = nI 1000000000 from by decide]
  refine gc_S_v (As := [.int (nI (wg)), .int (nI (1)), .int (nI (1000000000))]) (rest := []) (c_X6_requireRange l (rq_rg hwg kwg (by decide))) ⟨hx, hb, hml, hown, hts⟩ (va_cwS 3 hts gX6_contract_X6_requireRange rfl rfl rfl (by decide +kernel) ⟨Nat.le_of_ble_eq_true rfl, Nat.le_of_ble_eq_true rfl⟩) hE hP hD hS hA rfl rfl hl.1 (Nat.le_of_ble_eq_true rfl) dX6_contract_4 ⟨Nat.le_of_ble_eq_true rfl, Nat.le_of_ble_eq_true rfl⟩ (fun u_4 H locs hP hD hS q_4 => ?_)
  refine lv_iload_n hx hb dX6_contract_7 rfl (lv_at hl 2 rfl) ?_
  refine lv_iconst (v := nI 0) hx hb dX6_contract_8 (by decide) ?_
  refine lv_iconst (v := nI 3) hx hb dX6_contract_9 (by decide) ?_
  refine gc_S_v (As := [.int (nI (lg9)), .int (nI (0)), .int (nI (3))]) (rest := []) (c_X6_requireRange l (rq_rg hlg9 klg9 (by decide))) ⟨hx, hb, hml, hown, hts⟩ (va_cwS 3 hts gX6_contract_X6_requireRange rfl rfl rfl (by decide +kernel) ⟨Nat.le_of_ble_eq_true rfl, Nat.le_of_ble_eq_true rfl⟩) hE hP hD hS hA rfl rfl hl.1 (Nat.le_of_ble_eq_true rfl) dX6_contract_10 ⟨Nat.le_of_ble_eq_true rfl, Nat.le_of_ble_eq_true rfl⟩ (fun u_10 H locs hP hD hS q_10 => ?_)
  refine lv_iload_n hx hb dX6_contract_13 rfl (lv_at hl 3 rfl) ?_
  refine lv_iconst (v := nI 0) hx hb dX6_contract_14 (by decide) ?_
  refine lv_sipush (v := nI 500) hx hb dX6_contract_15 (by decide) ?_
  refine gc_S_v (As := [.int (nI (tr9)), .int (nI (0)), .int (nI (500))]) (rest := []) (c_X6_requireRange l (rq_rg htr9 ktr9 (by decide))) ⟨hx, hb, hml, hown, hts⟩ (va_cwS 3 hts gX6_contract_X6_requireRange rfl rfl rfl (by decide +kernel) ⟨Nat.le_of_ble_eq_true rfl, Nat.le_of_ble_eq_true rfl⟩) hE hP hD hS hA rfl rfl hl.1 (Nat.le_of_ble_eq_true rfl) dX6_contract_18 ⟨Nat.le_of_ble_eq_true rfl, Nat.le_of_ble_eq_true rfl⟩ (fun u_18 H locs hP hD hS q_18 => ?_)
  refine lv_aload_n hx hb dX6_contract_21 rfl (lv_at hl 0 rfl) ?_
  refine va_get (D := D) (ci := 7) (v := .int (nI (nw))) (C := RX6) (T := TX6) (N := 8) hx hb hts in_RX6 hown hE.1 (gv1 hP f0_off) 0 rfl rfl 7 (by decide) (hts (.fieldLink RX6 49 "BasketryOffice" "now" "I") (by decide +kernel)) (fun _ h9 => h9) rfl dX6_contract_22 ?_
  refine g_if_ne (tgt := 38) hx hb (by omega) dX6_contract_25 (by decide) (fun c_25 => ?_) (fun c_25 => absurd c_25 (by omega))
  refine lv_aload_n hx hb dX6_contract_38 rfl (lv_at hl 0 rfl) ?_
  refine va_get (D := D) (ci := 7) (v := .ref a_ctl) (C := RX6) (T := TX6) (N := 8) hx hb hts in_RX6 hown hE.1 (gv1 hP f0_off) 0 rfl rfl 6 (by decide) (hts (.fieldLink RX6 45 "BasketryOffice" "contracts" "Ljava/util/ArrayList;") (by decide +kernel)) (fun _ h9 => h9) rfl dX6_contract_39 ?_
  refine gc_V_i (As := []) (rest := []) (c_Jx4a65c_size_8abf5 l f0_ctl) ⟨hx, hb, hml, hown, hts⟩ (cwV 0 hts gX6_contract_Jx4a65c_size_8abf5 rfl rfl rfl (by decide +kernel) ⟨Nat.le_of_ble_eq_true rfl, Nat.le_of_ble_eq_true rfl⟩) hE hP hD hS hA _ f0_ctl rfl rfl rfl rfl hl.1 (Nat.le_of_ble_eq_true rfl) dX6_contract_42 ⟨Nat.le_of_ble_eq_true rfl, Nat.le_of_ble_eq_true rfl⟩ (fun r_42 u_42 H locs hP hD hS q_42 => ?_)
  subst q_42
  refine lv_bipush (v := nI 10) hx hb dX6_contract_45 (by decide) ?_
  refine g_icmp_lt (tgt := 60) hx hb (by omega) (by omega) dX6_contract_47 (by decide) (fun c_47 => ?_) (fun c_47 => absurd c_47 (by omega))
  refine gv_add (by intro _; rfl) (fun kk9 => va_new (ci := 1) (fs := [.int (nI (0)), .int (nI (0)), .int (nI (0)), .int (gb (false)), .int (nI (0)), .long (lN (0)), .long (lN (0)), .int (nI (0)), .long (lN (0))]) (C := RX0) (T := TX0) (N := 9) hx hb hts in_RX0 tyX0 tyX0_ok hown (hts (.classLink RX6 160 RX0) (by decide +kernel)) (hts (.instantiable RX0 9) (by decide +kernel)) (hts (.initialized RX0) (by decide +kernel)) hE.1 hP hD hS hA rfl (fun j hj => by rcases (show j = 0 ∨ j = 1 ∨ j = 2 ∨ j = 3 ∨ j = 4 ∨ j = 5 ∨ j = 6 ∨ j = 7 ∨ j = 8 by omega) with rfl | rfl | rfl | rfl | rfl | rfl | rfl | rfl | rfl <;> rfl) (Nat.le_of_ble_eq_true rfl) (Nat.le_of_ble_eq_true rfl) dX6_contract_60 kk9) (fun a_con H hP hD hS => ?_)
  obtain ⟨p_con, hp_con⟩ : ∃ z, z = (ws).length := ⟨_, rfl⟩
  obtain ⟨B60_0, hB60_0⟩ : ∃ B, B = (ws ++ [((a_con, .inr (1, [.int (nI (0)), .int (nI (0)), .int (nI (0)), .int (gb (false)), .int (nI (0)), .long (lN (0)), .long (lN (0)), .int (nI (0)), .long (lN (0))])) : Nat × va_E)]) := ⟨_, rfl⟩
  have hq_con : p_con = ws.length + 0 := hp_con
  have hLB60_0 : B60_0.length = ws.length + 1 := by rw [hB60_0, List.length_append]; rfl
  have hKB60_0 : gKeep ws B60_0 [p_ctl, p_cta] := gKeep.app hB60_0 (gKeep.refl ws _)
  have e60_0_con : B60_0[p_con]? = some (a_con, .inr (1, [.int (nI (0)), .int (nI (0)), .int (nI (0)), .int (gb (false)), .int (nI (0)), .long (lN (0)), .long (lN (0)), .int (nI (0)), .long (lN (0))])) := by rw [hB60_0, hp_con]; exact g_apN
  have q60_0 : (ws ++ [((a_con, .inr (1, [.int (nI (0)), .int (nI (0)), .int (nI (0)), .int (gb (false)), .int (nI (0)), .long (lN (0)), .long (lN (0)), .int (nI (0)), .long (lN (0))])) : Nat × va_E)]) = B60_0 := hB60_0.symm
  have hP : gvP D vwCl (ws ++ [((a_con, .inr (1, [.int (nI (0)), .int (nI (0)), .int (nI (0)), .int (gb (false)), .int (nI (0)), .long (lN (0)), .long (lN (0)), .int (nI (0)), .long (lN (0))])) : Nat × va_E)]) _ := hP
  have hD : gvD A (ws ++ [((a_con, .inr (1, [.int (nI (0)), .int (nI (0)), .int (nI (0)), .int (gb (false)), .int (nI (0)), .long (lN (0)), .long (lN (0)), .int (nI (0)), .long (lN (0))])) : Nat × va_E)]) := hD
  have hP : gvP D vwCl B60_0 _ := g_trP (by rw [q60_0]) hP
  have hD : gvD A B60_0 := g_trD (by rw [q60_0]) hD
  refine lv_dup hx hb dX6_contract_63 rfl ?_
  refine lv_iload_n hx hb dX6_contract_64 rfl (lv_at hl 1 rfl) ?_
  refine lv_iload_n hx hb dX6_contract_65 rfl (lv_at hl 2 rfl) ?_
  refine lv_iload_n hx hb dX6_contract_66 rfl (lv_at hl 3 rfl) ?_
  refine lv_iload hx hb dX6_contract_67 (lv_at hl 4 rfl) ?_
  have f_con := e60_0_con
  refine gc_I_v (As := [.int (nI (wg)), .int (nI (lg9)), .int (nI (tr9)), .int (gb (b_f))]) (rest := [.ref a_con]) (c_X0_init l f_con) ⟨hx, hb, hml, hown, hts⟩ (cwI 4 hts gX6_contract_X0_init rfl rfl rfl (hts (.initialized RX0) (by decide +kernel)) (hts (.methodLink RX6 177 yX0_init) (by decide +kernel)) (hts (.instanceMethod yX0_init) (by decide +kernel)) rfl (by decide +kernel) ⟨Nat.le_of_ble_eq_true rfl, Nat.le_of_ble_eq_true rfl⟩) hE hP hD hS hA rfl rfl hl.1 (Nat.le_of_ble_eq_true rfl) dX6_contract_69 ⟨Nat.le_of_ble_eq_true rfl, Nat.le_of_ble_eq_true rfl⟩ (fun u_69 H locs hP hD hS q_69 => ?_)
  refine lv_astore (lv' := [(5, .ref a_con), (0, .ref a_off), (1, .int (nI (wg))), (2, .int (nI (lg9))), (3, .int (nI (tr9))), (4, .int (gb (b_f)))]) hx hb dX6_contract_72 hl (by decide) rfl (fun ls hl => ?_)
  refine lv_aload hx hb dX6_contract_74 (lv_at hl 0 rfl) ?_
  refine lv_aload_n hx hb dX6_contract_76 rfl (lv_at hl 1 rfl) ?_
  have e60_0_off := g_apE hB60_0 f0_off
  have f_off := g_ne (x := (a_con, .inr (1, [.int (nI (wg)), .int (nI (lg9)), .int (nI (tr9)), .int (gb (b_f)), .int (nI (0)), .long (lN (0)), .long (lN (0)), .int (nI (0)), .long (lN (0))]))) (g_kne e60_0_con e60_0_off (Nat.ne_of_beq_eq_false rfl)) (e60_0_off)
  refine va_get (D := D) (ci := 7) (v := .int (nI (nw))) (C := RX6) (T := TX6) (N := 8) hx hb hts in_RX6 hown hE.1 (gv1 hP f_off) 0 rfl rfl 7 (by decide) (hts (.fieldLink RX6 49 "BasketryOffice" "now" "I") (by decide +kernel)) (fun _ h9 => h9) rfl dX6_contract_77 ?_
  refine lv_iconst (v := nI 1) hx hb dX6_contract_80 (by decide) ?_
  refine g_isub hx hb dX6_contract_81 (pk_sub (by omega)) ?_
  refine lv_aload_n hx hb dX6_contract_82 rfl (lv_at hl 1 rfl) ?_
  refine va_get (D := D) (ci := 7) (v := .ref a_num) (C := RX6) (T := TX6) (N := 8) hx hb hts in_RX6 hown hE.1 (gv1 hP f_off) 0 rfl rfl 4 (by decide) (hts (.fieldLink RX6 35 "BasketryOffice" "numbers" "[I") (by decide +kernel)) (fun _ h9 => h9) rfl dX6_contract_83 ?_
  have f_con := g_eq (x := (a_con, .inr (1, [.int (nI (wg)), .int (nI (lg9)), .int (nI (tr9)), .int (gb (b_f)), .int (nI (0)), .long (lN (0)), .long (lN (0)), .int (nI (0)), .long (lN (0))]))) (e60_0_con)
  have e60_0_num := g_apE hB60_0 f0_num
  have f_num := g_ne (x := (a_con, .inr (1, [.int (nI (wg)), .int (nI (lg9)), .int (nI (tr9)), .int (gb (b_f)), .int (nI (0)), .long (lN (0)), .long (lN (0)), .int (nI (0)), .long (lN (0))]))) (g_kne e60_0_con e60_0_num (Nat.ne_of_beq_eq_false rfl)) (e60_0_num)
  refine gc_V_v (As := [.int (nI ((nw) - (1))), .ref a_num]) (rest := []) (c_X0_begin l f_con f_num b_num (by omega) (by omega)) ⟨hx, hb, hml, hown, hts⟩ (cwV 2 hts gX6_contract_X0_begin rfl rfl rfl (by decide +kernel) ⟨Nat.le_of_ble_eq_true rfl, Nat.le_of_ble_eq_true rfl⟩) hE hP hD hS hA _ f_con rfl rfl rfl rfl hl.1 (Nat.le_of_ble_eq_true rfl) dX6_contract_86 ⟨Nat.le_of_ble_eq_true rfl, Nat.le_of_ble_eq_true rfl⟩ (fun u_86 H locs hP hD hS q_86 => ?_)
  have hP := g_trP g_ss hP
  have hD := g_trD g_ss hD
  refine lv_aload_n hx hb dX6_contract_89 rfl (lv_at hl 1 rfl) ?_
  have f_off := g_ne (x := (a_con, .inr (1, [.int (nI (wg)), .int (nI (lg9)), .int (nI (tr9)), .int (gb (b_f)), .int (nI ((nw) - (1))), .long (lN (wg)), .long (lN (num ((nw) - (1)))), .int (nI ((nw) - (1))), .long (lN (0))]))) (g_kne e60_0_con e60_0_off (Nat.ne_of_beq_eq_false rfl)) (e60_0_off)
  refine va_get (D := D) (ci := 7) (v := .ref a_ctl) (C := RX6) (T := TX6) (N := 8) hx hb hts in_RX6 hown hE.1 (gv1 hP f_off) 0 rfl rfl 6 (by decide) (hts (.fieldLink RX6 45 "BasketryOffice" "contracts" "Ljava/util/ArrayList;") (by decide +kernel)) (fun _ h9 => h9) rfl dX6_contract_90 ?_
  refine lv_aload hx hb dX6_contract_93 (lv_at hl 0 rfl) ?_
  have e60_0_ctl := g_apE hB60_0 f0_ctl
  have f_ctl := g_ne (x := (a_con, .inr (1, [.int (nI (wg)), .int (nI (lg9)), .int (nI (tr9)), .int (gb (b_f)), .int (nI ((nw) - (1))), .long (lN (wg)), .long (lN (num ((nw) - (1)))), .int (nI ((nw) - (1))), .long (lN (0))]))) (g_kne e60_0_con e60_0_ctl (Nat.ne_of_beq_eq_false rfl)) (e60_0_ctl)
  have e60_0_cta := g_apE hB60_0 f0_cta
  have f_cta := g_ne (x := (a_con, .inr (1, [.int (nI (wg)), .int (nI (lg9)), .int (nI (tr9)), .int (gb (b_f)), .int (nI ((nw) - (1))), .long (lN (wg)), .long (lN (num ((nw) - (1)))), .int (nI ((nw) - (1))), .long (lN (0))]))) (g_kne e60_0_con e60_0_cta (Nat.ne_of_beq_eq_false rfl)) (e60_0_cta)
  have f_con := g_eq (x := (a_con, .inr (1, [.int (nI (wg)), .int (nI (lg9)), .int (nI (tr9)), .int (gb (b_f)), .int (nI ((nw) - (1))), .long (lN (wg)), .long (lN (num ((nw) - (1)))), .int (nI ((nw) - (1))), .long (lN (0))]))) (e60_0_con)
  refine gcy_V_i (As := [.ref a_con]) (rest := []) (c_add_con l f_ctl f_cta f_con hncc hcap) ⟨hx, hb, hml, hown, hts⟩ (cwV 1 hts gX6_contract_Jx4a65c_add_9ea2d rfl rfl rfl (by decide +kernel) ⟨Nat.le_of_ble_eq_true rfl, Nat.le_of_ble_eq_true rfl⟩) hE hY hP hD hS hA _ f_ctl rfl rfl rfl rfl hl.1 (Nat.le_of_ble_eq_true rfl) dX6_contract_95 ⟨Nat.le_of_ble_eq_true rfl, Nat.le_of_ble_eq_true rfl⟩ (fun r_95 u_95 H locs hP hD hS q_95 => ?_)
  subst q_95
  refine lv_pop hx hb dX6_contract_98 rfl ?_
  refine lv_aload_n hx hb dX6_contract_99 rfl (lv_at hl 1 rfl) ?_
  have f_off := g_ne (x := (a_cta, eQ y capc (va_up qc (nc) (some a_con)))) (g_kne e60_0_cta e60_0_off (Nat.ne_of_beq_eq_false rfl)) (g_ne (x := (a_ctl, .inr (0, [.int (mc9 + nI 1), .ref a_cta, .int (nI (nc + 1))]))) (g_kne e60_0_ctl e60_0_off (Nat.ne_of_beq_eq_false rfl)) (g_ne (x := (a_con, .inr (1, [.int (nI (wg)), .int (nI (lg9)), .int (nI (tr9)), .int (gb (b_f)), .int (nI ((nw) - (1))), .long (lN (wg)), .long (lN (num ((nw) - (1)))), .int (nI ((nw) - (1))), .long (lN (0))]))) (g_kne e60_0_con e60_0_off (Nat.ne_of_beq_eq_false rfl)) (e60_0_off)))
  refine va_get (D := D) (ci := 7) (v := .ref a_ctl) (C := RX6) (T := TX6) (N := 8) hx hb hts in_RX6 hown hE.1 (gv1 hP f_off) 0 rfl rfl 6 (by decide) (hts (.fieldLink RX6 45 "BasketryOffice" "contracts" "Ljava/util/ArrayList;") (by decide +kernel)) (fun _ h9 => h9) rfl dX6_contract_100 ?_
  have f_ctl := g_ne (x := (a_cta, eQ y capc (va_up qc (nc) (some a_con)))) (g_kne e60_0_cta e60_0_ctl (Nat.ne_of_beq_eq_false rfl)) (g_eq (x := (a_ctl, .inr (0, [.int (mc9 + nI 1), .ref a_cta, .int (nI (nc + 1))]))) (g_ne (x := (a_con, .inr (1, [.int (nI (wg)), .int (nI (lg9)), .int (nI (tr9)), .int (gb (b_f)), .int (nI ((nw) - (1))), .long (lN (wg)), .long (lN (num ((nw) - (1)))), .int (nI ((nw) - (1))), .long (lN (0))]))) (g_kne e60_0_con e60_0_ctl (Nat.ne_of_beq_eq_false rfl)) (e60_0_ctl)))
  refine gc_V_i (As := []) (rest := []) (c_Jx4a65c_size_8abf5 l f_ctl) ⟨hx, hb, hml, hown, hts⟩ (cwV 0 hts gX6_contract_Jx4a65c_size_8abf5 rfl rfl rfl (by decide +kernel) ⟨Nat.le_of_ble_eq_true rfl, Nat.le_of_ble_eq_true rfl⟩) hE hP hD hS hA _ f_ctl rfl rfl rfl rfl hl.1 (Nat.le_of_ble_eq_true rfl) dX6_contract_103 ⟨Nat.le_of_ble_eq_true rfl, Nat.le_of_ble_eq_true rfl⟩ (fun r_103 u_103 H locs hP hD hS q_103 => ?_)
  subst q_103
  refine lv_iconst (v := nI 1) hx hb dX6_contract_106 (by decide) ?_
  refine g_isub hx hb dX6_contract_107 (pk_sub (by omega)) ?_
  have hKW : gKeep ws (((B60_0.set p_con (a_con, .inr (1, [.int (nI (wg)), .int (nI (lg9)), .int (nI (tr9)), .int (gb (b_f)), .int (nI ((nw) - (1))), .long (lN (wg)), .long (lN (num ((nw) - (1)))), .int (nI ((nw) - (1))), .long (lN (0))]))).set p_ctl (a_ctl, .inr (0, [.int (mc9 + nI 1), .ref a_cta, .int (nI (nc + 1))]))).set p_cta (a_cta, eQ y capc (va_up qc (nc) (some a_con)))) [p_ctl, p_cta] := (gKeep.set_in (gKeep.set_in (gKeep.set_new hKB60_0 (g_lek hq_con)) (by simp)) (by simp))
  have hLW : (((B60_0.set p_con (a_con, .inr (1, [.int (nI (wg)), .int (nI (lg9)), .int (nI (tr9)), .int (gb (b_f)), .int (nI ((nw) - (1))), .long (lN (wg)), .long (lN (num ((nw) - (1)))), .int (nI ((nw) - (1))), .long (lN (0))]))).set p_ctl (a_ctl, .inr (0, [.int (mc9 + nI 1), .ref a_cta, .int (nI (nc + 1))]))).set p_cta (a_cta, eQ y capc (va_up qc (nc) (some a_con)))).length = ws.length + 1 := by simp only [List.length_set]; exact hLB60_0
  have f_cta := g_eq (x := (a_cta, eQ y capc (va_up qc (nc) (some a_con)))) (g_ne (x := (a_ctl, .inr (0, [.int (mc9 + nI 1), .ref a_cta, .int (nI (nc + 1))]))) (g_kne e60_0_ctl e60_0_cta (Nat.ne_of_beq_eq_false rfl)) (g_ne (x := (a_con, .inr (1, [.int (nI (wg)), .int (nI (lg9)), .int (nI (tr9)), .int (gb (b_f)), .int (nI ((nw) - (1))), .long (lN (wg)), .long (lN (num ((nw) - (1)))), .int (nI ((nw) - (1))), .long (lN (0))]))) (g_kne e60_0_con e60_0_cta (Nat.ne_of_beq_eq_false rfl)) (e60_0_cta)))
  have f_con := g_ne (x := (a_cta, eQ y capc (va_up qc (nc) (some a_con)))) (g_kne e60_0_cta e60_0_con (Nat.ne_of_beq_eq_false rfl)) (g_ne (x := (a_ctl, .inr (0, [.int (mc9 + nI 1), .ref a_cta, .int (nI (nc + 1))]))) (g_kne e60_0_ctl e60_0_con (Nat.ne_of_beq_eq_false rfl)) (g_eq (x := (a_con, .inr (1, [.int (nI (wg)), .int (nI (lg9)), .int (nI (tr9)), .int (gb (b_f)), .int (nI ((nw) - (1))), .long (lN (wg)), .long (lN (num ((nw) - (1)))), .int (nI ((nw) - (1))), .long (lN (0))]))) (e60_0_con)))
  refine g_iret hx hb hr hlocks (((B60_0.set p_con (a_con, .inr (1, [.int (nI (wg)), .int (nI (lg9)), .int (nI (tr9)), .int (gb (b_f)), .int (nI ((nw) - (1))), .long (lN (wg)), .long (lN (num ((nw) - (1)))), .int (nI ((nw) - (1))), .long (lN (0))]))).set p_ctl (a_ctl, .inr (0, [.int (mc9 + nI 1), .ref a_cta, .int (nI (nc + 1))]))).set p_cta (a_cta, eQ y capc (va_up qc (nc) (some a_con)))) dX6_contract_108 hS hP hD ?_
  exact ⟨hKW, hLW, rfl, a_con, f_ctl, f_cta, (by rw [← hq_con]; exact f_con)⟩

theorem in_c_X6_contract_0_RX0 : ∀ w ∈ wsX00, w ∈ wsX6_contract := by decide +kernel
theorem in_c_X6_contract_0_RX6 : ∀ w ∈ wsX60, w ∈ wsX6_contract := by decide +kernel
set_option maxHeartbeats 4000000 in
set_option maxRecDepth 100000 in
theorem c_X6_contract_0 (l : Launch) {D : va_G} {y : Nat → Nat} {ws : va_W} {x_off_0 : Value} {x_off_1 : Value} {x_off_2 : Value} {x_off_3 : Value} {x_off_5 : Value} {mi : Nat} {p_off p_num p_ctl p_emp a_off a_num a_ctl a_emp : Nat} {num : Nat → Nat} {qe : Nat → Option Nat} {wg lg9 tr9 nw : Nat} {b_f : Bool} {mc9 : Int32}  (f0_off : ws[p_off]? = some (a_off, .inr (7, [x_off_0, x_off_1, x_off_2, x_off_3, .ref a_num, x_off_5, .ref a_ctl, .int (nI (nw))]))) (f0_num : ws[p_num]? = some (a_num, eN y 24 num)) (f0_ctl : ws[p_ctl]? = some (a_ctl, .inr (0, [.int (mc9), .ref a_emp, .int (nI (0))]))) (f0_emp : ws[p_emp]? = some (a_emp, eQ y 0 qe)) (b_num : ∀ k, num k ≤ 2147483647) (hwg : 1 ≤ wg) (kwg : wg ≤ 1000000000) (hlg9 : 0 ≤ lg9) (klg9 : lg9 ≤ 3) (htr9 : 0 ≤ tr9) (ktr9 : tr9 ≤ 500) (hw : nw ≤ 24) (hnw1 : 0 < nw)  : gYi l yX6_contract wsX6_contract ({ frames := 5, cells := 2, slots := 19, locals := 108 }) D y a_emp mi [.ref a_off, .int (nI (wg)), .int (nI (lg9)), .int (nI (tr9)), .int (gb (b_f))] ws (fun r (u : va_W) => gKeep ws u [p_ctl] ∧ u.length = ws.length + 2 ∧ r = nI 0 ∧ ∃ a_con a_cta : Nat, u[p_ctl]? = some (a_ctl, .inr (0, [.int (mc9 + nI 1), .ref a_cta, .int (nI (1))])) ∧ u[ws.length + 0]? = some (a_con, .inr (1, [.int (nI (wg)), .int (nI (lg9)), .int (nI (tr9)), .int (gb (b_f)), .int (nI (nw - 1)), .long (lN (wg)), .long (lN (num (nw - 1))), .int (nI (nw - 1)), .long (lN (0))])) ∧ u[ws.length + 1]? = some (a_cta, eQ y 10 (va_up (fun _ => none) 0 (some a_con)))) (fun (u : va_W) => u) := by
  refine g_mety_i (cc := cX6_contract) (maxL := 6) (by decide) rfl (Nat.le_of_ble_eq_true rfl) ?_
  intro p e s m below meth c A hx hb hml hr hts hown hnm hlocks hE hP hD hS hA hY ls hl
  have hown : s.vm.findClass RX6 = some m.cls := hown
  have hl : lv_has ls 6 [(0, .ref a_off), (1, .int (nI (wg))), (2, .int (nI (lg9))), (3, .int (nI (tr9))), (4, .int (gb (b_f)))] := hl
  have in_RX0 := in_c_X6_contract_0_RX0
  have in_RX6 := in_c_X6_contract_0_RX6
  refine lv_iload_n hx hb dX6_contract_0 rfl (lv_at hl 1 rfl) ?_
  refine lv_iconst (v := nI 1) hx hb dX6_contract_1 (by decide) ?_
  refine lv_ldc (v := 1000000000) hx hb hown (hts (.constant RX6 138 (1000000000)) (by decide +kernel)) dX6_contract_2 ?_
  rw [show (1000000000 : Int32) = nI 1000000000 from by decide]
  refine gc_S_v (As := [.int (nI (wg)), .int (nI (1)), .int (nI (1000000000))]) (rest := []) (c_X6_requireRange l (rq_rg hwg kwg (by decide))) ⟨hx, hb, hml, hown, hts⟩ (va_cwS 3 hts gX6_contract_X6_requireRange rfl rfl rfl (by decide +kernel) ⟨Nat.le_of_ble_eq_true rfl, Nat.le_of_ble_eq_true rfl⟩) hE hP hD hS hA rfl rfl hl.1 (Nat.le_of_ble_eq_true rfl) dX6_contract_4 ⟨Nat.le_of_ble_eq_true rfl, Nat.le_of_ble_eq_true rfl⟩ (fun u_4 H locs hP hD hS q_4 => ?_)
  refine lv_iload_n hx hb dX6_contract_7 rfl (lv_at hl 2 rfl) ?_
  refine lv_iconst (v := nI 0) hx hb dX6_contract_8 (by decide) ?_
  refine lv_iconst (v := nI 3) hx hb dX6_contract_9 (by decide) ?_
  refine gc_S_v (As := [.int (nI (lg9)), .int (nI (0)), .int (nI (3))]) (rest := []) (c_X6_requireRange l (rq_rg hlg9 klg9 (by decide))) ⟨hx, hb, hml, hown, hts⟩ (va_cwS 3 hts gX6_contract_X6_requireRange rfl rfl rfl (by decide +kernel) ⟨Nat.le_of_ble_eq_true rfl, Nat.le_of_ble_eq_true rfl⟩) hE hP hD hS hA rfl rfl hl.1 (Nat.le_of_ble_eq_true rfl) dX6_contract_10 ⟨Nat.le_of_ble_eq_true rfl, Nat.le_of_ble_eq_true rfl⟩ (fun u_10 H locs hP hD hS q_10 => ?_)
  refine lv_iload_n hx hb dX6_contract_13 rfl (lv_at hl 3 rfl) ?_
  refine lv_iconst (v := nI 0) hx hb dX6_contract_14 (by decide) ?_
  refine lv_sipush (v := nI 500) hx hb dX6_contract_15 (by decide) ?_
  refine gc_S_v (As := [.int (nI (tr9)), .int (nI (0)), .int (nI (500))]) (rest := []) (c_X6_requireRange l (rq_rg htr9 ktr9 (by decide))) ⟨hx, hb, hml, hown, hts⟩ (va_cwS 3 hts gX6_contract_X6_requireRange rfl rfl rfl (by decide +kernel) ⟨Nat.le_of_ble_eq_true rfl, Nat.le_of_ble_eq_true rfl⟩) hE hP hD hS hA rfl rfl hl.1 (Nat.le_of_ble_eq_true rfl) dX6_contract_18 ⟨Nat.le_of_ble_eq_true rfl, Nat.le_of_ble_eq_true rfl⟩ (fun u_18 H locs hP hD hS q_18 => ?_)
  refine lv_aload_n hx hb dX6_contract_21 rfl (lv_at hl 0 rfl) ?_
  refine va_get (D := D) (ci := 7) (v := .int (nI (nw))) (C := RX6) (T := TX6) (N := 8) hx hb hts in_RX6 hown hE.1 (gv1 hP f0_off) 0 rfl rfl 7 (by decide) (hts (.fieldLink RX6 49 "BasketryOffice" "now" "I") (by decide +kernel)) (fun _ h9 => h9) rfl dX6_contract_22 ?_
  refine g_if_ne (tgt := 38) hx hb (by omega) dX6_contract_25 (by decide) (fun c_25 => ?_) (fun c_25 => absurd c_25 (by omega))
  refine lv_aload_n hx hb dX6_contract_38 rfl (lv_at hl 0 rfl) ?_
  refine va_get (D := D) (ci := 7) (v := .ref a_ctl) (C := RX6) (T := TX6) (N := 8) hx hb hts in_RX6 hown hE.1 (gv1 hP f0_off) 0 rfl rfl 6 (by decide) (hts (.fieldLink RX6 45 "BasketryOffice" "contracts" "Ljava/util/ArrayList;") (by decide +kernel)) (fun _ h9 => h9) rfl dX6_contract_39 ?_
  refine gc_V_i (As := []) (rest := []) (c_Jx4a65c_size_8abf5 l f0_ctl) ⟨hx, hb, hml, hown, hts⟩ (cwV 0 hts gX6_contract_Jx4a65c_size_8abf5 rfl rfl rfl (by decide +kernel) ⟨Nat.le_of_ble_eq_true rfl, Nat.le_of_ble_eq_true rfl⟩) hE hP hD hS hA _ f0_ctl rfl rfl rfl rfl hl.1 (Nat.le_of_ble_eq_true rfl) dX6_contract_42 ⟨Nat.le_of_ble_eq_true rfl, Nat.le_of_ble_eq_true rfl⟩ (fun r_42 u_42 H locs hP hD hS q_42 => ?_)
  subst q_42
  refine lv_bipush (v := nI 10) hx hb dX6_contract_45 (by decide) ?_
  refine g_icmp_lt (tgt := 60) hx hb (by omega) (by omega) dX6_contract_47 (by decide) (fun c_47 => ?_) (fun c_47 => absurd c_47 (by omega))
  refine gv_add (by intro _; rfl) (fun kk9 => va_new (ci := 1) (fs := [.int (nI (0)), .int (nI (0)), .int (nI (0)), .int (gb (false)), .int (nI (0)), .long (lN (0)), .long (lN (0)), .int (nI (0)), .long (lN (0))]) (C := RX0) (T := TX0) (N := 9) hx hb hts in_RX0 tyX0 tyX0_ok hown (hts (.classLink RX6 160 RX0) (by decide +kernel)) (hts (.instantiable RX0 9) (by decide +kernel)) (hts (.initialized RX0) (by decide +kernel)) hE.1 hP hD hS hA rfl (fun j hj => by rcases (show j = 0 ∨ j = 1 ∨ j = 2 ∨ j = 3 ∨ j = 4 ∨ j = 5 ∨ j = 6 ∨ j = 7 ∨ j = 8 by omega) with rfl | rfl | rfl | rfl | rfl | rfl | rfl | rfl | rfl <;> rfl) (Nat.le_of_ble_eq_true rfl) (Nat.le_of_ble_eq_true rfl) dX6_contract_60 kk9) (fun a_con H hP hD hS => ?_)
  obtain ⟨p_con, hp_con⟩ : ∃ z, z = (ws).length := ⟨_, rfl⟩
  obtain ⟨B60_0, hB60_0⟩ : ∃ B, B = (ws ++ [((a_con, .inr (1, [.int (nI (0)), .int (nI (0)), .int (nI (0)), .int (gb (false)), .int (nI (0)), .long (lN (0)), .long (lN (0)), .int (nI (0)), .long (lN (0))])) : Nat × va_E)]) := ⟨_, rfl⟩
  have hq_con : p_con = ws.length + 0 := hp_con
  have hLB60_0 : B60_0.length = ws.length + 1 := by rw [hB60_0, List.length_append]; rfl
  have hKB60_0 : gKeep ws B60_0 [p_ctl] := gKeep.app hB60_0 (gKeep.refl ws _)
  have e60_0_con : B60_0[p_con]? = some (a_con, .inr (1, [.int (nI (0)), .int (nI (0)), .int (nI (0)), .int (gb (false)), .int (nI (0)), .long (lN (0)), .long (lN (0)), .int (nI (0)), .long (lN (0))])) := by rw [hB60_0, hp_con]; exact g_apN
  have q60_0 : (ws ++ [((a_con, .inr (1, [.int (nI (0)), .int (nI (0)), .int (nI (0)), .int (gb (false)), .int (nI (0)), .long (lN (0)), .long (lN (0)), .int (nI (0)), .long (lN (0))])) : Nat × va_E)]) = B60_0 := hB60_0.symm
  have hP : gvP D vwCl (ws ++ [((a_con, .inr (1, [.int (nI (0)), .int (nI (0)), .int (nI (0)), .int (gb (false)), .int (nI (0)), .long (lN (0)), .long (lN (0)), .int (nI (0)), .long (lN (0))])) : Nat × va_E)]) _ := hP
  have hD : gvD A (ws ++ [((a_con, .inr (1, [.int (nI (0)), .int (nI (0)), .int (nI (0)), .int (gb (false)), .int (nI (0)), .long (lN (0)), .long (lN (0)), .int (nI (0)), .long (lN (0))])) : Nat × va_E)]) := hD
  have hP : gvP D vwCl B60_0 _ := g_trP (by rw [q60_0]) hP
  have hD : gvD A B60_0 := g_trD (by rw [q60_0]) hD
  refine lv_dup hx hb dX6_contract_63 rfl ?_
  refine lv_iload_n hx hb dX6_contract_64 rfl (lv_at hl 1 rfl) ?_
  refine lv_iload_n hx hb dX6_contract_65 rfl (lv_at hl 2 rfl) ?_
  refine lv_iload_n hx hb dX6_contract_66 rfl (lv_at hl 3 rfl) ?_
  refine lv_iload hx hb dX6_contract_67 (lv_at hl 4 rfl) ?_
  have f_con := e60_0_con
  refine gc_I_v (As := [.int (nI (wg)), .int (nI (lg9)), .int (nI (tr9)), .int (gb (b_f))]) (rest := [.ref a_con]) (c_X0_init l f_con) ⟨hx, hb, hml, hown, hts⟩ (cwI 4 hts gX6_contract_X0_init rfl rfl rfl (hts (.initialized RX0) (by decide +kernel)) (hts (.methodLink RX6 177 yX0_init) (by decide +kernel)) (hts (.instanceMethod yX0_init) (by decide +kernel)) rfl (by decide +kernel) ⟨Nat.le_of_ble_eq_true rfl, Nat.le_of_ble_eq_true rfl⟩) hE hP hD hS hA rfl rfl hl.1 (Nat.le_of_ble_eq_true rfl) dX6_contract_69 ⟨Nat.le_of_ble_eq_true rfl, Nat.le_of_ble_eq_true rfl⟩ (fun u_69 H locs hP hD hS q_69 => ?_)
  refine lv_astore (lv' := [(5, .ref a_con), (0, .ref a_off), (1, .int (nI (wg))), (2, .int (nI (lg9))), (3, .int (nI (tr9))), (4, .int (gb (b_f)))]) hx hb dX6_contract_72 hl (by decide) rfl (fun ls hl => ?_)
  refine lv_aload hx hb dX6_contract_74 (lv_at hl 0 rfl) ?_
  refine lv_aload_n hx hb dX6_contract_76 rfl (lv_at hl 1 rfl) ?_
  have e60_0_off := g_apE hB60_0 f0_off
  have f_off := g_ne (x := (a_con, .inr (1, [.int (nI (wg)), .int (nI (lg9)), .int (nI (tr9)), .int (gb (b_f)), .int (nI (0)), .long (lN (0)), .long (lN (0)), .int (nI (0)), .long (lN (0))]))) (g_kne e60_0_con e60_0_off (Nat.ne_of_beq_eq_false rfl)) (e60_0_off)
  refine va_get (D := D) (ci := 7) (v := .int (nI (nw))) (C := RX6) (T := TX6) (N := 8) hx hb hts in_RX6 hown hE.1 (gv1 hP f_off) 0 rfl rfl 7 (by decide) (hts (.fieldLink RX6 49 "BasketryOffice" "now" "I") (by decide +kernel)) (fun _ h9 => h9) rfl dX6_contract_77 ?_
  refine lv_iconst (v := nI 1) hx hb dX6_contract_80 (by decide) ?_
  refine g_isub hx hb dX6_contract_81 (pk_sub (by omega)) ?_
  refine lv_aload_n hx hb dX6_contract_82 rfl (lv_at hl 1 rfl) ?_
  refine va_get (D := D) (ci := 7) (v := .ref a_num) (C := RX6) (T := TX6) (N := 8) hx hb hts in_RX6 hown hE.1 (gv1 hP f_off) 0 rfl rfl 4 (by decide) (hts (.fieldLink RX6 35 "BasketryOffice" "numbers" "[I") (by decide +kernel)) (fun _ h9 => h9) rfl dX6_contract_83 ?_
  have f_con := g_eq (x := (a_con, .inr (1, [.int (nI (wg)), .int (nI (lg9)), .int (nI (tr9)), .int (gb (b_f)), .int (nI (0)), .long (lN (0)), .long (lN (0)), .int (nI (0)), .long (lN (0))]))) (e60_0_con)
  have e60_0_num := g_apE hB60_0 f0_num
  have f_num := g_ne (x := (a_con, .inr (1, [.int (nI (wg)), .int (nI (lg9)), .int (nI (tr9)), .int (gb (b_f)), .int (nI (0)), .long (lN (0)), .long (lN (0)), .int (nI (0)), .long (lN (0))]))) (g_kne e60_0_con e60_0_num (Nat.ne_of_beq_eq_false rfl)) (e60_0_num)
  refine gc_V_v (As := [.int (nI ((nw) - (1))), .ref a_num]) (rest := []) (c_X0_begin l f_con f_num b_num (by omega) (by omega)) ⟨hx, hb, hml, hown, hts⟩ (cwV 2 hts gX6_contract_X0_begin rfl rfl rfl (by decide +kernel) ⟨Nat.le_of_ble_eq_true rfl, Nat.le_of_ble_eq_true rfl⟩) hE hP hD hS hA _ f_con rfl rfl rfl rfl hl.1 (Nat.le_of_ble_eq_true rfl) dX6_contract_86 ⟨Nat.le_of_ble_eq_true rfl, Nat.le_of_ble_eq_true rfl⟩ (fun u_86 H locs hP hD hS q_86 => ?_)
  have hP := g_trP g_ss hP
  have hD := g_trD g_ss hD
  refine lv_aload_n hx hb dX6_contract_89 rfl (lv_at hl 1 rfl) ?_
  have f_off := g_ne (x := (a_con, .inr (1, [.int (nI (wg)), .int (nI (lg9)), .int (nI (tr9)), .int (gb (b_f)), .int (nI ((nw) - (1))), .long (lN (wg)), .long (lN (num ((nw) - (1)))), .int (nI ((nw) - (1))), .long (lN (0))]))) (g_kne e60_0_con e60_0_off (Nat.ne_of_beq_eq_false rfl)) (e60_0_off)
  refine va_get (D := D) (ci := 7) (v := .ref a_ctl) (C := RX6) (T := TX6) (N := 8) hx hb hts in_RX6 hown hE.1 (gv1 hP f_off) 0 rfl rfl 6 (by decide) (hts (.fieldLink RX6 45 "BasketryOffice" "contracts" "Ljava/util/ArrayList;") (by decide +kernel)) (fun _ h9 => h9) rfl dX6_contract_90 ?_
  refine lv_aload hx hb dX6_contract_93 (lv_at hl 0 rfl) ?_
  have e60_0_ctl := g_apE hB60_0 f0_ctl
  have f_ctl := g_ne (x := (a_con, .inr (1, [.int (nI (wg)), .int (nI (lg9)), .int (nI (tr9)), .int (gb (b_f)), .int (nI ((nw) - (1))), .long (lN (wg)), .long (lN (num ((nw) - (1)))), .int (nI ((nw) - (1))), .long (lN (0))]))) (g_kne e60_0_con e60_0_ctl (Nat.ne_of_beq_eq_false rfl)) (e60_0_ctl)
  have e60_0_emp := g_apE hB60_0 f0_emp
  have f_emp := g_ne (x := (a_con, .inr (1, [.int (nI (wg)), .int (nI (lg9)), .int (nI (tr9)), .int (gb (b_f)), .int (nI ((nw) - (1))), .long (lN (wg)), .long (lN (num ((nw) - (1)))), .int (nI ((nw) - (1))), .long (lN (0))]))) (g_kne e60_0_con e60_0_emp (Nat.ne_of_beq_eq_false rfl)) (e60_0_emp)
  have f_con := g_eq (x := (a_con, .inr (1, [.int (nI (wg)), .int (nI (lg9)), .int (nI (tr9)), .int (gb (b_f)), .int (nI ((nw) - (1))), .long (lN (wg)), .long (lN (num ((nw) - (1)))), .int (nI ((nw) - (1))), .long (lN (0))]))) (e60_0_con)
  refine gcy_V_i (As := [.ref a_con]) (rest := []) (c_add_con0 l f_ctl f_emp f_con) ⟨hx, hb, hml, hown, hts⟩ (cwV 1 hts gX6_contract_Jx4a65c_add_9ea2d rfl rfl rfl (by decide +kernel) ⟨Nat.le_of_ble_eq_true rfl, Nat.le_of_ble_eq_true rfl⟩) hE hY hP hD hS hA _ f_ctl rfl rfl rfl rfl hl.1 (Nat.le_of_ble_eq_true rfl) dX6_contract_95 ⟨Nat.le_of_ble_eq_true rfl, Nat.le_of_ble_eq_true rfl⟩ (fun r_95 u_95 H locs hP hD hS q_95 => ?_)
  subst q_95
  obtain ⟨a_cta, rfl⟩ : ∃ z, z = u_95 := ⟨_, rfl⟩
  have hP : gvP D vwCl (((B60_0.set p_con (a_con, .inr (1, [.int (nI (wg)), .int (nI (lg9)), .int (nI (tr9)), .int (gb (b_f)), .int (nI ((nw) - (1))), .long (lN (wg)), .long (lN (num ((nw) - (1)))), .int (nI ((nw) - (1))), .long (lN (0))]))) ++ [((a_cta, eQ y 10 (va_up (fun _ => none) 0 (some a_con))) : Nat × va_E)]).set p_ctl (a_ctl, .inr (0, [.int (mc9 + nI 1), .ref a_cta, .int (nI (1))]))) H := hP
  have hD : gvD A (((B60_0.set p_con (a_con, .inr (1, [.int (nI (wg)), .int (nI (lg9)), .int (nI (tr9)), .int (gb (b_f)), .int (nI ((nw) - (1))), .long (lN (wg)), .long (lN (num ((nw) - (1)))), .int (nI ((nw) - (1))), .long (lN (0))]))) ++ [((a_cta, eQ y 10 (va_up (fun _ => none) 0 (some a_con))) : Nat × va_E)]).set p_ctl (a_ctl, .inr (0, [.int (mc9 + nI 1), .ref a_cta, .int (nI (1))]))) := hD
  obtain ⟨p_cta, hp_cta⟩ : ∃ z, z = (B60_0).length := ⟨_, rfl⟩
  obtain ⟨B95_0, hB95_0⟩ : ∃ B, B = (B60_0 ++ [((a_cta, eQ y 10 (va_up (fun _ => none) 0 (some a_con))) : Nat × va_E)]) := ⟨_, rfl⟩
  have hq_cta : p_cta = ws.length + 1 := hp_cta.trans hLB60_0
  have hLB95_0 : B95_0.length = ws.length + 2 := by rw [hB95_0, List.length_append, hLB60_0]; rfl
  have hKB95_0 : gKeep ws B95_0 [p_ctl] := gKeep.app hB95_0 hKB60_0
  have e95_0_cta : B95_0[p_cta]? = some (a_cta, eQ y 10 (va_up (fun _ => none) 0 (some a_con))) := by rw [hB95_0, hp_cta]; exact g_apN
  have q95_0 : ((B60_0.set p_con (a_con, .inr (1, [.int (nI (wg)), .int (nI (lg9)), .int (nI (tr9)), .int (gb (b_f)), .int (nI ((nw) - (1))), .long (lN (wg)), .long (lN (num ((nw) - (1)))), .int (nI ((nw) - (1))), .long (lN (0))]))) ++ [((a_cta, eQ y 10 (va_up (fun _ => none) 0 (some a_con))) : Nat × va_E)]) = (B95_0.set p_con (a_con, .inr (1, [.int (nI (wg)), .int (nI (lg9)), .int (nI (tr9)), .int (gb (b_f)), .int (nI ((nw) - (1))), .long (lN (wg)), .long (lN (num ((nw) - (1)))), .int (nI ((nw) - (1))), .long (lN (0))]))) := by rw [hB95_0]; exact (g_sa (g_lt e60_0_con))
  have hP : gvP D vwCl (((B60_0.set p_con (a_con, .inr (1, [.int (nI (wg)), .int (nI (lg9)), .int (nI (tr9)), .int (gb (b_f)), .int (nI ((nw) - (1))), .long (lN (wg)), .long (lN (num ((nw) - (1)))), .int (nI ((nw) - (1))), .long (lN (0))]))) ++ [((a_cta, eQ y 10 (va_up (fun _ => none) 0 (some a_con))) : Nat × va_E)]).set p_ctl (a_ctl, .inr (0, [.int (mc9 + nI 1), .ref a_cta, .int (nI (1))]))) _ := hP
  have hD : gvD A (((B60_0.set p_con (a_con, .inr (1, [.int (nI (wg)), .int (nI (lg9)), .int (nI (tr9)), .int (gb (b_f)), .int (nI ((nw) - (1))), .long (lN (wg)), .long (lN (num ((nw) - (1)))), .int (nI ((nw) - (1))), .long (lN (0))]))) ++ [((a_cta, eQ y 10 (va_up (fun _ => none) 0 (some a_con))) : Nat × va_E)]).set p_ctl (a_ctl, .inr (0, [.int (mc9 + nI 1), .ref a_cta, .int (nI (1))]))) := hD
  have hP : gvP D vwCl ((B95_0.set p_con (a_con, .inr (1, [.int (nI (wg)), .int (nI (lg9)), .int (nI (tr9)), .int (gb (b_f)), .int (nI ((nw) - (1))), .long (lN (wg)), .long (lN (num ((nw) - (1)))), .int (nI ((nw) - (1))), .long (lN (0))]))).set p_ctl (a_ctl, .inr (0, [.int (mc9 + nI 1), .ref a_cta, .int (nI (1))]))) _ := g_trP (by rw [q95_0]) hP
  have hD : gvD A ((B95_0.set p_con (a_con, .inr (1, [.int (nI (wg)), .int (nI (lg9)), .int (nI (tr9)), .int (gb (b_f)), .int (nI ((nw) - (1))), .long (lN (wg)), .long (lN (num ((nw) - (1)))), .int (nI ((nw) - (1))), .long (lN (0))]))).set p_ctl (a_ctl, .inr (0, [.int (mc9 + nI 1), .ref a_cta, .int (nI (1))]))) := g_trD (by rw [q95_0]) hD
  refine lv_pop hx hb dX6_contract_98 rfl ?_
  refine lv_aload_n hx hb dX6_contract_99 rfl (lv_at hl 1 rfl) ?_
  have e95_0_off := g_apE hB95_0 e60_0_off
  have e95_0_con := g_apE hB95_0 e60_0_con
  have e95_0_ctl := g_apE hB95_0 e60_0_ctl
  have f_off := g_ne (x := (a_ctl, .inr (0, [.int (mc9 + nI 1), .ref a_cta, .int (nI (1))]))) (g_kne e95_0_ctl e95_0_off (Nat.ne_of_beq_eq_false rfl)) (g_ne (x := (a_con, .inr (1, [.int (nI (wg)), .int (nI (lg9)), .int (nI (tr9)), .int (gb (b_f)), .int (nI ((nw) - (1))), .long (lN (wg)), .long (lN (num ((nw) - (1)))), .int (nI ((nw) - (1))), .long (lN (0))]))) (g_kne e95_0_con e95_0_off (Nat.ne_of_beq_eq_false rfl)) (e95_0_off))
  refine va_get (D := D) (ci := 7) (v := .ref a_ctl) (C := RX6) (T := TX6) (N := 8) hx hb hts in_RX6 hown hE.1 (gv1 hP f_off) 0 rfl rfl 6 (by decide) (hts (.fieldLink RX6 45 "BasketryOffice" "contracts" "Ljava/util/ArrayList;") (by decide +kernel)) (fun _ h9 => h9) rfl dX6_contract_100 ?_
  have f_ctl := g_eq (x := (a_ctl, .inr (0, [.int (mc9 + nI 1), .ref a_cta, .int (nI (1))]))) (g_ne (x := (a_con, .inr (1, [.int (nI (wg)), .int (nI (lg9)), .int (nI (tr9)), .int (gb (b_f)), .int (nI ((nw) - (1))), .long (lN (wg)), .long (lN (num ((nw) - (1)))), .int (nI ((nw) - (1))), .long (lN (0))]))) (g_kne e95_0_con e95_0_ctl (Nat.ne_of_beq_eq_false rfl)) (e95_0_ctl))
  refine gc_V_i (As := []) (rest := []) (c_Jx4a65c_size_8abf5 l f_ctl) ⟨hx, hb, hml, hown, hts⟩ (cwV 0 hts gX6_contract_Jx4a65c_size_8abf5 rfl rfl rfl (by decide +kernel) ⟨Nat.le_of_ble_eq_true rfl, Nat.le_of_ble_eq_true rfl⟩) hE hP hD hS hA _ f_ctl rfl rfl rfl rfl hl.1 (Nat.le_of_ble_eq_true rfl) dX6_contract_103 ⟨Nat.le_of_ble_eq_true rfl, Nat.le_of_ble_eq_true rfl⟩ (fun r_103 u_103 H locs hP hD hS q_103 => ?_)
  subst q_103
  refine lv_iconst (v := nI 1) hx hb dX6_contract_106 (by decide) ?_
  refine g_isub hx hb dX6_contract_107 (pk_sub (by omega)) ?_
  have hKW : gKeep ws ((B95_0.set p_con (a_con, .inr (1, [.int (nI (wg)), .int (nI (lg9)), .int (nI (tr9)), .int (gb (b_f)), .int (nI ((nw) - (1))), .long (lN (wg)), .long (lN (num ((nw) - (1)))), .int (nI ((nw) - (1))), .long (lN (0))]))).set p_ctl (a_ctl, .inr (0, [.int (mc9 + nI 1), .ref a_cta, .int (nI (1))]))) [p_ctl] := (gKeep.set_in (gKeep.set_new hKB95_0 (g_lek hq_con)) (by simp))
  have hLW : ((B95_0.set p_con (a_con, .inr (1, [.int (nI (wg)), .int (nI (lg9)), .int (nI (tr9)), .int (gb (b_f)), .int (nI ((nw) - (1))), .long (lN (wg)), .long (lN (num ((nw) - (1)))), .int (nI ((nw) - (1))), .long (lN (0))]))).set p_ctl (a_ctl, .inr (0, [.int (mc9 + nI 1), .ref a_cta, .int (nI (1))]))).length = ws.length + 2 := by simp only [List.length_set]; exact hLB95_0
  have f_con := g_ne (x := (a_ctl, .inr (0, [.int (mc9 + nI 1), .ref a_cta, .int (nI (1))]))) (g_kne e95_0_ctl e95_0_con (Nat.ne_of_beq_eq_false rfl)) (g_eq (x := (a_con, .inr (1, [.int (nI (wg)), .int (nI (lg9)), .int (nI (tr9)), .int (gb (b_f)), .int (nI ((nw) - (1))), .long (lN (wg)), .long (lN (num ((nw) - (1)))), .int (nI ((nw) - (1))), .long (lN (0))]))) (e95_0_con))
  have f_cta := g_ne (x := (a_ctl, .inr (0, [.int (mc9 + nI 1), .ref a_cta, .int (nI (1))]))) (g_kne e95_0_ctl e95_0_cta (Nat.ne_of_beq_eq_false rfl)) (g_ne (x := (a_con, .inr (1, [.int (nI (wg)), .int (nI (lg9)), .int (nI (tr9)), .int (gb (b_f)), .int (nI ((nw) - (1))), .long (lN (wg)), .long (lN (num ((nw) - (1)))), .int (nI ((nw) - (1))), .long (lN (0))]))) (g_kne e95_0_con e95_0_cta (Nat.ne_of_beq_eq_false rfl)) (e95_0_cta))
  refine g_iret hx hb hr hlocks ((B95_0.set p_con (a_con, .inr (1, [.int (nI (wg)), .int (nI (lg9)), .int (nI (tr9)), .int (gb (b_f)), .int (nI ((nw) - (1))), .long (lN (wg)), .long (lN (num ((nw) - (1)))), .int (nI ((nw) - (1))), .long (lN (0))]))).set p_ctl (a_ctl, .inr (0, [.int (mc9 + nI 1), .ref a_cta, .int (nI (1))]))) dX6_contract_108 hS hP hD ?_
  exact ⟨hKW, hLW, rfl, a_con, a_cta, f_ctl, (by rw [← hq_con]; exact f_con), (by rw [← hq_cta]; exact f_cta)⟩
