set_option maxHeartbeats 4000000 in
set_option maxRecDepth 100000 in
theorem x0_X6_item (l : Launch) {D : va_G} {y : Nat → Nat} {ws : va_W} {x_off_1 : Value} {x_off_2 : Value} {x_off_3 : Value} {x_off_4 : Value} {x_off_5 : Value} {x_off_6 : Value} {x_off_7 : Value} {x_led_1 : Value} {x_led_2 : Value} {x_led_3 : Value} {x_led_4 : Value} {x_led_5 : Value} {x_led_6 : Value} {x_led_7 : Value} {x_led_8 : Value} {x_led_9 : Value} {x_itl_0 : Value} {p_off p_led p_itl a_off a_led a_itl a_ita : Nat} {g mn sn : Int32} {n : Nat} (f0_off : ws[p_off]? = some (a_off, .inr (7, [.ref a_led, x_off_1, x_off_2, x_off_3, x_off_4, x_off_5, x_off_6, x_off_7]))) (f0_led : ws[p_led]? = some (a_led, .inr (3, [.ref a_itl, x_led_1, x_led_2, x_led_3, x_led_4, x_led_5, x_led_6, x_led_7, x_led_8, x_led_9]))) (f0_itl : ws[p_itl]? = some (a_itl, .inr (0, [x_itl_0, .ref a_ita, .int (nI (n))]))) (hfl : l.stackTraces = false) (hn : n ≤ 12)  (hbad : g < 0 ∨ nI 4 ≤ g) : gMxi l yX6_item wsX6_item ({ frames := 7, cells := 1, slots := 6, locals := 120 }) D y [.ref a_off, .int (g), .int (mn), .int (sn)] ws "java/lang/IndexOutOfBoundsException" := by
  refine g_metx_i (cc := cX6_item) (maxL := 4) (by decide) rfl (Nat.le_of_ble_eq_true rfl) ?_
  intro p e s m below meth c A hx hb hml hr hts hown hnm hlocks hE hP hD hS hA hex hX ls hl
  have hown : s.vm.findClass RX6 = some m.cls := hown
  have hl : lv_has ls 4 [(0, .ref a_off), (1, .int (g)), (2, .int (mn)), (3, .int (sn))] := hl
  refine lv_iload_n hx hb dX6_item_0 rfl (lv_at hl 1 rfl) ?_
  exact gcx_S_v (As := [.int (g)]) (rest := []) (x_X6_requireGroup l hfl hbad) ⟨hx, hb, hml, hown, hts⟩ (va_cwS 1 hts gX6_item_X6_requireGroup rfl rfl rfl (by decide +kernel) ⟨Nat.le_of_ble_eq_true rfl, Nat.le_of_ble_eq_true rfl⟩) hE hX hex hlocks hP hD hS hA rfl rfl hl.1 (Nat.le_of_ble_eq_true rfl) dX6_item_1 ⟨Nat.le_of_ble_eq_true rfl, Nat.le_of_ble_eq_true rfl⟩ (Nat.le_of_ble_eq_true rfl) (Nat.le_of_ble_eq_true rfl)

set_option maxHeartbeats 4000000 in
set_option maxRecDepth 100000 in
theorem x1_X6_item (l : Launch) {D : va_G} {y : Nat → Nat} {ws : va_W} {x_off_1 : Value} {x_off_2 : Value} {x_off_3 : Value} {x_off_4 : Value} {x_off_5 : Value} {x_off_6 : Value} {x_off_7 : Value} {x_led_1 : Value} {x_led_2 : Value} {x_led_3 : Value} {x_led_4 : Value} {x_led_5 : Value} {x_led_6 : Value} {x_led_7 : Value} {x_led_8 : Value} {x_led_9 : Value} {x_itl_0 : Value} {p_off p_led p_itl a_off a_led a_itl a_ita : Nat} {g : Nat} {mn sn : Int32} {n : Nat} (f0_off : ws[p_off]? = some (a_off, .inr (7, [.ref a_led, x_off_1, x_off_2, x_off_3, x_off_4, x_off_5, x_off_6, x_off_7]))) (f0_led : ws[p_led]? = some (a_led, .inr (3, [.ref a_itl, x_led_1, x_led_2, x_led_3, x_led_4, x_led_5, x_led_6, x_led_7, x_led_8, x_led_9]))) (f0_itl : ws[p_itl]? = some (a_itl, .inr (0, [x_itl_0, .ref a_ita, .int (nI (n))]))) (hfl : l.stackTraces = false) (hn : n ≤ 12) (hg : g < 4) (hbad : mn < nI 0 ∨ nI 2 < mn) : gMxi l yX6_item wsX6_item ({ frames := 7, cells := 1, slots := 6, locals := 122 }) D y [.ref a_off, .int (nI (g)), .int (mn), .int (sn)] ws "java/lang/IllegalArgumentException" := by
  refine g_metx_i (cc := cX6_item) (maxL := 4) (by decide) rfl (Nat.le_of_ble_eq_true rfl) ?_
  intro p e s m below meth c A hx hb hml hr hts hown hnm hlocks hE hP hD hS hA hex hX ls hl
  have hown : s.vm.findClass RX6 = some m.cls := hown
  have hl : lv_has ls 4 [(0, .ref a_off), (1, .int (nI (g))), (2, .int (mn)), (3, .int (sn))] := hl
  refine lv_iload_n hx hb dX6_item_0 rfl (lv_at hl 1 rfl) ?_
  refine gc_S_v (As := [.int (nI (g))]) (rest := []) (c_X6_requireGroup l (rq_lt hg (by omega))) ⟨hx, hb, hml, hown, hts⟩ (va_cwS 1 hts gX6_item_X6_requireGroup rfl rfl rfl (by decide +kernel) ⟨Nat.le_of_ble_eq_true rfl, Nat.le_of_ble_eq_true rfl⟩) hE hP hD hS hA rfl rfl hl.1 (Nat.le_of_ble_eq_true rfl) dX6_item_1 ⟨Nat.le_of_ble_eq_true rfl, Nat.le_of_ble_eq_true rfl⟩ (fun u_1 H locs hP hD hS q_1 => ?_)
  refine lv_iload_n hx hb dX6_item_4 rfl (lv_at hl 2 rfl) ?_
  refine lv_iconst (v := nI 0) hx hb dX6_item_5 (by decide) ?_
  refine lv_iconst (v := nI 2) hx hb dX6_item_6 (by decide) ?_
  exact gcx_S_v (As := [.int (mn), .int (nI (0)), .int (nI (2))]) (rest := []) (x_X6_requireRange l hfl hbad) ⟨hx, hb, hml, hown, hts⟩ (va_cwS 3 hts gX6_item_X6_requireRange rfl rfl rfl (by decide +kernel) ⟨Nat.le_of_ble_eq_true rfl, Nat.le_of_ble_eq_true rfl⟩) hE hX hex hlocks hP hD hS hA rfl rfl hl.1 (Nat.le_of_ble_eq_true rfl) dX6_item_7 ⟨Nat.le_of_ble_eq_true rfl, Nat.le_of_ble_eq_true rfl⟩ (Nat.le_of_ble_eq_true rfl) (Nat.le_of_ble_eq_true rfl)

set_option maxHeartbeats 4000000 in
set_option maxRecDepth 100000 in
theorem x2_X6_item (l : Launch) {D : va_G} {y : Nat → Nat} {ws : va_W} {x_off_1 : Value} {x_off_2 : Value} {x_off_3 : Value} {x_off_4 : Value} {x_off_5 : Value} {x_off_6 : Value} {x_off_7 : Value} {x_led_1 : Value} {x_led_2 : Value} {x_led_3 : Value} {x_led_4 : Value} {x_led_5 : Value} {x_led_6 : Value} {x_led_7 : Value} {x_led_8 : Value} {x_led_9 : Value} {x_itl_0 : Value} {p_off p_led p_itl a_off a_led a_itl a_ita : Nat} {g mn : Nat} {sn : Int32} {n : Nat} (f0_off : ws[p_off]? = some (a_off, .inr (7, [.ref a_led, x_off_1, x_off_2, x_off_3, x_off_4, x_off_5, x_off_6, x_off_7]))) (f0_led : ws[p_led]? = some (a_led, .inr (3, [.ref a_itl, x_led_1, x_led_2, x_led_3, x_led_4, x_led_5, x_led_6, x_led_7, x_led_8, x_led_9]))) (f0_itl : ws[p_itl]? = some (a_itl, .inr (0, [x_itl_0, .ref a_ita, .int (nI (n))]))) (hfl : l.stackTraces = false) (hn : n ≤ 12) (hg : g < 4) (hmn : 0 ≤ mn) (kmn : mn ≤ 2) (hbad : sn < nI 1 ∨ nI 4095 < sn) : gMxi l yX6_item wsX6_item ({ frames := 7, cells := 1, slots := 6, locals := 122 }) D y [.ref a_off, .int (nI (g)), .int (nI (mn)), .int (sn)] ws "java/lang/IllegalArgumentException" := by
  refine g_metx_i (cc := cX6_item) (maxL := 4) (by decide) rfl (Nat.le_of_ble_eq_true rfl) ?_
  intro p e s m below meth c A hx hb hml hr hts hown hnm hlocks hE hP hD hS hA hex hX ls hl
  have hown : s.vm.findClass RX6 = some m.cls := hown
  have hl : lv_has ls 4 [(0, .ref a_off), (1, .int (nI (g))), (2, .int (nI (mn))), (3, .int (sn))] := hl
  refine lv_iload_n hx hb dX6_item_0 rfl (lv_at hl 1 rfl) ?_
  refine gc_S_v (As := [.int (nI (g))]) (rest := []) (c_X6_requireGroup l (rq_lt hg (by omega))) ⟨hx, hb, hml, hown, hts⟩ (va_cwS 1 hts gX6_item_X6_requireGroup rfl rfl rfl (by decide +kernel) ⟨Nat.le_of_ble_eq_true rfl, Nat.le_of_ble_eq_true rfl⟩) hE hP hD hS hA rfl rfl hl.1 (Nat.le_of_ble_eq_true rfl) dX6_item_1 ⟨Nat.le_of_ble_eq_true rfl, Nat.le_of_ble_eq_true rfl⟩ (fun u_1 H locs hP hD hS q_1 => ?_)
  refine lv_iload_n hx hb dX6_item_4 rfl (lv_at hl 2 rfl) ?_
  refine lv_iconst (v := nI 0) hx hb dX6_item_5 (by decide) ?_
  refine lv_iconst (v := nI 2) hx hb dX6_item_6 (by decide) ?_
  refine gc_S_v (As := [.int (nI (mn)), .int (nI (0)), .int (nI (2))]) (rest := []) (c_X6_requireRange l (rq_rg hmn kmn (by decide))) ⟨hx, hb, hml, hown, hts⟩ (va_cwS 3 hts gX6_item_X6_requireRange rfl rfl rfl (by decide +kernel) ⟨Nat.le_of_ble_eq_true rfl, Nat.le_of_ble_eq_true rfl⟩) hE hP hD hS hA rfl rfl hl.1 (Nat.le_of_ble_eq_true rfl) dX6_item_7 ⟨Nat.le_of_ble_eq_true rfl, Nat.le_of_ble_eq_true rfl⟩ (fun u_7 H locs hP hD hS q_7 => ?_)
  refine lv_iload_n hx hb dX6_item_10 rfl (lv_at hl 3 rfl) ?_
  refine lv_iconst (v := nI 1) hx hb dX6_item_11 (by decide) ?_
  refine lv_sipush (v := nI 4095) hx hb dX6_item_12 (by decide) ?_
  exact gcx_S_v (As := [.int (sn), .int (nI (1)), .int (nI (4095))]) (rest := []) (x_X6_requireRange l hfl hbad) ⟨hx, hb, hml, hown, hts⟩ (va_cwS 3 hts gX6_item_X6_requireRange rfl rfl rfl (by decide +kernel) ⟨Nat.le_of_ble_eq_true rfl, Nat.le_of_ble_eq_true rfl⟩) hE hX hex hlocks hP hD hS hA rfl rfl hl.1 (Nat.le_of_ble_eq_true rfl) dX6_item_15 ⟨Nat.le_of_ble_eq_true rfl, Nat.le_of_ble_eq_true rfl⟩ (Nat.le_of_ble_eq_true rfl) (Nat.le_of_ble_eq_true rfl)

theorem in_x3_X6_item_RX2 : ∀ w ∈ wsX20, w ∈ wsX6_item := by decide +kernel
theorem in_x3_X6_item_RX6 : ∀ w ∈ wsX60, w ∈ wsX6_item := by decide +kernel
theorem inx_x3_X6_item_72 : ∀ w ∈ (vx_atS RX6 72 "java/lang/IllegalStateException" ["java/lang/RuntimeException", "java/lang/Exception"]).filter goodWord, w ∈ wsX6_item := by decide +kernel
set_option maxHeartbeats 4000000 in
set_option maxRecDepth 100000 in
theorem x3_X6_item (l : Launch) {D : va_G} {y : Nat → Nat} {ws : va_W} {x_off_1 : Value} {x_off_2 : Value} {x_off_3 : Value} {x_off_4 : Value} {x_off_5 : Value} {x_off_6 : Value} {x_off_7 : Value} {x_led_1 : Value} {x_led_2 : Value} {x_led_3 : Value} {x_led_4 : Value} {x_led_5 : Value} {x_led_6 : Value} {x_led_7 : Value} {x_led_8 : Value} {x_led_9 : Value} {x_itl_0 : Value} {p_off p_led p_itl a_off a_led a_itl a_ita : Nat} {g mn sn : Nat} {n : Nat} (f0_off : ws[p_off]? = some (a_off, .inr (7, [.ref a_led, x_off_1, x_off_2, x_off_3, x_off_4, x_off_5, x_off_6, x_off_7]))) (f0_led : ws[p_led]? = some (a_led, .inr (3, [.ref a_itl, x_led_1, x_led_2, x_led_3, x_led_4, x_led_5, x_led_6, x_led_7, x_led_8, x_led_9]))) (f0_itl : ws[p_itl]? = some (a_itl, .inr (0, [x_itl_0, .ref a_ita, .int (nI (n))]))) (hfl : l.stackTraces = false) (hn : n ≤ 12) (hg : g < 4) (hmn : 0 ≤ mn) (kmn : mn ≤ 2) (hsn : 1 ≤ sn) (ksn : sn ≤ 4095) (hbad : 12 ≤ n) : gMxi l yX6_item wsX6_item ({ frames := 6, cells := 1, slots := 6, locals := 100 }) D y [.ref a_off, .int (nI (g)), .int (nI (mn)), .int (nI (sn))] ws "java/lang/IllegalStateException" := by
  refine g_metx_i (cc := cX6_item) (maxL := 4) (by decide) rfl (Nat.le_of_ble_eq_true rfl) ?_
  intro p e s m below meth c A hx hb hml hr hts hown hnm hlocks hE hP hD hS hA hex hX ls hl
  have hown : s.vm.findClass RX6 = some m.cls := hown
  have hl : lv_has ls 4 [(0, .ref a_off), (1, .int (nI (g))), (2, .int (nI (mn))), (3, .int (nI (sn)))] := hl
  have in_RX2 := in_x3_X6_item_RX2
  have in_RX6 := in_x3_X6_item_RX6
  refine lv_iload_n hx hb dX6_item_0 rfl (lv_at hl 1 rfl) ?_
  refine gc_S_v (As := [.int (nI (g))]) (rest := []) (c_X6_requireGroup l (rq_lt hg (by omega))) ⟨hx, hb, hml, hown, hts⟩ (va_cwS 1 hts gX6_item_X6_requireGroup rfl rfl rfl (by decide +kernel) ⟨Nat.le_of_ble_eq_true rfl, Nat.le_of_ble_eq_true rfl⟩) hE hP hD hS hA rfl rfl hl.1 (Nat.le_of_ble_eq_true rfl) dX6_item_1 ⟨Nat.le_of_ble_eq_true rfl, Nat.le_of_ble_eq_true rfl⟩ (fun u_1 H locs hP hD hS q_1 => ?_)
  refine lv_iload_n hx hb dX6_item_4 rfl (lv_at hl 2 rfl) ?_
  refine lv_iconst (v := nI 0) hx hb dX6_item_5 (by decide) ?_
  refine lv_iconst (v := nI 2) hx hb dX6_item_6 (by decide) ?_
  refine gc_S_v (As := [.int (nI (mn)), .int (nI (0)), .int (nI (2))]) (rest := []) (c_X6_requireRange l (rq_rg hmn kmn (by decide))) ⟨hx, hb, hml, hown, hts⟩ (va_cwS 3 hts gX6_item_X6_requireRange rfl rfl rfl (by decide +kernel) ⟨Nat.le_of_ble_eq_true rfl, Nat.le_of_ble_eq_true rfl⟩) hE hP hD hS hA rfl rfl hl.1 (Nat.le_of_ble_eq_true rfl) dX6_item_7 ⟨Nat.le_of_ble_eq_true rfl, Nat.le_of_ble_eq_true rfl⟩ (fun u_7 H locs hP hD hS q_7 => ?_)
  refine lv_iload_n hx hb dX6_item_10 rfl (lv_at hl 3 rfl) ?_
  refine lv_iconst (v := nI 1) hx hb dX6_item_11 (by decide) ?_
  refine lv_sipush (v := nI 4095) hx hb dX6_item_12 (by decide) ?_
  refine gc_S_v (As := [.int (nI (sn)), .int (nI (1)), .int (nI (4095))]) (rest := []) (c_X6_requireRange l (rq_rg hsn ksn (by decide))) ⟨hx, hb, hml, hown, hts⟩ (va_cwS 3 hts gX6_item_X6_requireRange rfl rfl rfl (by decide +kernel) ⟨Nat.le_of_ble_eq_true rfl, Nat.le_of_ble_eq_true rfl⟩) hE hP hD hS hA rfl rfl hl.1 (Nat.le_of_ble_eq_true rfl) dX6_item_15 ⟨Nat.le_of_ble_eq_true rfl, Nat.le_of_ble_eq_true rfl⟩ (fun u_15 H locs hP hD hS q_15 => ?_)
  refine lv_aload_n hx hb dX6_item_18 rfl (lv_at hl 0 rfl) ?_
  refine va_get (D := D) (ci := 7) (v := .ref a_led) (C := RX6) (T := TX6) (N := 8) hx hb hts in_RX6 hown hE.1 (gv1 hP f0_off) 0 rfl rfl 0 (by decide) (hts (.fieldLink RX6 12 "BasketryOffice" "ledger" "LBasketryOffice$Ledger;") (by decide +kernel)) (fun _ h9 => h9) rfl dX6_item_19 ?_
  refine va_getN (D := D) (ci := 3) (v := .ref a_itl) (C := RX2) (T := TX2) (N := 10) hx hb hts in_RX2 hown hE.1 (gv1 hP f0_led) 0 rfl rfl 0 (by decide) (va_Nw.use rfl (hE.2 (.fieldLinkNest RX6 61 "BasketryOffice$Ledger" "items" "Ljava/util/ArrayList;" "BasketryOffice") (by decide +kernel))) (fun _ h9 => h9) rfl dX6_item_22 ?_
  refine gc_V_i (As := []) (rest := []) (c_Jx4a65c_size_8abf5 l f0_itl) ⟨hx, hb, hml, hown, hts⟩ (cwV 0 hts gX6_item_Jx4a65c_size_8abf5 rfl rfl rfl (by decide +kernel) ⟨Nat.le_of_ble_eq_true rfl, Nat.le_of_ble_eq_true rfl⟩) hE hP hD hS hA _ f0_itl rfl rfl rfl rfl hl.1 (Nat.le_of_ble_eq_true rfl) dX6_item_25 ⟨Nat.le_of_ble_eq_true rfl, Nat.le_of_ble_eq_true rfl⟩ (fun r_25 u_25 H locs hP hD hS q_25 => ?_)
  subst q_25
  refine lv_bipush (v := nI 12) hx hb dX6_item_28 (by decide) ?_
  refine g_icmp_lt (tgt := 43) hx hb (by omega) (by omega) dX6_item_30 (by decide) (fun c_30 => absurd c_30 (by omega)) (fun c_30 => ?_)
  exact g_throwS hx hb hfl (cls := "java/lang/IllegalStateException") (text := "there are 12 items") (names := ["java/lang/RuntimeException", "java/lang/Exception"]) (ik := 68) (is := 70) (ic := 72) hown (by decide +kernel) htex_72 (hts (.classLink RX6 68 "java/lang/IllegalStateException") (by decide +kernel)) (hts (.initialized "java/lang/IllegalStateException") (by decide +kernel)) (by decide +kernel) (fun w hw => hts w (inx_x3_X6_item_72 w hw)) hat2_72 (vx_c (va_Nw.use rfl (hE.2 _ hnest_72)) (vx_c (va_Nw.use rfl (hE.2 _ hnest_r)) (vx_c (va_Nw.use rfl (hE.2 _ hnest_e)) (vx_c (va_Nw.use rfl (hE.2 _ hnest_t)) vx_n)))) hgood_72 hX hS hP hD (hl.1.trans hml.symm) hex hlocks dX6_item_33 dX6_item_36 dX6_item_37 dX6_item_39 dX6_item_42 (Nat.le_of_ble_eq_true rfl) (Nat.le_of_ble_eq_true rfl) (Nat.le_of_ble_eq_true rfl) (Nat.le_of_ble_eq_true rfl) (Nat.le_of_ble_eq_true rfl) (Nat.le_of_ble_eq_true rfl)

theorem in_c_X6_item_RX1 : ∀ w ∈ wsX10, w ∈ wsX6_item := by decide +kernel
theorem in_c_X6_item_RX2 : ∀ w ∈ wsX20, w ∈ wsX6_item := by decide +kernel
theorem in_c_X6_item_RX6 : ∀ w ∈ wsX60, w ∈ wsX6_item := by decide +kernel
set_option maxHeartbeats 4000000 in
set_option maxRecDepth 100000 in
theorem c_X6_item (l : Launch) {D : va_G} {y : Nat → Nat} {ws : va_W} {x_off_1 : Value} {x_off_2 : Value} {x_off_3 : Value} {x_off_4 : Value} {x_off_5 : Value} {x_off_6 : Value} {x_off_7 : Value} {x_led_1 : Value} {x_led_2 : Value} {x_led_3 : Value} {x_led_4 : Value} {x_led_5 : Value} {x_led_6 : Value} {x_led_7 : Value} {x_led_8 : Value} {x_led_9 : Value} {mi : Nat} {p_off p_led p_itl p_ita a_off a_led a_itl a_ita a_emp : Nat} {q : Nat → Option Nat} {g mn sn : Nat} {mc9 : Int32} {n cap : Nat} (f0_off : ws[p_off]? = some (a_off, .inr (7, [.ref a_led, x_off_1, x_off_2, x_off_3, x_off_4, x_off_5, x_off_6, x_off_7]))) (f0_led : ws[p_led]? = some (a_led, .inr (3, [.ref a_itl, x_led_1, x_led_2, x_led_3, x_led_4, x_led_5, x_led_6, x_led_7, x_led_8, x_led_9]))) (f0_itl : ws[p_itl]? = some (a_itl, .inr (0, [.int (mc9), .ref a_ita, .int (nI (n))]))) (f0_ita : ws[p_ita]? = some (a_ita, eQ y cap q)) (hg : g < 4) (hmn : 0 ≤ mn) (kmn : mn ≤ 2) (hsn : 1 ≤ sn) (ksn : sn ≤ 4095) (hn12 : n < 12) (hnc : n < cap) (hcap : cap < 2 ^ 31) : gYi l yX6_item wsX6_item ({ frames := 2, cells := 1, slots := 3, locals := 46 }) D y a_emp mi [.ref a_off, .int (nI (g)), .int (nI (mn)), .int (nI (sn))] ws (fun r (u : va_W) => gKeep ws u [p_itl, p_ita] ∧ u.length = ws.length + 1 ∧ r = nI n ∧ ∃ a_it : Nat, u[p_itl]? = some (a_itl, .inr (0, [.int (mc9 + nI 1), .ref a_ita, .int (nI (n + 1))])) ∧ u[p_ita]? = some (a_ita, eQ y cap (va_up q (n) (some a_it))) ∧ u[ws.length + 0]? = some (a_it, .inr (2, [.int (nI (g)), .int (nI (mn)), .int (nI (sn))]))) (fun (u : va_W) => u) := by
  refine g_mety_i (cc := cX6_item) (maxL := 4) (by decide) rfl (Nat.le_of_ble_eq_true rfl) ?_
  intro p e s m below meth c A hx hb hml hr hts hown hnm hlocks hE hP hD hS hA hY ls hl
  have hown : s.vm.findClass RX6 = some m.cls := hown
  have hl : lv_has ls 4 [(0, .ref a_off), (1, .int (nI (g))), (2, .int (nI (mn))), (3, .int (nI (sn)))] := hl
  have in_RX1 := in_c_X6_item_RX1
  have in_RX2 := in_c_X6_item_RX2
  have in_RX6 := in_c_X6_item_RX6
  refine lv_iload_n hx hb dX6_item_0 rfl (lv_at hl 1 rfl) ?_
  refine gc_S_v (As := [.int (nI (g))]) (rest := []) (c_X6_requireGroup l (rq_lt hg (by omega))) ⟨hx, hb, hml, hown, hts⟩ (va_cwS 1 hts gX6_item_X6_requireGroup rfl rfl rfl (by decide +kernel) ⟨Nat.le_of_ble_eq_true rfl, Nat.le_of_ble_eq_true rfl⟩) hE hP hD hS hA rfl rfl hl.1 (Nat.le_of_ble_eq_true rfl) dX6_item_1 ⟨Nat.le_of_ble_eq_true rfl, Nat.le_of_ble_eq_true rfl⟩ (fun u_1 H locs hP hD hS q_1 => ?_)
  refine lv_iload_n hx hb dX6_item_4 rfl (lv_at hl 2 rfl) ?_
  refine lv_iconst (v := nI 0) hx hb dX6_item_5 (by decide) ?_
  refine lv_iconst (v := nI 2) hx hb dX6_item_6 (by decide) ?_
  refine gc_S_v (As := [.int (nI (mn)), .int (nI (0)), .int (nI (2))]) (rest := []) (c_X6_requireRange l (rq_rg hmn kmn (by decide))) ⟨hx, hb, hml, hown, hts⟩ (va_cwS 3 hts gX6_item_X6_requireRange rfl rfl rfl (by decide +kernel) ⟨Nat.le_of_ble_eq_true rfl, Nat.le_of_ble_eq_true rfl⟩) hE hP hD hS hA rfl rfl hl.1 (Nat.le_of_ble_eq_true rfl) dX6_item_7 ⟨Nat.le_of_ble_eq_true rfl, Nat.le_of_ble_eq_true rfl⟩ (fun u_7 H locs hP hD hS q_7 => ?_)
  refine lv_iload_n hx hb dX6_item_10 rfl (lv_at hl 3 rfl) ?_
  refine lv_iconst (v := nI 1) hx hb dX6_item_11 (by decide) ?_
  refine lv_sipush (v := nI 4095) hx hb dX6_item_12 (by decide) ?_
  refine gc_S_v (As := [.int (nI (sn)), .int (nI (1)), .int (nI (4095))]) (rest := []) (c_X6_requireRange l (rq_rg hsn ksn (by decide))) ⟨hx, hb, hml, hown, hts⟩ (va_cwS 3 hts gX6_item_X6_requireRange rfl rfl rfl (by decide +kernel) ⟨Nat.le_of_ble_eq_true rfl, Nat.le_of_ble_eq_true rfl⟩) hE hP hD hS hA rfl rfl hl.1 (Nat.le_of_ble_eq_true rfl) dX6_item_15 ⟨Nat.le_of_ble_eq_true rfl, Nat.le_of_ble_eq_true rfl⟩ (fun u_15 H locs hP hD hS q_15 => ?_)
  refine lv_aload_n hx hb dX6_item_18 rfl (lv_at hl 0 rfl) ?_
  refine va_get (D := D) (ci := 7) (v := .ref a_led) (C := RX6) (T := TX6) (N := 8) hx hb hts in_RX6 hown hE.1 (gv1 hP f0_off) 0 rfl rfl 0 (by decide) (hts (.fieldLink RX6 12 "BasketryOffice" "ledger" "LBasketryOffice$Ledger;") (by decide +kernel)) (fun _ h9 => h9) rfl dX6_item_19 ?_
  refine va_getN (D := D) (ci := 3) (v := .ref a_itl) (C := RX2) (T := TX2) (N := 10) hx hb hts in_RX2 hown hE.1 (gv1 hP f0_led) 0 rfl rfl 0 (by decide) (va_Nw.use rfl (hE.2 (.fieldLinkNest RX6 61 "BasketryOffice$Ledger" "items" "Ljava/util/ArrayList;" "BasketryOffice") (by decide +kernel))) (fun _ h9 => h9) rfl dX6_item_22 ?_
  refine gc_V_i (As := []) (rest := []) (c_Jx4a65c_size_8abf5 l f0_itl) ⟨hx, hb, hml, hown, hts⟩ (cwV 0 hts gX6_item_Jx4a65c_size_8abf5 rfl rfl rfl (by decide +kernel) ⟨Nat.le_of_ble_eq_true rfl, Nat.le_of_ble_eq_true rfl⟩) hE hP hD hS hA _ f0_itl rfl rfl rfl rfl hl.1 (Nat.le_of_ble_eq_true rfl) dX6_item_25 ⟨Nat.le_of_ble_eq_true rfl, Nat.le_of_ble_eq_true rfl⟩ (fun r_25 u_25 H locs hP hD hS q_25 => ?_)
  subst q_25
  refine lv_bipush (v := nI 12) hx hb dX6_item_28 (by decide) ?_
  refine g_icmp_lt (tgt := 43) hx hb (by omega) (by omega) dX6_item_30 (by decide) (fun c_30 => ?_) (fun c_30 => absurd c_30 (by omega))
  refine lv_aload_n hx hb dX6_item_43 rfl (lv_at hl 0 rfl) ?_
  refine va_get (D := D) (ci := 7) (v := .ref a_led) (C := RX6) (T := TX6) (N := 8) hx hb hts in_RX6 hown hE.1 (gv1 hP f0_off) 0 rfl rfl 0 (by decide) (hts (.fieldLink RX6 12 "BasketryOffice" "ledger" "LBasketryOffice$Ledger;") (by decide +kernel)) (fun _ h9 => h9) rfl dX6_item_44 ?_
  refine va_getN (D := D) (ci := 3) (v := .ref a_itl) (C := RX2) (T := TX2) (N := 10) hx hb hts in_RX2 hown hE.1 (gv1 hP f0_led) 0 rfl rfl 0 (by decide) (va_Nw.use rfl (hE.2 (.fieldLinkNest RX6 61 "BasketryOffice$Ledger" "items" "Ljava/util/ArrayList;" "BasketryOffice") (by decide +kernel))) (fun _ h9 => h9) rfl dX6_item_47 ?_
  refine gv_add (by intro _; rfl) (fun kk9 => va_new (ci := 2) (fs := [.int (nI (0)), .int (nI (0)), .int (nI (0))]) (C := RX1) (T := TX1) (N := 3) hx hb hts in_RX1 tyX1 tyX1_ok hown (hts (.classLink RX6 75 RX1) (by decide +kernel)) (hts (.instantiable RX1 3) (by decide +kernel)) (hts (.initialized RX1) (by decide +kernel)) hE.1 hP hD hS hA rfl (fun j hj => by rcases (show j = 0 ∨ j = 1 ∨ j = 2 by omega) with rfl | rfl | rfl <;> rfl) (Nat.le_of_ble_eq_true rfl) (Nat.le_of_ble_eq_true rfl) dX6_item_50 kk9) (fun a_it H hP hD hS => ?_)
  obtain ⟨p_it, hp_it⟩ : ∃ z, z = (ws).length := ⟨_, rfl⟩
  obtain ⟨B50_0, hB50_0⟩ : ∃ B, B = (ws ++ [((a_it, .inr (2, [.int (nI (0)), .int (nI (0)), .int (nI (0))])) : Nat × va_E)]) := ⟨_, rfl⟩
  have hq_it : p_it = ws.length + 0 := hp_it
  have hLB50_0 : B50_0.length = ws.length + 1 := by rw [hB50_0, List.length_append]; rfl
  have hKB50_0 : gKeep ws B50_0 [p_itl, p_ita] := gKeep.app hB50_0 (gKeep.refl ws _)
  have e50_0_it : B50_0[p_it]? = some (a_it, .inr (2, [.int (nI (0)), .int (nI (0)), .int (nI (0))])) := by rw [hB50_0, hp_it]; exact g_apN
  have q50_0 : (ws ++ [((a_it, .inr (2, [.int (nI (0)), .int (nI (0)), .int (nI (0))])) : Nat × va_E)]) = B50_0 := hB50_0.symm
  have hP : gvP D vwCl (ws ++ [((a_it, .inr (2, [.int (nI (0)), .int (nI (0)), .int (nI (0))])) : Nat × va_E)]) _ := hP
  have hD : gvD A (ws ++ [((a_it, .inr (2, [.int (nI (0)), .int (nI (0)), .int (nI (0))])) : Nat × va_E)]) := hD
  have hP : gvP D vwCl B50_0 _ := g_trP (by rw [q50_0]) hP
  have hD : gvD A B50_0 := g_trD (by rw [q50_0]) hD
  refine lv_dup hx hb dX6_item_53 rfl ?_
  refine lv_iload_n hx hb dX6_item_54 rfl (lv_at hl 1 rfl) ?_
  refine lv_iload_n hx hb dX6_item_55 rfl (lv_at hl 2 rfl) ?_
  refine lv_iload_n hx hb dX6_item_56 rfl (lv_at hl 3 rfl) ?_
  have f_it := e50_0_it
  refine gc_I_v (As := [.int (nI (g)), .int (nI (mn)), .int (nI (sn))]) (rest := [.ref a_it, .ref a_itl]) (c_X1_init l f_it) ⟨hx, hb, hml, hown, hts⟩ (cwI 3 hts gX6_item_X1_init rfl rfl rfl (hts (.initialized RX1) (by decide +kernel)) (hts (.methodLink RX6 77 yX1_init) (by decide +kernel)) (hts (.instanceMethod yX1_init) (by decide +kernel)) rfl (by decide +kernel) ⟨Nat.le_of_ble_eq_true rfl, Nat.le_of_ble_eq_true rfl⟩) hE hP hD hS hA rfl rfl hl.1 (Nat.le_of_ble_eq_true rfl) dX6_item_57 ⟨Nat.le_of_ble_eq_true rfl, Nat.le_of_ble_eq_true rfl⟩ (fun u_57 H locs hP hD hS q_57 => ?_)
  have e50_0_itl := g_apE hB50_0 f0_itl
  have f_itl := g_ne (x := (a_it, .inr (2, [.int (nI (g)), .int (nI (mn)), .int (nI (sn))]))) (g_kne e50_0_it e50_0_itl (Nat.ne_of_beq_eq_false rfl)) (e50_0_itl)
  have e50_0_ita := g_apE hB50_0 f0_ita
  have f_ita := g_ne (x := (a_it, .inr (2, [.int (nI (g)), .int (nI (mn)), .int (nI (sn))]))) (g_kne e50_0_it e50_0_ita (Nat.ne_of_beq_eq_false rfl)) (e50_0_ita)
  have f_it := g_eq (x := (a_it, .inr (2, [.int (nI (g)), .int (nI (mn)), .int (nI (sn))]))) (e50_0_it)
  refine gcy_V_i (As := [.ref a_it]) (rest := []) (c_add_it l f_itl f_ita f_it hnc hcap) ⟨hx, hb, hml, hown, hts⟩ (cwV 1 hts gX6_item_Jx4a65c_add_9ea2d rfl rfl rfl (by decide +kernel) ⟨Nat.le_of_ble_eq_true rfl, Nat.le_of_ble_eq_true rfl⟩) hE hY hP hD hS hA _ f_itl rfl rfl rfl rfl hl.1 (Nat.le_of_ble_eq_true rfl) dX6_item_60 ⟨Nat.le_of_ble_eq_true rfl, Nat.le_of_ble_eq_true rfl⟩ (fun r_60 u_60 H locs hP hD hS q_60 => ?_)
  subst q_60
  refine lv_pop hx hb dX6_item_63 rfl ?_
  refine lv_aload_n hx hb dX6_item_64 rfl (lv_at hl 0 rfl) ?_
  have e50_0_off := g_apE hB50_0 f0_off
  have f_off := g_ne (x := (a_ita, eQ y cap (va_up q (n) (some a_it)))) (g_kne e50_0_ita e50_0_off (Nat.ne_of_beq_eq_false rfl)) (g_ne (x := (a_itl, .inr (0, [.int (mc9 + nI 1), .ref a_ita, .int (nI (n + 1))]))) (g_kne e50_0_itl e50_0_off (Nat.ne_of_beq_eq_false rfl)) (g_ne (x := (a_it, .inr (2, [.int (nI (g)), .int (nI (mn)), .int (nI (sn))]))) (g_kne e50_0_it e50_0_off (Nat.ne_of_beq_eq_false rfl)) (e50_0_off)))
  refine va_get (D := D) (ci := 7) (v := .ref a_led) (C := RX6) (T := TX6) (N := 8) hx hb hts in_RX6 hown hE.1 (gv1 hP f_off) 0 rfl rfl 0 (by decide) (hts (.fieldLink RX6 12 "BasketryOffice" "ledger" "LBasketryOffice$Ledger;") (by decide +kernel)) (fun _ h9 => h9) rfl dX6_item_65 ?_
  have e50_0_led := g_apE hB50_0 f0_led
  have f_led := g_ne (x := (a_ita, eQ y cap (va_up q (n) (some a_it)))) (g_kne e50_0_ita e50_0_led (Nat.ne_of_beq_eq_false rfl)) (g_ne (x := (a_itl, .inr (0, [.int (mc9 + nI 1), .ref a_ita, .int (nI (n + 1))]))) (g_kne e50_0_itl e50_0_led (Nat.ne_of_beq_eq_false rfl)) (g_ne (x := (a_it, .inr (2, [.int (nI (g)), .int (nI (mn)), .int (nI (sn))]))) (g_kne e50_0_it e50_0_led (Nat.ne_of_beq_eq_false rfl)) (e50_0_led)))
  refine va_getN (D := D) (ci := 3) (v := .ref a_itl) (C := RX2) (T := TX2) (N := 10) hx hb hts in_RX2 hown hE.1 (gv1 hP f_led) 0 rfl rfl 0 (by decide) (va_Nw.use rfl (hE.2 (.fieldLinkNest RX6 61 "BasketryOffice$Ledger" "items" "Ljava/util/ArrayList;" "BasketryOffice") (by decide +kernel))) (fun _ h9 => h9) rfl dX6_item_68 ?_
  have f_itl := g_ne (x := (a_ita, eQ y cap (va_up q (n) (some a_it)))) (g_kne e50_0_ita e50_0_itl (Nat.ne_of_beq_eq_false rfl)) (g_eq (x := (a_itl, .inr (0, [.int (mc9 + nI 1), .ref a_ita, .int (nI (n + 1))]))) (g_ne (x := (a_it, .inr (2, [.int (nI (g)), .int (nI (mn)), .int (nI (sn))]))) (g_kne e50_0_it e50_0_itl (Nat.ne_of_beq_eq_false rfl)) (e50_0_itl)))
  refine gc_V_i (As := []) (rest := []) (c_Jx4a65c_size_8abf5 l f_itl) ⟨hx, hb, hml, hown, hts⟩ (cwV 0 hts gX6_item_Jx4a65c_size_8abf5 rfl rfl rfl (by decide +kernel) ⟨Nat.le_of_ble_eq_true rfl, Nat.le_of_ble_eq_true rfl⟩) hE hP hD hS hA _ f_itl rfl rfl rfl rfl hl.1 (Nat.le_of_ble_eq_true rfl) dX6_item_71 ⟨Nat.le_of_ble_eq_true rfl, Nat.le_of_ble_eq_true rfl⟩ (fun r_71 u_71 H locs hP hD hS q_71 => ?_)
  subst q_71
  refine lv_iconst (v := nI 1) hx hb dX6_item_74 (by decide) ?_
  refine g_isub hx hb dX6_item_75 (pk_sub (by omega)) ?_
  have hKW : gKeep ws (((B50_0.set p_it (a_it, .inr (2, [.int (nI (g)), .int (nI (mn)), .int (nI (sn))]))).set p_itl (a_itl, .inr (0, [.int (mc9 + nI 1), .ref a_ita, .int (nI (n + 1))]))).set p_ita (a_ita, eQ y cap (va_up q (n) (some a_it)))) [p_itl, p_ita] := (gKeep.set_in (gKeep.set_in (gKeep.set_new hKB50_0 (g_lek hq_it)) (by simp)) (by simp))
  have hLW : (((B50_0.set p_it (a_it, .inr (2, [.int (nI (g)), .int (nI (mn)), .int (nI (sn))]))).set p_itl (a_itl, .inr (0, [.int (mc9 + nI 1), .ref a_ita, .int (nI (n + 1))]))).set p_ita (a_ita, eQ y cap (va_up q (n) (some a_it)))).length = ws.length + 1 := by simp only [List.length_set]; exact hLB50_0
  have f_ita := g_eq (x := (a_ita, eQ y cap (va_up q (n) (some a_it)))) (g_ne (x := (a_itl, .inr (0, [.int (mc9 + nI 1), .ref a_ita, .int (nI (n + 1))]))) (g_kne e50_0_itl e50_0_ita (Nat.ne_of_beq_eq_false rfl)) (g_ne (x := (a_it, .inr (2, [.int (nI (g)), .int (nI (mn)), .int (nI (sn))]))) (g_kne e50_0_it e50_0_ita (Nat.ne_of_beq_eq_false rfl)) (e50_0_ita)))
  have f_it := g_ne (x := (a_ita, eQ y cap (va_up q (n) (some a_it)))) (g_kne e50_0_ita e50_0_it (Nat.ne_of_beq_eq_false rfl)) (g_ne (x := (a_itl, .inr (0, [.int (mc9 + nI 1), .ref a_ita, .int (nI (n + 1))]))) (g_kne e50_0_itl e50_0_it (Nat.ne_of_beq_eq_false rfl)) (g_eq (x := (a_it, .inr (2, [.int (nI (g)), .int (nI (mn)), .int (nI (sn))]))) (e50_0_it)))
  refine g_iret hx hb hr hlocks (((B50_0.set p_it (a_it, .inr (2, [.int (nI (g)), .int (nI (mn)), .int (nI (sn))]))).set p_itl (a_itl, .inr (0, [.int (mc9 + nI 1), .ref a_ita, .int (nI (n + 1))]))).set p_ita (a_ita, eQ y cap (va_up q (n) (some a_it)))) dX6_item_76 hS hP hD ?_
  exact ⟨hKW, hLW, rfl, a_it, f_itl, f_ita, (by rw [← hq_it]; exact f_it)⟩

theorem in_c_X6_item_0_RX1 : ∀ w ∈ wsX10, w ∈ wsX6_item := by decide +kernel
theorem in_c_X6_item_0_RX2 : ∀ w ∈ wsX20, w ∈ wsX6_item := by decide +kernel
theorem in_c_X6_item_0_RX6 : ∀ w ∈ wsX60, w ∈ wsX6_item := by decide +kernel
set_option maxHeartbeats 4000000 in
set_option maxRecDepth 100000 in
theorem c_X6_item_0 (l : Launch) {D : va_G} {y : Nat → Nat} {ws : va_W} {x_off_1 : Value} {x_off_2 : Value} {x_off_3 : Value} {x_off_4 : Value} {x_off_5 : Value} {x_off_6 : Value} {x_off_7 : Value} {x_led_1 : Value} {x_led_2 : Value} {x_led_3 : Value} {x_led_4 : Value} {x_led_5 : Value} {x_led_6 : Value} {x_led_7 : Value} {x_led_8 : Value} {x_led_9 : Value} {mi : Nat} {p_off p_led p_itl p_emp a_off a_led a_itl a_emp : Nat} {qe : Nat → Option Nat} {g mn sn : Nat} {mc9 : Int32}  (f0_off : ws[p_off]? = some (a_off, .inr (7, [.ref a_led, x_off_1, x_off_2, x_off_3, x_off_4, x_off_5, x_off_6, x_off_7]))) (f0_led : ws[p_led]? = some (a_led, .inr (3, [.ref a_itl, x_led_1, x_led_2, x_led_3, x_led_4, x_led_5, x_led_6, x_led_7, x_led_8, x_led_9]))) (f0_itl : ws[p_itl]? = some (a_itl, .inr (0, [.int (mc9), .ref a_emp, .int (nI (0))]))) (f0_emp : ws[p_emp]? = some (a_emp, eQ y 0 qe)) (hg : g < 4) (hmn : 0 ≤ mn) (kmn : mn ≤ 2) (hsn : 1 ≤ sn) (ksn : sn ≤ 4095)  : gYi l yX6_item wsX6_item ({ frames := 5, cells := 2, slots := 13, locals := 108 }) D y a_emp mi [.ref a_off, .int (nI (g)), .int (nI (mn)), .int (nI (sn))] ws (fun r (u : va_W) => gKeep ws u [p_itl] ∧ u.length = ws.length + 2 ∧ r = nI 0 ∧ ∃ a_it a_ita : Nat, u[p_itl]? = some (a_itl, .inr (0, [.int (mc9 + nI 1), .ref a_ita, .int (nI (1))])) ∧ u[ws.length + 0]? = some (a_it, .inr (2, [.int (nI (g)), .int (nI (mn)), .int (nI (sn))])) ∧ u[ws.length + 1]? = some (a_ita, eQ y 10 (va_up (fun _ => none) 0 (some a_it)))) (fun (u : va_W) => u) := by
  refine g_mety_i (cc := cX6_item) (maxL := 4) (by decide) rfl (Nat.le_of_ble_eq_true rfl) ?_
  intro p e s m below meth c A hx hb hml hr hts hown hnm hlocks hE hP hD hS hA hY ls hl
  have hown : s.vm.findClass RX6 = some m.cls := hown
  have hl : lv_has ls 4 [(0, .ref a_off), (1, .int (nI (g))), (2, .int (nI (mn))), (3, .int (nI (sn)))] := hl
  have in_RX1 := in_c_X6_item_0_RX1
  have in_RX2 := in_c_X6_item_0_RX2
  have in_RX6 := in_c_X6_item_0_RX6
  refine lv_iload_n hx hb dX6_item_0 rfl (lv_at hl 1 rfl) ?_
  refine gc_S_v (As := [.int (nI (g))]) (rest := []) (c_X6_requireGroup l (rq_lt hg (by omega))) ⟨hx, hb, hml, hown, hts⟩ (va_cwS 1 hts gX6_item_X6_requireGroup rfl rfl rfl (by decide +kernel) ⟨Nat.le_of_ble_eq_true rfl, Nat.le_of_ble_eq_true rfl⟩) hE hP hD hS hA rfl rfl hl.1 (Nat.le_of_ble_eq_true rfl) dX6_item_1 ⟨Nat.le_of_ble_eq_true rfl, Nat.le_of_ble_eq_true rfl⟩ (fun u_1 H locs hP hD hS q_1 => ?_)
  refine lv_iload_n hx hb dX6_item_4 rfl (lv_at hl 2 rfl) ?_
  refine lv_iconst (v := nI 0) hx hb dX6_item_5 (by decide) ?_
  refine lv_iconst (v := nI 2) hx hb dX6_item_6 (by decide) ?_
  refine gc_S_v (As := [.int (nI (mn)), .int (nI (0)), .int (nI (2))]) (rest := []) (c_X6_requireRange l (rq_rg hmn kmn (by decide))) ⟨hx, hb, hml, hown, hts⟩ (va_cwS 3 hts gX6_item_X6_requireRange rfl rfl rfl (by decide +kernel) ⟨Nat.le_of_ble_eq_true rfl, Nat.le_of_ble_eq_true rfl⟩) hE hP hD hS hA rfl rfl hl.1 (Nat.le_of_ble_eq_true rfl) dX6_item_7 ⟨Nat.le_of_ble_eq_true rfl, Nat.le_of_ble_eq_true rfl⟩ (fun u_7 H locs hP hD hS q_7 => ?_)
  refine lv_iload_n hx hb dX6_item_10 rfl (lv_at hl 3 rfl) ?_
  refine lv_iconst (v := nI 1) hx hb dX6_item_11 (by decide) ?_
  refine lv_sipush (v := nI 4095) hx hb dX6_item_12 (by decide) ?_
  refine gc_S_v (As := [.int (nI (sn)), .int (nI (1)), .int (nI (4095))]) (rest := []) (c_X6_requireRange l (rq_rg hsn ksn (by decide))) ⟨hx, hb, hml, hown, hts⟩ (va_cwS 3 hts gX6_item_X6_requireRange rfl rfl rfl (by decide +kernel) ⟨Nat.le_of_ble_eq_true rfl, Nat.le_of_ble_eq_true rfl⟩) hE hP hD hS hA rfl rfl hl.1 (Nat.le_of_ble_eq_true rfl) dX6_item_15 ⟨Nat.le_of_ble_eq_true rfl, Nat.le_of_ble_eq_true rfl⟩ (fun u_15 H locs hP hD hS q_15 => ?_)
  refine lv_aload_n hx hb dX6_item_18 rfl (lv_at hl 0 rfl) ?_
  refine va_get (D := D) (ci := 7) (v := .ref a_led) (C := RX6) (T := TX6) (N := 8) hx hb hts in_RX6 hown hE.1 (gv1 hP f0_off) 0 rfl rfl 0 (by decide) (hts (.fieldLink RX6 12 "BasketryOffice" "ledger" "LBasketryOffice$Ledger;") (by decide +kernel)) (fun _ h9 => h9) rfl dX6_item_19 ?_
  refine va_getN (D := D) (ci := 3) (v := .ref a_itl) (C := RX2) (T := TX2) (N := 10) hx hb hts in_RX2 hown hE.1 (gv1 hP f0_led) 0 rfl rfl 0 (by decide) (va_Nw.use rfl (hE.2 (.fieldLinkNest RX6 61 "BasketryOffice$Ledger" "items" "Ljava/util/ArrayList;" "BasketryOffice") (by decide +kernel))) (fun _ h9 => h9) rfl dX6_item_22 ?_
  refine gc_V_i (As := []) (rest := []) (c_Jx4a65c_size_8abf5 l f0_itl) ⟨hx, hb, hml, hown, hts⟩ (cwV 0 hts gX6_item_Jx4a65c_size_8abf5 rfl rfl rfl (by decide +kernel) ⟨Nat.le_of_ble_eq_true rfl, Nat.le_of_ble_eq_true rfl⟩) hE hP hD hS hA _ f0_itl rfl rfl rfl rfl hl.1 (Nat.le_of_ble_eq_true rfl) dX6_item_25 ⟨Nat.le_of_ble_eq_true rfl, Nat.le_of_ble_eq_true rfl⟩ (fun r_25 u_25 H locs hP hD hS q_25 => ?_)
  subst q_25
  refine lv_bipush (v := nI 12) hx hb dX6_item_28 (by decide) ?_
  refine g_icmp_lt (tgt := 43) hx hb (by omega) (by omega) dX6_item_30 (by decide) (fun c_30 => ?_) (fun c_30 => absurd c_30 (by omega))
  refine lv_aload_n hx hb dX6_item_43 rfl (lv_at hl 0 rfl) ?_
  refine va_get (D := D) (ci := 7) (v := .ref a_led) (C := RX6) (T := TX6) (N := 8) hx hb hts in_RX6 hown hE.1 (gv1 hP f0_off) 0 rfl rfl 0 (by decide) (hts (.fieldLink RX6 12 "BasketryOffice" "ledger" "LBasketryOffice$Ledger;") (by decide +kernel)) (fun _ h9 => h9) rfl dX6_item_44 ?_
  refine va_getN (D := D) (ci := 3) (v := .ref a_itl) (C := RX2) (T := TX2) (N := 10) hx hb hts in_RX2 hown hE.1 (gv1 hP f0_led) 0 rfl rfl 0 (by decide) (va_Nw.use rfl (hE.2 (.fieldLinkNest RX6 61 "BasketryOffice$Ledger" "items" "Ljava/util/ArrayList;" "BasketryOffice") (by decide +kernel))) (fun _ h9 => h9) rfl dX6_item_47 ?_
  refine gv_add (by intro _; rfl) (fun kk9 => va_new (ci := 2) (fs := [.int (nI (0)), .int (nI (0)), .int (nI (0))]) (C := RX1) (T := TX1) (N := 3) hx hb hts in_RX1 tyX1 tyX1_ok hown (hts (.classLink RX6 75 RX1) (by decide +kernel)) (hts (.instantiable RX1 3) (by decide +kernel)) (hts (.initialized RX1) (by decide +kernel)) hE.1 hP hD hS hA rfl (fun j hj => by rcases (show j = 0 ∨ j = 1 ∨ j = 2 by omega) with rfl | rfl | rfl <;> rfl) (Nat.le_of_ble_eq_true rfl) (Nat.le_of_ble_eq_true rfl) dX6_item_50 kk9) (fun a_it H hP hD hS => ?_)
  obtain ⟨p_it, hp_it⟩ : ∃ z, z = (ws).length := ⟨_, rfl⟩
  obtain ⟨B50_0, hB50_0⟩ : ∃ B, B = (ws ++ [((a_it, .inr (2, [.int (nI (0)), .int (nI (0)), .int (nI (0))])) : Nat × va_E)]) := ⟨_, rfl⟩
  have hq_it : p_it = ws.length + 0 := hp_it
  have hLB50_0 : B50_0.length = ws.length + 1 := by rw [hB50_0, List.length_append]; rfl
  have hKB50_0 : gKeep ws B50_0 [p_itl] := gKeep.app hB50_0 (gKeep.refl ws _)
  have e50_0_it : B50_0[p_it]? = some (a_it, .inr (2, [.int (nI (0)), .int (nI (0)), .int (nI (0))])) := by rw [hB50_0, hp_it]; exact g_apN
  have q50_0 : (ws ++ [((a_it, .inr (2, [.int (nI (0)), .int (nI (0)), .int (nI (0))])) : Nat × va_E)]) = B50_0 := hB50_0.symm
  have hP : gvP D vwCl (ws ++ [((a_it, .inr (2, [.int (nI (0)), .int (nI (0)), .int (nI (0))])) : Nat × va_E)]) _ := hP
  have hD : gvD A (ws ++ [((a_it, .inr (2, [.int (nI (0)), .int (nI (0)), .int (nI (0))])) : Nat × va_E)]) := hD
  have hP : gvP D vwCl B50_0 _ := g_trP (by rw [q50_0]) hP
  have hD : gvD A B50_0 := g_trD (by rw [q50_0]) hD
  refine lv_dup hx hb dX6_item_53 rfl ?_
  refine lv_iload_n hx hb dX6_item_54 rfl (lv_at hl 1 rfl) ?_
  refine lv_iload_n hx hb dX6_item_55 rfl (lv_at hl 2 rfl) ?_
  refine lv_iload_n hx hb dX6_item_56 rfl (lv_at hl 3 rfl) ?_
  have f_it := e50_0_it
  refine gc_I_v (As := [.int (nI (g)), .int (nI (mn)), .int (nI (sn))]) (rest := [.ref a_it, .ref a_itl]) (c_X1_init l f_it) ⟨hx, hb, hml, hown, hts⟩ (cwI 3 hts gX6_item_X1_init rfl rfl rfl (hts (.initialized RX1) (by decide +kernel)) (hts (.methodLink RX6 77 yX1_init) (by decide +kernel)) (hts (.instanceMethod yX1_init) (by decide +kernel)) rfl (by decide +kernel) ⟨Nat.le_of_ble_eq_true rfl, Nat.le_of_ble_eq_true rfl⟩) hE hP hD hS hA rfl rfl hl.1 (Nat.le_of_ble_eq_true rfl) dX6_item_57 ⟨Nat.le_of_ble_eq_true rfl, Nat.le_of_ble_eq_true rfl⟩ (fun u_57 H locs hP hD hS q_57 => ?_)
  have e50_0_itl := g_apE hB50_0 f0_itl
  have f_itl := g_ne (x := (a_it, .inr (2, [.int (nI (g)), .int (nI (mn)), .int (nI (sn))]))) (g_kne e50_0_it e50_0_itl (Nat.ne_of_beq_eq_false rfl)) (e50_0_itl)
  have e50_0_emp := g_apE hB50_0 f0_emp
  have f_emp := g_ne (x := (a_it, .inr (2, [.int (nI (g)), .int (nI (mn)), .int (nI (sn))]))) (g_kne e50_0_it e50_0_emp (Nat.ne_of_beq_eq_false rfl)) (e50_0_emp)
  have f_it := g_eq (x := (a_it, .inr (2, [.int (nI (g)), .int (nI (mn)), .int (nI (sn))]))) (e50_0_it)
  refine gcy_V_i (As := [.ref a_it]) (rest := []) (c_add_it0 l f_itl f_emp f_it) ⟨hx, hb, hml, hown, hts⟩ (cwV 1 hts gX6_item_Jx4a65c_add_9ea2d rfl rfl rfl (by decide +kernel) ⟨Nat.le_of_ble_eq_true rfl, Nat.le_of_ble_eq_true rfl⟩) hE hY hP hD hS hA _ f_itl rfl rfl rfl rfl hl.1 (Nat.le_of_ble_eq_true rfl) dX6_item_60 ⟨Nat.le_of_ble_eq_true rfl, Nat.le_of_ble_eq_true rfl⟩ (fun r_60 u_60 H locs hP hD hS q_60 => ?_)
  subst q_60
  obtain ⟨a_ita, rfl⟩ : ∃ z, z = u_60 := ⟨_, rfl⟩
  have hP : gvP D vwCl (((B50_0.set p_it (a_it, .inr (2, [.int (nI (g)), .int (nI (mn)), .int (nI (sn))]))) ++ [((a_ita, eQ y 10 (va_up (fun _ => none) 0 (some a_it))) : Nat × va_E)]).set p_itl (a_itl, .inr (0, [.int (mc9 + nI 1), .ref a_ita, .int (nI (1))]))) H := hP
  have hD : gvD A (((B50_0.set p_it (a_it, .inr (2, [.int (nI (g)), .int (nI (mn)), .int (nI (sn))]))) ++ [((a_ita, eQ y 10 (va_up (fun _ => none) 0 (some a_it))) : Nat × va_E)]).set p_itl (a_itl, .inr (0, [.int (mc9 + nI 1), .ref a_ita, .int (nI (1))]))) := hD
  obtain ⟨p_ita, hp_ita⟩ : ∃ z, z = (B50_0).length := ⟨_, rfl⟩
  obtain ⟨B60_0, hB60_0⟩ : ∃ B, B = (B50_0 ++ [((a_ita, eQ y 10 (va_up (fun _ => none) 0 (some a_it))) : Nat × va_E)]) := ⟨_, rfl⟩
  have hq_ita : p_ita = ws.length + 1 := hp_ita.trans hLB50_0
  have hLB60_0 : B60_0.length = ws.length + 2 := by rw [hB60_0, List.length_append, hLB50_0]; rfl
  have hKB60_0 : gKeep ws B60_0 [p_itl] := gKeep.app hB60_0 hKB50_0
  have e60_0_ita : B60_0[p_ita]? = some (a_ita, eQ y 10 (va_up (fun _ => none) 0 (some a_it))) := by rw [hB60_0, hp_ita]; exact g_apN
  have q60_0 : ((B50_0.set p_it (a_it, .inr (2, [.int (nI (g)), .int (nI (mn)), .int (nI (sn))]))) ++ [((a_ita, eQ y 10 (va_up (fun _ => none) 0 (some a_it))) : Nat × va_E)]) = (B60_0.set p_it (a_it, .inr (2, [.int (nI (g)), .int (nI (mn)), .int (nI (sn))]))) := by rw [hB60_0]; exact (g_sa (g_lt e50_0_it))
  have hP : gvP D vwCl (((B50_0.set p_it (a_it, .inr (2, [.int (nI (g)), .int (nI (mn)), .int (nI (sn))]))) ++ [((a_ita, eQ y 10 (va_up (fun _ => none) 0 (some a_it))) : Nat × va_E)]).set p_itl (a_itl, .inr (0, [.int (mc9 + nI 1), .ref a_ita, .int (nI (1))]))) _ := hP
  have hD : gvD A (((B50_0.set p_it (a_it, .inr (2, [.int (nI (g)), .int (nI (mn)), .int (nI (sn))]))) ++ [((a_ita, eQ y 10 (va_up (fun _ => none) 0 (some a_it))) : Nat × va_E)]).set p_itl (a_itl, .inr (0, [.int (mc9 + nI 1), .ref a_ita, .int (nI (1))]))) := hD
  have hP : gvP D vwCl ((B60_0.set p_it (a_it, .inr (2, [.int (nI (g)), .int (nI (mn)), .int (nI (sn))]))).set p_itl (a_itl, .inr (0, [.int (mc9 + nI 1), .ref a_ita, .int (nI (1))]))) _ := g_trP (by rw [q60_0]) hP
  have hD : gvD A ((B60_0.set p_it (a_it, .inr (2, [.int (nI (g)), .int (nI (mn)), .int (nI (sn))]))).set p_itl (a_itl, .inr (0, [.int (mc9 + nI 1), .ref a_ita, .int (nI (1))]))) := g_trD (by rw [q60_0]) hD
  refine lv_pop hx hb dX6_item_63 rfl ?_
  refine lv_aload_n hx hb dX6_item_64 rfl (lv_at hl 0 rfl) ?_
  have e50_0_off := g_apE hB50_0 f0_off
  have e60_0_off := g_apE hB60_0 e50_0_off
  have e60_0_it := g_apE hB60_0 e50_0_it
  have e60_0_itl := g_apE hB60_0 e50_0_itl
  have f_off := g_ne (x := (a_itl, .inr (0, [.int (mc9 + nI 1), .ref a_ita, .int (nI (1))]))) (g_kne e60_0_itl e60_0_off (Nat.ne_of_beq_eq_false rfl)) (g_ne (x := (a_it, .inr (2, [.int (nI (g)), .int (nI (mn)), .int (nI (sn))]))) (g_kne e60_0_it e60_0_off (Nat.ne_of_beq_eq_false rfl)) (e60_0_off))
  refine va_get (D := D) (ci := 7) (v := .ref a_led) (C := RX6) (T := TX6) (N := 8) hx hb hts in_RX6 hown hE.1 (gv1 hP f_off) 0 rfl rfl 0 (by decide) (hts (.fieldLink RX6 12 "BasketryOffice" "ledger" "LBasketryOffice$Ledger;") (by decide +kernel)) (fun _ h9 => h9) rfl dX6_item_65 ?_
  have e50_0_led := g_apE hB50_0 f0_led
  have e60_0_led := g_apE hB60_0 e50_0_led
  have f_led := g_ne (x := (a_itl, .inr (0, [.int (mc9 + nI 1), .ref a_ita, .int (nI (1))]))) (g_kne e60_0_itl e60_0_led (Nat.ne_of_beq_eq_false rfl)) (g_ne (x := (a_it, .inr (2, [.int (nI (g)), .int (nI (mn)), .int (nI (sn))]))) (g_kne e60_0_it e60_0_led (Nat.ne_of_beq_eq_false rfl)) (e60_0_led))
  refine va_getN (D := D) (ci := 3) (v := .ref a_itl) (C := RX2) (T := TX2) (N := 10) hx hb hts in_RX2 hown hE.1 (gv1 hP f_led) 0 rfl rfl 0 (by decide) (va_Nw.use rfl (hE.2 (.fieldLinkNest RX6 61 "BasketryOffice$Ledger" "items" "Ljava/util/ArrayList;" "BasketryOffice") (by decide +kernel))) (fun _ h9 => h9) rfl dX6_item_68 ?_
  have f_itl := g_eq (x := (a_itl, .inr (0, [.int (mc9 + nI 1), .ref a_ita, .int (nI (1))]))) (g_ne (x := (a_it, .inr (2, [.int (nI (g)), .int (nI (mn)), .int (nI (sn))]))) (g_kne e60_0_it e60_0_itl (Nat.ne_of_beq_eq_false rfl)) (e60_0_itl))
  refine gc_V_i (As := []) (rest := []) (c_Jx4a65c_size_8abf5 l f_itl) ⟨hx, hb, hml, hown, hts⟩ (cwV 0 hts gX6_item_Jx4a65c_size_8abf5 rfl rfl rfl (by decide +kernel) ⟨Nat.le_of_ble_eq_true rfl, Nat.le_of_ble_eq_true rfl⟩) hE hP hD hS hA _ f_itl rfl rfl rfl rfl hl.1 (Nat.le_of_ble_eq_true rfl) dX6_item_71 ⟨Nat.le_of_ble_eq_true rfl, Nat.le_of_ble_eq_true rfl⟩ (fun r_71 u_71 H locs hP hD hS q_71 => ?_)
  subst q_71
  refine lv_iconst (v := nI 1) hx hb dX6_item_74 (by decide) ?_
  refine g_isub hx hb dX6_item_75 (pk_sub (by omega)) ?_
  have hKW : gKeep ws ((B60_0.set p_it (a_it, .inr (2, [.int (nI (g)), .int (nI (mn)), .int (nI (sn))]))).set p_itl (a_itl, .inr (0, [.int (mc9 + nI 1), .ref a_ita, .int (nI (1))]))) [p_itl] := (gKeep.set_in (gKeep.set_new hKB60_0 (g_lek hq_it)) (by simp))
  have hLW : ((B60_0.set p_it (a_it, .inr (2, [.int (nI (g)), .int (nI (mn)), .int (nI (sn))]))).set p_itl (a_itl, .inr (0, [.int (mc9 + nI 1), .ref a_ita, .int (nI (1))]))).length = ws.length + 2 := by simp only [List.length_set]; exact hLB60_0
  have f_it := g_ne (x := (a_itl, .inr (0, [.int (mc9 + nI 1), .ref a_ita, .int (nI (1))]))) (g_kne e60_0_itl e60_0_it (Nat.ne_of_beq_eq_false rfl)) (g_eq (x := (a_it, .inr (2, [.int (nI (g)), .int (nI (mn)), .int (nI (sn))]))) (e60_0_it))
  have f_ita := g_ne (x := (a_itl, .inr (0, [.int (mc9 + nI 1), .ref a_ita, .int (nI (1))]))) (g_kne e60_0_itl e60_0_ita (Nat.ne_of_beq_eq_false rfl)) (g_ne (x := (a_it, .inr (2, [.int (nI (g)), .int (nI (mn)), .int (nI (sn))]))) (g_kne e60_0_it e60_0_ita (Nat.ne_of_beq_eq_false rfl)) (e60_0_ita))
  refine g_iret hx hb hr hlocks ((B60_0.set p_it (a_it, .inr (2, [.int (nI (g)), .int (nI (mn)), .int (nI (sn))]))).set p_itl (a_itl, .inr (0, [.int (mc9 + nI 1), .ref a_ita, .int (nI (1))]))) dX6_item_76 hS hP hD ?_
  exact ⟨hKW, hLW, rfl, a_it, a_ita, f_itl, (by rw [← hq_it]; exact f_it), (by rw [← hq_ita]; exact f_ita)⟩

theorem in_c_X6_item_10_RX1 : ∀ w ∈ wsX10, w ∈ wsX6_item := by decide +kernel
theorem in_c_X6_item_10_RX2 : ∀ w ∈ wsX20, w ∈ wsX6_item := by decide +kernel
theorem in_c_X6_item_10_RX6 : ∀ w ∈ wsX60, w ∈ wsX6_item := by decide +kernel
set_option maxHeartbeats 4000000 in
set_option maxRecDepth 100000 in
theorem c_X6_item_10 (l : Launch) {D : va_G} {y : Nat → Nat} {ws : va_W} {x_off_1 : Value} {x_off_2 : Value} {x_off_3 : Value} {x_off_4 : Value} {x_off_5 : Value} {x_off_6 : Value} {x_off_7 : Value} {x_led_1 : Value} {x_led_2 : Value} {x_led_3 : Value} {x_led_4 : Value} {x_led_5 : Value} {x_led_6 : Value} {x_led_7 : Value} {x_led_8 : Value} {x_led_9 : Value} {mi : Nat} {p_off p_led p_itl p_ita a_off a_led a_itl a_ita a_emp : Nat} {q : Nat → Option Nat} {g mn sn : Nat} {mc9 : Int32} {ad G M Sn : Nat → Nat} (f0_off : ws[p_off]? = some (a_off, .inr (7, [.ref a_led, x_off_1, x_off_2, x_off_3, x_off_4, x_off_5, x_off_6, x_off_7]))) (f0_led : ws[p_led]? = some (a_led, .inr (3, [.ref a_itl, x_led_1, x_led_2, x_led_3, x_led_4, x_led_5, x_led_6, x_led_7, x_led_8, x_led_9]))) (f0_itl : ws[p_itl]? = some (a_itl, .inr (0, [.int (mc9), .ref a_ita, .int (nI (10))]))) (f0_ita : ws[p_ita]? = some (a_ita, eQ y 10 q)) (hg : g < 4) (hmn : 0 ≤ mn) (kmn : mn ≤ 2) (hsn : 1 ≤ sn) (ksn : sn ≤ 4095) (hIt : gIt ws 10 10 q ad G M Sn) : gYi l yX6_item wsX6_item ({ frames := 7, cells := 2, slots := 18, locals := 161 }) D y a_emp mi [.ref a_off, .int (nI (g)), .int (nI (mn)), .int (nI (sn))] ws (fun r (u : va_W) => gKeep ws u [p_itl] ∧ u.length = ws.length + 2 ∧ r = nI 10 ∧ ∃ a_it a_ita2 : Nat, u[p_itl]? = some (a_itl, .inr (0, [.int (mc9 + nI 1), .ref a_ita2, .int (nI (11))])) ∧ u[ws.length + 0]? = some (a_it, .inr (2, [.int (nI (g)), .int (nI (mn)), .int (nI (sn))])) ∧ u[ws.length + 1]? = some (a_ita2, eQ y 15 (va_up (va_cpy q (fun _ => none) 0 0 10) 10 (some a_it)))) (fun (u : va_W) => u) := by
  refine g_mety_i (cc := cX6_item) (maxL := 4) (by decide) rfl (Nat.le_of_ble_eq_true rfl) ?_
  intro p e s m below meth c A hx hb hml hr hts hown hnm hlocks hE hP hD hS hA hY ls hl
  have hown : s.vm.findClass RX6 = some m.cls := hown
  have hl : lv_has ls 4 [(0, .ref a_off), (1, .int (nI (g))), (2, .int (nI (mn))), (3, .int (nI (sn)))] := hl
  have in_RX1 := in_c_X6_item_10_RX1
  have in_RX2 := in_c_X6_item_10_RX2
  have in_RX6 := in_c_X6_item_10_RX6
  have hItc := hIt
  refine lv_iload_n hx hb dX6_item_0 rfl (lv_at hl 1 rfl) ?_
  refine gc_S_v (As := [.int (nI (g))]) (rest := []) (c_X6_requireGroup l (rq_lt hg (by omega))) ⟨hx, hb, hml, hown, hts⟩ (va_cwS 1 hts gX6_item_X6_requireGroup rfl rfl rfl (by decide +kernel) ⟨Nat.le_of_ble_eq_true rfl, Nat.le_of_ble_eq_true rfl⟩) hE hP hD hS hA rfl rfl hl.1 (Nat.le_of_ble_eq_true rfl) dX6_item_1 ⟨Nat.le_of_ble_eq_true rfl, Nat.le_of_ble_eq_true rfl⟩ (fun u_1 H locs hP hD hS q_1 => ?_)
  refine lv_iload_n hx hb dX6_item_4 rfl (lv_at hl 2 rfl) ?_
  refine lv_iconst (v := nI 0) hx hb dX6_item_5 (by decide) ?_
  refine lv_iconst (v := nI 2) hx hb dX6_item_6 (by decide) ?_
  refine gc_S_v (As := [.int (nI (mn)), .int (nI (0)), .int (nI (2))]) (rest := []) (c_X6_requireRange l (rq_rg hmn kmn (by decide))) ⟨hx, hb, hml, hown, hts⟩ (va_cwS 3 hts gX6_item_X6_requireRange rfl rfl rfl (by decide +kernel) ⟨Nat.le_of_ble_eq_true rfl, Nat.le_of_ble_eq_true rfl⟩) hE hP hD hS hA rfl rfl hl.1 (Nat.le_of_ble_eq_true rfl) dX6_item_7 ⟨Nat.le_of_ble_eq_true rfl, Nat.le_of_ble_eq_true rfl⟩ (fun u_7 H locs hP hD hS q_7 => ?_)
  refine lv_iload_n hx hb dX6_item_10 rfl (lv_at hl 3 rfl) ?_
  refine lv_iconst (v := nI 1) hx hb dX6_item_11 (by decide) ?_
  refine lv_sipush (v := nI 4095) hx hb dX6_item_12 (by decide) ?_
  refine gc_S_v (As := [.int (nI (sn)), .int (nI (1)), .int (nI (4095))]) (rest := []) (c_X6_requireRange l (rq_rg hsn ksn (by decide))) ⟨hx, hb, hml, hown, hts⟩ (va_cwS 3 hts gX6_item_X6_requireRange rfl rfl rfl (by decide +kernel) ⟨Nat.le_of_ble_eq_true rfl, Nat.le_of_ble_eq_true rfl⟩) hE hP hD hS hA rfl rfl hl.1 (Nat.le_of_ble_eq_true rfl) dX6_item_15 ⟨Nat.le_of_ble_eq_true rfl, Nat.le_of_ble_eq_true rfl⟩ (fun u_15 H locs hP hD hS q_15 => ?_)
  refine lv_aload_n hx hb dX6_item_18 rfl (lv_at hl 0 rfl) ?_
  refine va_get (D := D) (ci := 7) (v := .ref a_led) (C := RX6) (T := TX6) (N := 8) hx hb hts in_RX6 hown hE.1 (gv1 hP f0_off) 0 rfl rfl 0 (by decide) (hts (.fieldLink RX6 12 "BasketryOffice" "ledger" "LBasketryOffice$Ledger;") (by decide +kernel)) (fun _ h9 => h9) rfl dX6_item_19 ?_
  refine va_getN (D := D) (ci := 3) (v := .ref a_itl) (C := RX2) (T := TX2) (N := 10) hx hb hts in_RX2 hown hE.1 (gv1 hP f0_led) 0 rfl rfl 0 (by decide) (va_Nw.use rfl (hE.2 (.fieldLinkNest RX6 61 "BasketryOffice$Ledger" "items" "Ljava/util/ArrayList;" "BasketryOffice") (by decide +kernel))) (fun _ h9 => h9) rfl dX6_item_22 ?_
  refine gc_V_i (As := []) (rest := []) (c_Jx4a65c_size_8abf5 l f0_itl) ⟨hx, hb, hml, hown, hts⟩ (cwV 0 hts gX6_item_Jx4a65c_size_8abf5 rfl rfl rfl (by decide +kernel) ⟨Nat.le_of_ble_eq_true rfl, Nat.le_of_ble_eq_true rfl⟩) hE hP hD hS hA _ f0_itl rfl rfl rfl rfl hl.1 (Nat.le_of_ble_eq_true rfl) dX6_item_25 ⟨Nat.le_of_ble_eq_true rfl, Nat.le_of_ble_eq_true rfl⟩ (fun r_25 u_25 H locs hP hD hS q_25 => ?_)
  subst q_25
  refine lv_bipush (v := nI 12) hx hb dX6_item_28 (by decide) ?_
  refine g_icmp_lt (tgt := 43) hx hb (by omega) (by omega) dX6_item_30 (by decide) (fun c_30 => ?_) (fun c_30 => absurd c_30 (by omega))
  refine lv_aload_n hx hb dX6_item_43 rfl (lv_at hl 0 rfl) ?_
  refine va_get (D := D) (ci := 7) (v := .ref a_led) (C := RX6) (T := TX6) (N := 8) hx hb hts in_RX6 hown hE.1 (gv1 hP f0_off) 0 rfl rfl 0 (by decide) (hts (.fieldLink RX6 12 "BasketryOffice" "ledger" "LBasketryOffice$Ledger;") (by decide +kernel)) (fun _ h9 => h9) rfl dX6_item_44 ?_
  refine va_getN (D := D) (ci := 3) (v := .ref a_itl) (C := RX2) (T := TX2) (N := 10) hx hb hts in_RX2 hown hE.1 (gv1 hP f0_led) 0 rfl rfl 0 (by decide) (va_Nw.use rfl (hE.2 (.fieldLinkNest RX6 61 "BasketryOffice$Ledger" "items" "Ljava/util/ArrayList;" "BasketryOffice") (by decide +kernel))) (fun _ h9 => h9) rfl dX6_item_47 ?_
  refine gv_add (by intro _; rfl) (fun kk9 => va_new (ci := 2) (fs := [.int (nI (0)), .int (nI (0)), .int (nI (0))]) (C := RX1) (T := TX1) (N := 3) hx hb hts in_RX1 tyX1 tyX1_ok hown (hts (.classLink RX6 75 RX1) (by decide +kernel)) (hts (.instantiable RX1 3) (by decide +kernel)) (hts (.initialized RX1) (by decide +kernel)) hE.1 hP hD hS hA rfl (fun j hj => by rcases (show j = 0 ∨ j = 1 ∨ j = 2 by omega) with rfl | rfl | rfl <;> rfl) (Nat.le_of_ble_eq_true rfl) (Nat.le_of_ble_eq_true rfl) dX6_item_50 kk9) (fun a_it H hP hD hS => ?_)
  obtain ⟨p_it, hp_it⟩ : ∃ z, z = (ws).length := ⟨_, rfl⟩
  obtain ⟨B50_0, hB50_0⟩ : ∃ B, B = (ws ++ [((a_it, .inr (2, [.int (nI (0)), .int (nI (0)), .int (nI (0))])) : Nat × va_E)]) := ⟨_, rfl⟩
  have hq_it : p_it = ws.length + 0 := hp_it
  have hLB50_0 : B50_0.length = ws.length + 1 := by rw [hB50_0, List.length_append]; rfl
  have hKB50_0 : gKeep ws B50_0 [p_itl] := gKeep.app hB50_0 (gKeep.refl ws _)
  have e50_0_it : B50_0[p_it]? = some (a_it, .inr (2, [.int (nI (0)), .int (nI (0)), .int (nI (0))])) := by rw [hB50_0, hp_it]; exact g_apN
  have hIt50_0 := gIt.appE hB50_0 hIt
  have hItc := hIt50_0
  have q50_0 : (ws ++ [((a_it, .inr (2, [.int (nI (0)), .int (nI (0)), .int (nI (0))])) : Nat × va_E)]) = B50_0 := hB50_0.symm
  have hP : gvP D vwCl (ws ++ [((a_it, .inr (2, [.int (nI (0)), .int (nI (0)), .int (nI (0))])) : Nat × va_E)]) _ := hP
  have hD : gvD A (ws ++ [((a_it, .inr (2, [.int (nI (0)), .int (nI (0)), .int (nI (0))])) : Nat × va_E)]) := hD
  have hP : gvP D vwCl B50_0 _ := g_trP (by rw [q50_0]) hP
  have hD : gvD A B50_0 := g_trD (by rw [q50_0]) hD
  refine lv_dup hx hb dX6_item_53 rfl ?_
  refine lv_iload_n hx hb dX6_item_54 rfl (lv_at hl 1 rfl) ?_
  refine lv_iload_n hx hb dX6_item_55 rfl (lv_at hl 2 rfl) ?_
  refine lv_iload_n hx hb dX6_item_56 rfl (lv_at hl 3 rfl) ?_
  have f_it := e50_0_it
  refine gc_I_v (As := [.int (nI (g)), .int (nI (mn)), .int (nI (sn))]) (rest := [.ref a_it, .ref a_itl]) (c_X1_init l f_it) ⟨hx, hb, hml, hown, hts⟩ (cwI 3 hts gX6_item_X1_init rfl rfl rfl (hts (.initialized RX1) (by decide +kernel)) (hts (.methodLink RX6 77 yX1_init) (by decide +kernel)) (hts (.instanceMethod yX1_init) (by decide +kernel)) rfl (by decide +kernel) ⟨Nat.le_of_ble_eq_true rfl, Nat.le_of_ble_eq_true rfl⟩) hE hP hD hS hA rfl rfl hl.1 (Nat.le_of_ble_eq_true rfl) dX6_item_57 ⟨Nat.le_of_ble_eq_true rfl, Nat.le_of_ble_eq_true rfl⟩ (fun u_57 H locs hP hD hS q_57 => ?_)
  have hItc := gIt.appset (z' := (a_it, .inr (2, [.int (nI (g)), .int (nI (mn)), .int (nI (sn))]))) hB50_0 hp_it hIt
  have e50_0_itl := g_apE hB50_0 f0_itl
  have f_itl := g_ne (x := (a_it, .inr (2, [.int (nI (g)), .int (nI (mn)), .int (nI (sn))]))) (g_kne e50_0_it e50_0_itl (Nat.ne_of_beq_eq_false rfl)) (e50_0_itl)
  have e50_0_ita := g_apE hB50_0 f0_ita
  have f_ita := g_ne (x := (a_it, .inr (2, [.int (nI (g)), .int (nI (mn)), .int (nI (sn))]))) (g_kne e50_0_it e50_0_ita (Nat.ne_of_beq_eq_false rfl)) (e50_0_ita)
  have f_it := g_eq (x := (a_it, .inr (2, [.int (nI (g)), .int (nI (mn)), .int (nI (sn))]))) (e50_0_it)
  refine gcy_V_i (As := [.ref a_it]) (rest := []) (c_add_it10 l f_itl f_ita f_it hItc) ⟨hx, hb, hml, hown, hts⟩ (cwV 1 hts gX6_item_Jx4a65c_add_9ea2d rfl rfl rfl (by decide +kernel) ⟨Nat.le_of_ble_eq_true rfl, Nat.le_of_ble_eq_true rfl⟩) hE hY hP hD hS hA _ f_itl rfl rfl rfl rfl hl.1 (Nat.le_of_ble_eq_true rfl) dX6_item_60 ⟨Nat.le_of_ble_eq_true rfl, Nat.le_of_ble_eq_true rfl⟩ (fun r_60 u_60 H locs hP hD hS q_60 => ?_)
  subst q_60
  obtain ⟨a_ita2, rfl⟩ : ∃ z, z = u_60 := ⟨_, rfl⟩
  have hP : gvP D vwCl (((B50_0.set p_it (a_it, .inr (2, [.int (nI (g)), .int (nI (mn)), .int (nI (sn))]))) ++ [((a_ita2, eQ y 15 (va_up (va_cpy q (fun _ => none) 0 0 10) 10 (some a_it))) : Nat × va_E)]).set p_itl (a_itl, .inr (0, [.int (mc9 + nI 1), .ref a_ita2, .int (nI (11))]))) H := hP
  have hD : gvD A (((B50_0.set p_it (a_it, .inr (2, [.int (nI (g)), .int (nI (mn)), .int (nI (sn))]))) ++ [((a_ita2, eQ y 15 (va_up (va_cpy q (fun _ => none) 0 0 10) 10 (some a_it))) : Nat × va_E)]).set p_itl (a_itl, .inr (0, [.int (mc9 + nI 1), .ref a_ita2, .int (nI (11))]))) := hD
  obtain ⟨p_ita2, hp_ita2⟩ : ∃ z, z = (B50_0).length := ⟨_, rfl⟩
  obtain ⟨B60_0, hB60_0⟩ : ∃ B, B = (B50_0 ++ [((a_ita2, eQ y 15 (va_up (va_cpy q (fun _ => none) 0 0 10) 10 (some a_it))) : Nat × va_E)]) := ⟨_, rfl⟩
  have hq_ita2 : p_ita2 = ws.length + 1 := hp_ita2.trans hLB50_0
  have hLB60_0 : B60_0.length = ws.length + 2 := by rw [hB60_0, List.length_append, hLB50_0]; rfl
  have hKB60_0 : gKeep ws B60_0 [p_itl] := gKeep.app hB60_0 hKB50_0
  have e60_0_ita2 : B60_0[p_ita2]? = some (a_ita2, eQ y 15 (va_up (va_cpy q (fun _ => none) 0 0 10) 10 (some a_it))) := by rw [hB60_0, hp_ita2]; exact g_apN
  have hIt60_0 := gIt.appE hB60_0 hIt50_0
  have hItc := hIt60_0
  have q60_0 : ((B50_0.set p_it (a_it, .inr (2, [.int (nI (g)), .int (nI (mn)), .int (nI (sn))]))) ++ [((a_ita2, eQ y 15 (va_up (va_cpy q (fun _ => none) 0 0 10) 10 (some a_it))) : Nat × va_E)]) = (B60_0.set p_it (a_it, .inr (2, [.int (nI (g)), .int (nI (mn)), .int (nI (sn))]))) := by rw [hB60_0]; exact (g_sa (g_lt e50_0_it))
  have hP : gvP D vwCl (((B50_0.set p_it (a_it, .inr (2, [.int (nI (g)), .int (nI (mn)), .int (nI (sn))]))) ++ [((a_ita2, eQ y 15 (va_up (va_cpy q (fun _ => none) 0 0 10) 10 (some a_it))) : Nat × va_E)]).set p_itl (a_itl, .inr (0, [.int (mc9 + nI 1), .ref a_ita2, .int (nI (11))]))) _ := hP
  have hD : gvD A (((B50_0.set p_it (a_it, .inr (2, [.int (nI (g)), .int (nI (mn)), .int (nI (sn))]))) ++ [((a_ita2, eQ y 15 (va_up (va_cpy q (fun _ => none) 0 0 10) 10 (some a_it))) : Nat × va_E)]).set p_itl (a_itl, .inr (0, [.int (mc9 + nI 1), .ref a_ita2, .int (nI (11))]))) := hD
  have hP : gvP D vwCl ((B60_0.set p_it (a_it, .inr (2, [.int (nI (g)), .int (nI (mn)), .int (nI (sn))]))).set p_itl (a_itl, .inr (0, [.int (mc9 + nI 1), .ref a_ita2, .int (nI (11))]))) _ := g_trP (by rw [q60_0]) hP
  have hD : gvD A ((B60_0.set p_it (a_it, .inr (2, [.int (nI (g)), .int (nI (mn)), .int (nI (sn))]))).set p_itl (a_itl, .inr (0, [.int (mc9 + nI 1), .ref a_ita2, .int (nI (11))]))) := g_trD (by rw [q60_0]) hD
  refine lv_pop hx hb dX6_item_63 rfl ?_
  refine lv_aload_n hx hb dX6_item_64 rfl (lv_at hl 0 rfl) ?_
  have e50_0_off := g_apE hB50_0 f0_off
  have e60_0_off := g_apE hB60_0 e50_0_off
  have e60_0_it := g_apE hB60_0 e50_0_it
  have e60_0_itl := g_apE hB60_0 e50_0_itl
  have f_off := g_ne (x := (a_itl, .inr (0, [.int (mc9 + nI 1), .ref a_ita2, .int (nI (11))]))) (g_kne e60_0_itl e60_0_off (Nat.ne_of_beq_eq_false rfl)) (g_ne (x := (a_it, .inr (2, [.int (nI (g)), .int (nI (mn)), .int (nI (sn))]))) (g_kne e60_0_it e60_0_off (Nat.ne_of_beq_eq_false rfl)) (e60_0_off))
  refine va_get (D := D) (ci := 7) (v := .ref a_led) (C := RX6) (T := TX6) (N := 8) hx hb hts in_RX6 hown hE.1 (gv1 hP f_off) 0 rfl rfl 0 (by decide) (hts (.fieldLink RX6 12 "BasketryOffice" "ledger" "LBasketryOffice$Ledger;") (by decide +kernel)) (fun _ h9 => h9) rfl dX6_item_65 ?_
  have e50_0_led := g_apE hB50_0 f0_led
  have e60_0_led := g_apE hB60_0 e50_0_led
  have f_led := g_ne (x := (a_itl, .inr (0, [.int (mc9 + nI 1), .ref a_ita2, .int (nI (11))]))) (g_kne e60_0_itl e60_0_led (Nat.ne_of_beq_eq_false rfl)) (g_ne (x := (a_it, .inr (2, [.int (nI (g)), .int (nI (mn)), .int (nI (sn))]))) (g_kne e60_0_it e60_0_led (Nat.ne_of_beq_eq_false rfl)) (e60_0_led))
  refine va_getN (D := D) (ci := 3) (v := .ref a_itl) (C := RX2) (T := TX2) (N := 10) hx hb hts in_RX2 hown hE.1 (gv1 hP f_led) 0 rfl rfl 0 (by decide) (va_Nw.use rfl (hE.2 (.fieldLinkNest RX6 61 "BasketryOffice$Ledger" "items" "Ljava/util/ArrayList;" "BasketryOffice") (by decide +kernel))) (fun _ h9 => h9) rfl dX6_item_68 ?_
  have f_itl := g_eq (x := (a_itl, .inr (0, [.int (mc9 + nI 1), .ref a_ita2, .int (nI (11))]))) (g_ne (x := (a_it, .inr (2, [.int (nI (g)), .int (nI (mn)), .int (nI (sn))]))) (g_kne e60_0_it e60_0_itl (Nat.ne_of_beq_eq_false rfl)) (e60_0_itl))
  refine gc_V_i (As := []) (rest := []) (c_Jx4a65c_size_8abf5 l f_itl) ⟨hx, hb, hml, hown, hts⟩ (cwV 0 hts gX6_item_Jx4a65c_size_8abf5 rfl rfl rfl (by decide +kernel) ⟨Nat.le_of_ble_eq_true rfl, Nat.le_of_ble_eq_true rfl⟩) hE hP hD hS hA _ f_itl rfl rfl rfl rfl hl.1 (Nat.le_of_ble_eq_true rfl) dX6_item_71 ⟨Nat.le_of_ble_eq_true rfl, Nat.le_of_ble_eq_true rfl⟩ (fun r_71 u_71 H locs hP hD hS q_71 => ?_)
  subst q_71
  refine lv_iconst (v := nI 1) hx hb dX6_item_74 (by decide) ?_
  refine g_isub hx hb dX6_item_75 (pk_sub (by omega)) ?_
  have hKW : gKeep ws ((B60_0.set p_it (a_it, .inr (2, [.int (nI (g)), .int (nI (mn)), .int (nI (sn))]))).set p_itl (a_itl, .inr (0, [.int (mc9 + nI 1), .ref a_ita2, .int (nI (11))]))) [p_itl] := (gKeep.set_in (gKeep.set_new hKB60_0 (g_lek hq_it)) (by simp))
  have hLW : ((B60_0.set p_it (a_it, .inr (2, [.int (nI (g)), .int (nI (mn)), .int (nI (sn))]))).set p_itl (a_itl, .inr (0, [.int (mc9 + nI 1), .ref a_ita2, .int (nI (11))]))).length = ws.length + 2 := by simp only [List.length_set]; exact hLB60_0
  have f_it := g_ne (x := (a_itl, .inr (0, [.int (mc9 + nI 1), .ref a_ita2, .int (nI (11))]))) (g_kne e60_0_itl e60_0_it (Nat.ne_of_beq_eq_false rfl)) (g_eq (x := (a_it, .inr (2, [.int (nI (g)), .int (nI (mn)), .int (nI (sn))]))) (e60_0_it))
  have f_ita2 := g_ne (x := (a_itl, .inr (0, [.int (mc9 + nI 1), .ref a_ita2, .int (nI (11))]))) (g_kne e60_0_itl e60_0_ita2 (Nat.ne_of_beq_eq_false rfl)) (g_ne (x := (a_it, .inr (2, [.int (nI (g)), .int (nI (mn)), .int (nI (sn))]))) (g_kne e60_0_it e60_0_ita2 (Nat.ne_of_beq_eq_false rfl)) (e60_0_ita2))
  refine g_iret hx hb hr hlocks ((B60_0.set p_it (a_it, .inr (2, [.int (nI (g)), .int (nI (mn)), .int (nI (sn))]))).set p_itl (a_itl, .inr (0, [.int (mc9 + nI 1), .ref a_ita2, .int (nI (11))]))) dX6_item_76 hS hP hD ?_
  exact ⟨hKW, hLW, rfl, a_it, a_ita2, f_itl, (by rw [← hq_it]; exact f_it), (by rw [← hq_ita2]; exact f_ita2)⟩
