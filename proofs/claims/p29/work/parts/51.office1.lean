theorem rq_lt {i n : Nat} (h : i < n) (hn : n < 2 ^ 31) : ¬ (nI i < 0 ∨ nI n ≤ nI i) := by
  rw [show (0 : Int32) = nI 0 from rfl, Int32.lt_iff_toInt_lt, Int32.le_iff_toInt_le, nI_toInt (by omega), nI_toInt hn, nI_toInt (by omega)]
  omega
theorem rq_rg {v lo hi : Nat} (h1 : lo ≤ v) (h2 : v ≤ hi) (h3 : hi < 2 ^ 31) : ¬ (nI v < nI lo ∨ nI hi < nI v) := by
  rw [Int32.lt_iff_toInt_lt, Int32.lt_iff_toInt_lt, nI_toInt (by omega), nI_toInt h3, nI_toInt (by omega)]
  omega
set_option maxHeartbeats 4000000 in
set_option maxRecDepth 100000 in
theorem x0_X6_price (l : Launch) {D : va_G} {y : Nat → Nat} {ws : va_W} {x_off_1 : Value} {x_off_3 : Value} {x_off_4 : Value} {x_off_5 : Value} {x_off_6 : Value} {x_led_1 : Value} {x_led_2 : Value} {x_led_3 : Value} {x_led_4 : Value} {x_led_5 : Value} {x_led_6 : Value} {x_led_7 : Value} {x_led_8 : Value} {x_led_9 : Value} {x_itl_0 : Value} {p_off p_led p_itl a_off a_led a_itl a_ita a_ser : Nat} {i o t : Int32} {nw n : Nat} (f0_off : ws[p_off]? = some (a_off, .inr (7, [.ref a_led, x_off_1, .ref a_ser, x_off_3, x_off_4, x_off_5, x_off_6, .int (nI (nw))]))) (f0_led : ws[p_led]? = some (a_led, .inr (3, [.ref a_itl, x_led_1, x_led_2, x_led_3, x_led_4, x_led_5, x_led_6, x_led_7, x_led_8, x_led_9]))) (f0_itl : ws[p_itl]? = some (a_itl, .inr (0, [x_itl_0, .ref a_ita, .int (nI (n))]))) (hfl : l.stackTraces = false) (hw : nw ≤ 24) (hn : n ≤ 12)  (hbad : i < 0 ∨ nI n ≤ i) : gMxd l yX6_price wsX6_price ({ frames := 7, cells := 1, slots := 6, locals := 121 }) D y [.ref a_off, .int (i), .int (o), .int (t)] ws "java/lang/IndexOutOfBoundsException" := by
  refine g_metx_d (cc := cX6_price) (maxL := 4) (by decide) rfl (Nat.le_of_ble_eq_true rfl) ?_
  intro p e s m below meth c A hx hb hml hr hts hown hnm hlocks hE hP hD hS hA hex hX ls hl
  have hown : s.vm.findClass RX6 = some m.cls := hown
  have hl : lv_has ls 4 [(0, .ref a_off), (1, .int (i)), (2, .int (o)), (3, .int (t))] := hl
  refine lv_aload_n hx hb dX6_price_0 rfl (lv_at hl 0 rfl) ?_
  refine lv_iload_n hx hb dX6_price_1 rfl (lv_at hl 1 rfl) ?_
  exact gcx_V_v (As := [.int (i)]) (rest := []) (x_X6_requireItem l f0_off f0_led f0_itl hfl hbad) ⟨hx, hb, hml, hown, hts⟩ (cwV 1 hts gX6_price_X6_requireItem rfl rfl rfl (by decide +kernel) ⟨Nat.le_of_ble_eq_true rfl, Nat.le_of_ble_eq_true rfl⟩) hE hX hex hlocks hP hD hS hA _ f0_off rfl rfl rfl rfl hl.1 (Nat.le_of_ble_eq_true rfl) dX6_price_2 ⟨Nat.le_of_ble_eq_true rfl, Nat.le_of_ble_eq_true rfl⟩ (Nat.le_of_ble_eq_true rfl) (Nat.le_of_ble_eq_true rfl)

set_option maxHeartbeats 4000000 in
set_option maxRecDepth 100000 in
theorem x1_X6_price (l : Launch) {D : va_G} {y : Nat → Nat} {ws : va_W} {x_off_1 : Value} {x_off_3 : Value} {x_off_4 : Value} {x_off_5 : Value} {x_off_6 : Value} {x_led_1 : Value} {x_led_2 : Value} {x_led_3 : Value} {x_led_4 : Value} {x_led_5 : Value} {x_led_6 : Value} {x_led_7 : Value} {x_led_8 : Value} {x_led_9 : Value} {x_itl_0 : Value} {p_off p_led p_itl a_off a_led a_itl a_ita a_ser : Nat} {i : Nat} {o t : Int32} {nw n : Nat} (f0_off : ws[p_off]? = some (a_off, .inr (7, [.ref a_led, x_off_1, .ref a_ser, x_off_3, x_off_4, x_off_5, x_off_6, .int (nI (nw))]))) (f0_led : ws[p_led]? = some (a_led, .inr (3, [.ref a_itl, x_led_1, x_led_2, x_led_3, x_led_4, x_led_5, x_led_6, x_led_7, x_led_8, x_led_9]))) (f0_itl : ws[p_itl]? = some (a_itl, .inr (0, [x_itl_0, .ref a_ita, .int (nI (n))]))) (hfl : l.stackTraces = false) (hw : nw ≤ 24) (hn : n ≤ 12) (hi : i < n) (hbad : o < 0 ∨ nI 4 ≤ o) : gMxd l yX6_price wsX6_price ({ frames := 7, cells := 1, slots := 6, locals := 120 }) D y [.ref a_off, .int (nI (i)), .int (o), .int (t)] ws "java/lang/IndexOutOfBoundsException" := by
  refine g_metx_d (cc := cX6_price) (maxL := 4) (by decide) rfl (Nat.le_of_ble_eq_true rfl) ?_
  intro p e s m below meth c A hx hb hml hr hts hown hnm hlocks hE hP hD hS hA hex hX ls hl
  have hown : s.vm.findClass RX6 = some m.cls := hown
  have hl : lv_has ls 4 [(0, .ref a_off), (1, .int (nI (i))), (2, .int (o)), (3, .int (t))] := hl
  refine lv_aload_n hx hb dX6_price_0 rfl (lv_at hl 0 rfl) ?_
  refine lv_iload_n hx hb dX6_price_1 rfl (lv_at hl 1 rfl) ?_
  refine gc_V_v (As := [.int (nI (i))]) (rest := []) (c_X6_requireItem l f0_off f0_led f0_itl (rq_lt hi (by omega))) ⟨hx, hb, hml, hown, hts⟩ (cwV 1 hts gX6_price_X6_requireItem rfl rfl rfl (by decide +kernel) ⟨Nat.le_of_ble_eq_true rfl, Nat.le_of_ble_eq_true rfl⟩) hE hP hD hS hA _ f0_off rfl rfl rfl rfl hl.1 (Nat.le_of_ble_eq_true rfl) dX6_price_2 ⟨Nat.le_of_ble_eq_true rfl, Nat.le_of_ble_eq_true rfl⟩ (fun u_2 H locs hP hD hS q_2 => ?_)
  refine lv_iload_n hx hb dX6_price_5 rfl (lv_at hl 2 rfl) ?_
  exact gcx_S_v (As := [.int (o)]) (rest := []) (x_X6_requireOutlet l hfl hbad) ⟨hx, hb, hml, hown, hts⟩ (va_cwS 1 hts gX6_price_X6_requireOutlet rfl rfl rfl (by decide +kernel) ⟨Nat.le_of_ble_eq_true rfl, Nat.le_of_ble_eq_true rfl⟩) hE hX hex hlocks hP hD hS hA rfl rfl hl.1 (Nat.le_of_ble_eq_true rfl) dX6_price_6 ⟨Nat.le_of_ble_eq_true rfl, Nat.le_of_ble_eq_true rfl⟩ (Nat.le_of_ble_eq_true rfl) (Nat.le_of_ble_eq_true rfl)

set_option maxHeartbeats 4000000 in
set_option maxRecDepth 100000 in
theorem x2_X6_price (l : Launch) {D : va_G} {y : Nat → Nat} {ws : va_W} {x_off_1 : Value} {x_off_3 : Value} {x_off_4 : Value} {x_off_5 : Value} {x_off_6 : Value} {x_led_1 : Value} {x_led_2 : Value} {x_led_3 : Value} {x_led_4 : Value} {x_led_5 : Value} {x_led_6 : Value} {x_led_7 : Value} {x_led_8 : Value} {x_led_9 : Value} {x_itl_0 : Value} {p_off p_led p_itl a_off a_led a_itl a_ita a_ser : Nat} {i o : Nat} {t : Int32} {nw n : Nat} (f0_off : ws[p_off]? = some (a_off, .inr (7, [.ref a_led, x_off_1, .ref a_ser, x_off_3, x_off_4, x_off_5, x_off_6, .int (nI (nw))]))) (f0_led : ws[p_led]? = some (a_led, .inr (3, [.ref a_itl, x_led_1, x_led_2, x_led_3, x_led_4, x_led_5, x_led_6, x_led_7, x_led_8, x_led_9]))) (f0_itl : ws[p_itl]? = some (a_itl, .inr (0, [x_itl_0, .ref a_ita, .int (nI (n))]))) (hfl : l.stackTraces = false) (hw : nw ≤ 24) (hn : n ≤ 12) (hi : i < n) (ho : o < 4) (hbad : t < 0 ∨ nI nw ≤ t) : gMxd l yX6_price wsX6_price ({ frames := 7, cells := 1, slots := 6, locals := 121 }) D y [.ref a_off, .int (nI (i)), .int (nI (o)), .int (t)] ws "java/lang/IndexOutOfBoundsException" := by
  refine g_metx_d (cc := cX6_price) (maxL := 4) (by decide) rfl (Nat.le_of_ble_eq_true rfl) ?_
  intro p e s m below meth c A hx hb hml hr hts hown hnm hlocks hE hP hD hS hA hex hX ls hl
  have hown : s.vm.findClass RX6 = some m.cls := hown
  have hl : lv_has ls 4 [(0, .ref a_off), (1, .int (nI (i))), (2, .int (nI (o))), (3, .int (t))] := hl
  refine lv_aload_n hx hb dX6_price_0 rfl (lv_at hl 0 rfl) ?_
  refine lv_iload_n hx hb dX6_price_1 rfl (lv_at hl 1 rfl) ?_
  refine gc_V_v (As := [.int (nI (i))]) (rest := []) (c_X6_requireItem l f0_off f0_led f0_itl (rq_lt hi (by omega))) ⟨hx, hb, hml, hown, hts⟩ (cwV 1 hts gX6_price_X6_requireItem rfl rfl rfl (by decide +kernel) ⟨Nat.le_of_ble_eq_true rfl, Nat.le_of_ble_eq_true rfl⟩) hE hP hD hS hA _ f0_off rfl rfl rfl rfl hl.1 (Nat.le_of_ble_eq_true rfl) dX6_price_2 ⟨Nat.le_of_ble_eq_true rfl, Nat.le_of_ble_eq_true rfl⟩ (fun u_2 H locs hP hD hS q_2 => ?_)
  refine lv_iload_n hx hb dX6_price_5 rfl (lv_at hl 2 rfl) ?_
  refine gc_S_v (As := [.int (nI (o))]) (rest := []) (c_X6_requireOutlet l (rq_lt ho (by omega))) ⟨hx, hb, hml, hown, hts⟩ (va_cwS 1 hts gX6_price_X6_requireOutlet rfl rfl rfl (by decide +kernel) ⟨Nat.le_of_ble_eq_true rfl, Nat.le_of_ble_eq_true rfl⟩) hE hP hD hS hA rfl rfl hl.1 (Nat.le_of_ble_eq_true rfl) dX6_price_6 ⟨Nat.le_of_ble_eq_true rfl, Nat.le_of_ble_eq_true rfl⟩ (fun u_6 H locs hP hD hS q_6 => ?_)
  refine lv_aload_n hx hb dX6_price_9 rfl (lv_at hl 0 rfl) ?_
  refine lv_iload_n hx hb dX6_price_10 rfl (lv_at hl 3 rfl) ?_
  exact gcx_V_v (As := [.int (t)]) (rest := []) (x_X6_requirePublished l f0_off hfl hbad) ⟨hx, hb, hml, hown, hts⟩ (cwV 1 hts gX6_price_X6_requirePublished rfl rfl rfl (by decide +kernel) ⟨Nat.le_of_ble_eq_true rfl, Nat.le_of_ble_eq_true rfl⟩) hE hX hex hlocks hP hD hS hA _ f0_off rfl rfl rfl rfl hl.1 (Nat.le_of_ble_eq_true rfl) dX6_price_11 ⟨Nat.le_of_ble_eq_true rfl, Nat.le_of_ble_eq_true rfl⟩ (Nat.le_of_ble_eq_true rfl) (Nat.le_of_ble_eq_true rfl)

theorem in_c_X6_price_RX3 : ∀ w ∈ wsX30, w ∈ wsX6_price := by decide +kernel
theorem in_c_X6_price_RX6 : ∀ w ∈ wsX60, w ∈ wsX6_price := by decide +kernel
set_option maxHeartbeats 4000000 in
set_option maxRecDepth 100000 in
theorem c_X6_price (l : Launch) {D : va_G} {y : Nat → Nat} {ws : va_W} {x_off_1 : Value} {x_off_3 : Value} {x_off_4 : Value} {x_off_5 : Value} {x_off_6 : Value} {x_led_1 : Value} {x_led_2 : Value} {x_led_3 : Value} {x_led_4 : Value} {x_led_5 : Value} {x_led_6 : Value} {x_led_7 : Value} {x_led_8 : Value} {x_led_9 : Value} {x_itl_0 : Value} {x_ser_0 : Value} {x_ser_1 : Value} {x_ser_2 : Value} {x_ser_4 : Value} {x_ser_5 : Value} {x_ser_6 : Value} {x_ser_7 : Value} {p_off p_led p_itl p_ser p_pr a_off a_led a_itl a_ser a_pr a_ita : Nat} {pr : Nat → UInt64} {i o t : Nat} {nw n : Nat} (f0_off : ws[p_off]? = some (a_off, .inr (7, [.ref a_led, x_off_1, .ref a_ser, x_off_3, x_off_4, x_off_5, x_off_6, .int (nI (nw))]))) (f0_led : ws[p_led]? = some (a_led, .inr (3, [.ref a_itl, x_led_1, x_led_2, x_led_3, x_led_4, x_led_5, x_led_6, x_led_7, x_led_8, x_led_9]))) (f0_itl : ws[p_itl]? = some (a_itl, .inr (0, [x_itl_0, .ref a_ita, .int (nI (n))]))) (f0_ser : ws[p_ser]? = some (a_ser, .inr (4, [x_ser_0, x_ser_1, x_ser_2, .ref a_pr, x_ser_4, x_ser_5, x_ser_6, x_ser_7]))) (f0_pr : ws[p_pr]? = some (a_pr, eD y 1152 pr)) (hw : nw ≤ 24) (hn : n ≤ 12) (hi : i < n) (ho : o < 4) (ht : t < nw)  : gMd l yX6_price wsX6_price ({ frames := 2, cells := 0, slots := 0, locals := 41 }) D y [.ref a_off, .int (nI (i)), .int (nI (o)), .int (nI (t))] ws (fun r (_ : Unit) => r = pr (t * 48 + i * 4 + o)) (fun (_ : Unit) => ws) := by
  refine g_met_d (cc := cX6_price) (maxL := 4) (by decide) rfl (Nat.le_of_ble_eq_true rfl) ?_
  intro p e s m below meth c A hx hb hml hr hts hown hnm hlocks hE hP hD hS hA ls hl
  have hown : s.vm.findClass RX6 = some m.cls := hown
  have hl : lv_has ls 4 [(0, .ref a_off), (1, .int (nI (i))), (2, .int (nI (o))), (3, .int (nI (t)))] := hl
  have in_RX3 := in_c_X6_price_RX3
  have in_RX6 := in_c_X6_price_RX6
  refine lv_aload_n hx hb dX6_price_0 rfl (lv_at hl 0 rfl) ?_
  refine lv_iload_n hx hb dX6_price_1 rfl (lv_at hl 1 rfl) ?_
  refine gc_V_v (As := [.int (nI (i))]) (rest := []) (c_X6_requireItem l f0_off f0_led f0_itl (rq_lt hi (by omega))) ⟨hx, hb, hml, hown, hts⟩ (cwV 1 hts gX6_price_X6_requireItem rfl rfl rfl (by decide +kernel) ⟨Nat.le_of_ble_eq_true rfl, Nat.le_of_ble_eq_true rfl⟩) hE hP hD hS hA _ f0_off rfl rfl rfl rfl hl.1 (Nat.le_of_ble_eq_true rfl) dX6_price_2 ⟨Nat.le_of_ble_eq_true rfl, Nat.le_of_ble_eq_true rfl⟩ (fun u_2 H locs hP hD hS q_2 => ?_)
  refine lv_iload_n hx hb dX6_price_5 rfl (lv_at hl 2 rfl) ?_
  refine gc_S_v (As := [.int (nI (o))]) (rest := []) (c_X6_requireOutlet l (rq_lt ho (by omega))) ⟨hx, hb, hml, hown, hts⟩ (va_cwS 1 hts gX6_price_X6_requireOutlet rfl rfl rfl (by decide +kernel) ⟨Nat.le_of_ble_eq_true rfl, Nat.le_of_ble_eq_true rfl⟩) hE hP hD hS hA rfl rfl hl.1 (Nat.le_of_ble_eq_true rfl) dX6_price_6 ⟨Nat.le_of_ble_eq_true rfl, Nat.le_of_ble_eq_true rfl⟩ (fun u_6 H locs hP hD hS q_6 => ?_)
  refine lv_aload_n hx hb dX6_price_9 rfl (lv_at hl 0 rfl) ?_
  refine lv_iload_n hx hb dX6_price_10 rfl (lv_at hl 3 rfl) ?_
  refine gc_V_v (As := [.int (nI (t))]) (rest := []) (c_X6_requirePublished l f0_off (rq_lt ht (by omega))) ⟨hx, hb, hml, hown, hts⟩ (cwV 1 hts gX6_price_X6_requirePublished rfl rfl rfl (by decide +kernel) ⟨Nat.le_of_ble_eq_true rfl, Nat.le_of_ble_eq_true rfl⟩) hE hP hD hS hA _ f0_off rfl rfl rfl rfl hl.1 (Nat.le_of_ble_eq_true rfl) dX6_price_11 ⟨Nat.le_of_ble_eq_true rfl, Nat.le_of_ble_eq_true rfl⟩ (fun u_11 H locs hP hD hS q_11 => ?_)
  refine lv_aload_n hx hb dX6_price_14 rfl (lv_at hl 0 rfl) ?_
  refine va_get (D := D) (ci := 7) (v := .ref a_ser) (C := RX6) (T := TX6) (N := 8) hx hb hts in_RX6 hown hE.1 (gv1 hP f0_off) 0 rfl rfl 2 (by decide) (hts (.fieldLink RX6 28 "BasketryOffice" "asPublished" "LBasketryOffice$Series;") (by decide +kernel)) (fun _ h9 => h9) rfl dX6_price_15 ?_
  refine va_getN (D := D) (ci := 4) (v := .ref a_pr) (C := RX3) (T := TX3) (N := 8) hx hb hts in_RX3 hown hE.1 (gv1 hP f0_ser) 0 rfl rfl 3 (by decide) (va_Nw.use rfl (hE.2 (.fieldLinkNest RX6 183 "BasketryOffice$Series" "prices" "[D" "BasketryOffice") (by decide +kernel))) (fun _ h9 => h9) rfl dX6_price_18 ?_
  refine lv_iload_n hx hb dX6_price_21 rfl (lv_at hl 1 rfl) ?_
  refine lv_iload_n hx hb dX6_price_22 rfl (lv_at hl 2 rfl) ?_
  refine lv_iload_n hx hb dX6_price_23 rfl (lv_at hl 3 rfl) ?_
  refine gc_S_i (As := [.int (nI (i)), .int (nI (o)), .int (nI (t))]) (rest := [.ref a_pr]) (c_X6_slotOf l) ⟨hx, hb, hml, hown, hts⟩ (va_cwS 3 hts gX6_price_X6_slotOf rfl rfl rfl (by decide +kernel) ⟨Nat.le_of_ble_eq_true rfl, Nat.le_of_ble_eq_true rfl⟩) hE hP hD hS hA rfl rfl hl.1 (Nat.le_of_ble_eq_true rfl) dX6_price_24 ⟨Nat.le_of_ble_eq_true rfl, Nat.le_of_ble_eq_true rfl⟩ (fun r_24 u_24 H locs hP hD hS q_24 => ?_)
  subst q_24
  refine g_dald hx hb hE hP _ f0_pr (by omega) (by decide) dX6_price_27 ?_
  refine g_dret hx hb hr hlocks () dX6_price_28 hS hP hD ?_
  exact rfl

set_option maxHeartbeats 4000000 in
set_option maxRecDepth 100000 in
theorem x0_X6_relative (l : Launch) {D : va_G} {y : Nat → Nat} {ws : va_W} {x_off_1 : Value} {x_off_3 : Value} {x_off_4 : Value} {x_off_5 : Value} {x_off_6 : Value} {x_led_1 : Value} {x_led_2 : Value} {x_led_3 : Value} {x_led_4 : Value} {x_led_5 : Value} {x_led_6 : Value} {x_led_7 : Value} {x_led_8 : Value} {x_led_9 : Value} {x_itl_0 : Value} {p_off p_led p_itl a_off a_led a_itl a_ita a_ser : Nat} {i t : Int32} {nw n : Nat} (f0_off : ws[p_off]? = some (a_off, .inr (7, [.ref a_led, x_off_1, .ref a_ser, x_off_3, x_off_4, x_off_5, x_off_6, .int (nI (nw))]))) (f0_led : ws[p_led]? = some (a_led, .inr (3, [.ref a_itl, x_led_1, x_led_2, x_led_3, x_led_4, x_led_5, x_led_6, x_led_7, x_led_8, x_led_9]))) (f0_itl : ws[p_itl]? = some (a_itl, .inr (0, [x_itl_0, .ref a_ita, .int (nI (n))]))) (hfl : l.stackTraces = false) (hw : nw ≤ 24) (hn : n ≤ 12)  (hbad : i < 0 ∨ nI n ≤ i) : gMxd l yX6_relative wsX6_relative ({ frames := 7, cells := 1, slots := 6, locals := 121 }) D y [.ref a_off, .int (i), .int (t)] ws "java/lang/IndexOutOfBoundsException" := by
  refine g_metx_d (cc := cX6_relative) (maxL := 3) (by decide) rfl (Nat.le_of_ble_eq_true rfl) ?_
  intro p e s m below meth c A hx hb hml hr hts hown hnm hlocks hE hP hD hS hA hex hX ls hl
  have hown : s.vm.findClass RX6 = some m.cls := hown
  have hl : lv_has ls 3 [(0, .ref a_off), (1, .int (i)), (2, .int (t))] := hl
  refine lv_aload_n hx hb dX6_relative_0 rfl (lv_at hl 0 rfl) ?_
  refine lv_iload_n hx hb dX6_relative_1 rfl (lv_at hl 1 rfl) ?_
  exact gcx_V_v (As := [.int (i)]) (rest := []) (x_X6_requireItem l f0_off f0_led f0_itl hfl hbad) ⟨hx, hb, hml, hown, hts⟩ (cwV 1 hts gX6_relative_X6_requireItem rfl rfl rfl (by decide +kernel) ⟨Nat.le_of_ble_eq_true rfl, Nat.le_of_ble_eq_true rfl⟩) hE hX hex hlocks hP hD hS hA _ f0_off rfl rfl rfl rfl hl.1 (Nat.le_of_ble_eq_true rfl) dX6_relative_2 ⟨Nat.le_of_ble_eq_true rfl, Nat.le_of_ble_eq_true rfl⟩ (Nat.le_of_ble_eq_true rfl) (Nat.le_of_ble_eq_true rfl)

set_option maxHeartbeats 4000000 in
set_option maxRecDepth 100000 in
theorem x1_X6_relative (l : Launch) {D : va_G} {y : Nat → Nat} {ws : va_W} {x_off_1 : Value} {x_off_3 : Value} {x_off_4 : Value} {x_off_5 : Value} {x_off_6 : Value} {x_led_1 : Value} {x_led_2 : Value} {x_led_3 : Value} {x_led_4 : Value} {x_led_5 : Value} {x_led_6 : Value} {x_led_7 : Value} {x_led_8 : Value} {x_led_9 : Value} {x_itl_0 : Value} {p_off p_led p_itl a_off a_led a_itl a_ita a_ser : Nat} {i : Nat} {t : Int32} {nw n : Nat} (f0_off : ws[p_off]? = some (a_off, .inr (7, [.ref a_led, x_off_1, .ref a_ser, x_off_3, x_off_4, x_off_5, x_off_6, .int (nI (nw))]))) (f0_led : ws[p_led]? = some (a_led, .inr (3, [.ref a_itl, x_led_1, x_led_2, x_led_3, x_led_4, x_led_5, x_led_6, x_led_7, x_led_8, x_led_9]))) (f0_itl : ws[p_itl]? = some (a_itl, .inr (0, [x_itl_0, .ref a_ita, .int (nI (n))]))) (hfl : l.stackTraces = false) (hw : nw ≤ 24) (hn : n ≤ 12) (hi : i < n) (hbad : t < 0 ∨ nI nw ≤ t) : gMxd l yX6_relative wsX6_relative ({ frames := 7, cells := 1, slots := 6, locals := 121 }) D y [.ref a_off, .int (nI (i)), .int (t)] ws "java/lang/IndexOutOfBoundsException" := by
  refine g_metx_d (cc := cX6_relative) (maxL := 3) (by decide) rfl (Nat.le_of_ble_eq_true rfl) ?_
  intro p e s m below meth c A hx hb hml hr hts hown hnm hlocks hE hP hD hS hA hex hX ls hl
  have hown : s.vm.findClass RX6 = some m.cls := hown
  have hl : lv_has ls 3 [(0, .ref a_off), (1, .int (nI (i))), (2, .int (t))] := hl
  refine lv_aload_n hx hb dX6_relative_0 rfl (lv_at hl 0 rfl) ?_
  refine lv_iload_n hx hb dX6_relative_1 rfl (lv_at hl 1 rfl) ?_
  refine gc_V_v (As := [.int (nI (i))]) (rest := []) (c_X6_requireItem l f0_off f0_led f0_itl (rq_lt hi (by omega))) ⟨hx, hb, hml, hown, hts⟩ (cwV 1 hts gX6_relative_X6_requireItem rfl rfl rfl (by decide +kernel) ⟨Nat.le_of_ble_eq_true rfl, Nat.le_of_ble_eq_true rfl⟩) hE hP hD hS hA _ f0_off rfl rfl rfl rfl hl.1 (Nat.le_of_ble_eq_true rfl) dX6_relative_2 ⟨Nat.le_of_ble_eq_true rfl, Nat.le_of_ble_eq_true rfl⟩ (fun u_2 H locs hP hD hS q_2 => ?_)
  refine lv_aload_n hx hb dX6_relative_5 rfl (lv_at hl 0 rfl) ?_
  refine lv_iload_n hx hb dX6_relative_6 rfl (lv_at hl 2 rfl) ?_
  exact gcx_V_v (As := [.int (t)]) (rest := []) (x_X6_requirePublished l f0_off hfl hbad) ⟨hx, hb, hml, hown, hts⟩ (cwV 1 hts gX6_relative_X6_requirePublished rfl rfl rfl (by decide +kernel) ⟨Nat.le_of_ble_eq_true rfl, Nat.le_of_ble_eq_true rfl⟩) hE hX hex hlocks hP hD hS hA _ f0_off rfl rfl rfl rfl hl.1 (Nat.le_of_ble_eq_true rfl) dX6_relative_7 ⟨Nat.le_of_ble_eq_true rfl, Nat.le_of_ble_eq_true rfl⟩ (Nat.le_of_ble_eq_true rfl) (Nat.le_of_ble_eq_true rfl)

theorem in_c_X6_relative_RX6 : ∀ w ∈ wsX60, w ∈ wsX6_relative := by decide +kernel
set_option maxHeartbeats 4000000 in
set_option maxRecDepth 100000 in
theorem c_X6_relative (l : Launch) {D : va_G} {y : Nat → Nat} {ws : va_W} {x_off_1 : Value} {x_off_3 : Value} {x_off_4 : Value} {x_off_5 : Value} {x_off_6 : Value} {x_led_1 : Value} {x_led_2 : Value} {x_led_3 : Value} {x_led_4 : Value} {x_led_5 : Value} {x_led_6 : Value} {x_led_7 : Value} {x_led_8 : Value} {x_led_9 : Value} {x_itl_0 : Value} {x_ser_0 : Value} {x_ser_1 : Value} {x_ser_2 : Value} {x_ser_3 : Value} {x_ser_5 : Value} {x_ser_6 : Value} {x_ser_7 : Value} {p_off p_led p_itl p_ser p_rel a_off a_led a_itl a_ser a_rel a_ita : Nat} {rel : Nat → UInt64} {i t : Nat} {nw n : Nat} (f0_off : ws[p_off]? = some (a_off, .inr (7, [.ref a_led, x_off_1, .ref a_ser, x_off_3, x_off_4, x_off_5, x_off_6, .int (nI (nw))]))) (f0_led : ws[p_led]? = some (a_led, .inr (3, [.ref a_itl, x_led_1, x_led_2, x_led_3, x_led_4, x_led_5, x_led_6, x_led_7, x_led_8, x_led_9]))) (f0_itl : ws[p_itl]? = some (a_itl, .inr (0, [x_itl_0, .ref a_ita, .int (nI (n))]))) (f0_ser : ws[p_ser]? = some (a_ser, .inr (4, [x_ser_0, x_ser_1, x_ser_2, x_ser_3, .ref a_rel, x_ser_5, x_ser_6, x_ser_7]))) (f0_rel : ws[p_rel]? = some (a_rel, eD y 288 rel)) (hw : nw ≤ 24) (hn : n ≤ 12) (hi : i < n) (ht : t < nw)  : gMd l yX6_relative wsX6_relative ({ frames := 2, cells := 0, slots := 0, locals := 41 }) D y [.ref a_off, .int (nI (i)), .int (nI (t))] ws (fun r (_ : Unit) => r = rel (t * 12 + i)) (fun (_ : Unit) => ws) := by
  refine g_met_d (cc := cX6_relative) (maxL := 3) (by decide) rfl (Nat.le_of_ble_eq_true rfl) ?_
  intro p e s m below meth c A hx hb hml hr hts hown hnm hlocks hE hP hD hS hA ls hl
  have hown : s.vm.findClass RX6 = some m.cls := hown
  have hl : lv_has ls 3 [(0, .ref a_off), (1, .int (nI (i))), (2, .int (nI (t)))] := hl
  have in_RX6 := in_c_X6_relative_RX6
  refine lv_aload_n hx hb dX6_relative_0 rfl (lv_at hl 0 rfl) ?_
  refine lv_iload_n hx hb dX6_relative_1 rfl (lv_at hl 1 rfl) ?_
  refine gc_V_v (As := [.int (nI (i))]) (rest := []) (c_X6_requireItem l f0_off f0_led f0_itl (rq_lt hi (by omega))) ⟨hx, hb, hml, hown, hts⟩ (cwV 1 hts gX6_relative_X6_requireItem rfl rfl rfl (by decide +kernel) ⟨Nat.le_of_ble_eq_true rfl, Nat.le_of_ble_eq_true rfl⟩) hE hP hD hS hA _ f0_off rfl rfl rfl rfl hl.1 (Nat.le_of_ble_eq_true rfl) dX6_relative_2 ⟨Nat.le_of_ble_eq_true rfl, Nat.le_of_ble_eq_true rfl⟩ (fun u_2 H locs hP hD hS q_2 => ?_)
  refine lv_aload_n hx hb dX6_relative_5 rfl (lv_at hl 0 rfl) ?_
  refine lv_iload_n hx hb dX6_relative_6 rfl (lv_at hl 2 rfl) ?_
  refine gc_V_v (As := [.int (nI (t))]) (rest := []) (c_X6_requirePublished l f0_off (rq_lt ht (by omega))) ⟨hx, hb, hml, hown, hts⟩ (cwV 1 hts gX6_relative_X6_requirePublished rfl rfl rfl (by decide +kernel) ⟨Nat.le_of_ble_eq_true rfl, Nat.le_of_ble_eq_true rfl⟩) hE hP hD hS hA _ f0_off rfl rfl rfl rfl hl.1 (Nat.le_of_ble_eq_true rfl) dX6_relative_7 ⟨Nat.le_of_ble_eq_true rfl, Nat.le_of_ble_eq_true rfl⟩ (fun u_7 H locs hP hD hS q_7 => ?_)
  refine lv_aload_n hx hb dX6_relative_10 rfl (lv_at hl 0 rfl) ?_
  refine va_get (D := D) (ci := 7) (v := .ref a_ser) (C := RX6) (T := TX6) (N := 8) hx hb hts in_RX6 hown hE.1 (gv1 hP f0_off) 0 rfl rfl 2 (by decide) (hts (.fieldLink RX6 28 "BasketryOffice" "asPublished" "LBasketryOffice$Series;") (by decide +kernel)) (fun _ h9 => h9) rfl dX6_relative_11 ?_
  refine lv_iload_n hx hb dX6_relative_14 rfl (lv_at hl 1 rfl) ?_
  refine lv_iload_n hx hb dX6_relative_15 rfl (lv_at hl 2 rfl) ?_
  refine gc_V_d (As := [.int (nI (i)), .int (nI (t))]) (rest := []) (c_X3_relativeOf l f0_ser f0_rel (by omega) (by omega)) ⟨hx, hb, hml, hown, hts⟩ (cwV 2 hts gX6_relative_X3_relativeOf rfl rfl rfl (by decide +kernel) ⟨Nat.le_of_ble_eq_true rfl, Nat.le_of_ble_eq_true rfl⟩) hE hP hD hS hA _ f0_ser rfl rfl rfl rfl hl.1 (Nat.le_of_ble_eq_true rfl) dX6_relative_16 ⟨Nat.le_of_ble_eq_true rfl, Nat.le_of_ble_eq_true rfl⟩ (fun r_16 u_16 H locs hP hD hS q_16 => ?_)
  subst q_16
  refine g_dret hx hb hr hlocks () dX6_relative_19 hS hP hD ?_
  exact rfl

set_option maxHeartbeats 4000000 in
set_option maxRecDepth 100000 in
theorem x0_X6_ofGroup (l : Launch) {D : va_G} {y : Nat → Nat} {ws : va_W} {x_off_1 : Value} {x_off_3 : Value} {x_off_4 : Value} {x_off_5 : Value} {x_off_6 : Value} {p_off a_off a_led a_ser : Nat} {g t : Int32} {nw : Nat} (f0_off : ws[p_off]? = some (a_off, .inr (7, [.ref a_led, x_off_1, .ref a_ser, x_off_3, x_off_4, x_off_5, x_off_6, .int (nI (nw))]))) (hfl : l.stackTraces = false) (hw : nw ≤ 24)  (hbad : g < 0 ∨ nI 4 ≤ g) : gMxd l yX6_ofGroup wsX6_ofGroup ({ frames := 7, cells := 1, slots := 6, locals := 120 }) D y [.ref a_off, .int (g), .int (t)] ws "java/lang/IndexOutOfBoundsException" := by
  refine g_metx_d (cc := cX6_ofGroup) (maxL := 3) (by decide) rfl (Nat.le_of_ble_eq_true rfl) ?_
  intro p e s m below meth c A hx hb hml hr hts hown hnm hlocks hE hP hD hS hA hex hX ls hl
  have hown : s.vm.findClass RX6 = some m.cls := hown
  have hl : lv_has ls 3 [(0, .ref a_off), (1, .int (g)), (2, .int (t))] := hl
  refine lv_iload_n hx hb dX6_ofGroup_0 rfl (lv_at hl 1 rfl) ?_
  exact gcx_S_v (As := [.int (g)]) (rest := []) (x_X6_requireGroup l hfl hbad) ⟨hx, hb, hml, hown, hts⟩ (va_cwS 1 hts gX6_ofGroup_X6_requireGroup rfl rfl rfl (by decide +kernel) ⟨Nat.le_of_ble_eq_true rfl, Nat.le_of_ble_eq_true rfl⟩) hE hX hex hlocks hP hD hS hA rfl rfl hl.1 (Nat.le_of_ble_eq_true rfl) dX6_ofGroup_1 ⟨Nat.le_of_ble_eq_true rfl, Nat.le_of_ble_eq_true rfl⟩ (Nat.le_of_ble_eq_true rfl) (Nat.le_of_ble_eq_true rfl)

set_option maxHeartbeats 4000000 in
set_option maxRecDepth 100000 in
theorem x1_X6_ofGroup (l : Launch) {D : va_G} {y : Nat → Nat} {ws : va_W} {x_off_1 : Value} {x_off_3 : Value} {x_off_4 : Value} {x_off_5 : Value} {x_off_6 : Value} {p_off a_off a_led a_ser : Nat} {g : Nat} {t : Int32} {nw : Nat} (f0_off : ws[p_off]? = some (a_off, .inr (7, [.ref a_led, x_off_1, .ref a_ser, x_off_3, x_off_4, x_off_5, x_off_6, .int (nI (nw))]))) (hfl : l.stackTraces = false) (hw : nw ≤ 24) (hg : g < 4) (hbad : t < 0 ∨ nI nw ≤ t) : gMxd l yX6_ofGroup wsX6_ofGroup ({ frames := 7, cells := 1, slots := 6, locals := 121 }) D y [.ref a_off, .int (nI (g)), .int (t)] ws "java/lang/IndexOutOfBoundsException" := by
  refine g_metx_d (cc := cX6_ofGroup) (maxL := 3) (by decide) rfl (Nat.le_of_ble_eq_true rfl) ?_
  intro p e s m below meth c A hx hb hml hr hts hown hnm hlocks hE hP hD hS hA hex hX ls hl
  have hown : s.vm.findClass RX6 = some m.cls := hown
  have hl : lv_has ls 3 [(0, .ref a_off), (1, .int (nI (g))), (2, .int (t))] := hl
  refine lv_iload_n hx hb dX6_ofGroup_0 rfl (lv_at hl 1 rfl) ?_
  refine gc_S_v (As := [.int (nI (g))]) (rest := []) (c_X6_requireGroup l (rq_lt hg (by omega))) ⟨hx, hb, hml, hown, hts⟩ (va_cwS 1 hts gX6_ofGroup_X6_requireGroup rfl rfl rfl (by decide +kernel) ⟨Nat.le_of_ble_eq_true rfl, Nat.le_of_ble_eq_true rfl⟩) hE hP hD hS hA rfl rfl hl.1 (Nat.le_of_ble_eq_true rfl) dX6_ofGroup_1 ⟨Nat.le_of_ble_eq_true rfl, Nat.le_of_ble_eq_true rfl⟩ (fun u_1 H locs hP hD hS q_1 => ?_)
  refine lv_aload_n hx hb dX6_ofGroup_4 rfl (lv_at hl 0 rfl) ?_
  refine lv_iload_n hx hb dX6_ofGroup_5 rfl (lv_at hl 2 rfl) ?_
  exact gcx_V_v (As := [.int (t)]) (rest := []) (x_X6_requirePublished l f0_off hfl hbad) ⟨hx, hb, hml, hown, hts⟩ (cwV 1 hts gX6_ofGroup_X6_requirePublished rfl rfl rfl (by decide +kernel) ⟨Nat.le_of_ble_eq_true rfl, Nat.le_of_ble_eq_true rfl⟩) hE hX hex hlocks hP hD hS hA _ f0_off rfl rfl rfl rfl hl.1 (Nat.le_of_ble_eq_true rfl) dX6_ofGroup_6 ⟨Nat.le_of_ble_eq_true rfl, Nat.le_of_ble_eq_true rfl⟩ (Nat.le_of_ble_eq_true rfl) (Nat.le_of_ble_eq_true rfl)

theorem in_c_X6_ofGroup_RX6 : ∀ w ∈ wsX60, w ∈ wsX6_ofGroup := by decide +kernel
set_option maxHeartbeats 4000000 in
set_option maxRecDepth 100000 in
theorem c_X6_ofGroup (l : Launch) {D : va_G} {y : Nat → Nat} {ws : va_W} {x_off_1 : Value} {x_off_3 : Value} {x_off_4 : Value} {x_off_5 : Value} {x_off_6 : Value} {x_ser_0 : Value} {x_ser_1 : Value} {x_ser_2 : Value} {x_ser_3 : Value} {x_ser_4 : Value} {x_ser_6 : Value} {x_ser_7 : Value} {p_off p_ser p_grp a_off a_ser a_grp a_led : Nat} {grp : Nat → UInt64} {g t : Nat} {nw : Nat} (f0_off : ws[p_off]? = some (a_off, .inr (7, [.ref a_led, x_off_1, .ref a_ser, x_off_3, x_off_4, x_off_5, x_off_6, .int (nI (nw))]))) (f0_ser : ws[p_ser]? = some (a_ser, .inr (4, [x_ser_0, x_ser_1, x_ser_2, x_ser_3, x_ser_4, .ref a_grp, x_ser_6, x_ser_7]))) (f0_grp : ws[p_grp]? = some (a_grp, eD y 96 grp)) (hw : nw ≤ 24) (hg : g < 4) (ht : t < nw)  : gMd l yX6_ofGroup wsX6_ofGroup ({ frames := 1, cells := 0, slots := 0, locals := 22 }) D y [.ref a_off, .int (nI (g)), .int (nI (t))] ws (fun r (_ : Unit) => r = grp (t * 4 + g)) (fun (_ : Unit) => ws) := by
  refine g_met_d (cc := cX6_ofGroup) (maxL := 3) (by decide) rfl (Nat.le_of_ble_eq_true rfl) ?_
  intro p e s m below meth c A hx hb hml hr hts hown hnm hlocks hE hP hD hS hA ls hl
  have hown : s.vm.findClass RX6 = some m.cls := hown
  have hl : lv_has ls 3 [(0, .ref a_off), (1, .int (nI (g))), (2, .int (nI (t)))] := hl
  have in_RX6 := in_c_X6_ofGroup_RX6
  refine lv_iload_n hx hb dX6_ofGroup_0 rfl (lv_at hl 1 rfl) ?_
  refine gc_S_v (As := [.int (nI (g))]) (rest := []) (c_X6_requireGroup l (rq_lt hg (by omega))) ⟨hx, hb, hml, hown, hts⟩ (va_cwS 1 hts gX6_ofGroup_X6_requireGroup rfl rfl rfl (by decide +kernel) ⟨Nat.le_of_ble_eq_true rfl, Nat.le_of_ble_eq_true rfl⟩) hE hP hD hS hA rfl rfl hl.1 (Nat.le_of_ble_eq_true rfl) dX6_ofGroup_1 ⟨Nat.le_of_ble_eq_true rfl, Nat.le_of_ble_eq_true rfl⟩ (fun u_1 H locs hP hD hS q_1 => ?_)
  refine lv_aload_n hx hb dX6_ofGroup_4 rfl (lv_at hl 0 rfl) ?_
  refine lv_iload_n hx hb dX6_ofGroup_5 rfl (lv_at hl 2 rfl) ?_
  refine gc_V_v (As := [.int (nI (t))]) (rest := []) (c_X6_requirePublished l f0_off (rq_lt ht (by omega))) ⟨hx, hb, hml, hown, hts⟩ (cwV 1 hts gX6_ofGroup_X6_requirePublished rfl rfl rfl (by decide +kernel) ⟨Nat.le_of_ble_eq_true rfl, Nat.le_of_ble_eq_true rfl⟩) hE hP hD hS hA _ f0_off rfl rfl rfl rfl hl.1 (Nat.le_of_ble_eq_true rfl) dX6_ofGroup_6 ⟨Nat.le_of_ble_eq_true rfl, Nat.le_of_ble_eq_true rfl⟩ (fun u_6 H locs hP hD hS q_6 => ?_)
  refine lv_aload_n hx hb dX6_ofGroup_9 rfl (lv_at hl 0 rfl) ?_
  refine va_get (D := D) (ci := 7) (v := .ref a_ser) (C := RX6) (T := TX6) (N := 8) hx hb hts in_RX6 hown hE.1 (gv1 hP f0_off) 0 rfl rfl 2 (by decide) (hts (.fieldLink RX6 28 "BasketryOffice" "asPublished" "LBasketryOffice$Series;") (by decide +kernel)) (fun _ h9 => h9) rfl dX6_ofGroup_10 ?_
  refine lv_iload_n hx hb dX6_ofGroup_13 rfl (lv_at hl 1 rfl) ?_
  refine lv_iload_n hx hb dX6_ofGroup_14 rfl (lv_at hl 2 rfl) ?_
  refine gc_V_d (As := [.int (nI (g)), .int (nI (t))]) (rest := []) (c_X3_groupRelativeOf l f0_ser f0_grp (by omega) (by omega)) ⟨hx, hb, hml, hown, hts⟩ (cwV 2 hts gX6_ofGroup_X3_groupRelativeOf rfl rfl rfl (by decide +kernel) ⟨Nat.le_of_ble_eq_true rfl, Nat.le_of_ble_eq_true rfl⟩) hE hP hD hS hA _ f0_ser rfl rfl rfl rfl hl.1 (Nat.le_of_ble_eq_true rfl) dX6_ofGroup_15 ⟨Nat.le_of_ble_eq_true rfl, Nat.le_of_ble_eq_true rfl⟩ (fun r_15 u_15 H locs hP hD hS q_15 => ?_)
  subst q_15
  refine g_dret hx hb hr hlocks () dX6_ofGroup_18 hS hP hD ?_
  exact rfl

set_option maxHeartbeats 4000000 in
set_option maxRecDepth 100000 in
theorem x0_X6_share (l : Launch) {D : va_G} {y : Nat → Nat} {ws : va_W} {x_off_2 : Value} {x_off_3 : Value} {x_off_4 : Value} {x_off_5 : Value} {x_off_6 : Value} {p_off a_off a_led a_spd : Nat} {kd g t : Int32} {nw : Nat} (f0_off : ws[p_off]? = some (a_off, .inr (7, [.ref a_led, .ref a_spd, x_off_2, x_off_3, x_off_4, x_off_5, x_off_6, .int (nI (nw))]))) (hfl : l.stackTraces = false) (hw : nw ≤ 24)  (hbad : kd < 0 ∨ nI 5 ≤ kd) : gMxd l yX6_share wsX6_share ({ frames := 7, cells := 1, slots := 6, locals := 120 }) D y [.ref a_off, .int (kd), .int (g), .int (t)] ws "java/lang/IndexOutOfBoundsException" := by
  refine g_metx_d (cc := cX6_share) (maxL := 4) (by decide) rfl (Nat.le_of_ble_eq_true rfl) ?_
  intro p e s m below meth c A hx hb hml hr hts hown hnm hlocks hE hP hD hS hA hex hX ls hl
  have hown : s.vm.findClass RX6 = some m.cls := hown
  have hl : lv_has ls 4 [(0, .ref a_off), (1, .int (kd)), (2, .int (g)), (3, .int (t))] := hl
  refine lv_iload_n hx hb dX6_share_0 rfl (lv_at hl 1 rfl) ?_
  exact gcx_S_v (As := [.int (kd)]) (rest := []) (x_X6_requireKind l hfl hbad) ⟨hx, hb, hml, hown, hts⟩ (va_cwS 1 hts gX6_share_X6_requireKind rfl rfl rfl (by decide +kernel) ⟨Nat.le_of_ble_eq_true rfl, Nat.le_of_ble_eq_true rfl⟩) hE hX hex hlocks hP hD hS hA rfl rfl hl.1 (Nat.le_of_ble_eq_true rfl) dX6_share_1 ⟨Nat.le_of_ble_eq_true rfl, Nat.le_of_ble_eq_true rfl⟩ (Nat.le_of_ble_eq_true rfl) (Nat.le_of_ble_eq_true rfl)

set_option maxHeartbeats 4000000 in
set_option maxRecDepth 100000 in
theorem x1_X6_share (l : Launch) {D : va_G} {y : Nat → Nat} {ws : va_W} {x_off_2 : Value} {x_off_3 : Value} {x_off_4 : Value} {x_off_5 : Value} {x_off_6 : Value} {p_off a_off a_led a_spd : Nat} {kd : Nat} {g t : Int32} {nw : Nat} (f0_off : ws[p_off]? = some (a_off, .inr (7, [.ref a_led, .ref a_spd, x_off_2, x_off_3, x_off_4, x_off_5, x_off_6, .int (nI (nw))]))) (hfl : l.stackTraces = false) (hw : nw ≤ 24) (hkd : kd < 5) (hbad : g < 0 ∨ nI 4 ≤ g) : gMxd l yX6_share wsX6_share ({ frames := 7, cells := 1, slots := 6, locals := 120 }) D y [.ref a_off, .int (nI (kd)), .int (g), .int (t)] ws "java/lang/IndexOutOfBoundsException" := by
  refine g_metx_d (cc := cX6_share) (maxL := 4) (by decide) rfl (Nat.le_of_ble_eq_true rfl) ?_
  intro p e s m below meth c A hx hb hml hr hts hown hnm hlocks hE hP hD hS hA hex hX ls hl
  have hown : s.vm.findClass RX6 = some m.cls := hown
  have hl : lv_has ls 4 [(0, .ref a_off), (1, .int (nI (kd))), (2, .int (g)), (3, .int (t))] := hl
  refine lv_iload_n hx hb dX6_share_0 rfl (lv_at hl 1 rfl) ?_
  refine gc_S_v (As := [.int (nI (kd))]) (rest := []) (c_X6_requireKind l (rq_lt hkd (by omega))) ⟨hx, hb, hml, hown, hts⟩ (va_cwS 1 hts gX6_share_X6_requireKind rfl rfl rfl (by decide +kernel) ⟨Nat.le_of_ble_eq_true rfl, Nat.le_of_ble_eq_true rfl⟩) hE hP hD hS hA rfl rfl hl.1 (Nat.le_of_ble_eq_true rfl) dX6_share_1 ⟨Nat.le_of_ble_eq_true rfl, Nat.le_of_ble_eq_true rfl⟩ (fun u_1 H locs hP hD hS q_1 => ?_)
  refine lv_iload_n hx hb dX6_share_4 rfl (lv_at hl 2 rfl) ?_
  exact gcx_S_v (As := [.int (g)]) (rest := []) (x_X6_requireGroup l hfl hbad) ⟨hx, hb, hml, hown, hts⟩ (va_cwS 1 hts gX6_share_X6_requireGroup rfl rfl rfl (by decide +kernel) ⟨Nat.le_of_ble_eq_true rfl, Nat.le_of_ble_eq_true rfl⟩) hE hX hex hlocks hP hD hS hA rfl rfl hl.1 (Nat.le_of_ble_eq_true rfl) dX6_share_5 ⟨Nat.le_of_ble_eq_true rfl, Nat.le_of_ble_eq_true rfl⟩ (Nat.le_of_ble_eq_true rfl) (Nat.le_of_ble_eq_true rfl)

set_option maxHeartbeats 4000000 in
set_option maxRecDepth 100000 in
theorem x2_X6_share (l : Launch) {D : va_G} {y : Nat → Nat} {ws : va_W} {x_off_2 : Value} {x_off_3 : Value} {x_off_4 : Value} {x_off_5 : Value} {x_off_6 : Value} {p_off a_off a_led a_spd : Nat} {kd g : Nat} {t : Int32} {nw : Nat} (f0_off : ws[p_off]? = some (a_off, .inr (7, [.ref a_led, .ref a_spd, x_off_2, x_off_3, x_off_4, x_off_5, x_off_6, .int (nI (nw))]))) (hfl : l.stackTraces = false) (hw : nw ≤ 24) (hkd : kd < 5) (hg : g < 4) (hbad : t < 0 ∨ nI nw ≤ t) : gMxd l yX6_share wsX6_share ({ frames := 7, cells := 1, slots := 6, locals := 121 }) D y [.ref a_off, .int (nI (kd)), .int (nI (g)), .int (t)] ws "java/lang/IndexOutOfBoundsException" := by
  refine g_metx_d (cc := cX6_share) (maxL := 4) (by decide) rfl (Nat.le_of_ble_eq_true rfl) ?_
  intro p e s m below meth c A hx hb hml hr hts hown hnm hlocks hE hP hD hS hA hex hX ls hl
  have hown : s.vm.findClass RX6 = some m.cls := hown
  have hl : lv_has ls 4 [(0, .ref a_off), (1, .int (nI (kd))), (2, .int (nI (g))), (3, .int (t))] := hl
  refine lv_iload_n hx hb dX6_share_0 rfl (lv_at hl 1 rfl) ?_
  refine gc_S_v (As := [.int (nI (kd))]) (rest := []) (c_X6_requireKind l (rq_lt hkd (by omega))) ⟨hx, hb, hml, hown, hts⟩ (va_cwS 1 hts gX6_share_X6_requireKind rfl rfl rfl (by decide +kernel) ⟨Nat.le_of_ble_eq_true rfl, Nat.le_of_ble_eq_true rfl⟩) hE hP hD hS hA rfl rfl hl.1 (Nat.le_of_ble_eq_true rfl) dX6_share_1 ⟨Nat.le_of_ble_eq_true rfl, Nat.le_of_ble_eq_true rfl⟩ (fun u_1 H locs hP hD hS q_1 => ?_)
  refine lv_iload_n hx hb dX6_share_4 rfl (lv_at hl 2 rfl) ?_
  refine gc_S_v (As := [.int (nI (g))]) (rest := []) (c_X6_requireGroup l (rq_lt hg (by omega))) ⟨hx, hb, hml, hown, hts⟩ (va_cwS 1 hts gX6_share_X6_requireGroup rfl rfl rfl (by decide +kernel) ⟨Nat.le_of_ble_eq_true rfl, Nat.le_of_ble_eq_true rfl⟩) hE hP hD hS hA rfl rfl hl.1 (Nat.le_of_ble_eq_true rfl) dX6_share_5 ⟨Nat.le_of_ble_eq_true rfl, Nat.le_of_ble_eq_true rfl⟩ (fun u_5 H locs hP hD hS q_5 => ?_)
  refine lv_aload_n hx hb dX6_share_8 rfl (lv_at hl 0 rfl) ?_
  refine lv_iload_n hx hb dX6_share_9 rfl (lv_at hl 3 rfl) ?_
  exact gcx_V_v (As := [.int (t)]) (rest := []) (x_X6_requirePublished l f0_off hfl hbad) ⟨hx, hb, hml, hown, hts⟩ (cwV 1 hts gX6_share_X6_requirePublished rfl rfl rfl (by decide +kernel) ⟨Nat.le_of_ble_eq_true rfl, Nat.le_of_ble_eq_true rfl⟩) hE hX hex hlocks hP hD hS hA _ f0_off rfl rfl rfl rfl hl.1 (Nat.le_of_ble_eq_true rfl) dX6_share_10 ⟨Nat.le_of_ble_eq_true rfl, Nat.le_of_ble_eq_true rfl⟩ (Nat.le_of_ble_eq_true rfl) (Nat.le_of_ble_eq_true rfl)

theorem in_c_X6_share_RX6 : ∀ w ∈ wsX60, w ∈ wsX6_share := by decide +kernel
set_option maxHeartbeats 4000000 in
set_option maxRecDepth 100000 in
theorem c_X6_share (l : Launch) {D : va_G} {y : Nat → Nat} {ws : va_W} {x_off_2 : Value} {x_off_3 : Value} {x_off_4 : Value} {x_off_5 : Value} {x_off_6 : Value} {x_spd_0 : Value} {x_spd_1 : Value} {p_off p_spd p_shr a_off a_spd a_shr a_led : Nat} {shr : Nat → UInt64} {kd g t : Nat} {nw : Nat} (f0_off : ws[p_off]? = some (a_off, .inr (7, [.ref a_led, .ref a_spd, x_off_2, x_off_3, x_off_4, x_off_5, x_off_6, .int (nI (nw))]))) (f0_spd : ws[p_spd]? = some (a_spd, .inr (5, [x_spd_0, x_spd_1, .ref a_shr]))) (f0_shr : ws[p_shr]? = some (a_shr, eD y 480 shr)) (hw : nw ≤ 24) (hkd : kd < 5) (hg : g < 4) (ht : t < nw)  : gMd l yX6_share wsX6_share ({ frames := 1, cells := 0, slots := 0, locals := 23 }) D y [.ref a_off, .int (nI (kd)), .int (nI (g)), .int (nI (t))] ws (fun r (_ : Unit) => r = shr ((t * 5 + kd) * 4 + g)) (fun (_ : Unit) => ws) := by
  refine g_met_d (cc := cX6_share) (maxL := 4) (by decide) rfl (Nat.le_of_ble_eq_true rfl) ?_
  intro p e s m below meth c A hx hb hml hr hts hown hnm hlocks hE hP hD hS hA ls hl
  have hown : s.vm.findClass RX6 = some m.cls := hown
  have hl : lv_has ls 4 [(0, .ref a_off), (1, .int (nI (kd))), (2, .int (nI (g))), (3, .int (nI (t)))] := hl
  have in_RX6 := in_c_X6_share_RX6
  refine lv_iload_n hx hb dX6_share_0 rfl (lv_at hl 1 rfl) ?_
  refine gc_S_v (As := [.int (nI (kd))]) (rest := []) (c_X6_requireKind l (rq_lt hkd (by omega))) ⟨hx, hb, hml, hown, hts⟩ (va_cwS 1 hts gX6_share_X6_requireKind rfl rfl rfl (by decide +kernel) ⟨Nat.le_of_ble_eq_true rfl, Nat.le_of_ble_eq_true rfl⟩) hE hP hD hS hA rfl rfl hl.1 (Nat.le_of_ble_eq_true rfl) dX6_share_1 ⟨Nat.le_of_ble_eq_true rfl, Nat.le_of_ble_eq_true rfl⟩ (fun u_1 H locs hP hD hS q_1 => ?_)
  refine lv_iload_n hx hb dX6_share_4 rfl (lv_at hl 2 rfl) ?_
  refine gc_S_v (As := [.int (nI (g))]) (rest := []) (c_X6_requireGroup l (rq_lt hg (by omega))) ⟨hx, hb, hml, hown, hts⟩ (va_cwS 1 hts gX6_share_X6_requireGroup rfl rfl rfl (by decide +kernel) ⟨Nat.le_of_ble_eq_true rfl, Nat.le_of_ble_eq_true rfl⟩) hE hP hD hS hA rfl rfl hl.1 (Nat.le_of_ble_eq_true rfl) dX6_share_5 ⟨Nat.le_of_ble_eq_true rfl, Nat.le_of_ble_eq_true rfl⟩ (fun u_5 H locs hP hD hS q_5 => ?_)
  refine lv_aload_n hx hb dX6_share_8 rfl (lv_at hl 0 rfl) ?_
  refine lv_iload_n hx hb dX6_share_9 rfl (lv_at hl 3 rfl) ?_
  refine gc_V_v (As := [.int (nI (t))]) (rest := []) (c_X6_requirePublished l f0_off (rq_lt ht (by omega))) ⟨hx, hb, hml, hown, hts⟩ (cwV 1 hts gX6_share_X6_requirePublished rfl rfl rfl (by decide +kernel) ⟨Nat.le_of_ble_eq_true rfl, Nat.le_of_ble_eq_true rfl⟩) hE hP hD hS hA _ f0_off rfl rfl rfl rfl hl.1 (Nat.le_of_ble_eq_true rfl) dX6_share_10 ⟨Nat.le_of_ble_eq_true rfl, Nat.le_of_ble_eq_true rfl⟩ (fun u_10 H locs hP hD hS q_10 => ?_)
  refine lv_aload_n hx hb dX6_share_13 rfl (lv_at hl 0 rfl) ?_
  refine va_get (D := D) (ci := 7) (v := .ref a_spd) (C := RX6) (T := TX6) (N := 8) hx hb hts in_RX6 hown hE.1 (gv1 hP f0_off) 0 rfl rfl 1 (by decide) (hts (.fieldLink RX6 19 "BasketryOffice" "spendings" "LBasketryOffice$Spendings;") (by decide +kernel)) (fun _ h9 => h9) rfl dX6_share_14 ?_
  refine lv_iload_n hx hb dX6_share_17 rfl (lv_at hl 1 rfl) ?_
  refine lv_iload_n hx hb dX6_share_18 rfl (lv_at hl 2 rfl) ?_
  refine lv_iload_n hx hb dX6_share_19 rfl (lv_at hl 3 rfl) ?_
  refine gc_V_d (As := [.int (nI (kd)), .int (nI (g)), .int (nI (t))]) (rest := []) (c_X4_shareOf l f0_spd f0_shr (by omega) (by omega) (by omega)) ⟨hx, hb, hml, hown, hts⟩ (cwV 3 hts gX6_share_X4_shareOf rfl rfl rfl (by decide +kernel) ⟨Nat.le_of_ble_eq_true rfl, Nat.le_of_ble_eq_true rfl⟩) hE hP hD hS hA _ f0_spd rfl rfl rfl rfl hl.1 (Nat.le_of_ble_eq_true rfl) dX6_share_20 ⟨Nat.le_of_ble_eq_true rfl, Nat.le_of_ble_eq_true rfl⟩ (fun r_20 u_20 H locs hP hD hS q_20 => ?_)
  subst q_20
  refine g_dret hx hb hr hlocks () dX6_share_23 hS hP hD ?_
  exact rfl

set_option maxHeartbeats 4000000 in
set_option maxRecDepth 100000 in
theorem x0_X6_index (l : Launch) {D : va_G} {y : Nat → Nat} {ws : va_W} {x_off_1 : Value} {x_off_3 : Value} {x_off_4 : Value} {x_off_5 : Value} {x_off_6 : Value} {p_off a_off a_led a_ser : Nat} {kd t : Int32} {nw : Nat} (f0_off : ws[p_off]? = some (a_off, .inr (7, [.ref a_led, x_off_1, .ref a_ser, x_off_3, x_off_4, x_off_5, x_off_6, .int (nI (nw))]))) (hfl : l.stackTraces = false) (hw : nw ≤ 24)  (hbad : kd < 0 ∨ nI 5 ≤ kd) : gMxd l yX6_index wsX6_index ({ frames := 7, cells := 1, slots := 6, locals := 120 }) D y [.ref a_off, .int (kd), .int (t)] ws "java/lang/IndexOutOfBoundsException" := by
  refine g_metx_d (cc := cX6_index) (maxL := 3) (by decide) rfl (Nat.le_of_ble_eq_true rfl) ?_
  intro p e s m below meth c A hx hb hml hr hts hown hnm hlocks hE hP hD hS hA hex hX ls hl
  have hown : s.vm.findClass RX6 = some m.cls := hown
  have hl : lv_has ls 3 [(0, .ref a_off), (1, .int (kd)), (2, .int (t))] := hl
  refine lv_iload_n hx hb dX6_index_0 rfl (lv_at hl 1 rfl) ?_
  exact gcx_S_v (As := [.int (kd)]) (rest := []) (x_X6_requireKind l hfl hbad) ⟨hx, hb, hml, hown, hts⟩ (va_cwS 1 hts gX6_index_X6_requireKind rfl rfl rfl (by decide +kernel) ⟨Nat.le_of_ble_eq_true rfl, Nat.le_of_ble_eq_true rfl⟩) hE hX hex hlocks hP hD hS hA rfl rfl hl.1 (Nat.le_of_ble_eq_true rfl) dX6_index_1 ⟨Nat.le_of_ble_eq_true rfl, Nat.le_of_ble_eq_true rfl⟩ (Nat.le_of_ble_eq_true rfl) (Nat.le_of_ble_eq_true rfl)

set_option maxHeartbeats 4000000 in
set_option maxRecDepth 100000 in
theorem x1_X6_index (l : Launch) {D : va_G} {y : Nat → Nat} {ws : va_W} {x_off_1 : Value} {x_off_3 : Value} {x_off_4 : Value} {x_off_5 : Value} {x_off_6 : Value} {p_off a_off a_led a_ser : Nat} {kd : Nat} {t : Int32} {nw : Nat} (f0_off : ws[p_off]? = some (a_off, .inr (7, [.ref a_led, x_off_1, .ref a_ser, x_off_3, x_off_4, x_off_5, x_off_6, .int (nI (nw))]))) (hfl : l.stackTraces = false) (hw : nw ≤ 24) (hkd : kd < 5) (hbad : t < 0 ∨ nI nw ≤ t) : gMxd l yX6_index wsX6_index ({ frames := 7, cells := 1, slots := 6, locals := 121 }) D y [.ref a_off, .int (nI (kd)), .int (t)] ws "java/lang/IndexOutOfBoundsException" := by
  refine g_metx_d (cc := cX6_index) (maxL := 3) (by decide) rfl (Nat.le_of_ble_eq_true rfl) ?_
  intro p e s m below meth c A hx hb hml hr hts hown hnm hlocks hE hP hD hS hA hex hX ls hl
  have hown : s.vm.findClass RX6 = some m.cls := hown
  have hl : lv_has ls 3 [(0, .ref a_off), (1, .int (nI (kd))), (2, .int (t))] := hl
  refine lv_iload_n hx hb dX6_index_0 rfl (lv_at hl 1 rfl) ?_
  refine gc_S_v (As := [.int (nI (kd))]) (rest := []) (c_X6_requireKind l (rq_lt hkd (by omega))) ⟨hx, hb, hml, hown, hts⟩ (va_cwS 1 hts gX6_index_X6_requireKind rfl rfl rfl (by decide +kernel) ⟨Nat.le_of_ble_eq_true rfl, Nat.le_of_ble_eq_true rfl⟩) hE hP hD hS hA rfl rfl hl.1 (Nat.le_of_ble_eq_true rfl) dX6_index_1 ⟨Nat.le_of_ble_eq_true rfl, Nat.le_of_ble_eq_true rfl⟩ (fun u_1 H locs hP hD hS q_1 => ?_)
  refine lv_aload_n hx hb dX6_index_4 rfl (lv_at hl 0 rfl) ?_
  refine lv_iload_n hx hb dX6_index_5 rfl (lv_at hl 2 rfl) ?_
  exact gcx_V_v (As := [.int (t)]) (rest := []) (x_X6_requirePublished l f0_off hfl hbad) ⟨hx, hb, hml, hown, hts⟩ (cwV 1 hts gX6_index_X6_requirePublished rfl rfl rfl (by decide +kernel) ⟨Nat.le_of_ble_eq_true rfl, Nat.le_of_ble_eq_true rfl⟩) hE hX hex hlocks hP hD hS hA _ f0_off rfl rfl rfl rfl hl.1 (Nat.le_of_ble_eq_true rfl) dX6_index_6 ⟨Nat.le_of_ble_eq_true rfl, Nat.le_of_ble_eq_true rfl⟩ (Nat.le_of_ble_eq_true rfl) (Nat.le_of_ble_eq_true rfl)

theorem in_c_X6_index_RX6 : ∀ w ∈ wsX60, w ∈ wsX6_index := by decide +kernel
set_option maxHeartbeats 4000000 in
set_option maxRecDepth 100000 in
theorem c_X6_index (l : Launch) {D : va_G} {y : Nat → Nat} {ws : va_W} {x_off_1 : Value} {x_off_3 : Value} {x_off_4 : Value} {x_off_5 : Value} {x_off_6 : Value} {x_ser_0 : Value} {x_ser_1 : Value} {x_ser_2 : Value} {x_ser_3 : Value} {x_ser_4 : Value} {x_ser_5 : Value} {x_ser_7 : Value} {p_off p_ser p_idx a_off a_ser a_idx a_led : Nat} {idx : Nat → UInt64} {kd t : Nat} {nw : Nat} (f0_off : ws[p_off]? = some (a_off, .inr (7, [.ref a_led, x_off_1, .ref a_ser, x_off_3, x_off_4, x_off_5, x_off_6, .int (nI (nw))]))) (f0_ser : ws[p_ser]? = some (a_ser, .inr (4, [x_ser_0, x_ser_1, x_ser_2, x_ser_3, x_ser_4, x_ser_5, .ref a_idx, x_ser_7]))) (f0_idx : ws[p_idx]? = some (a_idx, eD y 120 idx)) (hw : nw ≤ 24) (hkd : kd < 5) (ht : t < nw)  : gMd l yX6_index wsX6_index ({ frames := 1, cells := 0, slots := 0, locals := 22 }) D y [.ref a_off, .int (nI (kd)), .int (nI (t))] ws (fun r (_ : Unit) => r = idx (t * 5 + kd)) (fun (_ : Unit) => ws) := by
  refine g_met_d (cc := cX6_index) (maxL := 3) (by decide) rfl (Nat.le_of_ble_eq_true rfl) ?_
  intro p e s m below meth c A hx hb hml hr hts hown hnm hlocks hE hP hD hS hA ls hl
  have hown : s.vm.findClass RX6 = some m.cls := hown
  have hl : lv_has ls 3 [(0, .ref a_off), (1, .int (nI (kd))), (2, .int (nI (t)))] := hl
  have in_RX6 := in_c_X6_index_RX6
  refine lv_iload_n hx hb dX6_index_0 rfl (lv_at hl 1 rfl) ?_
  refine gc_S_v (As := [.int (nI (kd))]) (rest := []) (c_X6_requireKind l (rq_lt hkd (by omega))) ⟨hx, hb, hml, hown, hts⟩ (va_cwS 1 hts gX6_index_X6_requireKind rfl rfl rfl (by decide +kernel) ⟨Nat.le_of_ble_eq_true rfl, Nat.le_of_ble_eq_true rfl⟩) hE hP hD hS hA rfl rfl hl.1 (Nat.le_of_ble_eq_true rfl) dX6_index_1 ⟨Nat.le_of_ble_eq_true rfl, Nat.le_of_ble_eq_true rfl⟩ (fun u_1 H locs hP hD hS q_1 => ?_)
  refine lv_aload_n hx hb dX6_index_4 rfl (lv_at hl 0 rfl) ?_
  refine lv_iload_n hx hb dX6_index_5 rfl (lv_at hl 2 rfl) ?_
  refine gc_V_v (As := [.int (nI (t))]) (rest := []) (c_X6_requirePublished l f0_off (rq_lt ht (by omega))) ⟨hx, hb, hml, hown, hts⟩ (cwV 1 hts gX6_index_X6_requirePublished rfl rfl rfl (by decide +kernel) ⟨Nat.le_of_ble_eq_true rfl, Nat.le_of_ble_eq_true rfl⟩) hE hP hD hS hA _ f0_off rfl rfl rfl rfl hl.1 (Nat.le_of_ble_eq_true rfl) dX6_index_6 ⟨Nat.le_of_ble_eq_true rfl, Nat.le_of_ble_eq_true rfl⟩ (fun u_6 H locs hP hD hS q_6 => ?_)
  refine lv_aload_n hx hb dX6_index_9 rfl (lv_at hl 0 rfl) ?_
  refine va_get (D := D) (ci := 7) (v := .ref a_ser) (C := RX6) (T := TX6) (N := 8) hx hb hts in_RX6 hown hE.1 (gv1 hP f0_off) 0 rfl rfl 2 (by decide) (hts (.fieldLink RX6 28 "BasketryOffice" "asPublished" "LBasketryOffice$Series;") (by decide +kernel)) (fun _ h9 => h9) rfl dX6_index_10 ?_
  refine lv_iload_n hx hb dX6_index_13 rfl (lv_at hl 1 rfl) ?_
  refine lv_iload_n hx hb dX6_index_14 rfl (lv_at hl 2 rfl) ?_
  refine gc_V_d (As := [.int (nI (kd)), .int (nI (t))]) (rest := []) (c_X3_indexOf l f0_ser f0_idx (by omega) (by omega)) ⟨hx, hb, hml, hown, hts⟩ (cwV 2 hts gX6_index_X3_indexOf rfl rfl rfl (by decide +kernel) ⟨Nat.le_of_ble_eq_true rfl, Nat.le_of_ble_eq_true rfl⟩) hE hP hD hS hA _ f0_ser rfl rfl rfl rfl hl.1 (Nat.le_of_ble_eq_true rfl) dX6_index_15 ⟨Nat.le_of_ble_eq_true rfl, Nat.le_of_ble_eq_true rfl⟩ (fun r_15 u_15 H locs hP hD hS q_15 => ?_)
  subst q_15
  refine g_dret hx hb hr hlocks () dX6_index_18 hS hP hD ?_
  exact rfl

set_option maxHeartbeats 4000000 in
set_option maxRecDepth 100000 in
theorem x0_X6_published (l : Launch) {D : va_G} {y : Nat → Nat} {ws : va_W} {x_off_1 : Value} {x_off_2 : Value} {x_off_3 : Value} {x_off_5 : Value} {x_off_6 : Value} {p_off a_off a_led a_num : Nat} {t : Int32} {nw : Nat} (f0_off : ws[p_off]? = some (a_off, .inr (7, [.ref a_led, x_off_1, x_off_2, x_off_3, .ref a_num, x_off_5, x_off_6, .int (nI (nw))]))) (hfl : l.stackTraces = false) (hw : nw ≤ 24)  (hbad : t < 0 ∨ nI nw ≤ t) : gMxi l yX6_published wsX6_published ({ frames := 7, cells := 1, slots := 6, locals := 121 }) D y [.ref a_off, .int (t)] ws "java/lang/IndexOutOfBoundsException" := by
  refine g_metx_i (cc := cX6_published) (maxL := 2) (by decide) rfl (Nat.le_of_ble_eq_true rfl) ?_
  intro p e s m below meth c A hx hb hml hr hts hown hnm hlocks hE hP hD hS hA hex hX ls hl
  have hown : s.vm.findClass RX6 = some m.cls := hown
  have hl : lv_has ls 2 [(0, .ref a_off), (1, .int (t))] := hl
  refine lv_aload_n hx hb dX6_published_0 rfl (lv_at hl 0 rfl) ?_
  refine lv_iload_n hx hb dX6_published_1 rfl (lv_at hl 1 rfl) ?_
  exact gcx_V_v (As := [.int (t)]) (rest := []) (x_X6_requirePublished l f0_off hfl hbad) ⟨hx, hb, hml, hown, hts⟩ (cwV 1 hts gX6_published_X6_requirePublished rfl rfl rfl (by decide +kernel) ⟨Nat.le_of_ble_eq_true rfl, Nat.le_of_ble_eq_true rfl⟩) hE hX hex hlocks hP hD hS hA _ f0_off rfl rfl rfl rfl hl.1 (Nat.le_of_ble_eq_true rfl) dX6_published_2 ⟨Nat.le_of_ble_eq_true rfl, Nat.le_of_ble_eq_true rfl⟩ (Nat.le_of_ble_eq_true rfl) (Nat.le_of_ble_eq_true rfl)

theorem in_c_X6_published_RX6 : ∀ w ∈ wsX60, w ∈ wsX6_published := by decide +kernel
set_option maxHeartbeats 4000000 in
set_option maxRecDepth 100000 in
theorem c_X6_published (l : Launch) {D : va_G} {y : Nat → Nat} {ws : va_W} {x_off_1 : Value} {x_off_2 : Value} {x_off_3 : Value} {x_off_5 : Value} {x_off_6 : Value} {p_off p_num a_off a_num a_led : Nat} {num : Nat → Nat} {t : Nat} {nw : Nat} (f0_off : ws[p_off]? = some (a_off, .inr (7, [.ref a_led, x_off_1, x_off_2, x_off_3, .ref a_num, x_off_5, x_off_6, .int (nI (nw))]))) (f0_num : ws[p_num]? = some (a_num, eN y 24 num)) (b_num : ∀ k, num k ≤ 2147483647) (hw : nw ≤ 24) (ht : t < nw)  : gMi l yX6_published wsX6_published ({ frames := 1, cells := 0, slots := 0, locals := 21 }) D y [.ref a_off, .int (nI (t))] ws (fun r (_ : Unit) => r = nI (num t)) (fun (_ : Unit) => ws) := by
  refine g_met_i (cc := cX6_published) (maxL := 2) (by decide) rfl (Nat.le_of_ble_eq_true rfl) ?_
  intro p e s m below meth c A hx hb hml hr hts hown hnm hlocks hE hP hD hS hA ls hl
  have hown : s.vm.findClass RX6 = some m.cls := hown
  have hl : lv_has ls 2 [(0, .ref a_off), (1, .int (nI (t)))] := hl
  have in_RX6 := in_c_X6_published_RX6
  refine lv_aload_n hx hb dX6_published_0 rfl (lv_at hl 0 rfl) ?_
  refine lv_iload_n hx hb dX6_published_1 rfl (lv_at hl 1 rfl) ?_
  refine gc_V_v (As := [.int (nI (t))]) (rest := []) (c_X6_requirePublished l f0_off (rq_lt ht (by omega))) ⟨hx, hb, hml, hown, hts⟩ (cwV 1 hts gX6_published_X6_requirePublished rfl rfl rfl (by decide +kernel) ⟨Nat.le_of_ble_eq_true rfl, Nat.le_of_ble_eq_true rfl⟩) hE hP hD hS hA _ f0_off rfl rfl rfl rfl hl.1 (Nat.le_of_ble_eq_true rfl) dX6_published_2 ⟨Nat.le_of_ble_eq_true rfl, Nat.le_of_ble_eq_true rfl⟩ (fun u_2 H locs hP hD hS q_2 => ?_)
  refine lv_aload_n hx hb dX6_published_5 rfl (lv_at hl 0 rfl) ?_
  refine va_get (D := D) (ci := 7) (v := .ref a_num) (C := RX6) (T := TX6) (N := 8) hx hb hts in_RX6 hown hE.1 (gv1 hP f0_off) 0 rfl rfl 4 (by decide) (hts (.fieldLink RX6 35 "BasketryOffice" "numbers" "[I") (by decide +kernel)) (fun _ h9 => h9) rfl dX6_published_6 ?_
  refine lv_iload_n hx hb dX6_published_9 rfl (lv_at hl 1 rfl) ?_
  refine g_nald hx hb hE hP _ f0_num (by omega) (by decide) dX6_published_10 ?_
  have bd_10_1 := b_num (t)
  refine g_iret hx hb hr hlocks () dX6_published_11 hS hP hD ?_
  exact rfl

set_option maxHeartbeats 4000000 in
set_option maxRecDepth 100000 in
theorem x0_X6_core (l : Launch) {D : va_G} {y : Nat → Nat} {ws : va_W} {x_off_1 : Value} {x_off_3 : Value} {x_off_4 : Value} {x_off_5 : Value} {x_off_6 : Value} {p_off a_off a_led a_ser : Nat} {t : Int32} {nw : Nat} (f0_off : ws[p_off]? = some (a_off, .inr (7, [.ref a_led, x_off_1, .ref a_ser, x_off_3, x_off_4, x_off_5, x_off_6, .int (nI (nw))]))) (hfl : l.stackTraces = false) (hw : nw ≤ 24)  (hbad : t < 0 ∨ nI nw ≤ t) : gMxd l yX6_core wsX6_core ({ frames := 7, cells := 1, slots := 6, locals := 121 }) D y [.ref a_off, .int (t)] ws "java/lang/IndexOutOfBoundsException" := by
  refine g_metx_d (cc := cX6_core) (maxL := 2) (by decide) rfl (Nat.le_of_ble_eq_true rfl) ?_
  intro p e s m below meth c A hx hb hml hr hts hown hnm hlocks hE hP hD hS hA hex hX ls hl
  have hown : s.vm.findClass RX6 = some m.cls := hown
  have hl : lv_has ls 2 [(0, .ref a_off), (1, .int (t))] := hl
  refine lv_aload_n hx hb dX6_core_0 rfl (lv_at hl 0 rfl) ?_
  refine lv_iload_n hx hb dX6_core_1 rfl (lv_at hl 1 rfl) ?_
  exact gcx_V_v (As := [.int (t)]) (rest := []) (x_X6_requirePublished l f0_off hfl hbad) ⟨hx, hb, hml, hown, hts⟩ (cwV 1 hts gX6_core_X6_requirePublished rfl rfl rfl (by decide +kernel) ⟨Nat.le_of_ble_eq_true rfl, Nat.le_of_ble_eq_true rfl⟩) hE hX hex hlocks hP hD hS hA _ f0_off rfl rfl rfl rfl hl.1 (Nat.le_of_ble_eq_true rfl) dX6_core_2 ⟨Nat.le_of_ble_eq_true rfl, Nat.le_of_ble_eq_true rfl⟩ (Nat.le_of_ble_eq_true rfl) (Nat.le_of_ble_eq_true rfl)

theorem in_c_X6_core_RX6 : ∀ w ∈ wsX60, w ∈ wsX6_core := by decide +kernel
set_option maxHeartbeats 4000000 in
set_option maxRecDepth 100000 in
theorem c_X6_core (l : Launch) {D : va_G} {y : Nat → Nat} {ws : va_W} {x_off_1 : Value} {x_off_3 : Value} {x_off_4 : Value} {x_off_5 : Value} {x_off_6 : Value} {x_ser_0 : Value} {x_ser_1 : Value} {x_ser_2 : Value} {x_ser_3 : Value} {x_ser_4 : Value} {x_ser_6 : Value} {x_ser_7 : Value} {p_off p_ser p_grp a_off a_ser a_grp a_led : Nat} {grp : Nat → UInt64} {t : Nat} {nw : Nat} (f0_off : ws[p_off]? = some (a_off, .inr (7, [.ref a_led, x_off_1, .ref a_ser, x_off_3, x_off_4, x_off_5, x_off_6, .int (nI (nw))]))) (f0_ser : ws[p_ser]? = some (a_ser, .inr (4, [x_ser_0, x_ser_1, x_ser_2, x_ser_3, x_ser_4, .ref a_grp, x_ser_6, x_ser_7]))) (f0_grp : ws[p_grp]? = some (a_grp, eD y 96 grp)) (hw : nw ≤ 24) (ht : t < nw) (hnn : nnCore grp t) : gMd l yX6_core wsX6_core ({ frames := 2, cells := 0, slots := 0, locals := 48 }) D y [.ref a_off, .int (nI (t))] ws (fun r (_ : Unit) => r = sCore grp t) (fun (_ : Unit) => ws) := by
  refine g_met_d (cc := cX6_core) (maxL := 2) (by decide) rfl (Nat.le_of_ble_eq_true rfl) ?_
  intro p e s m below meth c A hx hb hml hr hts hown hnm hlocks hE hP hD hS hA ls hl
  have hown : s.vm.findClass RX6 = some m.cls := hown
  have hl : lv_has ls 2 [(0, .ref a_off), (1, .int (nI (t)))] := hl
  have in_RX6 := in_c_X6_core_RX6
  refine lv_aload_n hx hb dX6_core_0 rfl (lv_at hl 0 rfl) ?_
  refine lv_iload_n hx hb dX6_core_1 rfl (lv_at hl 1 rfl) ?_
  refine gc_V_v (As := [.int (nI (t))]) (rest := []) (c_X6_requirePublished l f0_off (rq_lt ht (by omega))) ⟨hx, hb, hml, hown, hts⟩ (cwV 1 hts gX6_core_X6_requirePublished rfl rfl rfl (by decide +kernel) ⟨Nat.le_of_ble_eq_true rfl, Nat.le_of_ble_eq_true rfl⟩) hE hP hD hS hA _ f0_off rfl rfl rfl rfl hl.1 (Nat.le_of_ble_eq_true rfl) dX6_core_2 ⟨Nat.le_of_ble_eq_true rfl, Nat.le_of_ble_eq_true rfl⟩ (fun u_2 H locs hP hD hS q_2 => ?_)
  refine lv_aload_n hx hb dX6_core_5 rfl (lv_at hl 0 rfl) ?_
  refine va_get (D := D) (ci := 7) (v := .ref a_ser) (C := RX6) (T := TX6) (N := 8) hx hb hts in_RX6 hown hE.1 (gv1 hP f0_off) 0 rfl rfl 2 (by decide) (hts (.fieldLink RX6 28 "BasketryOffice" "asPublished" "LBasketryOffice$Series;") (by decide +kernel)) (fun _ h9 => h9) rfl dX6_core_6 ?_
  refine lv_iload_n hx hb dX6_core_9 rfl (lv_at hl 1 rfl) ?_
  refine gc_V_d (As := [.int (nI (t))]) (rest := []) (c_X3_coreOf l f0_ser f0_grp (by omega) hnn) ⟨hx, hb, hml, hown, hts⟩ (cwV 1 hts gX6_core_X3_coreOf rfl rfl rfl (by decide +kernel) ⟨Nat.le_of_ble_eq_true rfl, Nat.le_of_ble_eq_true rfl⟩) hE hP hD hS hA _ f0_ser rfl rfl rfl rfl hl.1 (Nat.le_of_ble_eq_true rfl) dX6_core_10 ⟨Nat.le_of_ble_eq_true rfl, Nat.le_of_ble_eq_true rfl⟩ (fun r_10 u_10 H locs hP hD hS q_10 => ?_)
  subst q_10
  refine g_dret hx hb hr hlocks () dX6_core_13 hS hP hD ?_
  exact rfl

set_option maxHeartbeats 4000000 in
set_option maxRecDepth 100000 in
theorem x0_X6_direct (l : Launch) {D : va_G} {y : Nat → Nat} {ws : va_W} {x_off_1 : Value} {x_off_3 : Value} {x_off_4 : Value} {x_off_5 : Value} {x_off_6 : Value} {p_off a_off a_led a_ser : Nat} {t : Int32} {nw : Nat} (f0_off : ws[p_off]? = some (a_off, .inr (7, [.ref a_led, x_off_1, .ref a_ser, x_off_3, x_off_4, x_off_5, x_off_6, .int (nI (nw))]))) (hfl : l.stackTraces = false) (hw : nw ≤ 24)  (hbad : t < 0 ∨ nI nw ≤ t) : gMxd l yX6_direct wsX6_direct ({ frames := 7, cells := 1, slots := 6, locals := 121 }) D y [.ref a_off, .int (t)] ws "java/lang/IndexOutOfBoundsException" := by
  refine g_metx_d (cc := cX6_direct) (maxL := 2) (by decide) rfl (Nat.le_of_ble_eq_true rfl) ?_
  intro p e s m below meth c A hx hb hml hr hts hown hnm hlocks hE hP hD hS hA hex hX ls hl
  have hown : s.vm.findClass RX6 = some m.cls := hown
  have hl : lv_has ls 2 [(0, .ref a_off), (1, .int (t))] := hl
  refine lv_aload_n hx hb dX6_direct_0 rfl (lv_at hl 0 rfl) ?_
  refine lv_iload_n hx hb dX6_direct_1 rfl (lv_at hl 1 rfl) ?_
  exact gcx_V_v (As := [.int (t)]) (rest := []) (x_X6_requirePublished l f0_off hfl hbad) ⟨hx, hb, hml, hown, hts⟩ (cwV 1 hts gX6_direct_X6_requirePublished rfl rfl rfl (by decide +kernel) ⟨Nat.le_of_ble_eq_true rfl, Nat.le_of_ble_eq_true rfl⟩) hE hX hex hlocks hP hD hS hA _ f0_off rfl rfl rfl rfl hl.1 (Nat.le_of_ble_eq_true rfl) dX6_direct_2 ⟨Nat.le_of_ble_eq_true rfl, Nat.le_of_ble_eq_true rfl⟩ (Nat.le_of_ble_eq_true rfl) (Nat.le_of_ble_eq_true rfl)

theorem in_c_X6_direct_RX6 : ∀ w ∈ wsX60, w ∈ wsX6_direct := by decide +kernel
set_option maxHeartbeats 4000000 in
set_option maxRecDepth 100000 in
theorem c_X6_direct (l : Launch) {D : va_G} {y : Nat → Nat} {ws : va_W} {x_off_1 : Value} {x_off_3 : Value} {x_off_4 : Value} {x_off_5 : Value} {x_off_6 : Value} {x_ser_0 : Value} {x_ser_2 : Value} {x_ser_3 : Value} {x_ser_4 : Value} {x_ser_6 : Value} {x_ser_7 : Value} {x_spd_0 : Value} {x_spd_1 : Value} {p_off p_ser p_spd p_grp p_shr a_off a_ser a_spd a_grp a_shr a_led : Nat} {grp : Nat → UInt64} {shr : Nat → UInt64} {t : Nat} {nw : Nat} (f0_off : ws[p_off]? = some (a_off, .inr (7, [.ref a_led, x_off_1, .ref a_ser, x_off_3, x_off_4, x_off_5, x_off_6, .int (nI (nw))]))) (f0_ser : ws[p_ser]? = some (a_ser, .inr (4, [x_ser_0, .ref a_spd, x_ser_2, x_ser_3, x_ser_4, .ref a_grp, x_ser_6, x_ser_7]))) (f0_spd : ws[p_spd]? = some (a_spd, .inr (5, [x_spd_0, x_spd_1, .ref a_shr]))) (f0_grp : ws[p_grp]? = some (a_grp, eD y 96 grp)) (f0_shr : ws[p_shr]? = some (a_shr, eD y 480 shr)) (hw : nw ≤ 24) (ht : t < nw) (hnn : nnDirect shr grp t) : gMd l yX6_direct wsX6_direct ({ frames := 2, cells := 0, slots := 0, locals := 50 }) D y [.ref a_off, .int (nI (t))] ws (fun r (_ : Unit) => r = sDirect shr grp t) (fun (_ : Unit) => ws) := by
  refine g_met_d (cc := cX6_direct) (maxL := 2) (by decide) rfl (Nat.le_of_ble_eq_true rfl) ?_
  intro p e s m below meth c A hx hb hml hr hts hown hnm hlocks hE hP hD hS hA ls hl
  have hown : s.vm.findClass RX6 = some m.cls := hown
  have hl : lv_has ls 2 [(0, .ref a_off), (1, .int (nI (t)))] := hl
  have in_RX6 := in_c_X6_direct_RX6
  refine lv_aload_n hx hb dX6_direct_0 rfl (lv_at hl 0 rfl) ?_
  refine lv_iload_n hx hb dX6_direct_1 rfl (lv_at hl 1 rfl) ?_
  refine gc_V_v (As := [.int (nI (t))]) (rest := []) (c_X6_requirePublished l f0_off (rq_lt ht (by omega))) ⟨hx, hb, hml, hown, hts⟩ (cwV 1 hts gX6_direct_X6_requirePublished rfl rfl rfl (by decide +kernel) ⟨Nat.le_of_ble_eq_true rfl, Nat.le_of_ble_eq_true rfl⟩) hE hP hD hS hA _ f0_off rfl rfl rfl rfl hl.1 (Nat.le_of_ble_eq_true rfl) dX6_direct_2 ⟨Nat.le_of_ble_eq_true rfl, Nat.le_of_ble_eq_true rfl⟩ (fun u_2 H locs hP hD hS q_2 => ?_)
  refine lv_aload_n hx hb dX6_direct_5 rfl (lv_at hl 0 rfl) ?_
  refine va_get (D := D) (ci := 7) (v := .ref a_ser) (C := RX6) (T := TX6) (N := 8) hx hb hts in_RX6 hown hE.1 (gv1 hP f0_off) 0 rfl rfl 2 (by decide) (hts (.fieldLink RX6 28 "BasketryOffice" "asPublished" "LBasketryOffice$Series;") (by decide +kernel)) (fun _ h9 => h9) rfl dX6_direct_6 ?_
  refine lv_iload_n hx hb dX6_direct_9 rfl (lv_at hl 1 rfl) ?_
  refine gc_V_d (As := [.int (nI (t))]) (rest := []) (c_X3_directOf l f0_ser f0_spd f0_grp f0_shr (by omega) hnn) ⟨hx, hb, hml, hown, hts⟩ (cwV 1 hts gX6_direct_X3_directOf rfl rfl rfl (by decide +kernel) ⟨Nat.le_of_ble_eq_true rfl, Nat.le_of_ble_eq_true rfl⟩) hE hP hD hS hA _ f0_ser rfl rfl rfl rfl hl.1 (Nat.le_of_ble_eq_true rfl) dX6_direct_10 ⟨Nat.le_of_ble_eq_true rfl, Nat.le_of_ble_eq_true rfl⟩ (fun r_10 u_10 H locs hP hD hS q_10 => ?_)
  subst q_10
  refine g_dret hx hb hr hlocks () dX6_direct_13 hS hP hD ?_
  exact rfl
