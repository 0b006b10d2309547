set_option maxHeartbeats 4000000 in
set_option maxRecDepth 100000 in
theorem c_X6_requireGroup (l : Launch) {D : va_G} {y : Nat → Nat} {ws : va_W}  {x : Int32} (h : ¬ (x < 0 ∨ nI 4 ≤ x)) : gMv l yX6_requireGroup wsX6_requireGroup ({ frames := 0, cells := 0, slots := 0, locals := 0 }) D y [.int (x)] ws (fun (_ : Unit) => True) (fun (_ : Unit) => ws) := by
  refine g_met_v (cc := cX6_requireGroup) (maxL := 1) (by decide) rfl (Nat.le_of_ble_eq_true rfl) ?_
  intro p e s m below meth c A hx hb hml hr hts hown hnm hlocks hE hP hD hS hA ls hl
  have hown : s.vm.findClass RX6 = some m.cls := hown
  have hl : lv_has ls 1 [(0, .int (x))] := hl
  refine lv_iload_n hx hb dX6_requireGroup_0 rfl (lv_at hl 0 rfl) ?_
  refine lv_if_lt (tgt := 9) hx hb dX6_requireGroup_1 (by decide) (fun c_1 => absurd c_1 (fun z => h (Or.inl z))) (fun c_1 => ?_)
  refine lv_iload_n hx hb dX6_requireGroup_4 rfl (lv_at hl 0 rfl) ?_
  refine lv_iconst (v := nI 4) hx hb dX6_requireGroup_5 (by decide) ?_
  refine lv_icmp_lt (tgt := 19) hx hb dX6_requireGroup_6 (by decide) (fun c_6 => ?_) (fun c_6 => absurd c_6 (fun z => z (Int32.not_le.mp (fun w => h (Or.inr w)))))
  refine g_vret hx hb hr hlocks () dX6_requireGroup_19 hS hP hD ?_
  exact trivial

theorem inx_x_X6_requireGroup_137 : ∀ w ∈ (vx_atS RX6 137 "java/lang/IndexOutOfBoundsException" ["java/lang/RuntimeException", "java/lang/Exception"]).filter goodWord, w ∈ wsX6_requireGroup := by decide +kernel
set_option maxHeartbeats 4000000 in
set_option maxRecDepth 100000 in
theorem x_X6_requireGroup (l : Launch) {D : va_G} {y : Nat → Nat} {ws : va_W}  {x : Int32} (hfl : l.stackTraces = false) (h : x < 0 ∨ nI 4 ≤ x) : gMxv l yX6_requireGroup wsX6_requireGroup ({ frames := 6, cells := 1, slots := 6, locals := 100 }) D y [.int (x)] ws "java/lang/IndexOutOfBoundsException" := by
  refine g_metx_v (cc := cX6_requireGroup) (maxL := 1) (by decide) rfl (Nat.le_of_ble_eq_true rfl) ?_
  intro p e s m below meth c A hx hb hml hr hts hown hnm hlocks hE hP hD hS hA hex hX ls hl
  have hown : s.vm.findClass RX6 = some m.cls := hown
  have hl : lv_has ls 1 [(0, .int (x))] := hl
  refine lv_iload_n hx hb dX6_requireGroup_0 rfl (lv_at hl 0 rfl) ?_
  refine lv_if_lt (tgt := 9) hx hb dX6_requireGroup_1 (by decide) (fun c_1 => ?_) (fun c_1 => ?_)
  · exact g_throwS hx hb hfl (cls := "java/lang/IndexOutOfBoundsException") (text := "no such group") (names := ["java/lang/RuntimeException", "java/lang/Exception"]) (ik := 133) (is := 250) (ic := 137) hown (by decide +kernel) htex_137 (hts (.classLink RX6 133 "java/lang/IndexOutOfBoundsException") (by decide +kernel)) (hts (.initialized "java/lang/IndexOutOfBoundsException") (by decide +kernel)) (by decide +kernel) (fun w hw => hts w (inx_x_X6_requireGroup_137 w hw)) hat2_137 (vx_c (va_Nw.use rfl (hE.2 _ hnest_137)) (vx_c (va_Nw.use rfl (hE.2 _ hnest_r)) (vx_c (va_Nw.use rfl (hE.2 _ hnest_e)) (vx_c (va_Nw.use rfl (hE.2 _ hnest_t)) vx_n)))) hgood_137 hX hS hP hD (hl.1.trans hml.symm) hex hlocks dX6_requireGroup_9 dX6_requireGroup_12 dX6_requireGroup_13 dX6_requireGroup_15 dX6_requireGroup_18 (Nat.le_of_ble_eq_true rfl) (Nat.le_of_ble_eq_true rfl) (Nat.le_of_ble_eq_true rfl) (Nat.le_of_ble_eq_true rfl) (Nat.le_of_ble_eq_true rfl) (Nat.le_of_ble_eq_true rfl)
  · refine lv_iload_n hx hb dX6_requireGroup_4 rfl (lv_at hl 0 rfl) ?_
    refine lv_iconst (v := nI 4) hx hb dX6_requireGroup_5 (by decide) ?_
    refine lv_icmp_lt (tgt := 19) hx hb dX6_requireGroup_6 (by decide) (fun c_6 => absurd c_6 (Int32.not_lt.mpr (h.resolve_left c_1))) (fun c_6 => ?_)
    exact g_throwS hx hb hfl (cls := "java/lang/IndexOutOfBoundsException") (text := "no such group") (names := ["java/lang/RuntimeException", "java/lang/Exception"]) (ik := 133) (is := 250) (ic := 137) hown (by decide +kernel) htex_137 (hts (.classLink RX6 133 "java/lang/IndexOutOfBoundsException") (by decide +kernel)) (hts (.initialized "java/lang/IndexOutOfBoundsException") (by decide +kernel)) (by decide +kernel) (fun w hw => hts w (inx_x_X6_requireGroup_137 w hw)) hat2_137 (vx_c (va_Nw.use rfl (hE.2 _ hnest_137)) (vx_c (va_Nw.use rfl (hE.2 _ hnest_r)) (vx_c (va_Nw.use rfl (hE.2 _ hnest_e)) (vx_c (va_Nw.use rfl (hE.2 _ hnest_t)) vx_n)))) hgood_137 hX hS hP hD (hl.1.trans hml.symm) hex hlocks dX6_requireGroup_9 dX6_requireGroup_12 dX6_requireGroup_13 dX6_requireGroup_15 dX6_requireGroup_18 (Nat.le_of_ble_eq_true rfl) (Nat.le_of_ble_eq_true rfl) (Nat.le_of_ble_eq_true rfl) (Nat.le_of_ble_eq_true rfl) (Nat.le_of_ble_eq_true rfl) (Nat.le_of_ble_eq_true rfl)

set_option maxHeartbeats 4000000 in
set_option maxRecDepth 100000 in
theorem c_X6_requireOutlet (l : Launch) {D : va_G} {y : Nat → Nat} {ws : va_W}  {x : Int32} (h : ¬ (x < 0 ∨ nI 4 ≤ x)) : gMv l yX6_requireOutlet wsX6_requireOutlet ({ frames := 0, cells := 0, slots := 0, locals := 0 }) D y [.int (x)] ws (fun (_ : Unit) => True) (fun (_ : Unit) => ws) := by
  refine g_met_v (cc := cX6_requireOutlet) (maxL := 1) (by decide) rfl (Nat.le_of_ble_eq_true rfl) ?_
  intro p e s m below meth c A hx hb hml hr hts hown hnm hlocks hE hP hD hS hA ls hl
  have hown : s.vm.findClass RX6 = some m.cls := hown
  have hl : lv_has ls 1 [(0, .int (x))] := hl
  refine lv_iload_n hx hb dX6_requireOutlet_0 rfl (lv_at hl 0 rfl) ?_
  refine lv_if_lt (tgt := 9) hx hb dX6_requireOutlet_1 (by decide) (fun c_1 => absurd c_1 (fun z => h (Or.inl z))) (fun c_1 => ?_)
  refine lv_iload_n hx hb dX6_requireOutlet_4 rfl (lv_at hl 0 rfl) ?_
  refine lv_iconst (v := nI 4) hx hb dX6_requireOutlet_5 (by decide) ?_
  refine lv_icmp_lt (tgt := 19) hx hb dX6_requireOutlet_6 (by decide) (fun c_6 => ?_) (fun c_6 => absurd c_6 (fun z => z (Int32.not_le.mp (fun w => h (Or.inr w)))))
  refine g_vret hx hb hr hlocks () dX6_requireOutlet_19 hS hP hD ?_
  exact trivial

theorem inx_x_X6_requireOutlet_137 : ∀ w ∈ (vx_atS RX6 137 "java/lang/IndexOutOfBoundsException" ["java/lang/RuntimeException", "java/lang/Exception"]).filter goodWord, w ∈ wsX6_requireOutlet := by decide +kernel
set_option maxHeartbeats 4000000 in
set_option maxRecDepth 100000 in
theorem x_X6_requireOutlet (l : Launch) {D : va_G} {y : Nat → Nat} {ws : va_W}  {x : Int32} (hfl : l.stackTraces = false) (h : x < 0 ∨ nI 4 ≤ x) : gMxv l yX6_requireOutlet wsX6_requireOutlet ({ frames := 6, cells := 1, slots := 6, locals := 100 }) D y [.int (x)] ws "java/lang/IndexOutOfBoundsException" := by
  refine g_metx_v (cc := cX6_requireOutlet) (maxL := 1) (by decide) rfl (Nat.le_of_ble_eq_true rfl) ?_
  intro p e s m below meth c A hx hb hml hr hts hown hnm hlocks hE hP hD hS hA hex hX ls hl
  have hown : s.vm.findClass RX6 = some m.cls := hown
  have hl : lv_has ls 1 [(0, .int (x))] := hl
  refine lv_iload_n hx hb dX6_requireOutlet_0 rfl (lv_at hl 0 rfl) ?_
  refine lv_if_lt (tgt := 9) hx hb dX6_requireOutlet_1 (by decide) (fun c_1 => ?_) (fun c_1 => ?_)
  · exact g_throwS hx hb hfl (cls := "java/lang/IndexOutOfBoundsException") (text := "no such outlet") (names := ["java/lang/RuntimeException", "java/lang/Exception"]) (ik := 133) (is := 252) (ic := 137) hown (by decide +kernel) htex_137 (hts (.classLink RX6 133 "java/lang/IndexOutOfBoundsException") (by decide +kernel)) (hts (.initialized "java/lang/IndexOutOfBoundsException") (by decide +kernel)) (by decide +kernel) (fun w hw => hts w (inx_x_X6_requireOutlet_137 w hw)) hat2_137 (vx_c (va_Nw.use rfl (hE.2 _ hnest_137)) (vx_c (va_Nw.use rfl (hE.2 _ hnest_r)) (vx_c (va_Nw.use rfl (hE.2 _ hnest_e)) (vx_c (va_Nw.use rfl (hE.2 _ hnest_t)) vx_n)))) hgood_137 hX hS hP hD (hl.1.trans hml.symm) hex hlocks dX6_requireOutlet_9 dX6_requireOutlet_12 dX6_requireOutlet_13 dX6_requireOutlet_15 dX6_requireOutlet_18 (Nat.le_of_ble_eq_true rfl) (Nat.le_of_ble_eq_true rfl) (Nat.le_of_ble_eq_true rfl) (Nat.le_of_ble_eq_true rfl) (Nat.le_of_ble_eq_true rfl) (Nat.le_of_ble_eq_true rfl)
  · refine lv_iload_n hx hb dX6_requireOutlet_4 rfl (lv_at hl 0 rfl) ?_
    refine lv_iconst (v := nI 4) hx hb dX6_requireOutlet_5 (by decide) ?_
    refine lv_icmp_lt (tgt := 19) hx hb dX6_requireOutlet_6 (by decide) (fun c_6 => absurd c_6 (Int32.not_lt.mpr (h.resolve_left c_1))) (fun c_6 => ?_)
    exact g_throwS hx hb hfl (cls := "java/lang/IndexOutOfBoundsException") (text := "no such outlet") (names := ["java/lang/RuntimeException", "java/lang/Exception"]) (ik := 133) (is := 252) (ic := 137) hown (by decide +kernel) htex_137 (hts (.classLink RX6 133 "java/lang/IndexOutOfBoundsException") (by decide +kernel)) (hts (.initialized "java/lang/IndexOutOfBoundsException") (by decide +kernel)) (by decide +kernel) (fun w hw => hts w (inx_x_X6_requireOutlet_137 w hw)) hat2_137 (vx_c (va_Nw.use rfl (hE.2 _ hnest_137)) (vx_c (va_Nw.use rfl (hE.2 _ hnest_r)) (vx_c (va_Nw.use rfl (hE.2 _ hnest_e)) (vx_c (va_Nw.use rfl (hE.2 _ hnest_t)) vx_n)))) hgood_137 hX hS hP hD (hl.1.trans hml.symm) hex hlocks dX6_requireOutlet_9 dX6_requireOutlet_12 dX6_requireOutlet_13 dX6_requireOutlet_15 dX6_requireOutlet_18 (Nat.le_of_ble_eq_true rfl) (Nat.le_of_ble_eq_true rfl) (Nat.le_of_ble_eq_true rfl) (Nat.le_of_ble_eq_true rfl) (Nat.le_of_ble_eq_true rfl) (Nat.le_of_ble_eq_true rfl)

set_option maxHeartbeats 4000000 in
set_option maxRecDepth 100000 in
theorem c_X6_requireKind (l : Launch) {D : va_G} {y : Nat → Nat} {ws : va_W}  {x : Int32} (h : ¬ (x < 0 ∨ nI 5 ≤ x)) : gMv l yX6_requireKind wsX6_requireKind ({ frames := 0, cells := 0, slots := 0, locals := 0 }) D y [.int (x)] ws (fun (_ : Unit) => True) (fun (_ : Unit) => ws) := by
  refine g_met_v (cc := cX6_requireKind) (maxL := 1) (by decide) rfl (Nat.le_of_ble_eq_true rfl) ?_
  intro p e s m below meth c A hx hb hml hr hts hown hnm hlocks hE hP hD hS hA ls hl
  have hown : s.vm.findClass RX6 = some m.cls := hown
  have hl : lv_has ls 1 [(0, .int (x))] := hl
  refine lv_iload_n hx hb dX6_requireKind_0 rfl (lv_at hl 0 rfl) ?_
  refine lv_if_lt (tgt := 9) hx hb dX6_requireKind_1 (by decide) (fun c_1 => absurd c_1 (fun z => h (Or.inl z))) (fun c_1 => ?_)
  refine lv_iload_n hx hb dX6_requireKind_4 rfl (lv_at hl 0 rfl) ?_
  refine lv_iconst (v := nI 5) hx hb dX6_requireKind_5 (by decide) ?_
  refine lv_icmp_lt (tgt := 19) hx hb dX6_requireKind_6 (by decide) (fun c_6 => ?_) (fun c_6 => absurd c_6 (fun z => z (Int32.not_le.mp (fun w => h (Or.inr w)))))
  refine g_vret hx hb hr hlocks () dX6_requireKind_19 hS hP hD ?_
  exact trivial

theorem inx_x_X6_requireKind_137 : ∀ w ∈ (vx_atS RX6 137 "java/lang/IndexOutOfBoundsException" ["java/lang/RuntimeException", "java/lang/Exception"]).filter goodWord, w ∈ wsX6_requireKind := by decide +kernel
set_option maxHeartbeats 4000000 in
set_option maxRecDepth 100000 in
theorem x_X6_requireKind (l : Launch) {D : va_G} {y : Nat → Nat} {ws : va_W}  {x : Int32} (hfl : l.stackTraces = false) (h : x < 0 ∨ nI 5 ≤ x) : gMxv l yX6_requireKind wsX6_requireKind ({ frames := 6, cells := 1, slots := 6, locals := 100 }) D y [.int (x)] ws "java/lang/IndexOutOfBoundsException" := by
  refine g_metx_v (cc := cX6_requireKind) (maxL := 1) (by decide) rfl (Nat.le_of_ble_eq_true rfl) ?_
  intro p e s m below meth c A hx hb hml hr hts hown hnm hlocks hE hP hD hS hA hex hX ls hl
  have hown : s.vm.findClass RX6 = some m.cls := hown
  have hl : lv_has ls 1 [(0, .int (x))] := hl
  refine lv_iload_n hx hb dX6_requireKind_0 rfl (lv_at hl 0 rfl) ?_
  refine lv_if_lt (tgt := 9) hx hb dX6_requireKind_1 (by decide) (fun c_1 => ?_) (fun c_1 => ?_)
  · exact g_throwS hx hb hfl (cls := "java/lang/IndexOutOfBoundsException") (text := "no such kind of index") (names := ["java/lang/RuntimeException", "java/lang/Exception"]) (ik := 133) (is := 254) (ic := 137) hown (by decide +kernel) htex_137 (hts (.classLink RX6 133 "java/lang/IndexOutOfBoundsException") (by decide +kernel)) (hts (.initialized "java/lang/IndexOutOfBoundsException") (by decide +kernel)) (by decide +kernel) (fun w hw => hts w (inx_x_X6_requireKind_137 w hw)) hat2_137 (vx_c (va_Nw.use rfl (hE.2 _ hnest_137)) (vx_c (va_Nw.use rfl (hE.2 _ hnest_r)) (vx_c (va_Nw.use rfl (hE.2 _ hnest_e)) (vx_c (va_Nw.use rfl (hE.2 _ hnest_t)) vx_n)))) hgood_137 hX hS hP hD (hl.1.trans hml.symm) hex hlocks dX6_requireKind_9 dX6_requireKind_12 dX6_requireKind_13 dX6_requireKind_15 dX6_requireKind_18 (Nat.le_of_ble_eq_true rfl) (Nat.le_of_ble_eq_true rfl) (Nat.le_of_ble_eq_true rfl) (Nat.le_of_ble_eq_true rfl) (Nat.le_of_ble_eq_true rfl) (Nat.le_of_ble_eq_true rfl)
  · refine lv_iload_n hx hb dX6_requireKind_4 rfl (lv_at hl 0 rfl) ?_
    refine lv_iconst (v := nI 5) hx hb dX6_requireKind_5 (by decide) ?_
    refine lv_icmp_lt (tgt := 19) hx hb dX6_requireKind_6 (by decide) (fun c_6 => absurd c_6 (Int32.not_lt.mpr (h.resolve_left c_1))) (fun c_6 => ?_)
    exact g_throwS hx hb hfl (cls := "java/lang/IndexOutOfBoundsException") (text := "no such kind of index") (names := ["java/lang/RuntimeException", "java/lang/Exception"]) (ik := 133) (is := 254) (ic := 137) hown (by decide +kernel) htex_137 (hts (.classLink RX6 133 "java/lang/IndexOutOfBoundsException") (by decide +kernel)) (hts (.initialized "java/lang/IndexOutOfBoundsException") (by decide +kernel)) (by decide +kernel) (fun w hw => hts w (inx_x_X6_requireKind_137 w hw)) hat2_137 (vx_c (va_Nw.use rfl (hE.2 _ hnest_137)) (vx_c (va_Nw.use rfl (hE.2 _ hnest_r)) (vx_c (va_Nw.use rfl (hE.2 _ hnest_e)) (vx_c (va_Nw.use rfl (hE.2 _ hnest_t)) vx_n)))) hgood_137 hX hS hP hD (hl.1.trans hml.symm) hex hlocks dX6_requireKind_9 dX6_requireKind_12 dX6_requireKind_13 dX6_requireKind_15 dX6_requireKind_18 (Nat.le_of_ble_eq_true rfl) (Nat.le_of_ble_eq_true rfl) (Nat.le_of_ble_eq_true rfl) (Nat.le_of_ble_eq_true rfl) (Nat.le_of_ble_eq_true rfl) (Nat.le_of_ble_eq_true rfl)

theorem in_c_X6_requireItem_RX2 : ∀ w ∈ wsX20, w ∈ wsX6_requireItem := by decide +kernel
theorem in_c_X6_requireItem_RX6 : ∀ w ∈ wsX60, w ∈ wsX6_requireItem := by decide +kernel
set_option maxHeartbeats 4000000 in
set_option maxRecDepth 100000 in
theorem c_X6_requireItem (l : Launch) {D : va_G} {y : Nat → Nat} {ws : va_W} {x_off_1 : Value} {x_off_2 : Value} {x_off_3 : Value} {x_off_4 : Value} {x_off_5 : Value} {x_off_6 : Value} {x_off_7 : Value} {x_led_1 : Value} {x_led_2 : Value} {x_led_3 : Value} {x_led_4 : Value} {x_led_5 : Value} {x_led_6 : Value} {x_led_7 : Value} {x_led_8 : Value} {x_led_9 : Value} {x_itl_0 : Value} {p_off p_led p_itl a_off a_led a_itl a_ita : Nat} {x : Int32} {n : Nat} (f0_off : ws[p_off]? = some (a_off, .inr (7, [.ref a_led, x_off_1, x_off_2, x_off_3, x_off_4, x_off_5, x_off_6, x_off_7]))) (f0_led : ws[p_led]? = some (a_led, .inr (3, [.ref a_itl, x_led_1, x_led_2, x_led_3, x_led_4, x_led_5, x_led_6, x_led_7, x_led_8, x_led_9]))) (f0_itl : ws[p_itl]? = some (a_itl, .inr (0, [x_itl_0, .ref a_ita, .int (nI (n))]))) (h : ¬ (x < 0 ∨ nI n ≤ x)) : gMv l yX6_requireItem wsX6_requireItem ({ frames := 1, cells := 0, slots := 0, locals := 20 }) D y [.ref a_off, .int (x)] ws (fun (_ : Unit) => True) (fun (_ : Unit) => ws) := by
  refine g_met_v (cc := cX6_requireItem) (maxL := 2) (by decide) rfl (Nat.le_of_ble_eq_true rfl) ?_
  intro p e s m below meth c A hx hb hml hr hts hown hnm hlocks hE hP hD hS hA ls hl
  have hown : s.vm.findClass RX6 = some m.cls := hown
  have hl : lv_has ls 2 [(0, .ref a_off), (1, .int (x))] := hl
  have in_RX2 := in_c_X6_requireItem_RX2
  have in_RX6 := in_c_X6_requireItem_RX6
  refine lv_iload_n hx hb dX6_requireItem_0 rfl (lv_at hl 1 rfl) ?_
  refine lv_if_lt (tgt := 18) hx hb dX6_requireItem_1 (by decide) (fun c_1 => absurd c_1 (fun z => h (Or.inl z))) (fun c_1 => ?_)
  refine lv_iload_n hx hb dX6_requireItem_4 rfl (lv_at hl 1 rfl) ?_
  refine lv_aload_n hx hb dX6_requireItem_5 rfl (lv_at hl 0 rfl) ?_
  refine va_get (D := D) (ci := 7) (v := .ref a_led) (C := RX6) (T := TX6) (N := 8) hx hb hts in_RX6 hown hE.1 (gv1 hP f0_off) 0 rfl rfl 0 (by decide) (hts (.fieldLink RX6 12 "BasketryOffice" "ledger" "LBasketryOffice$Ledger;") (by decide +kernel)) (fun _ h9 => h9) rfl dX6_requireItem_6 ?_
  refine va_getN (D := D) (ci := 3) (v := .ref a_itl) (C := RX2) (T := TX2) (N := 10) hx hb hts in_RX2 hown hE.1 (gv1 hP f0_led) 0 rfl rfl 0 (by decide) (va_Nw.use rfl (hE.2 (.fieldLinkNest RX6 61 "BasketryOffice$Ledger" "items" "Ljava/util/ArrayList;" "BasketryOffice") (by decide +kernel))) (fun _ h9 => h9) rfl dX6_requireItem_9 ?_
  refine gc_V_i (As := []) (rest := [.int (x)]) (c_Jx4a65c_size_8abf5 l f0_itl) ⟨hx, hb, hml, hown, hts⟩ (cwV 0 hts gX6_requireItem_Jx4a65c_size_8abf5 rfl rfl rfl (by decide +kernel) ⟨Nat.le_of_ble_eq_true rfl, Nat.le_of_ble_eq_true rfl⟩) hE hP hD hS hA _ f0_itl rfl rfl rfl rfl hl.1 (Nat.le_of_ble_eq_true rfl) dX6_requireItem_12 ⟨Nat.le_of_ble_eq_true rfl, Nat.le_of_ble_eq_true rfl⟩ (fun r_12 u_12 H locs hP hD hS q_12 => ?_)
  subst q_12
  refine lv_icmp_lt (tgt := 29) hx hb dX6_requireItem_15 (by decide) (fun c_15 => ?_) (fun c_15 => absurd c_15 (fun z => z (Int32.not_le.mp (fun w => h (Or.inr w)))))
  refine g_vret hx hb hr hlocks () dX6_requireItem_29 hS hP hD ?_
  exact trivial

theorem in_x_X6_requireItem_RX2 : ∀ w ∈ wsX20, w ∈ wsX6_requireItem := by decide +kernel
theorem in_x_X6_requireItem_RX6 : ∀ w ∈ wsX60, w ∈ wsX6_requireItem := by decide +kernel
theorem inx_x_X6_requireItem_137 : ∀ w ∈ (vx_atS RX6 137 "java/lang/IndexOutOfBoundsException" ["java/lang/RuntimeException", "java/lang/Exception"]).filter goodWord, w ∈ wsX6_requireItem := by decide +kernel
set_option maxHeartbeats 4000000 in
set_option maxRecDepth 100000 in
theorem x_X6_requireItem (l : Launch) {D : va_G} {y : Nat → Nat} {ws : va_W} {x_off_1 : Value} {x_off_2 : Value} {x_off_3 : Value} {x_off_4 : Value} {x_off_5 : Value} {x_off_6 : Value} {x_off_7 : Value} {x_led_1 : Value} {x_led_2 : Value} {x_led_3 : Value} {x_led_4 : Value} {x_led_5 : Value} {x_led_6 : Value} {x_led_7 : Value} {x_led_8 : Value} {x_led_9 : Value} {x_itl_0 : Value} {p_off p_led p_itl a_off a_led a_itl a_ita : Nat} {x : Int32} {n : Nat} (f0_off : ws[p_off]? = some (a_off, .inr (7, [.ref a_led, x_off_1, x_off_2, x_off_3, x_off_4, x_off_5, x_off_6, x_off_7]))) (f0_led : ws[p_led]? = some (a_led, .inr (3, [.ref a_itl, x_led_1, x_led_2, x_led_3, x_led_4, x_led_5, x_led_6, x_led_7, x_led_8, x_led_9]))) (f0_itl : ws[p_itl]? = some (a_itl, .inr (0, [x_itl_0, .ref a_ita, .int (nI (n))]))) (hfl : l.stackTraces = false) (h : x < 0 ∨ nI n ≤ x) : gMxv l yX6_requireItem wsX6_requireItem ({ frames := 6, cells := 1, slots := 6, locals := 100 }) D y [.ref a_off, .int (x)] ws "java/lang/IndexOutOfBoundsException" := by
  refine g_metx_v (cc := cX6_requireItem) (maxL := 2) (by decide) rfl (Nat.le_of_ble_eq_true rfl) ?_
  intro p e s m below meth c A hx hb hml hr hts hown hnm hlocks hE hP hD hS hA hex hX ls hl
  have hown : s.vm.findClass RX6 = some m.cls := hown
  have hl : lv_has ls 2 [(0, .ref a_off), (1, .int (x))] := hl
  have in_RX2 := in_x_X6_requireItem_RX2
  have in_RX6 := in_x_X6_requireItem_RX6
  refine lv_iload_n hx hb dX6_requireItem_0 rfl (lv_at hl 1 rfl) ?_
  refine lv_if_lt (tgt := 18) hx hb dX6_requireItem_1 (by decide) (fun c_1 => ?_) (fun c_1 => ?_)
  · exact g_throwSW hx hb hfl (cls := "java/lang/IndexOutOfBoundsException") (text := "no such item") (names := ["java/lang/RuntimeException", "java/lang/Exception"]) (ik := 133) (is := 256) (ic := 137) hown (by decide +kernel) htex_137 (hts (.classLink RX6 133 "java/lang/IndexOutOfBoundsException") (by decide +kernel)) (hts (.initialized "java/lang/IndexOutOfBoundsException") (by decide +kernel)) (by decide +kernel) (fun w hw => hts w (inx_x_X6_requireItem_137 w hw)) hat2_137 (vx_c (va_Nw.use rfl (hE.2 _ hnest_137)) (vx_c (va_Nw.use rfl (hE.2 _ hnest_r)) (vx_c (va_Nw.use rfl (hE.2 _ hnest_e)) (vx_c (va_Nw.use rfl (hE.2 _ hnest_t)) vx_n)))) hgood_137 hX hS hP hD (hl.1.trans hml.symm) hex hlocks dX6_requireItem_18 dX6_requireItem_21 dX6_requireItem_22 dX6_requireItem_25 dX6_requireItem_28 (Nat.le_of_ble_eq_true rfl) (Nat.le_of_ble_eq_true rfl) (Nat.le_of_ble_eq_true rfl) (Nat.le_of_ble_eq_true rfl) (Nat.le_of_ble_eq_true rfl) (Nat.le_of_ble_eq_true rfl)
  · refine lv_iload_n hx hb dX6_requireItem_4 rfl (lv_at hl 1 rfl) ?_
    refine lv_aload_n hx hb dX6_requireItem_5 rfl (lv_at hl 0 rfl) ?_
    refine va_get (D := D) (ci := 7) (v := .ref a_led) (C := RX6) (T := TX6) (N := 8) hx hb hts in_RX6 hown hE.1 (gv1 hP f0_off) 0 rfl rfl 0 (by decide) (hts (.fieldLink RX6 12 "BasketryOffice" "ledger" "LBasketryOffice$Ledger;") (by decide +kernel)) (fun _ h9 => h9) rfl dX6_requireItem_6 ?_
    refine va_getN (D := D) (ci := 3) (v := .ref a_itl) (C := RX2) (T := TX2) (N := 10) hx hb hts in_RX2 hown hE.1 (gv1 hP f0_led) 0 rfl rfl 0 (by decide) (va_Nw.use rfl (hE.2 (.fieldLinkNest RX6 61 "BasketryOffice$Ledger" "items" "Ljava/util/ArrayList;" "BasketryOffice") (by decide +kernel))) (fun _ h9 => h9) rfl dX6_requireItem_9 ?_
    refine gc_V_i (As := []) (rest := [.int (x)]) (c_Jx4a65c_size_8abf5 l f0_itl) ⟨hx, hb, hml, hown, hts⟩ (cwV 0 hts gX6_requireItem_Jx4a65c_size_8abf5 rfl rfl rfl (by decide +kernel) ⟨Nat.le_of_ble_eq_true rfl, Nat.le_of_ble_eq_true rfl⟩) hE hP hD hS hA _ f0_itl rfl rfl rfl rfl hl.1 (Nat.le_of_ble_eq_true rfl) dX6_requireItem_12 ⟨Nat.le_of_ble_eq_true rfl, Nat.le_of_ble_eq_true rfl⟩ (fun r_12 u_12 H locs hP hD hS q_12 => ?_)
    subst q_12
    refine lv_icmp_lt (tgt := 29) hx hb dX6_requireItem_15 (by decide) (fun c_15 => absurd c_15 (Int32.not_lt.mpr (h.resolve_left c_1))) (fun c_15 => ?_)
    exact g_throwSW hx hb hfl (cls := "java/lang/IndexOutOfBoundsException") (text := "no such item") (names := ["java/lang/RuntimeException", "java/lang/Exception"]) (ik := 133) (is := 256) (ic := 137) hown (by decide +kernel) htex_137 (hts (.classLink RX6 133 "java/lang/IndexOutOfBoundsException") (by decide +kernel)) (hts (.initialized "java/lang/IndexOutOfBoundsException") (by decide +kernel)) (by decide +kernel) (fun w hw => hts w (inx_x_X6_requireItem_137 w hw)) hat2_137 (vx_c (va_Nw.use rfl (hE.2 _ hnest_137)) (vx_c (va_Nw.use rfl (hE.2 _ hnest_r)) (vx_c (va_Nw.use rfl (hE.2 _ hnest_e)) (vx_c (va_Nw.use rfl (hE.2 _ hnest_t)) vx_n)))) hgood_137 hX hS hP hD (hl.1.trans hml.symm) hex hlocks dX6_requireItem_18 dX6_requireItem_21 dX6_requireItem_22 dX6_requireItem_25 dX6_requireItem_28 (Nat.le_of_ble_eq_true rfl) (Nat.le_of_ble_eq_true rfl) (Nat.le_of_ble_eq_true rfl) (Nat.le_of_ble_eq_true rfl) (Nat.le_of_ble_eq_true rfl) (Nat.le_of_ble_eq_true rfl)

theorem in_c_X6_requireContract_RX6 : ∀ w ∈ wsX60, w ∈ wsX6_requireContract := by decide +kernel
set_option maxHeartbeats 4000000 in
set_option maxRecDepth 100000 in
theorem c_X6_requireContract (l : Launch) {D : va_G} {y : Nat → Nat} {ws : va_W} {x_off_0 : Value} {x_off_1 : Value} {x_off_2 : Value} {x_off_3 : Value} {x_off_4 : Value} {x_off_5 : Value} {x_off_7 : Value} {x_ctl_0 : Value} {p_off p_ctl a_off a_ctl a_cta : Nat} {x : Int32} {n : Nat} (f0_off : ws[p_off]? = some (a_off, .inr (7, [x_off_0, x_off_1, x_off_2, x_off_3, x_off_4, x_off_5, .ref a_ctl, x_off_7]))) (f0_ctl : ws[p_ctl]? = some (a_ctl, .inr (0, [x_ctl_0, .ref a_cta, .int (nI (n))]))) (h : ¬ (x < 0 ∨ nI n ≤ x)) : gMv l yX6_requireContract wsX6_requireContract ({ frames := 1, cells := 0, slots := 0, locals := 20 }) D y [.ref a_off, .int (x)] ws (fun (_ : Unit) => True) (fun (_ : Unit) => ws) := by
  refine g_met_v (cc := cX6_requireContract) (maxL := 2) (by decide) rfl (Nat.le_of_ble_eq_true rfl) ?_
  intro p e s m below meth c A hx hb hml hr hts hown hnm hlocks hE hP hD hS hA ls hl
  have hown : s.vm.findClass RX6 = some m.cls := hown
  have hl : lv_has ls 2 [(0, .ref a_off), (1, .int (x))] := hl
  have in_RX6 := in_c_X6_requireContract_RX6
  refine lv_iload_n hx hb dX6_requireContract_0 rfl (lv_at hl 1 rfl) ?_
  refine lv_if_lt (tgt := 15) hx hb dX6_requireContract_1 (by decide) (fun c_1 => absurd c_1 (fun z => h (Or.inl z))) (fun c_1 => ?_)
  refine lv_iload_n hx hb dX6_requireContract_4 rfl (lv_at hl 1 rfl) ?_
  refine lv_aload_n hx hb dX6_requireContract_5 rfl (lv_at hl 0 rfl) ?_
  refine va_get (D := D) (ci := 7) (v := .ref a_ctl) (C := RX6) (T := TX6) (N := 8) hx hb hts in_RX6 hown hE.1 (gv1 hP f0_off) 0 rfl rfl 6 (by decide) (hts (.fieldLink RX6 45 "BasketryOffice" "contracts" "Ljava/util/ArrayList;") (by decide +kernel)) (fun _ h9 => h9) rfl dX6_requireContract_6 ?_
  refine gc_V_i (As := []) (rest := [.int (x)]) (c_Jx4a65c_size_8abf5 l f0_ctl) ⟨hx, hb, hml, hown, hts⟩ (cwV 0 hts gX6_requireContract_Jx4a65c_size_8abf5 rfl rfl rfl (by decide +kernel) ⟨Nat.le_of_ble_eq_true rfl, Nat.le_of_ble_eq_true rfl⟩) hE hP hD hS hA _ f0_ctl rfl rfl rfl rfl hl.1 (Nat.le_of_ble_eq_true rfl) dX6_requireContract_9 ⟨Nat.le_of_ble_eq_true rfl, Nat.le_of_ble_eq_true rfl⟩ (fun r_9 u_9 H locs hP hD hS q_9 => ?_)
  subst q_9
  refine lv_icmp_lt (tgt := 26) hx hb dX6_requireContract_12 (by decide) (fun c_12 => ?_) (fun c_12 => absurd c_12 (fun z => z (Int32.not_le.mp (fun w => h (Or.inr w)))))
  refine g_vret hx hb hr hlocks () dX6_requireContract_26 hS hP hD ?_
  exact trivial

theorem in_x_X6_requireContract_RX6 : ∀ w ∈ wsX60, w ∈ wsX6_requireContract := by decide +kernel
theorem inx_x_X6_requireContract_137 : ∀ w ∈ (vx_atS RX6 137 "java/lang/IndexOutOfBoundsException" ["java/lang/RuntimeException", "java/lang/Exception"]).filter goodWord, w ∈ wsX6_requireContract := by decide +kernel
set_option maxHeartbeats 4000000 in
set_option maxRecDepth 100000 in
theorem x_X6_requireContract (l : Launch) {D : va_G} {y : Nat → Nat} {ws : va_W} {x_off_0 : Value} {x_off_1 : Value} {x_off_2 : Value} {x_off_3 : Value} {x_off_4 : Value} {x_off_5 : Value} {x_off_7 : Value} {x_ctl_0 : Value} {p_off p_ctl a_off a_ctl a_cta : Nat} {x : Int32} {n : Nat} (f0_off : ws[p_off]? = some (a_off, .inr (7, [x_off_0, x_off_1, x_off_2, x_off_3, x_off_4, x_off_5, .ref a_ctl, x_off_7]))) (f0_ctl : ws[p_ctl]? = some (a_ctl, .inr (0, [x_ctl_0, .ref a_cta, .int (nI (n))]))) (hfl : l.stackTraces = false) (h : x < 0 ∨ nI n ≤ x) : gMxv l yX6_requireContract wsX6_requireContract ({ frames := 6, cells := 1, slots := 6, locals := 100 }) D y [.ref a_off, .int (x)] ws "java/lang/IndexOutOfBoundsException" := by
  refine g_metx_v (cc := cX6_requireContract) (maxL := 2) (by decide) rfl (Nat.le_of_ble_eq_true rfl) ?_
  intro p e s m below meth c A hx hb hml hr hts hown hnm hlocks hE hP hD hS hA hex hX ls hl
  have hown : s.vm.findClass RX6 = some m.cls := hown
  have hl : lv_has ls 2 [(0, .ref a_off), (1, .int (x))] := hl
  have in_RX6 := in_x_X6_requireContract_RX6
  refine lv_iload_n hx hb dX6_requireContract_0 rfl (lv_at hl 1 rfl) ?_
  refine lv_if_lt (tgt := 15) hx hb dX6_requireContract_1 (by decide) (fun c_1 => ?_) (fun c_1 => ?_)
  · exact g_throwSW hx hb hfl (cls := "java/lang/IndexOutOfBoundsException") (text := "no such contract") (names := ["java/lang/RuntimeException", "java/lang/Exception"]) (ik := 133) (is := 258) (ic := 137) hown (by decide +kernel) htex_137 (hts (.classLink RX6 133 "java/lang/IndexOutOfBoundsException") (by decide +kernel)) (hts (.initialized "java/lang/IndexOutOfBoundsException") (by decide +kernel)) (by decide +kernel) (fun w hw => hts w (inx_x_X6_requireContract_137 w hw)) hat2_137 (vx_c (va_Nw.use rfl (hE.2 _ hnest_137)) (vx_c (va_Nw.use rfl (hE.2 _ hnest_r)) (vx_c (va_Nw.use rfl (hE.2 _ hnest_e)) (vx_c (va_Nw.use rfl (hE.2 _ hnest_t)) vx_n)))) hgood_137 hX hS hP hD (hl.1.trans hml.symm) hex hlocks dX6_requireContract_15 dX6_requireContract_18 dX6_requireContract_19 dX6_requireContract_22 dX6_requireContract_25 (Nat.le_of_ble_eq_true rfl) (Nat.le_of_ble_eq_true rfl) (Nat.le_of_ble_eq_true rfl) (Nat.le_of_ble_eq_true rfl) (Nat.le_of_ble_eq_true rfl) (Nat.le_of_ble_eq_true rfl)
  · refine lv_iload_n hx hb dX6_requireContract_4 rfl (lv_at hl 1 rfl) ?_
    refine lv_aload_n hx hb dX6_requireContract_5 rfl (lv_at hl 0 rfl) ?_
    refine va_get (D := D) (ci := 7) (v := .ref a_ctl) (C := RX6) (T := TX6) (N := 8) hx hb hts in_RX6 hown hE.1 (gv1 hP f0_off) 0 rfl rfl 6 (by decide) (hts (.fieldLink RX6 45 "BasketryOffice" "contracts" "Ljava/util/ArrayList;") (by decide +kernel)) (fun _ h9 => h9) rfl dX6_requireContract_6 ?_
    refine gc_V_i (As := []) (rest := [.int (x)]) (c_Jx4a65c_size_8abf5 l f0_ctl) ⟨hx, hb, hml, hown, hts⟩ (cwV 0 hts gX6_requireContract_Jx4a65c_size_8abf5 rfl rfl rfl (by decide +kernel) ⟨Nat.le_of_ble_eq_true rfl, Nat.le_of_ble_eq_true rfl⟩) hE hP hD hS hA _ f0_ctl rfl rfl rfl rfl hl.1 (Nat.le_of_ble_eq_true rfl) dX6_requireContract_9 ⟨Nat.le_of_ble_eq_true rfl, Nat.le_of_ble_eq_true rfl⟩ (fun r_9 u_9 H locs hP hD hS q_9 => ?_)
    subst q_9
    refine lv_icmp_lt (tgt := 26) hx hb dX6_requireContract_12 (by decide) (fun c_12 => absurd c_12 (Int32.not_lt.mpr (h.resolve_left c_1))) (fun c_12 => ?_)
    exact g_throwSW hx hb hfl (cls := "java/lang/IndexOutOfBoundsException") (text := "no such contract") (names := ["java/lang/RuntimeException", "java/lang/Exception"]) (ik := 133) (is := 258) (ic := 137) hown (by decide +kernel) htex_137 (hts (.classLink RX6 133 "java/lang/IndexOutOfBoundsException") (by decide +kernel)) (hts (.initialized "java/lang/IndexOutOfBoundsException") (by decide +kernel)) (by decide +kernel) (fun w hw => hts w (inx_x_X6_requireContract_137 w hw)) hat2_137 (vx_c (va_Nw.use rfl (hE.2 _ hnest_137)) (vx_c (va_Nw.use rfl (hE.2 _ hnest_r)) (vx_c (va_Nw.use rfl (hE.2 _ hnest_e)) (vx_c (va_Nw.use rfl (hE.2 _ hnest_t)) vx_n)))) hgood_137 hX hS hP hD (hl.1.trans hml.symm) hex hlocks dX6_requireContract_15 dX6_requireContract_18 dX6_requireContract_19 dX6_requireContract_22 dX6_requireContract_25 (Nat.le_of_ble_eq_true rfl) (Nat.le_of_ble_eq_true rfl) (Nat.le_of_ble_eq_true rfl) (Nat.le_of_ble_eq_true rfl) (Nat.le_of_ble_eq_true rfl) (Nat.le_of_ble_eq_true rfl)

theorem in_c_X6_requirePublished_RX6 : ∀ w ∈ wsX60, w ∈ wsX6_requirePublished := by decide +kernel
set_option maxHeartbeats 4000000 in
set_option maxRecDepth 100000 in
theorem c_X6_requirePublished (l : Launch) {D : va_G} {y : Nat → Nat} {ws : va_W} {x_off_0 : Value} {x_off_1 : Value} {x_off_2 : Value} {x_off_3 : Value} {x_off_4 : Value} {x_off_5 : Value} {x_off_6 : Value} {p_off a_off : Nat} {x : Int32} {nw : Nat} (f0_off : ws[p_off]? = some (a_off, .inr (7, [x_off_0, x_off_1, x_off_2, x_off_3, x_off_4, x_off_5, x_off_6, .int (nI (nw))]))) (h : ¬ (x < 0 ∨ nI nw ≤ x)) : gMv l yX6_requirePublished wsX6_requirePublished ({ frames := 0, cells := 0, slots := 0, locals := 0 }) D y [.ref a_off, .int (x)] ws (fun (_ : Unit) => True) (fun (_ : Unit) => ws) := by
  refine g_met_v (cc := cX6_requirePublished) (maxL := 2) (by decide) rfl (Nat.le_of_ble_eq_true rfl) ?_
  intro p e s m below meth c A hx hb hml hr hts hown hnm hlocks hE hP hD hS hA ls hl
  have hown : s.vm.findClass RX6 = some m.cls := hown
  have hl : lv_has ls 2 [(0, .ref a_off), (1, .int (x))] := hl
  have in_RX6 := in_c_X6_requirePublished_RX6
  refine lv_iload_n hx hb dX6_requirePublished_0 rfl (lv_at hl 1 rfl) ?_
  refine lv_if_lt (tgt := 12) hx hb dX6_requirePublished_1 (by decide) (fun c_1 => absurd c_1 (fun z => h (Or.inl z))) (fun c_1 => ?_)
  refine lv_iload_n hx hb dX6_requirePublished_4 rfl (lv_at hl 1 rfl) ?_
  refine lv_aload_n hx hb dX6_requirePublished_5 rfl (lv_at hl 0 rfl) ?_
  refine va_get (D := D) (ci := 7) (v := .int (nI (nw))) (C := RX6) (T := TX6) (N := 8) hx hb hts in_RX6 hown hE.1 (gv1 hP f0_off) 0 rfl rfl 7 (by decide) (hts (.fieldLink RX6 49 "BasketryOffice" "now" "I") (by decide +kernel)) (fun _ h9 => h9) rfl dX6_requirePublished_6 ?_
  refine lv_icmp_lt (tgt := 23) hx hb dX6_requirePublished_9 (by decide) (fun c_9 => ?_) (fun c_9 => absurd c_9 (fun z => z (Int32.not_le.mp (fun w => h (Or.inr w)))))
  refine g_vret hx hb hr hlocks () dX6_requirePublished_23 hS hP hD ?_
  exact trivial

theorem in_x_X6_requirePublished_RX6 : ∀ w ∈ wsX60, w ∈ wsX6_requirePublished := by decide +kernel
theorem inx_x_X6_requirePublished_137 : ∀ w ∈ (vx_atS RX6 137 "java/lang/IndexOutOfBoundsException" ["java/lang/RuntimeException", "java/lang/Exception"]).filter goodWord, w ∈ wsX6_requirePublished := by decide +kernel
set_option maxHeartbeats 4000000 in
set_option maxRecDepth 100000 in
theorem x_X6_requirePublished (l : Launch) {D : va_G} {y : Nat → Nat} {ws : va_W} {x_off_0 : Value} {x_off_1 : Value} {x_off_2 : Value} {x_off_3 : Value} {x_off_4 : Value} {x_off_5 : Value} {x_off_6 : Value} {p_off a_off : Nat} {x : Int32} {nw : Nat} (f0_off : ws[p_off]? = some (a_off, .inr (7, [x_off_0, x_off_1, x_off_2, x_off_3, x_off_4, x_off_5, x_off_6, .int (nI (nw))]))) (hfl : l.stackTraces = false) (h : x < 0 ∨ nI nw ≤ x) : gMxv l yX6_requirePublished wsX6_requirePublished ({ frames := 6, cells := 1, slots := 6, locals := 100 }) D y [.ref a_off, .int (x)] ws "java/lang/IndexOutOfBoundsException" := by
  refine g_metx_v (cc := cX6_requirePublished) (maxL := 2) (by decide) rfl (Nat.le_of_ble_eq_true rfl) ?_
  intro p e s m below meth c A hx hb hml hr hts hown hnm hlocks hE hP hD hS hA hex hX ls hl
  have hown : s.vm.findClass RX6 = some m.cls := hown
  have hl : lv_has ls 2 [(0, .ref a_off), (1, .int (x))] := hl
  have in_RX6 := in_x_X6_requirePublished_RX6
  refine lv_iload_n hx hb dX6_requirePublished_0 rfl (lv_at hl 1 rfl) ?_
  refine lv_if_lt (tgt := 12) hx hb dX6_requirePublished_1 (by decide) (fun c_1 => ?_) (fun c_1 => ?_)
  · exact g_throwSW hx hb hfl (cls := "java/lang/IndexOutOfBoundsException") (text := "the month is not published") (names := ["java/lang/RuntimeException", "java/lang/Exception"]) (ik := 133) (is := 260) (ic := 137) hown (by decide +kernel) htex_137 (hts (.classLink RX6 133 "java/lang/IndexOutOfBoundsException") (by decide +kernel)) (hts (.initialized "java/lang/IndexOutOfBoundsException") (by decide +kernel)) (by decide +kernel) (fun w hw => hts w (inx_x_X6_requirePublished_137 w hw)) hat2_137 (vx_c (va_Nw.use rfl (hE.2 _ hnest_137)) (vx_c (va_Nw.use rfl (hE.2 _ hnest_r)) (vx_c (va_Nw.use rfl (hE.2 _ hnest_e)) (vx_c (va_Nw.use rfl (hE.2 _ hnest_t)) vx_n)))) hgood_137 hX hS hP hD (hl.1.trans hml.symm) hex hlocks dX6_requirePublished_12 dX6_requirePublished_15 dX6_requirePublished_16 dX6_requirePublished_19 dX6_requirePublished_22 (Nat.le_of_ble_eq_true rfl) (Nat.le_of_ble_eq_true rfl) (Nat.le_of_ble_eq_true rfl) (Nat.le_of_ble_eq_true rfl) (Nat.le_of_ble_eq_true rfl) (Nat.le_of_ble_eq_true rfl)
  · refine lv_iload_n hx hb dX6_requirePublished_4 rfl (lv_at hl 1 rfl) ?_
    refine lv_aload_n hx hb dX6_requirePublished_5 rfl (lv_at hl 0 rfl) ?_
    refine va_get (D := D) (ci := 7) (v := .int (nI (nw))) (C := RX6) (T := TX6) (N := 8) hx hb hts in_RX6 hown hE.1 (gv1 hP f0_off) 0 rfl rfl 7 (by decide) (hts (.fieldLink RX6 49 "BasketryOffice" "now" "I") (by decide +kernel)) (fun _ h9 => h9) rfl dX6_requirePublished_6 ?_
    refine lv_icmp_lt (tgt := 23) hx hb dX6_requirePublished_9 (by decide) (fun c_9 => absurd c_9 (Int32.not_lt.mpr (h.resolve_left c_1))) (fun c_9 => ?_)
    exact g_throwSW hx hb hfl (cls := "java/lang/IndexOutOfBoundsException") (text := "the month is not published") (names := ["java/lang/RuntimeException", "java/lang/Exception"]) (ik := 133) (is := 260) (ic := 137) hown (by decide +kernel) htex_137 (hts (.classLink RX6 133 "java/lang/IndexOutOfBoundsException") (by decide +kernel)) (hts (.initialized "java/lang/IndexOutOfBoundsException") (by decide +kernel)) (by decide +kernel) (fun w hw => hts w (inx_x_X6_requirePublished_137 w hw)) hat2_137 (vx_c (va_Nw.use rfl (hE.2 _ hnest_137)) (vx_c (va_Nw.use rfl (hE.2 _ hnest_r)) (vx_c (va_Nw.use rfl (hE.2 _ hnest_e)) (vx_c (va_Nw.use rfl (hE.2 _ hnest_t)) vx_n)))) hgood_137 hX hS hP hD (hl.1.trans hml.symm) hex hlocks dX6_requirePublished_12 dX6_requirePublished_15 dX6_requirePublished_16 dX6_requirePublished_19 dX6_requirePublished_22 (Nat.le_of_ble_eq_true rfl) (Nat.le_of_ble_eq_true rfl) (Nat.le_of_ble_eq_true rfl) (Nat.le_of_ble_eq_true rfl) (Nat.le_of_ble_eq_true rfl) (Nat.le_of_ble_eq_true rfl)

set_option maxHeartbeats 4000000 in
set_option maxRecDepth 100000 in
theorem c_X6_requireRange (l : Launch) {D : va_G} {y : Nat → Nat} {ws : va_W}  {x : Int32} {lo hi : Nat} (h : ¬ (x < nI lo ∨ nI hi < x)) : gMv l yX6_requireRange wsX6_requireRange ({ frames := 0, cells := 0, slots := 0, locals := 0 }) D y [.int (x), .int (nI (lo)), .int (nI (hi))] ws (fun (_ : Unit) => True) (fun (_ : Unit) => ws) := by
  refine g_met_v (cc := cX6_requireRange) (maxL := 3) (by decide) rfl (Nat.le_of_ble_eq_true rfl) ?_
  intro p e s m below meth c A hx hb hml hr hts hown hnm hlocks hE hP hD hS hA ls hl
  have hown : s.vm.findClass RX6 = some m.cls := hown
  have hl : lv_has ls 3 [(0, .int (x)), (1, .int (nI (lo))), (2, .int (nI (hi)))] := hl
  refine lv_iload_n hx hb dX6_requireRange_0 rfl (lv_at hl 0 rfl) ?_
  refine lv_iload_n hx hb dX6_requireRange_1 rfl (lv_at hl 1 rfl) ?_
  refine lv_icmp_lt (tgt := 10) hx hb dX6_requireRange_2 (by decide) (fun c_2 => absurd c_2 (fun z => h (Or.inl z))) (fun c_2 => ?_)
  refine lv_iload_n hx hb dX6_requireRange_5 rfl (lv_at hl 0 rfl) ?_
  refine lv_iload_n hx hb dX6_requireRange_6 rfl (lv_at hl 2 rfl) ?_
  refine lv_icmp_le (tgt := 21) hx hb dX6_requireRange_7 (by decide) (fun c_7 => ?_) (fun c_7 => absurd c_7 (fun z => z (Int32.not_lt.mp (fun w => h (Or.inr w)))))
  refine g_vret hx hb hr hlocks () dX6_requireRange_21 hS hP hD ?_
  exact trivial

theorem inx_x_X6_requireRange_266 : ∀ w ∈ (vx_atS RX6 266 "java/lang/IllegalArgumentException" ["java/lang/RuntimeException", "java/lang/Exception"]).filter goodWord, w ∈ wsX6_requireRange := by decide +kernel
set_option maxHeartbeats 4000000 in
set_option maxRecDepth 100000 in
theorem x_X6_requireRange (l : Launch) {D : va_G} {y : Nat → Nat} {ws : va_W}  {x : Int32} {lo hi : Nat} (hfl : l.stackTraces = false) (h : x < nI lo ∨ nI hi < x) : gMxv l yX6_requireRange wsX6_requireRange ({ frames := 6, cells := 1, slots := 6, locals := 100 }) D y [.int (x), .int (nI (lo)), .int (nI (hi))] ws "java/lang/IllegalArgumentException" := by
  refine g_metx_v (cc := cX6_requireRange) (maxL := 3) (by decide) rfl (Nat.le_of_ble_eq_true rfl) ?_
  intro p e s m below meth c A hx hb hml hr hts hown hnm hlocks hE hP hD hS hA hex hX ls hl
  have hown : s.vm.findClass RX6 = some m.cls := hown
  have hl : lv_has ls 3 [(0, .int (x)), (1, .int (nI (lo))), (2, .int (nI (hi)))] := hl
  refine lv_iload_n hx hb dX6_requireRange_0 rfl (lv_at hl 0 rfl) ?_
  refine lv_iload_n hx hb dX6_requireRange_1 rfl (lv_at hl 1 rfl) ?_
  refine lv_icmp_lt (tgt := 10) hx hb dX6_requireRange_2 (by decide) (fun c_2 => ?_) (fun c_2 => ?_)
  · exact g_throwSW hx hb hfl (cls := "java/lang/IllegalArgumentException") (text := "an argument is out of range") (names := ["java/lang/RuntimeException", "java/lang/Exception"]) (ik := 262) (is := 264) (ic := 266) hown (by decide +kernel) htex_266 (hts (.classLink RX6 262 "java/lang/IllegalArgumentException") (by decide +kernel)) (hts (.initialized "java/lang/IllegalArgumentException") (by decide +kernel)) (by decide +kernel) (fun w hw => hts w (inx_x_X6_requireRange_266 w hw)) hat2_266 (vx_c (va_Nw.use rfl (hE.2 _ hnest_266)) (vx_c (va_Nw.use rfl (hE.2 _ hnest_r)) (vx_c (va_Nw.use rfl (hE.2 _ hnest_e)) (vx_c (va_Nw.use rfl (hE.2 _ hnest_t)) vx_n)))) hgood_266 hX hS hP hD (hl.1.trans hml.symm) hex hlocks dX6_requireRange_10 dX6_requireRange_13 dX6_requireRange_14 dX6_requireRange_17 dX6_requireRange_20 (Nat.le_of_ble_eq_true rfl) (Nat.le_of_ble_eq_true rfl) (Nat.le_of_ble_eq_true rfl) (Nat.le_of_ble_eq_true rfl) (Nat.le_of_ble_eq_true rfl) (Nat.le_of_ble_eq_true rfl)
  · refine lv_iload_n hx hb dX6_requireRange_5 rfl (lv_at hl 0 rfl) ?_
    refine lv_iload_n hx hb dX6_requireRange_6 rfl (lv_at hl 2 rfl) ?_
    refine lv_icmp_le (tgt := 21) hx hb dX6_requireRange_7 (by decide) (fun c_7 => absurd c_7 (Int32.not_le.mpr (h.resolve_left c_2))) (fun c_7 => ?_)
    exact g_throwSW hx hb hfl (cls := "java/lang/IllegalArgumentException") (text := "an argument is out of range") (names := ["java/lang/RuntimeException", "java/lang/Exception"]) (ik := 262) (is := 264) (ic := 266) hown (by decide +kernel) htex_266 (hts (.classLink RX6 262 "java/lang/IllegalArgumentException") (by decide +kernel)) (hts (.initialized "java/lang/IllegalArgumentException") (by decide +kernel)) (by decide +kernel) (fun w hw => hts w (inx_x_X6_requireRange_266 w hw)) hat2_266 (vx_c (va_Nw.use rfl (hE.2 _ hnest_266)) (vx_c (va_Nw.use rfl (hE.2 _ hnest_r)) (vx_c (va_Nw.use rfl (hE.2 _ hnest_e)) (vx_c (va_Nw.use rfl (hE.2 _ hnest_t)) vx_n)))) hgood_266 hX hS hP hD (hl.1.trans hml.symm) hex hlocks dX6_requireRange_10 dX6_requireRange_13 dX6_requireRange_14 dX6_requireRange_17 dX6_requireRange_20 (Nat.le_of_ble_eq_true rfl) (Nat.le_of_ble_eq_true rfl) (Nat.le_of_ble_eq_true rfl) (Nat.le_of_ble_eq_true rfl) (Nat.le_of_ble_eq_true rfl) (Nat.le_of_ble_eq_true rfl)

theorem in_c_X6_requireCollecting_RX6 : ∀ w ∈ wsX60, w ∈ wsX6_requireCollecting := by decide +kernel
set_option maxHeartbeats 4000000 in
set_option maxRecDepth 100000 in
theorem c_X6_requireCollecting (l : Launch) {D : va_G} {y : Nat → Nat} {ws : va_W} {x_off_0 : Value} {x_off_1 : Value} {x_off_2 : Value} {x_off_3 : Value} {x_off_4 : Value} {x_off_5 : Value} {x_off_6 : Value} {p_off a_off : Nat} {nw : Nat} (f0_off : ws[p_off]? = some (a_off, .inr (7, [x_off_0, x_off_1, x_off_2, x_off_3, x_off_4, x_off_5, x_off_6, .int (nI (nw))]))) (h : nw < 24) : gMv l yX6_requireCollecting wsX6_requireCollecting ({ frames := 0, cells := 0, slots := 0, locals := 0 }) D y [.ref a_off] ws (fun (_ : Unit) => True) (fun (_ : Unit) => ws) := by
  refine g_met_v (cc := cX6_requireCollecting) (maxL := 1) (by decide) rfl (Nat.le_of_ble_eq_true rfl) ?_
  intro p e s m below meth c A hx hb hml hr hts hown hnm hlocks hE hP hD hS hA ls hl
  have hown : s.vm.findClass RX6 = some m.cls := hown
  have hl : lv_has ls 1 [(0, .ref a_off)] := hl
  have in_RX6 := in_c_X6_requireCollecting_RX6
  refine lv_aload_n hx hb dX6_requireCollecting_0 rfl (lv_at hl 0 rfl) ?_
  refine va_get (D := D) (ci := 7) (v := .int (nI (nw))) (C := RX6) (T := TX6) (N := 8) hx hb hts in_RX6 hown hE.1 (gv1 hP f0_off) 0 rfl rfl 7 (by decide) (hts (.fieldLink RX6 49 "BasketryOffice" "now" "I") (by decide +kernel)) (fun _ h9 => h9) rfl dX6_requireCollecting_1 ?_
  refine lv_bipush (v := nI 24) hx hb dX6_requireCollecting_4 (by decide) ?_
  refine g_icmp_lt (tgt := 20) hx hb (by omega) (by omega) dX6_requireCollecting_6 (by decide) (fun c_6 => ?_) (fun c_6 => absurd c_6 (by omega))
  refine g_vret hx hb hr hlocks () dX6_requireCollecting_20 hS hP hD ?_
  exact trivial

theorem in_x_X6_requireCollecting_RX6 : ∀ w ∈ wsX60, w ∈ wsX6_requireCollecting := by decide +kernel
theorem inx_x_X6_requireCollecting_72 : ∀ w ∈ (vx_atS RX6 72 "java/lang/IllegalStateException" ["java/lang/RuntimeException", "java/lang/Exception"]).filter goodWord, w ∈ wsX6_requireCollecting := by decide +kernel
set_option maxHeartbeats 4000000 in
set_option maxRecDepth 100000 in
theorem x_X6_requireCollecting (l : Launch) {D : va_G} {y : Nat → Nat} {ws : va_W} {x_off_0 : Value} {x_off_1 : Value} {x_off_2 : Value} {x_off_3 : Value} {x_off_4 : Value} {x_off_5 : Value} {x_off_6 : Value} {p_off a_off : Nat} {nw : Nat} (f0_off : ws[p_off]? = some (a_off, .inr (7, [x_off_0, x_off_1, x_off_2, x_off_3, x_off_4, x_off_5, x_off_6, .int (nI (nw))]))) (hfl : l.stackTraces = false) (h : 24 ≤ nw) (h2 : nw < 2 ^ 31) : gMxv l yX6_requireCollecting wsX6_requireCollecting ({ frames := 6, cells := 1, slots := 6, locals := 100 }) D y [.ref a_off] ws "java/lang/IllegalStateException" := by
  refine g_metx_v (cc := cX6_requireCollecting) (maxL := 1) (by decide) rfl (Nat.le_of_ble_eq_true rfl) ?_
  intro p e s m below meth c A hx hb hml hr hts hown hnm hlocks hE hP hD hS hA hex hX ls hl
  have hown : s.vm.findClass RX6 = some m.cls := hown
  have hl : lv_has ls 1 [(0, .ref a_off)] := hl
  have in_RX6 := in_x_X6_requireCollecting_RX6
  refine lv_aload_n hx hb dX6_requireCollecting_0 rfl (lv_at hl 0 rfl) ?_
  refine va_get (D := D) (ci := 7) (v := .int (nI (nw))) (C := RX6) (T := TX6) (N := 8) hx hb hts in_RX6 hown hE.1 (gv1 hP f0_off) 0 rfl rfl 7 (by decide) (hts (.fieldLink RX6 49 "BasketryOffice" "now" "I") (by decide +kernel)) (fun _ h9 => h9) rfl dX6_requireCollecting_1 ?_
  refine lv_bipush (v := nI 24) hx hb dX6_requireCollecting_4 (by decide) ?_
  refine g_icmp_lt (tgt := 20) hx hb (by omega) (by omega) dX6_requireCollecting_6 (by decide) (fun c_6 => absurd c_6 (by omega)) (fun c_6 => ?_)
  exact g_throwSW hx hb hfl (cls := "java/lang/IllegalStateException") (text := "24 months are published") (names := ["java/lang/RuntimeException", "java/lang/Exception"]) (ik := 68) (is := 267) (ic := 72) hown (by decide +kernel) htex_72 (hts (.classLink RX6 68 "java/lang/IllegalStateException") (by decide +kernel)) (hts (.initialized "java/lang/IllegalStateException") (by decide +kernel)) (by decide +kernel) (fun w hw => hts w (inx_x_X6_requireCollecting_72 w hw)) hat2_72 (vx_c (va_Nw.use rfl (hE.2 _ hnest_72)) (vx_c (va_Nw.use rfl (hE.2 _ hnest_r)) (vx_c (va_Nw.use rfl (hE.2 _ hnest_e)) (vx_c (va_Nw.use rfl (hE.2 _ hnest_t)) vx_n)))) hgood_72 hX hS hP hD (hl.1.trans hml.symm) hex hlocks dX6_requireCollecting_9 dX6_requireCollecting_12 dX6_requireCollecting_13 dX6_requireCollecting_16 dX6_requireCollecting_19 (Nat.le_of_ble_eq_true rfl) (Nat.le_of_ble_eq_true rfl) (Nat.le_of_ble_eq_true rfl) (Nat.le_of_ble_eq_true rfl) (Nat.le_of_ble_eq_true rfl) (Nat.le_of_ble_eq_true rfl)

theorem in_c_X6_requireQuote_RX6 : ∀ w ∈ wsX60, w ∈ wsX6_requireQuote := by decide +kernel
set_option maxHeartbeats 4000000 in
set_option maxRecDepth 100000 in
theorem c_X6_requireQuote (l : Launch) {D : va_G} {y : Nat → Nat} {ws : va_W} {x_off_1 : Value} {x_off_2 : Value} {x_off_3 : Value} {x_off_4 : Value} {x_off_5 : Value} {x_off_6 : Value} {x_off_7 : Value} {x_led_0 : Value} {x_led_2 : Value} {x_led_3 : Value} {x_led_4 : Value} {x_led_5 : Value} {x_led_6 : Value} {x_led_7 : Value} {x_led_8 : Value} {x_led_9 : Value} {p_off p_led p_cents a_off a_led a_cents : Nat} {cents : Nat → Nat} {k : Nat} (f0_off : ws[p_off]? = some (a_off, .inr (7, [.ref a_led, x_off_1, x_off_2, x_off_3, x_off_4, x_off_5, x_off_6, x_off_7]))) (f0_led : ws[p_led]? = some (a_led, .inr (3, [x_led_0, .ref a_cents, x_led_2, x_led_3, x_led_4, x_led_5, x_led_6, x_led_7, x_led_8, x_led_9]))) (f0_cents : ws[p_cents]? = some (a_cents, eN y 1152 cents)) (b_cents : ∀ k, cents k ≤ 100000) (hk : k < 1152) (h : 0 < cents k) : gMv l yX6_requireQuote wsX6_requireQuote ({ frames := 1, cells := 0, slots := 0, locals := 21 }) D y [.ref a_off, .int (nI (k))] ws (fun (_ : Unit) => True) (fun (_ : Unit) => ws) := by
  refine g_met_v (cc := cX6_requireQuote) (maxL := 2) (by decide) rfl (Nat.le_of_ble_eq_true rfl) ?_
  intro p e s m below meth c A hx hb hml hr hts hown hnm hlocks hE hP hD hS hA ls hl
  have hown : s.vm.findClass RX6 = some m.cls := hown
  have hl : lv_has ls 2 [(0, .ref a_off), (1, .int (nI (k)))] := hl
  have in_RX6 := in_c_X6_requireQuote_RX6
  refine lv_aload_n hx hb dX6_requireQuote_0 rfl (lv_at hl 0 rfl) ?_
  refine va_get (D := D) (ci := 7) (v := .ref a_led) (C := RX6) (T := TX6) (N := 8) hx hb hts in_RX6 hown hE.1 (gv1 hP f0_off) 0 rfl rfl 0 (by decide) (hts (.fieldLink RX6 12 "BasketryOffice" "ledger" "LBasketryOffice$Ledger;") (by decide +kernel)) (fun _ h9 => h9) rfl dX6_requireQuote_1 ?_
  refine lv_iload_n hx hb dX6_requireQuote_4 rfl (lv_at hl 1 rfl) ?_
  refine gc_V_i (As := [.int (nI (k))]) (rest := []) (c_X2_hasQuote l f0_led f0_cents b_cents (by omega)) ⟨hx, hb, hml, hown, hts⟩ (cwV 1 hts gX6_requireQuote_X2_hasQuote rfl rfl rfl (by decide +kernel) ⟨Nat.le_of_ble_eq_true rfl, Nat.le_of_ble_eq_true rfl⟩) hE hP hD hS hA _ f0_led rfl rfl rfl rfl hl.1 (Nat.le_of_ble_eq_true rfl) dX6_requireQuote_5 ⟨Nat.le_of_ble_eq_true rfl, Nat.le_of_ble_eq_true rfl⟩ (fun r_5 u_5 H locs hP hD hS q_5 => ?_)
  subst q_5
  refine g_bif_ne (tgt := 22) hx hb dX6_requireQuote_8 (by decide) (fun c_8 => ?_) (fun c_8 => absurd c_8 (by rw [decide_eq_true h]; decide))
  refine g_vret hx hb hr hlocks () dX6_requireQuote_22 hS hP hD ?_
  exact trivial

theorem in_x_X6_requireQuote_RX6 : ∀ w ∈ wsX60, w ∈ wsX6_requireQuote := by decide +kernel
theorem inx_x_X6_requireQuote_72 : ∀ w ∈ (vx_atS RX6 72 "java/lang/IllegalStateException" ["java/lang/RuntimeException", "java/lang/Exception"]).filter goodWord, w ∈ wsX6_requireQuote := by decide +kernel
set_option maxHeartbeats 4000000 in
set_option maxRecDepth 100000 in
theorem x_X6_requireQuote (l : Launch) {D : va_G} {y : Nat → Nat} {ws : va_W} {x_off_1 : Value} {x_off_2 : Value} {x_off_3 : Value} {x_off_4 : Value} {x_off_5 : Value} {x_off_6 : Value} {x_off_7 : Value} {x_led_0 : Value} {x_led_2 : Value} {x_led_3 : Value} {x_led_4 : Value} {x_led_5 : Value} {x_led_6 : Value} {x_led_7 : Value} {x_led_8 : Value} {x_led_9 : Value} {p_off p_led p_cents a_off a_led a_cents : Nat} {cents : Nat → Nat} {k : Nat} (f0_off : ws[p_off]? = some (a_off, .inr (7, [.ref a_led, x_off_1, x_off_2, x_off_3, x_off_4, x_off_5, x_off_6, x_off_7]))) (f0_led : ws[p_led]? = some (a_led, .inr (3, [x_led_0, .ref a_cents, x_led_2, x_led_3, x_led_4, x_led_5, x_led_6, x_led_7, x_led_8, x_led_9]))) (f0_cents : ws[p_cents]? = some (a_cents, eN y 1152 cents)) (b_cents : ∀ k, cents k ≤ 100000) (hfl : l.stackTraces = false) (hk : k < 1152) (h : cents k = 0) : gMxv l yX6_requireQuote wsX6_requireQuote ({ frames := 6, cells := 1, slots := 6, locals := 100 }) D y [.ref a_off, .int (nI (k))] ws "java/lang/IllegalStateException" := by
  refine g_metx_v (cc := cX6_requireQuote) (maxL := 2) (by decide) rfl (Nat.le_of_ble_eq_true rfl) ?_
  intro p e s m below meth c A hx hb hml hr hts hown hnm hlocks hE hP hD hS hA hex hX ls hl
  have hown : s.vm.findClass RX6 = some m.cls := hown
  have hl : lv_has ls 2 [(0, .ref a_off), (1, .int (nI (k)))] := hl
  have in_RX6 := in_x_X6_requireQuote_RX6
  refine lv_aload_n hx hb dX6_requireQuote_0 rfl (lv_at hl 0 rfl) ?_
  refine va_get (D := D) (ci := 7) (v := .ref a_led) (C := RX6) (T := TX6) (N := 8) hx hb hts in_RX6 hown hE.1 (gv1 hP f0_off) 0 rfl rfl 0 (by decide) (hts (.fieldLink RX6 12 "BasketryOffice" "ledger" "LBasketryOffice$Ledger;") (by decide +kernel)) (fun _ h9 => h9) rfl dX6_requireQuote_1 ?_
  refine lv_iload_n hx hb dX6_requireQuote_4 rfl (lv_at hl 1 rfl) ?_
  refine gc_V_i (As := [.int (nI (k))]) (rest := []) (c_X2_hasQuote l f0_led f0_cents b_cents (by omega)) ⟨hx, hb, hml, hown, hts⟩ (cwV 1 hts gX6_requireQuote_X2_hasQuote rfl rfl rfl (by decide +kernel) ⟨Nat.le_of_ble_eq_true rfl, Nat.le_of_ble_eq_true rfl⟩) hE hP hD hS hA _ f0_led rfl rfl rfl rfl hl.1 (Nat.le_of_ble_eq_true rfl) dX6_requireQuote_5 ⟨Nat.le_of_ble_eq_true rfl, Nat.le_of_ble_eq_true rfl⟩ (fun r_5 u_5 H locs hP hD hS q_5 => ?_)
  subst q_5
  refine g_bif_ne (tgt := 22) hx hb dX6_requireQuote_8 (by decide) (fun c_8 => absurd c_8 (by rw [h]; decide)) (fun c_8 => ?_)
  exact g_throwSW hx hb hfl (cls := "java/lang/IllegalStateException") (text := "there is no quote") (names := ["java/lang/RuntimeException", "java/lang/Exception"]) (ik := 68) (is := 269) (ic := 72) hown (by decide +kernel) htex_72 (hts (.classLink RX6 68 "java/lang/IllegalStateException") (by decide +kernel)) (hts (.initialized "java/lang/IllegalStateException") (by decide +kernel)) (by decide +kernel) (fun w hw => hts w (inx_x_X6_requireQuote_72 w hw)) hat2_72 (vx_c (va_Nw.use rfl (hE.2 _ hnest_72)) (vx_c (va_Nw.use rfl (hE.2 _ hnest_r)) (vx_c (va_Nw.use rfl (hE.2 _ hnest_e)) (vx_c (va_Nw.use rfl (hE.2 _ hnest_t)) vx_n)))) hgood_72 hX hS hP hD (hl.1.trans hml.symm) hex hlocks dX6_requireQuote_11 dX6_requireQuote_14 dX6_requireQuote_15 dX6_requireQuote_18 dX6_requireQuote_21 (Nat.le_of_ble_eq_true rfl) (Nat.le_of_ble_eq_true rfl) (Nat.le_of_ble_eq_true rfl) (Nat.le_of_ble_eq_true rfl) (Nat.le_of_ble_eq_true rfl) (Nat.le_of_ble_eq_true rfl)
