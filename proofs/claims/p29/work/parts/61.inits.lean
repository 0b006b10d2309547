theorem in_c_X1_init_RX1 : ∀ w ∈ wsX10, w ∈ wsX1_init := by decide +kernel
set_option maxHeartbeats 4000000 in
set_option maxRecDepth 100000 in
theorem c_X1_init (l : Launch) {D : va_G} {y : Nat → Nat} {ws : va_W} {x_it_0 : Value} {x_it_1 : Value} {x_it_2 : Value} {p_it a_it : Nat} {g mn sn : Nat} (f0_it : ws[p_it]? = some (a_it, .inr (2, [x_it_0, x_it_1, x_it_2]))) : gMv l yX1_init wsX1_init ({ frames := 1, cells := 0, slots := 0, locals := 23 }) D y [.ref a_it, .int (nI (g)), .int (nI (mn)), .int (nI (sn))] ws (fun (_ : Unit) => True) (fun (_ : Unit) => (ws.set p_it (a_it, .inr (2, [.int (nI (g)), .int (nI (mn)), .int (nI (sn))])))) := by
  refine g_met_v (cc := cX1_init) (maxL := 4) (by decide) rfl (Nat.le_of_ble_eq_true rfl) ?_
  intro p e s m below meth c A hx hb hml hr hts hown hnm hlocks hE hP hD hS hA ls hl
  have hown : s.vm.findClass RX1 = some m.cls := hown
  have hl : lv_has ls 4 [(0, .ref a_it), (1, .int (nI (g))), (2, .int (nI (mn))), (3, .int (nI (sn)))] := hl
  have in_RX1 := in_c_X1_init_RX1
  refine lv_aload_n hx hb dX1_init_0 rfl (lv_at hl 0 rfl) ?_
  refine W.objInit hx hb hown (hts (.methodLink RX1 3 objectInit) (by decide +kernel)) (hts (.instanceMethod objectInit) (by decide +kernel)) (hts _ (List.mem_of_getElem? (i := 3) rfl)) rfl (by rw [hml]; exact hl.1) rfl dX1_init_1 (Nat.le_of_ble_eq_true rfl) (Nat.le_of_ble_eq_true rfl) ?_
  refine W.eq (g2 := F0 m 4 ls []) rfl ?_
  refine lv_aload_n hx hb dX1_init_4 rfl (lv_at hl 0 rfl) ?_
  refine lv_iload_n hx hb dX1_init_5 rfl (lv_at hl 1 rfl) ?_
  refine gv_set f0_it rfl (by rfl) (fun k9 h9 kk9 => va_putF (D := D) (ci := 2) (v := .int (nI (g))) (ty := .int) (C := RX1) (T := TX1) (N := 3) hx hb hts in_RX1 tyX1 tyX1_ok nmX1 hown hE.1 hP hD hS k9 h9 rfl 0 (by decide) (hts (.fieldLink RX1 9 "BasketryOffice$Item" "group" "I") (by decide +kernel)) (fun _ h9 => h9) rfl (show meth.name = "<init>" from hnm) rfl (by decide +kernel) rfl rfl (Nat.le_of_ble_eq_true rfl) dX1_init_6 kk9) (fun H locs hP hD hS => ?_)
  have f_it := g_eq (x := (a_it, .inr (2, [.int (nI (g)), x_it_1, x_it_2]))) (f0_it)
  refine lv_aload_n hx hb dX1_init_9 rfl (lv_at hl 0 rfl) ?_
  refine lv_iload_n hx hb dX1_init_10 rfl (lv_at hl 2 rfl) ?_
  refine gv_set f_it rfl (by rfl) (fun k9 h9 kk9 => va_putF (D := D) (ci := 2) (v := .int (nI (mn))) (ty := .int) (C := RX1) (T := TX1) (N := 3) hx hb hts in_RX1 tyX1 tyX1_ok nmX1 hown hE.1 hP hD hS k9 h9 rfl 1 (by decide) (hts (.fieldLink RX1 15 "BasketryOffice$Item" "mean" "I") (by decide +kernel)) (fun _ h9 => h9) rfl (show meth.name = "<init>" from hnm) rfl (by decide +kernel) rfl rfl (Nat.le_of_ble_eq_true rfl) dX1_init_11 kk9) (fun H locs hP hD hS => ?_)
  have hP := g_trP g_ss hP
  have hD := g_trD g_ss hD
  have f_it := g_eq (x := (a_it, .inr (2, [.int (nI (g)), .int (nI (mn)), x_it_2]))) (f0_it)
  refine lv_aload_n hx hb dX1_init_14 rfl (lv_at hl 0 rfl) ?_
  refine lv_iload_n hx hb dX1_init_15 rfl (lv_at hl 3 rfl) ?_
  refine gv_set f_it rfl (by rfl) (fun k9 h9 kk9 => va_putF (D := D) (ci := 2) (v := .int (nI (sn))) (ty := .int) (C := RX1) (T := TX1) (N := 3) hx hb hts in_RX1 tyX1 tyX1_ok nmX1 hown hE.1 hP hD hS k9 h9 rfl 2 (by decide) (hts (.fieldLink RX1 18 "BasketryOffice$Item" "season" "I") (by decide +kernel)) (fun _ h9 => h9) rfl (show meth.name = "<init>" from hnm) rfl (by decide +kernel) rfl rfl (Nat.le_of_ble_eq_true rfl) dX1_init_16 kk9) (fun H locs hP hD hS => ?_)
  have hP := g_trP g_ss hP
  have hD := g_trD g_ss hD
  have f_it := g_eq (x := (a_it, .inr (2, [.int (nI (g)), .int (nI (mn)), .int (nI (sn))]))) (f0_it)
  refine g_vret hx hb hr hlocks () dX1_init_19 hS hP hD ?_
  exact trivial

theorem in_c_X0_init_RX0 : ∀ w ∈ wsX00, w ∈ wsX0_init := by decide +kernel
set_option maxHeartbeats 4000000 in
set_option maxRecDepth 100000 in
theorem c_X0_init (l : Launch) {D : va_G} {y : Nat → Nat} {ws : va_W} {x_con_0 : Value} {x_con_1 : Value} {x_con_2 : Value} {x_con_3 : Value} {x_con_4 : Value} {x_con_5 : Value} {x_con_6 : Value} {x_con_7 : Value} {x_con_8 : Value} {p_con a_con : Nat} {fw lag trig : Nat} {fl : Bool} (f0_con : ws[p_con]? = some (a_con, .inr (1, [x_con_0, x_con_1, x_con_2, x_con_3, x_con_4, x_con_5, x_con_6, x_con_7, x_con_8]))) : gMv l yX0_init wsX0_init ({ frames := 1, cells := 0, slots := 0, locals := 23 }) D y [.ref a_con, .int (nI (fw)), .int (nI (lag)), .int (nI (trig)), .int (gb (fl))] ws (fun (_ : Unit) => True) (fun (_ : Unit) => (ws.set p_con (a_con, .inr (1, [.int (nI (fw)), .int (nI (lag)), .int (nI (trig)), .int (gb (fl)), x_con_4, x_con_5, x_con_6, x_con_7, x_con_8])))) := by
  refine g_met_v (cc := cX0_init) (maxL := 5) (by decide) rfl (Nat.le_of_ble_eq_true rfl) ?_
  intro p e s m below meth c A hx hb hml hr hts hown hnm hlocks hE hP hD hS hA ls hl
  have hown : s.vm.findClass RX0 = some m.cls := hown
  have hl : lv_has ls 5 [(0, .ref a_con), (1, .int (nI (fw))), (2, .int (nI (lag))), (3, .int (nI (trig))), (4, .int (gb (fl)))] := hl
  have in_RX0 := in_c_X0_init_RX0
  refine lv_aload_n hx hb dX0_init_0 rfl (lv_at hl 0 rfl) ?_
  refine W.objInit hx hb hown (hts (.methodLink RX0 3 objectInit) (by decide +kernel)) (hts (.instanceMethod objectInit) (by decide +kernel)) (hts _ (List.mem_of_getElem? (i := 3) rfl)) rfl (by rw [hml]; exact hl.1) rfl dX0_init_1 (Nat.le_of_ble_eq_true rfl) (Nat.le_of_ble_eq_true rfl) ?_
  refine W.eq (g2 := F0 m 4 ls []) rfl ?_
  refine lv_aload_n hx hb dX0_init_4 rfl (lv_at hl 0 rfl) ?_
  refine lv_iload_n hx hb dX0_init_5 rfl (lv_at hl 1 rfl) ?_
  refine gv_set f0_con rfl (by rfl) (fun k9 h9 kk9 => va_putF (D := D) (ci := 1) (v := .int (nI (fw))) (ty := .int) (C := RX0) (T := TX0) (N := 9) hx hb hts in_RX0 tyX0 tyX0_ok nmX0 hown hE.1 hP hD hS k9 h9 rfl 0 (by decide) (hts (.fieldLink RX0 9 "BasketryOffice$Contract" "firstWage" "I") (by decide +kernel)) (fun _ h9 => h9) rfl (show meth.name = "<init>" from hnm) rfl (by decide +kernel) rfl rfl (Nat.le_of_ble_eq_true rfl) dX0_init_6 kk9) (fun H locs hP hD hS => ?_)
  have f_con := g_eq (x := (a_con, .inr (1, [.int (nI (fw)), x_con_1, x_con_2, x_con_3, x_con_4, x_con_5, x_con_6, x_con_7, x_con_8]))) (f0_con)
  refine lv_aload_n hx hb dX0_init_9 rfl (lv_at hl 0 rfl) ?_
  refine lv_iload_n hx hb dX0_init_10 rfl (lv_at hl 2 rfl) ?_
  refine gv_set f_con rfl (by rfl) (fun k9 h9 kk9 => va_putF (D := D) (ci := 1) (v := .int (nI (lag))) (ty := .int) (C := RX0) (T := TX0) (N := 9) hx hb hts in_RX0 tyX0 tyX0_ok nmX0 hown hE.1 hP hD hS k9 h9 rfl 1 (by decide) (hts (.fieldLink RX0 15 "BasketryOffice$Contract" "lag" "I") (by decide +kernel)) (fun _ h9 => h9) rfl (show meth.name = "<init>" from hnm) rfl (by decide +kernel) rfl rfl (Nat.le_of_ble_eq_true rfl) dX0_init_11 kk9) (fun H locs hP hD hS => ?_)
  have hP := g_trP g_ss hP
  have hD := g_trD g_ss hD
  have f_con := g_eq (x := (a_con, .inr (1, [.int (nI (fw)), .int (nI (lag)), x_con_2, x_con_3, x_con_4, x_con_5, x_con_6, x_con_7, x_con_8]))) (f0_con)
  refine lv_aload_n hx hb dX0_init_14 rfl (lv_at hl 0 rfl) ?_
  refine lv_iload_n hx hb dX0_init_15 rfl (lv_at hl 3 rfl) ?_
  refine gv_set f_con rfl (by rfl) (fun k9 h9 kk9 => va_putF (D := D) (ci := 1) (v := .int (nI (trig))) (ty := .int) (C := RX0) (T := TX0) (N := 9) hx hb hts in_RX0 tyX0 tyX0_ok nmX0 hown hE.1 hP hD hS k9 h9 rfl 2 (by decide) (hts (.fieldLink RX0 18 "BasketryOffice$Contract" "trigger" "I") (by decide +kernel)) (fun _ h9 => h9) rfl (show meth.name = "<init>" from hnm) rfl (by decide +kernel) rfl rfl (Nat.le_of_ble_eq_true rfl) dX0_init_16 kk9) (fun H locs hP hD hS => ?_)
  have hP := g_trP g_ss hP
  have hD := g_trD g_ss hD
  have f_con := g_eq (x := (a_con, .inr (1, [.int (nI (fw)), .int (nI (lag)), .int (nI (trig)), x_con_3, x_con_4, x_con_5, x_con_6, x_con_7, x_con_8]))) (f0_con)
  refine lv_aload_n hx hb dX0_init_19 rfl (lv_at hl 0 rfl) ?_
  refine lv_iload hx hb dX0_init_20 (lv_at hl 4 rfl) ?_
  refine gv_set f_con rfl (by rfl) (fun k9 h9 kk9 => va_putF (D := D) (ci := 1) (v := .int (gb (fl))) (ty := .boolean) (C := RX0) (T := TX0) (N := 9) hx hb hts in_RX0 tyX0 tyX0_ok nmX0 hown hE.1 hP hD hS k9 h9 rfl 3 (by decide) (hts (.fieldLink RX0 21 "BasketryOffice$Contract" "hasFloor" "Z") (by decide +kernel)) (fun _ h9 => h9) rfl (show meth.name = "<init>" from hnm) rfl (by decide +kernel) (gb_narrow _) (by first | rfl | decide +kernel | (cases fl <;> decide +kernel)) (Nat.le_of_ble_eq_true rfl) dX0_init_22 kk9) (fun H locs hP hD hS => ?_)
  have hP := g_trP g_ss hP
  have hD := g_trD g_ss hD
  have f_con := g_eq (x := (a_con, .inr (1, [.int (nI (fw)), .int (nI (lag)), .int (nI (trig)), .int (gb (fl)), x_con_4, x_con_5, x_con_6, x_con_7, x_con_8]))) (f0_con)
  refine g_vret hx hb hr hlocks () dX0_init_25 hS hP hD ?_
  exact trivial

theorem in_c_X0_begin_RX0 : ∀ w ∈ wsX00, w ∈ wsX0_begin := by decide +kernel
set_option maxHeartbeats 4000000 in
set_option maxRecDepth 100000 in
theorem c_X0_begin (l : Launch) {D : va_G} {y : Nat → Nat} {ws : va_W} {x_con_1 : Value} {x_con_2 : Value} {x_con_3 : Value} {x_con_4 : Value} {x_con_5 : Value} {x_con_6 : Value} {x_con_7 : Value} {x_con_8 : Value} {p_con p_num a_con a_num : Nat} {num : Nat → Nat} {fw t : Nat} (f0_con : ws[p_con]? = some (a_con, .inr (1, [.int (nI (fw)), x_con_1, x_con_2, x_con_3, x_con_4, x_con_5, x_con_6, x_con_7, x_con_8]))) (f0_num : ws[p_num]? = some (a_num, eN y 24 num)) (b_num : ∀ k, num k ≤ 2147483647) (ht : t < 24) (hfw : fw ≤ 1000000000) : gMv l yX0_begin wsX0_begin ({ frames := 0, cells := 0, slots := 0, locals := 0 }) D y [.ref a_con, .int (nI (t)), .ref a_num] ws (fun (_ : Unit) => True) (fun (_ : Unit) => (ws.set p_con (a_con, .inr (1, [.int (nI (fw)), x_con_1, x_con_2, x_con_3, .int (nI (t)), .long (lN (fw)), .long (lN (num t)), .int (nI (t)), .long (lN (0))])))) := by
  refine g_met_v (cc := cX0_begin) (maxL := 3) (by decide) rfl (Nat.le_of_ble_eq_true rfl) ?_
  intro p e s m below meth c A hx hb hml hr hts hown hnm hlocks hE hP hD hS hA ls hl
  have hown : s.vm.findClass RX0 = some m.cls := hown
  have hl : lv_has ls 3 [(0, .ref a_con), (1, .int (nI (t))), (2, .ref a_num)] := hl
  have in_RX0 := in_c_X0_begin_RX0
  refine lv_aload_n hx hb dX0_begin_0 rfl (lv_at hl 0 rfl) ?_
  refine lv_iload_n hx hb dX0_begin_1 rfl (lv_at hl 1 rfl) ?_
  refine gv_set f0_con rfl (by rfl) (fun k9 h9 kk9 => va_put (D := D) (ci := 1) (v := .int (nI (t))) (ty := .int) (C := RX0) (T := TX0) (N := 9) hx hb hts in_RX0 tyX0 tyX0_ok nmX0 hown hE.1 hP hD hS k9 h9 rfl 4 (by decide) (hts (.fieldLink RX0 25 "BasketryOffice$Contract" "firstMonth" "I") (by decide +kernel)) (fun _ h9 => h9) rfl (by decide +kernel) rfl rfl (Nat.le_of_ble_eq_true rfl) dX0_begin_2 kk9) (fun H locs hP hD hS => ?_)
  have f_con := g_eq (x := (a_con, .inr (1, [.int (nI (fw)), x_con_1, x_con_2, x_con_3, .int (nI (t)), x_con_5, x_con_6, x_con_7, x_con_8]))) (f0_con)
  have f_num := g_ne (x := (a_con, .inr (1, [.int (nI (fw)), x_con_1, x_con_2, x_con_3, .int (nI (t)), x_con_5, x_con_6, x_con_7, x_con_8]))) (g_kne f0_con f0_num (Nat.ne_of_beq_eq_false rfl)) (f0_num)
  refine lv_aload_n hx hb dX0_begin_5 rfl (lv_at hl 0 rfl) ?_
  refine lv_aload_n hx hb dX0_begin_6 rfl (lv_at hl 0 rfl) ?_
  refine va_get (D := D) (ci := 1) (v := .int (nI (fw))) (C := RX0) (T := TX0) (N := 9) hx hb hts in_RX0 hown hE.1 (gv1 hP f_con) 0 rfl rfl 0 (by decide) (hts (.fieldLink RX0 9 "BasketryOffice$Contract" "firstWage" "I") (by decide +kernel)) (fun _ h9 => h9) rfl dX0_begin_7 ?_
  refine lv_i2l (v := lN (fw)) hx hb dX0_begin_10 (nI_l (by omega)) ?_
  refine gv_set f_con rfl (by rfl) (fun k9 h9 kk9 => va_put (D := D) (ci := 1) (v := .long (lN (fw))) (ty := .long) (C := RX0) (T := TX0) (N := 9) hx hb hts in_RX0 tyX0 tyX0_ok nmX0 hown hE.1 hP hD hS k9 h9 rfl 5 (by decide) (hts (.fieldLink RX0 28 "BasketryOffice$Contract" "wage" "J") (by decide +kernel)) (fun _ h9 => h9) rfl (by decide +kernel) rfl rfl (Nat.le_of_ble_eq_true rfl) dX0_begin_11 kk9) (fun H locs hP hD hS => ?_)
  have hP := g_trP g_ss hP
  have hD := g_trD g_ss hD
  have f_con := g_eq (x := (a_con, .inr (1, [.int (nI (fw)), x_con_1, x_con_2, x_con_3, .int (nI (t)), .long (lN (fw)), x_con_6, x_con_7, x_con_8]))) (f0_con)
  have f_num := g_ne (x := (a_con, .inr (1, [.int (nI (fw)), x_con_1, x_con_2, x_con_3, .int (nI (t)), .long (lN (fw)), x_con_6, x_con_7, x_con_8]))) (g_kne f0_con f0_num (Nat.ne_of_beq_eq_false rfl)) (f0_num)
  refine lv_aload_n hx hb dX0_begin_14 rfl (lv_at hl 0 rfl) ?_
  refine lv_aload_n hx hb dX0_begin_15 rfl (lv_at hl 2 rfl) ?_
  refine lv_iload_n hx hb dX0_begin_16 rfl (lv_at hl 1 rfl) ?_
  refine g_nald hx hb hE hP _ f_num (by omega) (by decide) dX0_begin_17 ?_
  have bd_17_1 := b_num (t)
  refine lv_i2l (v := lN (num t)) hx hb dX0_begin_18 (nI_l (by omega)) ?_
  refine gv_set f_con rfl (by rfl) (fun k9 h9 kk9 => va_put (D := D) (ci := 1) (v := .long (lN (num t))) (ty := .long) (C := RX0) (T := TX0) (N := 9) hx hb hts in_RX0 tyX0 tyX0_ok nmX0 hown hE.1 hP hD hS k9 h9 rfl 6 (by decide) (hts (.fieldLink RX0 32 "BasketryOffice$Contract" "lastNumber" "J") (by decide +kernel)) (fun _ h9 => h9) rfl (by decide +kernel) rfl rfl (Nat.le_of_ble_eq_true rfl) dX0_begin_19 kk9) (fun H locs hP hD hS => ?_)
  have hP := g_trP g_ss hP
  have hD := g_trD g_ss hD
  have f_con := g_eq (x := (a_con, .inr (1, [.int (nI (fw)), x_con_1, x_con_2, x_con_3, .int (nI (t)), .long (lN (fw)), .long (lN (num t)), x_con_7, x_con_8]))) (f0_con)
  have f_num := g_ne (x := (a_con, .inr (1, [.int (nI (fw)), x_con_1, x_con_2, x_con_3, .int (nI (t)), .long (lN (fw)), .long (lN (num t)), x_con_7, x_con_8]))) (g_kne f0_con f0_num (Nat.ne_of_beq_eq_false rfl)) (f0_num)
  refine lv_aload_n hx hb dX0_begin_22 rfl (lv_at hl 0 rfl) ?_
  refine lv_iload_n hx hb dX0_begin_23 rfl (lv_at hl 1 rfl) ?_
  refine gv_set f_con rfl (by rfl) (fun k9 h9 kk9 => va_put (D := D) (ci := 1) (v := .int (nI (t))) (ty := .int) (C := RX0) (T := TX0) (N := 9) hx hb hts in_RX0 tyX0 tyX0_ok nmX0 hown hE.1 hP hD hS k9 h9 rfl 7 (by decide) (hts (.fieldLink RX0 35 "BasketryOffice$Contract" "lastMonth" "I") (by decide +kernel)) (fun _ h9 => h9) rfl (by decide +kernel) rfl rfl (Nat.le_of_ble_eq_true rfl) dX0_begin_24 kk9) (fun H locs hP hD hS => ?_)
  have hP := g_trP g_ss hP
  have hD := g_trD g_ss hD
  have f_con := g_eq (x := (a_con, .inr (1, [.int (nI (fw)), x_con_1, x_con_2, x_con_3, .int (nI (t)), .long (lN (fw)), .long (lN (num t)), .int (nI (t)), x_con_8]))) (f0_con)
  have f_num := g_ne (x := (a_con, .inr (1, [.int (nI (fw)), x_con_1, x_con_2, x_con_3, .int (nI (t)), .long (lN (fw)), .long (lN (num t)), .int (nI (t)), x_con_8]))) (g_kne f0_con f0_num (Nat.ne_of_beq_eq_false rfl)) (f0_num)
  refine lv_aload_n hx hb dX0_begin_27 rfl (lv_at hl 0 rfl) ?_
  refine lv_lconst (v := lN 0) hx hb dX0_begin_28 (by decide) ?_
  refine gv_set f_con rfl (by rfl) (fun k9 h9 kk9 => va_put (D := D) (ci := 1) (v := .long (lN (0))) (ty := .long) (C := RX0) (T := TX0) (N := 9) hx hb hts in_RX0 tyX0 tyX0_ok nmX0 hown hE.1 hP hD hS k9 h9 rfl 8 (by decide) (hts (.fieldLink RX0 38 "BasketryOffice$Contract" "paid" "J") (by decide +kernel)) (fun _ h9 => h9) rfl (by decide +kernel) rfl rfl (Nat.le_of_ble_eq_true rfl) dX0_begin_29 kk9) (fun H locs hP hD hS => ?_)
  have hP := g_trP g_ss hP
  have hD := g_trD g_ss hD
  have f_con := g_eq (x := (a_con, .inr (1, [.int (nI (fw)), x_con_1, x_con_2, x_con_3, .int (nI (t)), .long (lN (fw)), .long (lN (num t)), .int (nI (t)), .long (lN (0))]))) (f0_con)
  have f_num := g_ne (x := (a_con, .inr (1, [.int (nI (fw)), x_con_1, x_con_2, x_con_3, .int (nI (t)), .long (lN (fw)), .long (lN (num t)), .int (nI (t)), .long (lN (0))]))) (g_kne f0_con f0_num (Nat.ne_of_beq_eq_false rfl)) (f0_num)
  refine g_vret hx hb hr hlocks () dX0_begin_32 hS hP hD ?_
  exact trivial

set_option maxHeartbeats 4000000 in
set_option maxRecDepth 100000 in
theorem c_X5_init (l : Launch) {D : va_G} {y : Nat → Nat} {ws : va_W} {p_sums a_sums : Nat} {n0 : Nat} {d1 d2 d3 d4 : UInt64} (f0_sums : ws[p_sums]? = some (a_sums, .inr (6, [.int (nI (n0)), .double d1, .double d2, .double d3, .double d4]))) : gMv l yX5_init wsX5_init ({ frames := 1, cells := 0, slots := 0, locals := 23 }) D y [.ref a_sums] ws (fun (_ : Unit) => True) (fun (_ : Unit) => ws) := by
  refine g_met_v (cc := cX5_init) (maxL := 1) (by decide) rfl (Nat.le_of_ble_eq_true rfl) ?_
  intro p e s m below meth c A hx hb hml hr hts hown hnm hlocks hE hP hD hS hA ls hl
  have hown : s.vm.findClass RX5 = some m.cls := hown
  have hl : lv_has ls 1 [(0, .ref a_sums)] := hl
  refine lv_aload_n hx hb dX5_init_0 rfl (lv_at hl 0 rfl) ?_
  refine W.objInit hx hb hown (hts (.methodLink RX5 3 objectInit) (by decide +kernel)) (hts (.instanceMethod objectInit) (by decide +kernel)) (hts _ (List.mem_of_getElem? (i := 3) rfl)) rfl (by rw [hml]; exact hl.1) rfl dX5_init_1 (Nat.le_of_ble_eq_true rfl) (Nat.le_of_ble_eq_true rfl) ?_
  refine W.eq (g2 := F0 m 4 ls []) rfl ?_
  refine g_vret hx hb hr hlocks () dX5_init_4 hS hP hD ?_
  exact trivial

theorem in_c_X4_init_RX4 : ∀ w ∈ wsX40, w ∈ wsX4_init := by decide +kernel
set_option maxHeartbeats 4000000 in
set_option maxRecDepth 100000 in
theorem c_X4_init (l : Launch) {D : va_G} {y : Nat → Nat} {ws : va_W} {x_spd_0 : Value} {x_spd_1 : Value} {x_spd_2 : Value} {p_spd a_spd : Nat} (f0_spd : ws[p_spd]? = some (a_spd, .inr (5, [x_spd_0, x_spd_1, x_spd_2]))) : gMv l yX4_init wsX4_init ({ frames := 1, cells := 3, slots := 504, locals := 23 }) D y [.ref a_spd] ws (fun (u : Nat × Nat × Nat) => True) (fun (u : Nat × Nat × Nat) => ((((ws ++ [(u.1, eN y 12 (fun _ => 0))]) ++ [(u.2.1, eN y 12 (fun _ => 0))]) ++ [(u.2.2, eD y 480 (fun _ => 0))]).set p_spd (a_spd, .inr (5, [.ref u.1, .ref u.2.1, .ref u.2.2])))) := by
  refine g_met_v (cc := cX4_init) (maxL := 1) (by decide) rfl (Nat.le_of_ble_eq_true rfl) ?_
  intro p e s m below meth c A hx hb hml hr hts hown hnm hlocks hE hP hD hS hA ls hl
  have hown : s.vm.findClass RX4 = some m.cls := hown
  have hl : lv_has ls 1 [(0, .ref a_spd)] := hl
  have in_RX4 := in_c_X4_init_RX4
  refine lv_aload_n hx hb dX4_init_0 rfl (lv_at hl 0 rfl) ?_
  refine W.objInit hx hb hown (hts (.methodLink RX4 3 objectInit) (by decide +kernel)) (hts (.instanceMethod objectInit) (by decide +kernel)) (hts _ (List.mem_of_getElem? (i := 3) rfl)) rfl (by rw [hml]; exact hl.1) rfl dX4_init_1 (Nat.le_of_ble_eq_true rfl) (Nat.le_of_ble_eq_true rfl) ?_
  refine W.eq (g2 := F0 m 4 ls []) rfl ?_
  refine lv_aload_n hx hb dX4_init_4 rfl (lv_at hl 0 rfl) ?_
  refine lv_bipush (v := nI 12) hx hb dX4_init_5 (by decide) ?_
  refine g_newaN hx hb (hts (.arrayClass .int) (by decide +kernel)) hE hP hD hS hA (k := 12) (by decide) (Nat.le_of_ble_eq_true rfl) (Nat.le_of_ble_eq_true rfl) dX4_init_7 (fun a_told H hP hD hS => ?_)
  obtain ⟨p_told, hp_told⟩ : ∃ z, z = (ws).length := ⟨_, rfl⟩
  have e7_0_spd := g_ap (z := (a_told, eN y 12 ((fun _ => 0)))) f0_spd
  have e7_0_told : (ws ++ [((a_told, eN y 12 ((fun _ => 0))) : Nat × va_E)])[p_told]? = some (a_told, eN y 12 ((fun _ => 0))) := by rw [hp_told]; exact g_apN
  refine gv_set e7_0_spd rfl (by rfl) (fun k9 h9 kk9 => va_putF (D := D) (ci := 5) (v := .ref a_told) (ty := (.array .int)) (C := RX4) (T := TX4) (N := 3) hx hb hts in_RX4 tyX4 tyX4_ok nmX4 hown hE.1 hP hD hS k9 h9 rfl 0 (by decide) (hts (.fieldLink RX4 9 "BasketryOffice$Spendings" "told" "[I") (by decide +kernel)) (fun _ h9 => h9) rfl (show meth.name = "<init>" from hnm) rfl (by decide +kernel) rfl rfl (Nat.le_of_ble_eq_true rfl) dX4_init_9 kk9) (fun H locs hP hD hS => ?_)
  have f_spd := g_eq (x := (a_spd, .inr (5, [.ref a_told, x_spd_1, x_spd_2]))) (e7_0_spd)
  have f_told := g_ne (x := (a_spd, .inr (5, [.ref a_told, x_spd_1, x_spd_2]))) (g_kne e7_0_spd e7_0_told (Nat.ne_of_beq_eq_false rfl)) (e7_0_told)
  refine lv_aload_n hx hb dX4_init_12 rfl (lv_at hl 0 rfl) ?_
  refine lv_bipush (v := nI 12) hx hb dX4_init_13 (by decide) ?_
  refine g_newaN hx hb (hts (.arrayClass .int) (by decide +kernel)) hE hP hD hS hA (k := 12) (by decide) (Nat.le_of_ble_eq_true rfl) (Nat.le_of_ble_eq_true rfl) dX4_init_15 (fun a_adp H hP hD hS => ?_)
  obtain ⟨p_adp, hp_adp⟩ : ∃ z, z = ((ws ++ [((a_told, eN y 12 ((fun _ => 0))) : Nat × va_E)])).length := ⟨_, rfl⟩
  have n_adp_told : p_adp ≠ p_told := by rw [hp_adp]; exact g_apne e7_0_told
  have e15_0_spd := g_ap (z := (a_adp, eN y 12 ((fun _ => 0)))) e7_0_spd
  have e15_0_told := g_ap (z := (a_adp, eN y 12 ((fun _ => 0)))) e7_0_told
  have e15_0_adp : ((ws ++ [((a_told, eN y 12 ((fun _ => 0))) : Nat × va_E)]) ++ [((a_adp, eN y 12 ((fun _ => 0))) : Nat × va_E)])[p_adp]? = some (a_adp, eN y 12 ((fun _ => 0))) := by rw [hp_adp]; exact g_apN
  have q15_0 : (((ws ++ [((a_told, eN y 12 ((fun _ => 0))) : Nat × va_E)]).set p_spd (a_spd, .inr (5, [.ref a_told, x_spd_1, x_spd_2]))) ++ [((a_adp, eN y 12 ((fun _ => 0))) : Nat × va_E)]) = (((ws ++ [((a_told, eN y 12 ((fun _ => 0))) : Nat × va_E)]) ++ [((a_adp, eN y 12 ((fun _ => 0))) : Nat × va_E)]).set p_spd (a_spd, .inr (5, [.ref a_told, x_spd_1, x_spd_2]))) := (g_sa (g_lt e7_0_spd))
  have hP : gvP D vwCl (((ws ++ [((a_told, eN y 12 ((fun _ => 0))) : Nat × va_E)]).set p_spd (a_spd, .inr (5, [.ref a_told, x_spd_1, x_spd_2]))) ++ [((a_adp, eN y 12 ((fun _ => 0))) : Nat × va_E)]) _ := hP
  have hD : gvD A (((ws ++ [((a_told, eN y 12 ((fun _ => 0))) : Nat × va_E)]).set p_spd (a_spd, .inr (5, [.ref a_told, x_spd_1, x_spd_2]))) ++ [((a_adp, eN y 12 ((fun _ => 0))) : Nat × va_E)]) := hD
  have hP : gvP D vwCl (((ws ++ [((a_told, eN y 12 ((fun _ => 0))) : Nat × va_E)]) ++ [((a_adp, eN y 12 ((fun _ => 0))) : Nat × va_E)]).set p_spd (a_spd, .inr (5, [.ref a_told, x_spd_1, x_spd_2]))) _ := g_trP (by rw [q15_0]) hP
  have hD : gvD A (((ws ++ [((a_told, eN y 12 ((fun _ => 0))) : Nat × va_E)]) ++ [((a_adp, eN y 12 ((fun _ => 0))) : Nat × va_E)]).set p_spd (a_spd, .inr (5, [.ref a_told, x_spd_1, x_spd_2]))) := g_trD (by rw [q15_0]) hD
  have f_spd := g_eq (x := (a_spd, .inr (5, [.ref a_told, x_spd_1, x_spd_2]))) (e15_0_spd)
  have f_told := g_ne (x := (a_spd, .inr (5, [.ref a_told, x_spd_1, x_spd_2]))) (g_kne e15_0_spd e15_0_told (Nat.ne_of_beq_eq_false rfl)) (e15_0_told)
  have f_adp := g_ne (x := (a_spd, .inr (5, [.ref a_told, x_spd_1, x_spd_2]))) (g_kne e15_0_spd e15_0_adp (Nat.ne_of_beq_eq_false rfl)) (e15_0_adp)
  refine gv_set f_spd rfl (by rfl) (fun k9 h9 kk9 => va_putF (D := D) (ci := 5) (v := .ref a_adp) (ty := (.array .int)) (C := RX4) (T := TX4) (N := 3) hx hb hts in_RX4 tyX4 tyX4_ok nmX4 hown hE.1 hP hD hS k9 h9 rfl 1 (by decide) (hts (.fieldLink RX4 15 "BasketryOffice$Spendings" "adopted" "[I") (by decide +kernel)) (fun _ h9 => h9) rfl (show meth.name = "<init>" from hnm) rfl (by decide +kernel) rfl rfl (Nat.le_of_ble_eq_true rfl) dX4_init_17 kk9) (fun H locs hP hD hS => ?_)
  have hP := g_trP g_ss hP
  have hD := g_trD g_ss hD
  have f_spd := g_eq (x := (a_spd, .inr (5, [.ref a_told, .ref a_adp, x_spd_2]))) (e15_0_spd)
  have f_told := g_ne (x := (a_spd, .inr (5, [.ref a_told, .ref a_adp, x_spd_2]))) (g_kne e15_0_spd e15_0_told (Nat.ne_of_beq_eq_false rfl)) (e15_0_told)
  have f_adp := g_ne (x := (a_spd, .inr (5, [.ref a_told, .ref a_adp, x_spd_2]))) (g_kne e15_0_spd e15_0_adp (Nat.ne_of_beq_eq_false rfl)) (e15_0_adp)
  refine lv_aload_n hx hb dX4_init_20 rfl (lv_at hl 0 rfl) ?_
  refine lv_sipush (v := nI 480) hx hb dX4_init_21 (by decide) ?_
  refine g_newaD hx hb (hts (.arrayClass .double) (by decide +kernel)) hE hP hD hS hA (k := 480) (by decide) (Nat.le_of_ble_eq_true rfl) (Nat.le_of_ble_eq_true rfl) dX4_init_24 (fun a_shr H hP hD hS => ?_)
  obtain ⟨p_shr, hp_shr⟩ : ∃ z, z = (((ws ++ [((a_told, eN y 12 ((fun _ => 0))) : Nat × va_E)]) ++ [((a_adp, eN y 12 ((fun _ => 0))) : Nat × va_E)])).length := ⟨_, rfl⟩
  have e24_0_spd := g_ap (z := (a_shr, eD y 480 ((fun _ => 0)))) e15_0_spd
  have e24_0_told := g_ap (z := (a_shr, eD y 480 ((fun _ => 0)))) e15_0_told
  have e24_0_adp := g_ap (z := (a_shr, eD y 480 ((fun _ => 0)))) e15_0_adp
  have e24_0_shr : (((ws ++ [((a_told, eN y 12 ((fun _ => 0))) : Nat × va_E)]) ++ [((a_adp, eN y 12 ((fun _ => 0))) : Nat × va_E)]) ++ [((a_shr, eD y 480 ((fun _ => 0))) : Nat × va_E)])[p_shr]? = some (a_shr, eD y 480 ((fun _ => 0))) := by rw [hp_shr]; exact g_apN
  have q24_0 : ((((ws ++ [((a_told, eN y 12 ((fun _ => 0))) : Nat × va_E)]) ++ [((a_adp, eN y 12 ((fun _ => 0))) : Nat × va_E)]).set p_spd (a_spd, .inr (5, [.ref a_told, .ref a_adp, x_spd_2]))) ++ [((a_shr, eD y 480 ((fun _ => 0))) : Nat × va_E)]) = ((((ws ++ [((a_told, eN y 12 ((fun _ => 0))) : Nat × va_E)]) ++ [((a_adp, eN y 12 ((fun _ => 0))) : Nat × va_E)]) ++ [((a_shr, eD y 480 ((fun _ => 0))) : Nat × va_E)]).set p_spd (a_spd, .inr (5, [.ref a_told, .ref a_adp, x_spd_2]))) := (g_sa (g_lt e15_0_spd))
  have hP : gvP D vwCl ((((ws ++ [((a_told, eN y 12 ((fun _ => 0))) : Nat × va_E)]) ++ [((a_adp, eN y 12 ((fun _ => 0))) : Nat × va_E)]).set p_spd (a_spd, .inr (5, [.ref a_told, .ref a_adp, x_spd_2]))) ++ [((a_shr, eD y 480 ((fun _ => 0))) : Nat × va_E)]) _ := hP
  have hD : gvD A ((((ws ++ [((a_told, eN y 12 ((fun _ => 0))) : Nat × va_E)]) ++ [((a_adp, eN y 12 ((fun _ => 0))) : Nat × va_E)]).set p_spd (a_spd, .inr (5, [.ref a_told, .ref a_adp, x_spd_2]))) ++ [((a_shr, eD y 480 ((fun _ => 0))) : Nat × va_E)]) := hD
  have hP : gvP D vwCl ((((ws ++ [((a_told, eN y 12 ((fun _ => 0))) : Nat × va_E)]) ++ [((a_adp, eN y 12 ((fun _ => 0))) : Nat × va_E)]) ++ [((a_shr, eD y 480 ((fun _ => 0))) : Nat × va_E)]).set p_spd (a_spd, .inr (5, [.ref a_told, .ref a_adp, x_spd_2]))) _ := g_trP (by rw [q24_0]) hP
  have hD : gvD A ((((ws ++ [((a_told, eN y 12 ((fun _ => 0))) : Nat × va_E)]) ++ [((a_adp, eN y 12 ((fun _ => 0))) : Nat × va_E)]) ++ [((a_shr, eD y 480 ((fun _ => 0))) : Nat × va_E)]).set p_spd (a_spd, .inr (5, [.ref a_told, .ref a_adp, x_spd_2]))) := g_trD (by rw [q24_0]) hD
  have f_spd := g_eq (x := (a_spd, .inr (5, [.ref a_told, .ref a_adp, x_spd_2]))) (e24_0_spd)
  have f_told := g_ne (x := (a_spd, .inr (5, [.ref a_told, .ref a_adp, x_spd_2]))) (g_kne e24_0_spd e24_0_told (Nat.ne_of_beq_eq_false rfl)) (e24_0_told)
  have f_adp := g_ne (x := (a_spd, .inr (5, [.ref a_told, .ref a_adp, x_spd_2]))) (g_kne e24_0_spd e24_0_adp (Nat.ne_of_beq_eq_false rfl)) (e24_0_adp)
  have f_shr := g_ne (x := (a_spd, .inr (5, [.ref a_told, .ref a_adp, x_spd_2]))) (g_kne e24_0_spd e24_0_shr (Nat.ne_of_beq_eq_false rfl)) (e24_0_shr)
  refine gv_set f_spd rfl (by rfl) (fun k9 h9 kk9 => va_putF (D := D) (ci := 5) (v := .ref a_shr) (ty := (.array .double)) (C := RX4) (T := TX4) (N := 3) hx hb hts in_RX4 tyX4 tyX4_ok nmX4 hown hE.1 hP hD hS k9 h9 rfl 2 (by decide) (hts (.fieldLink RX4 18 "BasketryOffice$Spendings" "shares" "[D") (by decide +kernel)) (fun _ h9 => h9) rfl (show meth.name = "<init>" from hnm) rfl (by decide +kernel) rfl rfl (Nat.le_of_ble_eq_true rfl) dX4_init_26 kk9) (fun H locs hP hD hS => ?_)
  have hP := g_trP g_ss hP
  have hD := g_trD g_ss hD
  have f_spd := g_eq (x := (a_spd, .inr (5, [.ref a_told, .ref a_adp, .ref a_shr]))) (e24_0_spd)
  have f_told := g_ne (x := (a_spd, .inr (5, [.ref a_told, .ref a_adp, .ref a_shr]))) (g_kne e24_0_spd e24_0_told (Nat.ne_of_beq_eq_false rfl)) (e24_0_told)
  have f_adp := g_ne (x := (a_spd, .inr (5, [.ref a_told, .ref a_adp, .ref a_shr]))) (g_kne e24_0_spd e24_0_adp (Nat.ne_of_beq_eq_false rfl)) (e24_0_adp)
  have f_shr := g_ne (x := (a_spd, .inr (5, [.ref a_told, .ref a_adp, .ref a_shr]))) (g_kne e24_0_spd e24_0_shr (Nat.ne_of_beq_eq_false rfl)) (e24_0_shr)
  subst hp_shr
  subst hp_adp
  subst hp_told
  refine g_vret hx hb hr hlocks (a_told, a_adp, a_shr) dX4_init_29 hS hP hD ?_
  exact trivial
