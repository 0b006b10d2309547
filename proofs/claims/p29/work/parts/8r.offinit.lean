theorem in_c_X2_init_RJx4a65c : ∀ w ∈ wsJx4a65c0, w ∈ wsX2_init := by decide +kernel
theorem in_c_X2_init_RX2 : ∀ w ∈ wsX20, w ∈ wsX2_init := by decide +kernel
set_option maxHeartbeats 4000000 in
set_option maxRecDepth 100000 in
theorem c_X2_init (l : Launch) {D : va_G} {y : Nat → Nat} {ws : va_W} {x_led_0 : Value} {x_led_1 : Value} {x_led_2 : Value} {x_led_3 : Value} {x_led_4 : Value} {x_led_5 : Value} {x_led_6 : Value} {x_led_7 : Value} {mi : Nat} {p_led a_led a_emp : Nat} (f0_led : ws[p_led]? = some (a_led, .inr (3, [x_led_0, x_led_1, x_led_2, x_led_3, x_led_4, x_led_5, x_led_6, x_led_7, .int (nI (0)), .int (nI (0))]))) : gYv l yX2_init wsX2_init ({ frames := 4, cells := 8, slots := 8067, locals := 83 }) D y a_emp mi [.ref a_led] ws (fun (u : va_W) => gKeep ws u [p_led] ∧ u.length = ws.length + 8 ∧ ∃ a_itl a_cents a_grams a_cf a_cc a_fx a_lc a_lg : Nat, u[p_led]? = some (a_led, .inr (3, [.ref a_itl, .ref a_cents, .ref a_grams, .ref a_cf, .ref a_cc, .ref a_fx, .ref a_lc, .ref a_lg, .int (nI (0)), .int (nI (0))])) ∧ u[ws.length + 0]? = some (a_itl, .inr (0, [.int (nI (0)), .ref a_emp, .int (nI (0))])) ∧ u[ws.length + 1]? = some (a_cents, eN y 1152 ((fun _ => 0))) ∧ u[ws.length + 2]? = some (a_grams, eN y 1152 ((fun _ => 0))) ∧ u[ws.length + 3]? = some (a_cf, eZ y 1152 ((fun _ => false))) ∧ u[ws.length + 4]? = some (a_cc, eN y 1152 ((fun _ => 0))) ∧ u[ws.length + 5]? = some (a_fx, eZ y 1152 ((fun _ => false))) ∧ u[ws.length + 6]? = some (a_lc, eN y 1152 ((fun _ => 0))) ∧ u[ws.length + 7]? = some (a_lg, eN y 1152 ((fun _ => 0)))) (fun (u : va_W) => u) := by
  refine g_mety_v (cc := cX2_init) (maxL := 1) (by decide) rfl (Nat.le_of_ble_eq_true rfl) ?_
  intro p e s m below meth c A hx hb hml hr hts hown hnm hlocks hE hP hD hS hA hY ls hl
  have hown : s.vm.findClass RX2 = some m.cls := hown
  have hl : lv_has ls 1 [(0, .ref a_led)] := hl
  have in_RJx4a65c := in_c_X2_init_RJx4a65c
  have in_RX2 := in_c_X2_init_RX2
  refine lv_aload_n hx hb dX2_init_0 rfl (lv_at hl 0 rfl) ?_
  refine W.objInit hx hb hown (hts (.methodLink RX2 3 objectInit) (by decide +kernel)) (hts (.instanceMethod objectInit) (by decide +kernel)) (hts _ (List.mem_of_getElem? (i := 3) rfl)) rfl (by rw [hml]; exact hl.1) rfl dX2_init_1 (Nat.le_of_ble_eq_true rfl) (Nat.le_of_ble_eq_true rfl) ?_
  refine W.eq (g2 := F0 m 4 ls []) rfl ?_
  refine lv_aload_n hx hb dX2_init_4 rfl (lv_at hl 0 rfl) ?_
  refine gv_add (by intro _; rfl) (fun kk9 => va_new (ci := 0) (fs := [.int (nI (0)), .null, .int (nI (0))]) (C := RJx4a65c) (T := TJx4a65c) (N := 3) hx hb hts in_RJx4a65c tyJx4a65c tyJx4a65c_ok hown (hts (.classLink RX2 9 RJx4a65c) (by decide +kernel)) (hts (.instantiable RJx4a65c 3) (by decide +kernel)) (hts (.initialized RJx4a65c) (by decide +kernel)) hE.1 hP hD hS hA rfl (fun j hj => by rcases (show j = 0 ∨ j = 1 ∨ j = 2 by omega) with rfl | rfl | rfl <;> rfl) (Nat.le_of_ble_eq_true rfl) (Nat.le_of_ble_eq_true rfl) dX2_init_5 kk9) (fun a_itl H hP hD hS => ?_)
  obtain ⟨p_itl, hp_itl⟩ : ∃ z, z = (ws).length := ⟨_, rfl⟩
  obtain ⟨B5_0, hB5_0⟩ : ∃ B, B = (ws ++ [((a_itl, .inr (0, [.int (nI (0)), .null, .int (nI (0))])) : Nat × va_E)]) := ⟨_, rfl⟩
  have hq_itl : p_itl = ws.length + 0 := hp_itl
  have hLB5_0 : B5_0.length = ws.length + 1 := by rw [hB5_0, List.length_append]; rfl
  have hKB5_0 : gKeep ws B5_0 [p_led] := gKeep.app hB5_0 (gKeep.refl ws _)
  have e5_0_itl : B5_0[p_itl]? = some (a_itl, .inr (0, [.int (nI (0)), .null, .int (nI (0))])) := by rw [hB5_0, hp_itl]; exact g_apN
  have q5_0 : (ws ++ [((a_itl, .inr (0, [.int (nI (0)), .null, .int (nI (0))])) : Nat × va_E)]) = B5_0 := hB5_0.symm
  have hP : gvP D vwCl (ws ++ [((a_itl, .inr (0, [.int (nI (0)), .null, .int (nI (0))])) : Nat × va_E)]) _ := hP
  have hD : gvD A (ws ++ [((a_itl, .inr (0, [.int (nI (0)), .null, .int (nI (0))])) : Nat × va_E)]) := hD
  have hP : gvP D vwCl B5_0 _ := g_trP (by rw [q5_0]) hP
  have hD : gvD A B5_0 := g_trD (by rw [q5_0]) hD
  refine lv_dup hx hb dX2_init_8 rfl ?_
  have f_itl := e5_0_itl
  refine gcy_I_v (As := []) (rest := [.ref a_itl, .ref a_led]) (c_Jx4a65c_init_da8c8 l f_itl) ⟨hx, hb, hml, hown, hts⟩ (cwI 0 hts gX2_init_Jx4a65c_init_da8c8 rfl rfl rfl (hts (.initialized RJx4a65c) (by decide +kernel)) (hts (.methodLink RX2 11 yJx4a65c_init_da8c8) (by decide +kernel)) (hts (.instanceMethod yJx4a65c_init_da8c8) (by decide +kernel)) rfl (by decide +kernel) ⟨Nat.le_of_ble_eq_true rfl, Nat.le_of_ble_eq_true rfl⟩) hE hY hP hD hS hA rfl rfl hl.1 (Nat.le_of_ble_eq_true rfl) dX2_init_9 ⟨Nat.le_of_ble_eq_true rfl, Nat.le_of_ble_eq_true rfl⟩ (fun u_9 H locs hP hD hS q_9 => ?_)
  have e5_0_led := g_apE hB5_0 f0_led
  have f_led := g_ne (x := (a_itl, .inr (0, [.int (nI (0)), .ref a_emp, .int (nI (0))]))) (g_kne e5_0_itl e5_0_led (Nat.ne_of_beq_eq_false rfl)) (e5_0_led)
  refine gv_set f_led rfl (by rfl) (fun k9 h9 kk9 => va_putF (D := D) (ci := 3) (v := .ref a_itl) (ty := (.object "java/util/ArrayList")) (C := RX2) (T := TX2) (N := 10) hx hb hts in_RX2 tyX2 tyX2_ok nmX2 hown hE.1 hP hD hS k9 h9 rfl 0 (by decide) (hts (.fieldLink RX2 12 "BasketryOffice$Ledger" "items" "Ljava/util/ArrayList;") (by decide +kernel)) (fun _ h9 => h9) rfl (show meth.name = "<init>" from hnm) rfl (by decide +kernel) rfl rfl (Nat.le_of_ble_eq_true rfl) dX2_init_12 kk9) (fun H locs hP hD hS => ?_)
  refine lv_aload_n hx hb dX2_init_15 rfl (lv_at hl 0 rfl) ?_
  refine lv_sipush (v := nI 1152) hx hb dX2_init_16 (by decide) ?_
  refine g_newaN hx hb (hts (.arrayClass .int) (by decide +kernel)) hE hP hD hS hA (k := 1152) (by decide) (Nat.le_of_ble_eq_true rfl) (Nat.le_of_ble_eq_true rfl) dX2_init_19 (fun a_cents H hP hD hS => ?_)
  obtain ⟨p_cents, hp_cents⟩ : ∃ z, z = (B5_0).length := ⟨_, rfl⟩
  obtain ⟨B19_0, hB19_0⟩ : ∃ B, B = (B5_0 ++ [((a_cents, eN y 1152 ((fun _ => 0))) : Nat × va_E)]) := ⟨_, rfl⟩
  have hq_cents : p_cents = ws.length + 1 := hp_cents.trans hLB5_0
  have hLB19_0 : B19_0.length = ws.length + 2 := by rw [hB19_0, List.length_append, hLB5_0]; rfl
  have hKB19_0 : gKeep ws B19_0 [p_led] := gKeep.app hB19_0 hKB5_0
  have e19_0_cents : B19_0[p_cents]? = some (a_cents, eN y 1152 ((fun _ => 0))) := by rw [hB19_0, hp_cents]; exact g_apN
  have q19_0 : (((B5_0.set p_itl (a_itl, .inr (0, [.int (nI (0)), .ref a_emp, .int (nI (0))]))).set p_led (a_led, .inr (3, [.ref a_itl, x_led_1, x_led_2, x_led_3, x_led_4, x_led_5, x_led_6, x_led_7, .int (nI (0)), .int (nI (0))]))) ++ [((a_cents, eN y 1152 ((fun _ => 0))) : Nat × va_E)]) = ((B19_0.set p_itl (a_itl, .inr (0, [.int (nI (0)), .ref a_emp, .int (nI (0))]))).set p_led (a_led, .inr (3, [.ref a_itl, x_led_1, x_led_2, x_led_3, x_led_4, x_led_5, x_led_6, x_led_7, .int (nI (0)), .int (nI (0))]))) := by rw [hB19_0]; exact (Eq.trans (g_sa (g_ltS (g_lt e5_0_led))) (g_c (g_sa (g_lt e5_0_itl))))
  have hP : gvP D vwCl (((B5_0.set p_itl (a_itl, .inr (0, [.int (nI (0)), .ref a_emp, .int (nI (0))]))).set p_led (a_led, .inr (3, [.ref a_itl, x_led_1, x_led_2, x_led_3, x_led_4, x_led_5, x_led_6, x_led_7, .int (nI (0)), .int (nI (0))]))) ++ [((a_cents, eN y 1152 ((fun _ => 0))) : Nat × va_E)]) _ := hP
  have hD : gvD A (((B5_0.set p_itl (a_itl, .inr (0, [.int (nI (0)), .ref a_emp, .int (nI (0))]))).set p_led (a_led, .inr (3, [.ref a_itl, x_led_1, x_led_2, x_led_3, x_led_4, x_led_5, x_led_6, x_led_7, .int (nI (0)), .int (nI (0))]))) ++ [((a_cents, eN y 1152 ((fun _ => 0))) : Nat × va_E)]) := hD
  have hP : gvP D vwCl ((B19_0.set p_itl (a_itl, .inr (0, [.int (nI (0)), .ref a_emp, .int (nI (0))]))).set p_led (a_led, .inr (3, [.ref a_itl, x_led_1, x_led_2, x_led_3, x_led_4, x_led_5, x_led_6, x_led_7, .int (nI (0)), .int (nI (0))]))) _ := g_trP (by rw [q19_0]) hP
  have hD : gvD A ((B19_0.set p_itl (a_itl, .inr (0, [.int (nI (0)), .ref a_emp, .int (nI (0))]))).set p_led (a_led, .inr (3, [.ref a_itl, x_led_1, x_led_2, x_led_3, x_led_4, x_led_5, x_led_6, x_led_7, .int (nI (0)), .int (nI (0))]))) := g_trD (by rw [q19_0]) hD
  have e19_0_led := g_apE hB19_0 e5_0_led
  have e19_0_itl := g_apE hB19_0 e5_0_itl
  have f_led := g_eq (x := (a_led, .inr (3, [.ref a_itl, x_led_1, x_led_2, x_led_3, x_led_4, x_led_5, x_led_6, x_led_7, .int (nI (0)), .int (nI (0))]))) (g_ne (x := (a_itl, .inr (0, [.int (nI (0)), .ref a_emp, .int (nI (0))]))) (g_kne e19_0_itl e19_0_led (Nat.ne_of_beq_eq_false rfl)) (e19_0_led))
  refine gv_set f_led rfl (by rfl) (fun k9 h9 kk9 => va_putF (D := D) (ci := 3) (v := .ref a_cents) (ty := (.array .int)) (C := RX2) (T := TX2) (N := 10) hx hb hts in_RX2 tyX2 tyX2_ok nmX2 hown hE.1 hP hD hS k9 h9 rfl 1 (by decide) (hts (.fieldLink RX2 18 "BasketryOffice$Ledger" "cents" "[I") (by decide +kernel)) (fun _ h9 => h9) rfl (show meth.name = "<init>" from hnm) rfl (by decide +kernel) rfl rfl (Nat.le_of_ble_eq_true rfl) dX2_init_21 kk9) (fun H locs hP hD hS => ?_)
  have hP := g_trP g_ss hP
  have hD := g_trD g_ss hD
  refine lv_aload_n hx hb dX2_init_24 rfl (lv_at hl 0 rfl) ?_
  refine lv_sipush (v := nI 1152) hx hb dX2_init_25 (by decide) ?_
  refine g_newaN hx hb (hts (.arrayClass .int) (by decide +kernel)) hE hP hD hS hA (k := 1152) (by decide) (Nat.le_of_ble_eq_true rfl) (Nat.le_of_ble_eq_true rfl) dX2_init_28 (fun a_grams H hP hD hS => ?_)
  obtain ⟨p_grams, hp_grams⟩ : ∃ z, z = (B19_0).length := ⟨_, rfl⟩
  obtain ⟨B28_0, hB28_0⟩ : ∃ B, B = (B19_0 ++ [((a_grams, eN y 1152 ((fun _ => 0))) : Nat × va_E)]) := ⟨_, rfl⟩
  have hq_grams : p_grams = ws.length + 2 := hp_grams.trans hLB19_0
  have hLB28_0 : B28_0.length = ws.length + 3 := by rw [hB28_0, List.length_append, hLB19_0]; rfl
  have hKB28_0 : gKeep ws B28_0 [p_led] := gKeep.app hB28_0 hKB19_0
  have e28_0_grams : B28_0[p_grams]? = some (a_grams, eN y 1152 ((fun _ => 0))) := by rw [hB28_0, hp_grams]; exact g_apN
  have q28_0 : (((B19_0.set p_itl (a_itl, .inr (0, [.int (nI (0)), .ref a_emp, .int (nI (0))]))).set p_led (a_led, .inr (3, [.ref a_itl, .ref a_cents, x_led_2, x_led_3, x_led_4, x_led_5, x_led_6, x_led_7, .int (nI (0)), .int (nI (0))]))) ++ [((a_grams, eN y 1152 ((fun _ => 0))) : Nat × va_E)]) = ((B28_0.set p_itl (a_itl, .inr (0, [.int (nI (0)), .ref a_emp, .int (nI (0))]))).set p_led (a_led, .inr (3, [.ref a_itl, .ref a_cents, x_led_2, x_led_3, x_led_4, x_led_5, x_led_6, x_led_7, .int (nI (0)), .int (nI (0))]))) := by rw [hB28_0]; exact (Eq.trans (g_sa (g_ltS (g_lt e19_0_led))) (g_c (g_sa (g_lt e19_0_itl))))
  have hP : gvP D vwCl (((B19_0.set p_itl (a_itl, .inr (0, [.int (nI (0)), .ref a_emp, .int (nI (0))]))).set p_led (a_led, .inr (3, [.ref a_itl, .ref a_cents, x_led_2, x_led_3, x_led_4, x_led_5, x_led_6, x_led_7, .int (nI (0)), .int (nI (0))]))) ++ [((a_grams, eN y 1152 ((fun _ => 0))) : Nat × va_E)]) _ := hP
  have hD : gvD A (((B19_0.set p_itl (a_itl, .inr (0, [.int (nI (0)), .ref a_emp, .int (nI (0))]))).set p_led (a_led, .inr (3, [.ref a_itl, .ref a_cents, x_led_2, x_led_3, x_led_4, x_led_5, x_led_6, x_led_7, .int (nI (0)), .int (nI (0))]))) ++ [((a_grams, eN y 1152 ((fun _ => 0))) : Nat × va_E)]) := hD
  have hP : gvP D vwCl ((B28_0.set p_itl (a_itl, .inr (0, [.int (nI (0)), .ref a_emp, .int (nI (0))]))).set p_led (a_led, .inr (3, [.ref a_itl, .ref a_cents, x_led_2, x_led_3, x_led_4, x_led_5, x_led_6, x_led_7, .int (nI (0)), .int (nI (0))]))) _ := g_trP (by rw [q28_0]) hP
  have hD : gvD A ((B28_0.set p_itl (a_itl, .inr (0, [.int (nI (0)), .ref a_emp, .int (nI (0))]))).set p_led (a_led, .inr (3, [.ref a_itl, .ref a_cents, x_led_2, x_led_3, x_led_4, x_led_5, x_led_6, x_led_7, .int (nI (0)), .int (nI (0))]))) := g_trD (by rw [q28_0]) hD
  have e28_0_led := g_apE hB28_0 e19_0_led
  have e28_0_itl := g_apE hB28_0 e19_0_itl
  have f_led := g_eq (x := (a_led, .inr (3, [.ref a_itl, .ref a_cents, x_led_2, x_led_3, x_led_4, x_led_5, x_led_6, x_led_7, .int (nI (0)), .int (nI (0))]))) (g_ne (x := (a_itl, .inr (0, [.int (nI (0)), .ref a_emp, .int (nI (0))]))) (g_kne e28_0_itl e28_0_led (Nat.ne_of_beq_eq_false rfl)) (e28_0_led))
  refine gv_set f_led rfl (by rfl) (fun k9 h9 kk9 => va_putF (D := D) (ci := 3) (v := .ref a_grams) (ty := (.array .int)) (C := RX2) (T := TX2) (N := 10) hx hb hts in_RX2 tyX2 tyX2_ok nmX2 hown hE.1 hP hD hS k9 h9 rfl 2 (by decide) (hts (.fieldLink RX2 22 "BasketryOffice$Ledger" "grams" "[I") (by decide +kernel)) (fun _ h9 => h9) rfl (show meth.name = "<init>" from hnm) rfl (by decide +kernel) rfl rfl (Nat.le_of_ble_eq_true rfl) dX2_init_30 kk9) (fun H locs hP hD hS => ?_)
  have hP := g_trP g_ss hP
  have hD := g_trD g_ss hD
  refine lv_aload_n hx hb dX2_init_33 rfl (lv_at hl 0 rfl) ?_
  refine lv_sipush (v := nI 1152) hx hb dX2_init_34 (by decide) ?_
  refine g_newaZ hx hb (hts (.arrayClass .boolean) (by decide +kernel)) hE hP hD hS hA (k := 1152) (by decide) (Nat.le_of_ble_eq_true rfl) (Nat.le_of_ble_eq_true rfl) dX2_init_37 (fun a_cf H hP hD hS => ?_)
  obtain ⟨p_cf, hp_cf⟩ : ∃ z, z = (B28_0).length := ⟨_, rfl⟩
  obtain ⟨B37_0, hB37_0⟩ : ∃ B, B = (B28_0 ++ [((a_cf, eZ y 1152 ((fun _ => false))) : Nat × va_E)]) := ⟨_, rfl⟩
  have hq_cf : p_cf = ws.length + 3 := hp_cf.trans hLB28_0
  have hLB37_0 : B37_0.length = ws.length + 4 := by rw [hB37_0, List.length_append, hLB28_0]; rfl
  have hKB37_0 : gKeep ws B37_0 [p_led] := gKeep.app hB37_0 hKB28_0
  have e37_0_cf : B37_0[p_cf]? = some (a_cf, eZ y 1152 ((fun _ => false))) := by rw [hB37_0, hp_cf]; exact g_apN
  have q37_0 : (((B28_0.set p_itl (a_itl, .inr (0, [.int (nI (0)), .ref a_emp, .int (nI (0))]))).set p_led (a_led, .inr (3, [.ref a_itl, .ref a_cents, .ref a_grams, x_led_3, x_led_4, x_led_5, x_led_6, x_led_7, .int (nI (0)), .int (nI (0))]))) ++ [((a_cf, eZ y 1152 ((fun _ => false))) : Nat × va_E)]) = ((B37_0.set p_itl (a_itl, .inr (0, [.int (nI (0)), .ref a_emp, .int (nI (0))]))).set p_led (a_led, .inr (3, [.ref a_itl, .ref a_cents, .ref a_grams, x_led_3, x_led_4, x_led_5, x_led_6, x_led_7, .int (nI (0)), .int (nI (0))]))) := by rw [hB37_0]; exact (Eq.trans (g_sa (g_ltS (g_lt e28_0_led))) (g_c (g_sa (g_lt e28_0_itl))))
  have hP : gvP D vwCl (((B28_0.set p_itl (a_itl, .inr (0, [.int (nI (0)), .ref a_emp, .int (nI (0))]))).set p_led (a_led, .inr (3, [.ref a_itl, .ref a_cents, .ref a_grams, x_led_3, x_led_4, x_led_5, x_led_6, x_led_7, .int (nI (0)), .int (nI (0))]))) ++ [((a_cf, eZ y 1152 ((fun _ => false))) : Nat × va_E)]) _ := hP
  have hD : gvD A (((B28_0.set p_itl (a_itl, .inr (0, [.int (nI (0)), .ref a_emp, .int (nI (0))]))).set p_led (a_led, .inr (3, [.ref a_itl, .ref a_cents, .ref a_grams, x_led_3, x_led_4, x_led_5, x_led_6, x_led_7, .int (nI (0)), .int (nI (0))]))) ++ [((a_cf, eZ y 1152 ((fun _ => false))) : Nat × va_E)]) := hD
  have hP : gvP D vwCl ((B37_0.set p_itl (a_itl, .inr (0, [.int (nI (0)), .ref a_emp, .int (nI (0))]))).set p_led (a_led, .inr (3, [.ref a_itl, .ref a_cents, .ref a_grams, x_led_3, x_led_4, x_led_5, x_led_6, x_led_7, .int (nI (0)), .int (nI (0))]))) _ := g_trP (by rw [q37_0]) hP
  have hD : gvD A ((B37_0.set p_itl (a_itl, .inr (0, [.int (nI (0)), .ref a_emp, .int (nI (0))]))).set p_led (a_led, .inr (3, [.ref a_itl, .ref a_cents, .ref a_grams, x_led_3, x_led_4, x_led_5, x_led_6, x_led_7, .int (nI (0)), .int (nI (0))]))) := g_trD (by rw [q37_0]) hD
  have e37_0_led := g_apE hB37_0 e28_0_led
  have e37_0_itl := g_apE hB37_0 e28_0_itl
  have f_led := g_eq (x := (a_led, .inr (3, [.ref a_itl, .ref a_cents, .ref a_grams, x_led_3, x_led_4, x_led_5, x_led_6, x_led_7, .int (nI (0)), .int (nI (0))]))) (g_ne (x := (a_itl, .inr (0, [.int (nI (0)), .ref a_emp, .int (nI (0))]))) (g_kne e37_0_itl e37_0_led (Nat.ne_of_beq_eq_false rfl)) (e37_0_led))
  refine gv_set f_led rfl (by rfl) (fun k9 h9 kk9 => va_putF (D := D) (ci := 3) (v := .ref a_cf) (ty := (.array .boolean)) (C := RX2) (T := TX2) (N := 10) hx hb hts in_RX2 tyX2 tyX2_ok nmX2 hown hE.1 hP hD hS k9 h9 rfl 3 (by decide) (hts (.fieldLink RX2 25 "BasketryOffice$Ledger" "confirmed" "[Z") (by decide +kernel)) (fun _ h9 => h9) rfl (show meth.name = "<init>" from hnm) rfl (by decide +kernel) rfl rfl (Nat.le_of_ble_eq_true rfl) dX2_init_39 kk9) (fun H locs hP hD hS => ?_)
  have hP := g_trP g_ss hP
  have hD := g_trD g_ss hD
  refine lv_aload_n hx hb dX2_init_42 rfl (lv_at hl 0 rfl) ?_
  refine lv_sipush (v := nI 1152) hx hb dX2_init_43 (by decide) ?_
  refine g_newaN hx hb (hts (.arrayClass .int) (by decide +kernel)) hE hP hD hS hA (k := 1152) (by decide) (Nat.le_of_ble_eq_true rfl) (Nat.le_of_ble_eq_true rfl) dX2_init_46 (fun a_cc H hP hD hS => ?_)
  obtain ⟨p_cc, hp_cc⟩ : ∃ z, z = (B37_0).length := ⟨_, rfl⟩
  obtain ⟨B46_0, hB46_0⟩ : ∃ B, B = (B37_0 ++ [((a_cc, eN y 1152 ((fun _ => 0))) : Nat × va_E)]) := ⟨_, rfl⟩
  have hq_cc : p_cc = ws.length + 4 := hp_cc.trans hLB37_0
  have hLB46_0 : B46_0.length = ws.length + 5 := by rw [hB46_0, List.length_append, hLB37_0]; rfl
  have hKB46_0 : gKeep ws B46_0 [p_led] := gKeep.app hB46_0 hKB37_0
  have e46_0_cc : B46_0[p_cc]? = some (a_cc, eN y 1152 ((fun _ => 0))) := by rw [hB46_0, hp_cc]; exact g_apN
  have q46_0 : (((B37_0.set p_itl (a_itl, .inr (0, [.int (nI (0)), .ref a_emp, .int (nI (0))]))).set p_led (a_led, .inr (3, [.ref a_itl, .ref a_cents, .ref a_grams, .ref a_cf, x_led_4, x_led_5, x_led_6, x_led_7, .int (nI (0)), .int (nI (0))]))) ++ [((a_cc, eN y 1152 ((fun _ => 0))) : Nat × va_E)]) = ((B46_0.set p_itl (a_itl, .inr (0, [.int (nI (0)), .ref a_emp, .int (nI (0))]))).set p_led (a_led, .inr (3, [.ref a_itl, .ref a_cents, .ref a_grams, .ref a_cf, x_led_4, x_led_5, x_led_6, x_led_7, .int (nI (0)), .int (nI (0))]))) := by rw [hB46_0]; exact (Eq.trans (g_sa (g_ltS (g_lt e37_0_led))) (g_c (g_sa (g_lt e37_0_itl))))
  have hP : gvP D vwCl (((B37_0.set p_itl (a_itl, .inr (0, [.int (nI (0)), .ref a_emp, .int (nI (0))]))).set p_led (a_led, .inr (3, [.ref a_itl, .ref a_cents, .ref a_grams, .ref a_cf, x_led_4, x_led_5, x_led_6, x_led_7, .int (nI (0)), .int (nI (0))]))) ++ [((a_cc, eN y 1152 ((fun _ => 0))) : Nat × va_E)]) _ := hP
  have hD : gvD A (((B37_0.set p_itl (a_itl, .inr (0, [.int (nI (0)), .ref a_emp, .int (nI (0))]))).set p_led (a_led, .inr (3, [.ref a_itl, .ref a_cents, .ref a_grams, .ref a_cf, x_led_4, x_led_5, x_led_6, x_led_7, .int (nI (0)), .int (nI (0))]))) ++ [((a_cc, eN y 1152 ((fun _ => 0))) : Nat × va_E)]) := hD
  have hP : gvP D vwCl ((B46_0.set p_itl (a_itl, .inr (0, [.int (nI (0)), .ref a_emp, .int (nI (0))]))).set p_led (a_led, .inr (3, [.ref a_itl, .ref a_cents, .ref a_grams, .ref a_cf, x_led_4, x_led_5, x_led_6, x_led_7, .int (nI (0)), .int (nI (0))]))) _ := g_trP (by rw [q46_0]) hP
  have hD : gvD A ((B46_0.set p_itl (a_itl, .inr (0, [.int (nI (0)), .ref a_emp, .int (nI (0))]))).set p_led (a_led, .inr (3, [.ref a_itl, .ref a_cents, .ref a_grams, .ref a_cf, x_led_4, x_led_5, x_led_6, x_led_7, .int (nI (0)), .int (nI (0))]))) := g_trD (by rw [q46_0]) hD
  have e46_0_led := g_apE hB46_0 e37_0_led
  have e46_0_itl := g_apE hB46_0 e37_0_itl
  have f_led := g_eq (x := (a_led, .inr (3, [.ref a_itl, .ref a_cents, .ref a_grams, .ref a_cf, x_led_4, x_led_5, x_led_6, x_led_7, .int (nI (0)), .int (nI (0))]))) (g_ne (x := (a_itl, .inr (0, [.int (nI (0)), .ref a_emp, .int (nI (0))]))) (g_kne e46_0_itl e46_0_led (Nat.ne_of_beq_eq_false rfl)) (e46_0_led))
  refine gv_set f_led rfl (by rfl) (fun k9 h9 kk9 => va_putF (D := D) (ci := 3) (v := .ref a_cc) (ty := (.array .int)) (C := RX2) (T := TX2) (N := 10) hx hb hts in_RX2 tyX2 tyX2_ok nmX2 hown hE.1 hP hD hS k9 h9 rfl 4 (by decide) (hts (.fieldLink RX2 29 "BasketryOffice$Ledger" "correctedCents" "[I") (by decide +kernel)) (fun _ h9 => h9) rfl (show meth.name = "<init>" from hnm) rfl (by decide +kernel) rfl rfl (Nat.le_of_ble_eq_true rfl) dX2_init_48 kk9) (fun H locs hP hD hS => ?_)
  have hP := g_trP g_ss hP
  have hD := g_trD g_ss hD
  refine lv_aload_n hx hb dX2_init_51 rfl (lv_at hl 0 rfl) ?_
  refine lv_sipush (v := nI 1152) hx hb dX2_init_52 (by decide) ?_
  refine g_newaZ hx hb (hts (.arrayClass .boolean) (by decide +kernel)) hE hP hD hS hA (k := 1152) (by decide) (Nat.le_of_ble_eq_true rfl) (Nat.le_of_ble_eq_true rfl) dX2_init_55 (fun a_fx H hP hD hS => ?_)
  obtain ⟨p_fx, hp_fx⟩ : ∃ z, z = (B46_0).length := ⟨_, rfl⟩
  obtain ⟨B55_0, hB55_0⟩ : ∃ B, B = (B46_0 ++ [((a_fx, eZ y 1152 ((fun _ => false))) : Nat × va_E)]) := ⟨_, rfl⟩
  have hq_fx : p_fx = ws.length + 5 := hp_fx.trans hLB46_0
  have hLB55_0 : B55_0.length = ws.length + 6 := by rw [hB55_0, List.length_append, hLB46_0]; rfl
  have hKB55_0 : gKeep ws B55_0 [p_led] := gKeep.app hB55_0 hKB46_0
  have e55_0_fx : B55_0[p_fx]? = some (a_fx, eZ y 1152 ((fun _ => false))) := by rw [hB55_0, hp_fx]; exact g_apN
  have q55_0 : (((B46_0.set p_itl (a_itl, .inr (0, [.int (nI (0)), .ref a_emp, .int (nI (0))]))).set p_led (a_led, .inr (3, [.ref a_itl, .ref a_cents, .ref a_grams, .ref a_cf, .ref a_cc, x_led_5, x_led_6, x_led_7, .int (nI (0)), .int (nI (0))]))) ++ [((a_fx, eZ y 1152 ((fun _ => false))) : Nat × va_E)]) = ((B55_0.set p_itl (a_itl, .inr (0, [.int (nI (0)), .ref a_emp, .int (nI (0))]))).set p_led (a_led, .inr (3, [.ref a_itl, .ref a_cents, .ref a_grams, .ref a_cf, .ref a_cc, x_led_5, x_led_6, x_led_7, .int (nI (0)), .int (nI (0))]))) := by rw [hB55_0]; exact (Eq.trans (g_sa (g_ltS (g_lt e46_0_led))) (g_c (g_sa (g_lt e46_0_itl))))
  have hP : gvP D vwCl (((B46_0.set p_itl (a_itl, .inr (0, [.int (nI (0)), .ref a_emp, .int (nI (0))]))).set p_led (a_led, .inr (3, [.ref a_itl, .ref a_cents, .ref a_grams, .ref a_cf, .ref a_cc, x_led_5, x_led_6, x_led_7, .int (nI (0)), .int (nI (0))]))) ++ [((a_fx, eZ y 1152 ((fun _ => false))) : Nat × va_E)]) _ := hP
  have hD : gvD A (((B46_0.set p_itl (a_itl, .inr (0, [.int (nI (0)), .ref a_emp, .int (nI (0))]))).set p_led (a_led, .inr (3, [.ref a_itl, .ref a_cents, .ref a_grams, .ref a_cf, .ref a_cc, x_led_5, x_led_6, x_led_7, .int (nI (0)), .int (nI (0))]))) ++ [((a_fx, eZ y 1152 ((fun _ => false))) : Nat × va_E)]) := hD
  have hP : gvP D vwCl ((B55_0.set p_itl (a_itl, .inr (0, [.int (nI (0)), .ref a_emp, .int (nI (0))]))).set p_led (a_led, .inr (3, [.ref a_itl, .ref a_cents, .ref a_grams, .ref a_cf, .ref a_cc, x_led_5, x_led_6, x_led_7, .int (nI (0)), .int (nI (0))]))) _ := g_trP (by rw [q55_0]) hP
  have hD : gvD A ((B55_0.set p_itl (a_itl, .inr (0, [.int (nI (0)), .ref a_emp, .int (nI (0))]))).set p_led (a_led, .inr (3, [.ref a_itl, .ref a_cents, .ref a_grams, .ref a_cf, .ref a_cc, x_led_5, x_led_6, x_led_7, .int (nI (0)), .int (nI (0))]))) := g_trD (by rw [q55_0]) hD
  have e55_0_led := g_apE hB55_0 e46_0_led
  have e55_0_itl := g_apE hB55_0 e46_0_itl
  have f_led := g_eq (x := (a_led, .inr (3, [.ref a_itl, .ref a_cents, .ref a_grams, .ref a_cf, .ref a_cc, x_led_5, x_led_6, x_led_7, .int (nI (0)), .int (nI (0))]))) (g_ne (x := (a_itl, .inr (0, [.int (nI (0)), .ref a_emp, .int (nI (0))]))) (g_kne e55_0_itl e55_0_led (Nat.ne_of_beq_eq_false rfl)) (e55_0_led))
  refine gv_set f_led rfl (by rfl) (fun k9 h9 kk9 => va_putF (D := D) (ci := 3) (v := .ref a_fx) (ty := (.array .boolean)) (C := RX2) (T := TX2) (N := 10) hx hb hts in_RX2 tyX2 tyX2_ok nmX2 hown hE.1 hP hD hS k9 h9 rfl 5 (by decide) (hts (.fieldLink RX2 32 "BasketryOffice$Ledger" "fixed" "[Z") (by decide +kernel)) (fun _ h9 => h9) rfl (show meth.name = "<init>" from hnm) rfl (by decide +kernel) rfl rfl (Nat.le_of_ble_eq_true rfl) dX2_init_57 kk9) (fun H locs hP hD hS => ?_)
  have hP := g_trP g_ss hP
  have hD := g_trD g_ss hD
  refine lv_aload_n hx hb dX2_init_60 rfl (lv_at hl 0 rfl) ?_
  refine lv_sipush (v := nI 1152) hx hb dX2_init_61 (by decide) ?_
  refine g_newaN hx hb (hts (.arrayClass .int) (by decide +kernel)) hE hP hD hS hA (k := 1152) (by decide) (Nat.le_of_ble_eq_true rfl) (Nat.le_of_ble_eq_true rfl) dX2_init_64 (fun a_lc H hP hD hS => ?_)
  obtain ⟨p_lc, hp_lc⟩ : ∃ z, z = (B55_0).length := ⟨_, rfl⟩
  obtain ⟨B64_0, hB64_0⟩ : ∃ B, B = (B55_0 ++ [((a_lc, eN y 1152 ((fun _ => 0))) : Nat × va_E)]) := ⟨_, rfl⟩
  have hq_lc : p_lc = ws.length + 6 := hp_lc.trans hLB55_0
  have hLB64_0 : B64_0.length = ws.length + 7 := by rw [hB64_0, List.length_append, hLB55_0]; rfl
  have hKB64_0 : gKeep ws B64_0 [p_led] := gKeep.app hB64_0 hKB55_0
  have e64_0_lc : B64_0[p_lc]? = some (a_lc, eN y 1152 ((fun _ => 0))) := by rw [hB64_0, hp_lc]; exact g_apN
  have q64_0 : (((B55_0.set p_itl (a_itl, .inr (0, [.int (nI (0)), .ref a_emp, .int (nI (0))]))).set p_led (a_led, .inr (3, [.ref a_itl, .ref a_cents, .ref a_grams, .ref a_cf, .ref a_cc, .ref a_fx, x_led_6, x_led_7, .int (nI (0)), .int (nI (0))]))) ++ [((a_lc, eN y 1152 ((fun _ => 0))) : Nat × va_E)]) = ((B64_0.set p_itl (a_itl, .inr (0, [.int (nI (0)), .ref a_emp, .int (nI (0))]))).set p_led (a_led, .inr (3, [.ref a_itl, .ref a_cents, .ref a_grams, .ref a_cf, .ref a_cc, .ref a_fx, x_led_6, x_led_7, .int (nI (0)), .int (nI (0))]))) := by rw [hB64_0]; exact (Eq.trans (g_sa (g_ltS (g_lt e55_0_led))) (g_c (g_sa (g_lt e55_0_itl))))
  have hP : gvP D vwCl (((B55_0.set p_itl (a_itl, .inr (0, [.int (nI (0)), .ref a_emp, .int (nI (0))]))).set p_led (a_led, .inr (3, [.ref a_itl, .ref a_cents, .ref a_grams, .ref a_cf, .ref a_cc, .ref a_fx, x_led_6, x_led_7, .int (nI (0)), .int (nI (0))]))) ++ [((a_lc, eN y 1152 ((fun _ => 0))) : Nat × va_E)]) _ := hP
  have hD : gvD A (((B55_0.set p_itl (a_itl, .inr (0, [.int (nI (0)), .ref a_emp, .int (nI (0))]))).set p_led (a_led, .inr (3, [.ref a_itl, .ref a_cents, .ref a_grams, .ref a_cf, .ref a_cc, .ref a_fx, x_led_6, x_led_7, .int (nI (0)), .int (nI (0))]))) ++ [((a_lc, eN y 1152 ((fun _ => 0))) : Nat × va_E)]) := hD
  have hP : gvP D vwCl ((B64_0.set p_itl (a_itl, .inr (0, [.int (nI (0)), .ref a_emp, .int (nI (0))]))).set p_led (a_led, .inr (3, [.ref a_itl, .ref a_cents, .ref a_grams, .ref a_cf, .ref a_cc, .ref a_fx, x_led_6, x_led_7, .int (nI (0)), .int (nI (0))]))) _ := g_trP (by rw [q64_0]) hP
  have hD : gvD A ((B64_0.set p_itl (a_itl, .inr (0, [.int (nI (0)), .ref a_emp, .int (nI (0))]))).set p_led (a_led, .inr (3, [.ref a_itl, .ref a_cents, .ref a_grams, .ref a_cf, .ref a_cc, .ref a_fx, x_led_6, x_led_7, .int (nI (0)), .int (nI (0))]))) := g_trD (by rw [q64_0]) hD
  have e64_0_led := g_apE hB64_0 e55_0_led
  have e64_0_itl := g_apE hB64_0 e55_0_itl
  have f_led := g_eq (x := (a_led, .inr (3, [.ref a_itl, .ref a_cents, .ref a_grams, .ref a_cf, .ref a_cc, .ref a_fx, x_led_6, x_led_7, .int (nI (0)), .int (nI (0))]))) (g_ne (x := (a_itl, .inr (0, [.int (nI (0)), .ref a_emp, .int (nI (0))]))) (g_kne e64_0_itl e64_0_led (Nat.ne_of_beq_eq_false rfl)) (e64_0_led))
  refine gv_set f_led rfl (by rfl) (fun k9 h9 kk9 => va_putF (D := D) (ci := 3) (v := .ref a_lc) (ty := (.array .int)) (C := RX2) (T := TX2) (N := 10) hx hb hts in_RX2 tyX2 tyX2_ok nmX2 hown hE.1 hP hD hS k9 h9 rfl 6 (by decide) (hts (.fieldLink RX2 35 "BasketryOffice$Ledger" "linkCents" "[I") (by decide +kernel)) (fun _ h9 => h9) rfl (show meth.name = "<init>" from hnm) rfl (by decide +kernel) rfl rfl (Nat.le_of_ble_eq_true rfl) dX2_init_66 kk9) (fun H locs hP hD hS => ?_)
  have hP := g_trP g_ss hP
  have hD := g_trD g_ss hD
  refine lv_aload_n hx hb dX2_init_69 rfl (lv_at hl 0 rfl) ?_
  refine lv_sipush (v := nI 1152) hx hb dX2_init_70 (by decide) ?_
  refine g_newaN hx hb (hts (.arrayClass .int) (by decide +kernel)) hE hP hD hS hA (k := 1152) (by decide) (Nat.le_of_ble_eq_true rfl) (Nat.le_of_ble_eq_true rfl) dX2_init_73 (fun a_lg H hP hD hS => ?_)
  obtain ⟨p_lg, hp_lg⟩ : ∃ z, z = (B64_0).length := ⟨_, rfl⟩
  obtain ⟨B73_0, hB73_0⟩ : ∃ B, B = (B64_0 ++ [((a_lg, eN y 1152 ((fun _ => 0))) : Nat × va_E)]) := ⟨_, rfl⟩
  have hq_lg : p_lg = ws.length + 7 := hp_lg.trans hLB64_0
  have hLB73_0 : B73_0.length = ws.length + 8 := by rw [hB73_0, List.length_append, hLB64_0]; rfl
  have hKB73_0 : gKeep ws B73_0 [p_led] := gKeep.app hB73_0 hKB64_0
  have e73_0_lg : B73_0[p_lg]? = some (a_lg, eN y 1152 ((fun _ => 0))) := by rw [hB73_0, hp_lg]; exact g_apN
  have q73_0 : (((B64_0.set p_itl (a_itl, .inr (0, [.int (nI (0)), .ref a_emp, .int (nI (0))]))).set p_led (a_led, .inr (3, [.ref a_itl, .ref a_cents, .ref a_grams, .ref a_cf, .ref a_cc, .ref a_fx, .ref a_lc, x_led_7, .int (nI (0)), .int (nI (0))]))) ++ [((a_lg, eN y 1152 ((fun _ => 0))) : Nat × va_E)]) = ((B73_0.set p_itl (a_itl, .inr (0, [.int (nI (0)), .ref a_emp, .int (nI (0))]))).set p_led (a_led, .inr (3, [.ref a_itl, .ref a_cents, .ref a_grams, .ref a_cf, .ref a_cc, .ref a_fx, .ref a_lc, x_led_7, .int (nI (0)), .int (nI (0))]))) := by rw [hB73_0]; exact (Eq.trans (g_sa (g_ltS (g_lt e64_0_led))) (g_c (g_sa (g_lt e64_0_itl))))
  have hP : gvP D vwCl (((B64_0.set p_itl (a_itl, .inr (0, [.int (nI (0)), .ref a_emp, .int (nI (0))]))).set p_led (a_led, .inr (3, [.ref a_itl, .ref a_cents, .ref a_grams, .ref a_cf, .ref a_cc, .ref a_fx, .ref a_lc, x_led_7, .int (nI (0)), .int (nI (0))]))) ++ [((a_lg, eN y 1152 ((fun _ => 0))) : Nat × va_E)]) _ := hP
  have hD : gvD A (((B64_0.set p_itl (a_itl, .inr (0, [.int (nI (0)), .ref a_emp, .int (nI (0))]))).set p_led (a_led, .inr (3, [.ref a_itl, .ref a_cents, .ref a_grams, .ref a_cf, .ref a_cc, .ref a_fx, .ref a_lc, x_led_7, .int (nI (0)), .int (nI (0))]))) ++ [((a_lg, eN y 1152 ((fun _ => 0))) : Nat × va_E)]) := hD
  have hP : gvP D vwCl ((B73_0.set p_itl (a_itl, .inr (0, [.int (nI (0)), .ref a_emp, .int (nI (0))]))).set p_led (a_led, .inr (3, [.ref a_itl, .ref a_cents, .ref a_grams, .ref a_cf, .ref a_cc, .ref a_fx, .ref a_lc, x_led_7, .int (nI (0)), .int (nI (0))]))) _ := g_trP (by rw [q73_0]) hP
  have hD : gvD A ((B73_0.set p_itl (a_itl, .inr (0, [.int (nI (0)), .ref a_emp, .int (nI (0))]))).set p_led (a_led, .inr (3, [.ref a_itl, .ref a_cents, .ref a_grams, .ref a_cf, .ref a_cc, .ref a_fx, .ref a_lc, x_led_7, .int (nI (0)), .int (nI (0))]))) := g_trD (by rw [q73_0]) hD
  have e73_0_led := g_apE hB73_0 e64_0_led
  have e73_0_itl := g_apE hB73_0 e64_0_itl
  have f_led := g_eq (x := (a_led, .inr (3, [.ref a_itl, .ref a_cents, .ref a_grams, .ref a_cf, .ref a_cc, .ref a_fx, .ref a_lc, x_led_7, .int (nI (0)), .int (nI (0))]))) (g_ne (x := (a_itl, .inr (0, [.int (nI (0)), .ref a_emp, .int (nI (0))]))) (g_kne e73_0_itl e73_0_led (Nat.ne_of_beq_eq_false rfl)) (e73_0_led))
  refine gv_set f_led rfl (by rfl) (fun k9 h9 kk9 => va_putF (D := D) (ci := 3) (v := .ref a_lg) (ty := (.array .int)) (C := RX2) (T := TX2) (N := 10) hx hb hts in_RX2 tyX2 tyX2_ok nmX2 hown hE.1 hP hD hS k9 h9 rfl 7 (by decide) (hts (.fieldLink RX2 38 "BasketryOffice$Ledger" "linkGrams" "[I") (by decide +kernel)) (fun _ h9 => h9) rfl (show meth.name = "<init>" from hnm) rfl (by decide +kernel) rfl rfl (Nat.le_of_ble_eq_true rfl) dX2_init_75 kk9) (fun H locs hP hD hS => ?_)
  have hP := g_trP g_ss hP
  have hD := g_trD g_ss hD
  have hKW : gKeep ws ((B73_0.set p_itl (a_itl, .inr (0, [.int (nI (0)), .ref a_emp, .int (nI (0))]))).set p_led (a_led, .inr (3, [.ref a_itl, .ref a_cents, .ref a_grams, .ref a_cf, .ref a_cc, .ref a_fx, .ref a_lc, .ref a_lg, .int (nI (0)), .int (nI (0))]))) [p_led] := (gKeep.set_in (gKeep.set_new hKB73_0 (g_lek hq_itl)) (by simp))
  have hLW : ((B73_0.set p_itl (a_itl, .inr (0, [.int (nI (0)), .ref a_emp, .int (nI (0))]))).set p_led (a_led, .inr (3, [.ref a_itl, .ref a_cents, .ref a_grams, .ref a_cf, .ref a_cc, .ref a_fx, .ref a_lc, .ref a_lg, .int (nI (0)), .int (nI (0))]))).length = ws.length + 8 := by simp only [List.length_set]; exact hLB73_0
  have f_led := g_eq (x := (a_led, .inr (3, [.ref a_itl, .ref a_cents, .ref a_grams, .ref a_cf, .ref a_cc, .ref a_fx, .ref a_lc, .ref a_lg, .int (nI (0)), .int (nI (0))]))) (g_ne (x := (a_itl, .inr (0, [.int (nI (0)), .ref a_emp, .int (nI (0))]))) (g_kne e73_0_itl e73_0_led (Nat.ne_of_beq_eq_false rfl)) (e73_0_led))
  have f_itl := g_ne (x := (a_led, .inr (3, [.ref a_itl, .ref a_cents, .ref a_grams, .ref a_cf, .ref a_cc, .ref a_fx, .ref a_lc, .ref a_lg, .int (nI (0)), .int (nI (0))]))) (g_kne e73_0_led e73_0_itl (Nat.ne_of_beq_eq_false rfl)) (g_eq (x := (a_itl, .inr (0, [.int (nI (0)), .ref a_emp, .int (nI (0))]))) (e73_0_itl))
  have e28_0_cents := g_apE hB28_0 e19_0_cents
  have e37_0_cents := g_apE hB37_0 e28_0_cents
  have e46_0_cents := g_apE hB46_0 e37_0_cents
  have e55_0_cents := g_apE hB55_0 e46_0_cents
  have e64_0_cents := g_apE hB64_0 e55_0_cents
  have e73_0_cents := g_apE hB73_0 e64_0_cents
  have f_cents := g_ne (x := (a_led, .inr (3, [.ref a_itl, .ref a_cents, .ref a_grams, .ref a_cf, .ref a_cc, .ref a_fx, .ref a_lc, .ref a_lg, .int (nI (0)), .int (nI (0))]))) (g_kne e73_0_led e73_0_cents (Nat.ne_of_beq_eq_false rfl)) (g_ne (x := (a_itl, .inr (0, [.int (nI (0)), .ref a_emp, .int (nI (0))]))) (g_kne e73_0_itl e73_0_cents (Nat.ne_of_beq_eq_false rfl)) (e73_0_cents))
  have e37_0_grams := g_apE hB37_0 e28_0_grams
  have e46_0_grams := g_apE hB46_0 e37_0_grams
  have e55_0_grams := g_apE hB55_0 e46_0_grams
  have e64_0_grams := g_apE hB64_0 e55_0_grams
  have e73_0_grams := g_apE hB73_0 e64_0_grams
  have f_grams := g_ne (x := (a_led, .inr (3, [.ref a_itl, .ref a_cents, .ref a_grams, .ref a_cf, .ref a_cc, .ref a_fx, .ref a_lc, .ref a_lg, .int (nI (0)), .int (nI (0))]))) (g_kne e73_0_led e73_0_grams (Nat.ne_of_beq_eq_false rfl)) (g_ne (x := (a_itl, .inr (0, [.int (nI (0)), .ref a_emp, .int (nI (0))]))) (g_kne e73_0_itl e73_0_grams (Nat.ne_of_beq_eq_false rfl)) (e73_0_grams))
  have e46_0_cf := g_apE hB46_0 e37_0_cf
  have e55_0_cf := g_apE hB55_0 e46_0_cf
  have e64_0_cf := g_apE hB64_0 e55_0_cf
  have e73_0_cf := g_apE hB73_0 e64_0_cf
  have f_cf := g_ne (x := (a_led, .inr (3, [.ref a_itl, .ref a_cents, .ref a_grams, .ref a_cf, .ref a_cc, .ref a_fx, .ref a_lc, .ref a_lg, .int (nI (0)), .int (nI (0))]))) (g_kne e73_0_led e73_0_cf (Nat.ne_of_beq_eq_false rfl)) (g_ne (x := (a_itl, .inr (0, [.int (nI (0)), .ref a_emp, .int (nI (0))]))) (g_kne e73_0_itl e73_0_cf (Nat.ne_of_beq_eq_false rfl)) (e73_0_cf))
  have e55_0_cc := g_apE hB55_0 e46_0_cc
  have e64_0_cc := g_apE hB64_0 e55_0_cc
  have e73_0_cc := g_apE hB73_0 e64_0_cc
  have f_cc := g_ne (x := (a_led, .inr (3, [.ref a_itl, .ref a_cents, .ref a_grams, .ref a_cf, .ref a_cc, .ref a_fx, .ref a_lc, .ref a_lg, .int (nI (0)), .int (nI (0))]))) (g_kne e73_0_led e73_0_cc (Nat.ne_of_beq_eq_false rfl)) (g_ne (x := (a_itl, .inr (0, [.int (nI (0)), .ref a_emp, .int (nI (0))]))) (g_kne e73_0_itl e73_0_cc (Nat.ne_of_beq_eq_false rfl)) (e73_0_cc))
  have e64_0_fx := g_apE hB64_0 e55_0_fx
  have e73_0_fx := g_apE hB73_0 e64_0_fx
  have f_fx := g_ne (x := (a_led, .inr (3, [.ref a_itl, .ref a_cents, .ref a_grams, .ref a_cf, .ref a_cc, .ref a_fx, .ref a_lc, .ref a_lg, .int (nI (0)), .int (nI (0))]))) (g_kne e73_0_led e73_0_fx (Nat.ne_of_beq_eq_false rfl)) (g_ne (x := (a_itl, .inr (0, [.int (nI (0)), .ref a_emp, .int (nI (0))]))) (g_kne e73_0_itl e73_0_fx (Nat.ne_of_beq_eq_false rfl)) (e73_0_fx))
  have e73_0_lc := g_apE hB73_0 e64_0_lc
  have f_lc := g_ne (x := (a_led, .inr (3, [.ref a_itl, .ref a_cents, .ref a_grams, .ref a_cf, .ref a_cc, .ref a_fx, .ref a_lc, .ref a_lg, .int (nI (0)), .int (nI (0))]))) (g_kne e73_0_led e73_0_lc (Nat.ne_of_beq_eq_false rfl)) (g_ne (x := (a_itl, .inr (0, [.int (nI (0)), .ref a_emp, .int (nI (0))]))) (g_kne e73_0_itl e73_0_lc (Nat.ne_of_beq_eq_false rfl)) (e73_0_lc))
  have f_lg := g_ne (x := (a_led, .inr (3, [.ref a_itl, .ref a_cents, .ref a_grams, .ref a_cf, .ref a_cc, .ref a_fx, .ref a_lc, .ref a_lg, .int (nI (0)), .int (nI (0))]))) (g_kne e73_0_led e73_0_lg (Nat.ne_of_beq_eq_false rfl)) (g_ne (x := (a_itl, .inr (0, [.int (nI (0)), .ref a_emp, .int (nI (0))]))) (g_kne e73_0_itl e73_0_lg (Nat.ne_of_beq_eq_false rfl)) (e73_0_lg))
  refine g_vret hx hb hr hlocks ((B73_0.set p_itl (a_itl, .inr (0, [.int (nI (0)), .ref a_emp, .int (nI (0))]))).set p_led (a_led, .inr (3, [.ref a_itl, .ref a_cents, .ref a_grams, .ref a_cf, .ref a_cc, .ref a_fx, .ref a_lc, .ref a_lg, .int (nI (0)), .int (nI (0))]))) dX2_init_78 hS hP hD ?_
  exact ⟨hKW, hLW, a_itl, a_cents, a_grams, a_cf, a_cc, a_fx, a_lc, a_lg, f_led, (by rw [← hq_itl]; exact f_itl), (by rw [← hq_cents]; exact f_cents), (by rw [← hq_grams]; exact f_grams), (by rw [← hq_cf]; exact f_cf), (by rw [← hq_cc]; exact f_cc), (by rw [← hq_fx]; exact f_fx), (by rw [← hq_lc]; exact f_lc), (by rw [← hq_lg]; exact f_lg)⟩

theorem in_c_X6_init_RJx4a65c : ∀ w ∈ wsJx4a65c0, w ∈ wsX6_init := by decide +kernel
theorem in_c_X6_init_RX2 : ∀ w ∈ wsX20, w ∈ wsX6_init := by decide +kernel
theorem in_c_X6_init_RX3 : ∀ w ∈ wsX30, w ∈ wsX6_init := by decide +kernel
theorem in_c_X6_init_RX4 : ∀ w ∈ wsX40, w ∈ wsX6_init := by decide +kernel
theorem in_c_X6_init_RX6 : ∀ w ∈ wsX60, w ∈ wsX6_init := by decide +kernel
set_option maxHeartbeats 4000000 in
set_option maxRecDepth 100000 in
theorem c_X6_init (l : Launch) {D : va_G} {y : Nat → Nat} {ws : va_W} {x_off_0 : Value} {x_off_1 : Value} {x_off_2 : Value} {x_off_3 : Value} {x_off_4 : Value} {x_off_5 : Value} {x_off_6 : Value} {mi : Nat} {p_off a_off a_emp : Nat} (f0_off : ws[p_off]? = some (a_off, .inr (7, [x_off_0, x_off_1, x_off_2, x_off_3, x_off_4, x_off_5, x_off_6, .int (nI (0))]))) : gYv l yX6_init wsX6_init ({ frames := 5, cells := 28, slots := 11973, locals := 103 }) D y a_emp mi [.ref a_off] ws (fun (u : va_W) => gKeep ws u [p_off] ∧ u.length = ws.length + 28 ∧ ∃ a_led a_itl a_cents a_grams a_cf a_cc a_fx a_lc a_lg a_spd a_told a_adp a_shr a_ser a_sums a_pr a_rel a_grp a_idx a_red a_sums2 a_pr2 a_rel2 a_grp2 a_idx2 a_num a_cnum a_ctl : Nat, u[p_off]? = some (a_off, .inr (7, [.ref a_led, .ref a_spd, .ref a_ser, .ref a_red, .ref a_num, .ref a_cnum, .ref a_ctl, .int (nI (0))])) ∧ u[ws.length + 0]? = some (a_led, .inr (3, [.ref a_itl, .ref a_cents, .ref a_grams, .ref a_cf, .ref a_cc, .ref a_fx, .ref a_lc, .ref a_lg, .int (nI (0)), .int (nI (0))])) ∧ u[ws.length + 1]? = some (a_itl, .inr (0, [.int (nI (0)), .ref a_emp, .int (nI (0))])) ∧ u[ws.length + 2]? = some (a_cents, eN y 1152 ((fun _ => 0))) ∧ u[ws.length + 3]? = some (a_grams, eN y 1152 ((fun _ => 0))) ∧ u[ws.length + 4]? = some (a_cf, eZ y 1152 ((fun _ => false))) ∧ u[ws.length + 5]? = some (a_cc, eN y 1152 ((fun _ => 0))) ∧ u[ws.length + 6]? = some (a_fx, eZ y 1152 ((fun _ => false))) ∧ u[ws.length + 7]? = some (a_lc, eN y 1152 ((fun _ => 0))) ∧ u[ws.length + 8]? = some (a_lg, eN y 1152 ((fun _ => 0))) ∧ u[ws.length + 9]? = some (a_spd, .inr (5, [.ref a_told, .ref a_adp, .ref a_shr])) ∧ u[ws.length + 10]? = some (a_told, eN y 12 ((fun _ => 0))) ∧ u[ws.length + 11]? = some (a_adp, eN y 12 ((fun _ => 0))) ∧ u[ws.length + 12]? = some (a_shr, eD y 480 ((fun _ => 0))) ∧ u[ws.length + 13]? = some (a_ser, .inr (4, [.ref a_led, .ref a_spd, .ref a_sums, .ref a_pr, .ref a_rel, .ref a_grp, .ref a_idx, .int (gb (false))])) ∧ u[ws.length + 14]? = some (a_sums, .inr (6, [.int (nI (0)), .double 0, .double 0, .double 0, .double 0])) ∧ u[ws.length + 15]? = some (a_pr, eD y 1152 ((fun _ => 0))) ∧ u[ws.length + 16]? = some (a_rel, eD y 288 ((fun _ => 0))) ∧ u[ws.length + 17]? = some (a_grp, eD y 96 ((fun _ => 0))) ∧ u[ws.length + 18]? = some (a_idx, eD y 120 ((fun _ => 0))) ∧ u[ws.length + 19]? = some (a_red, .inr (4, [.ref a_led, .ref a_spd, .ref a_sums2, .ref a_pr2, .ref a_rel2, .ref a_grp2, .ref a_idx2, .int (gb (false))])) ∧ u[ws.length + 20]? = some (a_sums2, .inr (6, [.int (nI (0)), .double 0, .double 0, .double 0, .double 0])) ∧ u[ws.length + 21]? = some (a_pr2, eD y 1152 ((fun _ => 0))) ∧ u[ws.length + 22]? = some (a_rel2, eD y 288 ((fun _ => 0))) ∧ u[ws.length + 23]? = some (a_grp2, eD y 96 ((fun _ => 0))) ∧ u[ws.length + 24]? = some (a_idx2, eD y 120 ((fun _ => 0))) ∧ u[ws.length + 25]? = some (a_num, eN y 24 ((fun _ => 0))) ∧ u[ws.length + 26]? = some (a_cnum, eN y 24 ((fun _ => 0))) ∧ u[ws.length + 27]? = some (a_ctl, .inr (0, [.int (nI (0)), .ref a_emp, .int (nI (0))]))) (fun (u : va_W) => u) := by
  refine g_mety_v (cc := cX6_init) (maxL := 1) (by decide) rfl (Nat.le_of_ble_eq_true rfl) ?_
  intro p e s m below meth c A hx hb hml hr hts hown hnm hlocks hE hP hD hS hA hY ls hl
  have hown : s.vm.findClass RX6 = some m.cls := hown
  have hl : lv_has ls 1 [(0, .ref a_off)] := hl
  have in_RJx4a65c := in_c_X6_init_RJx4a65c
  have in_RX2 := in_c_X6_init_RX2
  have in_RX3 := in_c_X6_init_RX3
  have in_RX4 := in_c_X6_init_RX4
  have in_RX6 := in_c_X6_init_RX6
  refine lv_aload_n hx hb dX6_init_0 rfl (lv_at hl 0 rfl) ?_
  refine W.objInit hx hb hown (hts (.methodLink RX6 3 objectInit) (by decide +kernel)) (hts (.instanceMethod objectInit) (by decide +kernel)) (hts _ (List.mem_of_getElem? (i := 3) rfl)) rfl (by rw [hml]; exact hl.1) rfl dX6_init_1 (Nat.le_of_ble_eq_true rfl) (Nat.le_of_ble_eq_true rfl) ?_
  refine W.eq (g2 := F0 m 4 ls []) rfl ?_
  refine lv_aload_n hx hb dX6_init_4 rfl (lv_at hl 0 rfl) ?_
  refine gv_add (by intro _; rfl) (fun kk9 => va_new (ci := 3) (fs := [.null, .null, .null, .null, .null, .null, .null, .null, .int (nI (0)), .int (nI (0))]) (C := RX2) (T := TX2) (N := 10) hx hb hts in_RX2 tyX2 tyX2_ok hown (hts (.classLink RX6 9 RX2) (by decide +kernel)) (hts (.instantiable RX2 10) (by decide +kernel)) (hts (.initialized RX2) (by decide +kernel)) hE.1 hP hD hS hA rfl (fun j hj => by rcases (show j = 0 ∨ j = 1 ∨ j = 2 ∨ j = 3 ∨ j = 4 ∨ j = 5 ∨ j = 6 ∨ j = 7 ∨ j = 8 ∨ j = 9 by omega) with rfl | rfl | rfl | rfl | rfl | rfl | rfl | rfl | rfl | rfl <;> rfl) (Nat.le_of_ble_eq_true rfl) (Nat.le_of_ble_eq_true rfl) dX6_init_5 kk9) (fun a_led H hP hD hS => ?_)
  obtain ⟨p_led, hp_led⟩ : ∃ z, z = (ws).length := ⟨_, rfl⟩
  obtain ⟨B5_0, hB5_0⟩ : ∃ B, B = (ws ++ [((a_led, .inr (3, [.null, .null, .null, .null, .null, .null, .null, .null, .int (nI (0)), .int (nI (0))])) : Nat × va_E)]) := ⟨_, rfl⟩
  have hq_led : p_led = ws.length + 0 := hp_led
  have hLB5_0 : B5_0.length = ws.length + 1 := by rw [hB5_0, List.length_append]; rfl
  have hKB5_0 : gKeep ws B5_0 [p_off] := gKeep.app hB5_0 (gKeep.refl ws _)
  have e5_0_led : B5_0[p_led]? = some (a_led, .inr (3, [.null, .null, .null, .null, .null, .null, .null, .null, .int (nI (0)), .int (nI (0))])) := by rw [hB5_0, hp_led]; exact g_apN
  have q5_0 : (ws ++ [((a_led, .inr (3, [.null, .null, .null, .null, .null, .null, .null, .null, .int (nI (0)), .int (nI (0))])) : Nat × va_E)]) = B5_0 := hB5_0.symm
  have hP : gvP D vwCl (ws ++ [((a_led, .inr (3, [.null, .null, .null, .null, .null, .null, .null, .null, .int (nI (0)), .int (nI (0))])) : Nat × va_E)]) _ := hP
  have hD : gvD A (ws ++ [((a_led, .inr (3, [.null, .null, .null, .null, .null, .null, .null, .null, .int (nI (0)), .int (nI (0))])) : Nat × va_E)]) := hD
  have hP : gvP D vwCl B5_0 _ := g_trP (by rw [q5_0]) hP
  have hD : gvD A B5_0 := g_trD (by rw [q5_0]) hD
  refine lv_dup hx hb dX6_init_8 rfl ?_
  have f_led := e5_0_led
  refine gcy_IN_v (As := []) (rest := [.ref a_led, .ref a_off]) (c_X2_init l f_led) ⟨hx, hb, hml, hown, hts⟩ ⟨(va_cnB 0 hts gX6_init_X2_init_n11 rfl rfl rfl (hE.2 (.methodLinkNest RX6 11 yX2_init "BasketryOffice") (by decide +kernel)) (hts (.initialized RX2) (by decide +kernel)) (by decide +kernel) ⟨Nat.le_of_ble_eq_true rfl, Nat.le_of_ble_eq_true rfl⟩), rfl, hts (.instanceMethod yX2_init) (by decide +kernel)⟩ hE hY hP hD hS hA rfl rfl hl.1 (Nat.le_of_ble_eq_true rfl) dX6_init_9 ⟨Nat.le_of_ble_eq_true rfl, Nat.le_of_ble_eq_true rfl⟩ (fun u_9 H locs hP hD hS q_9 => ?_)
  have hKW : gKeep ws B5_0 [p_off] := hKB5_0
  have hLW : B5_0.length = ws.length + 1 := by skip; exact hLB5_0
  have hKV := hKW
  have hLV := hLW
  have e5_0_off := g_apE hB5_0 f0_off
  have f_off := e5_0_off
  obtain ⟨hk9, hl9, a_itl, a_cents, a_grams, a_cf, a_cc, a_fx, a_lc, a_lg, g9_led, g9_itl, g9_cents, g9_grams, g9_cf, g9_cc, g9_fx, g9_lc, g9_lg⟩ := q_9
  have g9_off := hk9 _ _ (by simp only [List.mem_cons, List.not_mem_nil, or_false, not_or]; exact (g_kne e5_0_off e5_0_led (Nat.ne_of_beq_eq_false rfl))) f_off
  obtain ⟨p_itl, hq_itl⟩ : ∃ z, z = ws.length + 1 := ⟨_, rfl⟩
  obtain ⟨p_cents, hq_cents⟩ : ∃ z, z = ws.length + 2 := ⟨_, rfl⟩
  obtain ⟨p_grams, hq_grams⟩ : ∃ z, z = ws.length + 3 := ⟨_, rfl⟩
  obtain ⟨p_cf, hq_cf⟩ : ∃ z, z = ws.length + 4 := ⟨_, rfl⟩
  obtain ⟨p_cc, hq_cc⟩ : ∃ z, z = ws.length + 5 := ⟨_, rfl⟩
  obtain ⟨p_fx, hq_fx⟩ : ∃ z, z = ws.length + 6 := ⟨_, rfl⟩
  obtain ⟨p_lc, hq_lc⟩ : ∃ z, z = ws.length + 7 := ⟨_, rfl⟩
  obtain ⟨p_lg, hq_lg⟩ : ∃ z, z = ws.length + 8 := ⟨_, rfl⟩
  have hK9 : gKeep ws u_9 [p_off] := gKeep.trans hKV hk9 (gk_cons (Or.inl (g_lek hq_led)) (gk_nil))
  have hL9 : u_9.length = ws.length + 9 := by have z9 := hl9; rw [hLV] at z9; exact z9
  have g9_itl := g_moveP g9_itl (show p_itl = _ by rw [hLV]; exact hq_itl)
  have g9_cents := g_moveP g9_cents (show p_cents = _ by rw [hLV]; exact hq_cents)
  have g9_grams := g_moveP g9_grams (show p_grams = _ by rw [hLV]; exact hq_grams)
  have g9_cf := g_moveP g9_cf (show p_cf = _ by rw [hLV]; exact hq_cf)
  have g9_cc := g_moveP g9_cc (show p_cc = _ by rw [hLV]; exact hq_cc)
  have g9_fx := g_moveP g9_fx (show p_fx = _ by rw [hLV]; exact hq_fx)
  have g9_lc := g_moveP g9_lc (show p_lc = _ by rw [hLV]; exact hq_lc)
  have g9_lg := g_moveP g9_lg (show p_lg = _ by rw [hLV]; exact hq_lg)
  refine gv_set g9_off rfl (by rfl) (fun k9 h9 kk9 => va_putF (D := D) (ci := 7) (v := .ref a_led) (ty := (.object "BasketryOffice$Ledger")) (C := RX6) (T := TX6) (N := 8) hx hb hts in_RX6 tyX6 tyX6_ok nmX6 hown hE.1 hP hD hS k9 h9 rfl 0 (by decide) (hts (.fieldLink RX6 12 "BasketryOffice" "ledger" "LBasketryOffice$Ledger;") (by decide +kernel)) (fun _ h9 => h9) rfl (show meth.name = "<init>" from hnm) rfl (by decide +kernel) rfl rfl (Nat.le_of_ble_eq_true rfl) dX6_init_12 kk9) (fun H locs hP hD hS => ?_)
  refine lv_aload_n hx hb dX6_init_15 rfl (lv_at hl 0 rfl) ?_
  refine gv_add (by intro _; rfl) (fun kk9 => va_new (ci := 5) (fs := [.null, .null, .null]) (C := RX4) (T := TX4) (N := 3) hx hb hts in_RX4 tyX4 tyX4_ok hown (hts (.classLink RX6 16 RX4) (by decide +kernel)) (hts (.instantiable RX4 3) (by decide +kernel)) (hts (.initialized RX4) (by decide +kernel)) hE.1 hP hD hS hA rfl (fun j hj => by rcases (show j = 0 ∨ j = 1 ∨ j = 2 by omega) with rfl | rfl | rfl <;> rfl) (Nat.le_of_ble_eq_true rfl) (Nat.le_of_ble_eq_true rfl) dX6_init_16 kk9) (fun a_spd H hP hD hS => ?_)
  obtain ⟨p_spd, hp_spd⟩ : ∃ z, z = (u_9).length := ⟨_, rfl⟩
  obtain ⟨B16_0, hB16_0⟩ : ∃ B, B = (u_9 ++ [((a_spd, .inr (5, [.null, .null, .null])) : Nat × va_E)]) := ⟨_, rfl⟩
  have hq_spd : p_spd = ws.length + 9 := hp_spd.trans hL9
  have hLB16_0 : B16_0.length = ws.length + 10 := by rw [hB16_0, List.length_append, hL9]; rfl
  have hKB16_0 : gKeep ws B16_0 [p_off] := gKeep.app hB16_0 hK9
  have e16_0_spd : B16_0[p_spd]? = some (a_spd, .inr (5, [.null, .null, .null])) := by rw [hB16_0, hp_spd]; exact g_apN
  have q16_0 : ((u_9.set p_off (a_off, .inr (7, [.ref a_led, x_off_1, x_off_2, x_off_3, x_off_4, x_off_5, x_off_6, .int (nI (0))]))) ++ [((a_spd, .inr (5, [.null, .null, .null])) : Nat × va_E)]) = (B16_0.set p_off (a_off, .inr (7, [.ref a_led, x_off_1, x_off_2, x_off_3, x_off_4, x_off_5, x_off_6, .int (nI (0))]))) := by rw [hB16_0]; exact (g_sa (g_lt g9_off))
  have hP : gvP D vwCl ((u_9.set p_off (a_off, .inr (7, [.ref a_led, x_off_1, x_off_2, x_off_3, x_off_4, x_off_5, x_off_6, .int (nI (0))]))) ++ [((a_spd, .inr (5, [.null, .null, .null])) : Nat × va_E)]) _ := hP
  have hD : gvD A ((u_9.set p_off (a_off, .inr (7, [.ref a_led, x_off_1, x_off_2, x_off_3, x_off_4, x_off_5, x_off_6, .int (nI (0))]))) ++ [((a_spd, .inr (5, [.null, .null, .null])) : Nat × va_E)]) := hD
  have hP : gvP D vwCl (B16_0.set p_off (a_off, .inr (7, [.ref a_led, x_off_1, x_off_2, x_off_3, x_off_4, x_off_5, x_off_6, .int (nI (0))]))) _ := g_trP (by rw [q16_0]) hP
  have hD : gvD A (B16_0.set p_off (a_off, .inr (7, [.ref a_led, x_off_1, x_off_2, x_off_3, x_off_4, x_off_5, x_off_6, .int (nI (0))]))) := g_trD (by rw [q16_0]) hD
  refine lv_dup hx hb dX6_init_19 rfl ?_
  have e16_0_off := g_apE hB16_0 g9_off
  have f_spd := g_ne (x := (a_off, .inr (7, [.ref a_led, x_off_1, x_off_2, x_off_3, x_off_4, x_off_5, x_off_6, .int (nI (0))]))) (g_kne e16_0_off e16_0_spd (Nat.ne_of_beq_eq_false rfl)) (e16_0_spd)
  refine gc_IN_v (As := []) (rest := [.ref a_spd, .ref a_off]) (c_X4_init l f_spd) ⟨hx, hb, hml, hown, hts⟩ ⟨(va_cnB 0 hts gX6_init_X4_init_n18 rfl rfl rfl (hE.2 (.methodLinkNest RX6 18 yX4_init "BasketryOffice") (by decide +kernel)) (hts (.initialized RX4) (by decide +kernel)) (by decide +kernel) ⟨Nat.le_of_ble_eq_true rfl, Nat.le_of_ble_eq_true rfl⟩), rfl, hts (.instanceMethod yX4_init) (by decide +kernel)⟩ hE hP hD hS hA rfl rfl hl.1 (Nat.le_of_ble_eq_true rfl) dX6_init_20 ⟨Nat.le_of_ble_eq_true rfl, Nat.le_of_ble_eq_true rfl⟩ (fun u_20 H locs hP hD hS q_20 => ?_)
  obtain ⟨a_told, a_adp, a_shr⟩ := u_20
  have hP : gvP D vwCl (((((B16_0.set p_off (a_off, .inr (7, [.ref a_led, x_off_1, x_off_2, x_off_3, x_off_4, x_off_5, x_off_6, .int (nI (0))]))) ++ [((a_told, eN y 12 ((fun _ => 0))) : Nat × va_E)]) ++ [((a_adp, eN y 12 ((fun _ => 0))) : Nat × va_E)]) ++ [((a_shr, eD y 480 ((fun _ => 0))) : Nat × va_E)]).set p_spd (a_spd, .inr (5, [.ref a_told, .ref a_adp, .ref a_shr]))) H := hP
  have hD : gvD A (((((B16_0.set p_off (a_off, .inr (7, [.ref a_led, x_off_1, x_off_2, x_off_3, x_off_4, x_off_5, x_off_6, .int (nI (0))]))) ++ [((a_told, eN y 12 ((fun _ => 0))) : Nat × va_E)]) ++ [((a_adp, eN y 12 ((fun _ => 0))) : Nat × va_E)]) ++ [((a_shr, eD y 480 ((fun _ => 0))) : Nat × va_E)]).set p_spd (a_spd, .inr (5, [.ref a_told, .ref a_adp, .ref a_shr]))) := hD
  obtain ⟨p_told, hp_told⟩ : ∃ z, z = (B16_0).length := ⟨_, rfl⟩
  obtain ⟨B20_0, hB20_0⟩ : ∃ B, B = (B16_0 ++ [((a_told, eN y 12 ((fun _ => 0))) : Nat × va_E)]) := ⟨_, rfl⟩
  have hq_told : p_told = ws.length + 10 := hp_told.trans hLB16_0
  have hLB20_0 : B20_0.length = ws.length + 11 := by rw [hB20_0, List.length_append, hLB16_0]; rfl
  have hKB20_0 : gKeep ws B20_0 [p_off] := gKeep.app hB20_0 hKB16_0
  have e20_0_told : B20_0[p_told]? = some (a_told, eN y 12 ((fun _ => 0))) := by rw [hB20_0, hp_told]; exact g_apN
  have q20_0 : ((B16_0.set p_off (a_off, .inr (7, [.ref a_led, x_off_1, x_off_2, x_off_3, x_off_4, x_off_5, x_off_6, .int (nI (0))]))) ++ [((a_told, eN y 12 ((fun _ => 0))) : Nat × va_E)]) = (B20_0.set p_off (a_off, .inr (7, [.ref a_led, x_off_1, x_off_2, x_off_3, x_off_4, x_off_5, x_off_6, .int (nI (0))]))) := by rw [hB20_0]; exact (g_sa (g_lt e16_0_off))
  obtain ⟨p_adp, hp_adp⟩ : ∃ z, z = (B20_0).length := ⟨_, rfl⟩
  have e20_0_off := g_apE hB20_0 e16_0_off
  obtain ⟨B20_1, hB20_1⟩ : ∃ B, B = (B20_0 ++ [((a_adp, eN y 12 ((fun _ => 0))) : Nat × va_E)]) := ⟨_, rfl⟩
  have hq_adp : p_adp = ws.length + 11 := hp_adp.trans hLB20_0
  have hLB20_1 : B20_1.length = ws.length + 12 := by rw [hB20_1, List.length_append, hLB20_0]; rfl
  have hKB20_1 : gKeep ws B20_1 [p_off] := gKeep.app hB20_1 hKB20_0
  have e20_1_adp : B20_1[p_adp]? = some (a_adp, eN y 12 ((fun _ => 0))) := by rw [hB20_1, hp_adp]; exact g_apN
  have q20_1 : ((B20_0.set p_off (a_off, .inr (7, [.ref a_led, x_off_1, x_off_2, x_off_3, x_off_4, x_off_5, x_off_6, .int (nI (0))]))) ++ [((a_adp, eN y 12 ((fun _ => 0))) : Nat × va_E)]) = (B20_1.set p_off (a_off, .inr (7, [.ref a_led, x_off_1, x_off_2, x_off_3, x_off_4, x_off_5, x_off_6, .int (nI (0))]))) := by rw [hB20_1]; exact (g_sa (g_lt e20_0_off))
  obtain ⟨p_shr, hp_shr⟩ : ∃ z, z = (B20_1).length := ⟨_, rfl⟩
  have e20_1_off := g_apE hB20_1 e20_0_off
  obtain ⟨B20_2, hB20_2⟩ : ∃ B, B = (B20_1 ++ [((a_shr, eD y 480 ((fun _ => 0))) : Nat × va_E)]) := ⟨_, rfl⟩
  have hq_shr : p_shr = ws.length + 12 := hp_shr.trans hLB20_1
  have hLB20_2 : B20_2.length = ws.length + 13 := by rw [hB20_2, List.length_append, hLB20_1]; rfl
  have hKB20_2 : gKeep ws B20_2 [p_off] := gKeep.app hB20_2 hKB20_1
  have e20_2_shr : B20_2[p_shr]? = some (a_shr, eD y 480 ((fun _ => 0))) := by rw [hB20_2, hp_shr]; exact g_apN
  have q20_2 : ((B20_1.set p_off (a_off, .inr (7, [.ref a_led, x_off_1, x_off_2, x_off_3, x_off_4, x_off_5, x_off_6, .int (nI (0))]))) ++ [((a_shr, eD y 480 ((fun _ => 0))) : Nat × va_E)]) = (B20_2.set p_off (a_off, .inr (7, [.ref a_led, x_off_1, x_off_2, x_off_3, x_off_4, x_off_5, x_off_6, .int (nI (0))]))) := by rw [hB20_2]; exact (g_sa (g_lt e20_1_off))
  have hP : gvP D vwCl (((((B16_0.set p_off (a_off, .inr (7, [.ref a_led, x_off_1, x_off_2, x_off_3, x_off_4, x_off_5, x_off_6, .int (nI (0))]))) ++ [((a_told, eN y 12 ((fun _ => 0))) : Nat × va_E)]) ++ [((a_adp, eN y 12 ((fun _ => 0))) : Nat × va_E)]) ++ [((a_shr, eD y 480 ((fun _ => 0))) : Nat × va_E)]).set p_spd (a_spd, .inr (5, [.ref a_told, .ref a_adp, .ref a_shr]))) _ := hP
  have hD : gvD A (((((B16_0.set p_off (a_off, .inr (7, [.ref a_led, x_off_1, x_off_2, x_off_3, x_off_4, x_off_5, x_off_6, .int (nI (0))]))) ++ [((a_told, eN y 12 ((fun _ => 0))) : Nat × va_E)]) ++ [((a_adp, eN y 12 ((fun _ => 0))) : Nat × va_E)]) ++ [((a_shr, eD y 480 ((fun _ => 0))) : Nat × va_E)]).set p_spd (a_spd, .inr (5, [.ref a_told, .ref a_adp, .ref a_shr]))) := hD
  have hP : gvP D vwCl ((B20_2.set p_off (a_off, .inr (7, [.ref a_led, x_off_1, x_off_2, x_off_3, x_off_4, x_off_5, x_off_6, .int (nI (0))]))).set p_spd (a_spd, .inr (5, [.ref a_told, .ref a_adp, .ref a_shr]))) _ := g_trP (by rw [q20_0, q20_1, q20_2]) hP
  have hD : gvD A ((B20_2.set p_off (a_off, .inr (7, [.ref a_led, x_off_1, x_off_2, x_off_3, x_off_4, x_off_5, x_off_6, .int (nI (0))]))).set p_spd (a_spd, .inr (5, [.ref a_told, .ref a_adp, .ref a_shr]))) := g_trD (by rw [q20_0, q20_1, q20_2]) hD
  have e20_2_off := g_apE hB20_2 e20_1_off
  have e20_0_spd := g_apE hB20_0 e16_0_spd
  have e20_1_spd := g_apE hB20_1 e20_0_spd
  have e20_2_spd := g_apE hB20_2 e20_1_spd
  have f_off := g_ne (x := (a_spd, .inr (5, [.ref a_told, .ref a_adp, .ref a_shr]))) (g_kne e20_2_spd e20_2_off (Nat.ne_of_beq_eq_false rfl)) (g_eq (x := (a_off, .inr (7, [.ref a_led, x_off_1, x_off_2, x_off_3, x_off_4, x_off_5, x_off_6, .int (nI (0))]))) (e20_2_off))
  refine gv_set f_off rfl (by rfl) (fun k9 h9 kk9 => va_putF (D := D) (ci := 7) (v := .ref a_spd) (ty := (.object "BasketryOffice$Spendings")) (C := RX6) (T := TX6) (N := 8) hx hb hts in_RX6 tyX6 tyX6_ok nmX6 hown hE.1 hP hD hS k9 h9 rfl 1 (by decide) (hts (.fieldLink RX6 19 "BasketryOffice" "spendings" "LBasketryOffice$Spendings;") (by decide +kernel)) (fun _ h9 => h9) rfl (show meth.name = "<init>" from hnm) rfl (by decide +kernel) rfl rfl (Nat.le_of_ble_eq_true rfl) dX6_init_23 kk9) (fun H locs hP hD hS => ?_)
  have hP := g_trP (g_sc (g_kne e20_2_spd e20_2_off (Nat.ne_of_beq_eq_false rfl)) g_ss) hP
  have hD := g_trD (g_sc (g_kne e20_2_spd e20_2_off (Nat.ne_of_beq_eq_false rfl)) g_ss) hD
  refine lv_aload_n hx hb dX6_init_26 rfl (lv_at hl 0 rfl) ?_
  refine gv_add (by intro _; rfl) (fun kk9 => va_new (ci := 4) (fs := [.null, .null, .null, .null, .null, .null, .null, .int (gb (false))]) (C := RX3) (T := TX3) (N := 8) hx hb hts in_RX3 tyX3 tyX3_ok hown (hts (.classLink RX6 23 RX3) (by decide +kernel)) (hts (.instantiable RX3 8) (by decide +kernel)) (hts (.initialized RX3) (by decide +kernel)) hE.1 hP hD hS hA rfl (fun j hj => by rcases (show j = 0 ∨ j = 1 ∨ j = 2 ∨ j = 3 ∨ j = 4 ∨ j = 5 ∨ j = 6 ∨ j = 7 by omega) with rfl | rfl | rfl | rfl | rfl | rfl | rfl | rfl <;> rfl) (Nat.le_of_ble_eq_true rfl) (Nat.le_of_ble_eq_true rfl) dX6_init_27 kk9) (fun a_ser H hP hD hS => ?_)
  obtain ⟨p_ser, hp_ser⟩ : ∃ z, z = (B20_2).length := ⟨_, rfl⟩
  obtain ⟨B27_0, hB27_0⟩ : ∃ B, B = (B20_2 ++ [((a_ser, .inr (4, [.null, .null, .null, .null, .null, .null, .null, .int (gb (false))])) : Nat × va_E)]) := ⟨_, rfl⟩
  have hq_ser : p_ser = ws.length + 13 := hp_ser.trans hLB20_2
  have hLB27_0 : B27_0.length = ws.length + 14 := by rw [hB27_0, List.length_append, hLB20_2]; rfl
  have hKB27_0 : gKeep ws B27_0 [p_off] := gKeep.app hB27_0 hKB20_2
  have e27_0_ser : B27_0[p_ser]? = some (a_ser, .inr (4, [.null, .null, .null, .null, .null, .null, .null, .int (gb (false))])) := by rw [hB27_0, hp_ser]; exact g_apN
  have q27_0 : (((B20_2.set p_off (a_off, .inr (7, [.ref a_led, .ref a_spd, x_off_2, x_off_3, x_off_4, x_off_5, x_off_6, .int (nI (0))]))).set p_spd (a_spd, .inr (5, [.ref a_told, .ref a_adp, .ref a_shr]))) ++ [((a_ser, .inr (4, [.null, .null, .null, .null, .null, .null, .null, .int (gb (false))])) : Nat × va_E)]) = ((B27_0.set p_off (a_off, .inr (7, [.ref a_led, .ref a_spd, x_off_2, x_off_3, x_off_4, x_off_5, x_off_6, .int (nI (0))]))).set p_spd (a_spd, .inr (5, [.ref a_told, .ref a_adp, .ref a_shr]))) := by rw [hB27_0]; exact (Eq.trans (g_sa (g_ltS (g_lt e20_2_spd))) (g_c (g_sa (g_lt e20_2_off))))
  have hP : gvP D vwCl (((B20_2.set p_off (a_off, .inr (7, [.ref a_led, .ref a_spd, x_off_2, x_off_3, x_off_4, x_off_5, x_off_6, .int (nI (0))]))).set p_spd (a_spd, .inr (5, [.ref a_told, .ref a_adp, .ref a_shr]))) ++ [((a_ser, .inr (4, [.null, .null, .null, .null, .null, .null, .null, .int (gb (false))])) : Nat × va_E)]) _ := hP
  have hD : gvD A (((B20_2.set p_off (a_off, .inr (7, [.ref a_led, .ref a_spd, x_off_2, x_off_3, x_off_4, x_off_5, x_off_6, .int (nI (0))]))).set p_spd (a_spd, .inr (5, [.ref a_told, .ref a_adp, .ref a_shr]))) ++ [((a_ser, .inr (4, [.null, .null, .null, .null, .null, .null, .null, .int (gb (false))])) : Nat × va_E)]) := hD
  have hP : gvP D vwCl ((B27_0.set p_off (a_off, .inr (7, [.ref a_led, .ref a_spd, x_off_2, x_off_3, x_off_4, x_off_5, x_off_6, .int (nI (0))]))).set p_spd (a_spd, .inr (5, [.ref a_told, .ref a_adp, .ref a_shr]))) _ := g_trP (by rw [q27_0]) hP
  have hD : gvD A ((B27_0.set p_off (a_off, .inr (7, [.ref a_led, .ref a_spd, x_off_2, x_off_3, x_off_4, x_off_5, x_off_6, .int (nI (0))]))).set p_spd (a_spd, .inr (5, [.ref a_told, .ref a_adp, .ref a_shr]))) := g_trD (by rw [q27_0]) hD
  refine lv_dup hx hb dX6_init_30 rfl ?_
  refine lv_aload_n hx hb dX6_init_31 rfl (lv_at hl 0 rfl) ?_
  have e27_0_off := g_apE hB27_0 e20_2_off
  have e27_0_spd := g_apE hB27_0 e20_2_spd
  have f_off := g_ne (x := (a_spd, .inr (5, [.ref a_told, .ref a_adp, .ref a_shr]))) (g_kne e27_0_spd e27_0_off (Nat.ne_of_beq_eq_false rfl)) (g_eq (x := (a_off, .inr (7, [.ref a_led, .ref a_spd, x_off_2, x_off_3, x_off_4, x_off_5, x_off_6, .int (nI (0))]))) (e27_0_off))
  refine va_get (D := D) (ci := 7) (v := .ref a_led) (C := RX6) (T := TX6) (N := 8) hx hb hts in_RX6 hown hE.1 (gv1 hP f_off) 0 rfl rfl 0 (by decide) (hts (.fieldLink RX6 12 "BasketryOffice" "ledger" "LBasketryOffice$Ledger;") (by decide +kernel)) (fun _ h9 => h9) rfl dX6_init_32 ?_
  refine lv_aload_n hx hb dX6_init_35 rfl (lv_at hl 0 rfl) ?_
  refine va_get (D := D) (ci := 7) (v := .ref a_spd) (C := RX6) (T := TX6) (N := 8) hx hb hts in_RX6 hown hE.1 (gv1 hP f_off) 0 rfl rfl 1 (by decide) (hts (.fieldLink RX6 19 "BasketryOffice" "spendings" "LBasketryOffice$Spendings;") (by decide +kernel)) (fun _ h9 => h9) rfl dX6_init_36 ?_
  have f_ser := g_ne (x := (a_spd, .inr (5, [.ref a_told, .ref a_adp, .ref a_shr]))) (g_kne e27_0_spd e27_0_ser (Nat.ne_of_beq_eq_false rfl)) (g_ne (x := (a_off, .inr (7, [.ref a_led, .ref a_spd, x_off_2, x_off_3, x_off_4, x_off_5, x_off_6, .int (nI (0))]))) (g_kne e27_0_off e27_0_ser (Nat.ne_of_beq_eq_false rfl)) (e27_0_ser))
  refine gc_I_v (As := [.ref a_led, .ref a_spd]) (rest := [.ref a_ser, .ref a_off]) (c_X3_init l f_ser) ⟨hx, hb, hml, hown, hts⟩ (cwI 2 hts gX6_init_X3_init rfl rfl rfl (hts (.initialized RX3) (by decide +kernel)) (hts (.methodLink RX6 25 yX3_init) (by decide +kernel)) (hts (.instanceMethod yX3_init) (by decide +kernel)) rfl (by decide +kernel) ⟨Nat.le_of_ble_eq_true rfl, Nat.le_of_ble_eq_true rfl⟩) hE hP hD hS hA rfl rfl hl.1 (Nat.le_of_ble_eq_true rfl) dX6_init_39 ⟨Nat.le_of_ble_eq_true rfl, Nat.le_of_ble_eq_true rfl⟩ (fun u_39 H locs hP hD hS q_39 => ?_)
  obtain ⟨a_sums, a_pr, a_rel, a_grp, a_idx⟩ := u_39
  have hP : gvP D vwCl ((((((((B27_0.set p_off (a_off, .inr (7, [.ref a_led, .ref a_spd, x_off_2, x_off_3, x_off_4, x_off_5, x_off_6, .int (nI (0))]))).set p_spd (a_spd, .inr (5, [.ref a_told, .ref a_adp, .ref a_shr]))) ++ [((a_sums, .inr (6, [.int (nI (0)), .double 0, .double 0, .double 0, .double 0])) : Nat × va_E)]) ++ [((a_pr, eD y 1152 ((fun _ => 0))) : Nat × va_E)]) ++ [((a_rel, eD y 288 ((fun _ => 0))) : Nat × va_E)]) ++ [((a_grp, eD y 96 ((fun _ => 0))) : Nat × va_E)]) ++ [((a_idx, eD y 120 ((fun _ => 0))) : Nat × va_E)]).set p_ser (a_ser, .inr (4, [.ref a_led, .ref a_spd, .ref a_sums, .ref a_pr, .ref a_rel, .ref a_grp, .ref a_idx, .int (gb (false))]))) H := hP
  have hD : gvD A ((((((((B27_0.set p_off (a_off, .inr (7, [.ref a_led, .ref a_spd, x_off_2, x_off_3, x_off_4, x_off_5, x_off_6, .int (nI (0))]))).set p_spd (a_spd, .inr (5, [.ref a_told, .ref a_adp, .ref a_shr]))) ++ [((a_sums, .inr (6, [.int (nI (0)), .double 0, .double 0, .double 0, .double 0])) : Nat × va_E)]) ++ [((a_pr, eD y 1152 ((fun _ => 0))) : Nat × va_E)]) ++ [((a_rel, eD y 288 ((fun _ => 0))) : Nat × va_E)]) ++ [((a_grp, eD y 96 ((fun _ => 0))) : Nat × va_E)]) ++ [((a_idx, eD y 120 ((fun _ => 0))) : Nat × va_E)]).set p_ser (a_ser, .inr (4, [.ref a_led, .ref a_spd, .ref a_sums, .ref a_pr, .ref a_rel, .ref a_grp, .ref a_idx, .int (gb (false))]))) := hD
  obtain ⟨p_sums, hp_sums⟩ : ∃ z, z = (B27_0).length := ⟨_, rfl⟩
  obtain ⟨B39_0, hB39_0⟩ : ∃ B, B = (B27_0 ++ [((a_sums, .inr (6, [.int (nI (0)), .double 0, .double 0, .double 0, .double 0])) : Nat × va_E)]) := ⟨_, rfl⟩
  have hq_sums : p_sums = ws.length + 14 := hp_sums.trans hLB27_0
  have hLB39_0 : B39_0.length = ws.length + 15 := by rw [hB39_0, List.length_append, hLB27_0]; rfl
  have hKB39_0 : gKeep ws B39_0 [p_off] := gKeep.app hB39_0 hKB27_0
  have e39_0_sums : B39_0[p_sums]? = some (a_sums, .inr (6, [.int (nI (0)), .double 0, .double 0, .double 0, .double 0])) := by rw [hB39_0, hp_sums]; exact g_apN
  have q39_0 : (((B27_0.set p_off (a_off, .inr (7, [.ref a_led, .ref a_spd, x_off_2, x_off_3, x_off_4, x_off_5, x_off_6, .int (nI (0))]))).set p_spd (a_spd, .inr (5, [.ref a_told, .ref a_adp, .ref a_shr]))) ++ [((a_sums, .inr (6, [.int (nI (0)), .double 0, .double 0, .double 0, .double 0])) : Nat × va_E)]) = ((B39_0.set p_off (a_off, .inr (7, [.ref a_led, .ref a_spd, x_off_2, x_off_3, x_off_4, x_off_5, x_off_6, .int (nI (0))]))).set p_spd (a_spd, .inr (5, [.ref a_told, .ref a_adp, .ref a_shr]))) := by rw [hB39_0]; exact (Eq.trans (g_sa (g_ltS (g_lt e27_0_spd))) (g_c (g_sa (g_lt e27_0_off))))
  obtain ⟨p_pr, hp_pr⟩ : ∃ z, z = (B39_0).length := ⟨_, rfl⟩
  have e39_0_off := g_apE hB39_0 e27_0_off
  have e39_0_spd := g_apE hB39_0 e27_0_spd
  obtain ⟨B39_1, hB39_1⟩ : ∃ B, B = (B39_0 ++ [((a_pr, eD y 1152 ((fun _ => 0))) : Nat × va_E)]) := ⟨_, rfl⟩
  have hq_pr : p_pr = ws.length + 15 := hp_pr.trans hLB39_0
  have hLB39_1 : B39_1.length = ws.length + 16 := by rw [hB39_1, List.length_append, hLB39_0]; rfl
  have hKB39_1 : gKeep ws B39_1 [p_off] := gKeep.app hB39_1 hKB39_0
  have e39_1_pr : B39_1[p_pr]? = some (a_pr, eD y 1152 ((fun _ => 0))) := by rw [hB39_1, hp_pr]; exact g_apN
  have q39_1 : (((B39_0.set p_off (a_off, .inr (7, [.ref a_led, .ref a_spd, x_off_2, x_off_3, x_off_4, x_off_5, x_off_6, .int (nI (0))]))).set p_spd (a_spd, .inr (5, [.ref a_told, .ref a_adp, .ref a_shr]))) ++ [((a_pr, eD y 1152 ((fun _ => 0))) : Nat × va_E)]) = ((B39_1.set p_off (a_off, .inr (7, [.ref a_led, .ref a_spd, x_off_2, x_off_3, x_off_4, x_off_5, x_off_6, .int (nI (0))]))).set p_spd (a_spd, .inr (5, [.ref a_told, .ref a_adp, .ref a_shr]))) := by rw [hB39_1]; exact (Eq.trans (g_sa (g_ltS (g_lt e39_0_spd))) (g_c (g_sa (g_lt e39_0_off))))
  obtain ⟨p_rel, hp_rel⟩ : ∃ z, z = (B39_1).length := ⟨_, rfl⟩
  have e39_1_off := g_apE hB39_1 e39_0_off
  have e39_1_spd := g_apE hB39_1 e39_0_spd
  obtain ⟨B39_2, hB39_2⟩ : ∃ B, B = (B39_1 ++ [((a_rel, eD y 288 ((fun _ => 0))) : Nat × va_E)]) := ⟨_, rfl⟩
  have hq_rel : p_rel = ws.length + 16 := hp_rel.trans hLB39_1
  have hLB39_2 : B39_2.length = ws.length + 17 := by rw [hB39_2, List.length_append, hLB39_1]; rfl
  have hKB39_2 : gKeep ws B39_2 [p_off] := gKeep.app hB39_2 hKB39_1
  have e39_2_rel : B39_2[p_rel]? = some (a_rel, eD y 288 ((fun _ => 0))) := by rw [hB39_2, hp_rel]; exact g_apN
  have q39_2 : (((B39_1.set p_off (a_off, .inr (7, [.ref a_led, .ref a_spd, x_off_2, x_off_3, x_off_4, x_off_5, x_off_6, .int (nI (0))]))).set p_spd (a_spd, .inr (5, [.ref a_told, .ref a_adp, .ref a_shr]))) ++ [((a_rel, eD y 288 ((fun _ => 0))) : Nat × va_E)]) = ((B39_2.set p_off (a_off, .inr (7, [.ref a_led, .ref a_spd, x_off_2, x_off_3, x_off_4, x_off_5, x_off_6, .int (nI (0))]))).set p_spd (a_spd, .inr (5, [.ref a_told, .ref a_adp, .ref a_shr]))) := by rw [hB39_2]; exact (Eq.trans (g_sa (g_ltS (g_lt e39_1_spd))) (g_c (g_sa (g_lt e39_1_off))))
  obtain ⟨p_grp, hp_grp⟩ : ∃ z, z = (B39_2).length := ⟨_, rfl⟩
  have e39_2_off := g_apE hB39_2 e39_1_off
  have e39_2_spd := g_apE hB39_2 e39_1_spd
  obtain ⟨B39_3, hB39_3⟩ : ∃ B, B = (B39_2 ++ [((a_grp, eD y 96 ((fun _ => 0))) : Nat × va_E)]) := ⟨_, rfl⟩
  have hq_grp : p_grp = ws.length + 17 := hp_grp.trans hLB39_2
  have hLB39_3 : B39_3.length = ws.length + 18 := by rw [hB39_3, List.length_append, hLB39_2]; rfl
  have hKB39_3 : gKeep ws B39_3 [p_off] := gKeep.app hB39_3 hKB39_2
  have e39_3_grp : B39_3[p_grp]? = some (a_grp, eD y 96 ((fun _ => 0))) := by rw [hB39_3, hp_grp]; exact g_apN
  have q39_3 : (((B39_2.set p_off (a_off, .inr (7, [.ref a_led, .ref a_spd, x_off_2, x_off_3, x_off_4, x_off_5, x_off_6, .int (nI (0))]))).set p_spd (a_spd, .inr (5, [.ref a_told, .ref a_adp, .ref a_shr]))) ++ [((a_grp, eD y 96 ((fun _ => 0))) : Nat × va_E)]) = ((B39_3.set p_off (a_off, .inr (7, [.ref a_led, .ref a_spd, x_off_2, x_off_3, x_off_4, x_off_5, x_off_6, .int (nI (0))]))).set p_spd (a_spd, .inr (5, [.ref a_told, .ref a_adp, .ref a_shr]))) := by rw [hB39_3]; exact (Eq.trans (g_sa (g_ltS (g_lt e39_2_spd))) (g_c (g_sa (g_lt e39_2_off))))
  obtain ⟨p_idx, hp_idx⟩ : ∃ z, z = (B39_3).length := ⟨_, rfl⟩
  have e39_3_off := g_apE hB39_3 e39_2_off
  have e39_3_spd := g_apE hB39_3 e39_2_spd
  obtain ⟨B39_4, hB39_4⟩ : ∃ B, B = (B39_3 ++ [((a_idx, eD y 120 ((fun _ => 0))) : Nat × va_E)]) := ⟨_, rfl⟩
  have hq_idx : p_idx = ws.length + 18 := hp_idx.trans hLB39_3
  have hLB39_4 : B39_4.length = ws.length + 19 := by rw [hB39_4, List.length_append, hLB39_3]; rfl
  have hKB39_4 : gKeep ws B39_4 [p_off] := gKeep.app hB39_4 hKB39_3
  have e39_4_idx : B39_4[p_idx]? = some (a_idx, eD y 120 ((fun _ => 0))) := by rw [hB39_4, hp_idx]; exact g_apN
  have q39_4 : (((B39_3.set p_off (a_off, .inr (7, [.ref a_led, .ref a_spd, x_off_2, x_off_3, x_off_4, x_off_5, x_off_6, .int (nI (0))]))).set p_spd (a_spd, .inr (5, [.ref a_told, .ref a_adp, .ref a_shr]))) ++ [((a_idx, eD y 120 ((fun _ => 0))) : Nat × va_E)]) = ((B39_4.set p_off (a_off, .inr (7, [.ref a_led, .ref a_spd, x_off_2, x_off_3, x_off_4, x_off_5, x_off_6, .int (nI (0))]))).set p_spd (a_spd, .inr (5, [.ref a_told, .ref a_adp, .ref a_shr]))) := by rw [hB39_4]; exact (Eq.trans (g_sa (g_ltS (g_lt e39_3_spd))) (g_c (g_sa (g_lt e39_3_off))))
  have hP : gvP D vwCl ((((((((B27_0.set p_off (a_off, .inr (7, [.ref a_led, .ref a_spd, x_off_2, x_off_3, x_off_4, x_off_5, x_off_6, .int (nI (0))]))).set p_spd (a_spd, .inr (5, [.ref a_told, .ref a_adp, .ref a_shr]))) ++ [((a_sums, .inr (6, [.int (nI (0)), .double 0, .double 0, .double 0, .double 0])) : Nat × va_E)]) ++ [((a_pr, eD y 1152 ((fun _ => 0))) : Nat × va_E)]) ++ [((a_rel, eD y 288 ((fun _ => 0))) : Nat × va_E)]) ++ [((a_grp, eD y 96 ((fun _ => 0))) : Nat × va_E)]) ++ [((a_idx, eD y 120 ((fun _ => 0))) : Nat × va_E)]).set p_ser (a_ser, .inr (4, [.ref a_led, .ref a_spd, .ref a_sums, .ref a_pr, .ref a_rel, .ref a_grp, .ref a_idx, .int (gb (false))]))) _ := hP
  have hD : gvD A ((((((((B27_0.set p_off (a_off, .inr (7, [.ref a_led, .ref a_spd, x_off_2, x_off_3, x_off_4, x_off_5, x_off_6, .int (nI (0))]))).set p_spd (a_spd, .inr (5, [.ref a_told, .ref a_adp, .ref a_shr]))) ++ [((a_sums, .inr (6, [.int (nI (0)), .double 0, .double 0, .double 0, .double 0])) : Nat × va_E)]) ++ [((a_pr, eD y 1152 ((fun _ => 0))) : Nat × va_E)]) ++ [((a_rel, eD y 288 ((fun _ => 0))) : Nat × va_E)]) ++ [((a_grp, eD y 96 ((fun _ => 0))) : Nat × va_E)]) ++ [((a_idx, eD y 120 ((fun _ => 0))) : Nat × va_E)]).set p_ser (a_ser, .inr (4, [.ref a_led, .ref a_spd, .ref a_sums, .ref a_pr, .ref a_rel, .ref a_grp, .ref a_idx, .int (gb (false))]))) := hD
  have hP : gvP D vwCl (((B39_4.set p_off (a_off, .inr (7, [.ref a_led, .ref a_spd, x_off_2, x_off_3, x_off_4, x_off_5, x_off_6, .int (nI (0))]))).set p_spd (a_spd, .inr (5, [.ref a_told, .ref a_adp, .ref a_shr]))).set p_ser (a_ser, .inr (4, [.ref a_led, .ref a_spd, .ref a_sums, .ref a_pr, .ref a_rel, .ref a_grp, .ref a_idx, .int (gb (false))]))) _ := g_trP (by rw [q39_0, q39_1, q39_2, q39_3, q39_4]) hP
  have hD : gvD A (((B39_4.set p_off (a_off, .inr (7, [.ref a_led, .ref a_spd, x_off_2, x_off_3, x_off_4, x_off_5, x_off_6, .int (nI (0))]))).set p_spd (a_spd, .inr (5, [.ref a_told, .ref a_adp, .ref a_shr]))).set p_ser (a_ser, .inr (4, [.ref a_led, .ref a_spd, .ref a_sums, .ref a_pr, .ref a_rel, .ref a_grp, .ref a_idx, .int (gb (false))]))) := g_trD (by rw [q39_0, q39_1, q39_2, q39_3, q39_4]) hD
  have e39_4_off := g_apE hB39_4 e39_3_off
  have e39_4_spd := g_apE hB39_4 e39_3_spd
  have e39_0_ser := g_apE hB39_0 e27_0_ser
  have e39_1_ser := g_apE hB39_1 e39_0_ser
  have e39_2_ser := g_apE hB39_2 e39_1_ser
  have e39_3_ser := g_apE hB39_3 e39_2_ser
  have e39_4_ser := g_apE hB39_4 e39_3_ser
  have f_off := g_ne (x := (a_ser, .inr (4, [.ref a_led, .ref a_spd, .ref a_sums, .ref a_pr, .ref a_rel, .ref a_grp, .ref a_idx, .int (gb (false))]))) (g_kne e39_4_ser e39_4_off (Nat.ne_of_beq_eq_false rfl)) (g_ne (x := (a_spd, .inr (5, [.ref a_told, .ref a_adp, .ref a_shr]))) (g_kne e39_4_spd e39_4_off (Nat.ne_of_beq_eq_false rfl)) (g_eq (x := (a_off, .inr (7, [.ref a_led, .ref a_spd, x_off_2, x_off_3, x_off_4, x_off_5, x_off_6, .int (nI (0))]))) (e39_4_off)))
  refine gv_set f_off rfl (by rfl) (fun k9 h9 kk9 => va_putF (D := D) (ci := 7) (v := .ref a_ser) (ty := (.object "BasketryOffice$Series")) (C := RX6) (T := TX6) (N := 8) hx hb hts in_RX6 tyX6 tyX6_ok nmX6 hown hE.1 hP hD hS k9 h9 rfl 2 (by decide) (hts (.fieldLink RX6 28 "BasketryOffice" "asPublished" "LBasketryOffice$Series;") (by decide +kernel)) (fun _ h9 => h9) rfl (show meth.name = "<init>" from hnm) rfl (by decide +kernel) rfl rfl (Nat.le_of_ble_eq_true rfl) dX6_init_42 kk9) (fun H locs hP hD hS => ?_)
  have hP := g_trP (g_sc (g_kne e39_4_ser e39_4_off (Nat.ne_of_beq_eq_false rfl)) (g_sc (g_kne e39_4_spd e39_4_off (Nat.ne_of_beq_eq_false rfl)) g_ss)) hP
  have hD := g_trD (g_sc (g_kne e39_4_ser e39_4_off (Nat.ne_of_beq_eq_false rfl)) (g_sc (g_kne e39_4_spd e39_4_off (Nat.ne_of_beq_eq_false rfl)) g_ss)) hD
  refine lv_aload_n hx hb dX6_init_45 rfl (lv_at hl 0 rfl) ?_
  refine gv_add (by intro _; rfl) (fun kk9 => va_new (ci := 4) (fs := [.null, .null, .null, .null, .null, .null, .null, .int (gb (false))]) (C := RX3) (T := TX3) (N := 8) hx hb hts in_RX3 tyX3 tyX3_ok hown (hts (.classLink RX6 23 RX3) (by decide +kernel)) (hts (.instantiable RX3 8) (by decide +kernel)) (hts (.initialized RX3) (by decide +kernel)) hE.1 hP hD hS hA rfl (fun j hj => by rcases (show j = 0 ∨ j = 1 ∨ j = 2 ∨ j = 3 ∨ j = 4 ∨ j = 5 ∨ j = 6 ∨ j = 7 by omega) with rfl | rfl | rfl | rfl | rfl | rfl | rfl | rfl <;> rfl) (Nat.le_of_ble_eq_true rfl) (Nat.le_of_ble_eq_true rfl) dX6_init_46 kk9) (fun a_red H hP hD hS => ?_)
  obtain ⟨p_red, hp_red⟩ : ∃ z, z = (B39_4).length := ⟨_, rfl⟩
  have n_red_ser : p_red ≠ p_ser := by rw [hp_red]; exact g_apne e39_4_ser
  obtain ⟨B46_0, hB46_0⟩ : ∃ B, B = (B39_4 ++ [((a_red, .inr (4, [.null, .null, .null, .null, .null, .null, .null, .int (gb (false))])) : Nat × va_E)]) := ⟨_, rfl⟩
  have hq_red : p_red = ws.length + 19 := hp_red.trans hLB39_4
  have hLB46_0 : B46_0.length = ws.length + 20 := by rw [hB46_0, List.length_append, hLB39_4]; rfl
  have hKB46_0 : gKeep ws B46_0 [p_off] := gKeep.app hB46_0 hKB39_4
  have e46_0_red : B46_0[p_red]? = some (a_red, .inr (4, [.null, .null, .null, .null, .null, .null, .null, .int (gb (false))])) := by rw [hB46_0, hp_red]; exact g_apN
  have q46_0 : ((((B39_4.set p_off (a_off, .inr (7, [.ref a_led, .ref a_spd, .ref a_ser, x_off_3, x_off_4, x_off_5, x_off_6, .int (nI (0))]))).set p_spd (a_spd, .inr (5, [.ref a_told, .ref a_adp, .ref a_shr]))).set p_ser (a_ser, .inr (4, [.ref a_led, .ref a_spd, .ref a_sums, .ref a_pr, .ref a_rel, .ref a_grp, .ref a_idx, .int (gb (false))]))) ++ [((a_red, .inr (4, [.null, .null, .null, .null, .null, .null, .null, .int (gb (false))])) : Nat × va_E)]) = (((B46_0.set p_off (a_off, .inr (7, [.ref a_led, .ref a_spd, .ref a_ser, x_off_3, x_off_4, x_off_5, x_off_6, .int (nI (0))]))).set p_spd (a_spd, .inr (5, [.ref a_told, .ref a_adp, .ref a_shr]))).set p_ser (a_ser, .inr (4, [.ref a_led, .ref a_spd, .ref a_sums, .ref a_pr, .ref a_rel, .ref a_grp, .ref a_idx, .int (gb (false))]))) := by rw [hB46_0]; exact (Eq.trans (g_sa (g_ltS (g_ltS (g_lt e39_4_ser)))) (g_c (Eq.trans (g_sa (g_ltS (g_lt e39_4_spd))) (g_c (g_sa (g_lt e39_4_off))))))
  have hP : gvP D vwCl ((((B39_4.set p_off (a_off, .inr (7, [.ref a_led, .ref a_spd, .ref a_ser, x_off_3, x_off_4, x_off_5, x_off_6, .int (nI (0))]))).set p_spd (a_spd, .inr (5, [.ref a_told, .ref a_adp, .ref a_shr]))).set p_ser (a_ser, .inr (4, [.ref a_led, .ref a_spd, .ref a_sums, .ref a_pr, .ref a_rel, .ref a_grp, .ref a_idx, .int (gb (false))]))) ++ [((a_red, .inr (4, [.null, .null, .null, .null, .null, .null, .null, .int (gb (false))])) : Nat × va_E)]) _ := hP
  have hD : gvD A ((((B39_4.set p_off (a_off, .inr (7, [.ref a_led, .ref a_spd, .ref a_ser, x_off_3, x_off_4, x_off_5, x_off_6, .int (nI (0))]))).set p_spd (a_spd, .inr (5, [.ref a_told, .ref a_adp, .ref a_shr]))).set p_ser (a_ser, .inr (4, [.ref a_led, .ref a_spd, .ref a_sums, .ref a_pr, .ref a_rel, .ref a_grp, .ref a_idx, .int (gb (false))]))) ++ [((a_red, .inr (4, [.null, .null, .null, .null, .null, .null, .null, .int (gb (false))])) : Nat × va_E)]) := hD
  have hP : gvP D vwCl (((B46_0.set p_off (a_off, .inr (7, [.ref a_led, .ref a_spd, .ref a_ser, x_off_3, x_off_4, x_off_5, x_off_6, .int (nI (0))]))).set p_spd (a_spd, .inr (5, [.ref a_told, .ref a_adp, .ref a_shr]))).set p_ser (a_ser, .inr (4, [.ref a_led, .ref a_spd, .ref a_sums, .ref a_pr, .ref a_rel, .ref a_grp, .ref a_idx, .int (gb (false))]))) _ := g_trP (by rw [q46_0]) hP
  have hD : gvD A (((B46_0.set p_off (a_off, .inr (7, [.ref a_led, .ref a_spd, .ref a_ser, x_off_3, x_off_4, x_off_5, x_off_6, .int (nI (0))]))).set p_spd (a_spd, .inr (5, [.ref a_told, .ref a_adp, .ref a_shr]))).set p_ser (a_ser, .inr (4, [.ref a_led, .ref a_spd, .ref a_sums, .ref a_pr, .ref a_rel, .ref a_grp, .ref a_idx, .int (gb (false))]))) := g_trD (by rw [q46_0]) hD
  refine lv_dup hx hb dX6_init_49 rfl ?_
  refine lv_aload_n hx hb dX6_init_50 rfl (lv_at hl 0 rfl) ?_
  have e46_0_off := g_apE hB46_0 e39_4_off
  have e46_0_spd := g_apE hB46_0 e39_4_spd
  have e46_0_ser := g_apE hB46_0 e39_4_ser
  have f_off := g_ne (x := (a_ser, .inr (4, [.ref a_led, .ref a_spd, .ref a_sums, .ref a_pr, .ref a_rel, .ref a_grp, .ref a_idx, .int (gb (false))]))) (g_kne e46_0_ser e46_0_off (Nat.ne_of_beq_eq_false rfl)) (g_ne (x := (a_spd, .inr (5, [.ref a_told, .ref a_adp, .ref a_shr]))) (g_kne e46_0_spd e46_0_off (Nat.ne_of_beq_eq_false rfl)) (g_eq (x := (a_off, .inr (7, [.ref a_led, .ref a_spd, .ref a_ser, x_off_3, x_off_4, x_off_5, x_off_6, .int (nI (0))]))) (e46_0_off)))
  refine va_get (D := D) (ci := 7) (v := .ref a_led) (C := RX6) (T := TX6) (N := 8) hx hb hts in_RX6 hown hE.1 (gv1 hP f_off) 0 rfl rfl 0 (by decide) (hts (.fieldLink RX6 12 "BasketryOffice" "ledger" "LBasketryOffice$Ledger;") (by decide +kernel)) (fun _ h9 => h9) rfl dX6_init_51 ?_
  refine lv_aload_n hx hb dX6_init_54 rfl (lv_at hl 0 rfl) ?_
  refine va_get (D := D) (ci := 7) (v := .ref a_spd) (C := RX6) (T := TX6) (N := 8) hx hb hts in_RX6 hown hE.1 (gv1 hP f_off) 0 rfl rfl 1 (by decide) (hts (.fieldLink RX6 19 "BasketryOffice" "spendings" "LBasketryOffice$Spendings;") (by decide +kernel)) (fun _ h9 => h9) rfl dX6_init_55 ?_
  have f_red := g_ne (x := (a_ser, .inr (4, [.ref a_led, .ref a_spd, .ref a_sums, .ref a_pr, .ref a_rel, .ref a_grp, .ref a_idx, .int (gb (false))]))) (Ne.symm n_red_ser) (g_ne (x := (a_spd, .inr (5, [.ref a_told, .ref a_adp, .ref a_shr]))) (g_kne e46_0_spd e46_0_red (Nat.ne_of_beq_eq_false rfl)) (g_ne (x := (a_off, .inr (7, [.ref a_led, .ref a_spd, .ref a_ser, x_off_3, x_off_4, x_off_5, x_off_6, .int (nI (0))]))) (g_kne e46_0_off e46_0_red (Nat.ne_of_beq_eq_false rfl)) (e46_0_red)))
  refine gc_I_v (As := [.ref a_led, .ref a_spd]) (rest := [.ref a_red, .ref a_off]) (c_X3_init l f_red) ⟨hx, hb, hml, hown, hts⟩ (cwI 2 hts gX6_init_X3_init rfl rfl rfl (hts (.initialized RX3) (by decide +kernel)) (hts (.methodLink RX6 25 yX3_init) (by decide +kernel)) (hts (.instanceMethod yX3_init) (by decide +kernel)) rfl (by decide +kernel) ⟨Nat.le_of_ble_eq_true rfl, Nat.le_of_ble_eq_true rfl⟩) hE hP hD hS hA rfl rfl hl.1 (Nat.le_of_ble_eq_true rfl) dX6_init_58 ⟨Nat.le_of_ble_eq_true rfl, Nat.le_of_ble_eq_true rfl⟩ (fun u_58 H locs hP hD hS q_58 => ?_)
  obtain ⟨a_sums2, a_pr2, a_rel2, a_grp2, a_idx2⟩ := u_58
  have hP : gvP D vwCl (((((((((B46_0.set p_off (a_off, .inr (7, [.ref a_led, .ref a_spd, .ref a_ser, x_off_3, x_off_4, x_off_5, x_off_6, .int (nI (0))]))).set p_spd (a_spd, .inr (5, [.ref a_told, .ref a_adp, .ref a_shr]))).set p_ser (a_ser, .inr (4, [.ref a_led, .ref a_spd, .ref a_sums, .ref a_pr, .ref a_rel, .ref a_grp, .ref a_idx, .int (gb (false))]))) ++ [((a_sums2, .inr (6, [.int (nI (0)), .double 0, .double 0, .double 0, .double 0])) : Nat × va_E)]) ++ [((a_pr2, eD y 1152 ((fun _ => 0))) : Nat × va_E)]) ++ [((a_rel2, eD y 288 ((fun _ => 0))) : Nat × va_E)]) ++ [((a_grp2, eD y 96 ((fun _ => 0))) : Nat × va_E)]) ++ [((a_idx2, eD y 120 ((fun _ => 0))) : Nat × va_E)]).set p_red (a_red, .inr (4, [.ref a_led, .ref a_spd, .ref a_sums2, .ref a_pr2, .ref a_rel2, .ref a_grp2, .ref a_idx2, .int (gb (false))]))) H := hP
  have hD : gvD A (((((((((B46_0.set p_off (a_off, .inr (7, [.ref a_led, .ref a_spd, .ref a_ser, x_off_3, x_off_4, x_off_5, x_off_6, .int (nI (0))]))).set p_spd (a_spd, .inr (5, [.ref a_told, .ref a_adp, .ref a_shr]))).set p_ser (a_ser, .inr (4, [.ref a_led, .ref a_spd, .ref a_sums, .ref a_pr, .ref a_rel, .ref a_grp, .ref a_idx, .int (gb (false))]))) ++ [((a_sums2, .inr (6, [.int (nI (0)), .double 0, .double 0, .double 0, .double 0])) : Nat × va_E)]) ++ [((a_pr2, eD y 1152 ((fun _ => 0))) : Nat × va_E)]) ++ [((a_rel2, eD y 288 ((fun _ => 0))) : Nat × va_E)]) ++ [((a_grp2, eD y 96 ((fun _ => 0))) : Nat × va_E)]) ++ [((a_idx2, eD y 120 ((fun _ => 0))) : Nat × va_E)]).set p_red (a_red, .inr (4, [.ref a_led, .ref a_spd, .ref a_sums2, .ref a_pr2, .ref a_rel2, .ref a_grp2, .ref a_idx2, .int (gb (false))]))) := hD
  obtain ⟨p_sums2, hp_sums2⟩ : ∃ z, z = (B46_0).length := ⟨_, rfl⟩
  have e39_1_sums := g_apE hB39_1 e39_0_sums
  have e39_2_sums := g_apE hB39_2 e39_1_sums
  have e39_3_sums := g_apE hB39_3 e39_2_sums
  have e39_4_sums := g_apE hB39_4 e39_3_sums
  have e46_0_sums := g_apE hB46_0 e39_4_sums
  have n_sums2_sums : p_sums2 ≠ p_sums := by rw [hp_sums2]; exact g_apne e46_0_sums
  obtain ⟨B58_0, hB58_0⟩ : ∃ B, B = (B46_0 ++ [((a_sums2, .inr (6, [.int (nI (0)), .double 0, .double 0, .double 0, .double 0])) : Nat × va_E)]) := ⟨_, rfl⟩
  have hq_sums2 : p_sums2 = ws.length + 20 := hp_sums2.trans hLB46_0
  have hLB58_0 : B58_0.length = ws.length + 21 := by rw [hB58_0, List.length_append, hLB46_0]; rfl
  have hKB58_0 : gKeep ws B58_0 [p_off] := gKeep.app hB58_0 hKB46_0
  have e58_0_sums2 : B58_0[p_sums2]? = some (a_sums2, .inr (6, [.int (nI (0)), .double 0, .double 0, .double 0, .double 0])) := by rw [hB58_0, hp_sums2]; exact g_apN
  have q58_0 : ((((B46_0.set p_off (a_off, .inr (7, [.ref a_led, .ref a_spd, .ref a_ser, x_off_3, x_off_4, x_off_5, x_off_6, .int (nI (0))]))).set p_spd (a_spd, .inr (5, [.ref a_told, .ref a_adp, .ref a_shr]))).set p_ser (a_ser, .inr (4, [.ref a_led, .ref a_spd, .ref a_sums, .ref a_pr, .ref a_rel, .ref a_grp, .ref a_idx, .int (gb (false))]))) ++ [((a_sums2, .inr (6, [.int (nI (0)), .double 0, .double 0, .double 0, .double 0])) : Nat × va_E)]) = (((B58_0.set p_off (a_off, .inr (7, [.ref a_led, .ref a_spd, .ref a_ser, x_off_3, x_off_4, x_off_5, x_off_6, .int (nI (0))]))).set p_spd (a_spd, .inr (5, [.ref a_told, .ref a_adp, .ref a_shr]))).set p_ser (a_ser, .inr (4, [.ref a_led, .ref a_spd, .ref a_sums, .ref a_pr, .ref a_rel, .ref a_grp, .ref a_idx, .int (gb (false))]))) := by rw [hB58_0]; exact (Eq.trans (g_sa (g_ltS (g_ltS (g_lt e46_0_ser)))) (g_c (Eq.trans (g_sa (g_ltS (g_lt e46_0_spd))) (g_c (g_sa (g_lt e46_0_off))))))
  obtain ⟨p_pr2, hp_pr2⟩ : ∃ z, z = (B58_0).length := ⟨_, rfl⟩
  have e58_0_off := g_apE hB58_0 e46_0_off
  have e58_0_spd := g_apE hB58_0 e46_0_spd
  have e58_0_ser := g_apE hB58_0 e46_0_ser
  obtain ⟨B58_1, hB58_1⟩ : ∃ B, B = (B58_0 ++ [((a_pr2, eD y 1152 ((fun _ => 0))) : Nat × va_E)]) := ⟨_, rfl⟩
  have hq_pr2 : p_pr2 = ws.length + 21 := hp_pr2.trans hLB58_0
  have hLB58_1 : B58_1.length = ws.length + 22 := by rw [hB58_1, List.length_append, hLB58_0]; rfl
  have hKB58_1 : gKeep ws B58_1 [p_off] := gKeep.app hB58_1 hKB58_0
  have e58_1_pr2 : B58_1[p_pr2]? = some (a_pr2, eD y 1152 ((fun _ => 0))) := by rw [hB58_1, hp_pr2]; exact g_apN
  have q58_1 : ((((B58_0.set p_off (a_off, .inr (7, [.ref a_led, .ref a_spd, .ref a_ser, x_off_3, x_off_4, x_off_5, x_off_6, .int (nI (0))]))).set p_spd (a_spd, .inr (5, [.ref a_told, .ref a_adp, .ref a_shr]))).set p_ser (a_ser, .inr (4, [.ref a_led, .ref a_spd, .ref a_sums, .ref a_pr, .ref a_rel, .ref a_grp, .ref a_idx, .int (gb (false))]))) ++ [((a_pr2, eD y 1152 ((fun _ => 0))) : Nat × va_E)]) = (((B58_1.set p_off (a_off, .inr (7, [.ref a_led, .ref a_spd, .ref a_ser, x_off_3, x_off_4, x_off_5, x_off_6, .int (nI (0))]))).set p_spd (a_spd, .inr (5, [.ref a_told, .ref a_adp, .ref a_shr]))).set p_ser (a_ser, .inr (4, [.ref a_led, .ref a_spd, .ref a_sums, .ref a_pr, .ref a_rel, .ref a_grp, .ref a_idx, .int (gb (false))]))) := by rw [hB58_1]; exact (Eq.trans (g_sa (g_ltS (g_ltS (g_lt e58_0_ser)))) (g_c (Eq.trans (g_sa (g_ltS (g_lt e58_0_spd))) (g_c (g_sa (g_lt e58_0_off))))))
  obtain ⟨p_rel2, hp_rel2⟩ : ∃ z, z = (B58_1).length := ⟨_, rfl⟩
  have e58_1_off := g_apE hB58_1 e58_0_off
  have e58_1_spd := g_apE hB58_1 e58_0_spd
  have e58_1_ser := g_apE hB58_1 e58_0_ser
  obtain ⟨B58_2, hB58_2⟩ : ∃ B, B = (B58_1 ++ [((a_rel2, eD y 288 ((fun _ => 0))) : Nat × va_E)]) := ⟨_, rfl⟩
  have hq_rel2 : p_rel2 = ws.length + 22 := hp_rel2.trans hLB58_1
  have hLB58_2 : B58_2.length = ws.length + 23 := by rw [hB58_2, List.length_append, hLB58_1]; rfl
  have hKB58_2 : gKeep ws B58_2 [p_off] := gKeep.app hB58_2 hKB58_1
  have e58_2_rel2 : B58_2[p_rel2]? = some (a_rel2, eD y 288 ((fun _ => 0))) := by rw [hB58_2, hp_rel2]; exact g_apN
  have q58_2 : ((((B58_1.set p_off (a_off, .inr (7, [.ref a_led, .ref a_spd, .ref a_ser, x_off_3, x_off_4, x_off_5, x_off_6, .int (nI (0))]))).set p_spd (a_spd, .inr (5, [.ref a_told, .ref a_adp, .ref a_shr]))).set p_ser (a_ser, .inr (4, [.ref a_led, .ref a_spd, .ref a_sums, .ref a_pr, .ref a_rel, .ref a_grp, .ref a_idx, .int (gb (false))]))) ++ [((a_rel2, eD y 288 ((fun _ => 0))) : Nat × va_E)]) = (((B58_2.set p_off (a_off, .inr (7, [.ref a_led, .ref a_spd, .ref a_ser, x_off_3, x_off_4, x_off_5, x_off_6, .int (nI (0))]))).set p_spd (a_spd, .inr (5, [.ref a_told, .ref a_adp, .ref a_shr]))).set p_ser (a_ser, .inr (4, [.ref a_led, .ref a_spd, .ref a_sums, .ref a_pr, .ref a_rel, .ref a_grp, .ref a_idx, .int (gb (false))]))) := by rw [hB58_2]; exact (Eq.trans (g_sa (g_ltS (g_ltS (g_lt e58_1_ser)))) (g_c (Eq.trans (g_sa (g_ltS (g_lt e58_1_spd))) (g_c (g_sa (g_lt e58_1_off))))))
  obtain ⟨p_grp2, hp_grp2⟩ : ∃ z, z = (B58_2).length := ⟨_, rfl⟩
  have e58_2_off := g_apE hB58_2 e58_1_off
  have e58_2_spd := g_apE hB58_2 e58_1_spd
  have e58_2_ser := g_apE hB58_2 e58_1_ser
  obtain ⟨B58_3, hB58_3⟩ : ∃ B, B = (B58_2 ++ [((a_grp2, eD y 96 ((fun _ => 0))) : Nat × va_E)]) := ⟨_, rfl⟩
  have hq_grp2 : p_grp2 = ws.length + 23 := hp_grp2.trans hLB58_2
  have hLB58_3 : B58_3.length = ws.length + 24 := by rw [hB58_3, List.length_append, hLB58_2]; rfl
  have hKB58_3 : gKeep ws B58_3 [p_off] := gKeep.app hB58_3 hKB58_2
  have e58_3_grp2 : B58_3[p_grp2]? = some (a_grp2, eD y 96 ((fun _ => 0))) := by rw [hB58_3, hp_grp2]; exact g_apN
  have q58_3 : ((((B58_2.set p_off (a_off, .inr (7, [.ref a_led, .ref a_spd, .ref a_ser, x_off_3, x_off_4, x_off_5, x_off_6, .int (nI (0))]))).set p_spd (a_spd, .inr (5, [.ref a_told, .ref a_adp, .ref a_shr]))).set p_ser (a_ser, .inr (4, [.ref a_led, .ref a_spd, .ref a_sums, .ref a_pr, .ref a_rel, .ref a_grp, .ref a_idx, .int (gb (false))]))) ++ [((a_grp2, eD y 96 ((fun _ => 0))) : Nat × va_E)]) = (((B58_3.set p_off (a_off, .inr (7, [.ref a_led, .ref a_spd, .ref a_ser, x_off_3, x_off_4, x_off_5, x_off_6, .int (nI (0))]))).set p_spd (a_spd, .inr (5, [.ref a_told, .ref a_adp, .ref a_shr]))).set p_ser (a_ser, .inr (4, [.ref a_led, .ref a_spd, .ref a_sums, .ref a_pr, .ref a_rel, .ref a_grp, .ref a_idx, .int (gb (false))]))) := by rw [hB58_3]; exact (Eq.trans (g_sa (g_ltS (g_ltS (g_lt e58_2_ser)))) (g_c (Eq.trans (g_sa (g_ltS (g_lt e58_2_spd))) (g_c (g_sa (g_lt e58_2_off))))))
  obtain ⟨p_idx2, hp_idx2⟩ : ∃ z, z = (B58_3).length := ⟨_, rfl⟩
  have e58_3_off := g_apE hB58_3 e58_2_off
  have e58_3_spd := g_apE hB58_3 e58_2_spd
  have e58_3_ser := g_apE hB58_3 e58_2_ser
  obtain ⟨B58_4, hB58_4⟩ : ∃ B, B = (B58_3 ++ [((a_idx2, eD y 120 ((fun _ => 0))) : Nat × va_E)]) := ⟨_, rfl⟩
  have hq_idx2 : p_idx2 = ws.length + 24 := hp_idx2.trans hLB58_3
  have hLB58_4 : B58_4.length = ws.length + 25 := by rw [hB58_4, List.length_append, hLB58_3]; rfl
  have hKB58_4 : gKeep ws B58_4 [p_off] := gKeep.app hB58_4 hKB58_3
  have e58_4_idx2 : B58_4[p_idx2]? = some (a_idx2, eD y 120 ((fun _ => 0))) := by rw [hB58_4, hp_idx2]; exact g_apN
  have q58_4 : ((((B58_3.set p_off (a_off, .inr (7, [.ref a_led, .ref a_spd, .ref a_ser, x_off_3, x_off_4, x_off_5, x_off_6, .int (nI (0))]))).set p_spd (a_spd, .inr (5, [.ref a_told, .ref a_adp, .ref a_shr]))).set p_ser (a_ser, .inr (4, [.ref a_led, .ref a_spd, .ref a_sums, .ref a_pr, .ref a_rel, .ref a_grp, .ref a_idx, .int (gb (false))]))) ++ [((a_idx2, eD y 120 ((fun _ => 0))) : Nat × va_E)]) = (((B58_4.set p_off (a_off, .inr (7, [.ref a_led, .ref a_spd, .ref a_ser, x_off_3, x_off_4, x_off_5, x_off_6, .int (nI (0))]))).set p_spd (a_spd, .inr (5, [.ref a_told, .ref a_adp, .ref a_shr]))).set p_ser (a_ser, .inr (4, [.ref a_led, .ref a_spd, .ref a_sums, .ref a_pr, .ref a_rel, .ref a_grp, .ref a_idx, .int (gb (false))]))) := by rw [hB58_4]; exact (Eq.trans (g_sa (g_ltS (g_ltS (g_lt e58_3_ser)))) (g_c (Eq.trans (g_sa (g_ltS (g_lt e58_3_spd))) (g_c (g_sa (g_lt e58_3_off))))))
  have hP : gvP D vwCl (((((((((B46_0.set p_off (a_off, .inr (7, [.ref a_led, .ref a_spd, .ref a_ser, x_off_3, x_off_4, x_off_5, x_off_6, .int (nI (0))]))).set p_spd (a_spd, .inr (5, [.ref a_told, .ref a_adp, .ref a_shr]))).set p_ser (a_ser, .inr (4, [.ref a_led, .ref a_spd, .ref a_sums, .ref a_pr, .ref a_rel, .ref a_grp, .ref a_idx, .int (gb (false))]))) ++ [((a_sums2, .inr (6, [.int (nI (0)), .double 0, .double 0, .double 0, .double 0])) : Nat × va_E)]) ++ [((a_pr2, eD y 1152 ((fun _ => 0))) : Nat × va_E)]) ++ [((a_rel2, eD y 288 ((fun _ => 0))) : Nat × va_E)]) ++ [((a_grp2, eD y 96 ((fun _ => 0))) : Nat × va_E)]) ++ [((a_idx2, eD y 120 ((fun _ => 0))) : Nat × va_E)]).set p_red (a_red, .inr (4, [.ref a_led, .ref a_spd, .ref a_sums2, .ref a_pr2, .ref a_rel2, .ref a_grp2, .ref a_idx2, .int (gb (false))]))) _ := hP
  have hD : gvD A (((((((((B46_0.set p_off (a_off, .inr (7, [.ref a_led, .ref a_spd, .ref a_ser, x_off_3, x_off_4, x_off_5, x_off_6, .int (nI (0))]))).set p_spd (a_spd, .inr (5, [.ref a_told, .ref a_adp, .ref a_shr]))).set p_ser (a_ser, .inr (4, [.ref a_led, .ref a_spd, .ref a_sums, .ref a_pr, .ref a_rel, .ref a_grp, .ref a_idx, .int (gb (false))]))) ++ [((a_sums2, .inr (6, [.int (nI (0)), .double 0, .double 0, .double 0, .double 0])) : Nat × va_E)]) ++ [((a_pr2, eD y 1152 ((fun _ => 0))) : Nat × va_E)]) ++ [((a_rel2, eD y 288 ((fun _ => 0))) : Nat × va_E)]) ++ [((a_grp2, eD y 96 ((fun _ => 0))) : Nat × va_E)]) ++ [((a_idx2, eD y 120 ((fun _ => 0))) : Nat × va_E)]).set p_red (a_red, .inr (4, [.ref a_led, .ref a_spd, .ref a_sums2, .ref a_pr2, .ref a_rel2, .ref a_grp2, .ref a_idx2, .int (gb (false))]))) := hD
  have hP : gvP D vwCl ((((B58_4.set p_off (a_off, .inr (7, [.ref a_led, .ref a_spd, .ref a_ser, x_off_3, x_off_4, x_off_5, x_off_6, .int (nI (0))]))).set p_spd (a_spd, .inr (5, [.ref a_told, .ref a_adp, .ref a_shr]))).set p_ser (a_ser, .inr (4, [.ref a_led, .ref a_spd, .ref a_sums, .ref a_pr, .ref a_rel, .ref a_grp, .ref a_idx, .int (gb (false))]))).set p_red (a_red, .inr (4, [.ref a_led, .ref a_spd, .ref a_sums2, .ref a_pr2, .ref a_rel2, .ref a_grp2, .ref a_idx2, .int (gb (false))]))) _ := g_trP (by rw [q58_0, q58_1, q58_2, q58_3, q58_4]) hP
  have hD : gvD A ((((B58_4.set p_off (a_off, .inr (7, [.ref a_led, .ref a_spd, .ref a_ser, x_off_3, x_off_4, x_off_5, x_off_6, .int (nI (0))]))).set p_spd (a_spd, .inr (5, [.ref a_told, .ref a_adp, .ref a_shr]))).set p_ser (a_ser, .inr (4, [.ref a_led, .ref a_spd, .ref a_sums, .ref a_pr, .ref a_rel, .ref a_grp, .ref a_idx, .int (gb (false))]))).set p_red (a_red, .inr (4, [.ref a_led, .ref a_spd, .ref a_sums2, .ref a_pr2, .ref a_rel2, .ref a_grp2, .ref a_idx2, .int (gb (false))]))) := g_trD (by rw [q58_0, q58_1, q58_2, q58_3, q58_4]) hD
  have e58_4_off := g_apE hB58_4 e58_3_off
  have e58_4_spd := g_apE hB58_4 e58_3_spd
  have e58_4_ser := g_apE hB58_4 e58_3_ser
  have e58_0_red := g_apE hB58_0 e46_0_red
  have e58_1_red := g_apE hB58_1 e58_0_red
  have e58_2_red := g_apE hB58_2 e58_1_red
  have e58_3_red := g_apE hB58_3 e58_2_red
  have e58_4_red := g_apE hB58_4 e58_3_red
  have f_off := g_ne (x := (a_red, .inr (4, [.ref a_led, .ref a_spd, .ref a_sums2, .ref a_pr2, .ref a_rel2, .ref a_grp2, .ref a_idx2, .int (gb (false))]))) (g_kne e58_4_red e58_4_off (Nat.ne_of_beq_eq_false rfl)) (g_ne (x := (a_ser, .inr (4, [.ref a_led, .ref a_spd, .ref a_sums, .ref a_pr, .ref a_rel, .ref a_grp, .ref a_idx, .int (gb (false))]))) (g_kne e58_4_ser e58_4_off (Nat.ne_of_beq_eq_false rfl)) (g_ne (x := (a_spd, .inr (5, [.ref a_told, .ref a_adp, .ref a_shr]))) (g_kne e58_4_spd e58_4_off (Nat.ne_of_beq_eq_false rfl)) (g_eq (x := (a_off, .inr (7, [.ref a_led, .ref a_spd, .ref a_ser, x_off_3, x_off_4, x_off_5, x_off_6, .int (nI (0))]))) (e58_4_off))))
  refine gv_set f_off rfl (by rfl) (fun k9 h9 kk9 => va_putF (D := D) (ci := 7) (v := .ref a_red) (ty := (.object "BasketryOffice$Series")) (C := RX6) (T := TX6) (N := 8) hx hb hts in_RX6 tyX6 tyX6_ok nmX6 hown hE.1 hP hD hS k9 h9 rfl 3 (by decide) (hts (.fieldLink RX6 32 "BasketryOffice" "redone" "LBasketryOffice$Series;") (by decide +kernel)) (fun _ h9 => h9) rfl (show meth.name = "<init>" from hnm) rfl (by decide +kernel) rfl rfl (Nat.le_of_ble_eq_true rfl) dX6_init_61 kk9) (fun H locs hP hD hS => ?_)
  have hP := g_trP (g_sc (g_kne e58_4_red e58_4_off (Nat.ne_of_beq_eq_false rfl)) (g_sc (g_kne e58_4_ser e58_4_off (Nat.ne_of_beq_eq_false rfl)) (g_sc (g_kne e58_4_spd e58_4_off (Nat.ne_of_beq_eq_false rfl)) g_ss))) hP
  have hD := g_trD (g_sc (g_kne e58_4_red e58_4_off (Nat.ne_of_beq_eq_false rfl)) (g_sc (g_kne e58_4_ser e58_4_off (Nat.ne_of_beq_eq_false rfl)) (g_sc (g_kne e58_4_spd e58_4_off (Nat.ne_of_beq_eq_false rfl)) g_ss))) hD
  refine lv_aload_n hx hb dX6_init_64 rfl (lv_at hl 0 rfl) ?_
  refine lv_bipush (v := nI 24) hx hb dX6_init_65 (by decide) ?_
  refine g_newaN hx hb (hts (.arrayClass .int) (by decide +kernel)) hE hP hD hS hA (k := 24) (by decide) (Nat.le_of_ble_eq_true rfl) (Nat.le_of_ble_eq_true rfl) dX6_init_67 (fun a_num H hP hD hS => ?_)
  obtain ⟨p_num, hp_num⟩ : ∃ z, z = (B58_4).length := ⟨_, rfl⟩
  obtain ⟨B67_0, hB67_0⟩ : ∃ B, B = (B58_4 ++ [((a_num, eN y 24 ((fun _ => 0))) : Nat × va_E)]) := ⟨_, rfl⟩
  have hq_num : p_num = ws.length + 25 := hp_num.trans hLB58_4
  have hLB67_0 : B67_0.length = ws.length + 26 := by rw [hB67_0, List.length_append, hLB58_4]; rfl
  have hKB67_0 : gKeep ws B67_0 [p_off] := gKeep.app hB67_0 hKB58_4
  have e67_0_num : B67_0[p_num]? = some (a_num, eN y 24 ((fun _ => 0))) := by rw [hB67_0, hp_num]; exact g_apN
  have q67_0 : (((((B58_4.set p_off (a_off, .inr (7, [.ref a_led, .ref a_spd, .ref a_ser, .ref a_red, x_off_4, x_off_5, x_off_6, .int (nI (0))]))).set p_spd (a_spd, .inr (5, [.ref a_told, .ref a_adp, .ref a_shr]))).set p_ser (a_ser, .inr (4, [.ref a_led, .ref a_spd, .ref a_sums, .ref a_pr, .ref a_rel, .ref a_grp, .ref a_idx, .int (gb (false))]))).set p_red (a_red, .inr (4, [.ref a_led, .ref a_spd, .ref a_sums2, .ref a_pr2, .ref a_rel2, .ref a_grp2, .ref a_idx2, .int (gb (false))]))) ++ [((a_num, eN y 24 ((fun _ => 0))) : Nat × va_E)]) = ((((B67_0.set p_off (a_off, .inr (7, [.ref a_led, .ref a_spd, .ref a_ser, .ref a_red, x_off_4, x_off_5, x_off_6, .int (nI (0))]))).set p_spd (a_spd, .inr (5, [.ref a_told, .ref a_adp, .ref a_shr]))).set p_ser (a_ser, .inr (4, [.ref a_led, .ref a_spd, .ref a_sums, .ref a_pr, .ref a_rel, .ref a_grp, .ref a_idx, .int (gb (false))]))).set p_red (a_red, .inr (4, [.ref a_led, .ref a_spd, .ref a_sums2, .ref a_pr2, .ref a_rel2, .ref a_grp2, .ref a_idx2, .int (gb (false))]))) := by rw [hB67_0]; exact (Eq.trans (g_sa (g_ltS (g_ltS (g_ltS (g_lt e58_4_red))))) (g_c (Eq.trans (g_sa (g_ltS (g_ltS (g_lt e58_4_ser)))) (g_c (Eq.trans (g_sa (g_ltS (g_lt e58_4_spd))) (g_c (g_sa (g_lt e58_4_off))))))))
  have hP : gvP D vwCl (((((B58_4.set p_off (a_off, .inr (7, [.ref a_led, .ref a_spd, .ref a_ser, .ref a_red, x_off_4, x_off_5, x_off_6, .int (nI (0))]))).set p_spd (a_spd, .inr (5, [.ref a_told, .ref a_adp, .ref a_shr]))).set p_ser (a_ser, .inr (4, [.ref a_led, .ref a_spd, .ref a_sums, .ref a_pr, .ref a_rel, .ref a_grp, .ref a_idx, .int (gb (false))]))).set p_red (a_red, .inr (4, [.ref a_led, .ref a_spd, .ref a_sums2, .ref a_pr2, .ref a_rel2, .ref a_grp2, .ref a_idx2, .int (gb (false))]))) ++ [((a_num, eN y 24 ((fun _ => 0))) : Nat × va_E)]) _ := hP
  have hD : gvD A (((((B58_4.set p_off (a_off, .inr (7, [.ref a_led, .ref a_spd, .ref a_ser, .ref a_red, x_off_4, x_off_5, x_off_6, .int (nI (0))]))).set p_spd (a_spd, .inr (5, [.ref a_told, .ref a_adp, .ref a_shr]))).set p_ser (a_ser, .inr (4, [.ref a_led, .ref a_spd, .ref a_sums, .ref a_pr, .ref a_rel, .ref a_grp, .ref a_idx, .int (gb (false))]))).set p_red (a_red, .inr (4, [.ref a_led, .ref a_spd, .ref a_sums2, .ref a_pr2, .ref a_rel2, .ref a_grp2, .ref a_idx2, .int (gb (false))]))) ++ [((a_num, eN y 24 ((fun _ => 0))) : Nat × va_E)]) := hD
  have hP : gvP D vwCl ((((B67_0.set p_off (a_off, .inr (7, [.ref a_led, .ref a_spd, .ref a_ser, .ref a_red, x_off_4, x_off_5, x_off_6, .int (nI (0))]))).set p_spd (a_spd, .inr (5, [.ref a_told, .ref a_adp, .ref a_shr]))).set p_ser (a_ser, .inr (4, [.ref a_led, .ref a_spd, .ref a_sums, .ref a_pr, .ref a_rel, .ref a_grp, .ref a_idx, .int (gb (false))]))).set p_red (a_red, .inr (4, [.ref a_led, .ref a_spd, .ref a_sums2, .ref a_pr2, .ref a_rel2, .ref a_grp2, .ref a_idx2, .int (gb (false))]))) _ := g_trP (by rw [q67_0]) hP
  have hD : gvD A ((((B67_0.set p_off (a_off, .inr (7, [.ref a_led, .ref a_spd, .ref a_ser, .ref a_red, x_off_4, x_off_5, x_off_6, .int (nI (0))]))).set p_spd (a_spd, .inr (5, [.ref a_told, .ref a_adp, .ref a_shr]))).set p_ser (a_ser, .inr (4, [.ref a_led, .ref a_spd, .ref a_sums, .ref a_pr, .ref a_rel, .ref a_grp, .ref a_idx, .int (gb (false))]))).set p_red (a_red, .inr (4, [.ref a_led, .ref a_spd, .ref a_sums2, .ref a_pr2, .ref a_rel2, .ref a_grp2, .ref a_idx2, .int (gb (false))]))) := g_trD (by rw [q67_0]) hD
  have e67_0_off := g_apE hB67_0 e58_4_off
  have e67_0_spd := g_apE hB67_0 e58_4_spd
  have e67_0_ser := g_apE hB67_0 e58_4_ser
  have e67_0_red := g_apE hB67_0 e58_4_red
  have f_off := g_ne (x := (a_red, .inr (4, [.ref a_led, .ref a_spd, .ref a_sums2, .ref a_pr2, .ref a_rel2, .ref a_grp2, .ref a_idx2, .int (gb (false))]))) (g_kne e67_0_red e67_0_off (Nat.ne_of_beq_eq_false rfl)) (g_ne (x := (a_ser, .inr (4, [.ref a_led, .ref a_spd, .ref a_sums, .ref a_pr, .ref a_rel, .ref a_grp, .ref a_idx, .int (gb (false))]))) (g_kne e67_0_ser e67_0_off (Nat.ne_of_beq_eq_false rfl)) (g_ne (x := (a_spd, .inr (5, [.ref a_told, .ref a_adp, .ref a_shr]))) (g_kne e67_0_spd e67_0_off (Nat.ne_of_beq_eq_false rfl)) (g_eq (x := (a_off, .inr (7, [.ref a_led, .ref a_spd, .ref a_ser, .ref a_red, x_off_4, x_off_5, x_off_6, .int (nI (0))]))) (e67_0_off))))
  refine gv_set f_off rfl (by rfl) (fun k9 h9 kk9 => va_putF (D := D) (ci := 7) (v := .ref a_num) (ty := (.array .int)) (C := RX6) (T := TX6) (N := 8) hx hb hts in_RX6 tyX6 tyX6_ok nmX6 hown hE.1 hP hD hS k9 h9 rfl 4 (by decide) (hts (.fieldLink RX6 35 "BasketryOffice" "numbers" "[I") (by decide +kernel)) (fun _ h9 => h9) rfl (show meth.name = "<init>" from hnm) rfl (by decide +kernel) rfl rfl (Nat.le_of_ble_eq_true rfl) dX6_init_69 kk9) (fun H locs hP hD hS => ?_)
  have hP := g_trP (g_sc (g_kne e67_0_red e67_0_off (Nat.ne_of_beq_eq_false rfl)) (g_sc (g_kne e67_0_ser e67_0_off (Nat.ne_of_beq_eq_false rfl)) (g_sc (g_kne e67_0_spd e67_0_off (Nat.ne_of_beq_eq_false rfl)) g_ss))) hP
  have hD := g_trD (g_sc (g_kne e67_0_red e67_0_off (Nat.ne_of_beq_eq_false rfl)) (g_sc (g_kne e67_0_ser e67_0_off (Nat.ne_of_beq_eq_false rfl)) (g_sc (g_kne e67_0_spd e67_0_off (Nat.ne_of_beq_eq_false rfl)) g_ss))) hD
  refine lv_aload_n hx hb dX6_init_72 rfl (lv_at hl 0 rfl) ?_
  refine lv_bipush (v := nI 24) hx hb dX6_init_73 (by decide) ?_
  refine g_newaN hx hb (hts (.arrayClass .int) (by decide +kernel)) hE hP hD hS hA (k := 24) (by decide) (Nat.le_of_ble_eq_true rfl) (Nat.le_of_ble_eq_true rfl) dX6_init_75 (fun a_cnum H hP hD hS => ?_)
  obtain ⟨p_cnum, hp_cnum⟩ : ∃ z, z = (B67_0).length := ⟨_, rfl⟩
  obtain ⟨B75_0, hB75_0⟩ : ∃ B, B = (B67_0 ++ [((a_cnum, eN y 24 ((fun _ => 0))) : Nat × va_E)]) := ⟨_, rfl⟩
  have hq_cnum : p_cnum = ws.length + 26 := hp_cnum.trans hLB67_0
  have hLB75_0 : B75_0.length = ws.length + 27 := by rw [hB75_0, List.length_append, hLB67_0]; rfl
  have hKB75_0 : gKeep ws B75_0 [p_off] := gKeep.app hB75_0 hKB67_0
  have e75_0_cnum : B75_0[p_cnum]? = some (a_cnum, eN y 24 ((fun _ => 0))) := by rw [hB75_0, hp_cnum]; exact g_apN
  have q75_0 : (((((B67_0.set p_off (a_off, .inr (7, [.ref a_led, .ref a_spd, .ref a_ser, .ref a_red, .ref a_num, x_off_5, x_off_6, .int (nI (0))]))).set p_spd (a_spd, .inr (5, [.ref a_told, .ref a_adp, .ref a_shr]))).set p_ser (a_ser, .inr (4, [.ref a_led, .ref a_spd, .ref a_sums, .ref a_pr, .ref a_rel, .ref a_grp, .ref a_idx, .int (gb (false))]))).set p_red (a_red, .inr (4, [.ref a_led, .ref a_spd, .ref a_sums2, .ref a_pr2, .ref a_rel2, .ref a_grp2, .ref a_idx2, .int (gb (false))]))) ++ [((a_cnum, eN y 24 ((fun _ => 0))) : Nat × va_E)]) = ((((B75_0.set p_off (a_off, .inr (7, [.ref a_led, .ref a_spd, .ref a_ser, .ref a_red, .ref a_num, x_off_5, x_off_6, .int (nI (0))]))).set p_spd (a_spd, .inr (5, [.ref a_told, .ref a_adp, .ref a_shr]))).set p_ser (a_ser, .inr (4, [.ref a_led, .ref a_spd, .ref a_sums, .ref a_pr, .ref a_rel, .ref a_grp, .ref a_idx, .int (gb (false))]))).set p_red (a_red, .inr (4, [.ref a_led, .ref a_spd, .ref a_sums2, .ref a_pr2, .ref a_rel2, .ref a_grp2, .ref a_idx2, .int (gb (false))]))) := by rw [hB75_0]; exact (Eq.trans (g_sa (g_ltS (g_ltS (g_ltS (g_lt e67_0_red))))) (g_c (Eq.trans (g_sa (g_ltS (g_ltS (g_lt e67_0_ser)))) (g_c (Eq.trans (g_sa (g_ltS (g_lt e67_0_spd))) (g_c (g_sa (g_lt e67_0_off))))))))
  have hP : gvP D vwCl (((((B67_0.set p_off (a_off, .inr (7, [.ref a_led, .ref a_spd, .ref a_ser, .ref a_red, .ref a_num, x_off_5, x_off_6, .int (nI (0))]))).set p_spd (a_spd, .inr (5, [.ref a_told, .ref a_adp, .ref a_shr]))).set p_ser (a_ser, .inr (4, [.ref a_led, .ref a_spd, .ref a_sums, .ref a_pr, .ref a_rel, .ref a_grp, .ref a_idx, .int (gb (false))]))).set p_red (a_red, .inr (4, [.ref a_led, .ref a_spd, .ref a_sums2, .ref a_pr2, .ref a_rel2, .ref a_grp2, .ref a_idx2, .int (gb (false))]))) ++ [((a_cnum, eN y 24 ((fun _ => 0))) : Nat × va_E)]) _ := hP
  have hD : gvD A (((((B67_0.set p_off (a_off, .inr (7, [.ref a_led, .ref a_spd, .ref a_ser, .ref a_red, .ref a_num, x_off_5, x_off_6, .int (nI (0))]))).set p_spd (a_spd, .inr (5, [.ref a_told, .ref a_adp, .ref a_shr]))).set p_ser (a_ser, .inr (4, [.ref a_led, .ref a_spd, .ref a_sums, .ref a_pr, .ref a_rel, .ref a_grp, .ref a_idx, .int (gb (false))]))).set p_red (a_red, .inr (4, [.ref a_led, .ref a_spd, .ref a_sums2, .ref a_pr2, .ref a_rel2, .ref a_grp2, .ref a_idx2, .int (gb (false))]))) ++ [((a_cnum, eN y 24 ((fun _ => 0))) : Nat × va_E)]) := hD
  have hP : gvP D vwCl ((((B75_0.set p_off (a_off, .inr (7, [.ref a_led, .ref a_spd, .ref a_ser, .ref a_red, .ref a_num, x_off_5, x_off_6, .int (nI (0))]))).set p_spd (a_spd, .inr (5, [.ref a_told, .ref a_adp, .ref a_shr]))).set p_ser (a_ser, .inr (4, [.ref a_led, .ref a_spd, .ref a_sums, .ref a_pr, .ref a_rel, .ref a_grp, .ref a_idx, .int (gb (false))]))).set p_red (a_red, .inr (4, [.ref a_led, .ref a_spd, .ref a_sums2, .ref a_pr2, .ref a_rel2, .ref a_grp2, .ref a_idx2, .int (gb (false))]))) _ := g_trP (by rw [q75_0]) hP
  have hD : gvD A ((((B75_0.set p_off (a_off, .inr (7, [.ref a_led, .ref a_spd, .ref a_ser, .ref a_red, .ref a_num, x_off_5, x_off_6, .int (nI (0))]))).set p_spd (a_spd, .inr (5, [.ref a_told, .ref a_adp, .ref a_shr]))).set p_ser (a_ser, .inr (4, [.ref a_led, .ref a_spd, .ref a_sums, .ref a_pr, .ref a_rel, .ref a_grp, .ref a_idx, .int (gb (false))]))).set p_red (a_red, .inr (4, [.ref a_led, .ref a_spd, .ref a_sums2, .ref a_pr2, .ref a_rel2, .ref a_grp2, .ref a_idx2, .int (gb (false))]))) := g_trD (by rw [q75_0]) hD
  have e75_0_off := g_apE hB75_0 e67_0_off
  have e75_0_spd := g_apE hB75_0 e67_0_spd
  have e75_0_ser := g_apE hB75_0 e67_0_ser
  have e75_0_red := g_apE hB75_0 e67_0_red
  have f_off := g_ne (x := (a_red, .inr (4, [.ref a_led, .ref a_spd, .ref a_sums2, .ref a_pr2, .ref a_rel2, .ref a_grp2, .ref a_idx2, .int (gb (false))]))) (g_kne e75_0_red e75_0_off (Nat.ne_of_beq_eq_false rfl)) (g_ne (x := (a_ser, .inr (4, [.ref a_led, .ref a_spd, .ref a_sums, .ref a_pr, .ref a_rel, .ref a_grp, .ref a_idx, .int (gb (false))]))) (g_kne e75_0_ser e75_0_off (Nat.ne_of_beq_eq_false rfl)) (g_ne (x := (a_spd, .inr (5, [.ref a_told, .ref a_adp, .ref a_shr]))) (g_kne e75_0_spd e75_0_off (Nat.ne_of_beq_eq_false rfl)) (g_eq (x := (a_off, .inr (7, [.ref a_led, .ref a_spd, .ref a_ser, .ref a_red, .ref a_num, x_off_5, x_off_6, .int (nI (0))]))) (e75_0_off))))
  refine gv_set f_off rfl (by rfl) (fun k9 h9 kk9 => va_putF (D := D) (ci := 7) (v := .ref a_cnum) (ty := (.array .int)) (C := RX6) (T := TX6) (N := 8) hx hb hts in_RX6 tyX6 tyX6_ok nmX6 hown hE.1 hP hD hS k9 h9 rfl 5 (by decide) (hts (.fieldLink RX6 39 "BasketryOffice" "correctedNumbers" "[I") (by decide +kernel)) (fun _ h9 => h9) rfl (show meth.name = "<init>" from hnm) rfl (by decide +kernel) rfl rfl (Nat.le_of_ble_eq_true rfl) dX6_init_77 kk9) (fun H locs hP hD hS => ?_)
  have hP := g_trP (g_sc (g_kne e75_0_red e75_0_off (Nat.ne_of_beq_eq_false rfl)) (g_sc (g_kne e75_0_ser e75_0_off (Nat.ne_of_beq_eq_false rfl)) (g_sc (g_kne e75_0_spd e75_0_off (Nat.ne_of_beq_eq_false rfl)) g_ss))) hP
  have hD := g_trD (g_sc (g_kne e75_0_red e75_0_off (Nat.ne_of_beq_eq_false rfl)) (g_sc (g_kne e75_0_ser e75_0_off (Nat.ne_of_beq_eq_false rfl)) (g_sc (g_kne e75_0_spd e75_0_off (Nat.ne_of_beq_eq_false rfl)) g_ss))) hD
  refine lv_aload_n hx hb dX6_init_80 rfl (lv_at hl 0 rfl) ?_
  refine gv_add (by intro _; rfl) (fun kk9 => va_new (ci := 0) (fs := [.int (nI (0)), .null, .int (nI (0))]) (C := RJx4a65c) (T := TJx4a65c) (N := 3) hx hb hts in_RJx4a65c tyJx4a65c tyJx4a65c_ok hown (hts (.classLink RX6 42 RJx4a65c) (by decide +kernel)) (hts (.instantiable RJx4a65c 3) (by decide +kernel)) (hts (.initialized RJx4a65c) (by decide +kernel)) hE.1 hP hD hS hA rfl (fun j hj => by rcases (show j = 0 ∨ j = 1 ∨ j = 2 by omega) with rfl | rfl | rfl <;> rfl) (Nat.le_of_ble_eq_true rfl) (Nat.le_of_ble_eq_true rfl) dX6_init_81 kk9) (fun a_ctl H hP hD hS => ?_)
  obtain ⟨p_ctl, hp_ctl⟩ : ∃ z, z = (B75_0).length := ⟨_, rfl⟩
  have e16_0_itl := g_apE hB16_0 g9_itl
  have e20_0_itl := g_apE hB20_0 e16_0_itl
  have e20_1_itl := g_apE hB20_1 e20_0_itl
  have e20_2_itl := g_apE hB20_2 e20_1_itl
  have e27_0_itl := g_apE hB27_0 e20_2_itl
  have e39_0_itl := g_apE hB39_0 e27_0_itl
  have e39_1_itl := g_apE hB39_1 e39_0_itl
  have e39_2_itl := g_apE hB39_2 e39_1_itl
  have e39_3_itl := g_apE hB39_3 e39_2_itl
  have e39_4_itl := g_apE hB39_4 e39_3_itl
  have e46_0_itl := g_apE hB46_0 e39_4_itl
  have e58_0_itl := g_apE hB58_0 e46_0_itl
  have e58_1_itl := g_apE hB58_1 e58_0_itl
  have e58_2_itl := g_apE hB58_2 e58_1_itl
  have e58_3_itl := g_apE hB58_3 e58_2_itl
  have e58_4_itl := g_apE hB58_4 e58_3_itl
  have e67_0_itl := g_apE hB67_0 e58_4_itl
  have e75_0_itl := g_apE hB75_0 e67_0_itl
  have n_ctl_itl : p_ctl ≠ p_itl := by rw [hp_ctl]; exact g_apne e75_0_itl
  obtain ⟨B81_0, hB81_0⟩ : ∃ B, B = (B75_0 ++ [((a_ctl, .inr (0, [.int (nI (0)), .null, .int (nI (0))])) : Nat × va_E)]) := ⟨_, rfl⟩
  have hq_ctl : p_ctl = ws.length + 27 := hp_ctl.trans hLB75_0
  have hLB81_0 : B81_0.length = ws.length + 28 := by rw [hB81_0, List.length_append, hLB75_0]; rfl
  have hKB81_0 : gKeep ws B81_0 [p_off] := gKeep.app hB81_0 hKB75_0
  have e81_0_ctl : B81_0[p_ctl]? = some (a_ctl, .inr (0, [.int (nI (0)), .null, .int (nI (0))])) := by rw [hB81_0, hp_ctl]; exact g_apN
  have q81_0 : (((((B75_0.set p_off (a_off, .inr (7, [.ref a_led, .ref a_spd, .ref a_ser, .ref a_red, .ref a_num, .ref a_cnum, x_off_6, .int (nI (0))]))).set p_spd (a_spd, .inr (5, [.ref a_told, .ref a_adp, .ref a_shr]))).set p_ser (a_ser, .inr (4, [.ref a_led, .ref a_spd, .ref a_sums, .ref a_pr, .ref a_rel, .ref a_grp, .ref a_idx, .int (gb (false))]))).set p_red (a_red, .inr (4, [.ref a_led, .ref a_spd, .ref a_sums2, .ref a_pr2, .ref a_rel2, .ref a_grp2, .ref a_idx2, .int (gb (false))]))) ++ [((a_ctl, .inr (0, [.int (nI (0)), .null, .int (nI (0))])) : Nat × va_E)]) = ((((B81_0.set p_off (a_off, .inr (7, [.ref a_led, .ref a_spd, .ref a_ser, .ref a_red, .ref a_num, .ref a_cnum, x_off_6, .int (nI (0))]))).set p_spd (a_spd, .inr (5, [.ref a_told, .ref a_adp, .ref a_shr]))).set p_ser (a_ser, .inr (4, [.ref a_led, .ref a_spd, .ref a_sums, .ref a_pr, .ref a_rel, .ref a_grp, .ref a_idx, .int (gb (false))]))).set p_red (a_red, .inr (4, [.ref a_led, .ref a_spd, .ref a_sums2, .ref a_pr2, .ref a_rel2, .ref a_grp2, .ref a_idx2, .int (gb (false))]))) := by rw [hB81_0]; exact (Eq.trans (g_sa (g_ltS (g_ltS (g_ltS (g_lt e75_0_red))))) (g_c (Eq.trans (g_sa (g_ltS (g_ltS (g_lt e75_0_ser)))) (g_c (Eq.trans (g_sa (g_ltS (g_lt e75_0_spd))) (g_c (g_sa (g_lt e75_0_off))))))))
  have hP : gvP D vwCl (((((B75_0.set p_off (a_off, .inr (7, [.ref a_led, .ref a_spd, .ref a_ser, .ref a_red, .ref a_num, .ref a_cnum, x_off_6, .int (nI (0))]))).set p_spd (a_spd, .inr (5, [.ref a_told, .ref a_adp, .ref a_shr]))).set p_ser (a_ser, .inr (4, [.ref a_led, .ref a_spd, .ref a_sums, .ref a_pr, .ref a_rel, .ref a_grp, .ref a_idx, .int (gb (false))]))).set p_red (a_red, .inr (4, [.ref a_led, .ref a_spd, .ref a_sums2, .ref a_pr2, .ref a_rel2, .ref a_grp2, .ref a_idx2, .int (gb (false))]))) ++ [((a_ctl, .inr (0, [.int (nI (0)), .null, .int (nI (0))])) : Nat × va_E)]) _ := hP
  have hD : gvD A (((((B75_0.set p_off (a_off, .inr (7, [.ref a_led, .ref a_spd, .ref a_ser, .ref a_red, .ref a_num, .ref a_cnum, x_off_6, .int (nI (0))]))).set p_spd (a_spd, .inr (5, [.ref a_told, .ref a_adp, .ref a_shr]))).set p_ser (a_ser, .inr (4, [.ref a_led, .ref a_spd, .ref a_sums, .ref a_pr, .ref a_rel, .ref a_grp, .ref a_idx, .int (gb (false))]))).set p_red (a_red, .inr (4, [.ref a_led, .ref a_spd, .ref a_sums2, .ref a_pr2, .ref a_rel2, .ref a_grp2, .ref a_idx2, .int (gb (false))]))) ++ [((a_ctl, .inr (0, [.int (nI (0)), .null, .int (nI (0))])) : Nat × va_E)]) := hD
  have hP : gvP D vwCl ((((B81_0.set p_off (a_off, .inr (7, [.ref a_led, .ref a_spd, .ref a_ser, .ref a_red, .ref a_num, .ref a_cnum, x_off_6, .int (nI (0))]))).set p_spd (a_spd, .inr (5, [.ref a_told, .ref a_adp, .ref a_shr]))).set p_ser (a_ser, .inr (4, [.ref a_led, .ref a_spd, .ref a_sums, .ref a_pr, .ref a_rel, .ref a_grp, .ref a_idx, .int (gb (false))]))).set p_red (a_red, .inr (4, [.ref a_led, .ref a_spd, .ref a_sums2, .ref a_pr2, .ref a_rel2, .ref a_grp2, .ref a_idx2, .int (gb (false))]))) _ := g_trP (by rw [q81_0]) hP
  have hD : gvD A ((((B81_0.set p_off (a_off, .inr (7, [.ref a_led, .ref a_spd, .ref a_ser, .ref a_red, .ref a_num, .ref a_cnum, x_off_6, .int (nI (0))]))).set p_spd (a_spd, .inr (5, [.ref a_told, .ref a_adp, .ref a_shr]))).set p_ser (a_ser, .inr (4, [.ref a_led, .ref a_spd, .ref a_sums, .ref a_pr, .ref a_rel, .ref a_grp, .ref a_idx, .int (gb (false))]))).set p_red (a_red, .inr (4, [.ref a_led, .ref a_spd, .ref a_sums2, .ref a_pr2, .ref a_rel2, .ref a_grp2, .ref a_idx2, .int (gb (false))]))) := g_trD (by rw [q81_0]) hD
  refine lv_dup hx hb dX6_init_84 rfl ?_
  have e81_0_off := g_apE hB81_0 e75_0_off
  have e81_0_spd := g_apE hB81_0 e75_0_spd
  have e81_0_ser := g_apE hB81_0 e75_0_ser
  have e81_0_red := g_apE hB81_0 e75_0_red
  have f_ctl := g_ne (x := (a_red, .inr (4, [.ref a_led, .ref a_spd, .ref a_sums2, .ref a_pr2, .ref a_rel2, .ref a_grp2, .ref a_idx2, .int (gb (false))]))) (g_kne e81_0_red e81_0_ctl (Nat.ne_of_beq_eq_false rfl)) (g_ne (x := (a_ser, .inr (4, [.ref a_led, .ref a_spd, .ref a_sums, .ref a_pr, .ref a_rel, .ref a_grp, .ref a_idx, .int (gb (false))]))) (g_kne e81_0_ser e81_0_ctl (Nat.ne_of_beq_eq_false rfl)) (g_ne (x := (a_spd, .inr (5, [.ref a_told, .ref a_adp, .ref a_shr]))) (g_kne e81_0_spd e81_0_ctl (Nat.ne_of_beq_eq_false rfl)) (g_ne (x := (a_off, .inr (7, [.ref a_led, .ref a_spd, .ref a_ser, .ref a_red, .ref a_num, .ref a_cnum, x_off_6, .int (nI (0))]))) (g_kne e81_0_off e81_0_ctl (Nat.ne_of_beq_eq_false rfl)) (e81_0_ctl))))
  refine gcy_I_v (As := []) (rest := [.ref a_ctl, .ref a_off]) (c_Jx4a65c_init_da8c8 l f_ctl) ⟨hx, hb, hml, hown, hts⟩ (cwI 0 hts gX6_init_Jx4a65c_init_da8c8 rfl rfl rfl (hts (.initialized RJx4a65c) (by decide +kernel)) (hts (.methodLink RX6 44 yJx4a65c_init_da8c8) (by decide +kernel)) (hts (.instanceMethod yJx4a65c_init_da8c8) (by decide +kernel)) rfl (by decide +kernel) ⟨Nat.le_of_ble_eq_true rfl, Nat.le_of_ble_eq_true rfl⟩) hE hY hP hD hS hA rfl rfl hl.1 (Nat.le_of_ble_eq_true rfl) dX6_init_85 ⟨Nat.le_of_ble_eq_true rfl, Nat.le_of_ble_eq_true rfl⟩ (fun u_85 H locs hP hD hS q_85 => ?_)
  have f_off := g_ne (x := (a_ctl, .inr (0, [.int (nI (0)), .ref a_emp, .int (nI (0))]))) (g_kne e81_0_ctl e81_0_off (Nat.ne_of_beq_eq_false rfl)) (g_ne (x := (a_red, .inr (4, [.ref a_led, .ref a_spd, .ref a_sums2, .ref a_pr2, .ref a_rel2, .ref a_grp2, .ref a_idx2, .int (gb (false))]))) (g_kne e81_0_red e81_0_off (Nat.ne_of_beq_eq_false rfl)) (g_ne (x := (a_ser, .inr (4, [.ref a_led, .ref a_spd, .ref a_sums, .ref a_pr, .ref a_rel, .ref a_grp, .ref a_idx, .int (gb (false))]))) (g_kne e81_0_ser e81_0_off (Nat.ne_of_beq_eq_false rfl)) (g_ne (x := (a_spd, .inr (5, [.ref a_told, .ref a_adp, .ref a_shr]))) (g_kne e81_0_spd e81_0_off (Nat.ne_of_beq_eq_false rfl)) (g_eq (x := (a_off, .inr (7, [.ref a_led, .ref a_spd, .ref a_ser, .ref a_red, .ref a_num, .ref a_cnum, x_off_6, .int (nI (0))]))) (e81_0_off)))))
  refine gv_set f_off rfl (by rfl) (fun k9 h9 kk9 => va_putF (D := D) (ci := 7) (v := .ref a_ctl) (ty := (.object "java/util/ArrayList")) (C := RX6) (T := TX6) (N := 8) hx hb hts in_RX6 tyX6 tyX6_ok nmX6 hown hE.1 hP hD hS k9 h9 rfl 6 (by decide) (hts (.fieldLink RX6 45 "BasketryOffice" "contracts" "Ljava/util/ArrayList;") (by decide +kernel)) (fun _ h9 => h9) rfl (show meth.name = "<init>" from hnm) rfl (by decide +kernel) rfl rfl (Nat.le_of_ble_eq_true rfl) dX6_init_88 kk9) (fun H locs hP hD hS => ?_)
  have hP := g_trP (g_sc (g_kne e81_0_ctl e81_0_off (Nat.ne_of_beq_eq_false rfl)) (g_sc (g_kne e81_0_red e81_0_off (Nat.ne_of_beq_eq_false rfl)) (g_sc (g_kne e81_0_ser e81_0_off (Nat.ne_of_beq_eq_false rfl)) (g_sc (g_kne e81_0_spd e81_0_off (Nat.ne_of_beq_eq_false rfl)) g_ss)))) hP
  have hD := g_trD (g_sc (g_kne e81_0_ctl e81_0_off (Nat.ne_of_beq_eq_false rfl)) (g_sc (g_kne e81_0_red e81_0_off (Nat.ne_of_beq_eq_false rfl)) (g_sc (g_kne e81_0_ser e81_0_off (Nat.ne_of_beq_eq_false rfl)) (g_sc (g_kne e81_0_spd e81_0_off (Nat.ne_of_beq_eq_false rfl)) g_ss)))) hD
  refine lv_aload_n hx hb dX6_init_91 rfl (lv_at hl 0 rfl) ?_
  refine lv_iconst (v := nI 0) hx hb dX6_init_92 (by decide) ?_
  have f_off := g_ne (x := (a_ctl, .inr (0, [.int (nI (0)), .ref a_emp, .int (nI (0))]))) (g_kne e81_0_ctl e81_0_off (Nat.ne_of_beq_eq_false rfl)) (g_ne (x := (a_red, .inr (4, [.ref a_led, .ref a_spd, .ref a_sums2, .ref a_pr2, .ref a_rel2, .ref a_grp2, .ref a_idx2, .int (gb (false))]))) (g_kne e81_0_red e81_0_off (Nat.ne_of_beq_eq_false rfl)) (g_ne (x := (a_ser, .inr (4, [.ref a_led, .ref a_spd, .ref a_sums, .ref a_pr, .ref a_rel, .ref a_grp, .ref a_idx, .int (gb (false))]))) (g_kne e81_0_ser e81_0_off (Nat.ne_of_beq_eq_false rfl)) (g_ne (x := (a_spd, .inr (5, [.ref a_told, .ref a_adp, .ref a_shr]))) (g_kne e81_0_spd e81_0_off (Nat.ne_of_beq_eq_false rfl)) (g_eq (x := (a_off, .inr (7, [.ref a_led, .ref a_spd, .ref a_ser, .ref a_red, .ref a_num, .ref a_cnum, .ref a_ctl, .int (nI (0))]))) (e81_0_off)))))
  refine gv_set f_off rfl (by rfl) (fun k9 h9 kk9 => va_put (D := D) (ci := 7) (v := .int (nI (0))) (ty := .int) (C := RX6) (T := TX6) (N := 8) hx hb hts in_RX6 tyX6 tyX6_ok nmX6 hown hE.1 hP hD hS k9 h9 rfl 7 (by decide) (hts (.fieldLink RX6 49 "BasketryOffice" "now" "I") (by decide +kernel)) (fun _ h9 => h9) rfl (by decide +kernel) rfl rfl (Nat.le_of_ble_eq_true rfl) dX6_init_93 kk9) (fun H locs hP hD hS => ?_)
  have hP := g_trP (g_sc (g_kne e81_0_ctl e81_0_off (Nat.ne_of_beq_eq_false rfl)) (g_sc (g_kne e81_0_red e81_0_off (Nat.ne_of_beq_eq_false rfl)) (g_sc (g_kne e81_0_ser e81_0_off (Nat.ne_of_beq_eq_false rfl)) (g_sc (g_kne e81_0_spd e81_0_off (Nat.ne_of_beq_eq_false rfl)) g_ss)))) hP
  have hD := g_trD (g_sc (g_kne e81_0_ctl e81_0_off (Nat.ne_of_beq_eq_false rfl)) (g_sc (g_kne e81_0_red e81_0_off (Nat.ne_of_beq_eq_false rfl)) (g_sc (g_kne e81_0_ser e81_0_off (Nat.ne_of_beq_eq_false rfl)) (g_sc (g_kne e81_0_spd e81_0_off (Nat.ne_of_beq_eq_false rfl)) g_ss)))) hD
  have hKW : gKeep ws (((((B81_0.set p_off (a_off, .inr (7, [.ref a_led, .ref a_spd, .ref a_ser, .ref a_red, .ref a_num, .ref a_cnum, .ref a_ctl, .int (nI (0))]))).set p_spd (a_spd, .inr (5, [.ref a_told, .ref a_adp, .ref a_shr]))).set p_ser (a_ser, .inr (4, [.ref a_led, .ref a_spd, .ref a_sums, .ref a_pr, .ref a_rel, .ref a_grp, .ref a_idx, .int (gb (false))]))).set p_red (a_red, .inr (4, [.ref a_led, .ref a_spd, .ref a_sums2, .ref a_pr2, .ref a_rel2, .ref a_grp2, .ref a_idx2, .int (gb (false))]))).set p_ctl (a_ctl, .inr (0, [.int (nI (0)), .ref a_emp, .int (nI (0))]))) [p_off] := (gKeep.set_new (gKeep.set_new (gKeep.set_new (gKeep.set_new (gKeep.set_in hKB81_0 (by simp)) (g_lek hq_spd)) (g_lek hq_ser)) (g_lek hq_red)) (g_lek hq_ctl))
  have hLW : (((((B81_0.set p_off (a_off, .inr (7, [.ref a_led, .ref a_spd, .ref a_ser, .ref a_red, .ref a_num, .ref a_cnum, .ref a_ctl, .int (nI (0))]))).set p_spd (a_spd, .inr (5, [.ref a_told, .ref a_adp, .ref a_shr]))).set p_ser (a_ser, .inr (4, [.ref a_led, .ref a_spd, .ref a_sums, .ref a_pr, .ref a_rel, .ref a_grp, .ref a_idx, .int (gb (false))]))).set p_red (a_red, .inr (4, [.ref a_led, .ref a_spd, .ref a_sums2, .ref a_pr2, .ref a_rel2, .ref a_grp2, .ref a_idx2, .int (gb (false))]))).set p_ctl (a_ctl, .inr (0, [.int (nI (0)), .ref a_emp, .int (nI (0))]))).length = ws.length + 28 := by simp only [List.length_set]; exact hLB81_0
  have f_off := g_ne (x := (a_ctl, .inr (0, [.int (nI (0)), .ref a_emp, .int (nI (0))]))) (g_kne e81_0_ctl e81_0_off (Nat.ne_of_beq_eq_false rfl)) (g_ne (x := (a_red, .inr (4, [.ref a_led, .ref a_spd, .ref a_sums2, .ref a_pr2, .ref a_rel2, .ref a_grp2, .ref a_idx2, .int (gb (false))]))) (g_kne e81_0_red e81_0_off (Nat.ne_of_beq_eq_false rfl)) (g_ne (x := (a_ser, .inr (4, [.ref a_led, .ref a_spd, .ref a_sums, .ref a_pr, .ref a_rel, .ref a_grp, .ref a_idx, .int (gb (false))]))) (g_kne e81_0_ser e81_0_off (Nat.ne_of_beq_eq_false rfl)) (g_ne (x := (a_spd, .inr (5, [.ref a_told, .ref a_adp, .ref a_shr]))) (g_kne e81_0_spd e81_0_off (Nat.ne_of_beq_eq_false rfl)) (g_eq (x := (a_off, .inr (7, [.ref a_led, .ref a_spd, .ref a_ser, .ref a_red, .ref a_num, .ref a_cnum, .ref a_ctl, .int (nI (0))]))) (e81_0_off)))))
  have e16_0_led := g_apE hB16_0 g9_led
  have e20_0_led := g_apE hB20_0 e16_0_led
  have e20_1_led := g_apE hB20_1 e20_0_led
  have e20_2_led := g_apE hB20_2 e20_1_led
  have e27_0_led := g_apE hB27_0 e20_2_led
  have e39_0_led := g_apE hB39_0 e27_0_led
  have e39_1_led := g_apE hB39_1 e39_0_led
  have e39_2_led := g_apE hB39_2 e39_1_led
  have e39_3_led := g_apE hB39_3 e39_2_led
  have e39_4_led := g_apE hB39_4 e39_3_led
  have e46_0_led := g_apE hB46_0 e39_4_led
  have e58_0_led := g_apE hB58_0 e46_0_led
  have e58_1_led := g_apE hB58_1 e58_0_led
  have e58_2_led := g_apE hB58_2 e58_1_led
  have e58_3_led := g_apE hB58_3 e58_2_led
  have e58_4_led := g_apE hB58_4 e58_3_led
  have e67_0_led := g_apE hB67_0 e58_4_led
  have e75_0_led := g_apE hB75_0 e67_0_led
  have e81_0_led := g_apE hB81_0 e75_0_led
  have f_led := g_ne (x := (a_ctl, .inr (0, [.int (nI (0)), .ref a_emp, .int (nI (0))]))) (g_kne e81_0_ctl e81_0_led (Nat.ne_of_beq_eq_false rfl)) (g_ne (x := (a_red, .inr (4, [.ref a_led, .ref a_spd, .ref a_sums2, .ref a_pr2, .ref a_rel2, .ref a_grp2, .ref a_idx2, .int (gb (false))]))) (g_kne e81_0_red e81_0_led (Nat.ne_of_beq_eq_false rfl)) (g_ne (x := (a_ser, .inr (4, [.ref a_led, .ref a_spd, .ref a_sums, .ref a_pr, .ref a_rel, .ref a_grp, .ref a_idx, .int (gb (false))]))) (g_kne e81_0_ser e81_0_led (Nat.ne_of_beq_eq_false rfl)) (g_ne (x := (a_spd, .inr (5, [.ref a_told, .ref a_adp, .ref a_shr]))) (g_kne e81_0_spd e81_0_led (Nat.ne_of_beq_eq_false rfl)) (g_ne (x := (a_off, .inr (7, [.ref a_led, .ref a_spd, .ref a_ser, .ref a_red, .ref a_num, .ref a_cnum, .ref a_ctl, .int (nI (0))]))) (g_kne e81_0_off e81_0_led (Nat.ne_of_beq_eq_false rfl)) (e81_0_led)))))
  have e81_0_itl := g_apE hB81_0 e75_0_itl
  have f_itl := g_ne (x := (a_ctl, .inr (0, [.int (nI (0)), .ref a_emp, .int (nI (0))]))) n_ctl_itl (g_ne (x := (a_red, .inr (4, [.ref a_led, .ref a_spd, .ref a_sums2, .ref a_pr2, .ref a_rel2, .ref a_grp2, .ref a_idx2, .int (gb (false))]))) (g_kne e81_0_red e81_0_itl (Nat.ne_of_beq_eq_false rfl)) (g_ne (x := (a_ser, .inr (4, [.ref a_led, .ref a_spd, .ref a_sums, .ref a_pr, .ref a_rel, .ref a_grp, .ref a_idx, .int (gb (false))]))) (g_kne e81_0_ser e81_0_itl (Nat.ne_of_beq_eq_false rfl)) (g_ne (x := (a_spd, .inr (5, [.ref a_told, .ref a_adp, .ref a_shr]))) (g_kne e81_0_spd e81_0_itl (Nat.ne_of_beq_eq_false rfl)) (g_ne (x := (a_off, .inr (7, [.ref a_led, .ref a_spd, .ref a_ser, .ref a_red, .ref a_num, .ref a_cnum, .ref a_ctl, .int (nI (0))]))) (g_kne e81_0_off e81_0_itl (Nat.ne_of_beq_eq_false rfl)) (e81_0_itl)))))
  have e16_0_cents := g_apE hB16_0 g9_cents
  have e20_0_cents := g_apE hB20_0 e16_0_cents
  have e20_1_cents := g_apE hB20_1 e20_0_cents
  have e20_2_cents := g_apE hB20_2 e20_1_cents
  have e27_0_cents := g_apE hB27_0 e20_2_cents
  have e39_0_cents := g_apE hB39_0 e27_0_cents
  have e39_1_cents := g_apE hB39_1 e39_0_cents
  have e39_2_cents := g_apE hB39_2 e39_1_cents
  have e39_3_cents := g_apE hB39_3 e39_2_cents
  have e39_4_cents := g_apE hB39_4 e39_3_cents
  have e46_0_cents := g_apE hB46_0 e39_4_cents
  have e58_0_cents := g_apE hB58_0 e46_0_cents
  have e58_1_cents := g_apE hB58_1 e58_0_cents
  have e58_2_cents := g_apE hB58_2 e58_1_cents
  have e58_3_cents := g_apE hB58_3 e58_2_cents
  have e58_4_cents := g_apE hB58_4 e58_3_cents
  have e67_0_cents := g_apE hB67_0 e58_4_cents
  have e75_0_cents := g_apE hB75_0 e67_0_cents
  have e81_0_cents := g_apE hB81_0 e75_0_cents
  have f_cents := g_ne (x := (a_ctl, .inr (0, [.int (nI (0)), .ref a_emp, .int (nI (0))]))) (g_kne e81_0_ctl e81_0_cents (Nat.ne_of_beq_eq_false rfl)) (g_ne (x := (a_red, .inr (4, [.ref a_led, .ref a_spd, .ref a_sums2, .ref a_pr2, .ref a_rel2, .ref a_grp2, .ref a_idx2, .int (gb (false))]))) (g_kne e81_0_red e81_0_cents (Nat.ne_of_beq_eq_false rfl)) (g_ne (x := (a_ser, .inr (4, [.ref a_led, .ref a_spd, .ref a_sums, .ref a_pr, .ref a_rel, .ref a_grp, .ref a_idx, .int (gb (false))]))) (g_kne e81_0_ser e81_0_cents (Nat.ne_of_beq_eq_false rfl)) (g_ne (x := (a_spd, .inr (5, [.ref a_told, .ref a_adp, .ref a_shr]))) (g_kne e81_0_spd e81_0_cents (Nat.ne_of_beq_eq_false rfl)) (g_ne (x := (a_off, .inr (7, [.ref a_led, .ref a_spd, .ref a_ser, .ref a_red, .ref a_num, .ref a_cnum, .ref a_ctl, .int (nI (0))]))) (g_kne e81_0_off e81_0_cents (Nat.ne_of_beq_eq_false rfl)) (e81_0_cents)))))
  have e16_0_grams := g_apE hB16_0 g9_grams
  have e20_0_grams := g_apE hB20_0 e16_0_grams
  have e20_1_grams := g_apE hB20_1 e20_0_grams
  have e20_2_grams := g_apE hB20_2 e20_1_grams
  have e27_0_grams := g_apE hB27_0 e20_2_grams
  have e39_0_grams := g_apE hB39_0 e27_0_grams
  have e39_1_grams := g_apE hB39_1 e39_0_grams
  have e39_2_grams := g_apE hB39_2 e39_1_grams
  have e39_3_grams := g_apE hB39_3 e39_2_grams
  have e39_4_grams := g_apE hB39_4 e39_3_grams
  have e46_0_grams := g_apE hB46_0 e39_4_grams
  have e58_0_grams := g_apE hB58_0 e46_0_grams
  have e58_1_grams := g_apE hB58_1 e58_0_grams
  have e58_2_grams := g_apE hB58_2 e58_1_grams
  have e58_3_grams := g_apE hB58_3 e58_2_grams
  have e58_4_grams := g_apE hB58_4 e58_3_grams
  have e67_0_grams := g_apE hB67_0 e58_4_grams
  have e75_0_grams := g_apE hB75_0 e67_0_grams
  have e81_0_grams := g_apE hB81_0 e75_0_grams
  have f_grams := g_ne (x := (a_ctl, .inr (0, [.int (nI (0)), .ref a_emp, .int (nI (0))]))) (g_kne e81_0_ctl e81_0_grams (Nat.ne_of_beq_eq_false rfl)) (g_ne (x := (a_red, .inr (4, [.ref a_led, .ref a_spd, .ref a_sums2, .ref a_pr2, .ref a_rel2, .ref a_grp2, .ref a_idx2, .int (gb (false))]))) (g_kne e81_0_red e81_0_grams (Nat.ne_of_beq_eq_false rfl)) (g_ne (x := (a_ser, .inr (4, [.ref a_led, .ref a_spd, .ref a_sums, .ref a_pr, .ref a_rel, .ref a_grp, .ref a_idx, .int (gb (false))]))) (g_kne e81_0_ser e81_0_grams (Nat.ne_of_beq_eq_false rfl)) (g_ne (x := (a_spd, .inr (5, [.ref a_told, .ref a_adp, .ref a_shr]))) (g_kne e81_0_spd e81_0_grams (Nat.ne_of_beq_eq_false rfl)) (g_ne (x := (a_off, .inr (7, [.ref a_led, .ref a_spd, .ref a_ser, .ref a_red, .ref a_num, .ref a_cnum, .ref a_ctl, .int (nI (0))]))) (g_kne e81_0_off e81_0_grams (Nat.ne_of_beq_eq_false rfl)) (e81_0_grams)))))
  have e16_0_cf := g_apE hB16_0 g9_cf
  have e20_0_cf := g_apE hB20_0 e16_0_cf
  have e20_1_cf := g_apE hB20_1 e20_0_cf
  have e20_2_cf := g_apE hB20_2 e20_1_cf
  have e27_0_cf := g_apE hB27_0 e20_2_cf
  have e39_0_cf := g_apE hB39_0 e27_0_cf
  have e39_1_cf := g_apE hB39_1 e39_0_cf
  have e39_2_cf := g_apE hB39_2 e39_1_cf
  have e39_3_cf := g_apE hB39_3 e39_2_cf
  have e39_4_cf := g_apE hB39_4 e39_3_cf
  have e46_0_cf := g_apE hB46_0 e39_4_cf
  have e58_0_cf := g_apE hB58_0 e46_0_cf
  have e58_1_cf := g_apE hB58_1 e58_0_cf
  have e58_2_cf := g_apE hB58_2 e58_1_cf
  have e58_3_cf := g_apE hB58_3 e58_2_cf
  have e58_4_cf := g_apE hB58_4 e58_3_cf
  have e67_0_cf := g_apE hB67_0 e58_4_cf
  have e75_0_cf := g_apE hB75_0 e67_0_cf
  have e81_0_cf := g_apE hB81_0 e75_0_cf
  have f_cf := g_ne (x := (a_ctl, .inr (0, [.int (nI (0)), .ref a_emp, .int (nI (0))]))) (g_kne e81_0_ctl e81_0_cf (Nat.ne_of_beq_eq_false rfl)) (g_ne (x := (a_red, .inr (4, [.ref a_led, .ref a_spd, .ref a_sums2, .ref a_pr2, .ref a_rel2, .ref a_grp2, .ref a_idx2, .int (gb (false))]))) (g_kne e81_0_red e81_0_cf (Nat.ne_of_beq_eq_false rfl)) (g_ne (x := (a_ser, .inr (4, [.ref a_led, .ref a_spd, .ref a_sums, .ref a_pr, .ref a_rel, .ref a_grp, .ref a_idx, .int (gb (false))]))) (g_kne e81_0_ser e81_0_cf (Nat.ne_of_beq_eq_false rfl)) (g_ne (x := (a_spd, .inr (5, [.ref a_told, .ref a_adp, .ref a_shr]))) (g_kne e81_0_spd e81_0_cf (Nat.ne_of_beq_eq_false rfl)) (g_ne (x := (a_off, .inr (7, [.ref a_led, .ref a_spd, .ref a_ser, .ref a_red, .ref a_num, .ref a_cnum, .ref a_ctl, .int (nI (0))]))) (g_kne e81_0_off e81_0_cf (Nat.ne_of_beq_eq_false rfl)) (e81_0_cf)))))
  have e16_0_cc := g_apE hB16_0 g9_cc
  have e20_0_cc := g_apE hB20_0 e16_0_cc
  have e20_1_cc := g_apE hB20_1 e20_0_cc
  have e20_2_cc := g_apE hB20_2 e20_1_cc
  have e27_0_cc := g_apE hB27_0 e20_2_cc
  have e39_0_cc := g_apE hB39_0 e27_0_cc
  have e39_1_cc := g_apE hB39_1 e39_0_cc
  have e39_2_cc := g_apE hB39_2 e39_1_cc
  have e39_3_cc := g_apE hB39_3 e39_2_cc
  have e39_4_cc := g_apE hB39_4 e39_3_cc
  have e46_0_cc := g_apE hB46_0 e39_4_cc
  have e58_0_cc := g_apE hB58_0 e46_0_cc
  have e58_1_cc := g_apE hB58_1 e58_0_cc
  have e58_2_cc := g_apE hB58_2 e58_1_cc
  have e58_3_cc := g_apE hB58_3 e58_2_cc
  have e58_4_cc := g_apE hB58_4 e58_3_cc
  have e67_0_cc := g_apE hB67_0 e58_4_cc
  have e75_0_cc := g_apE hB75_0 e67_0_cc
  have e81_0_cc := g_apE hB81_0 e75_0_cc
  have f_cc := g_ne (x := (a_ctl, .inr (0, [.int (nI (0)), .ref a_emp, .int (nI (0))]))) (g_kne e81_0_ctl e81_0_cc (Nat.ne_of_beq_eq_false rfl)) (g_ne (x := (a_red, .inr (4, [.ref a_led, .ref a_spd, .ref a_sums2, .ref a_pr2, .ref a_rel2, .ref a_grp2, .ref a_idx2, .int (gb (false))]))) (g_kne e81_0_red e81_0_cc (Nat.ne_of_beq_eq_false rfl)) (g_ne (x := (a_ser, .inr (4, [.ref a_led, .ref a_spd, .ref a_sums, .ref a_pr, .ref a_rel, .ref a_grp, .ref a_idx, .int (gb (false))]))) (g_kne e81_0_ser e81_0_cc (Nat.ne_of_beq_eq_false rfl)) (g_ne (x := (a_spd, .inr (5, [.ref a_told, .ref a_adp, .ref a_shr]))) (g_kne e81_0_spd e81_0_cc (Nat.ne_of_beq_eq_false rfl)) (g_ne (x := (a_off, .inr (7, [.ref a_led, .ref a_spd, .ref a_ser, .ref a_red, .ref a_num, .ref a_cnum, .ref a_ctl, .int (nI (0))]))) (g_kne e81_0_off e81_0_cc (Nat.ne_of_beq_eq_false rfl)) (e81_0_cc)))))
  have e16_0_fx := g_apE hB16_0 g9_fx
  have e20_0_fx := g_apE hB20_0 e16_0_fx
  have e20_1_fx := g_apE hB20_1 e20_0_fx
  have e20_2_fx := g_apE hB20_2 e20_1_fx
  have e27_0_fx := g_apE hB27_0 e20_2_fx
  have e39_0_fx := g_apE hB39_0 e27_0_fx
  have e39_1_fx := g_apE hB39_1 e39_0_fx
  have e39_2_fx := g_apE hB39_2 e39_1_fx
  have e39_3_fx := g_apE hB39_3 e39_2_fx
  have e39_4_fx := g_apE hB39_4 e39_3_fx
  have e46_0_fx := g_apE hB46_0 e39_4_fx
  have e58_0_fx := g_apE hB58_0 e46_0_fx
  have e58_1_fx := g_apE hB58_1 e58_0_fx
  have e58_2_fx := g_apE hB58_2 e58_1_fx
  have e58_3_fx := g_apE hB58_3 e58_2_fx
  have e58_4_fx := g_apE hB58_4 e58_3_fx
  have e67_0_fx := g_apE hB67_0 e58_4_fx
  have e75_0_fx := g_apE hB75_0 e67_0_fx
  have e81_0_fx := g_apE hB81_0 e75_0_fx
  have f_fx := g_ne (x := (a_ctl, .inr (0, [.int (nI (0)), .ref a_emp, .int (nI (0))]))) (g_kne e81_0_ctl e81_0_fx (Nat.ne_of_beq_eq_false rfl)) (g_ne (x := (a_red, .inr (4, [.ref a_led, .ref a_spd, .ref a_sums2, .ref a_pr2, .ref a_rel2, .ref a_grp2, .ref a_idx2, .int (gb (false))]))) (g_kne e81_0_red e81_0_fx (Nat.ne_of_beq_eq_false rfl)) (g_ne (x := (a_ser, .inr (4, [.ref a_led, .ref a_spd, .ref a_sums, .ref a_pr, .ref a_rel, .ref a_grp, .ref a_idx, .int (gb (false))]))) (g_kne e81_0_ser e81_0_fx (Nat.ne_of_beq_eq_false rfl)) (g_ne (x := (a_spd, .inr (5, [.ref a_told, .ref a_adp, .ref a_shr]))) (g_kne e81_0_spd e81_0_fx (Nat.ne_of_beq_eq_false rfl)) (g_ne (x := (a_off, .inr (7, [.ref a_led, .ref a_spd, .ref a_ser, .ref a_red, .ref a_num, .ref a_cnum, .ref a_ctl, .int (nI (0))]))) (g_kne e81_0_off e81_0_fx (Nat.ne_of_beq_eq_false rfl)) (e81_0_fx)))))
  have e16_0_lc := g_apE hB16_0 g9_lc
  have e20_0_lc := g_apE hB20_0 e16_0_lc
  have e20_1_lc := g_apE hB20_1 e20_0_lc
  have e20_2_lc := g_apE hB20_2 e20_1_lc
  have e27_0_lc := g_apE hB27_0 e20_2_lc
  have e39_0_lc := g_apE hB39_0 e27_0_lc
  have e39_1_lc := g_apE hB39_1 e39_0_lc
  have e39_2_lc := g_apE hB39_2 e39_1_lc
  have e39_3_lc := g_apE hB39_3 e39_2_lc
  have e39_4_lc := g_apE hB39_4 e39_3_lc
  have e46_0_lc := g_apE hB46_0 e39_4_lc
  have e58_0_lc := g_apE hB58_0 e46_0_lc
  have e58_1_lc := g_apE hB58_1 e58_0_lc
  have e58_2_lc := g_apE hB58_2 e58_1_lc
  have e58_3_lc := g_apE hB58_3 e58_2_lc
  have e58_4_lc := g_apE hB58_4 e58_3_lc
  have e67_0_lc := g_apE hB67_0 e58_4_lc
  have e75_0_lc := g_apE hB75_0 e67_0_lc
  have e81_0_lc := g_apE hB81_0 e75_0_lc
  have f_lc := g_ne (x := (a_ctl, .inr (0, [.int (nI (0)), .ref a_emp, .int (nI (0))]))) (g_kne e81_0_ctl e81_0_lc (Nat.ne_of_beq_eq_false rfl)) (g_ne (x := (a_red, .inr (4, [.ref a_led, .ref a_spd, .ref a_sums2, .ref a_pr2, .ref a_rel2, .ref a_grp2, .ref a_idx2, .int (gb (false))]))) (g_kne e81_0_red e81_0_lc (Nat.ne_of_beq_eq_false rfl)) (g_ne (x := (a_ser, .inr (4, [.ref a_led, .ref a_spd, .ref a_sums, .ref a_pr, .ref a_rel, .ref a_grp, .ref a_idx, .int (gb (false))]))) (g_kne e81_0_ser e81_0_lc (Nat.ne_of_beq_eq_false rfl)) (g_ne (x := (a_spd, .inr (5, [.ref a_told, .ref a_adp, .ref a_shr]))) (g_kne e81_0_spd e81_0_lc (Nat.ne_of_beq_eq_false rfl)) (g_ne (x := (a_off, .inr (7, [.ref a_led, .ref a_spd, .ref a_ser, .ref a_red, .ref a_num, .ref a_cnum, .ref a_ctl, .int (nI (0))]))) (g_kne e81_0_off e81_0_lc (Nat.ne_of_beq_eq_false rfl)) (e81_0_lc)))))
  have e16_0_lg := g_apE hB16_0 g9_lg
  have e20_0_lg := g_apE hB20_0 e16_0_lg
  have e20_1_lg := g_apE hB20_1 e20_0_lg
  have e20_2_lg := g_apE hB20_2 e20_1_lg
  have e27_0_lg := g_apE hB27_0 e20_2_lg
  have e39_0_lg := g_apE hB39_0 e27_0_lg
  have e39_1_lg := g_apE hB39_1 e39_0_lg
  have e39_2_lg := g_apE hB39_2 e39_1_lg
  have e39_3_lg := g_apE hB39_3 e39_2_lg
  have e39_4_lg := g_apE hB39_4 e39_3_lg
  have e46_0_lg := g_apE hB46_0 e39_4_lg
  have e58_0_lg := g_apE hB58_0 e46_0_lg
  have e58_1_lg := g_apE hB58_1 e58_0_lg
  have e58_2_lg := g_apE hB58_2 e58_1_lg
  have e58_3_lg := g_apE hB58_3 e58_2_lg
  have e58_4_lg := g_apE hB58_4 e58_3_lg
  have e67_0_lg := g_apE hB67_0 e58_4_lg
  have e75_0_lg := g_apE hB75_0 e67_0_lg
  have e81_0_lg := g_apE hB81_0 e75_0_lg
  have f_lg := g_ne (x := (a_ctl, .inr (0, [.int (nI (0)), .ref a_emp, .int (nI (0))]))) (g_kne e81_0_ctl e81_0_lg (Nat.ne_of_beq_eq_false rfl)) (g_ne (x := (a_red, .inr (4, [.ref a_led, .ref a_spd, .ref a_sums2, .ref a_pr2, .ref a_rel2, .ref a_grp2, .ref a_idx2, .int (gb (false))]))) (g_kne e81_0_red e81_0_lg (Nat.ne_of_beq_eq_false rfl)) (g_ne (x := (a_ser, .inr (4, [.ref a_led, .ref a_spd, .ref a_sums, .ref a_pr, .ref a_rel, .ref a_grp, .ref a_idx, .int (gb (false))]))) (g_kne e81_0_ser e81_0_lg (Nat.ne_of_beq_eq_false rfl)) (g_ne (x := (a_spd, .inr (5, [.ref a_told, .ref a_adp, .ref a_shr]))) (g_kne e81_0_spd e81_0_lg (Nat.ne_of_beq_eq_false rfl)) (g_ne (x := (a_off, .inr (7, [.ref a_led, .ref a_spd, .ref a_ser, .ref a_red, .ref a_num, .ref a_cnum, .ref a_ctl, .int (nI (0))]))) (g_kne e81_0_off e81_0_lg (Nat.ne_of_beq_eq_false rfl)) (e81_0_lg)))))
  have f_spd := g_ne (x := (a_ctl, .inr (0, [.int (nI (0)), .ref a_emp, .int (nI (0))]))) (g_kne e81_0_ctl e81_0_spd (Nat.ne_of_beq_eq_false rfl)) (g_ne (x := (a_red, .inr (4, [.ref a_led, .ref a_spd, .ref a_sums2, .ref a_pr2, .ref a_rel2, .ref a_grp2, .ref a_idx2, .int (gb (false))]))) (g_kne e81_0_red e81_0_spd (Nat.ne_of_beq_eq_false rfl)) (g_ne (x := (a_ser, .inr (4, [.ref a_led, .ref a_spd, .ref a_sums, .ref a_pr, .ref a_rel, .ref a_grp, .ref a_idx, .int (gb (false))]))) (g_kne e81_0_ser e81_0_spd (Nat.ne_of_beq_eq_false rfl)) (g_eq (x := (a_spd, .inr (5, [.ref a_told, .ref a_adp, .ref a_shr]))) (g_ne (x := (a_off, .inr (7, [.ref a_led, .ref a_spd, .ref a_ser, .ref a_red, .ref a_num, .ref a_cnum, .ref a_ctl, .int (nI (0))]))) (g_kne e81_0_off e81_0_spd (Nat.ne_of_beq_eq_false rfl)) (e81_0_spd)))))
  have e20_1_told := g_apE hB20_1 e20_0_told
  have e20_2_told := g_apE hB20_2 e20_1_told
  have e27_0_told := g_apE hB27_0 e20_2_told
  have e39_0_told := g_apE hB39_0 e27_0_told
  have e39_1_told := g_apE hB39_1 e39_0_told
  have e39_2_told := g_apE hB39_2 e39_1_told
  have e39_3_told := g_apE hB39_3 e39_2_told
  have e39_4_told := g_apE hB39_4 e39_3_told
  have e46_0_told := g_apE hB46_0 e39_4_told
  have e58_0_told := g_apE hB58_0 e46_0_told
  have e58_1_told := g_apE hB58_1 e58_0_told
  have e58_2_told := g_apE hB58_2 e58_1_told
  have e58_3_told := g_apE hB58_3 e58_2_told
  have e58_4_told := g_apE hB58_4 e58_3_told
  have e67_0_told := g_apE hB67_0 e58_4_told
  have e75_0_told := g_apE hB75_0 e67_0_told
  have e81_0_told := g_apE hB81_0 e75_0_told
  have f_told := g_ne (x := (a_ctl, .inr (0, [.int (nI (0)), .ref a_emp, .int (nI (0))]))) (g_kne e81_0_ctl e81_0_told (Nat.ne_of_beq_eq_false rfl)) (g_ne (x := (a_red, .inr (4, [.ref a_led, .ref a_spd, .ref a_sums2, .ref a_pr2, .ref a_rel2, .ref a_grp2, .ref a_idx2, .int (gb (false))]))) (g_kne e81_0_red e81_0_told (Nat.ne_of_beq_eq_false rfl)) (g_ne (x := (a_ser, .inr (4, [.ref a_led, .ref a_spd, .ref a_sums, .ref a_pr, .ref a_rel, .ref a_grp, .ref a_idx, .int (gb (false))]))) (g_kne e81_0_ser e81_0_told (Nat.ne_of_beq_eq_false rfl)) (g_ne (x := (a_spd, .inr (5, [.ref a_told, .ref a_adp, .ref a_shr]))) (g_kne e81_0_spd e81_0_told (Nat.ne_of_beq_eq_false rfl)) (g_ne (x := (a_off, .inr (7, [.ref a_led, .ref a_spd, .ref a_ser, .ref a_red, .ref a_num, .ref a_cnum, .ref a_ctl, .int (nI (0))]))) (g_kne e81_0_off e81_0_told (Nat.ne_of_beq_eq_false rfl)) (e81_0_told)))))
  have e20_2_adp := g_apE hB20_2 e20_1_adp
  have e27_0_adp := g_apE hB27_0 e20_2_adp
  have e39_0_adp := g_apE hB39_0 e27_0_adp
  have e39_1_adp := g_apE hB39_1 e39_0_adp
  have e39_2_adp := g_apE hB39_2 e39_1_adp
  have e39_3_adp := g_apE hB39_3 e39_2_adp
  have e39_4_adp := g_apE hB39_4 e39_3_adp
  have e46_0_adp := g_apE hB46_0 e39_4_adp
  have e58_0_adp := g_apE hB58_0 e46_0_adp
  have e58_1_adp := g_apE hB58_1 e58_0_adp
  have e58_2_adp := g_apE hB58_2 e58_1_adp
  have e58_3_adp := g_apE hB58_3 e58_2_adp
  have e58_4_adp := g_apE hB58_4 e58_3_adp
  have e67_0_adp := g_apE hB67_0 e58_4_adp
  have e75_0_adp := g_apE hB75_0 e67_0_adp
  have e81_0_adp := g_apE hB81_0 e75_0_adp
  have f_adp := g_ne (x := (a_ctl, .inr (0, [.int (nI (0)), .ref a_emp, .int (nI (0))]))) (g_kne e81_0_ctl e81_0_adp (Nat.ne_of_beq_eq_false rfl)) (g_ne (x := (a_red, .inr (4, [.ref a_led, .ref a_spd, .ref a_sums2, .ref a_pr2, .ref a_rel2, .ref a_grp2, .ref a_idx2, .int (gb (false))]))) (g_kne e81_0_red e81_0_adp (Nat.ne_of_beq_eq_false rfl)) (g_ne (x := (a_ser, .inr (4, [.ref a_led, .ref a_spd, .ref a_sums, .ref a_pr, .ref a_rel, .ref a_grp, .ref a_idx, .int (gb (false))]))) (g_kne e81_0_ser e81_0_adp (Nat.ne_of_beq_eq_false rfl)) (g_ne (x := (a_spd, .inr (5, [.ref a_told, .ref a_adp, .ref a_shr]))) (g_kne e81_0_spd e81_0_adp (Nat.ne_of_beq_eq_false rfl)) (g_ne (x := (a_off, .inr (7, [.ref a_led, .ref a_spd, .ref a_ser, .ref a_red, .ref a_num, .ref a_cnum, .ref a_ctl, .int (nI (0))]))) (g_kne e81_0_off e81_0_adp (Nat.ne_of_beq_eq_false rfl)) (e81_0_adp)))))
  have e27_0_shr := g_apE hB27_0 e20_2_shr
  have e39_0_shr := g_apE hB39_0 e27_0_shr
  have e39_1_shr := g_apE hB39_1 e39_0_shr
  have e39_2_shr := g_apE hB39_2 e39_1_shr
  have e39_3_shr := g_apE hB39_3 e39_2_shr
  have e39_4_shr := g_apE hB39_4 e39_3_shr
  have e46_0_shr := g_apE hB46_0 e39_4_shr
  have e58_0_shr := g_apE hB58_0 e46_0_shr
  have e58_1_shr := g_apE hB58_1 e58_0_shr
  have e58_2_shr := g_apE hB58_2 e58_1_shr
  have e58_3_shr := g_apE hB58_3 e58_2_shr
  have e58_4_shr := g_apE hB58_4 e58_3_shr
  have e67_0_shr := g_apE hB67_0 e58_4_shr
  have e75_0_shr := g_apE hB75_0 e67_0_shr
  have e81_0_shr := g_apE hB81_0 e75_0_shr
  have f_shr := g_ne (x := (a_ctl, .inr (0, [.int (nI (0)), .ref a_emp, .int (nI (0))]))) (g_kne e81_0_ctl e81_0_shr (Nat.ne_of_beq_eq_false rfl)) (g_ne (x := (a_red, .inr (4, [.ref a_led, .ref a_spd, .ref a_sums2, .ref a_pr2, .ref a_rel2, .ref a_grp2, .ref a_idx2, .int (gb (false))]))) (g_kne e81_0_red e81_0_shr (Nat.ne_of_beq_eq_false rfl)) (g_ne (x := (a_ser, .inr (4, [.ref a_led, .ref a_spd, .ref a_sums, .ref a_pr, .ref a_rel, .ref a_grp, .ref a_idx, .int (gb (false))]))) (g_kne e81_0_ser e81_0_shr (Nat.ne_of_beq_eq_false rfl)) (g_ne (x := (a_spd, .inr (5, [.ref a_told, .ref a_adp, .ref a_shr]))) (g_kne e81_0_spd e81_0_shr (Nat.ne_of_beq_eq_false rfl)) (g_ne (x := (a_off, .inr (7, [.ref a_led, .ref a_spd, .ref a_ser, .ref a_red, .ref a_num, .ref a_cnum, .ref a_ctl, .int (nI (0))]))) (g_kne e81_0_off e81_0_shr (Nat.ne_of_beq_eq_false rfl)) (e81_0_shr)))))
  have f_ser := g_ne (x := (a_ctl, .inr (0, [.int (nI (0)), .ref a_emp, .int (nI (0))]))) (g_kne e81_0_ctl e81_0_ser (Nat.ne_of_beq_eq_false rfl)) (g_ne (x := (a_red, .inr (4, [.ref a_led, .ref a_spd, .ref a_sums2, .ref a_pr2, .ref a_rel2, .ref a_grp2, .ref a_idx2, .int (gb (false))]))) n_red_ser (g_eq (x := (a_ser, .inr (4, [.ref a_led, .ref a_spd, .ref a_sums, .ref a_pr, .ref a_rel, .ref a_grp, .ref a_idx, .int (gb (false))]))) (g_ne (x := (a_spd, .inr (5, [.ref a_told, .ref a_adp, .ref a_shr]))) (g_kne e81_0_spd e81_0_ser (Nat.ne_of_beq_eq_false rfl)) (g_ne (x := (a_off, .inr (7, [.ref a_led, .ref a_spd, .ref a_ser, .ref a_red, .ref a_num, .ref a_cnum, .ref a_ctl, .int (nI (0))]))) (g_kne e81_0_off e81_0_ser (Nat.ne_of_beq_eq_false rfl)) (e81_0_ser)))))
  have e58_0_sums := g_apE hB58_0 e46_0_sums
  have e58_1_sums := g_apE hB58_1 e58_0_sums
  have e58_2_sums := g_apE hB58_2 e58_1_sums
  have e58_3_sums := g_apE hB58_3 e58_2_sums
  have e58_4_sums := g_apE hB58_4 e58_3_sums
  have e67_0_sums := g_apE hB67_0 e58_4_sums
  have e75_0_sums := g_apE hB75_0 e67_0_sums
  have e81_0_sums := g_apE hB81_0 e75_0_sums
  have f_sums := g_ne (x := (a_ctl, .inr (0, [.int (nI (0)), .ref a_emp, .int (nI (0))]))) (g_kne e81_0_ctl e81_0_sums (Nat.ne_of_beq_eq_false rfl)) (g_ne (x := (a_red, .inr (4, [.ref a_led, .ref a_spd, .ref a_sums2, .ref a_pr2, .ref a_rel2, .ref a_grp2, .ref a_idx2, .int (gb (false))]))) (g_kne e81_0_red e81_0_sums (Nat.ne_of_beq_eq_false rfl)) (g_ne (x := (a_ser, .inr (4, [.ref a_led, .ref a_spd, .ref a_sums, .ref a_pr, .ref a_rel, .ref a_grp, .ref a_idx, .int (gb (false))]))) (g_kne e81_0_ser e81_0_sums (Nat.ne_of_beq_eq_false rfl)) (g_ne (x := (a_spd, .inr (5, [.ref a_told, .ref a_adp, .ref a_shr]))) (g_kne e81_0_spd e81_0_sums (Nat.ne_of_beq_eq_false rfl)) (g_ne (x := (a_off, .inr (7, [.ref a_led, .ref a_spd, .ref a_ser, .ref a_red, .ref a_num, .ref a_cnum, .ref a_ctl, .int (nI (0))]))) (g_kne e81_0_off e81_0_sums (Nat.ne_of_beq_eq_false rfl)) (e81_0_sums)))))
  have e39_2_pr := g_apE hB39_2 e39_1_pr
  have e39_3_pr := g_apE hB39_3 e39_2_pr
  have e39_4_pr := g_apE hB39_4 e39_3_pr
  have e46_0_pr := g_apE hB46_0 e39_4_pr
  have e58_0_pr := g_apE hB58_0 e46_0_pr
  have e58_1_pr := g_apE hB58_1 e58_0_pr
  have e58_2_pr := g_apE hB58_2 e58_1_pr
  have e58_3_pr := g_apE hB58_3 e58_2_pr
  have e58_4_pr := g_apE hB58_4 e58_3_pr
  have e67_0_pr := g_apE hB67_0 e58_4_pr
  have e75_0_pr := g_apE hB75_0 e67_0_pr
  have e81_0_pr := g_apE hB81_0 e75_0_pr
  have f_pr := g_ne (x := (a_ctl, .inr (0, [.int (nI (0)), .ref a_emp, .int (nI (0))]))) (g_kne e81_0_ctl e81_0_pr (Nat.ne_of_beq_eq_false rfl)) (g_ne (x := (a_red, .inr (4, [.ref a_led, .ref a_spd, .ref a_sums2, .ref a_pr2, .ref a_rel2, .ref a_grp2, .ref a_idx2, .int (gb (false))]))) (g_kne e81_0_red e81_0_pr (Nat.ne_of_beq_eq_false rfl)) (g_ne (x := (a_ser, .inr (4, [.ref a_led, .ref a_spd, .ref a_sums, .ref a_pr, .ref a_rel, .ref a_grp, .ref a_idx, .int (gb (false))]))) (g_kne e81_0_ser e81_0_pr (Nat.ne_of_beq_eq_false rfl)) (g_ne (x := (a_spd, .inr (5, [.ref a_told, .ref a_adp, .ref a_shr]))) (g_kne e81_0_spd e81_0_pr (Nat.ne_of_beq_eq_false rfl)) (g_ne (x := (a_off, .inr (7, [.ref a_led, .ref a_spd, .ref a_ser, .ref a_red, .ref a_num, .ref a_cnum, .ref a_ctl, .int (nI (0))]))) (g_kne e81_0_off e81_0_pr (Nat.ne_of_beq_eq_false rfl)) (e81_0_pr)))))
  have e39_3_rel := g_apE hB39_3 e39_2_rel
  have e39_4_rel := g_apE hB39_4 e39_3_rel
  have e46_0_rel := g_apE hB46_0 e39_4_rel
  have e58_0_rel := g_apE hB58_0 e46_0_rel
  have e58_1_rel := g_apE hB58_1 e58_0_rel
  have e58_2_rel := g_apE hB58_2 e58_1_rel
  have e58_3_rel := g_apE hB58_3 e58_2_rel
  have e58_4_rel := g_apE hB58_4 e58_3_rel
  have e67_0_rel := g_apE hB67_0 e58_4_rel
  have e75_0_rel := g_apE hB75_0 e67_0_rel
  have e81_0_rel := g_apE hB81_0 e75_0_rel
  have f_rel := g_ne (x := (a_ctl, .inr (0, [.int (nI (0)), .ref a_emp, .int (nI (0))]))) (g_kne e81_0_ctl e81_0_rel (Nat.ne_of_beq_eq_false rfl)) (g_ne (x := (a_red, .inr (4, [.ref a_led, .ref a_spd, .ref a_sums2, .ref a_pr2, .ref a_rel2, .ref a_grp2, .ref a_idx2, .int (gb (false))]))) (g_kne e81_0_red e81_0_rel (Nat.ne_of_beq_eq_false rfl)) (g_ne (x := (a_ser, .inr (4, [.ref a_led, .ref a_spd, .ref a_sums, .ref a_pr, .ref a_rel, .ref a_grp, .ref a_idx, .int (gb (false))]))) (g_kne e81_0_ser e81_0_rel (Nat.ne_of_beq_eq_false rfl)) (g_ne (x := (a_spd, .inr (5, [.ref a_told, .ref a_adp, .ref a_shr]))) (g_kne e81_0_spd e81_0_rel (Nat.ne_of_beq_eq_false rfl)) (g_ne (x := (a_off, .inr (7, [.ref a_led, .ref a_spd, .ref a_ser, .ref a_red, .ref a_num, .ref a_cnum, .ref a_ctl, .int (nI (0))]))) (g_kne e81_0_off e81_0_rel (Nat.ne_of_beq_eq_false rfl)) (e81_0_rel)))))
  have e39_4_grp := g_apE hB39_4 e39_3_grp
  have e46_0_grp := g_apE hB46_0 e39_4_grp
  have e58_0_grp := g_apE hB58_0 e46_0_grp
  have e58_1_grp := g_apE hB58_1 e58_0_grp
  have e58_2_grp := g_apE hB58_2 e58_1_grp
  have e58_3_grp := g_apE hB58_3 e58_2_grp
  have e58_4_grp := g_apE hB58_4 e58_3_grp
  have e67_0_grp := g_apE hB67_0 e58_4_grp
  have e75_0_grp := g_apE hB75_0 e67_0_grp
  have e81_0_grp := g_apE hB81_0 e75_0_grp
  have f_grp := g_ne (x := (a_ctl, .inr (0, [.int (nI (0)), .ref a_emp, .int (nI (0))]))) (g_kne e81_0_ctl e81_0_grp (Nat.ne_of_beq_eq_false rfl)) (g_ne (x := (a_red, .inr (4, [.ref a_led, .ref a_spd, .ref a_sums2, .ref a_pr2, .ref a_rel2, .ref a_grp2, .ref a_idx2, .int (gb (false))]))) (g_kne e81_0_red e81_0_grp (Nat.ne_of_beq_eq_false rfl)) (g_ne (x := (a_ser, .inr (4, [.ref a_led, .ref a_spd, .ref a_sums, .ref a_pr, .ref a_rel, .ref a_grp, .ref a_idx, .int (gb (false))]))) (g_kne e81_0_ser e81_0_grp (Nat.ne_of_beq_eq_false rfl)) (g_ne (x := (a_spd, .inr (5, [.ref a_told, .ref a_adp, .ref a_shr]))) (g_kne e81_0_spd e81_0_grp (Nat.ne_of_beq_eq_false rfl)) (g_ne (x := (a_off, .inr (7, [.ref a_led, .ref a_spd, .ref a_ser, .ref a_red, .ref a_num, .ref a_cnum, .ref a_ctl, .int (nI (0))]))) (g_kne e81_0_off e81_0_grp (Nat.ne_of_beq_eq_false rfl)) (e81_0_grp)))))
  have e46_0_idx := g_apE hB46_0 e39_4_idx
  have e58_0_idx := g_apE hB58_0 e46_0_idx
  have e58_1_idx := g_apE hB58_1 e58_0_idx
  have e58_2_idx := g_apE hB58_2 e58_1_idx
  have e58_3_idx := g_apE hB58_3 e58_2_idx
  have e58_4_idx := g_apE hB58_4 e58_3_idx
  have e67_0_idx := g_apE hB67_0 e58_4_idx
  have e75_0_idx := g_apE hB75_0 e67_0_idx
  have e81_0_idx := g_apE hB81_0 e75_0_idx
  have f_idx := g_ne (x := (a_ctl, .inr (0, [.int (nI (0)), .ref a_emp, .int (nI (0))]))) (g_kne e81_0_ctl e81_0_idx (Nat.ne_of_beq_eq_false rfl)) (g_ne (x := (a_red, .inr (4, [.ref a_led, .ref a_spd, .ref a_sums2, .ref a_pr2, .ref a_rel2, .ref a_grp2, .ref a_idx2, .int (gb (false))]))) (g_kne e81_0_red e81_0_idx (Nat.ne_of_beq_eq_false rfl)) (g_ne (x := (a_ser, .inr (4, [.ref a_led, .ref a_spd, .ref a_sums, .ref a_pr, .ref a_rel, .ref a_grp, .ref a_idx, .int (gb (false))]))) (g_kne e81_0_ser e81_0_idx (Nat.ne_of_beq_eq_false rfl)) (g_ne (x := (a_spd, .inr (5, [.ref a_told, .ref a_adp, .ref a_shr]))) (g_kne e81_0_spd e81_0_idx (Nat.ne_of_beq_eq_false rfl)) (g_ne (x := (a_off, .inr (7, [.ref a_led, .ref a_spd, .ref a_ser, .ref a_red, .ref a_num, .ref a_cnum, .ref a_ctl, .int (nI (0))]))) (g_kne e81_0_off e81_0_idx (Nat.ne_of_beq_eq_false rfl)) (e81_0_idx)))))
  have f_red := g_ne (x := (a_ctl, .inr (0, [.int (nI (0)), .ref a_emp, .int (nI (0))]))) (g_kne e81_0_ctl e81_0_red (Nat.ne_of_beq_eq_false rfl)) (g_eq (x := (a_red, .inr (4, [.ref a_led, .ref a_spd, .ref a_sums2, .ref a_pr2, .ref a_rel2, .ref a_grp2, .ref a_idx2, .int (gb (false))]))) (g_ne (x := (a_ser, .inr (4, [.ref a_led, .ref a_spd, .ref a_sums, .ref a_pr, .ref a_rel, .ref a_grp, .ref a_idx, .int (gb (false))]))) (Ne.symm n_red_ser) (g_ne (x := (a_spd, .inr (5, [.ref a_told, .ref a_adp, .ref a_shr]))) (g_kne e81_0_spd e81_0_red (Nat.ne_of_beq_eq_false rfl)) (g_ne (x := (a_off, .inr (7, [.ref a_led, .ref a_spd, .ref a_ser, .ref a_red, .ref a_num, .ref a_cnum, .ref a_ctl, .int (nI (0))]))) (g_kne e81_0_off e81_0_red (Nat.ne_of_beq_eq_false rfl)) (e81_0_red)))))
  have e58_1_sums2 := g_apE hB58_1 e58_0_sums2
  have e58_2_sums2 := g_apE hB58_2 e58_1_sums2
  have e58_3_sums2 := g_apE hB58_3 e58_2_sums2
  have e58_4_sums2 := g_apE hB58_4 e58_3_sums2
  have e67_0_sums2 := g_apE hB67_0 e58_4_sums2
  have e75_0_sums2 := g_apE hB75_0 e67_0_sums2
  have e81_0_sums2 := g_apE hB81_0 e75_0_sums2
  have f_sums2 := g_ne (x := (a_ctl, .inr (0, [.int (nI (0)), .ref a_emp, .int (nI (0))]))) (g_kne e81_0_ctl e81_0_sums2 (Nat.ne_of_beq_eq_false rfl)) (g_ne (x := (a_red, .inr (4, [.ref a_led, .ref a_spd, .ref a_sums2, .ref a_pr2, .ref a_rel2, .ref a_grp2, .ref a_idx2, .int (gb (false))]))) (g_kne e81_0_red e81_0_sums2 (Nat.ne_of_beq_eq_false rfl)) (g_ne (x := (a_ser, .inr (4, [.ref a_led, .ref a_spd, .ref a_sums, .ref a_pr, .ref a_rel, .ref a_grp, .ref a_idx, .int (gb (false))]))) (g_kne e81_0_ser e81_0_sums2 (Nat.ne_of_beq_eq_false rfl)) (g_ne (x := (a_spd, .inr (5, [.ref a_told, .ref a_adp, .ref a_shr]))) (g_kne e81_0_spd e81_0_sums2 (Nat.ne_of_beq_eq_false rfl)) (g_ne (x := (a_off, .inr (7, [.ref a_led, .ref a_spd, .ref a_ser, .ref a_red, .ref a_num, .ref a_cnum, .ref a_ctl, .int (nI (0))]))) (g_kne e81_0_off e81_0_sums2 (Nat.ne_of_beq_eq_false rfl)) (e81_0_sums2)))))
  have e58_2_pr2 := g_apE hB58_2 e58_1_pr2
  have e58_3_pr2 := g_apE hB58_3 e58_2_pr2
  have e58_4_pr2 := g_apE hB58_4 e58_3_pr2
  have e67_0_pr2 := g_apE hB67_0 e58_4_pr2
  have e75_0_pr2 := g_apE hB75_0 e67_0_pr2
  have e81_0_pr2 := g_apE hB81_0 e75_0_pr2
  have f_pr2 := g_ne (x := (a_ctl, .inr (0, [.int (nI (0)), .ref a_emp, .int (nI (0))]))) (g_kne e81_0_ctl e81_0_pr2 (Nat.ne_of_beq_eq_false rfl)) (g_ne (x := (a_red, .inr (4, [.ref a_led, .ref a_spd, .ref a_sums2, .ref a_pr2, .ref a_rel2, .ref a_grp2, .ref a_idx2, .int (gb (false))]))) (g_kne e81_0_red e81_0_pr2 (Nat.ne_of_beq_eq_false rfl)) (g_ne (x := (a_ser, .inr (4, [.ref a_led, .ref a_spd, .ref a_sums, .ref a_pr, .ref a_rel, .ref a_grp, .ref a_idx, .int (gb (false))]))) (g_kne e81_0_ser e81_0_pr2 (Nat.ne_of_beq_eq_false rfl)) (g_ne (x := (a_spd, .inr (5, [.ref a_told, .ref a_adp, .ref a_shr]))) (g_kne e81_0_spd e81_0_pr2 (Nat.ne_of_beq_eq_false rfl)) (g_ne (x := (a_off, .inr (7, [.ref a_led, .ref a_spd, .ref a_ser, .ref a_red, .ref a_num, .ref a_cnum, .ref a_ctl, .int (nI (0))]))) (g_kne e81_0_off e81_0_pr2 (Nat.ne_of_beq_eq_false rfl)) (e81_0_pr2)))))
  have e58_3_rel2 := g_apE hB58_3 e58_2_rel2
  have e58_4_rel2 := g_apE hB58_4 e58_3_rel2
  have e67_0_rel2 := g_apE hB67_0 e58_4_rel2
  have e75_0_rel2 := g_apE hB75_0 e67_0_rel2
  have e81_0_rel2 := g_apE hB81_0 e75_0_rel2
  have f_rel2 := g_ne (x := (a_ctl, .inr (0, [.int (nI (0)), .ref a_emp, .int (nI (0))]))) (g_kne e81_0_ctl e81_0_rel2 (Nat.ne_of_beq_eq_false rfl)) (g_ne (x := (a_red, .inr (4, [.ref a_led, .ref a_spd, .ref a_sums2, .ref a_pr2, .ref a_rel2, .ref a_grp2, .ref a_idx2, .int (gb (false))]))) (g_kne e81_0_red e81_0_rel2 (Nat.ne_of_beq_eq_false rfl)) (g_ne (x := (a_ser, .inr (4, [.ref a_led, .ref a_spd, .ref a_sums, .ref a_pr, .ref a_rel, .ref a_grp, .ref a_idx, .int (gb (false))]))) (g_kne e81_0_ser e81_0_rel2 (Nat.ne_of_beq_eq_false rfl)) (g_ne (x := (a_spd, .inr (5, [.ref a_told, .ref a_adp, .ref a_shr]))) (g_kne e81_0_spd e81_0_rel2 (Nat.ne_of_beq_eq_false rfl)) (g_ne (x := (a_off, .inr (7, [.ref a_led, .ref a_spd, .ref a_ser, .ref a_red, .ref a_num, .ref a_cnum, .ref a_ctl, .int (nI (0))]))) (g_kne e81_0_off e81_0_rel2 (Nat.ne_of_beq_eq_false rfl)) (e81_0_rel2)))))
  have e58_4_grp2 := g_apE hB58_4 e58_3_grp2
  have e67_0_grp2 := g_apE hB67_0 e58_4_grp2
  have e75_0_grp2 := g_apE hB75_0 e67_0_grp2
  have e81_0_grp2 := g_apE hB81_0 e75_0_grp2
  have f_grp2 := g_ne (x := (a_ctl, .inr (0, [.int (nI (0)), .ref a_emp, .int (nI (0))]))) (g_kne e81_0_ctl e81_0_grp2 (Nat.ne_of_beq_eq_false rfl)) (g_ne (x := (a_red, .inr (4, [.ref a_led, .ref a_spd, .ref a_sums2, .ref a_pr2, .ref a_rel2, .ref a_grp2, .ref a_idx2, .int (gb (false))]))) (g_kne e81_0_red e81_0_grp2 (Nat.ne_of_beq_eq_false rfl)) (g_ne (x := (a_ser, .inr (4, [.ref a_led, .ref a_spd, .ref a_sums, .ref a_pr, .ref a_rel, .ref a_grp, .ref a_idx, .int (gb (false))]))) (g_kne e81_0_ser e81_0_grp2 (Nat.ne_of_beq_eq_false rfl)) (g_ne (x := (a_spd, .inr (5, [.ref a_told, .ref a_adp, .ref a_shr]))) (g_kne e81_0_spd e81_0_grp2 (Nat.ne_of_beq_eq_false rfl)) (g_ne (x := (a_off, .inr (7, [.ref a_led, .ref a_spd, .ref a_ser, .ref a_red, .ref a_num, .ref a_cnum, .ref a_ctl, .int (nI (0))]))) (g_kne e81_0_off e81_0_grp2 (Nat.ne_of_beq_eq_false rfl)) (e81_0_grp2)))))
  have e67_0_idx2 := g_apE hB67_0 e58_4_idx2
  have e75_0_idx2 := g_apE hB75_0 e67_0_idx2
  have e81_0_idx2 := g_apE hB81_0 e75_0_idx2
  have f_idx2 := g_ne (x := (a_ctl, .inr (0, [.int (nI (0)), .ref a_emp, .int (nI (0))]))) (g_kne e81_0_ctl e81_0_idx2 (Nat.ne_of_beq_eq_false rfl)) (g_ne (x := (a_red, .inr (4, [.ref a_led, .ref a_spd, .ref a_sums2, .ref a_pr2, .ref a_rel2, .ref a_grp2, .ref a_idx2, .int (gb (false))]))) (g_kne e81_0_red e81_0_idx2 (Nat.ne_of_beq_eq_false rfl)) (g_ne (x := (a_ser, .inr (4, [.ref a_led, .ref a_spd, .ref a_sums, .ref a_pr, .ref a_rel, .ref a_grp, .ref a_idx, .int (gb (false))]))) (g_kne e81_0_ser e81_0_idx2 (Nat.ne_of_beq_eq_false rfl)) (g_ne (x := (a_spd, .inr (5, [.ref a_told, .ref a_adp, .ref a_shr]))) (g_kne e81_0_spd e81_0_idx2 (Nat.ne_of_beq_eq_false rfl)) (g_ne (x := (a_off, .inr (7, [.ref a_led, .ref a_spd, .ref a_ser, .ref a_red, .ref a_num, .ref a_cnum, .ref a_ctl, .int (nI (0))]))) (g_kne e81_0_off e81_0_idx2 (Nat.ne_of_beq_eq_false rfl)) (e81_0_idx2)))))
  have e75_0_num := g_apE hB75_0 e67_0_num
  have e81_0_num := g_apE hB81_0 e75_0_num
  have f_num := g_ne (x := (a_ctl, .inr (0, [.int (nI (0)), .ref a_emp, .int (nI (0))]))) (g_kne e81_0_ctl e81_0_num (Nat.ne_of_beq_eq_false rfl)) (g_ne (x := (a_red, .inr (4, [.ref a_led, .ref a_spd, .ref a_sums2, .ref a_pr2, .ref a_rel2, .ref a_grp2, .ref a_idx2, .int (gb (false))]))) (g_kne e81_0_red e81_0_num (Nat.ne_of_beq_eq_false rfl)) (g_ne (x := (a_ser, .inr (4, [.ref a_led, .ref a_spd, .ref a_sums, .ref a_pr, .ref a_rel, .ref a_grp, .ref a_idx, .int (gb (false))]))) (g_kne e81_0_ser e81_0_num (Nat.ne_of_beq_eq_false rfl)) (g_ne (x := (a_spd, .inr (5, [.ref a_told, .ref a_adp, .ref a_shr]))) (g_kne e81_0_spd e81_0_num (Nat.ne_of_beq_eq_false rfl)) (g_ne (x := (a_off, .inr (7, [.ref a_led, .ref a_spd, .ref a_ser, .ref a_red, .ref a_num, .ref a_cnum, .ref a_ctl, .int (nI (0))]))) (g_kne e81_0_off e81_0_num (Nat.ne_of_beq_eq_false rfl)) (e81_0_num)))))
  have e81_0_cnum := g_apE hB81_0 e75_0_cnum
  have f_cnum := g_ne (x := (a_ctl, .inr (0, [.int (nI (0)), .ref a_emp, .int (nI (0))]))) (g_kne e81_0_ctl e81_0_cnum (Nat.ne_of_beq_eq_false rfl)) (g_ne (x := (a_red, .inr (4, [.ref a_led, .ref a_spd, .ref a_sums2, .ref a_pr2, .ref a_rel2, .ref a_grp2, .ref a_idx2, .int (gb (false))]))) (g_kne e81_0_red e81_0_cnum (Nat.ne_of_beq_eq_false rfl)) (g_ne (x := (a_ser, .inr (4, [.ref a_led, .ref a_spd, .ref a_sums, .ref a_pr, .ref a_rel, .ref a_grp, .ref a_idx, .int (gb (false))]))) (g_kne e81_0_ser e81_0_cnum (Nat.ne_of_beq_eq_false rfl)) (g_ne (x := (a_spd, .inr (5, [.ref a_told, .ref a_adp, .ref a_shr]))) (g_kne e81_0_spd e81_0_cnum (Nat.ne_of_beq_eq_false rfl)) (g_ne (x := (a_off, .inr (7, [.ref a_led, .ref a_spd, .ref a_ser, .ref a_red, .ref a_num, .ref a_cnum, .ref a_ctl, .int (nI (0))]))) (g_kne e81_0_off e81_0_cnum (Nat.ne_of_beq_eq_false rfl)) (e81_0_cnum)))))
  have f_ctl := g_eq (x := (a_ctl, .inr (0, [.int (nI (0)), .ref a_emp, .int (nI (0))]))) (g_ne (x := (a_red, .inr (4, [.ref a_led, .ref a_spd, .ref a_sums2, .ref a_pr2, .ref a_rel2, .ref a_grp2, .ref a_idx2, .int (gb (false))]))) (g_kne e81_0_red e81_0_ctl (Nat.ne_of_beq_eq_false rfl)) (g_ne (x := (a_ser, .inr (4, [.ref a_led, .ref a_spd, .ref a_sums, .ref a_pr, .ref a_rel, .ref a_grp, .ref a_idx, .int (gb (false))]))) (g_kne e81_0_ser e81_0_ctl (Nat.ne_of_beq_eq_false rfl)) (g_ne (x := (a_spd, .inr (5, [.ref a_told, .ref a_adp, .ref a_shr]))) (g_kne e81_0_spd e81_0_ctl (Nat.ne_of_beq_eq_false rfl)) (g_ne (x := (a_off, .inr (7, [.ref a_led, .ref a_spd, .ref a_ser, .ref a_red, .ref a_num, .ref a_cnum, .ref a_ctl, .int (nI (0))]))) (g_kne e81_0_off e81_0_ctl (Nat.ne_of_beq_eq_false rfl)) (e81_0_ctl)))))
  refine g_vret hx hb hr hlocks (((((B81_0.set p_off (a_off, .inr (7, [.ref a_led, .ref a_spd, .ref a_ser, .ref a_red, .ref a_num, .ref a_cnum, .ref a_ctl, .int (nI (0))]))).set p_spd (a_spd, .inr (5, [.ref a_told, .ref a_adp, .ref a_shr]))).set p_ser (a_ser, .inr (4, [.ref a_led, .ref a_spd, .ref a_sums, .ref a_pr, .ref a_rel, .ref a_grp, .ref a_idx, .int (gb (false))]))).set p_red (a_red, .inr (4, [.ref a_led, .ref a_spd, .ref a_sums2, .ref a_pr2, .ref a_rel2, .ref a_grp2, .ref a_idx2, .int (gb (false))]))).set p_ctl (a_ctl, .inr (0, [.int (nI (0)), .ref a_emp, .int (nI (0))]))) dX6_init_96 hS hP hD ?_
  exact ⟨hKW, hLW, a_led, a_itl, a_cents, a_grams, a_cf, a_cc, a_fx, a_lc, a_lg, a_spd, a_told, a_adp, a_shr, a_ser, a_sums, a_pr, a_rel, a_grp, a_idx, a_red, a_sums2, a_pr2, a_rel2, a_grp2, a_idx2, a_num, a_cnum, a_ctl, f_off, (by rw [← hq_led]; exact f_led), (by rw [← hq_itl]; exact f_itl), (by rw [← hq_cents]; exact f_cents), (by rw [← hq_grams]; exact f_grams), (by rw [← hq_cf]; exact f_cf), (by rw [← hq_cc]; exact f_cc), (by rw [← hq_fx]; exact f_fx), (by rw [← hq_lc]; exact f_lc), (by rw [← hq_lg]; exact f_lg), (by rw [← hq_spd]; exact f_spd), (by rw [← hq_told]; exact f_told), (by rw [← hq_adp]; exact f_adp), (by rw [← hq_shr]; exact f_shr), (by rw [← hq_ser]; exact f_ser), (by rw [← hq_sums]; exact f_sums), (by rw [← hq_pr]; exact f_pr), (by rw [← hq_rel]; exact f_rel), (by rw [← hq_grp]; exact f_grp), (by rw [← hq_idx]; exact f_idx), (by rw [← hq_red]; exact f_red), (by rw [← hq_sums2]; exact f_sums2), (by rw [← hq_pr2]; exact f_pr2), (by rw [← hq_rel2]; exact f_rel2), (by rw [← hq_grp2]; exact f_grp2), (by rw [← hq_idx2]; exact f_idx2), (by rw [← hq_num]; exact f_num), (by rw [← hq_cnum]; exact f_cnum), (by rw [← hq_ctl]; exact f_ctl)⟩
