set_option maxHeartbeats 4000000 in
set_option maxRecDepth 100000 in
theorem c_Jxa1e45_init_da8c8 (l : Launch) {D : va_G} {y : Nat → Nat} {ws : va_W} {x_lst_0 : Value} {x_lst_1 : Value} {x_lst_2 : Value} {p_lst a_lst : Nat} (f0_lst : ws[p_lst]? = some (a_lst, .inr (0, [x_lst_0, x_lst_1, x_lst_2]))) : gMv l yJxa1e45_init_da8c8 wsJxa1e45_init_da8c8 ({ frames := 1, cells := 0, slots := 0, locals := 23 }) D y [.ref a_lst] ws (fun (_ : Unit) => True) (fun (_ : Unit) => ws) := by
  refine g_met_v (cc := cJxa1e45_init_da8c8) (maxL := 1) (by decide) rfl (Nat.le_of_ble_eq_true rfl) ?_
  intro p e s m below meth c A hx hb hml hr hts hown hnm hlocks hE hP hD hS hA ls hl
  have hown : s.vm.findClass RJxa1e45 = some m.cls := hown
  have hl : lv_has ls 1 [(0, .ref a_lst)] := hl
  refine lv_aload_n hx hb dJxa1e45_init_da8c8_0 rfl (lv_at hl 0 rfl) ?_
  refine W.objInit hx hb hown (hts (.methodLink RJxa1e45 1 objectInit) (by decide +kernel)) (hts (.instanceMethod objectInit) (by decide +kernel)) (hts _ (List.mem_of_getElem? (i := 3) rfl)) rfl (by rw [hml]; exact hl.1) rfl dJxa1e45_init_da8c8_1 (Nat.le_of_ble_eq_true rfl) (Nat.le_of_ble_eq_true rfl) ?_
  refine W.eq (g2 := F0 m 4 ls []) rfl ?_
  refine g_vret hx hb hr hlocks () dJxa1e45_init_da8c8_4 hS hP hD ?_
  exact trivial

theorem in_c_Jxc12de_init_da8c8_RJx4a65c : ∀ w ∈ wsJx4a65c0, w ∈ wsJxc12de_init_da8c8 := by decide +kernel
set_option maxHeartbeats 4000000 in
set_option maxRecDepth 100000 in
theorem c_Jxc12de_init_da8c8 (l : Launch) {D : va_G} {y : Nat → Nat} {ws : va_W} {x_lst_0 : Value} {x_lst_1 : Value} {x_lst_2 : Value} {p_lst a_lst : Nat} (f0_lst : ws[p_lst]? = some (a_lst, .inr (0, [x_lst_0, x_lst_1, x_lst_2]))) : gMv l yJxc12de_init_da8c8 wsJxc12de_init_da8c8 ({ frames := 2, cells := 0, slots := 0, locals := 43 }) D y [.ref a_lst] ws (fun (_ : Unit) => True) (fun (_ : Unit) => (ws.set p_lst (a_lst, .inr (0, [.int (nI (0)), x_lst_1, x_lst_2])))) := by
  refine g_met_v (cc := cJxc12de_init_da8c8) (maxL := 1) (by decide) rfl (Nat.le_of_ble_eq_true rfl) ?_
  intro p e s m below meth c A hx hb hml hr hts hown hnm hlocks hE hP hD hS hA ls hl
  have hown : s.vm.findClass RJxc12de = some m.cls := hown
  have hl : lv_has ls 1 [(0, .ref a_lst)] := hl
  have in_RJx4a65c := in_c_Jxc12de_init_da8c8_RJx4a65c
  refine lv_aload_n hx hb dJxc12de_init_da8c8_0 rfl (lv_at hl 0 rfl) ?_
  refine gc_I_v (As := []) (rest := []) (c_Jxa1e45_init_da8c8 l f0_lst) ⟨hx, hb, hml, hown, hts⟩ (cwI 0 hts gJxc12de_init_da8c8_Jxa1e45_init_da8c8 rfl rfl rfl (hts (.initialized RJxa1e45) (by decide +kernel)) (hts (.methodLink RJxc12de 1 yJxa1e45_init_da8c8) (by decide +kernel)) (hts (.instanceMethod yJxa1e45_init_da8c8) (by decide +kernel)) rfl (by decide +kernel) ⟨Nat.le_of_ble_eq_true rfl, Nat.le_of_ble_eq_true rfl⟩) hE hP hD hS hA rfl rfl hl.1 (Nat.le_of_ble_eq_true rfl) dJxc12de_init_da8c8_1 ⟨Nat.le_of_ble_eq_true rfl, Nat.le_of_ble_eq_true rfl⟩ (fun u_1 H locs hP hD hS q_1 => ?_)
  refine lv_aload_n hx hb dJxc12de_init_da8c8_4 rfl (lv_at hl 0 rfl) ?_
  refine lv_iconst (v := nI 0) hx hb dJxc12de_init_da8c8_5 (by decide) ?_
  refine gv_set f0_lst rfl (by rfl) (fun k9 h9 kk9 => va_put (D := D) (ci := 0) (v := .int (nI (0))) (ty := .int) (C := RJx4a65c) (T := TJx4a65c) (N := 3) hx hb hts in_RJx4a65c tyJx4a65c tyJx4a65c_ok nmJx4a65c hown hE.1 hP hD hS k9 h9 rfl 0 (by decide) (hts (.fieldLink RJxc12de 7 "java/util/AbstractList" "modCount" "I") (by decide +kernel)) (fun _ h9 => h9) rfl (by decide +kernel) rfl rfl (Nat.le_of_ble_eq_true rfl) dJxc12de_init_da8c8_6 kk9) (fun H locs hP hD hS => ?_)
  refine g_vret hx hb hr hlocks () dJxc12de_init_da8c8_9 hS hP hD ?_
  exact trivial

theorem in_c_Jx4a65c_init_da8c8_RJx4a65c : ∀ w ∈ wsJx4a65c0, w ∈ wsJx4a65c_init_da8c8 := by decide +kernel
set_option maxHeartbeats 4000000 in
set_option maxRecDepth 100000 in
theorem c_Jx4a65c_init_da8c8 (l : Launch) {D : va_G} {y : Nat → Nat} {ws : va_W} {x_lst_0 : Value} {x_lst_1 : Value} {x_lst_2 : Value} {mi : Nat} {p_lst a_lst a_emp : Nat} (f0_lst : ws[p_lst]? = some (a_lst, .inr (0, [x_lst_0, x_lst_1, x_lst_2]))) : gYv l yJx4a65c_init_da8c8 wsJx4a65c_init_da8c8 ({ frames := 3, cells := 0, slots := 0, locals := 63 }) D y a_emp mi [.ref a_lst] ws (fun (_ : Unit) => True) (fun (_ : Unit) => (ws.set p_lst (a_lst, .inr (0, [.int (nI (0)), .ref a_emp, x_lst_2])))) := by
  refine g_mety_v (cc := cJx4a65c_init_da8c8) (maxL := 1) (by decide) rfl (Nat.le_of_ble_eq_true rfl) ?_
  intro p e s m below meth c A hx hb hml hr hts hown hnm hlocks hE hP hD hS hA hY ls hl
  have hown : s.vm.findClass RJx4a65c = some m.cls := hown
  have hl : lv_has ls 1 [(0, .ref a_lst)] := hl
  have in_RJx4a65c := in_c_Jx4a65c_init_da8c8_RJx4a65c
  refine lv_aload_n hx hb dJx4a65c_init_da8c8_0 rfl (lv_at hl 0 rfl) ?_
  refine gc_I_v (As := []) (rest := []) (c_Jxc12de_init_da8c8 l f0_lst) ⟨hx, hb, hml, hown, hts⟩ (cwI 0 hts gJx4a65c_init_da8c8_Jxc12de_init_da8c8 rfl rfl rfl (hts (.initialized RJxc12de) (by decide +kernel)) (hts (.methodLink RJx4a65c 1 yJxc12de_init_da8c8) (by decide +kernel)) (hts (.instanceMethod yJxc12de_init_da8c8) (by decide +kernel)) rfl (by decide +kernel) ⟨Nat.le_of_ble_eq_true rfl, Nat.le_of_ble_eq_true rfl⟩) hE hP hD hS hA rfl rfl hl.1 (Nat.le_of_ble_eq_true rfl) dJx4a65c_init_da8c8_1 ⟨Nat.le_of_ble_eq_true rfl, Nat.le_of_ble_eq_true rfl⟩ (fun u_1 H locs hP hD hS q_1 => ?_)
  refine lv_aload_n hx hb dJx4a65c_init_da8c8_4 rfl (lv_at hl 0 rfl) ?_
  refine va_gets hx hb hY.1 hS hown (hts (.fieldLink RJx4a65c 39 "java/util/ArrayList" "DEFAULTCAPACITY_EMPTY_ELEMENTDATA" "[Ljava/lang/Object;") (by decide +kernel)) (fun _ h9 => h9) dJx4a65c_init_da8c8_5 ?_
  have f_lst := g_eq (x := (a_lst, .inr (0, [.int (nI (0)), x_lst_1, x_lst_2]))) (f0_lst)
  refine gv_set f_lst rfl (by rfl) (fun k9 h9 kk9 => va_put (D := D) (ci := 0) (v := .ref a_emp) (ty := (.array (.object "java/lang/Object"))) (C := RJx4a65c) (T := TJx4a65c) (N := 3) hx hb hts in_RJx4a65c tyJx4a65c tyJx4a65c_ok nmJx4a65c hown hE.1 hP hD hS k9 h9 rfl 1 (by decide) (hts (.fieldLink RJx4a65c 9 "java/util/ArrayList" "elementData" "[Ljava/lang/Object;") (by decide +kernel)) (fun _ h9 => h9) rfl (by decide +kernel) rfl rfl (Nat.le_of_ble_eq_true rfl) dJx4a65c_init_da8c8_8 kk9) (fun H locs hP hD hS => ?_)
  have hP := g_trP g_ss hP
  have hD := g_trD g_ss hD
  refine g_vret hx hb hr hlocks () dJx4a65c_init_da8c8_11 hS hP hD ?_
  exact trivial

set_option maxHeartbeats 4000000 in
set_option maxRecDepth 100000 in
theorem c_J8_newLength_cabcc (l : Launch) {D : va_G} {y : Nat → Nat} {ws : va_W}  {a b9 c9 : Nat} (ha : a < 2 ^ 20) (hb9 : b9 < 2 ^ 20) (hc : c9 < 2 ^ 20) (h0 : 0 < a) : gMi l yJ8_newLength_cabcc wsJ8_newLength_cabcc ({ frames := 1, cells := 0, slots := 0, locals := 21 }) D y [.int (nI (a)), .int (nI (b9)), .int (nI (c9))] ws (fun r (_ : Unit) => r = nI (a + max b9 c9)) (fun (_ : Unit) => ws) := by
  refine g_met_i (cc := cJ8_newLength_cabcc) (maxL := 4) (by decide) rfl (Nat.le_of_ble_eq_true rfl) ?_
  intro p e s m below meth c A hx hb hml hr hts hown hnm hlocks hE hP hD hS hA ls hl
  have hown : s.vm.findClass RJ8 = some m.cls := hown
  have hl : lv_has ls 4 [(0, .int (nI (a))), (1, .int (nI (b9))), (2, .int (nI (c9)))] := hl
  refine lv_iload_n hx hb dJ8_newLength_cabcc_0 rfl (lv_at hl 0 rfl) ?_
  refine lv_iload_n hx hb dJ8_newLength_cabcc_1 rfl (lv_at hl 1 rfl) ?_
  refine lv_iload_n hx hb dJ8_newLength_cabcc_2 rfl (lv_at hl 2 rfl) ?_
  refine g_mmax hx hb (hml.trans hl.1.symm) hown (hts (.methodLink RJ8 194 Lib.Math.max.name) (by decide +kernel)) (hts (.static Lib.Math.max.name) (by decide +kernel)) (hts (.initialized "java/lang/Math") (by decide +kernel)) (hts (.code Lib.Math.max.name Lib.Math.max.code 2 (some .int)) (by decide +kernel)) (Nat.le_of_ble_eq_true rfl) (Nat.le_of_ble_eq_true rfl) (Nat.le_of_ble_eq_true rfl) (Nat.le_of_ble_eq_true rfl) (by omega) (by omega) dJ8_newLength_cabcc_3 ?_
  refine g_iadd hx hb dJ8_newLength_cabcc_6 (nI_add _ _) ?_
  refine lv_istore_n (lv' := [(3, .int (nI (a + (max (b9) (c9))))), (0, .int (nI (a))), (1, .int (nI (b9))), (2, .int (nI (c9)))]) hx hb dJ8_newLength_cabcc_7 rfl hl (by decide) rfl (fun ls hl => ?_)
  refine lv_iconst (v := nI 0) hx hb dJ8_newLength_cabcc_8 (by decide) ?_
  refine lv_iload_n hx hb dJ8_newLength_cabcc_9 rfl (lv_at hl 0 rfl) ?_
  refine g_icmp_ge (tgt := 21) hx hb (by omega) (by omega) dJ8_newLength_cabcc_10 (by decide) (fun c_10 => absurd c_10 (by omega)) (fun c_10 => ?_)
  refine lv_iload_n hx hb dJ8_newLength_cabcc_13 rfl (lv_at hl 0 rfl) ?_
  refine lv_ldc (v := 2147483639) hx hb hown (hts (.constant RJ8 200 (2147483639)) (by decide +kernel)) dJ8_newLength_cabcc_14 ?_
  rw [show (2147483639 : Int32) = nI 2147483639 from by decide]
  refine g_icmp_gt (tgt := 21) hx hb (by omega) (by omega) dJ8_newLength_cabcc_16 (by decide) (fun c_16 => absurd c_16 (by omega)) (fun c_16 => ?_)
  refine lv_iload_n hx hb dJ8_newLength_cabcc_19 rfl (lv_at hl 0 rfl) ?_
  refine g_iret hx hb hr hlocks () dJ8_newLength_cabcc_20 hS hP hD ?_
  exact rfl

set_option maxHeartbeats 4000000 in
set_option maxRecDepth 100000 in
theorem c_J7_copyOf_6403c (l : Launch) {D : va_G} {y : Nat → Nat} {ws : va_W} {mi : Nat} {p_ear a_ear a_emp : Nat} {q : Nat → Option Nat} {ad G M Sn : Nat → Nat} (f0_ear : ws[p_ear]? = some (a_ear, eQ y 10 q)) (hIt : gIt ws 10 10 q ad G M Sn) : gYr l yJ7_copyOf_6403c wsJ7_copyOf_6403c ({ frames := 1, cells := 1, slots := 15, locals := 30 }) D y a_emp mi [.ref a_ear, .int (nI (15)), .ref mi] ws (fun r (u : Nat) => r = u) (fun (u : Nat) => (ws ++ [((u, eQ y 15 (va_cpy q (fun _ => none) 0 0 10)) : Nat × va_E)])) := by
  refine g_mety_r (cc := cJ7_copyOf_6403c) (maxL := 4) (by decide) rfl (Nat.le_of_ble_eq_true rfl) ?_
  intro p e s m below meth c A hx hb hml hr hts hown hnm hlocks hE hP hD hS hA hY ls hl
  have hown : s.vm.findClass RJ7 = some m.cls := hown
  have hl : lv_has ls 4 [(0, .ref a_ear), (1, .int (nI (15))), (2, .ref mi)] := hl
  have hItc := hIt
  refine lv_aload_n hx hb dJ7_copyOf_6403c_0 rfl (lv_at hl 2 rfl) ?_
  refine va_ldcM hx hb hown (hts (.classLink RJ7 110 "[Ljava/lang/Object;") (by decide +kernel)) hY.2.2.1 dJ7_copyOf_6403c_1 ?_
  refine lv_acmp_ne (rx := some mi) (ry := some mi) (tgt := 13) hx hb dJ7_copyOf_6403c_3 (by decide) (fun c9 => absurd rfl c9) (fun _ => ?_)
  refine lv_iload_n hx hb dJ7_copyOf_6403c_6 rfl (lv_at hl 1 rfl) ?_
  refine g_newq hx hb hown (hts (.classLink RJ7 2 "java/lang/Object") (by decide +kernel)) hY.2.1 hE hP hD hS hA (k := 15) (by omega) (Nat.le_of_ble_eq_true rfl) (Nat.le_of_ble_eq_true rfl) dJ7_copyOf_6403c_7 (fun a_cpy H hP hD hS => ?_)
  obtain ⟨p_cpy, hp_cpy⟩ : ∃ z, z = (ws).length := ⟨_, rfl⟩
  have n_cpy_ear : p_cpy ≠ p_ear := by rw [hp_cpy]; exact g_apne f0_ear
  obtain ⟨B7_0, hB7_0⟩ : ∃ B, B = (ws ++ [((a_cpy, eQ y 15 ((fun _ => none))) : Nat × va_E)]) := ⟨_, rfl⟩
  have e7_0_cpy : B7_0[p_cpy]? = some (a_cpy, eQ y 15 ((fun _ => none))) := by rw [hB7_0, hp_cpy]; exact g_apN
  have hIt7_0 := gIt.appE hB7_0 hIt
  have hItc := hIt7_0
  have q7_0 : (ws ++ [((a_cpy, eQ y 15 ((fun _ => none))) : Nat × va_E)]) = B7_0 := hB7_0.symm
  have hP : gvP D vwCl (ws ++ [((a_cpy, eQ y 15 ((fun _ => none))) : Nat × va_E)]) _ := hP
  have hD : gvD A (ws ++ [((a_cpy, eQ y 15 ((fun _ => none))) : Nat × va_E)]) := hD
  have hP : gvP D vwCl B7_0 _ := g_trP (by rw [q7_0]) hP
  have hD : gvD A B7_0 := g_trD (by rw [q7_0]) hD
  refine lv_goto (tgt := 24) hx hb dJ7_copyOf_6403c_10 (by decide) ?_
  refine lv_astore_n (lv' := [(3, .ref a_cpy), (0, .ref a_ear), (1, .int (nI (15))), (2, .ref mi)]) hx hb dJ7_copyOf_6403c_24 rfl hl (by decide) rfl (fun ls hl => ?_)
  refine lv_aload_n hx hb dJ7_copyOf_6403c_25 rfl (lv_at hl 1 rfl) ?_
  refine lv_iconst (v := nI 0) hx hb dJ7_copyOf_6403c_26 (by decide) ?_
  refine lv_aload_n hx hb dJ7_copyOf_6403c_27 rfl (lv_at hl 0 rfl) ?_
  refine lv_iconst (v := nI 0) hx hb dJ7_copyOf_6403c_28 (by decide) ?_
  refine lv_aload_n hx hb dJ7_copyOf_6403c_29 rfl (lv_at hl 1 rfl) ?_
  have e7_0_ear := g_apE hB7_0 f0_ear
  have f_ear := e7_0_ear
  refine g_alenQ hx hb hE hP _ f_ear (by omega) dJ7_copyOf_6403c_30 ?_
  refine lv_iload_n hx hb dJ7_copyOf_6403c_31 rfl (lv_at hl 2 rfl) ?_
  refine g_mminI hx hb (hml.trans hl.1.symm) hown (hts (.methodLink RJ7 304 Lib.Math.min.name) (by decide +kernel)) (hts (.static Lib.Math.min.name) (by decide +kernel)) (hts (.initialized "java/lang/Math") (by decide +kernel)) (hts (.code Lib.Math.min.name Lib.Math.min.code 2 (some .int)) (by decide +kernel)) (Nat.le_of_ble_eq_true rfl) (Nat.le_of_ble_eq_true rfl) (Nat.le_of_ble_eq_true rfl) (Nat.le_of_ble_eq_true rfl) (by omega) (by omega) dJ7_copyOf_6403c_32 ?_
  refine g_iv (v' := nI (10)) (congrArg nI (by decide)) ?_
  have f_cpy := e7_0_cpy
  refine g_copyq hx hb (hml.trans hl.1.symm) hown (hts (.methodLink RJ7 150 arraycopyName) (by decide +kernel)) (hts (.native arraycopyName) (by decide +kernel)) (hts (.static arraycopyName) (by decide +kernel)) (hts (.initialized "java/lang/System") (by decide +kernel)) hE hP hD hS _ _ 2 f_ear f_cpy rfl (hE.2 (.castable RX1 "java/lang/Object") (by decide +kernel)) (by omega) (by omega) (by omega) (by omega) (fun i hi z hz => by rw [hItc.2.2.1 i (by omega)] at hz; cases hz; obtain ⟨k, hk⟩ := hItc.2.2.2 i (by omega); exact ⟨k, _, hk⟩) (Nat.le_of_ble_eq_true rfl) (Nat.le_of_ble_eq_true rfl) dJ7_copyOf_6403c_35 (fun H locs hP hD hS => ?_)
  have hItc := (gIt.set (x := (a_cpy, eQ y 15 (va_cpy q (fun _ => none) 0 0 (10)))) hIt7_0 (e7_0_cpy) (Nat.ne_of_beq_eq_false rfl))
  refine lv_aload_n hx hb dJ7_copyOf_6403c_38 rfl (lv_at hl 0 rfl) ?_
  subst hp_cpy
  subst hB7_0
  have hP : gvP D vwCl (ws ++ [((a_cpy, eQ y 15 (va_cpy q (fun _ => none) 0 0 10)) : Nat × va_E)]) _ := g_trP g_apset hP
  have hD : gvD A (ws ++ [((a_cpy, eQ y 15 (va_cpy q (fun _ => none) 0 0 10)) : Nat × va_E)]) := g_trD g_apset hD
  refine g_rret hx hb hr hlocks (Or.inr ⟨_, rfl⟩) a_cpy dJ7_copyOf_6403c_39 hS hP hD ?_
  exact rfl
