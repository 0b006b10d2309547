set_option maxHeartbeats 4000000 in
set_option maxRecDepth 100000 in
theorem c_J7_copyOf_1904c (l : Launch) {D : va_G} {y : Nat → Nat} {ws : va_W} {mi : Nat} {p_ear a_ear a_emp : Nat} {q : Nat → Option Nat} {ad G M Sn : Nat → Nat} (f0_ear : ws[p_ear]? = some (a_ear, eQ y 10 q)) (hIt : gIt ws 10 10 q ad G M Sn) : gYr l yJ7_copyOf_1904c wsJ7_copyOf_1904c ({ frames := 2, cells := 1, slots := 15, locals := 53 }) D y a_emp mi [.ref a_ear, .int (nI (15))] ws (fun r (u : Nat) => r = u) (fun (u : Nat) => (ws ++ [((u, eQ y 15 (va_cpy q (fun _ => none) 0 0 10)) : Nat × va_E)])) := by
  refine g_mety_r (cc := cJ7_copyOf_1904c) (maxL := 2) (by decide) rfl (Nat.le_of_ble_eq_true rfl) ?_
  intro p e s m below meth c A hx hb hml hr hts hown hnm hlocks hE hP hD hS hA hY ls hl
  have hown : s.vm.findClass RJ7 = some m.cls := hown
  have hl : lv_has ls 2 [(0, .ref a_ear), (1, .int (nI (15)))] := hl
  have hItc := hIt
  refine lv_aload_n hx hb dJ7_copyOf_1904c_0 rfl (lv_at hl 0 rfl) ?_
  refine lv_iload_n hx hb dJ7_copyOf_1904c_1 rfl (lv_at hl 1 rfl) ?_
  refine lv_aload_n hx hb dJ7_copyOf_1904c_2 rfl (lv_at hl 0 rfl) ?_
  refine g_getC hx hb (hml.trans hl.1.symm) hown (hts (.methodLink RJ7 86 ⟨"java/lang/Object", "getClass", "()Ljava/lang/Class;"⟩) (by decide +kernel)) hY.2.2.2.1 (hts (.selects "[Ljava/lang/Object;" ⟨"java/lang/Object", "getClass", "()Ljava/lang/Class;"⟩ ⟨"java/lang/Object", "getClass", "()Ljava/lang/Class;"⟩) (by decide +kernel)) (hts (.instanceMethod ⟨"java/lang/Object", "getClass", "()Ljava/lang/Class;"⟩) (by decide +kernel)) (hts (.native ⟨"java/lang/Object", "getClass", "()Ljava/lang/Class;"⟩) (by decide +kernel)) hY.2.2.1 hE hP _ f0_ear (by omega) (Nat.le_of_ble_eq_true rfl) (Nat.le_of_ble_eq_true rfl) dJ7_copyOf_1904c_3 ?_
  refine gcy_S_r (As := [.ref a_ear, .int (nI (15)), .ref mi]) (rest := []) (c_J7_copyOf_6403c l f0_ear hItc) ⟨hx, hb, hml, hown, hts⟩ (va_cwS 3 hts gJ7_copyOf_1904c_J7_copyOf_6403c rfl rfl rfl (by decide +kernel) ⟨Nat.le_of_ble_eq_true rfl, Nat.le_of_ble_eq_true rfl⟩) hE hY hP hD hS hA rfl rfl hl.1 (Nat.le_of_ble_eq_true rfl) dJ7_copyOf_1904c_6 ⟨Nat.le_of_ble_eq_true rfl, Nat.le_of_ble_eq_true rfl⟩ (fun r_6 u_6 H locs hP hD hS q_6 => ?_)
  have q9 := q_6.symm
  subst q9
  obtain ⟨a_cpy, rfl⟩ : ∃ z, z = u_6 := ⟨_, rfl⟩
  have hP : gvP D vwCl (ws ++ [((a_cpy, eQ y 15 (va_cpy q (fun _ => none) 0 0 10)) : Nat × va_E)]) H := hP
  have hD : gvD A (ws ++ [((a_cpy, eQ y 15 (va_cpy q (fun _ => none) 0 0 10)) : Nat × va_E)]) := hD
  obtain ⟨p_cpy, hp_cpy⟩ : ∃ z, z = (ws).length := ⟨_, rfl⟩
  obtain ⟨B6_0, hB6_0⟩ : ∃ B, B = (ws ++ [((a_cpy, eQ y 15 (va_cpy q (fun _ => none) 0 0 10)) : Nat × va_E)]) := ⟨_, rfl⟩
  have e6_0_cpy : B6_0[p_cpy]? = some (a_cpy, eQ y 15 (va_cpy q (fun _ => none) 0 0 10)) := by rw [hB6_0, hp_cpy]; exact g_apN
  have hIt6_0 := gIt.appE hB6_0 hIt
  have hItc := hIt6_0
  have q6_0 : (ws ++ [((a_cpy, eQ y 15 (va_cpy q (fun _ => none) 0 0 10)) : Nat × va_E)]) = B6_0 := hB6_0.symm
  have hP : gvP D vwCl (ws ++ [((a_cpy, eQ y 15 (va_cpy q (fun _ => none) 0 0 10)) : Nat × va_E)]) _ := hP
  have hD : gvD A (ws ++ [((a_cpy, eQ y 15 (va_cpy q (fun _ => none) 0 0 10)) : Nat × va_E)]) := hD
  have hP : gvP D vwCl B6_0 _ := g_trP (by rw [q6_0]) hP
  have hD : gvD A B6_0 := g_trD (by rw [q6_0]) hD
  have eB : B6_0 = (ws ++ [((a_cpy, eQ y 15 (va_cpy q (fun _ => none) 0 0 10)) : Nat × va_E)]) := by rw [hB6_0]
  have hP : gvP D vwCl (ws ++ [((a_cpy, eQ y 15 (va_cpy q (fun _ => none) 0 0 10)) : Nat × va_E)]) H := by rw [← eB]; exact hP
  have hD : gvD A (ws ++ [((a_cpy, eQ y 15 (va_cpy q (fun _ => none) 0 0 10)) : Nat × va_E)]) := by rw [← eB]; exact hD
  refine g_rret hx hb hr hlocks (Or.inr ⟨_, rfl⟩) a_cpy dJ7_copyOf_1904c_9 hS hP hD ?_
  exact rfl

theorem in_c_growI_0_RJx4a65c : ∀ w ∈ wsJx4a65c0, w ∈ wsJx4a65c_grow_92f84 := by decide +kernel
set_option maxHeartbeats 4000000 in
set_option maxRecDepth 100000 in
theorem c_growI_0 (l : Launch) {D : va_G} {y : Nat → Nat} {ws : va_W} {x_lst_0 : Value} {x_lst_2 : Value} {mi : Nat} {p_lst p_emp a_lst a_emp : Nat} {qe : Nat → Option Nat} (f0_lst : ws[p_lst]? = some (a_lst, .inr (0, [x_lst_0, .ref a_emp, x_lst_2]))) (f0_emp : ws[p_emp]? = some (a_emp, eQ y 0 qe)) : gYr l yJx4a65c_grow_92f84 wsJx4a65c_grow_92f84 ({ frames := 1, cells := 1, slots := 10, locals := 21 }) D y a_emp mi [.ref a_lst, .int (nI (1))] ws (fun r (u : Nat) => r = u) (fun (u : Nat) => ((ws ++ [((u, eQ y 10 (fun _ => none)) : Nat × va_E)]).set p_lst (a_lst, .inr (0, [x_lst_0, .ref u, x_lst_2])))) := by
  refine g_mety_r (cc := cJx4a65c_grow_92f84) (maxL := 4) (by decide) rfl (Nat.le_of_ble_eq_true rfl) ?_
  intro p e s m below meth c A hx hb hml hr hts hown hnm hlocks hE hP hD hS hA hY ls hl
  have hown : s.vm.findClass RJx4a65c = some m.cls := hown
  have hl : lv_has ls 4 [(0, .ref a_lst), (1, .int (nI (1)))] := hl
  have in_RJx4a65c := in_c_growI_0_RJx4a65c
  refine lv_aload_n hx hb dJx4a65c_grow_92f84_0 rfl (lv_at hl 0 rfl) ?_
  refine va_get (D := D) (ci := 0) (v := .ref a_emp) (C := RJx4a65c) (T := TJx4a65c) (N := 3) hx hb hts in_RJx4a65c hown hE.1 (gv1 hP f0_lst) 0 rfl rfl 1 (by decide) (hts (.fieldLink RJx4a65c 9 "java/util/ArrayList" "elementData" "[Ljava/lang/Object;") (by decide +kernel)) (fun _ h9 => h9) rfl dJx4a65c_grow_92f84_1 ?_
  refine va_tlen hx hb hY.2.2.2.2 hS (v := nI 0) rfl dJx4a65c_grow_92f84_4 ?_
  refine lv_istore_n (lv' := [(2, .int (nI (0))), (0, .ref a_lst), (1, .int (nI (1)))]) hx hb dJx4a65c_grow_92f84_5 rfl hl (by decide) rfl (fun ls hl => ?_)
  refine lv_iload_n hx hb dJx4a65c_grow_92f84_6 rfl (lv_at hl 0 rfl) ?_
  refine g_if_gt (tgt := 20) hx hb (by omega) dJx4a65c_grow_92f84_7 (by decide) (fun c_7 => absurd c_7 (by omega)) (fun c_7 => ?_)
  refine lv_aload_n hx hb dJx4a65c_grow_92f84_10 rfl (lv_at hl 1 rfl) ?_
  refine va_get (D := D) (ci := 0) (v := .ref a_emp) (C := RJx4a65c) (T := TJx4a65c) (N := 3) hx hb hts in_RJx4a65c hown hE.1 (gv1 hP f0_lst) 0 rfl rfl 1 (by decide) (hts (.fieldLink RJx4a65c 9 "java/util/ArrayList" "elementData" "[Ljava/lang/Object;") (by decide +kernel)) (fun _ h9 => h9) rfl dJx4a65c_grow_92f84_11 ?_
  refine va_gets hx hb hY.1 hS hown (hts (.fieldLink RJx4a65c 39 "java/util/ArrayList" "DEFAULTCAPACITY_EMPTY_ELEMENTDATA" "[Ljava/lang/Object;") (by decide +kernel)) (fun _ h9 => h9) dJx4a65c_grow_92f84_14 ?_
  refine lv_acmp_eq (rx := some a_emp) (ry := some a_emp) (tgt := 45) hx hb dJx4a65c_grow_92f84_17 (by decide) (fun _ => ?_) (fun c9 => absurd rfl c9)
  refine lv_aload_n hx hb dJx4a65c_grow_92f84_45 rfl (lv_at hl 1 rfl) ?_
  refine lv_bipush (v := nI 10) hx hb dJx4a65c_grow_92f84_46 (by decide) ?_
  refine lv_iload_n hx hb dJx4a65c_grow_92f84_48 rfl (lv_at hl 2 rfl) ?_
  refine g_mmax hx hb (hml.trans hl.1.symm) hown (hts (.methodLink RJx4a65c 79 Lib.Math.max.name) (by decide +kernel)) (hts (.static Lib.Math.max.name) (by decide +kernel)) (hts (.initialized "java/lang/Math") (by decide +kernel)) (hts (.code Lib.Math.max.name Lib.Math.max.code 2 (some .int)) (by decide +kernel)) (Nat.le_of_ble_eq_true rfl) (Nat.le_of_ble_eq_true rfl) (Nat.le_of_ble_eq_true rfl) (Nat.le_of_ble_eq_true rfl) (by omega) (by omega) dJx4a65c_grow_92f84_49 ?_
  refine g_iv (v' := nI (10)) (congrArg nI (by decide)) ?_
  refine g_newq hx hb hown (hts (.classLink RJx4a65c 7 "java/lang/Object") (by decide +kernel)) hY.2.1 hE hP hD hS hA (k := 10) (by omega) (Nat.le_of_ble_eq_true rfl) (Nat.le_of_ble_eq_true rfl) dJx4a65c_grow_92f84_52 (fun a_nar H hP hD hS => ?_)
  obtain ⟨p_nar, hp_nar⟩ : ∃ z, z = (ws).length := ⟨_, rfl⟩
  obtain ⟨B52_0, hB52_0⟩ : ∃ B, B = (ws ++ [((a_nar, eQ y 10 ((fun _ => none))) : Nat × va_E)]) := ⟨_, rfl⟩
  have e52_0_nar : B52_0[p_nar]? = some (a_nar, eQ y 10 ((fun _ => none))) := by rw [hB52_0, hp_nar]; exact g_apN
  have q52_0 : (ws ++ [((a_nar, eQ y 10 ((fun _ => none))) : Nat × va_E)]) = B52_0 := hB52_0.symm
  have hP : gvP D vwCl (ws ++ [((a_nar, eQ y 10 ((fun _ => none))) : Nat × va_E)]) _ := hP
  have hD : gvD A (ws ++ [((a_nar, eQ y 10 ((fun _ => none))) : Nat × va_E)]) := hD
  have hP : gvP D vwCl B52_0 _ := g_trP (by rw [q52_0]) hP
  have hD : gvD A B52_0 := g_trD (by rw [q52_0]) hD
  refine lv_dup_x1 hx hb dJx4a65c_grow_92f84_55 rfl rfl ?_
  have e52_0_lst := g_apE hB52_0 f0_lst
  have f_lst := e52_0_lst
  refine gv_set f_lst rfl (by rfl) (fun k9 h9 kk9 => va_put (D := D) (ci := 0) (v := .ref a_nar) (ty := (.array (.object "java/lang/Object"))) (C := RJx4a65c) (T := TJx4a65c) (N := 3) hx hb hts in_RJx4a65c tyJx4a65c tyJx4a65c_ok nmJx4a65c hown hE.1 hP hD hS k9 h9 rfl 1 (by decide) (hts (.fieldLink RJx4a65c 9 "java/util/ArrayList" "elementData" "[Ljava/lang/Object;") (by decide +kernel)) (fun _ h9 => h9) rfl (by decide +kernel) rfl rfl (Nat.le_of_ble_eq_true rfl) dJx4a65c_grow_92f84_56 kk9) (fun H locs hP hD hS => ?_)
  have eB : B52_0 = (ws ++ [((a_nar, eQ y 10 ((fun _ => none))) : Nat × va_E)]) := by rw [hB52_0]
  have hP : gvP D vwCl ((ws ++ [((a_nar, eQ y 10 ((fun _ => none))) : Nat × va_E)]).set p_lst (a_lst, .inr (0, [x_lst_0, .ref a_nar, x_lst_2]))) H := by rw [← eB]; exact hP
  have hD : gvD A ((ws ++ [((a_nar, eQ y 10 ((fun _ => none))) : Nat × va_E)]).set p_lst (a_lst, .inr (0, [x_lst_0, .ref a_nar, x_lst_2]))) := by rw [← eB]; exact hD
  refine g_rret hx hb hr hlocks (Or.inr ⟨_, rfl⟩) a_nar dJx4a65c_grow_92f84_59 hS hP hD ?_
  exact rfl

theorem in_c_growI_10_RJx4a65c : ∀ w ∈ wsJx4a65c0, w ∈ wsJx4a65c_grow_92f84 := by decide +kernel
set_option maxHeartbeats 4000000 in
set_option maxRecDepth 100000 in
theorem c_growI_10 (l : Launch) {D : va_G} {y : Nat → Nat} {ws : va_W} {x_lst_0 : Value} {x_lst_2 : Value} {mi : Nat} {p_lst p_ear a_lst a_ear a_emp : Nat} {q : Nat → Option Nat} {ad G M Sn : Nat → Nat} (f0_lst : ws[p_lst]? = some (a_lst, .inr (0, [x_lst_0, .ref a_ear, x_lst_2]))) (f0_ear : ws[p_ear]? = some (a_ear, eQ y 10 q)) (hIt : gIt ws 10 10 q ad G M Sn) : gYr l yJx4a65c_grow_92f84 wsJx4a65c_grow_92f84 ({ frames := 3, cells := 1, slots := 15, locals := 74 }) D y a_emp mi [.ref a_lst, .int (nI (11))] ws (fun r (u : Nat) => r = u) (fun (u : Nat) => ((ws ++ [((u, eQ y 15 (va_cpy q (fun _ => none) 0 0 10)) : Nat × va_E)]).set p_lst (a_lst, .inr (0, [x_lst_0, .ref u, x_lst_2])))) := by
  refine g_mety_r (cc := cJx4a65c_grow_92f84) (maxL := 4) (by decide) rfl (Nat.le_of_ble_eq_true rfl) ?_
  intro p e s m below meth c A hx hb hml hr hts hown hnm hlocks hE hP hD hS hA hY ls hl
  have hown : s.vm.findClass RJx4a65c = some m.cls := hown
  have hl : lv_has ls 4 [(0, .ref a_lst), (1, .int (nI (11)))] := hl
  have in_RJx4a65c := in_c_growI_10_RJx4a65c
  have hItc := hIt
  refine lv_aload_n hx hb dJx4a65c_grow_92f84_0 rfl (lv_at hl 0 rfl) ?_
  refine va_get (D := D) (ci := 0) (v := .ref a_ear) (C := RJx4a65c) (T := TJx4a65c) (N := 3) hx hb hts in_RJx4a65c hown hE.1 (gv1 hP f0_lst) 0 rfl rfl 1 (by decide) (hts (.fieldLink RJx4a65c 9 "java/util/ArrayList" "elementData" "[Ljava/lang/Object;") (by decide +kernel)) (fun _ h9 => h9) rfl dJx4a65c_grow_92f84_1 ?_
  refine g_alenQ hx hb hE hP _ f0_ear (by omega) dJx4a65c_grow_92f84_4 ?_
  refine lv_istore_n (lv' := [(2, .int (nI (10))), (0, .ref a_lst), (1, .int (nI (11)))]) hx hb dJx4a65c_grow_92f84_5 rfl hl (by decide) rfl (fun ls hl => ?_)
  refine lv_iload_n hx hb dJx4a65c_grow_92f84_6 rfl (lv_at hl 0 rfl) ?_
  refine g_if_gt (tgt := 20) hx hb (by omega) dJx4a65c_grow_92f84_7 (by decide) (fun c_7 => ?_) (fun c_7 => absurd c_7 (by omega))
  refine lv_iload_n hx hb dJx4a65c_grow_92f84_20 rfl (lv_at hl 0 rfl) ?_
  refine lv_iload_n hx hb dJx4a65c_grow_92f84_21 rfl (lv_at hl 2 rfl) ?_
  refine lv_iload_n hx hb dJx4a65c_grow_92f84_22 rfl (lv_at hl 0 rfl) ?_
  refine g_isub hx hb dJx4a65c_grow_92f84_23 (pk_sub (by omega)) ?_
  refine lv_iload_n hx hb dJx4a65c_grow_92f84_24 rfl (lv_at hl 0 rfl) ?_
  refine lv_iconst (v := nI 1) hx hb dJx4a65c_grow_92f84_25 (by decide) ?_
  refine g_ishr hx hb dJx4a65c_grow_92f84_26 (by decide : nI 10 >>> (nI 1 &&& 31) = nI 5) ?_
  refine gc_S_i (As := [.int (nI (10)), .int (nI ((11) - (10))), .int (nI (5))]) (rest := []) (c_J8_newLength_cabcc l (by omega) (by omega) (by omega) (by omega)) ⟨hx, hb, hml, hown, hts⟩ (va_cwS 3 hts gJx4a65c_grow_92f84_J8_newLength_cabcc rfl rfl rfl (by decide +kernel) ⟨Nat.le_of_ble_eq_true rfl, Nat.le_of_ble_eq_true rfl⟩) hE hP hD hS hA rfl rfl hl.1 (Nat.le_of_ble_eq_true rfl) dJx4a65c_grow_92f84_27 ⟨Nat.le_of_ble_eq_true rfl, Nat.le_of_ble_eq_true rfl⟩ (fun r_27 u_27 H locs hP hD hS q_27 => ?_)
  subst q_27
  refine g_iv (v' := nI (15)) (congrArg nI (by decide)) ?_
  refine lv_istore_n (lv' := [(3, .int (nI (15))), (2, .int (nI (10))), (0, .ref a_lst), (1, .int (nI (11)))]) hx hb dJx4a65c_grow_92f84_30 rfl hl (by decide) rfl (fun ls hl => ?_)
  refine lv_aload_n hx hb dJx4a65c_grow_92f84_31 rfl (lv_at hl 2 rfl) ?_
  refine lv_aload_n hx hb dJx4a65c_grow_92f84_32 rfl (lv_at hl 2 rfl) ?_
  refine va_get (D := D) (ci := 0) (v := .ref a_ear) (C := RJx4a65c) (T := TJx4a65c) (N := 3) hx hb hts in_RJx4a65c hown hE.1 (gv1 hP f0_lst) 0 rfl rfl 1 (by decide) (hts (.fieldLink RJx4a65c 9 "java/util/ArrayList" "elementData" "[Ljava/lang/Object;") (by decide +kernel)) (fun _ h9 => h9) rfl dJx4a65c_grow_92f84_33 ?_
  refine lv_iload_n hx hb dJx4a65c_grow_92f84_36 rfl (lv_at hl 0 rfl) ?_
  refine gcy_S_r (As := [.ref a_ear, .int (nI (15))]) (rest := [.ref a_lst]) (c_J7_copyOf_1904c l f0_ear hItc) ⟨hx, hb, hml, hown, hts⟩ (va_cwS 2 hts gJx4a65c_grow_92f84_J7_copyOf_1904c rfl rfl rfl (by decide +kernel) ⟨Nat.le_of_ble_eq_true rfl, Nat.le_of_ble_eq_true rfl⟩) hE hY hP hD hS hA rfl rfl hl.1 (Nat.le_of_ble_eq_true rfl) dJx4a65c_grow_92f84_37 ⟨Nat.le_of_ble_eq_true rfl, Nat.le_of_ble_eq_true rfl⟩ (fun r_37 u_37 H locs hP hD hS q_37 => ?_)
  have q9 := q_37.symm
  subst q9
  obtain ⟨a_cpy, rfl⟩ : ∃ z, z = u_37 := ⟨_, rfl⟩
  have hP : gvP D vwCl (ws ++ [((a_cpy, eQ y 15 (va_cpy q (fun _ => none) 0 0 10)) : Nat × va_E)]) H := hP
  have hD : gvD A (ws ++ [((a_cpy, eQ y 15 (va_cpy q (fun _ => none) 0 0 10)) : Nat × va_E)]) := hD
  obtain ⟨p_cpy, hp_cpy⟩ : ∃ z, z = (ws).length := ⟨_, rfl⟩
  obtain ⟨B37_0, hB37_0⟩ : ∃ B, B = (ws ++ [((a_cpy, eQ y 15 (va_cpy q (fun _ => none) 0 0 10)) : Nat × va_E)]) := ⟨_, rfl⟩
  have e37_0_cpy : B37_0[p_cpy]? = some (a_cpy, eQ y 15 (va_cpy q (fun _ => none) 0 0 10)) := by rw [hB37_0, hp_cpy]; exact g_apN
  have hIt37_0 := gIt.appE hB37_0 hIt
  have hItc := hIt37_0
  have q37_0 : (ws ++ [((a_cpy, eQ y 15 (va_cpy q (fun _ => none) 0 0 10)) : Nat × va_E)]) = B37_0 := hB37_0.symm
  have hP : gvP D vwCl (ws ++ [((a_cpy, eQ y 15 (va_cpy q (fun _ => none) 0 0 10)) : Nat × va_E)]) _ := hP
  have hD : gvD A (ws ++ [((a_cpy, eQ y 15 (va_cpy q (fun _ => none) 0 0 10)) : Nat × va_E)]) := hD
  have hP : gvP D vwCl B37_0 _ := g_trP (by rw [q37_0]) hP
  have hD : gvD A B37_0 := g_trD (by rw [q37_0]) hD
  refine lv_dup_x1 hx hb dJx4a65c_grow_92f84_40 rfl rfl ?_
  have e37_0_lst := g_apE hB37_0 f0_lst
  have f_lst := e37_0_lst
  refine gv_set f_lst rfl (by rfl) (fun k9 h9 kk9 => va_put (D := D) (ci := 0) (v := .ref a_cpy) (ty := (.array (.object "java/lang/Object"))) (C := RJx4a65c) (T := TJx4a65c) (N := 3) hx hb hts in_RJx4a65c tyJx4a65c tyJx4a65c_ok nmJx4a65c hown hE.1 hP hD hS k9 h9 rfl 1 (by decide) (hts (.fieldLink RJx4a65c 9 "java/util/ArrayList" "elementData" "[Ljava/lang/Object;") (by decide +kernel)) (fun _ h9 => h9) rfl (by decide +kernel) rfl rfl (Nat.le_of_ble_eq_true rfl) dJx4a65c_grow_92f84_41 kk9) (fun H locs hP hD hS => ?_)
  have hItc := (gIt.set (x := (a_lst, .inr (0, [x_lst_0, .ref a_cpy, x_lst_2]))) hIt37_0 (e37_0_lst) (Nat.ne_of_beq_eq_false rfl))
  have eB : B37_0 = (ws ++ [((a_cpy, eQ y 15 (va_cpy q (fun _ => none) 0 0 10)) : Nat × va_E)]) := by rw [hB37_0]
  have hP : gvP D vwCl ((ws ++ [((a_cpy, eQ y 15 (va_cpy q (fun _ => none) 0 0 10)) : Nat × va_E)]).set p_lst (a_lst, .inr (0, [x_lst_0, .ref a_cpy, x_lst_2]))) H := by rw [← eB]; exact hP
  have hD : gvD A ((ws ++ [((a_cpy, eQ y 15 (va_cpy q (fun _ => none) 0 0 10)) : Nat × va_E)]).set p_lst (a_lst, .inr (0, [x_lst_0, .ref a_cpy, x_lst_2]))) := by rw [← eB]; exact hD
  refine g_rret hx hb hr hlocks (Or.inr ⟨_, rfl⟩) a_cpy dJx4a65c_grow_92f84_44 hS hP hD ?_
  exact rfl

theorem in_c_grow_0_RJx4a65c : ∀ w ∈ wsJx4a65c0, w ∈ wsJx4a65c_grow_d5877 := by decide +kernel
set_option maxHeartbeats 4000000 in
set_option maxRecDepth 100000 in
theorem c_grow_0 (l : Launch) {D : va_G} {y : Nat → Nat} {ws : va_W} {x_lst_0 : Value} {mi : Nat} {p_lst p_emp a_lst a_emp : Nat} {qe : Nat → Option Nat} (f0_lst : ws[p_lst]? = some (a_lst, .inr (0, [x_lst_0, .ref a_emp, .int (nI (0))]))) (f0_emp : ws[p_emp]? = some (a_emp, eQ y 0 qe)) : gYr l yJx4a65c_grow_d5877 wsJx4a65c_grow_d5877 ({ frames := 2, cells := 1, slots := 10, locals := 44 }) D y a_emp mi [.ref a_lst] ws (fun r (u : Nat) => r = u) (fun (u : Nat) => ((ws ++ [((u, eQ y 10 (fun _ => none)) : Nat × va_E)]).set p_lst (a_lst, .inr (0, [x_lst_0, .ref u, .int (nI (0))])))) := by
  refine g_mety_r (cc := cJx4a65c_grow_d5877) (maxL := 1) (by decide) rfl (Nat.le_of_ble_eq_true rfl) ?_
  intro p e s m below meth c A hx hb hml hr hts hown hnm hlocks hE hP hD hS hA hY ls hl
  have hown : s.vm.findClass RJx4a65c = some m.cls := hown
  have hl : lv_has ls 1 [(0, .ref a_lst)] := hl
  have in_RJx4a65c := in_c_grow_0_RJx4a65c
  refine lv_aload_n hx hb dJx4a65c_grow_d5877_0 rfl (lv_at hl 0 rfl) ?_
  refine lv_aload_n hx hb dJx4a65c_grow_d5877_1 rfl (lv_at hl 0 rfl) ?_
  refine va_get (D := D) (ci := 0) (v := .int (nI (0))) (C := RJx4a65c) (T := TJx4a65c) (N := 3) hx hb hts in_RJx4a65c hown hE.1 (gv1 hP f0_lst) 0 rfl rfl 2 (by decide) (hts (.fieldLink RJx4a65c 48 "java/util/ArrayList" "size" "I") (by decide +kernel)) (fun _ h9 => h9) rfl dJx4a65c_grow_d5877_2 ?_
  refine lv_iconst (v := nI 1) hx hb dJx4a65c_grow_d5877_5 (by decide) ?_
  refine g_iadd hx hb dJx4a65c_grow_d5877_6 (nI_add _ _) ?_
  refine gcy_V_r (As := [.int (nI (0 + 1))]) (rest := []) (c_growI_0 l f0_lst f0_emp) ⟨hx, hb, hml, hown, hts⟩ (cwV 1 hts gJx4a65c_grow_d5877_Jx4a65c_grow_92f84 rfl rfl rfl (by decide +kernel) ⟨Nat.le_of_ble_eq_true rfl, Nat.le_of_ble_eq_true rfl⟩) hE hY hP hD hS hA _ f0_lst rfl rfl rfl rfl hl.1 (Nat.le_of_ble_eq_true rfl) dJx4a65c_grow_d5877_7 ⟨Nat.le_of_ble_eq_true rfl, Nat.le_of_ble_eq_true rfl⟩ (fun r_7 u_7 H locs hP hD hS q_7 => ?_)
  have q9 := q_7.symm
  subst q9
  obtain ⟨a_nar, rfl⟩ : ∃ z, z = u_7 := ⟨_, rfl⟩
  have hP : gvP D vwCl ((ws ++ [((a_nar, eQ y 10 ((fun _ => none))) : Nat × va_E)]).set p_lst (a_lst, .inr (0, [x_lst_0, .ref a_nar, .int (nI (0))]))) H := hP
  have hD : gvD A ((ws ++ [((a_nar, eQ y 10 ((fun _ => none))) : Nat × va_E)]).set p_lst (a_lst, .inr (0, [x_lst_0, .ref a_nar, .int (nI (0))]))) := hD
  obtain ⟨p_nar, hp_nar⟩ : ∃ z, z = (ws).length := ⟨_, rfl⟩
  obtain ⟨B7_0, hB7_0⟩ : ∃ B, B = (ws ++ [((a_nar, eQ y 10 ((fun _ => none))) : Nat × va_E)]) := ⟨_, rfl⟩
  have e7_0_nar : B7_0[p_nar]? = some (a_nar, eQ y 10 ((fun _ => none))) := by rw [hB7_0, hp_nar]; exact g_apN
  have q7_0 : (ws ++ [((a_nar, eQ y 10 ((fun _ => none))) : Nat × va_E)]) = B7_0 := hB7_0.symm
  have hP : gvP D vwCl ((ws ++ [((a_nar, eQ y 10 ((fun _ => none))) : Nat × va_E)]).set p_lst (a_lst, .inr (0, [x_lst_0, .ref a_nar, .int (nI (0))]))) _ := hP
  have hD : gvD A ((ws ++ [((a_nar, eQ y 10 ((fun _ => none))) : Nat × va_E)]).set p_lst (a_lst, .inr (0, [x_lst_0, .ref a_nar, .int (nI (0))]))) := hD
  have hP : gvP D vwCl (B7_0.set p_lst (a_lst, .inr (0, [x_lst_0, .ref a_nar, .int (nI (0))]))) _ := g_trP (by rw [q7_0]) hP
  have hD : gvD A (B7_0.set p_lst (a_lst, .inr (0, [x_lst_0, .ref a_nar, .int (nI (0))]))) := g_trD (by rw [q7_0]) hD
  have eB : B7_0 = (ws ++ [((a_nar, eQ y 10 ((fun _ => none))) : Nat × va_E)]) := by rw [hB7_0]
  have hP : gvP D vwCl ((ws ++ [((a_nar, eQ y 10 ((fun _ => none))) : Nat × va_E)]).set p_lst (a_lst, .inr (0, [x_lst_0, .ref a_nar, .int (nI (0))]))) H := by rw [← eB]; exact hP
  have hD : gvD A ((ws ++ [((a_nar, eQ y 10 ((fun _ => none))) : Nat × va_E)]).set p_lst (a_lst, .inr (0, [x_lst_0, .ref a_nar, .int (nI (0))]))) := by rw [← eB]; exact hD
  refine g_rret hx hb hr hlocks (Or.inr ⟨_, rfl⟩) a_nar dJx4a65c_grow_d5877_10 hS hP hD ?_
  exact rfl

theorem in_c_grow_10_RJx4a65c : ∀ w ∈ wsJx4a65c0, w ∈ wsJx4a65c_grow_d5877 := by decide +kernel
set_option maxHeartbeats 4000000 in
set_option maxRecDepth 100000 in
theorem c_grow_10 (l : Launch) {D : va_G} {y : Nat → Nat} {ws : va_W} {x_lst_0 : Value} {mi : Nat} {p_lst p_ear a_lst a_ear a_emp : Nat} {q : Nat → Option Nat} {ad G M Sn : Nat → Nat} (f0_lst : ws[p_lst]? = some (a_lst, .inr (0, [x_lst_0, .ref a_ear, .int (nI (10))]))) (f0_ear : ws[p_ear]? = some (a_ear, eQ y 10 q)) (hIt : gIt ws 10 10 q ad G M Sn) : gYr l yJx4a65c_grow_d5877 wsJx4a65c_grow_d5877 ({ frames := 4, cells := 1, slots := 15, locals := 97 }) D y a_emp mi [.ref a_lst] ws (fun r (u : Nat) => r = u) (fun (u : Nat) => ((ws ++ [((u, eQ y 15 (va_cpy q (fun _ => none) 0 0 10)) : Nat × va_E)]).set p_lst (a_lst, .inr (0, [x_lst_0, .ref u, .int (nI (10))])))) := by
  refine g_mety_r (cc := cJx4a65c_grow_d5877) (maxL := 1) (by decide) rfl (Nat.le_of_ble_eq_true rfl) ?_
  intro p e s m below meth c A hx hb hml hr hts hown hnm hlocks hE hP hD hS hA hY ls hl
  have hown : s.vm.findClass RJx4a65c = some m.cls := hown
  have hl : lv_has ls 1 [(0, .ref a_lst)] := hl
  have in_RJx4a65c := in_c_grow_10_RJx4a65c
  have hItc := hIt
  refine lv_aload_n hx hb dJx4a65c_grow_d5877_0 rfl (lv_at hl 0 rfl) ?_
  refine lv_aload_n hx hb dJx4a65c_grow_d5877_1 rfl (lv_at hl 0 rfl) ?_
  refine va_get (D := D) (ci := 0) (v := .int (nI (10))) (C := RJx4a65c) (T := TJx4a65c) (N := 3) hx hb hts in_RJx4a65c hown hE.1 (gv1 hP f0_lst) 0 rfl rfl 2 (by decide) (hts (.fieldLink RJx4a65c 48 "java/util/ArrayList" "size" "I") (by decide +kernel)) (fun _ h9 => h9) rfl dJx4a65c_grow_d5877_2 ?_
  refine lv_iconst (v := nI 1) hx hb dJx4a65c_grow_d5877_5 (by decide) ?_
  refine g_iadd hx hb dJx4a65c_grow_d5877_6 (nI_add _ _) ?_
  refine gcy_V_r (As := [.int (nI (10 + 1))]) (rest := []) (c_growI_10 l f0_lst f0_ear hItc) ⟨hx, hb, hml, hown, hts⟩ (cwV 1 hts gJx4a65c_grow_d5877_Jx4a65c_grow_92f84 rfl rfl rfl (by decide +kernel) ⟨Nat.le_of_ble_eq_true rfl, Nat.le_of_ble_eq_true rfl⟩) hE hY hP hD hS hA _ f0_lst rfl rfl rfl rfl hl.1 (Nat.le_of_ble_eq_true rfl) dJx4a65c_grow_d5877_7 ⟨Nat.le_of_ble_eq_true rfl, Nat.le_of_ble_eq_true rfl⟩ (fun r_7 u_7 H locs hP hD hS q_7 => ?_)
  have q9 := q_7.symm
  subst q9
  obtain ⟨a_cpy, rfl⟩ : ∃ z, z = u_7 := ⟨_, rfl⟩
  have hP : gvP D vwCl ((ws ++ [((a_cpy, eQ y 15 (va_cpy q (fun _ => none) 0 0 10)) : Nat × va_E)]).set p_lst (a_lst, .inr (0, [x_lst_0, .ref a_cpy, .int (nI (10))]))) H := hP
  have hD : gvD A ((ws ++ [((a_cpy, eQ y 15 (va_cpy q (fun _ => none) 0 0 10)) : Nat × va_E)]).set p_lst (a_lst, .inr (0, [x_lst_0, .ref a_cpy, .int (nI (10))]))) := hD
  obtain ⟨p_cpy, hp_cpy⟩ : ∃ z, z = (ws).length := ⟨_, rfl⟩
  obtain ⟨B7_0, hB7_0⟩ : ∃ B, B = (ws ++ [((a_cpy, eQ y 15 (va_cpy q (fun _ => none) 0 0 10)) : Nat × va_E)]) := ⟨_, rfl⟩
  have e7_0_cpy : B7_0[p_cpy]? = some (a_cpy, eQ y 15 (va_cpy q (fun _ => none) 0 0 10)) := by rw [hB7_0, hp_cpy]; exact g_apN
  have hIt7_0 := gIt.appE hB7_0 hIt
  have hItc := hIt7_0
  have q7_0 : (ws ++ [((a_cpy, eQ y 15 (va_cpy q (fun _ => none) 0 0 10)) : Nat × va_E)]) = B7_0 := hB7_0.symm
  have hP : gvP D vwCl ((ws ++ [((a_cpy, eQ y 15 (va_cpy q (fun _ => none) 0 0 10)) : Nat × va_E)]).set p_lst (a_lst, .inr (0, [x_lst_0, .ref a_cpy, .int (nI (10))]))) _ := hP
  have hD : gvD A ((ws ++ [((a_cpy, eQ y 15 (va_cpy q (fun _ => none) 0 0 10)) : Nat × va_E)]).set p_lst (a_lst, .inr (0, [x_lst_0, .ref a_cpy, .int (nI (10))]))) := hD
  have hP : gvP D vwCl (B7_0.set p_lst (a_lst, .inr (0, [x_lst_0, .ref a_cpy, .int (nI (10))]))) _ := g_trP (by rw [q7_0]) hP
  have hD : gvD A (B7_0.set p_lst (a_lst, .inr (0, [x_lst_0, .ref a_cpy, .int (nI (10))]))) := g_trD (by rw [q7_0]) hD
  have e7_0_lst := g_apE hB7_0 f0_lst
  have hItc := (gIt.set (x := (a_lst, .inr (0, [x_lst_0, .ref a_cpy, .int (nI (10))]))) hIt7_0 (e7_0_lst) (Nat.ne_of_beq_eq_false rfl))
  have eB : B7_0 = (ws ++ [((a_cpy, eQ y 15 (va_cpy q (fun _ => none) 0 0 10)) : Nat × va_E)]) := by rw [hB7_0]
  have hP : gvP D vwCl ((ws ++ [((a_cpy, eQ y 15 (va_cpy q (fun _ => none) 0 0 10)) : Nat × va_E)]).set p_lst (a_lst, .inr (0, [x_lst_0, .ref a_cpy, .int (nI (10))]))) H := by rw [← eB]; exact hP
  have hD : gvD A ((ws ++ [((a_cpy, eQ y 15 (va_cpy q (fun _ => none) 0 0 10)) : Nat × va_E)]).set p_lst (a_lst, .inr (0, [x_lst_0, .ref a_cpy, .int (nI (10))]))) := by rw [← eB]; exact hD
  refine g_rret hx hb hr hlocks (Or.inr ⟨_, rfl⟩) a_cpy dJx4a65c_grow_d5877_10 hS hP hD ?_
  exact rfl

theorem in_c_add3_it_RJx4a65c : ∀ w ∈ wsJx4a65c0, w ∈ wsJx4a65c_add_72be8 := by decide +kernel
set_option maxHeartbeats 4000000 in
set_option maxRecDepth 100000 in
theorem c_add3_it (l : Launch) {D : va_G} {y : Nat → Nat} {ws : va_W} {x_lst_0 : Value} {x_ob_0 : Value} {x_ob_1 : Value} {x_ob_2 : Value} {mi : Nat} {p_lst p_ear p_ob a_lst a_ear a_ob a_emp : Nat} {q : Nat → Option Nat} {n cap : Nat} (f0_lst : ws[p_lst]? = some (a_lst, .inr (0, [x_lst_0, .ref a_ear, .int (nI (n))]))) (f0_ear : ws[p_ear]? = some (a_ear, eQ y cap q)) (f0_ob : ws[p_ob]? = some (a_ob, .inr (2, [x_ob_0, x_ob_1, x_ob_2]))) (hn : n < cap) (hcap : cap < 2 ^ 31) : gYv l yJx4a65c_add_72be8 wsJx4a65c_add_72be8 ({ frames := 0, cells := 0, slots := 0, locals := 0 }) D y a_emp mi [.ref a_lst, .ref a_ob, .ref a_ear, .int (nI (n))] ws (fun (_ : Unit) => True) (fun (_ : Unit) => ((ws.set p_ear (a_ear, eQ y cap (va_up q (n) (some a_ob)))).set p_lst (a_lst, .inr (0, [x_lst_0, .ref a_ear, .int (nI (n + 1))])))) := by
  refine g_mety_v (cc := cJx4a65c_add_72be8) (maxL := 4) (by decide) rfl (Nat.le_of_ble_eq_true rfl) ?_
  intro p e s m below meth c A hx hb hml hr hts hown hnm hlocks hE hP hD hS hA hY ls hl
  have hown : s.vm.findClass RJx4a65c = some m.cls := hown
  have hl : lv_has ls 4 [(0, .ref a_lst), (1, .ref a_ob), (2, .ref a_ear), (3, .int (nI (n)))] := hl
  have in_RJx4a65c := in_c_add3_it_RJx4a65c
  refine lv_iload_n hx hb dJx4a65c_add_72be8_0 rfl (lv_at hl 3 rfl) ?_
  refine lv_aload_n hx hb dJx4a65c_add_72be8_1 rfl (lv_at hl 2 rfl) ?_
  refine g_alenQ hx hb hE hP _ f0_ear (by omega) dJx4a65c_add_72be8_2 ?_
  refine g_icmp_ne (tgt := 11) hx hb (by omega) (by omega) dJx4a65c_add_72be8_3 (by decide) (fun c_3 => ?_) (fun c_3 => absurd c_3 (by omega))
  refine lv_aload_n hx hb dJx4a65c_add_72be8_11 rfl (lv_at hl 2 rfl) ?_
  refine lv_iload_n hx hb dJx4a65c_add_72be8_12 rfl (lv_at hl 3 rfl) ?_
  refine lv_aload_n hx hb dJx4a65c_add_72be8_13 rfl (lv_at hl 1 rfl) ?_
  refine g_qast hx hb hE hP hD hS _ _ 2 f0_ear f0_ob rfl (hE.2 (.castable RX1 "java/lang/Object") (by decide +kernel)) (by omega) (by omega) dJx4a65c_add_72be8_14 (fun H locs hP hD hS => ?_)
  refine lv_aload_n hx hb dJx4a65c_add_72be8_15 rfl (lv_at hl 0 rfl) ?_
  refine lv_iload_n hx hb dJx4a65c_add_72be8_16 rfl (lv_at hl 3 rfl) ?_
  refine lv_iconst (v := nI 1) hx hb dJx4a65c_add_72be8_17 (by decide) ?_
  refine g_iadd hx hb dJx4a65c_add_72be8_18 (nI_add _ _) ?_
  have f_lst := g_ne (x := (a_ear, eQ y cap (va_up q (n) (some a_ob)))) (g_kne f0_ear f0_lst (Nat.ne_of_beq_eq_false rfl)) (f0_lst)
  refine gv_set f_lst rfl (by rfl) (fun k9 h9 kk9 => va_put (D := D) (ci := 0) (v := .int (nI (n + 1))) (ty := .int) (C := RJx4a65c) (T := TJx4a65c) (N := 3) hx hb hts in_RJx4a65c tyJx4a65c tyJx4a65c_ok nmJx4a65c hown hE.1 hP hD hS k9 h9 rfl 2 (by decide) (hts (.fieldLink RJx4a65c 48 "java/util/ArrayList" "size" "I") (by decide +kernel)) (fun _ h9 => h9) rfl (by decide +kernel) rfl rfl (Nat.le_of_ble_eq_true rfl) dJx4a65c_add_72be8_19 kk9) (fun H locs hP hD hS => ?_)
  refine g_vret hx hb hr hlocks () dJx4a65c_add_72be8_22 hS hP hD ?_
  exact trivial

theorem in_c_add3_it0_RJx4a65c : ∀ w ∈ wsJx4a65c0, w ∈ wsJx4a65c_add_72be8 := by decide +kernel
set_option maxHeartbeats 4000000 in
set_option maxRecDepth 100000 in
theorem c_add3_it0 (l : Launch) {D : va_G} {y : Nat → Nat} {ws : va_W} {x_lst_0 : Value} {x_ob_0 : Value} {x_ob_1 : Value} {x_ob_2 : Value} {mi : Nat} {p_lst p_emp p_ob a_lst a_emp a_ob : Nat} {qe : Nat → Option Nat} (f0_lst : ws[p_lst]? = some (a_lst, .inr (0, [x_lst_0, .ref a_emp, .int (nI (0))]))) (f0_emp : ws[p_emp]? = some (a_emp, eQ y 0 qe)) (f0_ob : ws[p_ob]? = some (a_ob, .inr (2, [x_ob_0, x_ob_1, x_ob_2]))) : gYv l yJx4a65c_add_72be8 wsJx4a65c_add_72be8 ({ frames := 3, cells := 1, slots := 10, locals := 64 }) D y a_emp mi [.ref a_lst, .ref a_ob, .ref a_emp, .int (nI (0))] ws (fun (u : Nat) => True) (fun (u : Nat) => ((ws ++ [((u, eQ y 10 (va_up (fun _ => none) 0 (some a_ob))) : Nat × va_E)]).set p_lst (a_lst, .inr (0, [x_lst_0, .ref u, .int (nI (1))])))) := by
  refine g_mety_v (cc := cJx4a65c_add_72be8) (maxL := 4) (by decide) rfl (Nat.le_of_ble_eq_true rfl) ?_
  intro p e s m below meth c A hx hb hml hr hts hown hnm hlocks hE hP hD hS hA hY ls hl
  have hown : s.vm.findClass RJx4a65c = some m.cls := hown
  have hl : lv_has ls 4 [(0, .ref a_lst), (1, .ref a_ob), (2, .ref a_emp), (3, .int (nI (0)))] := hl
  have in_RJx4a65c := in_c_add3_it0_RJx4a65c
  refine lv_iload_n hx hb dJx4a65c_add_72be8_0 rfl (lv_at hl 3 rfl) ?_
  refine lv_aload_n hx hb dJx4a65c_add_72be8_1 rfl (lv_at hl 2 rfl) ?_
  refine va_tlen hx hb hY.2.2.2.2 hS (v := nI 0) rfl dJx4a65c_add_72be8_2 ?_
  refine g_icmp_ne (tgt := 11) hx hb (by omega) (by omega) dJx4a65c_add_72be8_3 (by decide) (fun c_3 => absurd c_3 (by omega)) (fun c_3 => ?_)
  refine lv_aload_n hx hb dJx4a65c_add_72be8_6 rfl (lv_at hl 0 rfl) ?_
  refine gcy_V_r (As := []) (rest := []) (c_grow_0 l f0_lst f0_emp) ⟨hx, hb, hml, hown, hts⟩ (cwV 0 hts gJx4a65c_add_72be8_Jx4a65c_grow_d5877 rfl rfl rfl (by decide +kernel) ⟨Nat.le_of_ble_eq_true rfl, Nat.le_of_ble_eq_true rfl⟩) hE hY hP hD hS hA _ f0_lst rfl rfl rfl rfl hl.1 (Nat.le_of_ble_eq_true rfl) dJx4a65c_add_72be8_7 ⟨Nat.le_of_ble_eq_true rfl, Nat.le_of_ble_eq_true rfl⟩ (fun r_7 u_7 H locs hP hD hS q_7 => ?_)
  have q9 := q_7.symm
  subst q9
  obtain ⟨a_nar, rfl⟩ : ∃ z, z = u_7 := ⟨_, rfl⟩
  have hP : gvP D vwCl ((ws ++ [((a_nar, eQ y 10 ((fun _ => none))) : Nat × va_E)]).set p_lst (a_lst, .inr (0, [x_lst_0, .ref a_nar, .int (nI (0))]))) H := hP
  have hD : gvD A ((ws ++ [((a_nar, eQ y 10 ((fun _ => none))) : Nat × va_E)]).set p_lst (a_lst, .inr (0, [x_lst_0, .ref a_nar, .int (nI (0))]))) := hD
  obtain ⟨p_nar, hp_nar⟩ : ∃ z, z = (ws).length := ⟨_, rfl⟩
  obtain ⟨B7_0, hB7_0⟩ : ∃ B, B = (ws ++ [((a_nar, eQ y 10 ((fun _ => none))) : Nat × va_E)]) := ⟨_, rfl⟩
  have e7_0_nar : B7_0[p_nar]? = some (a_nar, eQ y 10 ((fun _ => none))) := by rw [hB7_0, hp_nar]; exact g_apN
  have q7_0 : (ws ++ [((a_nar, eQ y 10 ((fun _ => none))) : Nat × va_E)]) = B7_0 := hB7_0.symm
  have hP : gvP D vwCl ((ws ++ [((a_nar, eQ y 10 ((fun _ => none))) : Nat × va_E)]).set p_lst (a_lst, .inr (0, [x_lst_0, .ref a_nar, .int (nI (0))]))) _ := hP
  have hD : gvD A ((ws ++ [((a_nar, eQ y 10 ((fun _ => none))) : Nat × va_E)]).set p_lst (a_lst, .inr (0, [x_lst_0, .ref a_nar, .int (nI (0))]))) := hD
  have hP : gvP D vwCl (B7_0.set p_lst (a_lst, .inr (0, [x_lst_0, .ref a_nar, .int (nI (0))]))) _ := g_trP (by rw [q7_0]) hP
  have hD : gvD A (B7_0.set p_lst (a_lst, .inr (0, [x_lst_0, .ref a_nar, .int (nI (0))]))) := g_trD (by rw [q7_0]) hD
  refine lv_astore_n (lv' := [(2, .ref a_nar), (0, .ref a_lst), (1, .ref a_ob), (3, .int (nI (0)))]) hx hb dJx4a65c_add_72be8_10 rfl hl (by decide) rfl (fun ls hl => ?_)
  refine lv_aload_n hx hb dJx4a65c_add_72be8_11 rfl (lv_at hl 0 rfl) ?_
  refine lv_iload_n hx hb dJx4a65c_add_72be8_12 rfl (lv_at hl 3 rfl) ?_
  refine lv_aload_n hx hb dJx4a65c_add_72be8_13 rfl (lv_at hl 2 rfl) ?_
  have e7_0_lst := g_apE hB7_0 f0_lst
  have f_nar := g_ne (x := (a_lst, .inr (0, [x_lst_0, .ref a_nar, .int (nI (0))]))) (g_kne e7_0_lst e7_0_nar (Nat.ne_of_beq_eq_false rfl)) (e7_0_nar)
  have e7_0_ob := g_apE hB7_0 f0_ob
  have f_ob := g_ne (x := (a_lst, .inr (0, [x_lst_0, .ref a_nar, .int (nI (0))]))) (g_kne e7_0_lst e7_0_ob (Nat.ne_of_beq_eq_false rfl)) (e7_0_ob)
  refine g_qast hx hb hE hP hD hS _ _ 2 f_nar f_ob rfl (hE.2 (.castable RX1 "java/lang/Object") (by decide +kernel)) (by omega) (by omega) dJx4a65c_add_72be8_14 (fun H locs hP hD hS => ?_)
  refine lv_aload_n hx hb dJx4a65c_add_72be8_15 rfl (lv_at hl 1 rfl) ?_
  refine lv_iload_n hx hb dJx4a65c_add_72be8_16 rfl (lv_at hl 3 rfl) ?_
  refine lv_iconst (v := nI 1) hx hb dJx4a65c_add_72be8_17 (by decide) ?_
  refine g_iadd hx hb dJx4a65c_add_72be8_18 (nI_add _ _) ?_
  have f_lst := g_ne (x := (a_nar, eQ y 10 (va_up ((fun _ => none)) (0) (some a_ob)))) (g_kne e7_0_nar e7_0_lst (Nat.ne_of_beq_eq_false rfl)) (g_eq (x := (a_lst, .inr (0, [x_lst_0, .ref a_nar, .int (nI (0))]))) (e7_0_lst))
  refine gv_set f_lst rfl (by rfl) (fun k9 h9 kk9 => va_put (D := D) (ci := 0) (v := .int (nI (0 + 1))) (ty := .int) (C := RJx4a65c) (T := TJx4a65c) (N := 3) hx hb hts in_RJx4a65c tyJx4a65c tyJx4a65c_ok nmJx4a65c hown hE.1 hP hD hS k9 h9 rfl 2 (by decide) (hts (.fieldLink RJx4a65c 48 "java/util/ArrayList" "size" "I") (by decide +kernel)) (fun _ h9 => h9) rfl (by decide +kernel) rfl rfl (Nat.le_of_ble_eq_true rfl) dJx4a65c_add_72be8_19 kk9) (fun H locs hP hD hS => ?_)
  have hP := g_trP (g_sc (g_kne e7_0_nar e7_0_lst (Nat.ne_of_beq_eq_false rfl)) g_ss) hP
  have hD := g_trD (g_sc (g_kne e7_0_nar e7_0_lst (Nat.ne_of_beq_eq_false rfl)) g_ss) hD
  subst hp_nar
  subst hB7_0
  have hP : gvP D vwCl ((ws ++ [((a_nar, eQ y 10 (va_up (fun _ => none) 0 (some a_ob))) : Nat × va_E)]).set p_lst (a_lst, .inr (0, [x_lst_0, .ref a_nar, .int (nI (1))]))) _ := g_trP (g_sc (Ne.symm (g_apne f0_lst)) g_apset) hP
  have hD : gvD A ((ws ++ [((a_nar, eQ y 10 (va_up (fun _ => none) 0 (some a_ob))) : Nat × va_E)]).set p_lst (a_lst, .inr (0, [x_lst_0, .ref a_nar, .int (nI (1))]))) := g_trD (g_sc (Ne.symm (g_apne f0_lst)) g_apset) hD
  refine g_vret hx hb hr hlocks a_nar dJx4a65c_add_72be8_22 hS hP hD ?_
  exact trivial

theorem in_c_add_it_RJx4a65c : ∀ w ∈ wsJx4a65c0, w ∈ wsJx4a65c_add_9ea2d := by decide +kernel
set_option maxHeartbeats 4000000 in
set_option maxRecDepth 100000 in
theorem c_add_it (l : Launch) {D : va_G} {y : Nat → Nat} {ws : va_W} {x_ob_0 : Value} {x_ob_1 : Value} {x_ob_2 : Value} {mi : Nat} {p_lst p_ear p_ob a_lst a_ear a_ob a_emp : Nat} {q : Nat → Option Nat} {n cap : Nat} {mc9 : Int32} (f0_lst : ws[p_lst]? = some (a_lst, .inr (0, [.int (mc9), .ref a_ear, .int (nI (n))]))) (f0_ear : ws[p_ear]? = some (a_ear, eQ y cap q)) (f0_ob : ws[p_ob]? = some (a_ob, .inr (2, [x_ob_0, x_ob_1, x_ob_2]))) (hn : n < cap) (hcap : cap < 2 ^ 31) : gYi l yJx4a65c_add_9ea2d wsJx4a65c_add_9ea2d ({ frames := 1, cells := 0, slots := 0, locals := 23 }) D y a_emp mi [.ref a_lst, .ref a_ob] ws (fun r (_ : Unit) => r = gb true) (fun (_ : Unit) => ((ws.set p_lst (a_lst, .inr (0, [.int (mc9 + nI 1), .ref a_ear, .int (nI (n + 1))]))).set p_ear (a_ear, eQ y cap (va_up q (n) (some a_ob))))) := by
  refine g_mety_z (cc := cJx4a65c_add_9ea2d) (maxL := 2) (by decide) rfl (Nat.le_of_ble_eq_true rfl) ?_
  intro p e s m below meth c A hx hb hml hr hts hown hnm hlocks hE hP hD hS hA hY ls hl
  have hown : s.vm.findClass RJx4a65c = some m.cls := hown
  have hl : lv_has ls 2 [(0, .ref a_lst), (1, .ref a_ob)] := hl
  have in_RJx4a65c := in_c_add_it_RJx4a65c
  refine lv_aload_n hx hb dJx4a65c_add_9ea2d_0 rfl (lv_at hl 0 rfl) ?_
  refine lv_dup hx hb dJx4a65c_add_9ea2d_1 rfl ?_
  refine va_get (D := D) (ci := 0) (v := .int (mc9)) (C := RJx4a65c) (T := TJx4a65c) (N := 3) hx hb hts in_RJx4a65c hown hE.1 (gv1 hP f0_lst) 0 rfl rfl 0 (by decide) (hts (.fieldLink RJx4a65c 63 "java/util/ArrayList" "modCount" "I") (by decide +kernel)) (u_same (hts (.sameField "java/util/ArrayList" "java/util/AbstractList" "modCount" "I") (by decide +kernel))) rfl dJx4a65c_add_9ea2d_2 ?_
  refine lv_iconst (v := nI 1) hx hb dJx4a65c_add_9ea2d_5 (by decide) ?_
  refine g_iadd hx hb dJx4a65c_add_9ea2d_6 rfl ?_
  refine gv_set f0_lst rfl (by rfl) (fun k9 h9 kk9 => va_put (D := D) (ci := 0) (v := .int (mc9 + nI 1)) (ty := .int) (C := RJx4a65c) (T := TJx4a65c) (N := 3) hx hb hts in_RJx4a65c tyJx4a65c tyJx4a65c_ok nmJx4a65c hown hE.1 hP hD hS k9 h9 rfl 0 (by decide) (hts (.fieldLink RJx4a65c 63 "java/util/ArrayList" "modCount" "I") (by decide +kernel)) (u_same (hts (.sameField "java/util/ArrayList" "java/util/AbstractList" "modCount" "I") (by decide +kernel))) rfl (by decide +kernel) rfl rfl (Nat.le_of_ble_eq_true rfl) dJx4a65c_add_9ea2d_7 kk9) (fun H locs hP hD hS => ?_)
  refine lv_aload_n hx hb dJx4a65c_add_9ea2d_10 rfl (lv_at hl 0 rfl) ?_
  refine lv_aload_n hx hb dJx4a65c_add_9ea2d_11 rfl (lv_at hl 1 rfl) ?_
  refine lv_aload_n hx hb dJx4a65c_add_9ea2d_12 rfl (lv_at hl 0 rfl) ?_
  have f_lst := g_eq (x := (a_lst, .inr (0, [.int (mc9 + nI 1), .ref a_ear, .int (nI (n))]))) (f0_lst)
  refine va_get (D := D) (ci := 0) (v := .ref a_ear) (C := RJx4a65c) (T := TJx4a65c) (N := 3) hx hb hts in_RJx4a65c hown hE.1 (gv1 hP f_lst) 0 rfl rfl 1 (by decide) (hts (.fieldLink RJx4a65c 9 "java/util/ArrayList" "elementData" "[Ljava/lang/Object;") (by decide +kernel)) (fun _ h9 => h9) rfl dJx4a65c_add_9ea2d_13 ?_
  refine lv_aload_n hx hb dJx4a65c_add_9ea2d_16 rfl (lv_at hl 0 rfl) ?_
  refine va_get (D := D) (ci := 0) (v := .int (nI (n))) (C := RJx4a65c) (T := TJx4a65c) (N := 3) hx hb hts in_RJx4a65c hown hE.1 (gv1 hP f_lst) 0 rfl rfl 2 (by decide) (hts (.fieldLink RJx4a65c 48 "java/util/ArrayList" "size" "I") (by decide +kernel)) (fun _ h9 => h9) rfl dJx4a65c_add_9ea2d_17 ?_
  have f_ear := g_ne (x := (a_lst, .inr (0, [.int (mc9 + nI 1), .ref a_ear, .int (nI (n))]))) (g_kne f0_lst f0_ear (Nat.ne_of_beq_eq_false rfl)) (f0_ear)
  have f_ob := g_ne (x := (a_lst, .inr (0, [.int (mc9 + nI 1), .ref a_ear, .int (nI (n))]))) (g_kne f0_lst f0_ob (Nat.ne_of_beq_eq_false rfl)) (f0_ob)
  refine gcy_V_v (As := [.ref a_ob, .ref a_ear, .int (nI (n))]) (rest := []) (c_add3_it l f_lst f_ear f_ob hn hcap) ⟨hx, hb, hml, hown, hts⟩ (cwV 3 hts gJx4a65c_add_9ea2d_Jx4a65c_add_72be8 rfl rfl rfl (by decide +kernel) ⟨Nat.le_of_ble_eq_true rfl, Nat.le_of_ble_eq_true rfl⟩) hE hY hP hD hS hA _ f_lst rfl rfl rfl rfl hl.1 (Nat.le_of_ble_eq_true rfl) dJx4a65c_add_9ea2d_20 ⟨Nat.le_of_ble_eq_true rfl, Nat.le_of_ble_eq_true rfl⟩ (fun u_20 H locs hP hD hS q_20 => ?_)
  have hP := g_trP (g_sc (g_kne f0_ear f0_lst (Nat.ne_of_beq_eq_false rfl)) g_ss) hP
  have hD := g_trD (g_sc (g_kne f0_ear f0_lst (Nat.ne_of_beq_eq_false rfl)) g_ss) hD
  refine lv_iconst (v := nI 1) hx hb dJx4a65c_add_9ea2d_23 (by decide) ?_
  refine g_zret (r := (gb (true))) hx hb hr hlocks () dJx4a65c_add_9ea2d_24 (gb_narrow _) hS hP hD ?_
  exact rfl

theorem in_c_add_it0_RJx4a65c : ∀ w ∈ wsJx4a65c0, w ∈ wsJx4a65c_add_9ea2d := by decide +kernel
set_option maxHeartbeats 4000000 in
set_option maxRecDepth 100000 in
theorem c_add_it0 (l : Launch) {D : va_G} {y : Nat → Nat} {ws : va_W} {x_ob_0 : Value} {x_ob_1 : Value} {x_ob_2 : Value} {mi : Nat} {p_lst p_emp p_ob a_lst a_emp a_ob : Nat} {qe : Nat → Option Nat} {mc9 : Int32} (f0_lst : ws[p_lst]? = some (a_lst, .inr (0, [.int (mc9), .ref a_emp, .int (nI (0))]))) (f0_emp : ws[p_emp]? = some (a_emp, eQ y 0 qe)) (f0_ob : ws[p_ob]? = some (a_ob, .inr (2, [x_ob_0, x_ob_1, x_ob_2]))) : gYi l yJx4a65c_add_9ea2d wsJx4a65c_add_9ea2d ({ frames := 4, cells := 1, slots := 10, locals := 87 }) D y a_emp mi [.ref a_lst, .ref a_ob] ws (fun r (u : Nat) => r = gb true) (fun (u : Nat) => ((ws ++ [((u, eQ y 10 (va_up (fun _ => none) 0 (some a_ob))) : Nat × va_E)]).set p_lst (a_lst, .inr (0, [.int (mc9 + nI 1), .ref u, .int (nI (1))])))) := by
  refine g_mety_z (cc := cJx4a65c_add_9ea2d) (maxL := 2) (by decide) rfl (Nat.le_of_ble_eq_true rfl) ?_
  intro p e s m below meth c A hx hb hml hr hts hown hnm hlocks hE hP hD hS hA hY ls hl
  have hown : s.vm.findClass RJx4a65c = some m.cls := hown
  have hl : lv_has ls 2 [(0, .ref a_lst), (1, .ref a_ob)] := hl
  have in_RJx4a65c := in_c_add_it0_RJx4a65c
  refine lv_aload_n hx hb dJx4a65c_add_9ea2d_0 rfl (lv_at hl 0 rfl) ?_
  refine lv_dup hx hb dJx4a65c_add_9ea2d_1 rfl ?_
  refine va_get (D := D) (ci := 0) (v := .int (mc9)) (C := RJx4a65c) (T := TJx4a65c) (N := 3) hx hb hts in_RJx4a65c hown hE.1 (gv1 hP f0_lst) 0 rfl rfl 0 (by decide) (hts (.fieldLink RJx4a65c 63 "java/util/ArrayList" "modCount" "I") (by decide +kernel)) (u_same (hts (.sameField "java/util/ArrayList" "java/util/AbstractList" "modCount" "I") (by decide +kernel))) rfl dJx4a65c_add_9ea2d_2 ?_
  refine lv_iconst (v := nI 1) hx hb dJx4a65c_add_9ea2d_5 (by decide) ?_
  refine g_iadd hx hb dJx4a65c_add_9ea2d_6 rfl ?_
  refine gv_set f0_lst rfl (by rfl) (fun k9 h9 kk9 => va_put (D := D) (ci := 0) (v := .int (mc9 + nI 1)) (ty := .int) (C := RJx4a65c) (T := TJx4a65c) (N := 3) hx hb hts in_RJx4a65c tyJx4a65c tyJx4a65c_ok nmJx4a65c hown hE.1 hP hD hS k9 h9 rfl 0 (by decide) (hts (.fieldLink RJx4a65c 63 "java/util/ArrayList" "modCount" "I") (by decide +kernel)) (u_same (hts (.sameField "java/util/ArrayList" "java/util/AbstractList" "modCount" "I") (by decide +kernel))) rfl (by decide +kernel) rfl rfl (Nat.le_of_ble_eq_true rfl) dJx4a65c_add_9ea2d_7 kk9) (fun H locs hP hD hS => ?_)
  refine lv_aload_n hx hb dJx4a65c_add_9ea2d_10 rfl (lv_at hl 0 rfl) ?_
  refine lv_aload_n hx hb dJx4a65c_add_9ea2d_11 rfl (lv_at hl 1 rfl) ?_
  refine lv_aload_n hx hb dJx4a65c_add_9ea2d_12 rfl (lv_at hl 0 rfl) ?_
  have f_lst := g_eq (x := (a_lst, .inr (0, [.int (mc9 + nI 1), .ref a_emp, .int (nI (0))]))) (f0_lst)
  refine va_get (D := D) (ci := 0) (v := .ref a_emp) (C := RJx4a65c) (T := TJx4a65c) (N := 3) hx hb hts in_RJx4a65c hown hE.1 (gv1 hP f_lst) 0 rfl rfl 1 (by decide) (hts (.fieldLink RJx4a65c 9 "java/util/ArrayList" "elementData" "[Ljava/lang/Object;") (by decide +kernel)) (fun _ h9 => h9) rfl dJx4a65c_add_9ea2d_13 ?_
  refine lv_aload_n hx hb dJx4a65c_add_9ea2d_16 rfl (lv_at hl 0 rfl) ?_
  refine va_get (D := D) (ci := 0) (v := .int (nI (0))) (C := RJx4a65c) (T := TJx4a65c) (N := 3) hx hb hts in_RJx4a65c hown hE.1 (gv1 hP f_lst) 0 rfl rfl 2 (by decide) (hts (.fieldLink RJx4a65c 48 "java/util/ArrayList" "size" "I") (by decide +kernel)) (fun _ h9 => h9) rfl dJx4a65c_add_9ea2d_17 ?_
  have f_emp := g_ne (x := (a_lst, .inr (0, [.int (mc9 + nI 1), .ref a_emp, .int (nI (0))]))) (g_kne f0_lst f0_emp (Nat.ne_of_beq_eq_false rfl)) (f0_emp)
  have f_ob := g_ne (x := (a_lst, .inr (0, [.int (mc9 + nI 1), .ref a_emp, .int (nI (0))]))) (g_kne f0_lst f0_ob (Nat.ne_of_beq_eq_false rfl)) (f0_ob)
  refine gcy_V_v (As := [.ref a_ob, .ref a_emp, .int (nI (0))]) (rest := []) (c_add3_it0 l f_lst f_emp f_ob) ⟨hx, hb, hml, hown, hts⟩ (cwV 3 hts gJx4a65c_add_9ea2d_Jx4a65c_add_72be8 rfl rfl rfl (by decide +kernel) ⟨Nat.le_of_ble_eq_true rfl, Nat.le_of_ble_eq_true rfl⟩) hE hY hP hD hS hA _ f_lst rfl rfl rfl rfl hl.1 (Nat.le_of_ble_eq_true rfl) dJx4a65c_add_9ea2d_20 ⟨Nat.le_of_ble_eq_true rfl, Nat.le_of_ble_eq_true rfl⟩ (fun u_20 H locs hP hD hS q_20 => ?_)
  obtain ⟨a_nar, rfl⟩ : ∃ z, z = u_20 := ⟨_, rfl⟩
  have hP : gvP D vwCl (((ws.set p_lst (a_lst, .inr (0, [.int (mc9 + nI 1), .ref a_emp, .int (nI (0))]))) ++ [((a_nar, eQ y 10 (va_up (fun _ => none) 0 (some a_ob))) : Nat × va_E)]).set p_lst (a_lst, .inr (0, [.int (mc9 + nI 1), .ref a_nar, .int (nI (1))]))) H := hP
  have hD : gvD A (((ws.set p_lst (a_lst, .inr (0, [.int (mc9 + nI 1), .ref a_emp, .int (nI (0))]))) ++ [((a_nar, eQ y 10 (va_up (fun _ => none) 0 (some a_ob))) : Nat × va_E)]).set p_lst (a_lst, .inr (0, [.int (mc9 + nI 1), .ref a_nar, .int (nI (1))]))) := hD
  obtain ⟨p_nar, hp_nar⟩ : ∃ z, z = (ws).length := ⟨_, rfl⟩
  obtain ⟨B20_0, hB20_0⟩ : ∃ B, B = (ws ++ [((a_nar, eQ y 10 (va_up (fun _ => none) 0 (some a_ob))) : Nat × va_E)]) := ⟨_, rfl⟩
  have e20_0_nar : B20_0[p_nar]? = some (a_nar, eQ y 10 (va_up (fun _ => none) 0 (some a_ob))) := by rw [hB20_0, hp_nar]; exact g_apN
  have q20_0 : ((ws.set p_lst (a_lst, .inr (0, [.int (mc9 + nI 1), .ref a_emp, .int (nI (0))]))) ++ [((a_nar, eQ y 10 (va_up (fun _ => none) 0 (some a_ob))) : Nat × va_E)]) = (B20_0.set p_lst (a_lst, .inr (0, [.int (mc9 + nI 1), .ref a_emp, .int (nI (0))]))) := by rw [hB20_0]; exact (g_sa (g_lt f0_lst))
  have hP : gvP D vwCl (((ws.set p_lst (a_lst, .inr (0, [.int (mc9 + nI 1), .ref a_emp, .int (nI (0))]))) ++ [((a_nar, eQ y 10 (va_up (fun _ => none) 0 (some a_ob))) : Nat × va_E)]).set p_lst (a_lst, .inr (0, [.int (mc9 + nI 1), .ref a_nar, .int (nI (1))]))) _ := hP
  have hD : gvD A (((ws.set p_lst (a_lst, .inr (0, [.int (mc9 + nI 1), .ref a_emp, .int (nI (0))]))) ++ [((a_nar, eQ y 10 (va_up (fun _ => none) 0 (some a_ob))) : Nat × va_E)]).set p_lst (a_lst, .inr (0, [.int (mc9 + nI 1), .ref a_nar, .int (nI (1))]))) := hD
  have hP : gvP D vwCl ((B20_0.set p_lst (a_lst, .inr (0, [.int (mc9 + nI 1), .ref a_emp, .int (nI (0))]))).set p_lst (a_lst, .inr (0, [.int (mc9 + nI 1), .ref a_nar, .int (nI (1))]))) _ := g_trP (by rw [q20_0]) hP
  have hD : gvD A ((B20_0.set p_lst (a_lst, .inr (0, [.int (mc9 + nI 1), .ref a_emp, .int (nI (0))]))).set p_lst (a_lst, .inr (0, [.int (mc9 + nI 1), .ref a_nar, .int (nI (1))]))) := g_trD (by rw [q20_0]) hD
  have hP := g_trP g_ss hP
  have hD := g_trD g_ss hD
  refine lv_iconst (v := nI 1) hx hb dJx4a65c_add_9ea2d_23 (by decide) ?_
  have eB : B20_0 = (ws ++ [((a_nar, eQ y 10 (va_up (fun _ => none) 0 (some a_ob))) : Nat × va_E)]) := by rw [hB20_0]
  have hP : gvP D vwCl ((ws ++ [((a_nar, eQ y 10 (va_up (fun _ => none) 0 (some a_ob))) : Nat × va_E)]).set p_lst (a_lst, .inr (0, [.int (mc9 + nI 1), .ref a_nar, .int (nI (1))]))) H := by rw [← eB]; exact hP
  have hD : gvD A ((ws ++ [((a_nar, eQ y 10 (va_up (fun _ => none) 0 (some a_ob))) : Nat × va_E)]).set p_lst (a_lst, .inr (0, [.int (mc9 + nI 1), .ref a_nar, .int (nI (1))]))) := by rw [← eB]; exact hD
  refine g_zret (r := (gb (true))) hx hb hr hlocks a_nar dJx4a65c_add_9ea2d_24 (gb_narrow _) hS hP hD ?_
  exact rfl

theorem in_c_add3_it10_RJx4a65c : ∀ w ∈ wsJx4a65c0, w ∈ wsJx4a65c_add_72be8 := by decide +kernel
set_option maxHeartbeats 4000000 in
set_option maxRecDepth 100000 in
theorem c_add3_it10 (l : Launch) {D : va_G} {y : Nat → Nat} {ws : va_W} {x_lst_0 : Value} {x_ob_0 : Value} {x_ob_1 : Value} {x_ob_2 : Value} {mi : Nat} {p_lst p_ear p_ob a_lst a_ear a_ob a_emp : Nat} {q : Nat → Option Nat} {ad G M Sn : Nat → Nat} (f0_lst : ws[p_lst]? = some (a_lst, .inr (0, [x_lst_0, .ref a_ear, .int (nI (10))]))) (f0_ear : ws[p_ear]? = some (a_ear, eQ y 10 q)) (f0_ob : ws[p_ob]? = some (a_ob, .inr (2, [x_ob_0, x_ob_1, x_ob_2]))) (hIt : gIt ws 10 10 q ad G M Sn) : gYv l yJx4a65c_add_72be8 wsJx4a65c_add_72be8 ({ frames := 5, cells := 1, slots := 15, locals := 117 }) D y a_emp mi [.ref a_lst, .ref a_ob, .ref a_ear, .int (nI (10))] ws (fun (u : Nat) => True) (fun (u : Nat) => ((ws ++ [((u, eQ y 15 (va_up (va_cpy q (fun _ => none) 0 0 10) 10 (some a_ob))) : Nat × va_E)]).set p_lst (a_lst, .inr (0, [x_lst_0, .ref u, .int (nI (11))])))) := by
  refine g_mety_v (cc := cJx4a65c_add_72be8) (maxL := 4) (by decide) rfl (Nat.le_of_ble_eq_true rfl) ?_
  intro p e s m below meth c A hx hb hml hr hts hown hnm hlocks hE hP hD hS hA hY ls hl
  have hown : s.vm.findClass RJx4a65c = some m.cls := hown
  have hl : lv_has ls 4 [(0, .ref a_lst), (1, .ref a_ob), (2, .ref a_ear), (3, .int (nI (10)))] := hl
  have in_RJx4a65c := in_c_add3_it10_RJx4a65c
  have hItc := hIt
  refine lv_iload_n hx hb dJx4a65c_add_72be8_0 rfl (lv_at hl 3 rfl) ?_
  refine lv_aload_n hx hb dJx4a65c_add_72be8_1 rfl (lv_at hl 2 rfl) ?_
  refine g_alenQ hx hb hE hP _ f0_ear (by omega) dJx4a65c_add_72be8_2 ?_
  refine g_icmp_ne (tgt := 11) hx hb (by omega) (by omega) dJx4a65c_add_72be8_3 (by decide) (fun c_3 => absurd c_3 (by omega)) (fun c_3 => ?_)
  refine lv_aload_n hx hb dJx4a65c_add_72be8_6 rfl (lv_at hl 0 rfl) ?_
  refine gcy_V_r (As := []) (rest := []) (c_grow_10 l f0_lst f0_ear hItc) ⟨hx, hb, hml, hown, hts⟩ (cwV 0 hts gJx4a65c_add_72be8_Jx4a65c_grow_d5877 rfl rfl rfl (by decide +kernel) ⟨Nat.le_of_ble_eq_true rfl, Nat.le_of_ble_eq_true rfl⟩) hE hY hP hD hS hA _ f0_lst rfl rfl rfl rfl hl.1 (Nat.le_of_ble_eq_true rfl) dJx4a65c_add_72be8_7 ⟨Nat.le_of_ble_eq_true rfl, Nat.le_of_ble_eq_true rfl⟩ (fun r_7 u_7 H locs hP hD hS q_7 => ?_)
  have q9 := q_7.symm
  subst q9
  obtain ⟨a_cpy, rfl⟩ : ∃ z, z = u_7 := ⟨_, rfl⟩
  have hP : gvP D vwCl ((ws ++ [((a_cpy, eQ y 15 (va_cpy q (fun _ => none) 0 0 10)) : Nat × va_E)]).set p_lst (a_lst, .inr (0, [x_lst_0, .ref a_cpy, .int (nI (10))]))) H := hP
  have hD : gvD A ((ws ++ [((a_cpy, eQ y 15 (va_cpy q (fun _ => none) 0 0 10)) : Nat × va_E)]).set p_lst (a_lst, .inr (0, [x_lst_0, .ref a_cpy, .int (nI (10))]))) := hD
  obtain ⟨p_cpy, hp_cpy⟩ : ∃ z, z = (ws).length := ⟨_, rfl⟩
  obtain ⟨B7_0, hB7_0⟩ : ∃ B, B = (ws ++ [((a_cpy, eQ y 15 (va_cpy q (fun _ => none) 0 0 10)) : Nat × va_E)]) := ⟨_, rfl⟩
  have e7_0_cpy : B7_0[p_cpy]? = some (a_cpy, eQ y 15 (va_cpy q (fun _ => none) 0 0 10)) := by rw [hB7_0, hp_cpy]; exact g_apN
  have hIt7_0 := gIt.appE hB7_0 hIt
  have hItc := hIt7_0
  have q7_0 : (ws ++ [((a_cpy, eQ y 15 (va_cpy q (fun _ => none) 0 0 10)) : Nat × va_E)]) = B7_0 := hB7_0.symm
  have hP : gvP D vwCl ((ws ++ [((a_cpy, eQ y 15 (va_cpy q (fun _ => none) 0 0 10)) : Nat × va_E)]).set p_lst (a_lst, .inr (0, [x_lst_0, .ref a_cpy, .int (nI (10))]))) _ := hP
  have hD : gvD A ((ws ++ [((a_cpy, eQ y 15 (va_cpy q (fun _ => none) 0 0 10)) : Nat × va_E)]).set p_lst (a_lst, .inr (0, [x_lst_0, .ref a_cpy, .int (nI (10))]))) := hD
  have hP : gvP D vwCl (B7_0.set p_lst (a_lst, .inr (0, [x_lst_0, .ref a_cpy, .int (nI (10))]))) _ := g_trP (by rw [q7_0]) hP
  have hD : gvD A (B7_0.set p_lst (a_lst, .inr (0, [x_lst_0, .ref a_cpy, .int (nI (10))]))) := g_trD (by rw [q7_0]) hD
  have e7_0_lst := g_apE hB7_0 f0_lst
  have hItc := (gIt.set (x := (a_lst, .inr (0, [x_lst_0, .ref a_cpy, .int (nI (10))]))) hIt7_0 (e7_0_lst) (Nat.ne_of_beq_eq_false rfl))
  refine lv_astore_n (lv' := [(2, .ref a_cpy), (0, .ref a_lst), (1, .ref a_ob), (3, .int (nI (10)))]) hx hb dJx4a65c_add_72be8_10 rfl hl (by decide) rfl (fun ls hl => ?_)
  refine lv_aload_n hx hb dJx4a65c_add_72be8_11 rfl (lv_at hl 0 rfl) ?_
  refine lv_iload_n hx hb dJx4a65c_add_72be8_12 rfl (lv_at hl 3 rfl) ?_
  refine lv_aload_n hx hb dJx4a65c_add_72be8_13 rfl (lv_at hl 2 rfl) ?_
  have f_cpy := g_ne (x := (a_lst, .inr (0, [x_lst_0, .ref a_cpy, .int (nI (10))]))) (g_kne e7_0_lst e7_0_cpy (Nat.ne_of_beq_eq_false rfl)) (e7_0_cpy)
  have e7_0_ob := g_apE hB7_0 f0_ob
  have f_ob := g_ne (x := (a_lst, .inr (0, [x_lst_0, .ref a_cpy, .int (nI (10))]))) (g_kne e7_0_lst e7_0_ob (Nat.ne_of_beq_eq_false rfl)) (e7_0_ob)
  refine g_qast hx hb hE hP hD hS _ _ 2 f_cpy f_ob rfl (hE.2 (.castable RX1 "java/lang/Object") (by decide +kernel)) (by omega) (by omega) dJx4a65c_add_72be8_14 (fun H locs hP hD hS => ?_)
  have hItc := (gIt.set (x := (a_cpy, eQ y 15 (va_up (va_cpy q (fun _ => none) 0 0 10) (10) (some a_ob)))) (gIt.set (x := (a_lst, .inr (0, [x_lst_0, .ref a_cpy, .int (nI (10))]))) hIt7_0 (e7_0_lst) (Nat.ne_of_beq_eq_false rfl)) (g_ne (x := (a_lst, .inr (0, [x_lst_0, .ref a_cpy, .int (nI (10))]))) (g_kne e7_0_lst e7_0_cpy (Nat.ne_of_beq_eq_false rfl)) (e7_0_cpy)) (Nat.ne_of_beq_eq_false rfl))
  refine lv_aload_n hx hb dJx4a65c_add_72be8_15 rfl (lv_at hl 1 rfl) ?_
  refine lv_iload_n hx hb dJx4a65c_add_72be8_16 rfl (lv_at hl 3 rfl) ?_
  refine lv_iconst (v := nI 1) hx hb dJx4a65c_add_72be8_17 (by decide) ?_
  refine g_iadd hx hb dJx4a65c_add_72be8_18 (nI_add _ _) ?_
  have f_lst := g_ne (x := (a_cpy, eQ y 15 (va_up (va_cpy q (fun _ => none) 0 0 10) (10) (some a_ob)))) (g_kne e7_0_cpy e7_0_lst (Nat.ne_of_beq_eq_false rfl)) (g_eq (x := (a_lst, .inr (0, [x_lst_0, .ref a_cpy, .int (nI (10))]))) (e7_0_lst))
  refine gv_set f_lst rfl (by rfl) (fun k9 h9 kk9 => va_put (D := D) (ci := 0) (v := .int (nI (10 + 1))) (ty := .int) (C := RJx4a65c) (T := TJx4a65c) (N := 3) hx hb hts in_RJx4a65c tyJx4a65c tyJx4a65c_ok nmJx4a65c hown hE.1 hP hD hS k9 h9 rfl 2 (by decide) (hts (.fieldLink RJx4a65c 48 "java/util/ArrayList" "size" "I") (by decide +kernel)) (fun _ h9 => h9) rfl (by decide +kernel) rfl rfl (Nat.le_of_ble_eq_true rfl) dJx4a65c_add_72be8_19 kk9) (fun H locs hP hD hS => ?_)
  have hP := g_trP (g_sc (g_kne e7_0_cpy e7_0_lst (Nat.ne_of_beq_eq_false rfl)) g_ss) hP
  have hD := g_trD (g_sc (g_kne e7_0_cpy e7_0_lst (Nat.ne_of_beq_eq_false rfl)) g_ss) hD
  have hItc := (gIt.set (x := (a_cpy, eQ y 15 (va_up (va_cpy q (fun _ => none) 0 0 10) (10) (some a_ob)))) (gIt.set (x := (a_lst, .inr (0, [x_lst_0, .ref a_cpy, .int (nI (10 + 1))]))) hIt7_0 (e7_0_lst) (Nat.ne_of_beq_eq_false rfl)) (g_ne (x := (a_lst, .inr (0, [x_lst_0, .ref a_cpy, .int (nI (10 + 1))]))) (g_kne e7_0_lst e7_0_cpy (Nat.ne_of_beq_eq_false rfl)) (e7_0_cpy)) (Nat.ne_of_beq_eq_false rfl))
  subst hp_cpy
  subst hB7_0
  have hP : gvP D vwCl ((ws ++ [((a_cpy, eQ y 15 (va_up (va_cpy q (fun _ => none) 0 0 10) 10 (some a_ob))) : Nat × va_E)]).set p_lst (a_lst, .inr (0, [x_lst_0, .ref a_cpy, .int (nI (11))]))) _ := g_trP (g_sc (Ne.symm (g_apne f0_lst)) g_apset) hP
  have hD : gvD A ((ws ++ [((a_cpy, eQ y 15 (va_up (va_cpy q (fun _ => none) 0 0 10) 10 (some a_ob))) : Nat × va_E)]).set p_lst (a_lst, .inr (0, [x_lst_0, .ref a_cpy, .int (nI (11))]))) := g_trD (g_sc (Ne.symm (g_apne f0_lst)) g_apset) hD
  refine g_vret hx hb hr hlocks a_cpy dJx4a65c_add_72be8_22 hS hP hD ?_
  exact trivial

theorem in_c_add_it10_RJx4a65c : ∀ w ∈ wsJx4a65c0, w ∈ wsJx4a65c_add_9ea2d := by decide +kernel
set_option maxHeartbeats 4000000 in
set_option maxRecDepth 100000 in
theorem c_add_it10 (l : Launch) {D : va_G} {y : Nat → Nat} {ws : va_W} {x_ob_0 : Value} {x_ob_1 : Value} {x_ob_2 : Value} {mi : Nat} {p_lst p_ear p_ob a_lst a_ear a_ob a_emp : Nat} {q : Nat → Option Nat} {mc9 : Int32} {ad G M Sn : Nat → Nat} (f0_lst : ws[p_lst]? = some (a_lst, .inr (0, [.int (mc9), .ref a_ear, .int (nI (10))]))) (f0_ear : ws[p_ear]? = some (a_ear, eQ y 10 q)) (f0_ob : ws[p_ob]? = some (a_ob, .inr (2, [x_ob_0, x_ob_1, x_ob_2]))) (hIt : gIt ws 10 10 q ad G M Sn) : gYi l yJx4a65c_add_9ea2d wsJx4a65c_add_9ea2d ({ frames := 6, cells := 1, slots := 15, locals := 140 }) D y a_emp mi [.ref a_lst, .ref a_ob] ws (fun r (u : Nat) => r = gb true) (fun (u : Nat) => ((ws ++ [((u, eQ y 15 (va_up (va_cpy q (fun _ => none) 0 0 10) 10 (some a_ob))) : Nat × va_E)]).set p_lst (a_lst, .inr (0, [.int (mc9 + nI 1), .ref u, .int (nI (11))])))) := by
  refine g_mety_z (cc := cJx4a65c_add_9ea2d) (maxL := 2) (by decide) rfl (Nat.le_of_ble_eq_true rfl) ?_
  intro p e s m below meth c A hx hb hml hr hts hown hnm hlocks hE hP hD hS hA hY ls hl
  have hown : s.vm.findClass RJx4a65c = some m.cls := hown
  have hl : lv_has ls 2 [(0, .ref a_lst), (1, .ref a_ob)] := hl
  have in_RJx4a65c := in_c_add_it10_RJx4a65c
  have hItc := hIt
  refine lv_aload_n hx hb dJx4a65c_add_9ea2d_0 rfl (lv_at hl 0 rfl) ?_
  refine lv_dup hx hb dJx4a65c_add_9ea2d_1 rfl ?_
  refine va_get (D := D) (ci := 0) (v := .int (mc9)) (C := RJx4a65c) (T := TJx4a65c) (N := 3) hx hb hts in_RJx4a65c hown hE.1 (gv1 hP f0_lst) 0 rfl rfl 0 (by decide) (hts (.fieldLink RJx4a65c 63 "java/util/ArrayList" "modCount" "I") (by decide +kernel)) (u_same (hts (.sameField "java/util/ArrayList" "java/util/AbstractList" "modCount" "I") (by decide +kernel))) rfl dJx4a65c_add_9ea2d_2 ?_
  refine lv_iconst (v := nI 1) hx hb dJx4a65c_add_9ea2d_5 (by decide) ?_
  refine g_iadd hx hb dJx4a65c_add_9ea2d_6 rfl ?_
  refine gv_set f0_lst rfl (by rfl) (fun k9 h9 kk9 => va_put (D := D) (ci := 0) (v := .int (mc9 + nI 1)) (ty := .int) (C := RJx4a65c) (T := TJx4a65c) (N := 3) hx hb hts in_RJx4a65c tyJx4a65c tyJx4a65c_ok nmJx4a65c hown hE.1 hP hD hS k9 h9 rfl 0 (by decide) (hts (.fieldLink RJx4a65c 63 "java/util/ArrayList" "modCount" "I") (by decide +kernel)) (u_same (hts (.sameField "java/util/ArrayList" "java/util/AbstractList" "modCount" "I") (by decide +kernel))) rfl (by decide +kernel) rfl rfl (Nat.le_of_ble_eq_true rfl) dJx4a65c_add_9ea2d_7 kk9) (fun H locs hP hD hS => ?_)
  have hItc := (gIt.set (x := (a_lst, .inr (0, [.int (mc9 + nI 1), .ref a_ear, .int (nI (10))]))) hIt (f0_lst) (Nat.ne_of_beq_eq_false rfl))
  refine lv_aload_n hx hb dJx4a65c_add_9ea2d_10 rfl (lv_at hl 0 rfl) ?_
  refine lv_aload_n hx hb dJx4a65c_add_9ea2d_11 rfl (lv_at hl 1 rfl) ?_
  refine lv_aload_n hx hb dJx4a65c_add_9ea2d_12 rfl (lv_at hl 0 rfl) ?_
  have f_lst := g_eq (x := (a_lst, .inr (0, [.int (mc9 + nI 1), .ref a_ear, .int (nI (10))]))) (f0_lst)
  refine va_get (D := D) (ci := 0) (v := .ref a_ear) (C := RJx4a65c) (T := TJx4a65c) (N := 3) hx hb hts in_RJx4a65c hown hE.1 (gv1 hP f_lst) 0 rfl rfl 1 (by decide) (hts (.fieldLink RJx4a65c 9 "java/util/ArrayList" "elementData" "[Ljava/lang/Object;") (by decide +kernel)) (fun _ h9 => h9) rfl dJx4a65c_add_9ea2d_13 ?_
  refine lv_aload_n hx hb dJx4a65c_add_9ea2d_16 rfl (lv_at hl 0 rfl) ?_
  refine va_get (D := D) (ci := 0) (v := .int (nI (10))) (C := RJx4a65c) (T := TJx4a65c) (N := 3) hx hb hts in_RJx4a65c hown hE.1 (gv1 hP f_lst) 0 rfl rfl 2 (by decide) (hts (.fieldLink RJx4a65c 48 "java/util/ArrayList" "size" "I") (by decide +kernel)) (fun _ h9 => h9) rfl dJx4a65c_add_9ea2d_17 ?_
  have f_ear := g_ne (x := (a_lst, .inr (0, [.int (mc9 + nI 1), .ref a_ear, .int (nI (10))]))) (g_kne f0_lst f0_ear (Nat.ne_of_beq_eq_false rfl)) (f0_ear)
  have f_ob := g_ne (x := (a_lst, .inr (0, [.int (mc9 + nI 1), .ref a_ear, .int (nI (10))]))) (g_kne f0_lst f0_ob (Nat.ne_of_beq_eq_false rfl)) (f0_ob)
  refine gcy_V_v (As := [.ref a_ob, .ref a_ear, .int (nI (10))]) (rest := []) (c_add3_it10 l f_lst f_ear f_ob hItc) ⟨hx, hb, hml, hown, hts⟩ (cwV 3 hts gJx4a65c_add_9ea2d_Jx4a65c_add_72be8 rfl rfl rfl (by decide +kernel) ⟨Nat.le_of_ble_eq_true rfl, Nat.le_of_ble_eq_true rfl⟩) hE hY hP hD hS hA _ f_lst rfl rfl rfl rfl hl.1 (Nat.le_of_ble_eq_true rfl) dJx4a65c_add_9ea2d_20 ⟨Nat.le_of_ble_eq_true rfl, Nat.le_of_ble_eq_true rfl⟩ (fun u_20 H locs hP hD hS q_20 => ?_)
  obtain ⟨a_cpy, rfl⟩ : ∃ z, z = u_20 := ⟨_, rfl⟩
  have hP : gvP D vwCl (((ws.set p_lst (a_lst, .inr (0, [.int (mc9 + nI 1), .ref a_ear, .int (nI (10))]))) ++ [((a_cpy, eQ y 15 (va_up (va_cpy q (fun _ => none) 0 0 10) 10 (some a_ob))) : Nat × va_E)]).set p_lst (a_lst, .inr (0, [.int (mc9 + nI 1), .ref a_cpy, .int (nI (11))]))) H := hP
  have hD : gvD A (((ws.set p_lst (a_lst, .inr (0, [.int (mc9 + nI 1), .ref a_ear, .int (nI (10))]))) ++ [((a_cpy, eQ y 15 (va_up (va_cpy q (fun _ => none) 0 0 10) 10 (some a_ob))) : Nat × va_E)]).set p_lst (a_lst, .inr (0, [.int (mc9 + nI 1), .ref a_cpy, .int (nI (11))]))) := hD
  obtain ⟨p_cpy, hp_cpy⟩ : ∃ z, z = (ws).length := ⟨_, rfl⟩
  obtain ⟨B20_0, hB20_0⟩ : ∃ B, B = (ws ++ [((a_cpy, eQ y 15 (va_up (va_cpy q (fun _ => none) 0 0 10) 10 (some a_ob))) : Nat × va_E)]) := ⟨_, rfl⟩
  have e20_0_cpy : B20_0[p_cpy]? = some (a_cpy, eQ y 15 (va_up (va_cpy q (fun _ => none) 0 0 10) 10 (some a_ob))) := by rw [hB20_0, hp_cpy]; exact g_apN
  have hIt20_0 := gIt.appE hB20_0 hIt
  have hItc := hIt20_0
  have q20_0 : ((ws.set p_lst (a_lst, .inr (0, [.int (mc9 + nI 1), .ref a_ear, .int (nI (10))]))) ++ [((a_cpy, eQ y 15 (va_up (va_cpy q (fun _ => none) 0 0 10) 10 (some a_ob))) : Nat × va_E)]) = (B20_0.set p_lst (a_lst, .inr (0, [.int (mc9 + nI 1), .ref a_ear, .int (nI (10))]))) := by rw [hB20_0]; exact (g_sa (g_lt f0_lst))
  have hP : gvP D vwCl (((ws.set p_lst (a_lst, .inr (0, [.int (mc9 + nI 1), .ref a_ear, .int (nI (10))]))) ++ [((a_cpy, eQ y 15 (va_up (va_cpy q (fun _ => none) 0 0 10) 10 (some a_ob))) : Nat × va_E)]).set p_lst (a_lst, .inr (0, [.int (mc9 + nI 1), .ref a_cpy, .int (nI (11))]))) _ := hP
  have hD : gvD A (((ws.set p_lst (a_lst, .inr (0, [.int (mc9 + nI 1), .ref a_ear, .int (nI (10))]))) ++ [((a_cpy, eQ y 15 (va_up (va_cpy q (fun _ => none) 0 0 10) 10 (some a_ob))) : Nat × va_E)]).set p_lst (a_lst, .inr (0, [.int (mc9 + nI 1), .ref a_cpy, .int (nI (11))]))) := hD
  have hP : gvP D vwCl ((B20_0.set p_lst (a_lst, .inr (0, [.int (mc9 + nI 1), .ref a_ear, .int (nI (10))]))).set p_lst (a_lst, .inr (0, [.int (mc9 + nI 1), .ref a_cpy, .int (nI (11))]))) _ := g_trP (by rw [q20_0]) hP
  have hD : gvD A ((B20_0.set p_lst (a_lst, .inr (0, [.int (mc9 + nI 1), .ref a_ear, .int (nI (10))]))).set p_lst (a_lst, .inr (0, [.int (mc9 + nI 1), .ref a_cpy, .int (nI (11))]))) := g_trD (by rw [q20_0]) hD
  have hP := g_trP g_ss hP
  have hD := g_trD g_ss hD
  have e20_0_lst := g_apE hB20_0 f0_lst
  have hItc := (gIt.set (x := (a_lst, .inr (0, [.int (mc9 + nI 1), .ref a_cpy, .int (nI (11))]))) hIt20_0 (e20_0_lst) (Nat.ne_of_beq_eq_false rfl))
  refine lv_iconst (v := nI 1) hx hb dJx4a65c_add_9ea2d_23 (by decide) ?_
  have eB : B20_0 = (ws ++ [((a_cpy, eQ y 15 (va_up (va_cpy q (fun _ => none) 0 0 10) 10 (some a_ob))) : Nat × va_E)]) := by rw [hB20_0]
  have hP : gvP D vwCl ((ws ++ [((a_cpy, eQ y 15 (va_up (va_cpy q (fun _ => none) 0 0 10) 10 (some a_ob))) : Nat × va_E)]).set p_lst (a_lst, .inr (0, [.int (mc9 + nI 1), .ref a_cpy, .int (nI (11))]))) H := by rw [← eB]; exact hP
  have hD : gvD A ((ws ++ [((a_cpy, eQ y 15 (va_up (va_cpy q (fun _ => none) 0 0 10) 10 (some a_ob))) : Nat × va_E)]).set p_lst (a_lst, .inr (0, [.int (mc9 + nI 1), .ref a_cpy, .int (nI (11))]))) := by rw [← eB]; exact hD
  refine g_zret (r := (gb (true))) hx hb hr hlocks a_cpy dJx4a65c_add_9ea2d_24 (gb_narrow _) hS hP hD ?_
  exact rfl

theorem in_c_add3_con_RJx4a65c : ∀ w ∈ wsJx4a65c0, w ∈ wsJx4a65c_add_72be8 := by decide +kernel
set_option maxHeartbeats 4000000 in
set_option maxRecDepth 100000 in
theorem c_add3_con (l : Launch) {D : va_G} {y : Nat → Nat} {ws : va_W} {x_lst_0 : Value} {x_ob_0 : Value} {x_ob_1 : Value} {x_ob_2 : Value} {x_ob_3 : Value} {x_ob_4 : Value} {x_ob_5 : Value} {x_ob_6 : Value} {x_ob_7 : Value} {x_ob_8 : Value} {mi : Nat} {p_lst p_ear p_ob a_lst a_ear a_ob a_emp : Nat} {q : Nat → Option Nat} {n cap : Nat} (f0_lst : ws[p_lst]? = some (a_lst, .inr (0, [x_lst_0, .ref a_ear, .int (nI (n))]))) (f0_ear : ws[p_ear]? = some (a_ear, eQ y cap q)) (f0_ob : ws[p_ob]? = some (a_ob, .inr (1, [x_ob_0, x_ob_1, x_ob_2, x_ob_3, x_ob_4, x_ob_5, x_ob_6, x_ob_7, x_ob_8]))) (hn : n < cap) (hcap : cap < 2 ^ 31) : gYv l yJx4a65c_add_72be8 wsJx4a65c_add_72be8 ({ frames := 0, cells := 0, slots := 0, locals := 0 }) D y a_emp mi [.ref a_lst, .ref a_ob, .ref a_ear, .int (nI (n))] ws (fun (_ : Unit) => True) (fun (_ : Unit) => ((ws.set p_ear (a_ear, eQ y cap (va_up q (n) (some a_ob)))).set p_lst (a_lst, .inr (0, [x_lst_0, .ref a_ear, .int (nI (n + 1))])))) := by
  refine g_mety_v (cc := cJx4a65c_add_72be8) (maxL := 4) (by decide) rfl (Nat.le_of_ble_eq_true rfl) ?_
  intro p e s m below meth c A hx hb hml hr hts hown hnm hlocks hE hP hD hS hA hY ls hl
  have hown : s.vm.findClass RJx4a65c = some m.cls := hown
  have hl : lv_has ls 4 [(0, .ref a_lst), (1, .ref a_ob), (2, .ref a_ear), (3, .int (nI (n)))] := hl
  have in_RJx4a65c := in_c_add3_con_RJx4a65c
  refine lv_iload_n hx hb dJx4a65c_add_72be8_0 rfl (lv_at hl 3 rfl) ?_
  refine lv_aload_n hx hb dJx4a65c_add_72be8_1 rfl (lv_at hl 2 rfl) ?_
  refine g_alenQ hx hb hE hP _ f0_ear (by omega) dJx4a65c_add_72be8_2 ?_
  refine g_icmp_ne (tgt := 11) hx hb (by omega) (by omega) dJx4a65c_add_72be8_3 (by decide) (fun c_3 => ?_) (fun c_3 => absurd c_3 (by omega))
  refine lv_aload_n hx hb dJx4a65c_add_72be8_11 rfl (lv_at hl 2 rfl) ?_
  refine lv_iload_n hx hb dJx4a65c_add_72be8_12 rfl (lv_at hl 3 rfl) ?_
  refine lv_aload_n hx hb dJx4a65c_add_72be8_13 rfl (lv_at hl 1 rfl) ?_
  refine g_qast hx hb hE hP hD hS _ _ 1 f0_ear f0_ob rfl (hE.2 (.castable RX0 "java/lang/Object") (by decide +kernel)) (by omega) (by omega) dJx4a65c_add_72be8_14 (fun H locs hP hD hS => ?_)
  refine lv_aload_n hx hb dJx4a65c_add_72be8_15 rfl (lv_at hl 0 rfl) ?_
  refine lv_iload_n hx hb dJx4a65c_add_72be8_16 rfl (lv_at hl 3 rfl) ?_
  refine lv_iconst (v := nI 1) hx hb dJx4a65c_add_72be8_17 (by decide) ?_
  refine g_iadd hx hb dJx4a65c_add_72be8_18 (nI_add _ _) ?_
  have f_lst := g_ne (x := (a_ear, eQ y cap (va_up q (n) (some a_ob)))) (g_kne f0_ear f0_lst (Nat.ne_of_beq_eq_false rfl)) (f0_lst)
  refine gv_set f_lst rfl (by rfl) (fun k9 h9 kk9 => va_put (D := D) (ci := 0) (v := .int (nI (n + 1))) (ty := .int) (C := RJx4a65c) (T := TJx4a65c) (N := 3) hx hb hts in_RJx4a65c tyJx4a65c tyJx4a65c_ok nmJx4a65c hown hE.1 hP hD hS k9 h9 rfl 2 (by decide) (hts (.fieldLink RJx4a65c 48 "java/util/ArrayList" "size" "I") (by decide +kernel)) (fun _ h9 => h9) rfl (by decide +kernel) rfl rfl (Nat.le_of_ble_eq_true rfl) dJx4a65c_add_72be8_19 kk9) (fun H locs hP hD hS => ?_)
  refine g_vret hx hb hr hlocks () dJx4a65c_add_72be8_22 hS hP hD ?_
  exact trivial

theorem in_c_add3_con0_RJx4a65c : ∀ w ∈ wsJx4a65c0, w ∈ wsJx4a65c_add_72be8 := by decide +kernel
set_option maxHeartbeats 4000000 in
set_option maxRecDepth 100000 in
theorem c_add3_con0 (l : Launch) {D : va_G} {y : Nat → Nat} {ws : va_W} {x_lst_0 : Value} {x_ob_0 : Value} {x_ob_1 : Value} {x_ob_2 : Value} {x_ob_3 : Value} {x_ob_4 : Value} {x_ob_5 : Value} {x_ob_6 : Value} {x_ob_7 : Value} {x_ob_8 : Value} {mi : Nat} {p_lst p_emp p_ob a_lst a_emp a_ob : Nat} {qe : Nat → Option Nat} (f0_lst : ws[p_lst]? = some (a_lst, .inr (0, [x_lst_0, .ref a_emp, .int (nI (0))]))) (f0_emp : ws[p_emp]? = some (a_emp, eQ y 0 qe)) (f0_ob : ws[p_ob]? = some (a_ob, .inr (1, [x_ob_0, x_ob_1, x_ob_2, x_ob_3, x_ob_4, x_ob_5, x_ob_6, x_ob_7, x_ob_8]))) : gYv l yJx4a65c_add_72be8 wsJx4a65c_add_72be8 ({ frames := 3, cells := 1, slots := 10, locals := 64 }) D y a_emp mi [.ref a_lst, .ref a_ob, .ref a_emp, .int (nI (0))] ws (fun (u : Nat) => True) (fun (u : Nat) => ((ws ++ [((u, eQ y 10 (va_up (fun _ => none) 0 (some a_ob))) : Nat × va_E)]).set p_lst (a_lst, .inr (0, [x_lst_0, .ref u, .int (nI (1))])))) := by
  refine g_mety_v (cc := cJx4a65c_add_72be8) (maxL := 4) (by decide) rfl (Nat.le_of_ble_eq_true rfl) ?_
  intro p e s m below meth c A hx hb hml hr hts hown hnm hlocks hE hP hD hS hA hY ls hl
  have hown : s.vm.findClass RJx4a65c = some m.cls := hown
  have hl : lv_has ls 4 [(0, .ref a_lst), (1, .ref a_ob), (2, .ref a_emp), (3, .int (nI (0)))] := hl
  have in_RJx4a65c := in_c_add3_con0_RJx4a65c
  refine lv_iload_n hx hb dJx4a65c_add_72be8_0 rfl (lv_at hl 3 rfl) ?_
  refine lv_aload_n hx hb dJx4a65c_add_72be8_1 rfl (lv_at hl 2 rfl) ?_
  refine va_tlen hx hb hY.2.2.2.2 hS (v := nI 0) rfl dJx4a65c_add_72be8_2 ?_
  refine g_icmp_ne (tgt := 11) hx hb (by omega) (by omega) dJx4a65c_add_72be8_3 (by decide) (fun c_3 => absurd c_3 (by omega)) (fun c_3 => ?_)
  refine lv_aload_n hx hb dJx4a65c_add_72be8_6 rfl (lv_at hl 0 rfl) ?_
  refine gcy_V_r (As := []) (rest := []) (c_grow_0 l f0_lst f0_emp) ⟨hx, hb, hml, hown, hts⟩ (cwV 0 hts gJx4a65c_add_72be8_Jx4a65c_grow_d5877 rfl rfl rfl (by decide +kernel) ⟨Nat.le_of_ble_eq_true rfl, Nat.le_of_ble_eq_true rfl⟩) hE hY hP hD hS hA _ f0_lst rfl rfl rfl rfl hl.1 (Nat.le_of_ble_eq_true rfl) dJx4a65c_add_72be8_7 ⟨Nat.le_of_ble_eq_true rfl, Nat.le_of_ble_eq_true rfl⟩ (fun r_7 u_7 H locs hP hD hS q_7 => ?_)
  have q9 := q_7.symm
  subst q9
  obtain ⟨a_nar, rfl⟩ : ∃ z, z = u_7 := ⟨_, rfl⟩
  have hP : gvP D vwCl ((ws ++ [((a_nar, eQ y 10 ((fun _ => none))) : Nat × va_E)]).set p_lst (a_lst, .inr (0, [x_lst_0, .ref a_nar, .int (nI (0))]))) H := hP
  have hD : gvD A ((ws ++ [((a_nar, eQ y 10 ((fun _ => none))) : Nat × va_E)]).set p_lst (a_lst, .inr (0, [x_lst_0, .ref a_nar, .int (nI (0))]))) := hD
  obtain ⟨p_nar, hp_nar⟩ : ∃ z, z = (ws).length := ⟨_, rfl⟩
  obtain ⟨B7_0, hB7_0⟩ : ∃ B, B = (ws ++ [((a_nar, eQ y 10 ((fun _ => none))) : Nat × va_E)]) := ⟨_, rfl⟩
  have e7_0_nar : B7_0[p_nar]? = some (a_nar, eQ y 10 ((fun _ => none))) := by rw [hB7_0, hp_nar]; exact g_apN
  have q7_0 : (ws ++ [((a_nar, eQ y 10 ((fun _ => none))) : Nat × va_E)]) = B7_0 := hB7_0.symm
  have hP : gvP D vwCl ((ws ++ [((a_nar, eQ y 10 ((fun _ => none))) : Nat × va_E)]).set p_lst (a_lst, .inr (0, [x_lst_0, .ref a_nar, .int (nI (0))]))) _ := hP
  have hD : gvD A ((ws ++ [((a_nar, eQ y 10 ((fun _ => none))) : Nat × va_E)]).set p_lst (a_lst, .inr (0, [x_lst_0, .ref a_nar, .int (nI (0))]))) := hD
  have hP : gvP D vwCl (B7_0.set p_lst (a_lst, .inr (0, [x_lst_0, .ref a_nar, .int (nI (0))]))) _ := g_trP (by rw [q7_0]) hP
  have hD : gvD A (B7_0.set p_lst (a_lst, .inr (0, [x_lst_0, .ref a_nar, .int (nI (0))]))) := g_trD (by rw [q7_0]) hD
  refine lv_astore_n (lv' := [(2, .ref a_nar), (0, .ref a_lst), (1, .ref a_ob), (3, .int (nI (0)))]) hx hb dJx4a65c_add_72be8_10 rfl hl (by decide) rfl (fun ls hl => ?_)
  refine lv_aload_n hx hb dJx4a65c_add_72be8_11 rfl (lv_at hl 0 rfl) ?_
  refine lv_iload_n hx hb dJx4a65c_add_72be8_12 rfl (lv_at hl 3 rfl) ?_
  refine lv_aload_n hx hb dJx4a65c_add_72be8_13 rfl (lv_at hl 2 rfl) ?_
  have e7_0_lst := g_apE hB7_0 f0_lst
  have f_nar := g_ne (x := (a_lst, .inr (0, [x_lst_0, .ref a_nar, .int (nI (0))]))) (g_kne e7_0_lst e7_0_nar (Nat.ne_of_beq_eq_false rfl)) (e7_0_nar)
  have e7_0_ob := g_apE hB7_0 f0_ob
  have f_ob := g_ne (x := (a_lst, .inr (0, [x_lst_0, .ref a_nar, .int (nI (0))]))) (g_kne e7_0_lst e7_0_ob (Nat.ne_of_beq_eq_false rfl)) (e7_0_ob)
  refine g_qast hx hb hE hP hD hS _ _ 1 f_nar f_ob rfl (hE.2 (.castable RX0 "java/lang/Object") (by decide +kernel)) (by omega) (by omega) dJx4a65c_add_72be8_14 (fun H locs hP hD hS => ?_)
  refine lv_aload_n hx hb dJx4a65c_add_72be8_15 rfl (lv_at hl 1 rfl) ?_
  refine lv_iload_n hx hb dJx4a65c_add_72be8_16 rfl (lv_at hl 3 rfl) ?_
  refine lv_iconst (v := nI 1) hx hb dJx4a65c_add_72be8_17 (by decide) ?_
  refine g_iadd hx hb dJx4a65c_add_72be8_18 (nI_add _ _) ?_
  have f_lst := g_ne (x := (a_nar, eQ y 10 (va_up ((fun _ => none)) (0) (some a_ob)))) (g_kne e7_0_nar e7_0_lst (Nat.ne_of_beq_eq_false rfl)) (g_eq (x := (a_lst, .inr (0, [x_lst_0, .ref a_nar, .int (nI (0))]))) (e7_0_lst))
  refine gv_set f_lst rfl (by rfl) (fun k9 h9 kk9 => va_put (D := D) (ci := 0) (v := .int (nI (0 + 1))) (ty := .int) (C := RJx4a65c) (T := TJx4a65c) (N := 3) hx hb hts in_RJx4a65c tyJx4a65c tyJx4a65c_ok nmJx4a65c hown hE.1 hP hD hS k9 h9 rfl 2 (by decide) (hts (.fieldLink RJx4a65c 48 "java/util/ArrayList" "size" "I") (by decide +kernel)) (fun _ h9 => h9) rfl (by decide +kernel) rfl rfl (Nat.le_of_ble_eq_true rfl) dJx4a65c_add_72be8_19 kk9) (fun H locs hP hD hS => ?_)
  have hP := g_trP (g_sc (g_kne e7_0_nar e7_0_lst (Nat.ne_of_beq_eq_false rfl)) g_ss) hP
  have hD := g_trD (g_sc (g_kne e7_0_nar e7_0_lst (Nat.ne_of_beq_eq_false rfl)) g_ss) hD
  subst hp_nar
  subst hB7_0
  have hP : gvP D vwCl ((ws ++ [((a_nar, eQ y 10 (va_up (fun _ => none) 0 (some a_ob))) : Nat × va_E)]).set p_lst (a_lst, .inr (0, [x_lst_0, .ref a_nar, .int (nI (1))]))) _ := g_trP (g_sc (Ne.symm (g_apne f0_lst)) g_apset) hP
  have hD : gvD A ((ws ++ [((a_nar, eQ y 10 (va_up (fun _ => none) 0 (some a_ob))) : Nat × va_E)]).set p_lst (a_lst, .inr (0, [x_lst_0, .ref a_nar, .int (nI (1))]))) := g_trD (g_sc (Ne.symm (g_apne f0_lst)) g_apset) hD
  refine g_vret hx hb hr hlocks a_nar dJx4a65c_add_72be8_22 hS hP hD ?_
  exact trivial

theorem in_c_add_con_RJx4a65c : ∀ w ∈ wsJx4a65c0, w ∈ wsJx4a65c_add_9ea2d := by decide +kernel
set_option maxHeartbeats 4000000 in
set_option maxRecDepth 100000 in
theorem c_add_con (l : Launch) {D : va_G} {y : Nat → Nat} {ws : va_W} {x_ob_0 : Value} {x_ob_1 : Value} {x_ob_2 : Value} {x_ob_3 : Value} {x_ob_4 : Value} {x_ob_5 : Value} {x_ob_6 : Value} {x_ob_7 : Value} {x_ob_8 : Value} {mi : Nat} {p_lst p_ear p_ob a_lst a_ear a_ob a_emp : Nat} {q : Nat → Option Nat} {n cap : Nat} {mc9 : Int32} (f0_lst : ws[p_lst]? = some (a_lst, .inr (0, [.int (mc9), .ref a_ear, .int (nI (n))]))) (f0_ear : ws[p_ear]? = some (a_ear, eQ y cap q)) (f0_ob : ws[p_ob]? = some (a_ob, .inr (1, [x_ob_0, x_ob_1, x_ob_2, x_ob_3, x_ob_4, x_ob_5, x_ob_6, x_ob_7, x_ob_8]))) (hn : n < cap) (hcap : cap < 2 ^ 31) : gYi l yJx4a65c_add_9ea2d wsJx4a65c_add_9ea2d ({ frames := 1, cells := 0, slots := 0, locals := 23 }) D y a_emp mi [.ref a_lst, .ref a_ob] ws (fun r (_ : Unit) => r = gb true) (fun (_ : Unit) => ((ws.set p_lst (a_lst, .inr (0, [.int (mc9 + nI 1), .ref a_ear, .int (nI (n + 1))]))).set p_ear (a_ear, eQ y cap (va_up q (n) (some a_ob))))) := by
  refine g_mety_z (cc := cJx4a65c_add_9ea2d) (maxL := 2) (by decide) rfl (Nat.le_of_ble_eq_true rfl) ?_
  intro p e s m below meth c A hx hb hml hr hts hown hnm hlocks hE hP hD hS hA hY ls hl
  have hown : s.vm.findClass RJx4a65c = some m.cls := hown
  have hl : lv_has ls 2 [(0, .ref a_lst), (1, .ref a_ob)] := hl
  have in_RJx4a65c := in_c_add_con_RJx4a65c
  refine lv_aload_n hx hb dJx4a65c_add_9ea2d_0 rfl (lv_at hl 0 rfl) ?_
  refine lv_dup hx hb dJx4a65c_add_9ea2d_1 rfl ?_
  refine va_get (D := D) (ci := 0) (v := .int (mc9)) (C := RJx4a65c) (T := TJx4a65c) (N := 3) hx hb hts in_RJx4a65c hown hE.1 (gv1 hP f0_lst) 0 rfl rfl 0 (by decide) (hts (.fieldLink RJx4a65c 63 "java/util/ArrayList" "modCount" "I") (by decide +kernel)) (u_same (hts (.sameField "java/util/ArrayList" "java/util/AbstractList" "modCount" "I") (by decide +kernel))) rfl dJx4a65c_add_9ea2d_2 ?_
  refine lv_iconst (v := nI 1) hx hb dJx4a65c_add_9ea2d_5 (by decide) ?_
  refine g_iadd hx hb dJx4a65c_add_9ea2d_6 rfl ?_
  refine gv_set f0_lst rfl (by rfl) (fun k9 h9 kk9 => va_put (D := D) (ci := 0) (v := .int (mc9 + nI 1)) (ty := .int) (C := RJx4a65c) (T := TJx4a65c) (N := 3) hx hb hts in_RJx4a65c tyJx4a65c tyJx4a65c_ok nmJx4a65c hown hE.1 hP hD hS k9 h9 rfl 0 (by decide) (hts (.fieldLink RJx4a65c 63 "java/util/ArrayList" "modCount" "I") (by decide +kernel)) (u_same (hts (.sameField "java/util/ArrayList" "java/util/AbstractList" "modCount" "I") (by decide +kernel))) rfl (by decide +kernel) rfl rfl (Nat.le_of_ble_eq_true rfl) dJx4a65c_add_9ea2d_7 kk9) (fun H locs hP hD hS => ?_)
  refine lv_aload_n hx hb dJx4a65c_add_9ea2d_10 rfl (lv_at hl 0 rfl) ?_
  refine lv_aload_n hx hb dJx4a65c_add_9ea2d_11 rfl (lv_at hl 1 rfl) ?_
  refine lv_aload_n hx hb dJx4a65c_add_9ea2d_12 rfl (lv_at hl 0 rfl) ?_
  have f_lst := g_eq (x := (a_lst, .inr (0, [.int (mc9 + nI 1), .ref a_ear, .int (nI (n))]))) (f0_lst)
  refine va_get (D := D) (ci := 0) (v := .ref a_ear) (C := RJx4a65c) (T := TJx4a65c) (N := 3) hx hb hts in_RJx4a65c hown hE.1 (gv1 hP f_lst) 0 rfl rfl 1 (by decide) (hts (.fieldLink RJx4a65c 9 "java/util/ArrayList" "elementData" "[Ljava/lang/Object;") (by decide +kernel)) (fun _ h9 => h9) rfl dJx4a65c_add_9ea2d_13 ?_
  refine lv_aload_n hx hb dJx4a65c_add_9ea2d_16 rfl (lv_at hl 0 rfl) ?_
  refine va_get (D := D) (ci := 0) (v := .int (nI (n))) (C := RJx4a65c) (T := TJx4a65c) (N := 3) hx hb hts in_RJx4a65c hown hE.1 (gv1 hP f_lst) 0 rfl rfl 2 (by decide) (hts (.fieldLink RJx4a65c 48 "java/util/ArrayList" "size" "I") (by decide +kernel)) (fun _ h9 => h9) rfl dJx4a65c_add_9ea2d_17 ?_
  have f_ear := g_ne (x := (a_lst, .inr (0, [.int (mc9 + nI 1), .ref a_ear, .int (nI (n))]))) (g_kne f0_lst f0_ear (Nat.ne_of_beq_eq_false rfl)) (f0_ear)
  have f_ob := g_ne (x := (a_lst, .inr (0, [.int (mc9 + nI 1), .ref a_ear, .int (nI (n))]))) (g_kne f0_lst f0_ob (Nat.ne_of_beq_eq_false rfl)) (f0_ob)
  refine gcy_V_v (As := [.ref a_ob, .ref a_ear, .int (nI (n))]) (rest := []) (c_add3_con l f_lst f_ear f_ob hn hcap) ⟨hx, hb, hml, hown, hts⟩ (cwV 3 hts gJx4a65c_add_9ea2d_Jx4a65c_add_72be8 rfl rfl rfl (by decide +kernel) ⟨Nat.le_of_ble_eq_true rfl, Nat.le_of_ble_eq_true rfl⟩) hE hY hP hD hS hA _ f_lst rfl rfl rfl rfl hl.1 (Nat.le_of_ble_eq_true rfl) dJx4a65c_add_9ea2d_20 ⟨Nat.le_of_ble_eq_true rfl, Nat.le_of_ble_eq_true rfl⟩ (fun u_20 H locs hP hD hS q_20 => ?_)
  have hP := g_trP (g_sc (g_kne f0_ear f0_lst (Nat.ne_of_beq_eq_false rfl)) g_ss) hP
  have hD := g_trD (g_sc (g_kne f0_ear f0_lst (Nat.ne_of_beq_eq_false rfl)) g_ss) hD
  refine lv_iconst (v := nI 1) hx hb dJx4a65c_add_9ea2d_23 (by decide) ?_
  refine g_zret (r := (gb (true))) hx hb hr hlocks () dJx4a65c_add_9ea2d_24 (gb_narrow _) hS hP hD ?_
  exact rfl

theorem in_c_add_con0_RJx4a65c : ∀ w ∈ wsJx4a65c0, w ∈ wsJx4a65c_add_9ea2d := by decide +kernel
set_option maxHeartbeats 4000000 in
set_option maxRecDepth 100000 in
theorem c_add_con0 (l : Launch) {D : va_G} {y : Nat → Nat} {ws : va_W} {x_ob_0 : Value} {x_ob_1 : Value} {x_ob_2 : Value} {x_ob_3 : Value} {x_ob_4 : Value} {x_ob_5 : Value} {x_ob_6 : Value} {x_ob_7 : Value} {x_ob_8 : Value} {mi : Nat} {p_lst p_emp p_ob a_lst a_emp a_ob : Nat} {qe : Nat → Option Nat} {mc9 : Int32} (f0_lst : ws[p_lst]? = some (a_lst, .inr (0, [.int (mc9), .ref a_emp, .int (nI (0))]))) (f0_emp : ws[p_emp]? = some (a_emp, eQ y 0 qe)) (f0_ob : ws[p_ob]? = some (a_ob, .inr (1, [x_ob_0, x_ob_1, x_ob_2, x_ob_3, x_ob_4, x_ob_5, x_ob_6, x_ob_7, x_ob_8]))) : gYi l yJx4a65c_add_9ea2d wsJx4a65c_add_9ea2d ({ frames := 4, cells := 1, slots := 10, locals := 87 }) D y a_emp mi [.ref a_lst, .ref a_ob] ws (fun r (u : Nat) => r = gb true) (fun (u : Nat) => ((ws ++ [((u, eQ y 10 (va_up (fun _ => none) 0 (some a_ob))) : Nat × va_E)]).set p_lst (a_lst, .inr (0, [.int (mc9 + nI 1), .ref u, .int (nI (1))])))) := by
  refine g_mety_z (cc := cJx4a65c_add_9ea2d) (maxL := 2) (by decide) rfl (Nat.le_of_ble_eq_true rfl) ?_
  intro p e s m below meth c A hx hb hml hr hts hown hnm hlocks hE hP hD hS hA hY ls hl
  have hown : s.vm.findClass RJx4a65c = some m.cls := hown
  have hl : lv_has ls 2 [(0, .ref a_lst), (1, .ref a_ob)] := hl
  have in_RJx4a65c := in_c_add_con0_RJx4a65c
  refine lv_aload_n hx hb dJx4a65c_add_9ea2d_0 rfl (lv_at hl 0 rfl) ?_
  refine lv_dup hx hb dJx4a65c_add_9ea2d_1 rfl ?_
  refine va_get (D := D) (ci := 0) (v := .int (mc9)) (C := RJx4a65c) (T := TJx4a65c) (N := 3) hx hb hts in_RJx4a65c hown hE.1 (gv1 hP f0_lst) 0 rfl rfl 0 (by decide) (hts (.fieldLink RJx4a65c 63 "java/util/ArrayList" "modCount" "I") (by decide +kernel)) (u_same (hts (.sameField "java/util/ArrayList" "java/util/AbstractList" "modCount" "I") (by decide +kernel))) rfl dJx4a65c_add_9ea2d_2 ?_
  refine lv_iconst (v := nI 1) hx hb dJx4a65c_add_9ea2d_5 (by decide) ?_
  refine g_iadd hx hb dJx4a65c_add_9ea2d_6 rfl ?_
  refine gv_set f0_lst rfl (by rfl) (fun k9 h9 kk9 => va_put (D := D) (ci := 0) (v := .int (mc9 + nI 1)) (ty := .int) (C := RJx4a65c) (T := TJx4a65c) (N := 3) hx hb hts in_RJx4a65c tyJx4a65c tyJx4a65c_ok nmJx4a65c hown hE.1 hP hD hS k9 h9 rfl 0 (by decide) (hts (.fieldLink RJx4a65c 63 "java/util/ArrayList" "modCount" "I") (by decide +kernel)) (u_same (hts (.sameField "java/util/ArrayList" "java/util/AbstractList" "modCount" "I") (by decide +kernel))) rfl (by decide +kernel) rfl rfl (Nat.le_of_ble_eq_true rfl) dJx4a65c_add_9ea2d_7 kk9) (fun H locs hP hD hS => ?_)
  refine lv_aload_n hx hb dJx4a65c_add_9ea2d_10 rfl (lv_at hl 0 rfl) ?_
  refine lv_aload_n hx hb dJx4a65c_add_9ea2d_11 rfl (lv_at hl 1 rfl) ?_
  refine lv_aload_n hx hb dJx4a65c_add_9ea2d_12 rfl (lv_at hl 0 rfl) ?_
  have f_lst := g_eq (x := (a_lst, .inr (0, [.int (mc9 + nI 1), .ref a_emp, .int (nI (0))]))) (f0_lst)
  refine va_get (D := D) (ci := 0) (v := .ref a_emp) (C := RJx4a65c) (T := TJx4a65c) (N := 3) hx hb hts in_RJx4a65c hown hE.1 (gv1 hP f_lst) 0 rfl rfl 1 (by decide) (hts (.fieldLink RJx4a65c 9 "java/util/ArrayList" "elementData" "[Ljava/lang/Object;") (by decide +kernel)) (fun _ h9 => h9) rfl dJx4a65c_add_9ea2d_13 ?_
  refine lv_aload_n hx hb dJx4a65c_add_9ea2d_16 rfl (lv_at hl 0 rfl) ?_
  refine va_get (D := D) (ci := 0) (v := .int (nI (0))) (C := RJx4a65c) (T := TJx4a65c) (N := 3) hx hb hts in_RJx4a65c hown hE.1 (gv1 hP f_lst) 0 rfl rfl 2 (by decide) (hts (.fieldLink RJx4a65c 48 "java/util/ArrayList" "size" "I") (by decide +kernel)) (fun _ h9 => h9) rfl dJx4a65c_add_9ea2d_17 ?_
  have f_emp := g_ne (x := (a_lst, .inr (0, [.int (mc9 + nI 1), .ref a_emp, .int (nI (0))]))) (g_kne f0_lst f0_emp (Nat.ne_of_beq_eq_false rfl)) (f0_emp)
  have f_ob := g_ne (x := (a_lst, .inr (0, [.int (mc9 + nI 1), .ref a_emp, .int (nI (0))]))) (g_kne f0_lst f0_ob (Nat.ne_of_beq_eq_false rfl)) (f0_ob)
  refine gcy_V_v (As := [.ref a_ob, .ref a_emp, .int (nI (0))]) (rest := []) (c_add3_con0 l f_lst f_emp f_ob) ⟨hx, hb, hml, hown, hts⟩ (cwV 3 hts gJx4a65c_add_9ea2d_Jx4a65c_add_72be8 rfl rfl rfl (by decide +kernel) ⟨Nat.le_of_ble_eq_true rfl, Nat.le_of_ble_eq_true rfl⟩) hE hY hP hD hS hA _ f_lst rfl rfl rfl rfl hl.1 (Nat.le_of_ble_eq_true rfl) dJx4a65c_add_9ea2d_20 ⟨Nat.le_of_ble_eq_true rfl, Nat.le_of_ble_eq_true rfl⟩ (fun u_20 H locs hP hD hS q_20 => ?_)
  obtain ⟨a_nar, rfl⟩ : ∃ z, z = u_20 := ⟨_, rfl⟩
  have hP : gvP D vwCl (((ws.set p_lst (a_lst, .inr (0, [.int (mc9 + nI 1), .ref a_emp, .int (nI (0))]))) ++ [((a_nar, eQ y 10 (va_up (fun _ => none) 0 (some a_ob))) : Nat × va_E)]).set p_lst (a_lst, .inr (0, [.int (mc9 + nI 1), .ref a_nar, .int (nI (1))]))) H := hP
  have hD : gvD A (((ws.set p_lst (a_lst, .inr (0, [.int (mc9 + nI 1), .ref a_emp, .int (nI (0))]))) ++ [((a_nar, eQ y 10 (va_up (fun _ => none) 0 (some a_ob))) : Nat × va_E)]).set p_lst (a_lst, .inr (0, [.int (mc9 + nI 1), .ref a_nar, .int (nI (1))]))) := hD
  obtain ⟨p_nar, hp_nar⟩ : ∃ z, z = (ws).length := ⟨_, rfl⟩
  obtain ⟨B20_0, hB20_0⟩ : ∃ B, B = (ws ++ [((a_nar, eQ y 10 (va_up (fun _ => none) 0 (some a_ob))) : Nat × va_E)]) := ⟨_, rfl⟩
  have e20_0_nar : B20_0[p_nar]? = some (a_nar, eQ y 10 (va_up (fun _ => none) 0 (some a_ob))) := by rw [hB20_0, hp_nar]; exact g_apN
  have q20_0 : ((ws.set p_lst (a_lst, .inr (0, [.int (mc9 + nI 1), .ref a_emp, .int (nI (0))]))) ++ [((a_nar, eQ y 10 (va_up (fun _ => none) 0 (some a_ob))) : Nat × va_E)]) = (B20_0.set p_lst (a_lst, .inr (0, [.int (mc9 + nI 1), .ref a_emp, .int (nI (0))]))) := by rw [hB20_0]; exact (g_sa (g_lt f0_lst))
  have hP : gvP D vwCl (((ws.set p_lst (a_lst, .inr (0, [.int (mc9 + nI 1), .ref a_emp, .int (nI (0))]))) ++ [((a_nar, eQ y 10 (va_up (fun _ => none) 0 (some a_ob))) : Nat × va_E)]).set p_lst (a_lst, .inr (0, [.int (mc9 + nI 1), .ref a_nar, .int (nI (1))]))) _ := hP
  have hD : gvD A (((ws.set p_lst (a_lst, .inr (0, [.int (mc9 + nI 1), .ref a_emp, .int (nI (0))]))) ++ [((a_nar, eQ y 10 (va_up (fun _ => none) 0 (some a_ob))) : Nat × va_E)]).set p_lst (a_lst, .inr (0, [.int (mc9 + nI 1), .ref a_nar, .int (nI (1))]))) := hD
  have hP : gvP D vwCl ((B20_0.set p_lst (a_lst, .inr (0, [.int (mc9 + nI 1), .ref a_emp, .int (nI (0))]))).set p_lst (a_lst, .inr (0, [.int (mc9 + nI 1), .ref a_nar, .int (nI (1))]))) _ := g_trP (by rw [q20_0]) hP
  have hD : gvD A ((B20_0.set p_lst (a_lst, .inr (0, [.int (mc9 + nI 1), .ref a_emp, .int (nI (0))]))).set p_lst (a_lst, .inr (0, [.int (mc9 + nI 1), .ref a_nar, .int (nI (1))]))) := g_trD (by rw [q20_0]) hD
  have hP := g_trP g_ss hP
  have hD := g_trD g_ss hD
  refine lv_iconst (v := nI 1) hx hb dJx4a65c_add_9ea2d_23 (by decide) ?_
  have eB : B20_0 = (ws ++ [((a_nar, eQ y 10 (va_up (fun _ => none) 0 (some a_ob))) : Nat × va_E)]) := by rw [hB20_0]
  have hP : gvP D vwCl ((ws ++ [((a_nar, eQ y 10 (va_up (fun _ => none) 0 (some a_ob))) : Nat × va_E)]).set p_lst (a_lst, .inr (0, [.int (mc9 + nI 1), .ref a_nar, .int (nI (1))]))) H := by rw [← eB]; exact hP
  have hD : gvD A ((ws ++ [((a_nar, eQ y 10 (va_up (fun _ => none) 0 (some a_ob))) : Nat × va_E)]).set p_lst (a_lst, .inr (0, [.int (mc9 + nI 1), .ref a_nar, .int (nI (1))]))) := by rw [← eB]; exact hD
  refine g_zret (r := (gb (true))) hx hb hr hlocks a_nar dJx4a65c_add_9ea2d_24 (gb_narrow _) hS hP hD ?_
  exact rfl
