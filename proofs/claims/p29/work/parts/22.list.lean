set_option maxHeartbeats 4000000 in
set_option maxRecDepth 100000 in
theorem c_J3_checkIndex_8e157 (l : Launch) {D : va_G} {y : Nat → Nat} {ws : va_W}  {i n : Nat} (hi : i < n) (hn : n < 2 ^ 31) : gMi l yJ3_checkIndex_8e157 wsJ3_checkIndex_8e157 ({ frames := 0, cells := 0, slots := 0, locals := 0 }) D y [.int (nI (i)), .int (nI (n)), .null] ws (fun r (_ : Unit) => r = nI i) (fun (_ : Unit) => ws) := by
  refine g_met_i (cc := cJ3_checkIndex_8e157) (maxL := 3) (by decide) rfl (Nat.le_of_ble_eq_true rfl) ?_
  intro p e s m below meth c A hx hb hml hr hts hown hnm hlocks hE hP hD hS hA ls hl
  have hown : s.vm.findClass RJ3 = some m.cls := hown
  have hl : lv_has ls 3 [(0, .int (nI (i))), (1, .int (nI (n))), (2, .null)] := hl
  refine lv_iload_n hx hb dJ3_checkIndex_8e157_0 rfl (lv_at hl 0 rfl) ?_
  refine g_if_lt (tgt := 9) hx hb (by omega) dJ3_checkIndex_8e157_1 (by decide) ?_
  refine lv_iload_n hx hb dJ3_checkIndex_8e157_4 rfl (lv_at hl 0 rfl) ?_
  refine lv_iload_n hx hb dJ3_checkIndex_8e157_5 rfl (lv_at hl 1 rfl) ?_
  refine g_icmp_lt (tgt := 16) hx hb (by omega) (by omega) dJ3_checkIndex_8e157_6 (by decide) (fun c_6 => ?_) (fun c_6 => absurd c_6 (by omega))
  refine lv_iload_n hx hb dJ3_checkIndex_8e157_16 rfl (lv_at hl 0 rfl) ?_
  refine g_iret hx hb hr hlocks () dJ3_checkIndex_8e157_17 hS hP hD ?_
  exact rfl

set_option maxHeartbeats 4000000 in
set_option maxRecDepth 100000 in
theorem c_J15_checkIndex_7cf53 (l : Launch) {D : va_G} {y : Nat → Nat} {ws : va_W}  {i n : Nat} (hi : i < n) (hn : n < 2 ^ 31) : gMi l yJ15_checkIndex_7cf53 wsJ15_checkIndex_7cf53 ({ frames := 1, cells := 0, slots := 0, locals := 22 }) D y [.int (nI (i)), .int (nI (n))] ws (fun r (_ : Unit) => r = nI i) (fun (_ : Unit) => ws) := by
  refine g_met_i (cc := cJ15_checkIndex_7cf53) (maxL := 2) (by decide) rfl (Nat.le_of_ble_eq_true rfl) ?_
  intro p e s m below meth c A hx hb hml hr hts hown hnm hlocks hE hP hD hS hA ls hl
  have hown : s.vm.findClass RJ15 = some m.cls := hown
  have hl : lv_has ls 2 [(0, .int (nI (i))), (1, .int (nI (n)))] := hl
  refine lv_iload_n hx hb dJ15_checkIndex_7cf53_0 rfl (lv_at hl 0 rfl) ?_
  refine lv_iload_n hx hb dJ15_checkIndex_7cf53_1 rfl (lv_at hl 1 rfl) ?_
  refine lv_null hx hb dJ15_checkIndex_7cf53_2 ?_
  refine gc_S_i (As := [.int (nI (i)), .int (nI (n)), .null]) (rest := []) (c_J3_checkIndex_8e157 l (by omega) (by omega)) ⟨hx, hb, hml, hown, hts⟩ (va_cwS 3 hts gJ15_checkIndex_7cf53_J3_checkIndex_8e157 rfl rfl rfl (by decide +kernel) ⟨Nat.le_of_ble_eq_true rfl, Nat.le_of_ble_eq_true rfl⟩) hE hP hD hS hA rfl rfl hl.1 (Nat.le_of_ble_eq_true rfl) dJ15_checkIndex_7cf53_3 ⟨Nat.le_of_ble_eq_true rfl, Nat.le_of_ble_eq_true rfl⟩ (fun r_3 u_3 H locs hP hD hS q_3 => ?_)
  subst q_3
  refine g_iret hx hb hr hlocks () dJ15_checkIndex_7cf53_6 hS hP hD ?_
  exact rfl

theorem in_c_Jx4a65c_elementData_915e3_RJx4a65c : ∀ w ∈ wsJx4a65c0, w ∈ wsJx4a65c_elementData_915e3 := by decide +kernel
set_option maxHeartbeats 4000000 in
set_option maxRecDepth 100000 in
theorem c_Jx4a65c_elementData_915e3 (l : Launch) {D : va_G} {y : Nat → Nat} {ws : va_W} {x_lst_0 : Value} {p_lst p_ear a_lst a_ear : Nat} {q : Nat → Option Nat} {i n v cap : Nat} (f0_lst : ws[p_lst]? = some (a_lst, .inr (0, [x_lst_0, .ref a_ear, .int (nI (n))]))) (f0_ear : ws[p_ear]? = some (a_ear, eQ y cap q)) (hi : i < cap) (hn : cap < 2 ^ 31) (hv : q i = some v) : gMr l yJx4a65c_elementData_915e3 wsJx4a65c_elementData_915e3 ({ frames := 0, cells := 0, slots := 0, locals := 0 }) D y [.ref a_lst, .int (nI (i))] ws (fun r (_ : Unit) => r = v) (fun (_ : Unit) => ws) := by
  refine g_met_r (cc := cJx4a65c_elementData_915e3) (maxL := 2) (by decide) rfl (Nat.le_of_ble_eq_true rfl) ?_
  intro p e s m below meth c A hx hb hml hr hts hown hnm hlocks hE hP hD hS hA ls hl
  have hown : s.vm.findClass RJx4a65c = some m.cls := hown
  have hl : lv_has ls 2 [(0, .ref a_lst), (1, .int (nI (i)))] := hl
  have in_RJx4a65c := in_c_Jx4a65c_elementData_915e3_RJx4a65c
  refine lv_aload_n hx hb dJx4a65c_elementData_915e3_0 rfl (lv_at hl 0 rfl) ?_
  refine va_get (D := D) (ci := 0) (v := .ref a_ear) (C := RJx4a65c) (T := TJx4a65c) (N := 3) hx hb hts in_RJx4a65c hown hE.1 (gv1 hP f0_lst) 0 rfl rfl 1 (by decide) (hts (.fieldLink RJx4a65c 9 "java/util/ArrayList" "elementData" "[Ljava/lang/Object;") (by decide +kernel)) (fun _ h9 => h9) rfl dJx4a65c_elementData_915e3_1 ?_
  refine lv_iload_n hx hb dJx4a65c_elementData_915e3_4 rfl (lv_at hl 1 rfl) ?_
  refine g_qald hx hb hE hP _ f0_ear (by omega) (by omega) hv dJx4a65c_elementData_915e3_5 ?_
  refine g_rret hx hb hr hlocks (Or.inl ⟨_, rfl⟩) () dJx4a65c_elementData_915e3_6 hS hP hD ?_
  exact rfl

theorem in_c_Jx4a65c_get_915e3_RJx4a65c : ∀ w ∈ wsJx4a65c0, w ∈ wsJx4a65c_get_915e3 := by decide +kernel
set_option maxHeartbeats 4000000 in
set_option maxRecDepth 100000 in
theorem c_Jx4a65c_get_915e3 (l : Launch) {D : va_G} {y : Nat → Nat} {ws : va_W} {x_lst_0 : Value} {p_lst p_ear a_lst a_ear : Nat} {q : Nat → Option Nat} {i n v cap : Nat} (f0_lst : ws[p_lst]? = some (a_lst, .inr (0, [x_lst_0, .ref a_ear, .int (nI (n))]))) (f0_ear : ws[p_ear]? = some (a_ear, eQ y cap q)) (hi : i < n) (hc : n ≤ cap) (hn : cap < 2 ^ 31) (hv : q i = some v) : gMr l yJx4a65c_get_915e3 wsJx4a65c_get_915e3 ({ frames := 2, cells := 0, slots := 0, locals := 43 }) D y [.ref a_lst, .int (nI (i))] ws (fun r (_ : Unit) => r = v) (fun (_ : Unit) => ws) := by
  refine g_met_r (cc := cJx4a65c_get_915e3) (maxL := 2) (by decide) rfl (Nat.le_of_ble_eq_true rfl) ?_
  intro p e s m below meth c A hx hb hml hr hts hown hnm hlocks hE hP hD hS hA ls hl
  have hown : s.vm.findClass RJx4a65c = some m.cls := hown
  have hl : lv_has ls 2 [(0, .ref a_lst), (1, .int (nI (i)))] := hl
  have in_RJx4a65c := in_c_Jx4a65c_get_915e3_RJx4a65c
  refine lv_iload_n hx hb dJx4a65c_get_915e3_0 rfl (lv_at hl 1 rfl) ?_
  refine lv_aload_n hx hb dJx4a65c_get_915e3_1 rfl (lv_at hl 0 rfl) ?_
  refine va_get (D := D) (ci := 0) (v := .int (nI (n))) (C := RJx4a65c) (T := TJx4a65c) (N := 3) hx hb hts in_RJx4a65c hown hE.1 (gv1 hP f0_lst) 0 rfl rfl 2 (by decide) (hts (.fieldLink RJx4a65c 48 "java/util/ArrayList" "size" "I") (by decide +kernel)) (fun _ h9 => h9) rfl dJx4a65c_get_915e3_2 ?_
  refine gc_S_i (As := [.int (nI (i)), .int (nI (n))]) (rest := []) (c_J15_checkIndex_7cf53 l (by omega) (by omega)) ⟨hx, hb, hml, hown, hts⟩ (va_cwS 2 hts gJx4a65c_get_915e3_J15_checkIndex_7cf53 rfl rfl rfl (by decide +kernel) ⟨Nat.le_of_ble_eq_true rfl, Nat.le_of_ble_eq_true rfl⟩) hE hP hD hS hA rfl rfl hl.1 (Nat.le_of_ble_eq_true rfl) dJx4a65c_get_915e3_5 ⟨Nat.le_of_ble_eq_true rfl, Nat.le_of_ble_eq_true rfl⟩ (fun r_5 u_5 H locs hP hD hS q_5 => ?_)
  subst q_5
  refine lv_pop hx hb dJx4a65c_get_915e3_8 rfl ?_
  refine lv_aload_n hx hb dJx4a65c_get_915e3_9 rfl (lv_at hl 0 rfl) ?_
  refine lv_iload_n hx hb dJx4a65c_get_915e3_10 rfl (lv_at hl 1 rfl) ?_
  refine gc_V_r (As := [.int (nI (i))]) (rest := []) (c_Jx4a65c_elementData_915e3 l f0_lst f0_ear (by omega) (by omega) hv) ⟨hx, hb, hml, hown, hts⟩ (cwV 1 hts gJx4a65c_get_915e3_Jx4a65c_elementData_915e3 rfl rfl rfl (by decide +kernel) ⟨Nat.le_of_ble_eq_true rfl, Nat.le_of_ble_eq_true rfl⟩) hE hP hD hS hA _ f0_lst rfl rfl rfl rfl hl.1 (Nat.le_of_ble_eq_true rfl) dJx4a65c_get_915e3_11 ⟨Nat.le_of_ble_eq_true rfl, Nat.le_of_ble_eq_true rfl⟩ (fun r_11 u_11 H locs hP hD hS q_11 => ?_)
  subst q_11
  refine g_rret hx hb hr hlocks (Or.inl ⟨_, rfl⟩) () dJx4a65c_get_915e3_14 hS hP hD ?_
  exact rfl

theorem in_c_Jx4a65c_size_8abf5_RJx4a65c : ∀ w ∈ wsJx4a65c0, w ∈ wsJx4a65c_size_8abf5 := by decide +kernel
set_option maxHeartbeats 4000000 in
set_option maxRecDepth 100000 in
theorem c_Jx4a65c_size_8abf5 (l : Launch) {D : va_G} {y : Nat → Nat} {ws : va_W} {x_lst_0 : Value} {p_lst a_lst a_ear : Nat} {n : Nat} (f0_lst : ws[p_lst]? = some (a_lst, .inr (0, [x_lst_0, .ref a_ear, .int (nI (n))]))) : gMi l yJx4a65c_size_8abf5 wsJx4a65c_size_8abf5 ({ frames := 0, cells := 0, slots := 0, locals := 0 }) D y [.ref a_lst] ws (fun r (_ : Unit) => r = nI n) (fun (_ : Unit) => ws) := by
  refine g_met_i (cc := cJx4a65c_size_8abf5) (maxL := 1) (by decide) rfl (Nat.le_of_ble_eq_true rfl) ?_
  intro p e s m below meth c A hx hb hml hr hts hown hnm hlocks hE hP hD hS hA ls hl
  have hown : s.vm.findClass RJx4a65c = some m.cls := hown
  have hl : lv_has ls 1 [(0, .ref a_lst)] := hl
  have in_RJx4a65c := in_c_Jx4a65c_size_8abf5_RJx4a65c
  refine lv_aload_n hx hb dJx4a65c_size_8abf5_0 rfl (lv_at hl 0 rfl) ?_
  refine va_get (D := D) (ci := 0) (v := .int (nI (n))) (C := RJx4a65c) (T := TJx4a65c) (N := 3) hx hb hts in_RJx4a65c hown hE.1 (gv1 hP f0_lst) 0 rfl rfl 2 (by decide) (hts (.fieldLink RJx4a65c 48 "java/util/ArrayList" "size" "I") (by decide +kernel)) (fun _ h9 => h9) rfl dJx4a65c_size_8abf5_1 ?_
  refine g_iret hx hb hr hlocks () dJx4a65c_size_8abf5_4 hS hP hD ?_
  exact rfl
